def dsX9_needMachines_24 : ByteArray := ⟨#[182, 1, 187, 162, 0, 34, 42, 44, 29, 182, 1, 208, 3, 182, 1, 212, 2, 160, 0, 14]⟩
theorem daX9_needMachines_24 : agB cX9_needMachines dsX9_needMachines_24 24 := agB_of (n := 20) (by decide +kernel)
theorem dbX9_needMachines_24 : (decode dsX9_needMachines_24 0 = .ok (.invokevirtual 443, 3) ∧ okop dsX9_needMachines_24 0 = true) ∧ (decode dsX9_needMachines_24 3 = .ok (.if_icmp .ge 34, 3) ∧ okop dsX9_needMachines_24 3 = true) ∧ (decode dsX9_needMachines_24 6 = .ok (.aload_n 0, 1) ∧ okop dsX9_needMachines_24 6 = true) ∧ (decode dsX9_needMachines_24 7 = .ok (.aload_n 2, 1) ∧ okop dsX9_needMachines_24 7 = true) ∧ (decode dsX9_needMachines_24 8 = .ok (.iload_n 3, 1) ∧ okop dsX9_needMachines_24 8 = true) ∧ (decode dsX9_needMachines_24 9 = .ok (.invokevirtual 464, 3) ∧ okop dsX9_needMachines_24 9 = true) ∧ (decode dsX9_needMachines_24 12 = .ok (.iconst 0, 1) ∧ okop dsX9_needMachines_24 12 = true) ∧ (decode dsX9_needMachines_24 13 = .ok (.invokevirtual 468, 3) ∧ okop dsX9_needMachines_24 13 = true) ∧ (decode dsX9_needMachines_24 16 = .ok (.iconst (-1), 1) ∧ okop dsX9_needMachines_24 16 = true) ∧ (decode dsX9_needMachines_24 17 = .ok (.if_icmp .ne 14, 3) ∧ okop dsX9_needMachines_24 17 = true) := by decide +kernel
theorem dX9_needMachines_24 : decode cX9_needMachines 24 = .ok (.invokevirtual 443, 3) := dgq (p := 0) daX9_needMachines_24 dbX9_needMachines_24.1
theorem dX9_needMachines_27 : decode cX9_needMachines 27 = .ok (.if_icmp .ge 34, 3) := dgq (p := 3) daX9_needMachines_24 dbX9_needMachines_24.2.1
theorem dX9_needMachines_30 : decode cX9_needMachines 30 = .ok (.aload_n 0, 1) := dgq (p := 6) daX9_needMachines_24 dbX9_needMachines_24.2.2.1
theorem dX9_needMachines_31 : decode cX9_needMachines 31 = .ok (.aload_n 2, 1) := dgq (p := 7) daX9_needMachines_24 dbX9_needMachines_24.2.2.2.1
theorem dX9_needMachines_32 : decode cX9_needMachines 32 = .ok (.iload_n 3, 1) := dgq (p := 8) daX9_needMachines_24 dbX9_needMachines_24.2.2.2.2.1
theorem dX9_needMachines_33 : decode cX9_needMachines 33 = .ok (.invokevirtual 464, 3) := dgq (p := 9) daX9_needMachines_24 dbX9_needMachines_24.2.2.2.2.2.1
theorem dX9_needMachines_36 : decode cX9_needMachines 36 = .ok (.iconst 0, 1) := dgq (p := 12) daX9_needMachines_24 dbX9_needMachines_24.2.2.2.2.2.2.1
theorem dX9_needMachines_37 : decode cX9_needMachines 37 = .ok (.invokevirtual 468, 3) := dgq (p := 13) daX9_needMachines_24 dbX9_needMachines_24.2.2.2.2.2.2.2.1
theorem dX9_needMachines_40 : decode cX9_needMachines 40 = .ok (.iconst (-1), 1) := dgq (p := 16) daX9_needMachines_24 dbX9_needMachines_24.2.2.2.2.2.2.2.2.1
theorem dX9_needMachines_41 : decode cX9_needMachines 41 = .ok (.if_icmp .ne 14, 3) := dgq (p := 17) daX9_needMachines_24 dbX9_needMachines_24.2.2.2.2.2.2.2.2.2
def dsX9_needMachines_44 : ByteArray := ⟨#[187, 0, 150, 89, 19, 1, 216, 183, 0, 154, 191, 132, 3, 1, 167, 255, 220, 132, 1, 1, 167, 255, 194, 177]⟩
theorem daX9_needMachines_44 : agB cX9_needMachines dsX9_needMachines_44 44 := agB_of (n := 24) (by decide +kernel)
theorem dbX9_needMachines_44 : (decode dsX9_needMachines_44 0 = .ok (.new 150, 3) ∧ okop dsX9_needMachines_44 0 = true) ∧ (decode dsX9_needMachines_44 3 = .ok (.dup, 1) ∧ okop dsX9_needMachines_44 3 = true) ∧ (decode dsX9_needMachines_44 4 = .ok (.ldc_w 472, 3) ∧ okop dsX9_needMachines_44 4 = true) ∧ (decode dsX9_needMachines_44 7 = .ok (.invokespecial 154, 3) ∧ okop dsX9_needMachines_44 7 = true) ∧ (decode dsX9_needMachines_44 10 = .ok (.athrow, 1) ∧ okop dsX9_needMachines_44 10 = true) ∧ (decode dsX9_needMachines_44 11 = .ok (.iinc 3 1, 3) ∧ okop dsX9_needMachines_44 11 = true) ∧ (decode dsX9_needMachines_44 14 = .ok (.goto (-36), 3) ∧ okop dsX9_needMachines_44 14 = true) ∧ (decode dsX9_needMachines_44 17 = .ok (.iinc 1 1, 3) ∧ okop dsX9_needMachines_44 17 = true) ∧ (decode dsX9_needMachines_44 20 = .ok (.goto (-62), 3) ∧ okop dsX9_needMachines_44 20 = true) ∧ (decode dsX9_needMachines_44 23 = .ok (.return_, 1) ∧ okop dsX9_needMachines_44 23 = true) := by decide +kernel
theorem dX9_needMachines_44 : decode cX9_needMachines 44 = .ok (.new 150, 3) := dgq (p := 0) daX9_needMachines_44 dbX9_needMachines_44.1
theorem dX9_needMachines_47 : decode cX9_needMachines 47 = .ok (.dup, 1) := dgq (p := 3) daX9_needMachines_44 dbX9_needMachines_44.2.1
theorem dX9_needMachines_48 : decode cX9_needMachines 48 = .ok (.ldc_w 472, 3) := dgq (p := 4) daX9_needMachines_44 dbX9_needMachines_44.2.2.1
theorem dX9_needMachines_51 : decode cX9_needMachines 51 = .ok (.invokespecial 154, 3) := dgq (p := 7) daX9_needMachines_44 dbX9_needMachines_44.2.2.2.1
theorem dX9_needMachines_54 : decode cX9_needMachines 54 = .ok (.athrow, 1) := dgq (p := 10) daX9_needMachines_44 dbX9_needMachines_44.2.2.2.2.1
theorem dX9_needMachines_55 : decode cX9_needMachines 55 = .ok (.iinc 3 1, 3) := dgq (p := 11) daX9_needMachines_44 dbX9_needMachines_44.2.2.2.2.2.1
theorem dX9_needMachines_58 : decode cX9_needMachines 58 = .ok (.goto (-36), 3) := dgq (p := 14) daX9_needMachines_44 dbX9_needMachines_44.2.2.2.2.2.2.1
theorem dX9_needMachines_61 : decode cX9_needMachines 61 = .ok (.iinc 1 1, 3) := dgq (p := 17) daX9_needMachines_44 dbX9_needMachines_44.2.2.2.2.2.2.2.1
theorem dX9_needMachines_64 : decode cX9_needMachines 64 = .ok (.goto (-62), 3) := dgq (p := 20) daX9_needMachines_44 dbX9_needMachines_44.2.2.2.2.2.2.2.2.1
theorem dX9_needMachines_67 : decode cX9_needMachines 67 = .ok (.return_, 1) := dgq (p := 23) daX9_needMachines_44 dbX9_needMachines_44.2.2.2.2.2.2.2.2.2
set_option maxRecDepth 20000 in
theorem ggX9_passRoute_J4_length_8abf5 : GoodIn wsX9_passRoute wsJ4_length_8abf5 := goodIn_ca (goodIn_q _ [8, 9, 10, 11, 12, 13, 14, 15] rfl (by decide +kernel)) (goodIn_sub (fun _ h => (List.mem_cons_of_mem _ (List.mem_append_right _ h))) tg_wsJ40)
set_option maxRecDepth 20000 in
theorem gX9_passRoute_J4_length_8abf5 : GoodIn wsX9_passRoute (wsV RX9 443 RJ4 yJ4_length_8abf5 wsJ4_length_8abf5) := goodIn_app (goodIn_q _ [4, 5, 6, 7] rfl (by decide +kernel)) ggX9_passRoute_J4_length_8abf5
set_option maxRecDepth 20000 in
theorem ggX9_passRoute_J4_charAt_5068e : GoodIn wsX9_passRoute wsJ4_charAt_5068e := goodIn_ca (goodIn_q _ [19, 20, 21, 11, 22, 13, 23, 24, 25, 15, 26, 27, 28, 29, 30, 31, 32, 33, 34, 35, 36, 37, 38, 39, 40, 41, 42, 43, 44, 45, 46, 47, 48] rfl (by decide +kernel)) (goodIn_sub (fun _ h => (List.mem_cons_of_mem _ (List.mem_append_right _ h))) tg_wsJ40)
set_option maxRecDepth 20000 in
theorem gX9_passRoute_J4_charAt_5068e : GoodIn wsX9_passRoute (wsV RX9 464 RJ4 yJ4_charAt_5068e wsJ4_charAt_5068e) := goodIn_app (goodIn_q _ [16, 17, 18, 7] rfl (by decide +kernel)) ggX9_passRoute_J4_charAt_5068e
set_option maxRecDepth 20000 in
theorem ggX9_passRoute_X9_soonest : GoodIn wsX9_passRoute wsX9_soonest := goodIn_ca (goodIn_ca (goodIn_q _ [53, 54, 1, 2, 55, 56, 57, 58, 59, 60, 61, 62, 63, 28, 64, 65] rfl (by decide +kernel)) (goodIn_sub (fun _ h => (List.mem_cons_of_mem _ (List.mem_append_left _ (List.mem_append_left _ (List.mem_append_right _ h))))) tg_wsX90)) (goodIn_sub (fun _ h => (List.mem_cons_of_mem _ (List.mem_append_left _ (List.mem_append_right _ h)))) tg_wsX70)
set_option maxRecDepth 20000 in
theorem gX9_passRoute_X9_soonest : GoodIn wsX9_passRoute (wsV RX9 468 RX9 yX9_soonest wsX9_soonest) := goodIn_app (goodIn_q _ [49, 50, 51, 52] rfl (by decide +kernel)) ggX9_passRoute_X9_soonest
set_option maxRecDepth 20000 in
theorem ggX9_passRoute_X7_endFrom : GoodIn wsX9_passRoute wsX7_endFrom := goodIn_ca (goodIn_q _ [60, 61, 62, 63, 28, 64, 65] rfl (by decide +kernel)) (goodIn_sub (fun _ h => (List.mem_cons_of_mem _ (List.mem_append_left _ (List.mem_append_right _ h)))) tg_wsX70)
set_option maxRecDepth 20000 in
theorem gX9_passRoute_X7_endFrom : GoodIn wsX9_passRoute (wsV RX9 474 RX7 yX7_endFrom wsX7_endFrom) := goodIn_app (goodIn_q _ [56, 57, 58, 59] rfl (by decide +kernel)) ggX9_passRoute_X7_endFrom
def dsX9_passRoute_0 : ByteArray := ⟨#[3, 61, 3, 62, 29, 43, 182, 1, 187, 162, 0, 58, 42, 43]⟩
theorem daX9_passRoute_0 : agB cX9_passRoute dsX9_passRoute_0 0 := agB_of (n := 14) (by decide +kernel)
theorem dbX9_passRoute_0 : (decode dsX9_passRoute_0 0 = .ok (.iconst 0, 1) ∧ okop dsX9_passRoute_0 0 = true) ∧ (decode dsX9_passRoute_0 1 = .ok (.istore_n 2, 1) ∧ okop dsX9_passRoute_0 1 = true) ∧ (decode dsX9_passRoute_0 2 = .ok (.iconst 0, 1) ∧ okop dsX9_passRoute_0 2 = true) ∧ (decode dsX9_passRoute_0 3 = .ok (.istore_n 3, 1) ∧ okop dsX9_passRoute_0 3 = true) ∧ (decode dsX9_passRoute_0 4 = .ok (.iload_n 3, 1) ∧ okop dsX9_passRoute_0 4 = true) ∧ (decode dsX9_passRoute_0 5 = .ok (.aload_n 1, 1) ∧ okop dsX9_passRoute_0 5 = true) ∧ (decode dsX9_passRoute_0 6 = .ok (.invokevirtual 443, 3) ∧ okop dsX9_passRoute_0 6 = true) ∧ (decode dsX9_passRoute_0 9 = .ok (.if_icmp .ge 58, 3) ∧ okop dsX9_passRoute_0 9 = true) ∧ (decode dsX9_passRoute_0 12 = .ok (.aload_n 0, 1) ∧ okop dsX9_passRoute_0 12 = true) ∧ (decode dsX9_passRoute_0 13 = .ok (.aload_n 1, 1) ∧ okop dsX9_passRoute_0 13 = true) := by decide +kernel
theorem dX9_passRoute_0 : decode cX9_passRoute 0 = .ok (.iconst 0, 1) := dgq (p := 0) daX9_passRoute_0 dbX9_passRoute_0.1
theorem dX9_passRoute_1 : decode cX9_passRoute 1 = .ok (.istore_n 2, 1) := dgq (p := 1) daX9_passRoute_0 dbX9_passRoute_0.2.1
theorem dX9_passRoute_2 : decode cX9_passRoute 2 = .ok (.iconst 0, 1) := dgq (p := 2) daX9_passRoute_0 dbX9_passRoute_0.2.2.1
theorem dX9_passRoute_3 : decode cX9_passRoute 3 = .ok (.istore_n 3, 1) := dgq (p := 3) daX9_passRoute_0 dbX9_passRoute_0.2.2.2.1
theorem dX9_passRoute_4 : decode cX9_passRoute 4 = .ok (.iload_n 3, 1) := dgq (p := 4) daX9_passRoute_0 dbX9_passRoute_0.2.2.2.2.1
theorem dX9_passRoute_5 : decode cX9_passRoute 5 = .ok (.aload_n 1, 1) := dgq (p := 5) daX9_passRoute_0 dbX9_passRoute_0.2.2.2.2.2.1
theorem dX9_passRoute_6 : decode cX9_passRoute 6 = .ok (.invokevirtual 443, 3) := dgq (p := 6) daX9_passRoute_0 dbX9_passRoute_0.2.2.2.2.2.2.1
theorem dX9_passRoute_9 : decode cX9_passRoute 9 = .ok (.if_icmp .ge 58, 3) := dgq (p := 9) daX9_passRoute_0 dbX9_passRoute_0.2.2.2.2.2.2.2.1
theorem dX9_passRoute_12 : decode cX9_passRoute 12 = .ok (.aload_n 0, 1) := dgq (p := 12) daX9_passRoute_0 dbX9_passRoute_0.2.2.2.2.2.2.2.2.1
theorem dX9_passRoute_13 : decode cX9_passRoute 13 = .ok (.aload_n 1, 1) := dgq (p := 13) daX9_passRoute_0 dbX9_passRoute_0.2.2.2.2.2.2.2.2.2
def dsX9_passRoute_14 : ByteArray := ⟨#[29, 182, 1, 208, 28, 182, 1, 212, 54, 4, 21, 4, 155, 0, 35, 21, 4, 42, 180, 1, 170]⟩
theorem daX9_passRoute_14 : agB cX9_passRoute dsX9_passRoute_14 14 := agB_of (n := 21) (by decide +kernel)
theorem dbX9_passRoute_14 : (decode dsX9_passRoute_14 0 = .ok (.iload_n 3, 1) ∧ okop dsX9_passRoute_14 0 = true) ∧ (decode dsX9_passRoute_14 1 = .ok (.invokevirtual 464, 3) ∧ okop dsX9_passRoute_14 1 = true) ∧ (decode dsX9_passRoute_14 4 = .ok (.iload_n 2, 1) ∧ okop dsX9_passRoute_14 4 = true) ∧ (decode dsX9_passRoute_14 5 = .ok (.invokevirtual 468, 3) ∧ okop dsX9_passRoute_14 5 = true) ∧ (decode dsX9_passRoute_14 8 = .ok (.istore 4, 2) ∧ okop dsX9_passRoute_14 8 = true) ∧ (decode dsX9_passRoute_14 10 = .ok (.iload 4, 2) ∧ okop dsX9_passRoute_14 10 = true) ∧ (decode dsX9_passRoute_14 12 = .ok (.ifCond .lt 35, 3) ∧ okop dsX9_passRoute_14 12 = true) ∧ (decode dsX9_passRoute_14 15 = .ok (.iload 4, 2) ∧ okop dsX9_passRoute_14 15 = true) ∧ (decode dsX9_passRoute_14 17 = .ok (.aload_n 0, 1) ∧ okop dsX9_passRoute_14 17 = true) ∧ (decode dsX9_passRoute_14 18 = .ok (.getfield 426, 3) ∧ okop dsX9_passRoute_14 18 = true) := by decide +kernel
theorem dX9_passRoute_14 : decode cX9_passRoute 14 = .ok (.iload_n 3, 1) := dgq (p := 0) daX9_passRoute_14 dbX9_passRoute_14.1
theorem dX9_passRoute_15 : decode cX9_passRoute 15 = .ok (.invokevirtual 464, 3) := dgq (p := 1) daX9_passRoute_14 dbX9_passRoute_14.2.1
theorem dX9_passRoute_18 : decode cX9_passRoute 18 = .ok (.iload_n 2, 1) := dgq (p := 4) daX9_passRoute_14 dbX9_passRoute_14.2.2.1
theorem dX9_passRoute_19 : decode cX9_passRoute 19 = .ok (.invokevirtual 468, 3) := dgq (p := 5) daX9_passRoute_14 dbX9_passRoute_14.2.2.2.1
theorem dX9_passRoute_22 : decode cX9_passRoute 22 = .ok (.istore 4, 2) := dgq (p := 8) daX9_passRoute_14 dbX9_passRoute_14.2.2.2.2.1
theorem dX9_passRoute_24 : decode cX9_passRoute 24 = .ok (.iload 4, 2) := dgq (p := 10) daX9_passRoute_14 dbX9_passRoute_14.2.2.2.2.2.1
theorem dX9_passRoute_26 : decode cX9_passRoute 26 = .ok (.ifCond .lt 35, 3) := dgq (p := 12) daX9_passRoute_14 dbX9_passRoute_14.2.2.2.2.2.2.1
theorem dX9_passRoute_29 : decode cX9_passRoute 29 = .ok (.iload 4, 2) := dgq (p := 15) daX9_passRoute_14 dbX9_passRoute_14.2.2.2.2.2.2.2.1
theorem dX9_passRoute_31 : decode cX9_passRoute 31 = .ok (.aload_n 0, 1) := dgq (p := 17) daX9_passRoute_14 dbX9_passRoute_14.2.2.2.2.2.2.2.2.1
theorem dX9_passRoute_32 : decode cX9_passRoute 32 = .ok (.getfield 426, 3) := dgq (p := 18) daX9_passRoute_14 dbX9_passRoute_14.2.2.2.2.2.2.2.2.2
def dsX9_passRoute_35 : ByteArray := ⟨#[162, 0, 26, 42, 180, 0, 23, 21, 4, 50, 28, 182, 1, 218, 61, 42, 180, 0, 23]⟩
theorem daX9_passRoute_35 : agB cX9_passRoute dsX9_passRoute_35 35 := agB_of (n := 19) (by decide +kernel)
theorem dbX9_passRoute_35 : (decode dsX9_passRoute_35 0 = .ok (.if_icmp .ge 26, 3) ∧ okop dsX9_passRoute_35 0 = true) ∧ (decode dsX9_passRoute_35 3 = .ok (.aload_n 0, 1) ∧ okop dsX9_passRoute_35 3 = true) ∧ (decode dsX9_passRoute_35 4 = .ok (.getfield 23, 3) ∧ okop dsX9_passRoute_35 4 = true) ∧ (decode dsX9_passRoute_35 7 = .ok (.iload 4, 2) ∧ okop dsX9_passRoute_35 7 = true) ∧ (decode dsX9_passRoute_35 9 = .ok (.aaload, 1) ∧ okop dsX9_passRoute_35 9 = true) ∧ (decode dsX9_passRoute_35 10 = .ok (.iload_n 2, 1) ∧ okop dsX9_passRoute_35 10 = true) ∧ (decode dsX9_passRoute_35 11 = .ok (.invokevirtual 474, 3) ∧ okop dsX9_passRoute_35 11 = true) ∧ (decode dsX9_passRoute_35 14 = .ok (.istore_n 2, 1) ∧ okop dsX9_passRoute_35 14 = true) ∧ (decode dsX9_passRoute_35 15 = .ok (.aload_n 0, 1) ∧ okop dsX9_passRoute_35 15 = true) ∧ (decode dsX9_passRoute_35 16 = .ok (.getfield 23, 3) ∧ okop dsX9_passRoute_35 16 = true) := by decide +kernel
theorem dX9_passRoute_35 : decode cX9_passRoute 35 = .ok (.if_icmp .ge 26, 3) := dgq (p := 0) daX9_passRoute_35 dbX9_passRoute_35.1
theorem dX9_passRoute_38 : decode cX9_passRoute 38 = .ok (.aload_n 0, 1) := dgq (p := 3) daX9_passRoute_35 dbX9_passRoute_35.2.1
theorem dX9_passRoute_39 : decode cX9_passRoute 39 = .ok (.getfield 23, 3) := dgq (p := 4) daX9_passRoute_35 dbX9_passRoute_35.2.2.1
theorem dX9_passRoute_42 : decode cX9_passRoute 42 = .ok (.iload 4, 2) := dgq (p := 7) daX9_passRoute_35 dbX9_passRoute_35.2.2.2.1
theorem dX9_passRoute_44 : decode cX9_passRoute 44 = .ok (.aaload, 1) := dgq (p := 9) daX9_passRoute_35 dbX9_passRoute_35.2.2.2.2.1
theorem dX9_passRoute_45 : decode cX9_passRoute 45 = .ok (.iload_n 2, 1) := dgq (p := 10) daX9_passRoute_35 dbX9_passRoute_35.2.2.2.2.2.1
theorem dX9_passRoute_46 : decode cX9_passRoute 46 = .ok (.invokevirtual 474, 3) := dgq (p := 11) daX9_passRoute_35 dbX9_passRoute_35.2.2.2.2.2.2.1
theorem dX9_passRoute_49 : decode cX9_passRoute 49 = .ok (.istore_n 2, 1) := dgq (p := 14) daX9_passRoute_35 dbX9_passRoute_35.2.2.2.2.2.2.2.1
theorem dX9_passRoute_50 : decode cX9_passRoute 50 = .ok (.aload_n 0, 1) := dgq (p := 15) daX9_passRoute_35 dbX9_passRoute_35.2.2.2.2.2.2.2.2.1
theorem dX9_passRoute_51 : decode cX9_passRoute 51 = .ok (.getfield 23, 3) := dgq (p := 16) daX9_passRoute_35 dbX9_passRoute_35.2.2.2.2.2.2.2.2.2
def dsX9_passRoute_54 : ByteArray := ⟨#[21, 4, 50, 28, 181, 1, 201, 132, 3, 1, 167, 255, 196, 28, 172]⟩
theorem daX9_passRoute_54 : agB cX9_passRoute dsX9_passRoute_54 54 := agB_of (n := 15) (by decide +kernel)
theorem dbX9_passRoute_54 : (decode dsX9_passRoute_54 0 = .ok (.iload 4, 2) ∧ okop dsX9_passRoute_54 0 = true) ∧ (decode dsX9_passRoute_54 2 = .ok (.aaload, 1) ∧ okop dsX9_passRoute_54 2 = true) ∧ (decode dsX9_passRoute_54 3 = .ok (.iload_n 2, 1) ∧ okop dsX9_passRoute_54 3 = true) ∧ (decode dsX9_passRoute_54 4 = .ok (.putfield 457, 3) ∧ okop dsX9_passRoute_54 4 = true) ∧ (decode dsX9_passRoute_54 7 = .ok (.iinc 3 1, 3) ∧ okop dsX9_passRoute_54 7 = true) ∧ (decode dsX9_passRoute_54 10 = .ok (.goto (-60), 3) ∧ okop dsX9_passRoute_54 10 = true) ∧ (decode dsX9_passRoute_54 13 = .ok (.iload_n 2, 1) ∧ okop dsX9_passRoute_54 13 = true) ∧ (decode dsX9_passRoute_54 14 = .ok (.ireturn, 1) ∧ okop dsX9_passRoute_54 14 = true) := by decide +kernel
theorem dX9_passRoute_54 : decode cX9_passRoute 54 = .ok (.iload 4, 2) := dgq (p := 0) daX9_passRoute_54 dbX9_passRoute_54.1
theorem dX9_passRoute_56 : decode cX9_passRoute 56 = .ok (.aaload, 1) := dgq (p := 2) daX9_passRoute_54 dbX9_passRoute_54.2.1
theorem dX9_passRoute_57 : decode cX9_passRoute 57 = .ok (.iload_n 2, 1) := dgq (p := 3) daX9_passRoute_54 dbX9_passRoute_54.2.2.1
theorem dX9_passRoute_58 : decode cX9_passRoute 58 = .ok (.putfield 457, 3) := dgq (p := 4) daX9_passRoute_54 dbX9_passRoute_54.2.2.2.1
theorem dX9_passRoute_61 : decode cX9_passRoute 61 = .ok (.iinc 3 1, 3) := dgq (p := 7) daX9_passRoute_54 dbX9_passRoute_54.2.2.2.2.1
theorem dX9_passRoute_64 : decode cX9_passRoute 64 = .ok (.goto (-60), 3) := dgq (p := 10) daX9_passRoute_54 dbX9_passRoute_54.2.2.2.2.2.1
theorem dX9_passRoute_67 : decode cX9_passRoute 67 = .ok (.iload_n 2, 1) := dgq (p := 13) daX9_passRoute_54 dbX9_passRoute_54.2.2.2.2.2.2.1
theorem dX9_passRoute_68 : decode cX9_passRoute 68 = .ok (.ireturn, 1) := dgq (p := 14) daX9_passRoute_54 dbX9_passRoute_54.2.2.2.2.2.2.2
set_option maxRecDepth 20000 in
theorem ggX9_soonest_X7_endFrom : GoodIn wsX9_soonest wsX7_endFrom := goodIn_ca (goodIn_q _ [9, 10, 11, 12, 13, 14, 15] rfl (by decide +kernel)) (goodIn_sub (fun _ h => (List.mem_cons_of_mem _ (List.mem_append_right _ h))) tg_wsX70)
set_option maxRecDepth 20000 in
theorem gX9_soonest_X7_endFrom : GoodIn wsX9_soonest (wsV RX9 474 RX7 yX7_endFrom wsX7_endFrom) := goodIn_app (goodIn_q _ [5, 6, 7, 8] rfl (by decide +kernel)) ggX9_soonest_X7_endFrom
def dsX9_soonest_0 : ByteArray := ⟨#[2, 62, 19, 1, 48, 54, 4, 3, 54, 5, 21, 5, 42, 180, 1, 170, 162, 0, 55]⟩
theorem daX9_soonest_0 : agB cX9_soonest dsX9_soonest_0 0 := agB_of (n := 19) (by decide +kernel)
theorem dbX9_soonest_0 : (decode dsX9_soonest_0 0 = .ok (.iconst (-1), 1) ∧ okop dsX9_soonest_0 0 = true) ∧ (decode dsX9_soonest_0 1 = .ok (.istore_n 3, 1) ∧ okop dsX9_soonest_0 1 = true) ∧ (decode dsX9_soonest_0 2 = .ok (.ldc_w 304, 3) ∧ okop dsX9_soonest_0 2 = true) ∧ (decode dsX9_soonest_0 5 = .ok (.istore 4, 2) ∧ okop dsX9_soonest_0 5 = true) ∧ (decode dsX9_soonest_0 7 = .ok (.iconst 0, 1) ∧ okop dsX9_soonest_0 7 = true) ∧ (decode dsX9_soonest_0 8 = .ok (.istore 5, 2) ∧ okop dsX9_soonest_0 8 = true) ∧ (decode dsX9_soonest_0 10 = .ok (.iload 5, 2) ∧ okop dsX9_soonest_0 10 = true) ∧ (decode dsX9_soonest_0 12 = .ok (.aload_n 0, 1) ∧ okop dsX9_soonest_0 12 = true) ∧ (decode dsX9_soonest_0 13 = .ok (.getfield 426, 3) ∧ okop dsX9_soonest_0 13 = true) ∧ (decode dsX9_soonest_0 16 = .ok (.if_icmp .ge 55, 3) ∧ okop dsX9_soonest_0 16 = true) := by decide +kernel
theorem dX9_soonest_0 : decode cX9_soonest 0 = .ok (.iconst (-1), 1) := dgq (p := 0) daX9_soonest_0 dbX9_soonest_0.1
theorem dX9_soonest_1 : decode cX9_soonest 1 = .ok (.istore_n 3, 1) := dgq (p := 1) daX9_soonest_0 dbX9_soonest_0.2.1
theorem dX9_soonest_2 : decode cX9_soonest 2 = .ok (.ldc_w 304, 3) := dgq (p := 2) daX9_soonest_0 dbX9_soonest_0.2.2.1
theorem dX9_soonest_5 : decode cX9_soonest 5 = .ok (.istore 4, 2) := dgq (p := 5) daX9_soonest_0 dbX9_soonest_0.2.2.2.1
theorem dX9_soonest_7 : decode cX9_soonest 7 = .ok (.iconst 0, 1) := dgq (p := 7) daX9_soonest_0 dbX9_soonest_0.2.2.2.2.1
theorem dX9_soonest_8 : decode cX9_soonest 8 = .ok (.istore 5, 2) := dgq (p := 8) daX9_soonest_0 dbX9_soonest_0.2.2.2.2.2.1
theorem dX9_soonest_10 : decode cX9_soonest 10 = .ok (.iload 5, 2) := dgq (p := 10) daX9_soonest_0 dbX9_soonest_0.2.2.2.2.2.2.1
theorem dX9_soonest_12 : decode cX9_soonest 12 = .ok (.aload_n 0, 1) := dgq (p := 12) daX9_soonest_0 dbX9_soonest_0.2.2.2.2.2.2.2.1
theorem dX9_soonest_13 : decode cX9_soonest 13 = .ok (.getfield 426, 3) := dgq (p := 13) daX9_soonest_0 dbX9_soonest_0.2.2.2.2.2.2.2.2.1
theorem dX9_soonest_16 : decode cX9_soonest 16 = .ok (.if_icmp .ge 55, 3) := dgq (p := 16) daX9_soonest_0 dbX9_soonest_0.2.2.2.2.2.2.2.2.2
def dsX9_soonest_19 : ByteArray := ⟨#[42, 180, 0, 23, 21, 5, 50, 180, 1, 221, 27, 160, 0, 35, 42, 180, 0, 23, 21, 5]⟩
theorem daX9_soonest_19 : agB cX9_soonest dsX9_soonest_19 19 := agB_of (n := 20) (by decide +kernel)
theorem dbX9_soonest_19 : (decode dsX9_soonest_19 0 = .ok (.aload_n 0, 1) ∧ okop dsX9_soonest_19 0 = true) ∧ (decode dsX9_soonest_19 1 = .ok (.getfield 23, 3) ∧ okop dsX9_soonest_19 1 = true) ∧ (decode dsX9_soonest_19 4 = .ok (.iload 5, 2) ∧ okop dsX9_soonest_19 4 = true) ∧ (decode dsX9_soonest_19 6 = .ok (.aaload, 1) ∧ okop dsX9_soonest_19 6 = true) ∧ (decode dsX9_soonest_19 7 = .ok (.getfield 477, 3) ∧ okop dsX9_soonest_19 7 = true) ∧ (decode dsX9_soonest_19 10 = .ok (.iload_n 1, 1) ∧ okop dsX9_soonest_19 10 = true) ∧ (decode dsX9_soonest_19 11 = .ok (.if_icmp .ne 35, 3) ∧ okop dsX9_soonest_19 11 = true) ∧ (decode dsX9_soonest_19 14 = .ok (.aload_n 0, 1) ∧ okop dsX9_soonest_19 14 = true) ∧ (decode dsX9_soonest_19 15 = .ok (.getfield 23, 3) ∧ okop dsX9_soonest_19 15 = true) ∧ (decode dsX9_soonest_19 18 = .ok (.iload 5, 2) ∧ okop dsX9_soonest_19 18 = true) := by decide +kernel
theorem dX9_soonest_19 : decode cX9_soonest 19 = .ok (.aload_n 0, 1) := dgq (p := 0) daX9_soonest_19 dbX9_soonest_19.1
theorem dX9_soonest_20 : decode cX9_soonest 20 = .ok (.getfield 23, 3) := dgq (p := 1) daX9_soonest_19 dbX9_soonest_19.2.1
theorem dX9_soonest_23 : decode cX9_soonest 23 = .ok (.iload 5, 2) := dgq (p := 4) daX9_soonest_19 dbX9_soonest_19.2.2.1
theorem dX9_soonest_25 : decode cX9_soonest 25 = .ok (.aaload, 1) := dgq (p := 6) daX9_soonest_19 dbX9_soonest_19.2.2.2.1
theorem dX9_soonest_26 : decode cX9_soonest 26 = .ok (.getfield 477, 3) := dgq (p := 7) daX9_soonest_19 dbX9_soonest_19.2.2.2.2.1
theorem dX9_soonest_29 : decode cX9_soonest 29 = .ok (.iload_n 1, 1) := dgq (p := 10) daX9_soonest_19 dbX9_soonest_19.2.2.2.2.2.1
theorem dX9_soonest_30 : decode cX9_soonest 30 = .ok (.if_icmp .ne 35, 3) := dgq (p := 11) daX9_soonest_19 dbX9_soonest_19.2.2.2.2.2.2.1
theorem dX9_soonest_33 : decode cX9_soonest 33 = .ok (.aload_n 0, 1) := dgq (p := 14) daX9_soonest_19 dbX9_soonest_19.2.2.2.2.2.2.2.1
theorem dX9_soonest_34 : decode cX9_soonest 34 = .ok (.getfield 23, 3) := dgq (p := 15) daX9_soonest_19 dbX9_soonest_19.2.2.2.2.2.2.2.2.1
theorem dX9_soonest_37 : decode cX9_soonest 37 = .ok (.iload 5, 2) := dgq (p := 18) daX9_soonest_19 dbX9_soonest_19.2.2.2.2.2.2.2.2.2
def dsX9_soonest_39 : ByteArray := ⟨#[50, 28, 182, 1, 218, 21, 4, 162, 0, 19, 21, 5, 62, 42, 180, 0, 23, 21, 5]⟩
theorem daX9_soonest_39 : agB cX9_soonest dsX9_soonest_39 39 := agB_of (n := 19) (by decide +kernel)
theorem dbX9_soonest_39 : (decode dsX9_soonest_39 0 = .ok (.aaload, 1) ∧ okop dsX9_soonest_39 0 = true) ∧ (decode dsX9_soonest_39 1 = .ok (.iload_n 2, 1) ∧ okop dsX9_soonest_39 1 = true) ∧ (decode dsX9_soonest_39 2 = .ok (.invokevirtual 474, 3) ∧ okop dsX9_soonest_39 2 = true) ∧ (decode dsX9_soonest_39 5 = .ok (.iload 4, 2) ∧ okop dsX9_soonest_39 5 = true) ∧ (decode dsX9_soonest_39 7 = .ok (.if_icmp .ge 19, 3) ∧ okop dsX9_soonest_39 7 = true) ∧ (decode dsX9_soonest_39 10 = .ok (.iload 5, 2) ∧ okop dsX9_soonest_39 10 = true) ∧ (decode dsX9_soonest_39 12 = .ok (.istore_n 3, 1) ∧ okop dsX9_soonest_39 12 = true) ∧ (decode dsX9_soonest_39 13 = .ok (.aload_n 0, 1) ∧ okop dsX9_soonest_39 13 = true) ∧ (decode dsX9_soonest_39 14 = .ok (.getfield 23, 3) ∧ okop dsX9_soonest_39 14 = true) ∧ (decode dsX9_soonest_39 17 = .ok (.iload 5, 2) ∧ okop dsX9_soonest_39 17 = true) := by decide +kernel
theorem dX9_soonest_39 : decode cX9_soonest 39 = .ok (.aaload, 1) := dgq (p := 0) daX9_soonest_39 dbX9_soonest_39.1
theorem dX9_soonest_40 : decode cX9_soonest 40 = .ok (.iload_n 2, 1) := dgq (p := 1) daX9_soonest_39 dbX9_soonest_39.2.1
theorem dX9_soonest_41 : decode cX9_soonest 41 = .ok (.invokevirtual 474, 3) := dgq (p := 2) daX9_soonest_39 dbX9_soonest_39.2.2.1
theorem dX9_soonest_44 : decode cX9_soonest 44 = .ok (.iload 4, 2) := dgq (p := 5) daX9_soonest_39 dbX9_soonest_39.2.2.2.1
theorem dX9_soonest_46 : decode cX9_soonest 46 = .ok (.if_icmp .ge 19, 3) := dgq (p := 7) daX9_soonest_39 dbX9_soonest_39.2.2.2.2.1
theorem dX9_soonest_49 : decode cX9_soonest 49 = .ok (.iload 5, 2) := dgq (p := 10) daX9_soonest_39 dbX9_soonest_39.2.2.2.2.2.1
theorem dX9_soonest_51 : decode cX9_soonest 51 = .ok (.istore_n 3, 1) := dgq (p := 12) daX9_soonest_39 dbX9_soonest_39.2.2.2.2.2.2.1
theorem dX9_soonest_52 : decode cX9_soonest 52 = .ok (.aload_n 0, 1) := dgq (p := 13) daX9_soonest_39 dbX9_soonest_39.2.2.2.2.2.2.2.1
theorem dX9_soonest_53 : decode cX9_soonest 53 = .ok (.getfield 23, 3) := dgq (p := 14) daX9_soonest_39 dbX9_soonest_39.2.2.2.2.2.2.2.2.1
theorem dX9_soonest_56 : decode cX9_soonest 56 = .ok (.iload 5, 2) := dgq (p := 17) daX9_soonest_39 dbX9_soonest_39.2.2.2.2.2.2.2.2.2
def dsX9_soonest_58 : ByteArray := ⟨#[50, 28, 182, 1, 218, 54, 4, 132, 5, 1, 167, 255, 198, 29, 172]⟩
theorem daX9_soonest_58 : agB cX9_soonest dsX9_soonest_58 58 := agB_of (n := 15) (by decide +kernel)
theorem dbX9_soonest_58 : (decode dsX9_soonest_58 0 = .ok (.aaload, 1) ∧ okop dsX9_soonest_58 0 = true) ∧ (decode dsX9_soonest_58 1 = .ok (.iload_n 2, 1) ∧ okop dsX9_soonest_58 1 = true) ∧ (decode dsX9_soonest_58 2 = .ok (.invokevirtual 474, 3) ∧ okop dsX9_soonest_58 2 = true) ∧ (decode dsX9_soonest_58 5 = .ok (.istore 4, 2) ∧ okop dsX9_soonest_58 5 = true) ∧ (decode dsX9_soonest_58 7 = .ok (.iinc 5 1, 3) ∧ okop dsX9_soonest_58 7 = true) ∧ (decode dsX9_soonest_58 10 = .ok (.goto (-58), 3) ∧ okop dsX9_soonest_58 10 = true) ∧ (decode dsX9_soonest_58 13 = .ok (.iload_n 3, 1) ∧ okop dsX9_soonest_58 13 = true) ∧ (decode dsX9_soonest_58 14 = .ok (.ireturn, 1) ∧ okop dsX9_soonest_58 14 = true) := by decide +kernel
theorem dX9_soonest_58 : decode cX9_soonest 58 = .ok (.aaload, 1) := dgq (p := 0) daX9_soonest_58 dbX9_soonest_58.1
theorem dX9_soonest_59 : decode cX9_soonest 59 = .ok (.iload_n 2, 1) := dgq (p := 1) daX9_soonest_58 dbX9_soonest_58.2.1
theorem dX9_soonest_60 : decode cX9_soonest 60 = .ok (.invokevirtual 474, 3) := dgq (p := 2) daX9_soonest_58 dbX9_soonest_58.2.2.1
theorem dX9_soonest_63 : decode cX9_soonest 63 = .ok (.istore 4, 2) := dgq (p := 5) daX9_soonest_58 dbX9_soonest_58.2.2.2.1
theorem dX9_soonest_65 : decode cX9_soonest 65 = .ok (.iinc 5 1, 3) := dgq (p := 7) daX9_soonest_58 dbX9_soonest_58.2.2.2.2.1
theorem dX9_soonest_68 : decode cX9_soonest 68 = .ok (.goto (-58), 3) := dgq (p := 10) daX9_soonest_58 dbX9_soonest_58.2.2.2.2.2.1
theorem dX9_soonest_71 : decode cX9_soonest 71 = .ok (.iload_n 3, 1) := dgq (p := 13) daX9_soonest_58 dbX9_soonest_58.2.2.2.2.2.2.1
theorem dX9_soonest_72 : decode cX9_soonest 72 = .ok (.ireturn, 1) := dgq (p := 14) daX9_soonest_58 dbX9_soonest_58.2.2.2.2.2.2.2
set_option maxRecDepth 20000 in
theorem ggX9_oldModule_X9_tellOld : GoodIn wsX9_oldModule wsX9_tellOld := goodIn_ca (goodIn_ca (goodIn_ca (goodIn_q _ [4, 5, 6, 7, 8, 9, 10, 11, 12, 3, 13, 14, 15, 16, 17, 18, 19, 20, 21, 22, 23, 24, 25, 26, 27, 28, 29, 30, 31, 32, 33, 34, 35, 36, 37, 38, 39, 40, 41, 42, 43, 44, 45, 46] rfl (by decide +kernel)) (goodIn_sub (fun _ h => (List.mem_cons_of_mem _ (List.mem_append_left _ (List.mem_append_left _ (List.mem_append_right _ h))))) tg_wsX50)) (goodIn_sub (fun _ h => List.mem_cons_of_mem _ (List.mem_append_left _ (List.mem_append_right _ h))) (by decide +kernel))) (goodIn_sub (fun _ h => List.mem_cons_of_mem _ (List.mem_append_right _ h)) (by decide +kernel))
set_option maxRecDepth 20000 in
theorem gX9_oldModule_X9_tellOld : GoodIn wsX9_oldModule (va_wsS RX9 481 yX9_tellOld wsX9_tellOld) := goodIn_app (goodIn_q _ [1, 2, 3] rfl (by decide +kernel)) ggX9_oldModule_X9_tellOld
def dsX9_oldModule_0 : ByteArray := ⟨#[27, 28, 29, 184, 1, 225, 180, 1, 229, 172]⟩
theorem daX9_oldModule_0 : agB cX9_oldModule dsX9_oldModule_0 0 := agB_of (n := 10) (by decide +kernel)
theorem dbX9_oldModule_0 : (decode dsX9_oldModule_0 0 = .ok (.iload_n 1, 1) ∧ okop dsX9_oldModule_0 0 = true) ∧ (decode dsX9_oldModule_0 1 = .ok (.iload_n 2, 1) ∧ okop dsX9_oldModule_0 1 = true) ∧ (decode dsX9_oldModule_0 2 = .ok (.iload_n 3, 1) ∧ okop dsX9_oldModule_0 2 = true) ∧ (decode dsX9_oldModule_0 3 = .ok (.invokestatic 481, 3) ∧ okop dsX9_oldModule_0 3 = true) ∧ (decode dsX9_oldModule_0 6 = .ok (.getfield 485, 3) ∧ okop dsX9_oldModule_0 6 = true) ∧ (decode dsX9_oldModule_0 9 = .ok (.ireturn, 1) ∧ okop dsX9_oldModule_0 9 = true) := by decide +kernel
theorem dX9_oldModule_0 : decode cX9_oldModule 0 = .ok (.iload_n 1, 1) := dgq (p := 0) daX9_oldModule_0 dbX9_oldModule_0.1
theorem dX9_oldModule_1 : decode cX9_oldModule 1 = .ok (.iload_n 2, 1) := dgq (p := 1) daX9_oldModule_0 dbX9_oldModule_0.2.1
theorem dX9_oldModule_2 : decode cX9_oldModule 2 = .ok (.iload_n 3, 1) := dgq (p := 2) daX9_oldModule_0 dbX9_oldModule_0.2.2.1
theorem dX9_oldModule_3 : decode cX9_oldModule 3 = .ok (.invokestatic 481, 3) := dgq (p := 3) daX9_oldModule_0 dbX9_oldModule_0.2.2.2.1
theorem dX9_oldModule_6 : decode cX9_oldModule 6 = .ok (.getfield 485, 3) := dgq (p := 6) daX9_oldModule_0 dbX9_oldModule_0.2.2.2.2.1
theorem dX9_oldModule_9 : decode cX9_oldModule 9 = .ok (.ireturn, 1) := dgq (p := 9) daX9_oldModule_0 dbX9_oldModule_0.2.2.2.2.2
set_option maxRecDepth 20000 in
theorem ggX9_oldShift_X9_tellOld : GoodIn wsX9_oldShift wsX9_tellOld := goodIn_ca (goodIn_ca (goodIn_ca (goodIn_q _ [4, 5, 6, 7, 8, 9, 10, 11, 12, 3, 13, 14, 15, 16, 17, 18, 19, 20, 21, 22, 23, 24, 25, 26, 27, 28, 29, 30, 31, 32, 33, 34, 35, 36, 37, 38, 39, 40, 41, 42, 43, 44, 45, 46] rfl (by decide +kernel)) (goodIn_sub (fun _ h => (List.mem_cons_of_mem _ (List.mem_append_left _ (List.mem_append_left _ (List.mem_append_right _ h))))) tg_wsX50)) (goodIn_sub (fun _ h => List.mem_cons_of_mem _ (List.mem_append_left _ (List.mem_append_right _ h))) (by decide +kernel))) (goodIn_sub (fun _ h => List.mem_cons_of_mem _ (List.mem_append_right _ h)) (by decide +kernel))
set_option maxRecDepth 20000 in
theorem gX9_oldShift_X9_tellOld : GoodIn wsX9_oldShift (va_wsS RX9 481 yX9_tellOld wsX9_tellOld) := goodIn_app (goodIn_q _ [1, 2, 3] rfl (by decide +kernel)) ggX9_oldShift_X9_tellOld
def dsX9_oldShift_0 : ByteArray := ⟨#[27, 28, 29, 184, 1, 225, 180, 1, 232, 172]⟩
theorem daX9_oldShift_0 : agB cX9_oldShift dsX9_oldShift_0 0 := agB_of (n := 10) (by decide +kernel)
theorem dbX9_oldShift_0 : (decode dsX9_oldShift_0 0 = .ok (.iload_n 1, 1) ∧ okop dsX9_oldShift_0 0 = true) ∧ (decode dsX9_oldShift_0 1 = .ok (.iload_n 2, 1) ∧ okop dsX9_oldShift_0 1 = true) ∧ (decode dsX9_oldShift_0 2 = .ok (.iload_n 3, 1) ∧ okop dsX9_oldShift_0 2 = true) ∧ (decode dsX9_oldShift_0 3 = .ok (.invokestatic 481, 3) ∧ okop dsX9_oldShift_0 3 = true) ∧ (decode dsX9_oldShift_0 6 = .ok (.getfield 488, 3) ∧ okop dsX9_oldShift_0 6 = true) ∧ (decode dsX9_oldShift_0 9 = .ok (.ireturn, 1) ∧ okop dsX9_oldShift_0 9 = true) := by decide +kernel
theorem dX9_oldShift_0 : decode cX9_oldShift 0 = .ok (.iload_n 1, 1) := dgq (p := 0) daX9_oldShift_0 dbX9_oldShift_0.1
theorem dX9_oldShift_1 : decode cX9_oldShift 1 = .ok (.iload_n 2, 1) := dgq (p := 1) daX9_oldShift_0 dbX9_oldShift_0.2.1
theorem dX9_oldShift_2 : decode cX9_oldShift 2 = .ok (.iload_n 3, 1) := dgq (p := 2) daX9_oldShift_0 dbX9_oldShift_0.2.2.1
theorem dX9_oldShift_3 : decode cX9_oldShift 3 = .ok (.invokestatic 481, 3) := dgq (p := 3) daX9_oldShift_0 dbX9_oldShift_0.2.2.2.1
theorem dX9_oldShift_6 : decode cX9_oldShift 6 = .ok (.getfield 488, 3) := dgq (p := 6) daX9_oldShift_0 dbX9_oldShift_0.2.2.2.2.1
theorem dX9_oldShift_9 : decode cX9_oldShift 9 = .ok (.ireturn, 1) := dgq (p := 9) daX9_oldShift_0 dbX9_oldShift_0.2.2.2.2.2
set_option maxRecDepth 20000 in
theorem ggX9_tellOld_X9_needTeeth : GoodIn wsX9_tellOld wsX9_needTeeth := goodIn_ca (goodIn_q _ [10, 11, 12, 9, 13, 14, 15] rfl (by decide +kernel)) (goodIn_sub (fun _ h => List.mem_cons_of_mem _ (List.mem_append_right _ h)) (by decide +kernel))
set_option maxRecDepth 20000 in
theorem gX9_tellOld_X9_needTeeth : GoodIn wsX9_tellOld (va_wsS RX9 55 yX9_needTeeth wsX9_needTeeth) := goodIn_app (goodIn_q _ [7, 8, 9] rfl (by decide +kernel)) ggX9_tellOld_X9_needTeeth
set_option maxRecDepth 20000 in
theorem ggX9_tellOld_X9_needRange : GoodIn wsX9_tellOld wsX9_needRange := goodIn_ca (goodIn_q _ [13, 14, 15] rfl (by decide +kernel)) (goodIn_sub (fun _ h => List.mem_cons_of_mem _ (List.mem_append_right _ h)) (by decide +kernel))
set_option maxRecDepth 20000 in
theorem gX9_tellOld_X9_needRange : GoodIn wsX9_tellOld (va_wsS RX9 59 yX9_needRange wsX9_needRange) := goodIn_app (goodIn_q _ [11, 12, 9] rfl (by decide +kernel)) ggX9_tellOld_X9_needRange
set_option maxRecDepth 20000 in
theorem ggX9_tellOld_X5_init : GoodIn wsX9_tellOld wsX5_init := goodIn_ca (goodIn_q _ [18, 19, 20, 21, 22, 23, 24, 25, 26] rfl (by decide +kernel)) (goodIn_sub (fun _ h => (List.mem_cons_of_mem _ (List.mem_append_left _ (List.mem_append_left _ (List.mem_append_right _ h))))) tg_wsX50)
set_option maxRecDepth 20000 in
theorem gX9_tellOld_X5_init : GoodIn wsX9_tellOld (wsX5_init) := ggX9_tellOld_X5_init
set_option maxRecDepth 20000 in
theorem ggX9_tellOld_X5_search : GoodIn wsX9_tellOld wsX5_search := goodIn_ca (goodIn_q _ [30, 31, 32, 33, 6, 34, 23, 22, 35, 36, 37, 38, 24, 25, 26, 39, 40, 41, 9, 42] rfl (by decide +kernel)) (goodIn_sub (fun _ h => (List.mem_cons_of_mem _ (List.mem_append_left _ (List.mem_append_left _ (List.mem_append_right _ h))))) tg_wsX50)
set_option maxRecDepth 20000 in
theorem gX9_tellOld_X5_search : GoodIn wsX9_tellOld (wsV RX9 492 RX5 yX5_search wsX5_search) := goodIn_app (goodIn_q _ [27, 28, 29, 6] rfl (by decide +kernel)) ggX9_tellOld_X5_search
set_option maxRecDepth 20000 in
theorem ggX9_tellOld_X5_isFound : GoodIn wsX9_tellOld wsX5_isFound := goodIn_ca (goodIn_q _ [34, 23, 22] rfl (by decide +kernel)) (goodIn_sub (fun _ h => (List.mem_cons_of_mem _ (List.mem_append_left _ (List.mem_append_left _ (List.mem_append_right _ h))))) tg_wsX50)
set_option maxRecDepth 20000 in
theorem gX9_tellOld_X5_isFound : GoodIn wsX9_tellOld (wsV RX9 494 RX5 yX5_isFound wsX5_isFound) := goodIn_app (goodIn_q _ [43, 32, 33, 6] rfl (by decide +kernel)) ggX9_tellOld_X5_isFound
def dsX9_tellOld_0 : ByteArray := ⟨#[26, 184, 0, 55, 27, 17, 3, 232, 19, 1, 233, 184, 0, 59, 28, 3, 17, 39, 15, 184, 0, 59]⟩
theorem daX9_tellOld_0 : agB cX9_tellOld dsX9_tellOld_0 0 := agB_of (n := 22) (by decide +kernel)
theorem dbX9_tellOld_0 : (decode dsX9_tellOld_0 0 = .ok (.iload_n 0, 1) ∧ okop dsX9_tellOld_0 0 = true) ∧ (decode dsX9_tellOld_0 1 = .ok (.invokestatic 55, 3) ∧ okop dsX9_tellOld_0 1 = true) ∧ (decode dsX9_tellOld_0 4 = .ok (.iload_n 1, 1) ∧ okop dsX9_tellOld_0 4 = true) ∧ (decode dsX9_tellOld_0 5 = .ok (.sipush 1000, 3) ∧ okop dsX9_tellOld_0 5 = true) ∧ (decode dsX9_tellOld_0 8 = .ok (.ldc_w 489, 3) ∧ okop dsX9_tellOld_0 8 = true) ∧ (decode dsX9_tellOld_0 11 = .ok (.invokestatic 59, 3) ∧ okop dsX9_tellOld_0 11 = true) ∧ (decode dsX9_tellOld_0 14 = .ok (.iload_n 2, 1) ∧ okop dsX9_tellOld_0 14 = true) ∧ (decode dsX9_tellOld_0 15 = .ok (.iconst 0, 1) ∧ okop dsX9_tellOld_0 15 = true) ∧ (decode dsX9_tellOld_0 16 = .ok (.sipush 9999, 3) ∧ okop dsX9_tellOld_0 16 = true) ∧ (decode dsX9_tellOld_0 19 = .ok (.invokestatic 59, 3) ∧ okop dsX9_tellOld_0 19 = true) := by decide +kernel
theorem dX9_tellOld_0 : decode cX9_tellOld 0 = .ok (.iload_n 0, 1) := dgq (p := 0) daX9_tellOld_0 dbX9_tellOld_0.1
theorem dX9_tellOld_1 : decode cX9_tellOld 1 = .ok (.invokestatic 55, 3) := dgq (p := 1) daX9_tellOld_0 dbX9_tellOld_0.2.1
theorem dX9_tellOld_4 : decode cX9_tellOld 4 = .ok (.iload_n 1, 1) := dgq (p := 4) daX9_tellOld_0 dbX9_tellOld_0.2.2.1
theorem dX9_tellOld_5 : decode cX9_tellOld 5 = .ok (.sipush 1000, 3) := dgq (p := 5) daX9_tellOld_0 dbX9_tellOld_0.2.2.2.1
theorem dX9_tellOld_8 : decode cX9_tellOld 8 = .ok (.ldc_w 489, 3) := dgq (p := 8) daX9_tellOld_0 dbX9_tellOld_0.2.2.2.2.1
theorem dX9_tellOld_11 : decode cX9_tellOld 11 = .ok (.invokestatic 59, 3) := dgq (p := 11) daX9_tellOld_0 dbX9_tellOld_0.2.2.2.2.2.1
theorem dX9_tellOld_14 : decode cX9_tellOld 14 = .ok (.iload_n 2, 1) := dgq (p := 14) daX9_tellOld_0 dbX9_tellOld_0.2.2.2.2.2.2.1
theorem dX9_tellOld_15 : decode cX9_tellOld 15 = .ok (.iconst 0, 1) := dgq (p := 15) daX9_tellOld_0 dbX9_tellOld_0.2.2.2.2.2.2.2.1
theorem dX9_tellOld_16 : decode cX9_tellOld 16 = .ok (.sipush 9999, 3) := dgq (p := 16) daX9_tellOld_0 dbX9_tellOld_0.2.2.2.2.2.2.2.2.1
theorem dX9_tellOld_19 : decode cX9_tellOld 19 = .ok (.invokestatic 59, 3) := dgq (p := 19) daX9_tellOld_0 dbX9_tellOld_0.2.2.2.2.2.2.2.2.2
def dsX9_tellOld_22 : ByteArray := ⟨#[187, 1, 230, 89, 26, 27, 28, 183, 1, 234, 78, 45, 182, 1, 236, 45]⟩
theorem daX9_tellOld_22 : agB cX9_tellOld dsX9_tellOld_22 22 := agB_of (n := 16) (by decide +kernel)
theorem dbX9_tellOld_22 : (decode dsX9_tellOld_22 0 = .ok (.new 486, 3) ∧ okop dsX9_tellOld_22 0 = true) ∧ (decode dsX9_tellOld_22 3 = .ok (.dup, 1) ∧ okop dsX9_tellOld_22 3 = true) ∧ (decode dsX9_tellOld_22 4 = .ok (.iload_n 0, 1) ∧ okop dsX9_tellOld_22 4 = true) ∧ (decode dsX9_tellOld_22 5 = .ok (.iload_n 1, 1) ∧ okop dsX9_tellOld_22 5 = true) ∧ (decode dsX9_tellOld_22 6 = .ok (.iload_n 2, 1) ∧ okop dsX9_tellOld_22 6 = true) ∧ (decode dsX9_tellOld_22 7 = .ok (.invokespecial 490, 3) ∧ okop dsX9_tellOld_22 7 = true) ∧ (decode dsX9_tellOld_22 10 = .ok (.astore_n 3, 1) ∧ okop dsX9_tellOld_22 10 = true) ∧ (decode dsX9_tellOld_22 11 = .ok (.aload_n 3, 1) ∧ okop dsX9_tellOld_22 11 = true) ∧ (decode dsX9_tellOld_22 12 = .ok (.invokevirtual 492, 3) ∧ okop dsX9_tellOld_22 12 = true) ∧ (decode dsX9_tellOld_22 15 = .ok (.aload_n 3, 1) ∧ okop dsX9_tellOld_22 15 = true) := by decide +kernel
theorem dX9_tellOld_22 : decode cX9_tellOld 22 = .ok (.new 486, 3) := dgq (p := 0) daX9_tellOld_22 dbX9_tellOld_22.1
theorem dX9_tellOld_25 : decode cX9_tellOld 25 = .ok (.dup, 1) := dgq (p := 3) daX9_tellOld_22 dbX9_tellOld_22.2.1
theorem dX9_tellOld_26 : decode cX9_tellOld 26 = .ok (.iload_n 0, 1) := dgq (p := 4) daX9_tellOld_22 dbX9_tellOld_22.2.2.1
theorem dX9_tellOld_27 : decode cX9_tellOld 27 = .ok (.iload_n 1, 1) := dgq (p := 5) daX9_tellOld_22 dbX9_tellOld_22.2.2.2.1
theorem dX9_tellOld_28 : decode cX9_tellOld 28 = .ok (.iload_n 2, 1) := dgq (p := 6) daX9_tellOld_22 dbX9_tellOld_22.2.2.2.2.1
theorem dX9_tellOld_29 : decode cX9_tellOld 29 = .ok (.invokespecial 490, 3) := dgq (p := 7) daX9_tellOld_22 dbX9_tellOld_22.2.2.2.2.2.1
theorem dX9_tellOld_32 : decode cX9_tellOld 32 = .ok (.astore_n 3, 1) := dgq (p := 10) daX9_tellOld_22 dbX9_tellOld_22.2.2.2.2.2.2.1
theorem dX9_tellOld_33 : decode cX9_tellOld 33 = .ok (.aload_n 3, 1) := dgq (p := 11) daX9_tellOld_22 dbX9_tellOld_22.2.2.2.2.2.2.2.1
theorem dX9_tellOld_34 : decode cX9_tellOld 34 = .ok (.invokevirtual 492, 3) := dgq (p := 12) daX9_tellOld_22 dbX9_tellOld_22.2.2.2.2.2.2.2.2.1
theorem dX9_tellOld_37 : decode cX9_tellOld 37 = .ok (.aload_n 3, 1) := dgq (p := 15) daX9_tellOld_22 dbX9_tellOld_22.2.2.2.2.2.2.2.2.2
def dsX9_tellOld_38 : ByteArray := ⟨#[182, 1, 238, 154, 0, 14, 187, 0, 150, 89, 19, 1, 241, 183, 0, 154, 191, 45, 176]⟩
theorem daX9_tellOld_38 : agB cX9_tellOld dsX9_tellOld_38 38 := agB_of (n := 19) (by decide +kernel)
theorem dbX9_tellOld_38 : (decode dsX9_tellOld_38 0 = .ok (.invokevirtual 494, 3) ∧ okop dsX9_tellOld_38 0 = true) ∧ (decode dsX9_tellOld_38 3 = .ok (.ifCond .ne 14, 3) ∧ okop dsX9_tellOld_38 3 = true) ∧ (decode dsX9_tellOld_38 6 = .ok (.new 150, 3) ∧ okop dsX9_tellOld_38 6 = true) ∧ (decode dsX9_tellOld_38 9 = .ok (.dup, 1) ∧ okop dsX9_tellOld_38 9 = true) ∧ (decode dsX9_tellOld_38 10 = .ok (.ldc_w 497, 3) ∧ okop dsX9_tellOld_38 10 = true) ∧ (decode dsX9_tellOld_38 13 = .ok (.invokespecial 154, 3) ∧ okop dsX9_tellOld_38 13 = true) ∧ (decode dsX9_tellOld_38 16 = .ok (.athrow, 1) ∧ okop dsX9_tellOld_38 16 = true) ∧ (decode dsX9_tellOld_38 17 = .ok (.aload_n 3, 1) ∧ okop dsX9_tellOld_38 17 = true) ∧ (decode dsX9_tellOld_38 18 = .ok (.areturn, 1) ∧ okop dsX9_tellOld_38 18 = true) := by decide +kernel
theorem dX9_tellOld_38 : decode cX9_tellOld 38 = .ok (.invokevirtual 494, 3) := dgq (p := 0) daX9_tellOld_38 dbX9_tellOld_38.1
theorem dX9_tellOld_41 : decode cX9_tellOld 41 = .ok (.ifCond .ne 14, 3) := dgq (p := 3) daX9_tellOld_38 dbX9_tellOld_38.2.1
theorem dX9_tellOld_44 : decode cX9_tellOld 44 = .ok (.new 150, 3) := dgq (p := 6) daX9_tellOld_38 dbX9_tellOld_38.2.2.1
theorem dX9_tellOld_47 : decode cX9_tellOld 47 = .ok (.dup, 1) := dgq (p := 9) daX9_tellOld_38 dbX9_tellOld_38.2.2.2.1
theorem dX9_tellOld_48 : decode cX9_tellOld 48 = .ok (.ldc_w 497, 3) := dgq (p := 10) daX9_tellOld_38 dbX9_tellOld_38.2.2.2.2.1
theorem dX9_tellOld_51 : decode cX9_tellOld 51 = .ok (.invokespecial 154, 3) := dgq (p := 13) daX9_tellOld_38 dbX9_tellOld_38.2.2.2.2.2.1
theorem dX9_tellOld_54 : decode cX9_tellOld 54 = .ok (.athrow, 1) := dgq (p := 16) daX9_tellOld_38 dbX9_tellOld_38.2.2.2.2.2.2.1
theorem dX9_tellOld_55 : decode cX9_tellOld 55 = .ok (.aload_n 3, 1) := dgq (p := 17) daX9_tellOld_38 dbX9_tellOld_38.2.2.2.2.2.2.2.1
theorem dX9_tellOld_56 : decode cX9_tellOld 56 = .ok (.areturn, 1) := dgq (p := 18) daX9_tellOld_38 dbX9_tellOld_38.2.2.2.2.2.2.2.2
def dsX9_allDamage_0 : ByteArray := ⟨#[9, 64, 3, 62, 29, 42, 180, 0, 64, 162, 0, 21, 31, 42]⟩
theorem daX9_allDamage_0 : agB cX9_allDamage dsX9_allDamage_0 0 := agB_of (n := 14) (by decide +kernel)
theorem dbX9_allDamage_0 : (decode dsX9_allDamage_0 0 = .ok (.lconst 0, 1) ∧ okop dsX9_allDamage_0 0 = true) ∧ (decode dsX9_allDamage_0 1 = .ok (.lstore_n 1, 1) ∧ okop dsX9_allDamage_0 1 = true) ∧ (decode dsX9_allDamage_0 2 = .ok (.iconst 0, 1) ∧ okop dsX9_allDamage_0 2 = true) ∧ (decode dsX9_allDamage_0 3 = .ok (.istore_n 3, 1) ∧ okop dsX9_allDamage_0 3 = true) ∧ (decode dsX9_allDamage_0 4 = .ok (.iload_n 3, 1) ∧ okop dsX9_allDamage_0 4 = true) ∧ (decode dsX9_allDamage_0 5 = .ok (.aload_n 0, 1) ∧ okop dsX9_allDamage_0 5 = true) ∧ (decode dsX9_allDamage_0 6 = .ok (.getfield 64, 3) ∧ okop dsX9_allDamage_0 6 = true) ∧ (decode dsX9_allDamage_0 9 = .ok (.if_icmp .ge 21, 3) ∧ okop dsX9_allDamage_0 9 = true) ∧ (decode dsX9_allDamage_0 12 = .ok (.lload_n 1, 1) ∧ okop dsX9_allDamage_0 12 = true) ∧ (decode dsX9_allDamage_0 13 = .ok (.aload_n 0, 1) ∧ okop dsX9_allDamage_0 13 = true) := by decide +kernel
theorem dX9_allDamage_0 : decode cX9_allDamage 0 = .ok (.lconst 0, 1) := dgq (p := 0) daX9_allDamage_0 dbX9_allDamage_0.1
theorem dX9_allDamage_1 : decode cX9_allDamage 1 = .ok (.lstore_n 1, 1) := dgq (p := 1) daX9_allDamage_0 dbX9_allDamage_0.2.1
theorem dX9_allDamage_2 : decode cX9_allDamage 2 = .ok (.iconst 0, 1) := dgq (p := 2) daX9_allDamage_0 dbX9_allDamage_0.2.2.1
theorem dX9_allDamage_3 : decode cX9_allDamage 3 = .ok (.istore_n 3, 1) := dgq (p := 3) daX9_allDamage_0 dbX9_allDamage_0.2.2.2.1
theorem dX9_allDamage_4 : decode cX9_allDamage 4 = .ok (.iload_n 3, 1) := dgq (p := 4) daX9_allDamage_0 dbX9_allDamage_0.2.2.2.2.1
theorem dX9_allDamage_5 : decode cX9_allDamage 5 = .ok (.aload_n 0, 1) := dgq (p := 5) daX9_allDamage_0 dbX9_allDamage_0.2.2.2.2.2.1
theorem dX9_allDamage_6 : decode cX9_allDamage 6 = .ok (.getfield 64, 3) := dgq (p := 6) daX9_allDamage_0 dbX9_allDamage_0.2.2.2.2.2.2.1
theorem dX9_allDamage_9 : decode cX9_allDamage 9 = .ok (.if_icmp .ge 21, 3) := dgq (p := 9) daX9_allDamage_0 dbX9_allDamage_0.2.2.2.2.2.2.2.1
theorem dX9_allDamage_12 : decode cX9_allDamage 12 = .ok (.lload_n 1, 1) := dgq (p := 12) daX9_allDamage_0 dbX9_allDamage_0.2.2.2.2.2.2.2.2.1
theorem dX9_allDamage_13 : decode cX9_allDamage 13 = .ok (.aload_n 0, 1) := dgq (p := 13) daX9_allDamage_0 dbX9_allDamage_0.2.2.2.2.2.2.2.2.2
def dsX9_allDamage_14 : ByteArray := ⟨#[180, 0, 11, 29, 50, 180, 1, 131, 97, 64, 132, 3, 1, 167, 255, 233, 31, 173]⟩
theorem daX9_allDamage_14 : agB cX9_allDamage dsX9_allDamage_14 14 := agB_of (n := 18) (by decide +kernel)
theorem dbX9_allDamage_14 : (decode dsX9_allDamage_14 0 = .ok (.getfield 11, 3) ∧ okop dsX9_allDamage_14 0 = true) ∧ (decode dsX9_allDamage_14 3 = .ok (.iload_n 3, 1) ∧ okop dsX9_allDamage_14 3 = true) ∧ (decode dsX9_allDamage_14 4 = .ok (.aaload, 1) ∧ okop dsX9_allDamage_14 4 = true) ∧ (decode dsX9_allDamage_14 5 = .ok (.getfield 387, 3) ∧ okop dsX9_allDamage_14 5 = true) ∧ (decode dsX9_allDamage_14 8 = .ok (.ladd, 1) ∧ okop dsX9_allDamage_14 8 = true) ∧ (decode dsX9_allDamage_14 9 = .ok (.lstore_n 1, 1) ∧ okop dsX9_allDamage_14 9 = true) ∧ (decode dsX9_allDamage_14 10 = .ok (.iinc 3 1, 3) ∧ okop dsX9_allDamage_14 10 = true) ∧ (decode dsX9_allDamage_14 13 = .ok (.goto (-23), 3) ∧ okop dsX9_allDamage_14 13 = true) ∧ (decode dsX9_allDamage_14 16 = .ok (.lload_n 1, 1) ∧ okop dsX9_allDamage_14 16 = true) ∧ (decode dsX9_allDamage_14 17 = .ok (.lreturn, 1) ∧ okop dsX9_allDamage_14 17 = true) := by decide +kernel
theorem dX9_allDamage_14 : decode cX9_allDamage 14 = .ok (.getfield 11, 3) := dgq (p := 0) daX9_allDamage_14 dbX9_allDamage_14.1
theorem dX9_allDamage_17 : decode cX9_allDamage 17 = .ok (.iload_n 3, 1) := dgq (p := 3) daX9_allDamage_14 dbX9_allDamage_14.2.1
theorem dX9_allDamage_18 : decode cX9_allDamage 18 = .ok (.aaload, 1) := dgq (p := 4) daX9_allDamage_14 dbX9_allDamage_14.2.2.1
theorem dX9_allDamage_19 : decode cX9_allDamage 19 = .ok (.getfield 387, 3) := dgq (p := 5) daX9_allDamage_14 dbX9_allDamage_14.2.2.2.1
theorem dX9_allDamage_22 : decode cX9_allDamage 22 = .ok (.ladd, 1) := dgq (p := 8) daX9_allDamage_14 dbX9_allDamage_14.2.2.2.2.1
theorem dX9_allDamage_23 : decode cX9_allDamage 23 = .ok (.lstore_n 1, 1) := dgq (p := 9) daX9_allDamage_14 dbX9_allDamage_14.2.2.2.2.2.1
theorem dX9_allDamage_24 : decode cX9_allDamage 24 = .ok (.iinc 3 1, 3) := dgq (p := 10) daX9_allDamage_14 dbX9_allDamage_14.2.2.2.2.2.2.1
theorem dX9_allDamage_27 : decode cX9_allDamage 27 = .ok (.goto (-23), 3) := dgq (p := 13) daX9_allDamage_14 dbX9_allDamage_14.2.2.2.2.2.2.2.1
theorem dX9_allDamage_30 : decode cX9_allDamage 30 = .ok (.lload_n 1, 1) := dgq (p := 16) daX9_allDamage_14 dbX9_allDamage_14.2.2.2.2.2.2.2.2.1
theorem dX9_allDamage_31 : decode cX9_allDamage 31 = .ok (.lreturn, 1) := dgq (p := 17) daX9_allDamage_14 dbX9_allDamage_14.2.2.2.2.2.2.2.2.2
set_option maxRecDepth 20000 in
theorem ggX9_cutShare_X9_needAnyGear : GoodIn wsX9_cutShare wsX9_needAnyGear := goodIn_ca (goodIn_ca (goodIn_q _ [8, 9, 10, 1] rfl (by decide +kernel)) (goodIn_sub (fun _ h => (List.mem_cons_of_mem _ (List.mem_append_left _ (List.mem_append_left _ (List.mem_append_right _ h))))) tg_wsX90)) (goodIn_sub (fun _ h => List.mem_cons_of_mem _ (List.mem_append_right _ h)) (by decide +kernel))
set_option maxRecDepth 20000 in
theorem gX9_cutShare_X9_needAnyGear : GoodIn wsX9_cutShare (wsV RX9 499 RX9 yX9_needAnyGear wsX9_needAnyGear) := goodIn_app (goodIn_q _ [4, 5, 6, 7] rfl (by decide +kernel)) ggX9_cutShare_X9_needAnyGear
def dsX9_cutShare_0 : ByteArray := ⟨#[42, 182, 1, 243, 3, 60, 3, 61, 28, 42, 180, 0, 64, 162, 0, 24]⟩
theorem daX9_cutShare_0 : agB cX9_cutShare dsX9_cutShare_0 0 := agB_of (n := 16) (by decide +kernel)
theorem dbX9_cutShare_0 : (decode dsX9_cutShare_0 0 = .ok (.aload_n 0, 1) ∧ okop dsX9_cutShare_0 0 = true) ∧ (decode dsX9_cutShare_0 1 = .ok (.invokevirtual 499, 3) ∧ okop dsX9_cutShare_0 1 = true) ∧ (decode dsX9_cutShare_0 4 = .ok (.iconst 0, 1) ∧ okop dsX9_cutShare_0 4 = true) ∧ (decode dsX9_cutShare_0 5 = .ok (.istore_n 1, 1) ∧ okop dsX9_cutShare_0 5 = true) ∧ (decode dsX9_cutShare_0 6 = .ok (.iconst 0, 1) ∧ okop dsX9_cutShare_0 6 = true) ∧ (decode dsX9_cutShare_0 7 = .ok (.istore_n 2, 1) ∧ okop dsX9_cutShare_0 7 = true) ∧ (decode dsX9_cutShare_0 8 = .ok (.iload_n 2, 1) ∧ okop dsX9_cutShare_0 8 = true) ∧ (decode dsX9_cutShare_0 9 = .ok (.aload_n 0, 1) ∧ okop dsX9_cutShare_0 9 = true) ∧ (decode dsX9_cutShare_0 10 = .ok (.getfield 64, 3) ∧ okop dsX9_cutShare_0 10 = true) ∧ (decode dsX9_cutShare_0 13 = .ok (.if_icmp .ge 24, 3) ∧ okop dsX9_cutShare_0 13 = true) := by decide +kernel
theorem dX9_cutShare_0 : decode cX9_cutShare 0 = .ok (.aload_n 0, 1) := dgq (p := 0) daX9_cutShare_0 dbX9_cutShare_0.1
theorem dX9_cutShare_1 : decode cX9_cutShare 1 = .ok (.invokevirtual 499, 3) := dgq (p := 1) daX9_cutShare_0 dbX9_cutShare_0.2.1
theorem dX9_cutShare_4 : decode cX9_cutShare 4 = .ok (.iconst 0, 1) := dgq (p := 4) daX9_cutShare_0 dbX9_cutShare_0.2.2.1
theorem dX9_cutShare_5 : decode cX9_cutShare 5 = .ok (.istore_n 1, 1) := dgq (p := 5) daX9_cutShare_0 dbX9_cutShare_0.2.2.2.1
theorem dX9_cutShare_6 : decode cX9_cutShare 6 = .ok (.iconst 0, 1) := dgq (p := 6) daX9_cutShare_0 dbX9_cutShare_0.2.2.2.2.1
theorem dX9_cutShare_7 : decode cX9_cutShare 7 = .ok (.istore_n 2, 1) := dgq (p := 7) daX9_cutShare_0 dbX9_cutShare_0.2.2.2.2.2.1
theorem dX9_cutShare_8 : decode cX9_cutShare 8 = .ok (.iload_n 2, 1) := dgq (p := 8) daX9_cutShare_0 dbX9_cutShare_0.2.2.2.2.2.2.1
theorem dX9_cutShare_9 : decode cX9_cutShare 9 = .ok (.aload_n 0, 1) := dgq (p := 9) daX9_cutShare_0 dbX9_cutShare_0.2.2.2.2.2.2.2.1
theorem dX9_cutShare_10 : decode cX9_cutShare 10 = .ok (.getfield 64, 3) := dgq (p := 10) daX9_cutShare_0 dbX9_cutShare_0.2.2.2.2.2.2.2.2.1
theorem dX9_cutShare_13 : decode cX9_cutShare 13 = .ok (.if_icmp .ge 24, 3) := dgq (p := 13) daX9_cutShare_0 dbX9_cutShare_0.2.2.2.2.2.2.2.2.2
def dsX9_cutShare_16 : ByteArray := ⟨#[42, 180, 0, 11, 28, 50, 180, 0, 81, 153, 0, 6, 132, 1, 1, 132, 2, 1, 167, 255, 230, 27]⟩
theorem daX9_cutShare_16 : agB cX9_cutShare dsX9_cutShare_16 16 := agB_of (n := 22) (by decide +kernel)
theorem dbX9_cutShare_16 : (decode dsX9_cutShare_16 0 = .ok (.aload_n 0, 1) ∧ okop dsX9_cutShare_16 0 = true) ∧ (decode dsX9_cutShare_16 1 = .ok (.getfield 11, 3) ∧ okop dsX9_cutShare_16 1 = true) ∧ (decode dsX9_cutShare_16 4 = .ok (.iload_n 2, 1) ∧ okop dsX9_cutShare_16 4 = true) ∧ (decode dsX9_cutShare_16 5 = .ok (.aaload, 1) ∧ okop dsX9_cutShare_16 5 = true) ∧ (decode dsX9_cutShare_16 6 = .ok (.getfield 81, 3) ∧ okop dsX9_cutShare_16 6 = true) ∧ (decode dsX9_cutShare_16 9 = .ok (.ifCond .eq 6, 3) ∧ okop dsX9_cutShare_16 9 = true) ∧ (decode dsX9_cutShare_16 12 = .ok (.iinc 1 1, 3) ∧ okop dsX9_cutShare_16 12 = true) ∧ (decode dsX9_cutShare_16 15 = .ok (.iinc 2 1, 3) ∧ okop dsX9_cutShare_16 15 = true) ∧ (decode dsX9_cutShare_16 18 = .ok (.goto (-26), 3) ∧ okop dsX9_cutShare_16 18 = true) ∧ (decode dsX9_cutShare_16 21 = .ok (.iload_n 1, 1) ∧ okop dsX9_cutShare_16 21 = true) := by decide +kernel
theorem dX9_cutShare_16 : decode cX9_cutShare 16 = .ok (.aload_n 0, 1) := dgq (p := 0) daX9_cutShare_16 dbX9_cutShare_16.1
theorem dX9_cutShare_17 : decode cX9_cutShare 17 = .ok (.getfield 11, 3) := dgq (p := 1) daX9_cutShare_16 dbX9_cutShare_16.2.1
theorem dX9_cutShare_20 : decode cX9_cutShare 20 = .ok (.iload_n 2, 1) := dgq (p := 4) daX9_cutShare_16 dbX9_cutShare_16.2.2.1
theorem dX9_cutShare_21 : decode cX9_cutShare 21 = .ok (.aaload, 1) := dgq (p := 5) daX9_cutShare_16 dbX9_cutShare_16.2.2.2.1
theorem dX9_cutShare_22 : decode cX9_cutShare 22 = .ok (.getfield 81, 3) := dgq (p := 6) daX9_cutShare_16 dbX9_cutShare_16.2.2.2.2.1
theorem dX9_cutShare_25 : decode cX9_cutShare 25 = .ok (.ifCond .eq 6, 3) := dgq (p := 9) daX9_cutShare_16 dbX9_cutShare_16.2.2.2.2.2.1
theorem dX9_cutShare_28 : decode cX9_cutShare 28 = .ok (.iinc 1 1, 3) := dgq (p := 12) daX9_cutShare_16 dbX9_cutShare_16.2.2.2.2.2.2.1
theorem dX9_cutShare_31 : decode cX9_cutShare 31 = .ok (.iinc 2 1, 3) := dgq (p := 15) daX9_cutShare_16 dbX9_cutShare_16.2.2.2.2.2.2.2.1
theorem dX9_cutShare_34 : decode cX9_cutShare 34 = .ok (.goto (-26), 3) := dgq (p := 18) daX9_cutShare_16 dbX9_cutShare_16.2.2.2.2.2.2.2.2.1
theorem dX9_cutShare_37 : decode cX9_cutShare 37 = .ok (.iload_n 1, 1) := dgq (p := 21) daX9_cutShare_16 dbX9_cutShare_16.2.2.2.2.2.2.2.2.2
def dsX9_cutShare_38 : ByteArray := ⟨#[134, 42, 180, 0, 64, 134, 110, 174]⟩
theorem daX9_cutShare_38 : agB cX9_cutShare dsX9_cutShare_38 38 := agB_of (n := 8) (by decide +kernel)
theorem dbX9_cutShare_38 : (decode dsX9_cutShare_38 0 = .ok (.i2f, 1) ∧ okop dsX9_cutShare_38 0 = true) ∧ (decode dsX9_cutShare_38 1 = .ok (.aload_n 0, 1) ∧ okop dsX9_cutShare_38 1 = true) ∧ (decode dsX9_cutShare_38 2 = .ok (.getfield 64, 3) ∧ okop dsX9_cutShare_38 2 = true) ∧ (decode dsX9_cutShare_38 5 = .ok (.i2f, 1) ∧ okop dsX9_cutShare_38 5 = true) ∧ (decode dsX9_cutShare_38 6 = .ok (.fdiv, 1) ∧ okop dsX9_cutShare_38 6 = true) ∧ (decode dsX9_cutShare_38 7 = .ok (.freturn, 1) ∧ okop dsX9_cutShare_38 7 = true) := by decide +kernel
theorem dX9_cutShare_38 : decode cX9_cutShare 38 = .ok (.i2f, 1) := dgq (p := 0) daX9_cutShare_38 dbX9_cutShare_38.1
theorem dX9_cutShare_39 : decode cX9_cutShare 39 = .ok (.aload_n 0, 1) := dgq (p := 1) daX9_cutShare_38 dbX9_cutShare_38.2.1
theorem dX9_cutShare_40 : decode cX9_cutShare 40 = .ok (.getfield 64, 3) := dgq (p := 2) daX9_cutShare_38 dbX9_cutShare_38.2.2.1
theorem dX9_cutShare_43 : decode cX9_cutShare 43 = .ok (.i2f, 1) := dgq (p := 5) daX9_cutShare_38 dbX9_cutShare_38.2.2.2.1
theorem dX9_cutShare_44 : decode cX9_cutShare 44 = .ok (.fdiv, 1) := dgq (p := 6) daX9_cutShare_38 dbX9_cutShare_38.2.2.2.2.1
theorem dX9_cutShare_45 : decode cX9_cutShare 45 = .ok (.freturn, 1) := dgq (p := 7) daX9_cutShare_38 dbX9_cutShare_38.2.2.2.2.2
set_option maxRecDepth 20000 in
theorem ggX9_meanGrade_X9_needAnyGear : GoodIn wsX9_meanGrade wsX9_needAnyGear := goodIn_ca (goodIn_ca (goodIn_q _ [7, 8, 9, 1] rfl (by decide +kernel)) (goodIn_sub (fun _ h => (List.mem_cons_of_mem _ (List.mem_append_left _ (List.mem_append_left _ (List.mem_append_left _ (List.mem_append_left _ (List.mem_append_right _ h))))))) tg_wsX90)) (goodIn_sub (fun _ h => List.mem_cons_of_mem _ (List.mem_append_left _ (List.mem_append_right _ h))) (by decide +kernel))
set_option maxRecDepth 20000 in
theorem gX9_meanGrade_X9_needAnyGear : GoodIn wsX9_meanGrade (wsV RX9 499 RX9 yX9_needAnyGear wsX9_needAnyGear) := goodIn_app (goodIn_q _ [3, 4, 5, 6] rfl (by decide +kernel)) ggX9_meanGrade_X9_needAnyGear
set_option maxRecDepth 20000 in
theorem ggX9_meanGrade_X2_worstGrade : GoodIn wsX9_meanGrade wsX2_worstGrade := goodIn_ca (goodIn_ca (goodIn_ca (goodIn_q _ [14, 15, 16, 17, 18, 19, 20, 21, 22, 23, 24, 25, 26, 27, 28, 29, 30, 31, 32, 6, 33, 34] rfl (by decide +kernel)) (goodIn_sub (fun _ h => (List.mem_cons_of_mem _ (List.mem_append_left _ (List.mem_append_left _ (List.mem_append_left _ (List.mem_append_right _ h)))))) tg_wsX20)) (goodIn_sub (fun _ h => (List.mem_cons_of_mem _ (List.mem_append_left _ (List.mem_append_left _ (List.mem_append_right _ h))))) tg_wsX10)) (goodIn_sub (fun _ h => List.mem_cons_of_mem _ (List.mem_append_right _ h)) (by decide +kernel))
set_option maxRecDepth 20000 in
theorem gX9_meanGrade_X2_worstGrade : GoodIn wsX9_meanGrade (wsV RX9 351 RX2 yX2_worstGrade wsX2_worstGrade) := goodIn_app (goodIn_q _ [10, 11, 12, 13] rfl (by decide +kernel)) ggX9_meanGrade_X2_worstGrade
def dsX9_meanGrade_0 : ByteArray := ⟨#[42, 182, 1, 243, 3, 60, 3, 61, 28, 42, 180, 0, 64, 162, 0, 21]⟩
theorem daX9_meanGrade_0 : agB cX9_meanGrade dsX9_meanGrade_0 0 := agB_of (n := 16) (by decide +kernel)
theorem dbX9_meanGrade_0 : (decode dsX9_meanGrade_0 0 = .ok (.aload_n 0, 1) ∧ okop dsX9_meanGrade_0 0 = true) ∧ (decode dsX9_meanGrade_0 1 = .ok (.invokevirtual 499, 3) ∧ okop dsX9_meanGrade_0 1 = true) ∧ (decode dsX9_meanGrade_0 4 = .ok (.iconst 0, 1) ∧ okop dsX9_meanGrade_0 4 = true) ∧ (decode dsX9_meanGrade_0 5 = .ok (.istore_n 1, 1) ∧ okop dsX9_meanGrade_0 5 = true) ∧ (decode dsX9_meanGrade_0 6 = .ok (.iconst 0, 1) ∧ okop dsX9_meanGrade_0 6 = true) ∧ (decode dsX9_meanGrade_0 7 = .ok (.istore_n 2, 1) ∧ okop dsX9_meanGrade_0 7 = true) ∧ (decode dsX9_meanGrade_0 8 = .ok (.iload_n 2, 1) ∧ okop dsX9_meanGrade_0 8 = true) ∧ (decode dsX9_meanGrade_0 9 = .ok (.aload_n 0, 1) ∧ okop dsX9_meanGrade_0 9 = true) ∧ (decode dsX9_meanGrade_0 10 = .ok (.getfield 64, 3) ∧ okop dsX9_meanGrade_0 10 = true) ∧ (decode dsX9_meanGrade_0 13 = .ok (.if_icmp .ge 21, 3) ∧ okop dsX9_meanGrade_0 13 = true) := by decide +kernel
theorem dX9_meanGrade_0 : decode cX9_meanGrade 0 = .ok (.aload_n 0, 1) := dgq (p := 0) daX9_meanGrade_0 dbX9_meanGrade_0.1
theorem dX9_meanGrade_1 : decode cX9_meanGrade 1 = .ok (.invokevirtual 499, 3) := dgq (p := 1) daX9_meanGrade_0 dbX9_meanGrade_0.2.1
theorem dX9_meanGrade_4 : decode cX9_meanGrade 4 = .ok (.iconst 0, 1) := dgq (p := 4) daX9_meanGrade_0 dbX9_meanGrade_0.2.2.1
theorem dX9_meanGrade_5 : decode cX9_meanGrade 5 = .ok (.istore_n 1, 1) := dgq (p := 5) daX9_meanGrade_0 dbX9_meanGrade_0.2.2.2.1
theorem dX9_meanGrade_6 : decode cX9_meanGrade 6 = .ok (.iconst 0, 1) := dgq (p := 6) daX9_meanGrade_0 dbX9_meanGrade_0.2.2.2.2.1
theorem dX9_meanGrade_7 : decode cX9_meanGrade 7 = .ok (.istore_n 2, 1) := dgq (p := 7) daX9_meanGrade_0 dbX9_meanGrade_0.2.2.2.2.2.1
theorem dX9_meanGrade_8 : decode cX9_meanGrade 8 = .ok (.iload_n 2, 1) := dgq (p := 8) daX9_meanGrade_0 dbX9_meanGrade_0.2.2.2.2.2.2.1
theorem dX9_meanGrade_9 : decode cX9_meanGrade 9 = .ok (.aload_n 0, 1) := dgq (p := 9) daX9_meanGrade_0 dbX9_meanGrade_0.2.2.2.2.2.2.2.1
theorem dX9_meanGrade_10 : decode cX9_meanGrade 10 = .ok (.getfield 64, 3) := dgq (p := 10) daX9_meanGrade_0 dbX9_meanGrade_0.2.2.2.2.2.2.2.2.1
theorem dX9_meanGrade_13 : decode cX9_meanGrade 13 = .ok (.if_icmp .ge 21, 3) := dgq (p := 13) daX9_meanGrade_0 dbX9_meanGrade_0.2.2.2.2.2.2.2.2.2
def dsX9_meanGrade_16 : ByteArray := ⟨#[27, 42, 180, 0, 11, 28, 50, 182, 1, 95, 96, 60, 132, 2, 1, 167, 255, 233]⟩
theorem daX9_meanGrade_16 : agB cX9_meanGrade dsX9_meanGrade_16 16 := agB_of (n := 18) (by decide +kernel)
theorem dbX9_meanGrade_16 : (decode dsX9_meanGrade_16 0 = .ok (.iload_n 1, 1) ∧ okop dsX9_meanGrade_16 0 = true) ∧ (decode dsX9_meanGrade_16 1 = .ok (.aload_n 0, 1) ∧ okop dsX9_meanGrade_16 1 = true) ∧ (decode dsX9_meanGrade_16 2 = .ok (.getfield 11, 3) ∧ okop dsX9_meanGrade_16 2 = true) ∧ (decode dsX9_meanGrade_16 5 = .ok (.iload_n 2, 1) ∧ okop dsX9_meanGrade_16 5 = true) ∧ (decode dsX9_meanGrade_16 6 = .ok (.aaload, 1) ∧ okop dsX9_meanGrade_16 6 = true) ∧ (decode dsX9_meanGrade_16 7 = .ok (.invokevirtual 351, 3) ∧ okop dsX9_meanGrade_16 7 = true) ∧ (decode dsX9_meanGrade_16 10 = .ok (.iadd, 1) ∧ okop dsX9_meanGrade_16 10 = true) ∧ (decode dsX9_meanGrade_16 11 = .ok (.istore_n 1, 1) ∧ okop dsX9_meanGrade_16 11 = true) ∧ (decode dsX9_meanGrade_16 12 = .ok (.iinc 2 1, 3) ∧ okop dsX9_meanGrade_16 12 = true) ∧ (decode dsX9_meanGrade_16 15 = .ok (.goto (-23), 3) ∧ okop dsX9_meanGrade_16 15 = true) := by decide +kernel
theorem dX9_meanGrade_16 : decode cX9_meanGrade 16 = .ok (.iload_n 1, 1) := dgq (p := 0) daX9_meanGrade_16 dbX9_meanGrade_16.1
theorem dX9_meanGrade_17 : decode cX9_meanGrade 17 = .ok (.aload_n 0, 1) := dgq (p := 1) daX9_meanGrade_16 dbX9_meanGrade_16.2.1
theorem dX9_meanGrade_18 : decode cX9_meanGrade 18 = .ok (.getfield 11, 3) := dgq (p := 2) daX9_meanGrade_16 dbX9_meanGrade_16.2.2.1
theorem dX9_meanGrade_21 : decode cX9_meanGrade 21 = .ok (.iload_n 2, 1) := dgq (p := 5) daX9_meanGrade_16 dbX9_meanGrade_16.2.2.2.1
theorem dX9_meanGrade_22 : decode cX9_meanGrade 22 = .ok (.aaload, 1) := dgq (p := 6) daX9_meanGrade_16 dbX9_meanGrade_16.2.2.2.2.1
theorem dX9_meanGrade_23 : decode cX9_meanGrade 23 = .ok (.invokevirtual 351, 3) := dgq (p := 7) daX9_meanGrade_16 dbX9_meanGrade_16.2.2.2.2.2.1
theorem dX9_meanGrade_26 : decode cX9_meanGrade 26 = .ok (.iadd, 1) := dgq (p := 10) daX9_meanGrade_16 dbX9_meanGrade_16.2.2.2.2.2.2.1
theorem dX9_meanGrade_27 : decode cX9_meanGrade 27 = .ok (.istore_n 1, 1) := dgq (p := 11) daX9_meanGrade_16 dbX9_meanGrade_16.2.2.2.2.2.2.2.1
theorem dX9_meanGrade_28 : decode cX9_meanGrade 28 = .ok (.iinc 2 1, 3) := dgq (p := 12) daX9_meanGrade_16 dbX9_meanGrade_16.2.2.2.2.2.2.2.2.1
theorem dX9_meanGrade_31 : decode cX9_meanGrade 31 = .ok (.goto (-23), 3) := dgq (p := 15) daX9_meanGrade_16 dbX9_meanGrade_16.2.2.2.2.2.2.2.2.2
def dsX9_meanGrade_34 : ByteArray := ⟨#[27, 135, 42, 180, 0, 64, 135, 111, 175]⟩
theorem daX9_meanGrade_34 : agB cX9_meanGrade dsX9_meanGrade_34 34 := agB_of (n := 9) (by decide +kernel)
theorem dbX9_meanGrade_34 : (decode dsX9_meanGrade_34 0 = .ok (.iload_n 1, 1) ∧ okop dsX9_meanGrade_34 0 = true) ∧ (decode dsX9_meanGrade_34 1 = .ok (.i2d, 1) ∧ okop dsX9_meanGrade_34 1 = true) ∧ (decode dsX9_meanGrade_34 2 = .ok (.aload_n 0, 1) ∧ okop dsX9_meanGrade_34 2 = true) ∧ (decode dsX9_meanGrade_34 3 = .ok (.getfield 64, 3) ∧ okop dsX9_meanGrade_34 3 = true) ∧ (decode dsX9_meanGrade_34 6 = .ok (.i2d, 1) ∧ okop dsX9_meanGrade_34 6 = true) ∧ (decode dsX9_meanGrade_34 7 = .ok (.ddiv, 1) ∧ okop dsX9_meanGrade_34 7 = true) ∧ (decode dsX9_meanGrade_34 8 = .ok (.dreturn, 1) ∧ okop dsX9_meanGrade_34 8 = true) := by decide +kernel
theorem dX9_meanGrade_34 : decode cX9_meanGrade 34 = .ok (.iload_n 1, 1) := dgq (p := 0) daX9_meanGrade_34 dbX9_meanGrade_34.1
theorem dX9_meanGrade_35 : decode cX9_meanGrade 35 = .ok (.i2d, 1) := dgq (p := 1) daX9_meanGrade_34 dbX9_meanGrade_34.2.1
theorem dX9_meanGrade_36 : decode cX9_meanGrade 36 = .ok (.aload_n 0, 1) := dgq (p := 2) daX9_meanGrade_34 dbX9_meanGrade_34.2.2.1
theorem dX9_meanGrade_37 : decode cX9_meanGrade 37 = .ok (.getfield 64, 3) := dgq (p := 3) daX9_meanGrade_34 dbX9_meanGrade_34.2.2.2.1
theorem dX9_meanGrade_40 : decode cX9_meanGrade 40 = .ok (.i2d, 1) := dgq (p := 6) daX9_meanGrade_34 dbX9_meanGrade_34.2.2.2.2.1
theorem dX9_meanGrade_41 : decode cX9_meanGrade 41 = .ok (.ddiv, 1) := dgq (p := 7) daX9_meanGrade_34 dbX9_meanGrade_34.2.2.2.2.2.1
theorem dX9_meanGrade_42 : decode cX9_meanGrade 42 = .ok (.dreturn, 1) := dgq (p := 8) daX9_meanGrade_34 dbX9_meanGrade_34.2.2.2.2.2.2
set_option maxRecDepth 20000 in
theorem ggX9_isSound_X9_isMatedRightly : GoodIn wsX9_isSound wsX9_isMatedRightly := goodIn_ca (goodIn_ca (goodIn_q _ [8, 9, 1, 2, 10, 11, 12, 13, 14, 15, 16, 17, 18] rfl (by decide +kernel)) (goodIn_sub (fun _ h => (List.mem_cons_of_mem _ (List.mem_append_left _ (List.mem_append_left _ (List.mem_append_left _ (List.mem_append_left _ (List.mem_append_right _ h))))))) tg_wsX20)) (goodIn_sub (fun _ h => (List.mem_cons_of_mem _ (List.mem_append_left _ (List.mem_append_left _ (List.mem_append_left _ (List.mem_append_left _ (List.mem_append_left _ (List.mem_append_right _ h)))))))) tg_wsX90)
set_option maxRecDepth 20000 in
theorem gX9_isSound_X9_isMatedRightly : GoodIn wsX9_isSound (wsV RX9 502 RX9 yX9_isMatedRightly wsX9_isMatedRightly) := goodIn_app (goodIn_q _ [4, 5, 6, 7] rfl (by decide +kernel)) ggX9_isSound_X9_isMatedRightly
set_option maxRecDepth 20000 in
theorem ggX9_isSound_X2_pairsWith : GoodIn wsX9_isSound wsX2_pairsWith := goodIn_ca (goodIn_q _ [16, 17, 18] rfl (by decide +kernel)) (goodIn_sub (fun _ h => (List.mem_cons_of_mem _ (List.mem_append_left _ (List.mem_append_left _ (List.mem_append_left _ (List.mem_append_left _ (List.mem_append_right _ h))))))) tg_wsX20)
set_option maxRecDepth 20000 in
theorem gX9_isSound_X2_pairsWith : GoodIn wsX9_isSound (wsV RX9 115 RX2 yX2_pairsWith wsX2_pairsWith) := goodIn_app (goodIn_q _ [12, 13, 14, 15] rfl (by decide +kernel)) ggX9_isSound_X2_pairsWith
set_option maxRecDepth 20000 in
theorem ggX9_isSound_X9_rollsAsTold : GoodIn wsX9_isSound wsX9_rollsAsTold := goodIn_ca (goodIn_ca (goodIn_ca (goodIn_ca (goodIn_ca (goodIn_q _ [22, 23, 24, 25, 26, 27, 28, 29, 30, 31, 32, 33, 34, 35, 36, 37, 38, 39, 40, 41, 42, 7, 43, 44, 45, 46, 47, 48, 49, 50, 51, 52, 53, 54, 55, 56, 57, 58, 59, 60, 61, 62, 63, 64, 65, 66, 67, 68, 69, 70, 71, 72, 73, 74, 75, 76, 77, 78, 79] rfl (by decide +kernel)) (goodIn_sub (fun _ h => (List.mem_cons_of_mem _ (List.mem_append_left _ (List.mem_append_left _ (List.mem_append_left _ (List.mem_append_left _ (List.mem_append_left _ (List.mem_append_right _ h)))))))) tg_wsX90)) (goodIn_sub (fun _ h => (List.mem_cons_of_mem _ (List.mem_append_left _ (List.mem_append_left _ (List.mem_append_left _ (List.mem_append_right _ h)))))) tg_wsX10)) (goodIn_sub (fun _ h => (List.mem_cons_of_mem _ (List.mem_append_left _ (List.mem_append_left _ (List.mem_append_right _ h))))) tg_wsX60)) (goodIn_sub (fun _ h => List.mem_cons_of_mem _ (List.mem_append_left _ (List.mem_append_right _ h))) (by decide +kernel))) (goodIn_sub (fun _ h => List.mem_cons_of_mem _ (List.mem_append_right _ h)) (by decide +kernel))
set_option maxRecDepth 20000 in
theorem gX9_isSound_X9_rollsAsTold : GoodIn wsX9_isSound (wsV RX9 505 RX9 yX9_rollsAsTold wsX9_rollsAsTold) := goodIn_app (goodIn_q _ [19, 20, 21, 7] rfl (by decide +kernel)) ggX9_isSound_X9_rollsAsTold
def dsX9_isSound_0 : ByteArray := ⟨#[3, 60, 27, 42, 180, 0, 64, 162, 0, 87, 42, 42, 180, 0, 11, 27]⟩
theorem daX9_isSound_0 : agB cX9_isSound dsX9_isSound_0 0 := agB_of (n := 16) (by decide +kernel)
theorem dbX9_isSound_0 : (decode dsX9_isSound_0 0 = .ok (.iconst 0, 1) ∧ okop dsX9_isSound_0 0 = true) ∧ (decode dsX9_isSound_0 1 = .ok (.istore_n 1, 1) ∧ okop dsX9_isSound_0 1 = true) ∧ (decode dsX9_isSound_0 2 = .ok (.iload_n 1, 1) ∧ okop dsX9_isSound_0 2 = true) ∧ (decode dsX9_isSound_0 3 = .ok (.aload_n 0, 1) ∧ okop dsX9_isSound_0 3 = true) ∧ (decode dsX9_isSound_0 4 = .ok (.getfield 64, 3) ∧ okop dsX9_isSound_0 4 = true) ∧ (decode dsX9_isSound_0 7 = .ok (.if_icmp .ge 87, 3) ∧ okop dsX9_isSound_0 7 = true) ∧ (decode dsX9_isSound_0 10 = .ok (.aload_n 0, 1) ∧ okop dsX9_isSound_0 10 = true) ∧ (decode dsX9_isSound_0 11 = .ok (.aload_n 0, 1) ∧ okop dsX9_isSound_0 11 = true) ∧ (decode dsX9_isSound_0 12 = .ok (.getfield 11, 3) ∧ okop dsX9_isSound_0 12 = true) ∧ (decode dsX9_isSound_0 15 = .ok (.iload_n 1, 1) ∧ okop dsX9_isSound_0 15 = true) := by decide +kernel
theorem dX9_isSound_0 : decode cX9_isSound 0 = .ok (.iconst 0, 1) := dgq (p := 0) daX9_isSound_0 dbX9_isSound_0.1
theorem dX9_isSound_1 : decode cX9_isSound 1 = .ok (.istore_n 1, 1) := dgq (p := 1) daX9_isSound_0 dbX9_isSound_0.2.1
theorem dX9_isSound_2 : decode cX9_isSound 2 = .ok (.iload_n 1, 1) := dgq (p := 2) daX9_isSound_0 dbX9_isSound_0.2.2.1
theorem dX9_isSound_3 : decode cX9_isSound 3 = .ok (.aload_n 0, 1) := dgq (p := 3) daX9_isSound_0 dbX9_isSound_0.2.2.2.1
theorem dX9_isSound_4 : decode cX9_isSound 4 = .ok (.getfield 64, 3) := dgq (p := 4) daX9_isSound_0 dbX9_isSound_0.2.2.2.2.1
theorem dX9_isSound_7 : decode cX9_isSound 7 = .ok (.if_icmp .ge 87, 3) := dgq (p := 7) daX9_isSound_0 dbX9_isSound_0.2.2.2.2.2.1
theorem dX9_isSound_10 : decode cX9_isSound 10 = .ok (.aload_n 0, 1) := dgq (p := 10) daX9_isSound_0 dbX9_isSound_0.2.2.2.2.2.2.1
theorem dX9_isSound_11 : decode cX9_isSound 11 = .ok (.aload_n 0, 1) := dgq (p := 11) daX9_isSound_0 dbX9_isSound_0.2.2.2.2.2.2.2.1
theorem dX9_isSound_12 : decode cX9_isSound 12 = .ok (.getfield 11, 3) := dgq (p := 12) daX9_isSound_0 dbX9_isSound_0.2.2.2.2.2.2.2.2.1
theorem dX9_isSound_15 : decode cX9_isSound 15 = .ok (.iload_n 1, 1) := dgq (p := 15) daX9_isSound_0 dbX9_isSound_0.2.2.2.2.2.2.2.2.2
def dsX9_isSound_16 : ByteArray := ⟨#[50, 182, 1, 246, 154, 0, 5, 3, 172, 27, 4, 96, 61, 28]⟩
theorem daX9_isSound_16 : agB cX9_isSound dsX9_isSound_16 16 := agB_of (n := 14) (by decide +kernel)
theorem dbX9_isSound_16 : (decode dsX9_isSound_16 0 = .ok (.aaload, 1) ∧ okop dsX9_isSound_16 0 = true) ∧ (decode dsX9_isSound_16 1 = .ok (.invokevirtual 502, 3) ∧ okop dsX9_isSound_16 1 = true) ∧ (decode dsX9_isSound_16 4 = .ok (.ifCond .ne 5, 3) ∧ okop dsX9_isSound_16 4 = true) ∧ (decode dsX9_isSound_16 7 = .ok (.iconst 0, 1) ∧ okop dsX9_isSound_16 7 = true) ∧ (decode dsX9_isSound_16 8 = .ok (.ireturn, 1) ∧ okop dsX9_isSound_16 8 = true) ∧ (decode dsX9_isSound_16 9 = .ok (.iload_n 1, 1) ∧ okop dsX9_isSound_16 9 = true) ∧ (decode dsX9_isSound_16 10 = .ok (.iconst 1, 1) ∧ okop dsX9_isSound_16 10 = true) ∧ (decode dsX9_isSound_16 11 = .ok (.iadd, 1) ∧ okop dsX9_isSound_16 11 = true) ∧ (decode dsX9_isSound_16 12 = .ok (.istore_n 2, 1) ∧ okop dsX9_isSound_16 12 = true) ∧ (decode dsX9_isSound_16 13 = .ok (.iload_n 2, 1) ∧ okop dsX9_isSound_16 13 = true) := by decide +kernel
theorem dX9_isSound_16 : decode cX9_isSound 16 = .ok (.aaload, 1) := dgq (p := 0) daX9_isSound_16 dbX9_isSound_16.1
theorem dX9_isSound_17 : decode cX9_isSound 17 = .ok (.invokevirtual 502, 3) := dgq (p := 1) daX9_isSound_16 dbX9_isSound_16.2.1
theorem dX9_isSound_20 : decode cX9_isSound 20 = .ok (.ifCond .ne 5, 3) := dgq (p := 4) daX9_isSound_16 dbX9_isSound_16.2.2.1
theorem dX9_isSound_23 : decode cX9_isSound 23 = .ok (.iconst 0, 1) := dgq (p := 7) daX9_isSound_16 dbX9_isSound_16.2.2.2.1
theorem dX9_isSound_24 : decode cX9_isSound 24 = .ok (.ireturn, 1) := dgq (p := 8) daX9_isSound_16 dbX9_isSound_16.2.2.2.2.1
theorem dX9_isSound_25 : decode cX9_isSound 25 = .ok (.iload_n 1, 1) := dgq (p := 9) daX9_isSound_16 dbX9_isSound_16.2.2.2.2.2.1
theorem dX9_isSound_26 : decode cX9_isSound 26 = .ok (.iconst 1, 1) := dgq (p := 10) daX9_isSound_16 dbX9_isSound_16.2.2.2.2.2.2.1
theorem dX9_isSound_27 : decode cX9_isSound 27 = .ok (.iadd, 1) := dgq (p := 11) daX9_isSound_16 dbX9_isSound_16.2.2.2.2.2.2.2.1
theorem dX9_isSound_28 : decode cX9_isSound 28 = .ok (.istore_n 2, 1) := dgq (p := 12) daX9_isSound_16 dbX9_isSound_16.2.2.2.2.2.2.2.2.1
theorem dX9_isSound_29 : decode cX9_isSound 29 = .ok (.iload_n 2, 1) := dgq (p := 13) daX9_isSound_16 dbX9_isSound_16.2.2.2.2.2.2.2.2.2
def dsX9_isSound_30 : ByteArray := ⟨#[42, 180, 0, 64, 162, 0, 54, 42, 180, 0, 11, 27, 50, 42, 180, 0, 11, 28]⟩
theorem daX9_isSound_30 : agB cX9_isSound dsX9_isSound_30 30 := agB_of (n := 18) (by decide +kernel)
theorem dbX9_isSound_30 : (decode dsX9_isSound_30 0 = .ok (.aload_n 0, 1) ∧ okop dsX9_isSound_30 0 = true) ∧ (decode dsX9_isSound_30 1 = .ok (.getfield 64, 3) ∧ okop dsX9_isSound_30 1 = true) ∧ (decode dsX9_isSound_30 4 = .ok (.if_icmp .ge 54, 3) ∧ okop dsX9_isSound_30 4 = true) ∧ (decode dsX9_isSound_30 7 = .ok (.aload_n 0, 1) ∧ okop dsX9_isSound_30 7 = true) ∧ (decode dsX9_isSound_30 8 = .ok (.getfield 11, 3) ∧ okop dsX9_isSound_30 8 = true) ∧ (decode dsX9_isSound_30 11 = .ok (.iload_n 1, 1) ∧ okop dsX9_isSound_30 11 = true) ∧ (decode dsX9_isSound_30 12 = .ok (.aaload, 1) ∧ okop dsX9_isSound_30 12 = true) ∧ (decode dsX9_isSound_30 13 = .ok (.aload_n 0, 1) ∧ okop dsX9_isSound_30 13 = true) ∧ (decode dsX9_isSound_30 14 = .ok (.getfield 11, 3) ∧ okop dsX9_isSound_30 14 = true) ∧ (decode dsX9_isSound_30 17 = .ok (.iload_n 2, 1) ∧ okop dsX9_isSound_30 17 = true) := by decide +kernel
theorem dX9_isSound_30 : decode cX9_isSound 30 = .ok (.aload_n 0, 1) := dgq (p := 0) daX9_isSound_30 dbX9_isSound_30.1
theorem dX9_isSound_31 : decode cX9_isSound 31 = .ok (.getfield 64, 3) := dgq (p := 1) daX9_isSound_30 dbX9_isSound_30.2.1
theorem dX9_isSound_34 : decode cX9_isSound 34 = .ok (.if_icmp .ge 54, 3) := dgq (p := 4) daX9_isSound_30 dbX9_isSound_30.2.2.1
theorem dX9_isSound_37 : decode cX9_isSound 37 = .ok (.aload_n 0, 1) := dgq (p := 7) daX9_isSound_30 dbX9_isSound_30.2.2.2.1
theorem dX9_isSound_38 : decode cX9_isSound 38 = .ok (.getfield 11, 3) := dgq (p := 8) daX9_isSound_30 dbX9_isSound_30.2.2.2.2.1
theorem dX9_isSound_41 : decode cX9_isSound 41 = .ok (.iload_n 1, 1) := dgq (p := 11) daX9_isSound_30 dbX9_isSound_30.2.2.2.2.2.1
theorem dX9_isSound_42 : decode cX9_isSound 42 = .ok (.aaload, 1) := dgq (p := 12) daX9_isSound_30 dbX9_isSound_30.2.2.2.2.2.2.1
theorem dX9_isSound_43 : decode cX9_isSound 43 = .ok (.aload_n 0, 1) := dgq (p := 13) daX9_isSound_30 dbX9_isSound_30.2.2.2.2.2.2.2.1
theorem dX9_isSound_44 : decode cX9_isSound 44 = .ok (.getfield 11, 3) := dgq (p := 14) daX9_isSound_30 dbX9_isSound_30.2.2.2.2.2.2.2.2.1
theorem dX9_isSound_47 : decode cX9_isSound 47 = .ok (.iload_n 2, 1) := dgq (p := 17) daX9_isSound_30 dbX9_isSound_30.2.2.2.2.2.2.2.2.2
def dsX9_isSound_48 : ByteArray := ⟨#[50, 182, 0, 115, 153, 0, 30, 42, 42, 180, 0, 11, 27, 50, 180, 1, 83, 42]⟩
theorem daX9_isSound_48 : agB cX9_isSound dsX9_isSound_48 48 := agB_of (n := 18) (by decide +kernel)
theorem dbX9_isSound_48 : (decode dsX9_isSound_48 0 = .ok (.aaload, 1) ∧ okop dsX9_isSound_48 0 = true) ∧ (decode dsX9_isSound_48 1 = .ok (.invokevirtual 115, 3) ∧ okop dsX9_isSound_48 1 = true) ∧ (decode dsX9_isSound_48 4 = .ok (.ifCond .eq 30, 3) ∧ okop dsX9_isSound_48 4 = true) ∧ (decode dsX9_isSound_48 7 = .ok (.aload_n 0, 1) ∧ okop dsX9_isSound_48 7 = true) ∧ (decode dsX9_isSound_48 8 = .ok (.aload_n 0, 1) ∧ okop dsX9_isSound_48 8 = true) ∧ (decode dsX9_isSound_48 9 = .ok (.getfield 11, 3) ∧ okop dsX9_isSound_48 9 = true) ∧ (decode dsX9_isSound_48 12 = .ok (.iload_n 1, 1) ∧ okop dsX9_isSound_48 12 = true) ∧ (decode dsX9_isSound_48 13 = .ok (.aaload, 1) ∧ okop dsX9_isSound_48 13 = true) ∧ (decode dsX9_isSound_48 14 = .ok (.getfield 339, 3) ∧ okop dsX9_isSound_48 14 = true) ∧ (decode dsX9_isSound_48 17 = .ok (.aload_n 0, 1) ∧ okop dsX9_isSound_48 17 = true) := by decide +kernel
theorem dX9_isSound_48 : decode cX9_isSound 48 = .ok (.aaload, 1) := dgq (p := 0) daX9_isSound_48 dbX9_isSound_48.1
theorem dX9_isSound_49 : decode cX9_isSound 49 = .ok (.invokevirtual 115, 3) := dgq (p := 1) daX9_isSound_48 dbX9_isSound_48.2.1
theorem dX9_isSound_52 : decode cX9_isSound 52 = .ok (.ifCond .eq 30, 3) := dgq (p := 4) daX9_isSound_48 dbX9_isSound_48.2.2.1
theorem dX9_isSound_55 : decode cX9_isSound 55 = .ok (.aload_n 0, 1) := dgq (p := 7) daX9_isSound_48 dbX9_isSound_48.2.2.2.1
theorem dX9_isSound_56 : decode cX9_isSound 56 = .ok (.aload_n 0, 1) := dgq (p := 8) daX9_isSound_48 dbX9_isSound_48.2.2.2.2.1
theorem dX9_isSound_57 : decode cX9_isSound 57 = .ok (.getfield 11, 3) := dgq (p := 9) daX9_isSound_48 dbX9_isSound_48.2.2.2.2.2.1
theorem dX9_isSound_60 : decode cX9_isSound 60 = .ok (.iload_n 1, 1) := dgq (p := 12) daX9_isSound_48 dbX9_isSound_48.2.2.2.2.2.2.1
theorem dX9_isSound_61 : decode cX9_isSound 61 = .ok (.aaload, 1) := dgq (p := 13) daX9_isSound_48 dbX9_isSound_48.2.2.2.2.2.2.2.1
theorem dX9_isSound_62 : decode cX9_isSound 62 = .ok (.getfield 339, 3) := dgq (p := 14) daX9_isSound_48 dbX9_isSound_48.2.2.2.2.2.2.2.2.1
theorem dX9_isSound_65 : decode cX9_isSound 65 = .ok (.aload_n 0, 1) := dgq (p := 17) daX9_isSound_48 dbX9_isSound_48.2.2.2.2.2.2.2.2.2
def dsX9_isSound_66 : ByteArray := ⟨#[180, 0, 11, 28, 50, 180, 1, 83, 182, 1, 249, 154, 0, 5, 3, 172, 132, 2, 1, 167, 255, 200]⟩
theorem daX9_isSound_66 : agB cX9_isSound dsX9_isSound_66 66 := agB_of (n := 22) (by decide +kernel)
theorem dbX9_isSound_66 : (decode dsX9_isSound_66 0 = .ok (.getfield 11, 3) ∧ okop dsX9_isSound_66 0 = true) ∧ (decode dsX9_isSound_66 3 = .ok (.iload_n 2, 1) ∧ okop dsX9_isSound_66 3 = true) ∧ (decode dsX9_isSound_66 4 = .ok (.aaload, 1) ∧ okop dsX9_isSound_66 4 = true) ∧ (decode dsX9_isSound_66 5 = .ok (.getfield 339, 3) ∧ okop dsX9_isSound_66 5 = true) ∧ (decode dsX9_isSound_66 8 = .ok (.invokevirtual 505, 3) ∧ okop dsX9_isSound_66 8 = true) ∧ (decode dsX9_isSound_66 11 = .ok (.ifCond .ne 5, 3) ∧ okop dsX9_isSound_66 11 = true) ∧ (decode dsX9_isSound_66 14 = .ok (.iconst 0, 1) ∧ okop dsX9_isSound_66 14 = true) ∧ (decode dsX9_isSound_66 15 = .ok (.ireturn, 1) ∧ okop dsX9_isSound_66 15 = true) ∧ (decode dsX9_isSound_66 16 = .ok (.iinc 2 1, 3) ∧ okop dsX9_isSound_66 16 = true) ∧ (decode dsX9_isSound_66 19 = .ok (.goto (-56), 3) ∧ okop dsX9_isSound_66 19 = true) := by decide +kernel
theorem dX9_isSound_66 : decode cX9_isSound 66 = .ok (.getfield 11, 3) := dgq (p := 0) daX9_isSound_66 dbX9_isSound_66.1
theorem dX9_isSound_69 : decode cX9_isSound 69 = .ok (.iload_n 2, 1) := dgq (p := 3) daX9_isSound_66 dbX9_isSound_66.2.1
theorem dX9_isSound_70 : decode cX9_isSound 70 = .ok (.aaload, 1) := dgq (p := 4) daX9_isSound_66 dbX9_isSound_66.2.2.1
theorem dX9_isSound_71 : decode cX9_isSound 71 = .ok (.getfield 339, 3) := dgq (p := 5) daX9_isSound_66 dbX9_isSound_66.2.2.2.1
theorem dX9_isSound_74 : decode cX9_isSound 74 = .ok (.invokevirtual 505, 3) := dgq (p := 8) daX9_isSound_66 dbX9_isSound_66.2.2.2.2.1
theorem dX9_isSound_77 : decode cX9_isSound 77 = .ok (.ifCond .ne 5, 3) := dgq (p := 11) daX9_isSound_66 dbX9_isSound_66.2.2.2.2.2.1
theorem dX9_isSound_80 : decode cX9_isSound 80 = .ok (.iconst 0, 1) := dgq (p := 14) daX9_isSound_66 dbX9_isSound_66.2.2.2.2.2.2.1
theorem dX9_isSound_81 : decode cX9_isSound 81 = .ok (.ireturn, 1) := dgq (p := 15) daX9_isSound_66 dbX9_isSound_66.2.2.2.2.2.2.2.1
theorem dX9_isSound_82 : decode cX9_isSound 82 = .ok (.iinc 2 1, 3) := dgq (p := 16) daX9_isSound_66 dbX9_isSound_66.2.2.2.2.2.2.2.2.1
theorem dX9_isSound_85 : decode cX9_isSound 85 = .ok (.goto (-56), 3) := dgq (p := 19) daX9_isSound_66 dbX9_isSound_66.2.2.2.2.2.2.2.2.2
def dsX9_isSound_88 : ByteArray := ⟨#[132, 1, 1, 167, 255, 167, 4, 172]⟩
theorem daX9_isSound_88 : agB cX9_isSound dsX9_isSound_88 88 := agB_of (n := 8) (by decide +kernel)
theorem dbX9_isSound_88 : (decode dsX9_isSound_88 0 = .ok (.iinc 1 1, 3) ∧ okop dsX9_isSound_88 0 = true) ∧ (decode dsX9_isSound_88 3 = .ok (.goto (-89), 3) ∧ okop dsX9_isSound_88 3 = true) ∧ (decode dsX9_isSound_88 6 = .ok (.iconst 1, 1) ∧ okop dsX9_isSound_88 6 = true) ∧ (decode dsX9_isSound_88 7 = .ok (.ireturn, 1) ∧ okop dsX9_isSound_88 7 = true) := by decide +kernel
theorem dX9_isSound_88 : decode cX9_isSound 88 = .ok (.iinc 1 1, 3) := dgq (p := 0) daX9_isSound_88 dbX9_isSound_88.1
theorem dX9_isSound_91 : decode cX9_isSound 91 = .ok (.goto (-89), 3) := dgq (p := 3) daX9_isSound_88 dbX9_isSound_88.2.1
theorem dX9_isSound_94 : decode cX9_isSound 94 = .ok (.iconst 1, 1) := dgq (p := 6) daX9_isSound_88 dbX9_isSound_88.2.2.1
theorem dX9_isSound_95 : decode cX9_isSound 95 = .ok (.ireturn, 1) := dgq (p := 7) daX9_isSound_88 dbX9_isSound_88.2.2.2
set_option maxRecDepth 20000 in
theorem ggX9_isMatedRightly_X2_pairsWith : GoodIn wsX9_isMatedRightly wsX2_pairsWith := goodIn_ca (goodIn_q _ [10, 11, 12] rfl (by decide +kernel)) (goodIn_sub (fun _ h => (List.mem_cons_of_mem _ (List.mem_append_left _ (List.mem_append_right _ h)))) tg_wsX20)
set_option maxRecDepth 20000 in
theorem gX9_isMatedRightly_X2_pairsWith : GoodIn wsX9_isMatedRightly (wsV RX9 115 RX2 yX2_pairsWith wsX2_pairsWith) := goodIn_app (goodIn_q _ [6, 7, 8, 9] rfl (by decide +kernel)) ggX9_isMatedRightly_X2_pairsWith
def dsX9_isMatedRightly_0 : ByteArray := ⟨#[43, 180, 1, 140, 2, 160, 0, 5, 4, 172, 43, 180, 1, 140, 155, 0, 14, 43]⟩
theorem daX9_isMatedRightly_0 : agB cX9_isMatedRightly dsX9_isMatedRightly_0 0 := agB_of (n := 18) (by decide +kernel)
theorem dbX9_isMatedRightly_0 : (decode dsX9_isMatedRightly_0 0 = .ok (.aload_n 1, 1) ∧ okop dsX9_isMatedRightly_0 0 = true) ∧ (decode dsX9_isMatedRightly_0 1 = .ok (.getfield 396, 3) ∧ okop dsX9_isMatedRightly_0 1 = true) ∧ (decode dsX9_isMatedRightly_0 4 = .ok (.iconst (-1), 1) ∧ okop dsX9_isMatedRightly_0 4 = true) ∧ (decode dsX9_isMatedRightly_0 5 = .ok (.if_icmp .ne 5, 3) ∧ okop dsX9_isMatedRightly_0 5 = true) ∧ (decode dsX9_isMatedRightly_0 8 = .ok (.iconst 1, 1) ∧ okop dsX9_isMatedRightly_0 8 = true) ∧ (decode dsX9_isMatedRightly_0 9 = .ok (.ireturn, 1) ∧ okop dsX9_isMatedRightly_0 9 = true) ∧ (decode dsX9_isMatedRightly_0 10 = .ok (.aload_n 1, 1) ∧ okop dsX9_isMatedRightly_0 10 = true) ∧ (decode dsX9_isMatedRightly_0 11 = .ok (.getfield 396, 3) ∧ okop dsX9_isMatedRightly_0 11 = true) ∧ (decode dsX9_isMatedRightly_0 14 = .ok (.ifCond .lt 14, 3) ∧ okop dsX9_isMatedRightly_0 14 = true) ∧ (decode dsX9_isMatedRightly_0 17 = .ok (.aload_n 1, 1) ∧ okop dsX9_isMatedRightly_0 17 = true) := by decide +kernel
theorem dX9_isMatedRightly_0 : decode cX9_isMatedRightly 0 = .ok (.aload_n 1, 1) := dgq (p := 0) daX9_isMatedRightly_0 dbX9_isMatedRightly_0.1
theorem dX9_isMatedRightly_1 : decode cX9_isMatedRightly 1 = .ok (.getfield 396, 3) := dgq (p := 1) daX9_isMatedRightly_0 dbX9_isMatedRightly_0.2.1
theorem dX9_isMatedRightly_4 : decode cX9_isMatedRightly 4 = .ok (.iconst (-1), 1) := dgq (p := 4) daX9_isMatedRightly_0 dbX9_isMatedRightly_0.2.2.1
theorem dX9_isMatedRightly_5 : decode cX9_isMatedRightly 5 = .ok (.if_icmp .ne 5, 3) := dgq (p := 5) daX9_isMatedRightly_0 dbX9_isMatedRightly_0.2.2.2.1
theorem dX9_isMatedRightly_8 : decode cX9_isMatedRightly 8 = .ok (.iconst 1, 1) := dgq (p := 8) daX9_isMatedRightly_0 dbX9_isMatedRightly_0.2.2.2.2.1
theorem dX9_isMatedRightly_9 : decode cX9_isMatedRightly 9 = .ok (.ireturn, 1) := dgq (p := 9) daX9_isMatedRightly_0 dbX9_isMatedRightly_0.2.2.2.2.2.1
theorem dX9_isMatedRightly_10 : decode cX9_isMatedRightly 10 = .ok (.aload_n 1, 1) := dgq (p := 10) daX9_isMatedRightly_0 dbX9_isMatedRightly_0.2.2.2.2.2.2.1
theorem dX9_isMatedRightly_11 : decode cX9_isMatedRightly 11 = .ok (.getfield 396, 3) := dgq (p := 11) daX9_isMatedRightly_0 dbX9_isMatedRightly_0.2.2.2.2.2.2.2.1
theorem dX9_isMatedRightly_14 : decode cX9_isMatedRightly 14 = .ok (.ifCond .lt 14, 3) := dgq (p := 14) daX9_isMatedRightly_0 dbX9_isMatedRightly_0.2.2.2.2.2.2.2.2.1
theorem dX9_isMatedRightly_17 : decode cX9_isMatedRightly 17 = .ok (.aload_n 1, 1) := dgq (p := 17) daX9_isMatedRightly_0 dbX9_isMatedRightly_0.2.2.2.2.2.2.2.2.2
def dsX9_isMatedRightly_18 : ByteArray := ⟨#[180, 1, 140, 42, 180, 0, 64, 161, 0, 5, 3, 172, 42, 180, 0, 11, 43, 180, 1, 140]⟩
theorem daX9_isMatedRightly_18 : agB cX9_isMatedRightly dsX9_isMatedRightly_18 18 := agB_of (n := 20) (by decide +kernel)
theorem dbX9_isMatedRightly_18 : (decode dsX9_isMatedRightly_18 0 = .ok (.getfield 396, 3) ∧ okop dsX9_isMatedRightly_18 0 = true) ∧ (decode dsX9_isMatedRightly_18 3 = .ok (.aload_n 0, 1) ∧ okop dsX9_isMatedRightly_18 3 = true) ∧ (decode dsX9_isMatedRightly_18 4 = .ok (.getfield 64, 3) ∧ okop dsX9_isMatedRightly_18 4 = true) ∧ (decode dsX9_isMatedRightly_18 7 = .ok (.if_icmp .lt 5, 3) ∧ okop dsX9_isMatedRightly_18 7 = true) ∧ (decode dsX9_isMatedRightly_18 10 = .ok (.iconst 0, 1) ∧ okop dsX9_isMatedRightly_18 10 = true) ∧ (decode dsX9_isMatedRightly_18 11 = .ok (.ireturn, 1) ∧ okop dsX9_isMatedRightly_18 11 = true) ∧ (decode dsX9_isMatedRightly_18 12 = .ok (.aload_n 0, 1) ∧ okop dsX9_isMatedRightly_18 12 = true) ∧ (decode dsX9_isMatedRightly_18 13 = .ok (.getfield 11, 3) ∧ okop dsX9_isMatedRightly_18 13 = true) ∧ (decode dsX9_isMatedRightly_18 16 = .ok (.aload_n 1, 1) ∧ okop dsX9_isMatedRightly_18 16 = true) ∧ (decode dsX9_isMatedRightly_18 17 = .ok (.getfield 396, 3) ∧ okop dsX9_isMatedRightly_18 17 = true) := by decide +kernel
theorem dX9_isMatedRightly_18 : decode cX9_isMatedRightly 18 = .ok (.getfield 396, 3) := dgq (p := 0) daX9_isMatedRightly_18 dbX9_isMatedRightly_18.1
theorem dX9_isMatedRightly_21 : decode cX9_isMatedRightly 21 = .ok (.aload_n 0, 1) := dgq (p := 3) daX9_isMatedRightly_18 dbX9_isMatedRightly_18.2.1
theorem dX9_isMatedRightly_22 : decode cX9_isMatedRightly 22 = .ok (.getfield 64, 3) := dgq (p := 4) daX9_isMatedRightly_18 dbX9_isMatedRightly_18.2.2.1
theorem dX9_isMatedRightly_25 : decode cX9_isMatedRightly 25 = .ok (.if_icmp .lt 5, 3) := dgq (p := 7) daX9_isMatedRightly_18 dbX9_isMatedRightly_18.2.2.2.1
theorem dX9_isMatedRightly_28 : decode cX9_isMatedRightly 28 = .ok (.iconst 0, 1) := dgq (p := 10) daX9_isMatedRightly_18 dbX9_isMatedRightly_18.2.2.2.2.1
theorem dX9_isMatedRightly_29 : decode cX9_isMatedRightly 29 = .ok (.ireturn, 1) := dgq (p := 11) daX9_isMatedRightly_18 dbX9_isMatedRightly_18.2.2.2.2.2.1
theorem dX9_isMatedRightly_30 : decode cX9_isMatedRightly 30 = .ok (.aload_n 0, 1) := dgq (p := 12) daX9_isMatedRightly_18 dbX9_isMatedRightly_18.2.2.2.2.2.2.1
theorem dX9_isMatedRightly_31 : decode cX9_isMatedRightly 31 = .ok (.getfield 11, 3) := dgq (p := 13) daX9_isMatedRightly_18 dbX9_isMatedRightly_18.2.2.2.2.2.2.2.1
theorem dX9_isMatedRightly_34 : decode cX9_isMatedRightly 34 = .ok (.aload_n 1, 1) := dgq (p := 16) daX9_isMatedRightly_18 dbX9_isMatedRightly_18.2.2.2.2.2.2.2.2.1
theorem dX9_isMatedRightly_35 : decode cX9_isMatedRightly 35 = .ok (.getfield 396, 3) := dgq (p := 17) daX9_isMatedRightly_18 dbX9_isMatedRightly_18.2.2.2.2.2.2.2.2.2
def dsX9_isMatedRightly_38 : ByteArray := ⟨#[50, 77, 43, 44, 165, 0, 33, 44, 180, 1, 140, 43, 180, 1, 163, 160, 0, 22]⟩
theorem daX9_isMatedRightly_38 : agB cX9_isMatedRightly dsX9_isMatedRightly_38 38 := agB_of (n := 18) (by decide +kernel)
theorem dbX9_isMatedRightly_38 : (decode dsX9_isMatedRightly_38 0 = .ok (.aaload, 1) ∧ okop dsX9_isMatedRightly_38 0 = true) ∧ (decode dsX9_isMatedRightly_38 1 = .ok (.astore_n 2, 1) ∧ okop dsX9_isMatedRightly_38 1 = true) ∧ (decode dsX9_isMatedRightly_38 2 = .ok (.aload_n 1, 1) ∧ okop dsX9_isMatedRightly_38 2 = true) ∧ (decode dsX9_isMatedRightly_38 3 = .ok (.aload_n 2, 1) ∧ okop dsX9_isMatedRightly_38 3 = true) ∧ (decode dsX9_isMatedRightly_38 4 = .ok (.if_acmp .eq 33, 3) ∧ okop dsX9_isMatedRightly_38 4 = true) ∧ (decode dsX9_isMatedRightly_38 7 = .ok (.aload_n 2, 1) ∧ okop dsX9_isMatedRightly_38 7 = true) ∧ (decode dsX9_isMatedRightly_38 8 = .ok (.getfield 396, 3) ∧ okop dsX9_isMatedRightly_38 8 = true) ∧ (decode dsX9_isMatedRightly_38 11 = .ok (.aload_n 1, 1) ∧ okop dsX9_isMatedRightly_38 11 = true) ∧ (decode dsX9_isMatedRightly_38 12 = .ok (.getfield 419, 3) ∧ okop dsX9_isMatedRightly_38 12 = true) ∧ (decode dsX9_isMatedRightly_38 15 = .ok (.if_icmp .ne 22, 3) ∧ okop dsX9_isMatedRightly_38 15 = true) := by decide +kernel
theorem dX9_isMatedRightly_38 : decode cX9_isMatedRightly 38 = .ok (.aaload, 1) := dgq (p := 0) daX9_isMatedRightly_38 dbX9_isMatedRightly_38.1
theorem dX9_isMatedRightly_39 : decode cX9_isMatedRightly 39 = .ok (.astore_n 2, 1) := dgq (p := 1) daX9_isMatedRightly_38 dbX9_isMatedRightly_38.2.1
theorem dX9_isMatedRightly_40 : decode cX9_isMatedRightly 40 = .ok (.aload_n 1, 1) := dgq (p := 2) daX9_isMatedRightly_38 dbX9_isMatedRightly_38.2.2.1
theorem dX9_isMatedRightly_41 : decode cX9_isMatedRightly 41 = .ok (.aload_n 2, 1) := dgq (p := 3) daX9_isMatedRightly_38 dbX9_isMatedRightly_38.2.2.2.1
theorem dX9_isMatedRightly_42 : decode cX9_isMatedRightly 42 = .ok (.if_acmp .eq 33, 3) := dgq (p := 4) daX9_isMatedRightly_38 dbX9_isMatedRightly_38.2.2.2.2.1
theorem dX9_isMatedRightly_45 : decode cX9_isMatedRightly 45 = .ok (.aload_n 2, 1) := dgq (p := 7) daX9_isMatedRightly_38 dbX9_isMatedRightly_38.2.2.2.2.2.1
theorem dX9_isMatedRightly_46 : decode cX9_isMatedRightly 46 = .ok (.getfield 396, 3) := dgq (p := 8) daX9_isMatedRightly_38 dbX9_isMatedRightly_38.2.2.2.2.2.2.1
theorem dX9_isMatedRightly_49 : decode cX9_isMatedRightly 49 = .ok (.aload_n 1, 1) := dgq (p := 11) daX9_isMatedRightly_38 dbX9_isMatedRightly_38.2.2.2.2.2.2.2.1
theorem dX9_isMatedRightly_50 : decode cX9_isMatedRightly 50 = .ok (.getfield 419, 3) := dgq (p := 12) daX9_isMatedRightly_38 dbX9_isMatedRightly_38.2.2.2.2.2.2.2.2.1
theorem dX9_isMatedRightly_53 : decode cX9_isMatedRightly 53 = .ok (.if_icmp .ne 22, 3) := dgq (p := 15) daX9_isMatedRightly_38 dbX9_isMatedRightly_38.2.2.2.2.2.2.2.2.2
def dsX9_isMatedRightly_56 : ByteArray := ⟨#[43, 180, 0, 81, 153, 0, 15, 43, 44, 182, 0, 115, 153, 0, 7, 4, 167, 0, 4, 3]⟩
theorem daX9_isMatedRightly_56 : agB cX9_isMatedRightly dsX9_isMatedRightly_56 56 := agB_of (n := 20) (by decide +kernel)
theorem dbX9_isMatedRightly_56 : (decode dsX9_isMatedRightly_56 0 = .ok (.aload_n 1, 1) ∧ okop dsX9_isMatedRightly_56 0 = true) ∧ (decode dsX9_isMatedRightly_56 1 = .ok (.getfield 81, 3) ∧ okop dsX9_isMatedRightly_56 1 = true) ∧ (decode dsX9_isMatedRightly_56 4 = .ok (.ifCond .eq 15, 3) ∧ okop dsX9_isMatedRightly_56 4 = true) ∧ (decode dsX9_isMatedRightly_56 7 = .ok (.aload_n 1, 1) ∧ okop dsX9_isMatedRightly_56 7 = true) ∧ (decode dsX9_isMatedRightly_56 8 = .ok (.aload_n 2, 1) ∧ okop dsX9_isMatedRightly_56 8 = true) ∧ (decode dsX9_isMatedRightly_56 9 = .ok (.invokevirtual 115, 3) ∧ okop dsX9_isMatedRightly_56 9 = true) ∧ (decode dsX9_isMatedRightly_56 12 = .ok (.ifCond .eq 7, 3) ∧ okop dsX9_isMatedRightly_56 12 = true) ∧ (decode dsX9_isMatedRightly_56 15 = .ok (.iconst 1, 1) ∧ okop dsX9_isMatedRightly_56 15 = true) ∧ (decode dsX9_isMatedRightly_56 16 = .ok (.goto 4, 3) ∧ okop dsX9_isMatedRightly_56 16 = true) ∧ (decode dsX9_isMatedRightly_56 19 = .ok (.iconst 0, 1) ∧ okop dsX9_isMatedRightly_56 19 = true) := by decide +kernel
theorem dX9_isMatedRightly_56 : decode cX9_isMatedRightly 56 = .ok (.aload_n 1, 1) := dgq (p := 0) daX9_isMatedRightly_56 dbX9_isMatedRightly_56.1
theorem dX9_isMatedRightly_57 : decode cX9_isMatedRightly 57 = .ok (.getfield 81, 3) := dgq (p := 1) daX9_isMatedRightly_56 dbX9_isMatedRightly_56.2.1
theorem dX9_isMatedRightly_60 : decode cX9_isMatedRightly 60 = .ok (.ifCond .eq 15, 3) := dgq (p := 4) daX9_isMatedRightly_56 dbX9_isMatedRightly_56.2.2.1
theorem dX9_isMatedRightly_63 : decode cX9_isMatedRightly 63 = .ok (.aload_n 1, 1) := dgq (p := 7) daX9_isMatedRightly_56 dbX9_isMatedRightly_56.2.2.2.1
theorem dX9_isMatedRightly_64 : decode cX9_isMatedRightly 64 = .ok (.aload_n 2, 1) := dgq (p := 8) daX9_isMatedRightly_56 dbX9_isMatedRightly_56.2.2.2.2.1
theorem dX9_isMatedRightly_65 : decode cX9_isMatedRightly 65 = .ok (.invokevirtual 115, 3) := dgq (p := 9) daX9_isMatedRightly_56 dbX9_isMatedRightly_56.2.2.2.2.2.1
theorem dX9_isMatedRightly_68 : decode cX9_isMatedRightly 68 = .ok (.ifCond .eq 7, 3) := dgq (p := 12) daX9_isMatedRightly_56 dbX9_isMatedRightly_56.2.2.2.2.2.2.1
theorem dX9_isMatedRightly_71 : decode cX9_isMatedRightly 71 = .ok (.iconst 1, 1) := dgq (p := 15) daX9_isMatedRightly_56 dbX9_isMatedRightly_56.2.2.2.2.2.2.2.1
theorem dX9_isMatedRightly_72 : decode cX9_isMatedRightly 72 = .ok (.goto 4, 3) := dgq (p := 16) daX9_isMatedRightly_56 dbX9_isMatedRightly_56.2.2.2.2.2.2.2.2.1
theorem dX9_isMatedRightly_75 : decode cX9_isMatedRightly 75 = .ok (.iconst 0, 1) := dgq (p := 19) daX9_isMatedRightly_56 dbX9_isMatedRightly_56.2.2.2.2.2.2.2.2.2
theorem dX9_isMatedRightly_76 : decode cX9_isMatedRightly 76 = .ok (.ireturn, 1) := by decide +kernel
set_option maxRecDepth 20000 in
theorem ggX9_rollsAsTold_X6_take : GoodIn wsX9_rollsAsTold wsX6_take := goodIn_ca (goodIn_ca (goodIn_ca (goodIn_ca (goodIn_q _ [6, 7, 8, 9, 10, 11, 12, 13, 14, 15, 16, 17, 18, 19, 20, 21, 22, 23, 24, 25, 26, 5, 27] rfl (by decide +kernel)) (goodIn_sub (fun _ h => (List.mem_cons_of_mem _ (List.mem_append_left _ (List.mem_append_left _ (List.mem_append_left _ (List.mem_append_right _ h)))))) tg_wsX10)) (goodIn_sub (fun _ h => (List.mem_cons_of_mem _ (List.mem_append_left _ (List.mem_append_left _ (List.mem_append_right _ h))))) tg_wsX60)) (goodIn_sub (fun _ h => List.mem_cons_of_mem _ (List.mem_append_left _ (List.mem_append_right _ h))) (by decide +kernel))) (goodIn_sub (fun _ h => List.mem_cons_of_mem _ (List.mem_append_right _ h)) (by decide +kernel))
set_option maxRecDepth 20000 in
theorem gX9_rollsAsTold_X6_take : GoodIn wsX9_rollsAsTold (wsV RX9 365 RX6 yX6_take wsX6_take) := goodIn_app (goodIn_q _ [2, 3, 4, 5] rfl (by decide +kernel)) ggX9_rollsAsTold_X6_take
set_option maxRecDepth 20000 in
theorem ggX9_rollsAsTold_X6_quietStart : GoodIn wsX9_rollsAsTold wsX6_quietStart := goodIn_ca (goodIn_ca (goodIn_q _ [31, 15, 32, 33, 34, 5, 35, 36, 37, 16, 18, 12, 13, 10, 14, 17, 19, 8, 9, 11, 38, 39, 40, 41] rfl (by decide +kernel)) (goodIn_sub (fun _ h => (List.mem_cons_of_mem _ (List.mem_append_left _ (List.mem_append_left _ (List.mem_append_right _ h))))) tg_wsX60)) (goodIn_sub (fun _ h => List.mem_cons_of_mem _ (List.mem_append_right _ h)) (by decide +kernel))
set_option maxRecDepth 20000 in
theorem gX9_rollsAsTold_X6_quietStart : GoodIn wsX9_rollsAsTold (wsV RX9 372 RX6 yX6_quietStart wsX6_quietStart) := goodIn_app (goodIn_q _ [28, 29, 30, 5] rfl (by decide +kernel)) ggX9_rollsAsTold_X6_quietStart
set_option maxRecDepth 20000 in
theorem ggX9_rollsAsTold_X9_isAsRolled : GoodIn wsX9_rollsAsTold wsX9_isAsRolled := goodIn_ca (goodIn_ca (goodIn_ca (goodIn_ca (goodIn_ca (goodIn_q _ [45, 1, 46, 47, 33, 34, 5, 35, 36, 37, 15, 16, 18, 12, 13, 10, 14, 17, 19, 8, 9, 11, 38, 39, 40, 41, 48, 49, 21, 50, 51, 52, 53, 23, 54, 55, 56, 57, 58, 20, 22] rfl (by decide +kernel)) (goodIn_sub (fun _ h => (List.mem_cons_of_mem _ (List.mem_append_left _ (List.mem_append_left _ (List.mem_append_left _ (List.mem_append_left _ (List.mem_append_right _ h))))))) tg_wsX90)) (goodIn_sub (fun _ h => (List.mem_cons_of_mem _ (List.mem_append_left _ (List.mem_append_left _ (List.mem_append_left _ (List.mem_append_right _ h)))))) tg_wsX10)) (goodIn_sub (fun _ h => (List.mem_cons_of_mem _ (List.mem_append_left _ (List.mem_append_left _ (List.mem_append_right _ h))))) tg_wsX60)) (goodIn_sub (fun _ h => List.mem_cons_of_mem _ (List.mem_append_right _ h)) (by decide +kernel))) (goodIn_sub (fun _ h => List.mem_cons_of_mem _ (List.mem_append_left _ (List.mem_append_right _ h))) (by decide +kernel))
set_option maxRecDepth 20000 in
theorem gX9_rollsAsTold_X9_isAsRolled : GoodIn wsX9_rollsAsTold (wsV RX9 509 RX9 yX9_isAsRolled wsX9_isAsRolled) := goodIn_app (goodIn_q _ [42, 43, 44, 21] rfl (by decide +kernel)) ggX9_rollsAsTold_X9_isAsRolled
def dsX9_rollsAsTold_0 : ByteArray := ⟨#[42, 180, 0, 37, 43, 44, 182, 1, 109, 42, 180, 0, 37, 182, 1, 116, 62, 42]⟩
theorem daX9_rollsAsTold_0 : agB cX9_rollsAsTold dsX9_rollsAsTold_0 0 := agB_of (n := 18) (by decide +kernel)
theorem dbX9_rollsAsTold_0 : (decode dsX9_rollsAsTold_0 0 = .ok (.aload_n 0, 1) ∧ okop dsX9_rollsAsTold_0 0 = true) ∧ (decode dsX9_rollsAsTold_0 1 = .ok (.getfield 37, 3) ∧ okop dsX9_rollsAsTold_0 1 = true) ∧ (decode dsX9_rollsAsTold_0 4 = .ok (.aload_n 1, 1) ∧ okop dsX9_rollsAsTold_0 4 = true) ∧ (decode dsX9_rollsAsTold_0 5 = .ok (.aload_n 2, 1) ∧ okop dsX9_rollsAsTold_0 5 = true) ∧ (decode dsX9_rollsAsTold_0 6 = .ok (.invokevirtual 365, 3) ∧ okop dsX9_rollsAsTold_0 6 = true) ∧ (decode dsX9_rollsAsTold_0 9 = .ok (.aload_n 0, 1) ∧ okop dsX9_rollsAsTold_0 9 = true) ∧ (decode dsX9_rollsAsTold_0 10 = .ok (.getfield 37, 3) ∧ okop dsX9_rollsAsTold_0 10 = true) ∧ (decode dsX9_rollsAsTold_0 13 = .ok (.invokevirtual 372, 3) ∧ okop dsX9_rollsAsTold_0 13 = true) ∧ (decode dsX9_rollsAsTold_0 16 = .ok (.istore_n 3, 1) ∧ okop dsX9_rollsAsTold_0 16 = true) ∧ (decode dsX9_rollsAsTold_0 17 = .ok (.aload_n 0, 1) ∧ okop dsX9_rollsAsTold_0 17 = true) := by decide +kernel
theorem dX9_rollsAsTold_0 : decode cX9_rollsAsTold 0 = .ok (.aload_n 0, 1) := dgq (p := 0) daX9_rollsAsTold_0 dbX9_rollsAsTold_0.1
theorem dX9_rollsAsTold_1 : decode cX9_rollsAsTold 1 = .ok (.getfield 37, 3) := dgq (p := 1) daX9_rollsAsTold_0 dbX9_rollsAsTold_0.2.1
theorem dX9_rollsAsTold_4 : decode cX9_rollsAsTold 4 = .ok (.aload_n 1, 1) := dgq (p := 4) daX9_rollsAsTold_0 dbX9_rollsAsTold_0.2.2.1
theorem dX9_rollsAsTold_5 : decode cX9_rollsAsTold 5 = .ok (.aload_n 2, 1) := dgq (p := 5) daX9_rollsAsTold_0 dbX9_rollsAsTold_0.2.2.2.1
theorem dX9_rollsAsTold_6 : decode cX9_rollsAsTold 6 = .ok (.invokevirtual 365, 3) := dgq (p := 6) daX9_rollsAsTold_0 dbX9_rollsAsTold_0.2.2.2.2.1
theorem dX9_rollsAsTold_9 : decode cX9_rollsAsTold 9 = .ok (.aload_n 0, 1) := dgq (p := 9) daX9_rollsAsTold_0 dbX9_rollsAsTold_0.2.2.2.2.2.1
theorem dX9_rollsAsTold_10 : decode cX9_rollsAsTold 10 = .ok (.getfield 37, 3) := dgq (p := 10) daX9_rollsAsTold_0 dbX9_rollsAsTold_0.2.2.2.2.2.2.1
theorem dX9_rollsAsTold_13 : decode cX9_rollsAsTold 13 = .ok (.invokevirtual 372, 3) := dgq (p := 13) daX9_rollsAsTold_0 dbX9_rollsAsTold_0.2.2.2.2.2.2.2.1
theorem dX9_rollsAsTold_16 : decode cX9_rollsAsTold 16 = .ok (.istore_n 3, 1) := dgq (p := 16) daX9_rollsAsTold_0 dbX9_rollsAsTold_0.2.2.2.2.2.2.2.2.1
theorem dX9_rollsAsTold_17 : decode cX9_rollsAsTold 17 = .ok (.aload_n 0, 1) := dgq (p := 17) daX9_rollsAsTold_0 dbX9_rollsAsTold_0.2.2.2.2.2.2.2.2.2
def dsX9_rollsAsTold_18 : ByteArray := ⟨#[43, 44, 3, 182, 1, 253, 153, 0, 21, 29, 153, 0, 13, 42, 43, 44]⟩
theorem daX9_rollsAsTold_18 : agB cX9_rollsAsTold dsX9_rollsAsTold_18 18 := agB_of (n := 16) (by decide +kernel)
theorem dbX9_rollsAsTold_18 : (decode dsX9_rollsAsTold_18 0 = .ok (.aload_n 1, 1) ∧ okop dsX9_rollsAsTold_18 0 = true) ∧ (decode dsX9_rollsAsTold_18 1 = .ok (.aload_n 2, 1) ∧ okop dsX9_rollsAsTold_18 1 = true) ∧ (decode dsX9_rollsAsTold_18 2 = .ok (.iconst 0, 1) ∧ okop dsX9_rollsAsTold_18 2 = true) ∧ (decode dsX9_rollsAsTold_18 3 = .ok (.invokevirtual 509, 3) ∧ okop dsX9_rollsAsTold_18 3 = true) ∧ (decode dsX9_rollsAsTold_18 6 = .ok (.ifCond .eq 21, 3) ∧ okop dsX9_rollsAsTold_18 6 = true) ∧ (decode dsX9_rollsAsTold_18 9 = .ok (.iload_n 3, 1) ∧ okop dsX9_rollsAsTold_18 9 = true) ∧ (decode dsX9_rollsAsTold_18 10 = .ok (.ifCond .eq 13, 3) ∧ okop dsX9_rollsAsTold_18 10 = true) ∧ (decode dsX9_rollsAsTold_18 13 = .ok (.aload_n 0, 1) ∧ okop dsX9_rollsAsTold_18 13 = true) ∧ (decode dsX9_rollsAsTold_18 14 = .ok (.aload_n 1, 1) ∧ okop dsX9_rollsAsTold_18 14 = true) ∧ (decode dsX9_rollsAsTold_18 15 = .ok (.aload_n 2, 1) ∧ okop dsX9_rollsAsTold_18 15 = true) := by decide +kernel
theorem dX9_rollsAsTold_18 : decode cX9_rollsAsTold 18 = .ok (.aload_n 1, 1) := dgq (p := 0) daX9_rollsAsTold_18 dbX9_rollsAsTold_18.1
theorem dX9_rollsAsTold_19 : decode cX9_rollsAsTold 19 = .ok (.aload_n 2, 1) := dgq (p := 1) daX9_rollsAsTold_18 dbX9_rollsAsTold_18.2.1
theorem dX9_rollsAsTold_20 : decode cX9_rollsAsTold 20 = .ok (.iconst 0, 1) := dgq (p := 2) daX9_rollsAsTold_18 dbX9_rollsAsTold_18.2.2.1
theorem dX9_rollsAsTold_21 : decode cX9_rollsAsTold 21 = .ok (.invokevirtual 509, 3) := dgq (p := 3) daX9_rollsAsTold_18 dbX9_rollsAsTold_18.2.2.2.1
theorem dX9_rollsAsTold_24 : decode cX9_rollsAsTold 24 = .ok (.ifCond .eq 21, 3) := dgq (p := 6) daX9_rollsAsTold_18 dbX9_rollsAsTold_18.2.2.2.2.1
theorem dX9_rollsAsTold_27 : decode cX9_rollsAsTold 27 = .ok (.iload_n 3, 1) := dgq (p := 9) daX9_rollsAsTold_18 dbX9_rollsAsTold_18.2.2.2.2.2.1
theorem dX9_rollsAsTold_28 : decode cX9_rollsAsTold 28 = .ok (.ifCond .eq 13, 3) := dgq (p := 10) daX9_rollsAsTold_18 dbX9_rollsAsTold_18.2.2.2.2.2.2.1
theorem dX9_rollsAsTold_31 : decode cX9_rollsAsTold 31 = .ok (.aload_n 0, 1) := dgq (p := 13) daX9_rollsAsTold_18 dbX9_rollsAsTold_18.2.2.2.2.2.2.2.1
theorem dX9_rollsAsTold_32 : decode cX9_rollsAsTold 32 = .ok (.aload_n 1, 1) := dgq (p := 14) daX9_rollsAsTold_18 dbX9_rollsAsTold_18.2.2.2.2.2.2.2.2.1
theorem dX9_rollsAsTold_33 : decode cX9_rollsAsTold 33 = .ok (.aload_n 2, 1) := dgq (p := 15) daX9_rollsAsTold_18 dbX9_rollsAsTold_18.2.2.2.2.2.2.2.2.2
def dsX9_rollsAsTold_34 : ByteArray := ⟨#[29, 182, 1, 253, 153, 0, 7, 4, 167, 0, 4, 3, 172]⟩
theorem daX9_rollsAsTold_34 : agB cX9_rollsAsTold dsX9_rollsAsTold_34 34 := agB_of (n := 13) (by decide +kernel)
theorem dbX9_rollsAsTold_34 : (decode dsX9_rollsAsTold_34 0 = .ok (.iload_n 3, 1) ∧ okop dsX9_rollsAsTold_34 0 = true) ∧ (decode dsX9_rollsAsTold_34 1 = .ok (.invokevirtual 509, 3) ∧ okop dsX9_rollsAsTold_34 1 = true) ∧ (decode dsX9_rollsAsTold_34 4 = .ok (.ifCond .eq 7, 3) ∧ okop dsX9_rollsAsTold_34 4 = true) ∧ (decode dsX9_rollsAsTold_34 7 = .ok (.iconst 1, 1) ∧ okop dsX9_rollsAsTold_34 7 = true) ∧ (decode dsX9_rollsAsTold_34 8 = .ok (.goto 4, 3) ∧ okop dsX9_rollsAsTold_34 8 = true) ∧ (decode dsX9_rollsAsTold_34 11 = .ok (.iconst 0, 1) ∧ okop dsX9_rollsAsTold_34 11 = true) ∧ (decode dsX9_rollsAsTold_34 12 = .ok (.ireturn, 1) ∧ okop dsX9_rollsAsTold_34 12 = true) := by decide +kernel
theorem dX9_rollsAsTold_34 : decode cX9_rollsAsTold 34 = .ok (.iload_n 3, 1) := dgq (p := 0) daX9_rollsAsTold_34 dbX9_rollsAsTold_34.1
theorem dX9_rollsAsTold_35 : decode cX9_rollsAsTold 35 = .ok (.invokevirtual 509, 3) := dgq (p := 1) daX9_rollsAsTold_34 dbX9_rollsAsTold_34.2.1
theorem dX9_rollsAsTold_38 : decode cX9_rollsAsTold 38 = .ok (.ifCond .eq 7, 3) := dgq (p := 4) daX9_rollsAsTold_34 dbX9_rollsAsTold_34.2.2.1
theorem dX9_rollsAsTold_41 : decode cX9_rollsAsTold 41 = .ok (.iconst 1, 1) := dgq (p := 7) daX9_rollsAsTold_34 dbX9_rollsAsTold_34.2.2.2.1
theorem dX9_rollsAsTold_42 : decode cX9_rollsAsTold 42 = .ok (.goto 4, 3) := dgq (p := 8) daX9_rollsAsTold_34 dbX9_rollsAsTold_34.2.2.2.2.1
theorem dX9_rollsAsTold_45 : decode cX9_rollsAsTold 45 = .ok (.iconst 0, 1) := dgq (p := 11) daX9_rollsAsTold_34 dbX9_rollsAsTold_34.2.2.2.2.2.1
theorem dX9_rollsAsTold_46 : decode cX9_rollsAsTold 46 = .ok (.ireturn, 1) := dgq (p := 12) daX9_rollsAsTold_34 dbX9_rollsAsTold_34.2.2.2.2.2.2
set_option maxRecDepth 20000 in
theorem ggX9_isAsRolled_X6_peakFrom : GoodIn wsX9_isAsRolled wsX6_peakFrom := goodIn_ca (goodIn_ca (goodIn_q _ [7, 8, 9, 10, 11, 12, 13, 14, 15, 16, 17, 18, 19, 20, 21, 22, 23, 24, 25] rfl (by decide +kernel)) (goodIn_sub (fun _ h => (List.mem_cons_of_mem _ (List.mem_append_left _ (List.mem_append_left _ (List.mem_append_right _ h))))) tg_wsX60)) (goodIn_sub (fun _ h => List.mem_cons_of_mem _ (List.mem_append_left _ (List.mem_append_right _ h))) (by decide +kernel))
set_option maxRecDepth 20000 in
theorem gX9_isAsRolled_X6_peakFrom : GoodIn wsX9_isAsRolled (wsV RX9 369 RX6 yX6_peakFrom wsX6_peakFrom) := goodIn_app (goodIn_q _ [3, 4, 5, 6] rfl (by decide +kernel)) ggX9_isAsRolled_X6_peakFrom
set_option maxRecDepth 20000 in
theorem ggX9_isAsRolled_X9_rolledPeak : GoodIn wsX9_isAsRolled wsX9_rolledPeak := goodIn_ca (goodIn_ca (goodIn_ca (goodIn_q _ [29, 30, 31, 32, 33, 14, 15, 16, 34, 20, 21, 35, 36, 28, 37, 38, 39, 40] rfl (by decide +kernel)) (goodIn_sub (fun _ h => (List.mem_cons_of_mem _ (List.mem_append_left _ (List.mem_append_left _ (List.mem_append_left _ (List.mem_append_right _ h)))))) tg_wsX10)) (goodIn_sub (fun _ h => List.mem_cons_of_mem _ (List.mem_append_left _ (List.mem_append_right _ h))) (by decide +kernel))) (goodIn_sub (fun _ h => List.mem_cons_of_mem _ (List.mem_append_right _ h)) (by decide +kernel))
set_option maxRecDepth 20000 in
theorem gX9_isAsRolled_X9_rolledPeak : GoodIn wsX9_isAsRolled (va_wsS RX9 513 yX9_rolledPeak wsX9_rolledPeak) := goodIn_app (goodIn_q _ [26, 27, 28] rfl (by decide +kernel)) ggX9_isAsRolled_X9_rolledPeak
def dsX9_isAsRolled_0 : ByteArray := ⟨#[42, 180, 0, 37, 29, 182, 1, 113, 54, 4, 21, 4, 43, 44, 29, 184, 2, 1]⟩
theorem daX9_isAsRolled_0 : agB cX9_isAsRolled dsX9_isAsRolled_0 0 := agB_of (n := 18) (by decide +kernel)
theorem dbX9_isAsRolled_0 : (decode dsX9_isAsRolled_0 0 = .ok (.aload_n 0, 1) ∧ okop dsX9_isAsRolled_0 0 = true) ∧ (decode dsX9_isAsRolled_0 1 = .ok (.getfield 37, 3) ∧ okop dsX9_isAsRolled_0 1 = true) ∧ (decode dsX9_isAsRolled_0 4 = .ok (.iload_n 3, 1) ∧ okop dsX9_isAsRolled_0 4 = true) ∧ (decode dsX9_isAsRolled_0 5 = .ok (.invokevirtual 369, 3) ∧ okop dsX9_isAsRolled_0 5 = true) ∧ (decode dsX9_isAsRolled_0 8 = .ok (.istore 4, 2) ∧ okop dsX9_isAsRolled_0 8 = true) ∧ (decode dsX9_isAsRolled_0 10 = .ok (.iload 4, 2) ∧ okop dsX9_isAsRolled_0 10 = true) ∧ (decode dsX9_isAsRolled_0 12 = .ok (.aload_n 1, 1) ∧ okop dsX9_isAsRolled_0 12 = true) ∧ (decode dsX9_isAsRolled_0 13 = .ok (.aload_n 2, 1) ∧ okop dsX9_isAsRolled_0 13 = true) ∧ (decode dsX9_isAsRolled_0 14 = .ok (.iload_n 3, 1) ∧ okop dsX9_isAsRolled_0 14 = true) ∧ (decode dsX9_isAsRolled_0 15 = .ok (.invokestatic 513, 3) ∧ okop dsX9_isAsRolled_0 15 = true) := by decide +kernel
theorem dX9_isAsRolled_0 : decode cX9_isAsRolled 0 = .ok (.aload_n 0, 1) := dgq (p := 0) daX9_isAsRolled_0 dbX9_isAsRolled_0.1
theorem dX9_isAsRolled_1 : decode cX9_isAsRolled 1 = .ok (.getfield 37, 3) := dgq (p := 1) daX9_isAsRolled_0 dbX9_isAsRolled_0.2.1
theorem dX9_isAsRolled_4 : decode cX9_isAsRolled 4 = .ok (.iload_n 3, 1) := dgq (p := 4) daX9_isAsRolled_0 dbX9_isAsRolled_0.2.2.1
theorem dX9_isAsRolled_5 : decode cX9_isAsRolled 5 = .ok (.invokevirtual 369, 3) := dgq (p := 5) daX9_isAsRolled_0 dbX9_isAsRolled_0.2.2.2.1
theorem dX9_isAsRolled_8 : decode cX9_isAsRolled 8 = .ok (.istore 4, 2) := dgq (p := 8) daX9_isAsRolled_0 dbX9_isAsRolled_0.2.2.2.2.1
theorem dX9_isAsRolled_10 : decode cX9_isAsRolled 10 = .ok (.iload 4, 2) := dgq (p := 10) daX9_isAsRolled_0 dbX9_isAsRolled_0.2.2.2.2.2.1
theorem dX9_isAsRolled_12 : decode cX9_isAsRolled 12 = .ok (.aload_n 1, 1) := dgq (p := 12) daX9_isAsRolled_0 dbX9_isAsRolled_0.2.2.2.2.2.2.1
theorem dX9_isAsRolled_13 : decode cX9_isAsRolled 13 = .ok (.aload_n 2, 1) := dgq (p := 13) daX9_isAsRolled_0 dbX9_isAsRolled_0.2.2.2.2.2.2.2.1
theorem dX9_isAsRolled_14 : decode cX9_isAsRolled 14 = .ok (.iload_n 3, 1) := dgq (p := 14) daX9_isAsRolled_0 dbX9_isAsRolled_0.2.2.2.2.2.2.2.2.1
theorem dX9_isAsRolled_15 : decode cX9_isAsRolled 15 = .ok (.invokestatic 513, 3) := dgq (p := 15) daX9_isAsRolled_0 dbX9_isAsRolled_0.2.2.2.2.2.2.2.2.2
def dsX9_isAsRolled_18 : ByteArray := ⟨#[160, 0, 23, 21, 4, 43, 180, 1, 92, 44, 180, 1, 92, 96, 5, 96, 163, 0, 7]⟩
theorem daX9_isAsRolled_18 : agB cX9_isAsRolled dsX9_isAsRolled_18 18 := agB_of (n := 19) (by decide +kernel)
theorem dbX9_isAsRolled_18 : (decode dsX9_isAsRolled_18 0 = .ok (.if_icmp .ne 23, 3) ∧ okop dsX9_isAsRolled_18 0 = true) ∧ (decode dsX9_isAsRolled_18 3 = .ok (.iload 4, 2) ∧ okop dsX9_isAsRolled_18 3 = true) ∧ (decode dsX9_isAsRolled_18 5 = .ok (.aload_n 1, 1) ∧ okop dsX9_isAsRolled_18 5 = true) ∧ (decode dsX9_isAsRolled_18 6 = .ok (.getfield 348, 3) ∧ okop dsX9_isAsRolled_18 6 = true) ∧ (decode dsX9_isAsRolled_18 9 = .ok (.aload_n 2, 1) ∧ okop dsX9_isAsRolled_18 9 = true) ∧ (decode dsX9_isAsRolled_18 10 = .ok (.getfield 348, 3) ∧ okop dsX9_isAsRolled_18 10 = true) ∧ (decode dsX9_isAsRolled_18 13 = .ok (.iadd, 1) ∧ okop dsX9_isAsRolled_18 13 = true) ∧ (decode dsX9_isAsRolled_18 14 = .ok (.iconst 2, 1) ∧ okop dsX9_isAsRolled_18 14 = true) ∧ (decode dsX9_isAsRolled_18 15 = .ok (.iadd, 1) ∧ okop dsX9_isAsRolled_18 15 = true) ∧ (decode dsX9_isAsRolled_18 16 = .ok (.if_icmp .gt 7, 3) ∧ okop dsX9_isAsRolled_18 16 = true) := by decide +kernel
theorem dX9_isAsRolled_18 : decode cX9_isAsRolled 18 = .ok (.if_icmp .ne 23, 3) := dgq (p := 0) daX9_isAsRolled_18 dbX9_isAsRolled_18.1
theorem dX9_isAsRolled_21 : decode cX9_isAsRolled 21 = .ok (.iload 4, 2) := dgq (p := 3) daX9_isAsRolled_18 dbX9_isAsRolled_18.2.1
theorem dX9_isAsRolled_23 : decode cX9_isAsRolled 23 = .ok (.aload_n 1, 1) := dgq (p := 5) daX9_isAsRolled_18 dbX9_isAsRolled_18.2.2.1
theorem dX9_isAsRolled_24 : decode cX9_isAsRolled 24 = .ok (.getfield 348, 3) := dgq (p := 6) daX9_isAsRolled_18 dbX9_isAsRolled_18.2.2.2.1
theorem dX9_isAsRolled_27 : decode cX9_isAsRolled 27 = .ok (.aload_n 2, 1) := dgq (p := 9) daX9_isAsRolled_18 dbX9_isAsRolled_18.2.2.2.2.1
theorem dX9_isAsRolled_28 : decode cX9_isAsRolled 28 = .ok (.getfield 348, 3) := dgq (p := 10) daX9_isAsRolled_18 dbX9_isAsRolled_18.2.2.2.2.2.1
theorem dX9_isAsRolled_31 : decode cX9_isAsRolled 31 = .ok (.iadd, 1) := dgq (p := 13) daX9_isAsRolled_18 dbX9_isAsRolled_18.2.2.2.2.2.2.1
theorem dX9_isAsRolled_32 : decode cX9_isAsRolled 32 = .ok (.iconst 2, 1) := dgq (p := 14) daX9_isAsRolled_18 dbX9_isAsRolled_18.2.2.2.2.2.2.2.1
theorem dX9_isAsRolled_33 : decode cX9_isAsRolled 33 = .ok (.iadd, 1) := dgq (p := 15) daX9_isAsRolled_18 dbX9_isAsRolled_18.2.2.2.2.2.2.2.2.1
theorem dX9_isAsRolled_34 : decode cX9_isAsRolled 34 = .ok (.if_icmp .gt 7, 3) := dgq (p := 16) daX9_isAsRolled_18 dbX9_isAsRolled_18.2.2.2.2.2.2.2.2.2
def dsX9_isAsRolled_37 : ByteArray := ⟨#[4, 167, 0, 4, 3, 172]⟩
theorem daX9_isAsRolled_37 : agB cX9_isAsRolled dsX9_isAsRolled_37 37 := agB_of (n := 6) (by decide +kernel)
theorem dbX9_isAsRolled_37 : (decode dsX9_isAsRolled_37 0 = .ok (.iconst 1, 1) ∧ okop dsX9_isAsRolled_37 0 = true) ∧ (decode dsX9_isAsRolled_37 1 = .ok (.goto 4, 3) ∧ okop dsX9_isAsRolled_37 1 = true) ∧ (decode dsX9_isAsRolled_37 4 = .ok (.iconst 0, 1) ∧ okop dsX9_isAsRolled_37 4 = true) ∧ (decode dsX9_isAsRolled_37 5 = .ok (.ireturn, 1) ∧ okop dsX9_isAsRolled_37 5 = true) := by decide +kernel
theorem dX9_isAsRolled_37 : decode cX9_isAsRolled 37 = .ok (.iconst 1, 1) := dgq (p := 0) daX9_isAsRolled_37 dbX9_isAsRolled_37.1
theorem dX9_isAsRolled_38 : decode cX9_isAsRolled 38 = .ok (.goto 4, 3) := dgq (p := 1) daX9_isAsRolled_37 dbX9_isAsRolled_37.2.1
theorem dX9_isAsRolled_41 : decode cX9_isAsRolled 41 = .ok (.iconst 0, 1) := dgq (p := 4) daX9_isAsRolled_37 dbX9_isAsRolled_37.2.2.1
theorem dX9_isAsRolled_42 : decode cX9_isAsRolled 42 = .ok (.ireturn, 1) := dgq (p := 5) daX9_isAsRolled_37 dbX9_isAsRolled_37.2.2.2
set_option maxRecDepth 20000 in
theorem ggX9_rolledPeak_X9_commonMultiple : GoodIn wsX9_rolledPeak wsX9_commonMultiple := goodIn_ca (goodIn_q _ [14, 15, 16, 13, 17, 4, 5, 6, 7] rfl (by decide +kernel)) (goodIn_sub (fun _ h => List.mem_cons_of_mem _ (List.mem_append_right _ h)) (by decide +kernel))
set_option maxRecDepth 20000 in
theorem gX9_rolledPeak_X9_commonMultiple : GoodIn wsX9_rolledPeak (va_wsS RX9 305 yX9_commonMultiple wsX9_commonMultiple) := goodIn_app (goodIn_q _ [11, 12, 13] rfl (by decide +kernel)) ggX9_rolledPeak_X9_commonMultiple
def dsX9_rolledPeak_0 : ByteArray := ⟨#[42, 180, 2, 5, 78, 43, 180, 2, 5, 58, 4, 19, 2, 8, 54, 5, 19, 1, 48, 54, 6]⟩
theorem daX9_rolledPeak_0 : agB cX9_rolledPeak dsX9_rolledPeak_0 0 := agB_of (n := 21) (by decide +kernel)
theorem dbX9_rolledPeak_0 : (decode dsX9_rolledPeak_0 0 = .ok (.aload_n 0, 1) ∧ okop dsX9_rolledPeak_0 0 = true) ∧ (decode dsX9_rolledPeak_0 1 = .ok (.getfield 517, 3) ∧ okop dsX9_rolledPeak_0 1 = true) ∧ (decode dsX9_rolledPeak_0 4 = .ok (.astore_n 3, 1) ∧ okop dsX9_rolledPeak_0 4 = true) ∧ (decode dsX9_rolledPeak_0 5 = .ok (.aload_n 1, 1) ∧ okop dsX9_rolledPeak_0 5 = true) ∧ (decode dsX9_rolledPeak_0 6 = .ok (.getfield 517, 3) ∧ okop dsX9_rolledPeak_0 6 = true) ∧ (decode dsX9_rolledPeak_0 9 = .ok (.astore 4, 2) ∧ okop dsX9_rolledPeak_0 9 = true) ∧ (decode dsX9_rolledPeak_0 11 = .ok (.ldc_w 520, 3) ∧ okop dsX9_rolledPeak_0 11 = true) ∧ (decode dsX9_rolledPeak_0 14 = .ok (.istore 5, 2) ∧ okop dsX9_rolledPeak_0 14 = true) ∧ (decode dsX9_rolledPeak_0 16 = .ok (.ldc_w 304, 3) ∧ okop dsX9_rolledPeak_0 16 = true) ∧ (decode dsX9_rolledPeak_0 19 = .ok (.istore 6, 2) ∧ okop dsX9_rolledPeak_0 19 = true) := by decide +kernel
theorem dX9_rolledPeak_0 : decode cX9_rolledPeak 0 = .ok (.aload_n 0, 1) := dgq (p := 0) daX9_rolledPeak_0 dbX9_rolledPeak_0.1
theorem dX9_rolledPeak_1 : decode cX9_rolledPeak 1 = .ok (.getfield 517, 3) := dgq (p := 1) daX9_rolledPeak_0 dbX9_rolledPeak_0.2.1
theorem dX9_rolledPeak_4 : decode cX9_rolledPeak 4 = .ok (.astore_n 3, 1) := dgq (p := 4) daX9_rolledPeak_0 dbX9_rolledPeak_0.2.2.1
theorem dX9_rolledPeak_5 : decode cX9_rolledPeak 5 = .ok (.aload_n 1, 1) := dgq (p := 5) daX9_rolledPeak_0 dbX9_rolledPeak_0.2.2.2.1
theorem dX9_rolledPeak_6 : decode cX9_rolledPeak 6 = .ok (.getfield 517, 3) := dgq (p := 6) daX9_rolledPeak_0 dbX9_rolledPeak_0.2.2.2.2.1
theorem dX9_rolledPeak_9 : decode cX9_rolledPeak 9 = .ok (.astore 4, 2) := dgq (p := 9) daX9_rolledPeak_0 dbX9_rolledPeak_0.2.2.2.2.2.1
theorem dX9_rolledPeak_11 : decode cX9_rolledPeak 11 = .ok (.ldc_w 520, 3) := dgq (p := 11) daX9_rolledPeak_0 dbX9_rolledPeak_0.2.2.2.2.2.2.1
theorem dX9_rolledPeak_14 : decode cX9_rolledPeak 14 = .ok (.istore 5, 2) := dgq (p := 14) daX9_rolledPeak_0 dbX9_rolledPeak_0.2.2.2.2.2.2.2.1
theorem dX9_rolledPeak_16 : decode cX9_rolledPeak 16 = .ok (.ldc_w 304, 3) := dgq (p := 16) daX9_rolledPeak_0 dbX9_rolledPeak_0.2.2.2.2.2.2.2.2.1
theorem dX9_rolledPeak_19 : decode cX9_rolledPeak 19 = .ok (.istore 6, 2) := dgq (p := 19) daX9_rolledPeak_0 dbX9_rolledPeak_0.2.2.2.2.2.2.2.2.2
def dsX9_rolledPeak_21 : ByteArray := ⟨#[45, 190, 25, 4, 190, 184, 1, 49, 54, 7, 3, 54, 8, 28, 54, 9]⟩
theorem daX9_rolledPeak_21 : agB cX9_rolledPeak dsX9_rolledPeak_21 21 := agB_of (n := 16) (by decide +kernel)
theorem dbX9_rolledPeak_21 : (decode dsX9_rolledPeak_21 0 = .ok (.aload_n 3, 1) ∧ okop dsX9_rolledPeak_21 0 = true) ∧ (decode dsX9_rolledPeak_21 1 = .ok (.arraylength, 1) ∧ okop dsX9_rolledPeak_21 1 = true) ∧ (decode dsX9_rolledPeak_21 2 = .ok (.aload 4, 2) ∧ okop dsX9_rolledPeak_21 2 = true) ∧ (decode dsX9_rolledPeak_21 4 = .ok (.arraylength, 1) ∧ okop dsX9_rolledPeak_21 4 = true) ∧ (decode dsX9_rolledPeak_21 5 = .ok (.invokestatic 305, 3) ∧ okop dsX9_rolledPeak_21 5 = true) ∧ (decode dsX9_rolledPeak_21 8 = .ok (.istore 7, 2) ∧ okop dsX9_rolledPeak_21 8 = true) ∧ (decode dsX9_rolledPeak_21 10 = .ok (.iconst 0, 1) ∧ okop dsX9_rolledPeak_21 10 = true) ∧ (decode dsX9_rolledPeak_21 11 = .ok (.istore 8, 2) ∧ okop dsX9_rolledPeak_21 11 = true) ∧ (decode dsX9_rolledPeak_21 13 = .ok (.iload_n 2, 1) ∧ okop dsX9_rolledPeak_21 13 = true) ∧ (decode dsX9_rolledPeak_21 14 = .ok (.istore 9, 2) ∧ okop dsX9_rolledPeak_21 14 = true) := by decide +kernel
theorem dX9_rolledPeak_21 : decode cX9_rolledPeak 21 = .ok (.aload_n 3, 1) := dgq (p := 0) daX9_rolledPeak_21 dbX9_rolledPeak_21.1
theorem dX9_rolledPeak_22 : decode cX9_rolledPeak 22 = .ok (.arraylength, 1) := dgq (p := 1) daX9_rolledPeak_21 dbX9_rolledPeak_21.2.1
theorem dX9_rolledPeak_23 : decode cX9_rolledPeak 23 = .ok (.aload 4, 2) := dgq (p := 2) daX9_rolledPeak_21 dbX9_rolledPeak_21.2.2.1
theorem dX9_rolledPeak_25 : decode cX9_rolledPeak 25 = .ok (.arraylength, 1) := dgq (p := 4) daX9_rolledPeak_21 dbX9_rolledPeak_21.2.2.2.1
theorem dX9_rolledPeak_26 : decode cX9_rolledPeak 26 = .ok (.invokestatic 305, 3) := dgq (p := 5) daX9_rolledPeak_21 dbX9_rolledPeak_21.2.2.2.2.1
theorem dX9_rolledPeak_29 : decode cX9_rolledPeak 29 = .ok (.istore 7, 2) := dgq (p := 8) daX9_rolledPeak_21 dbX9_rolledPeak_21.2.2.2.2.2.1
theorem dX9_rolledPeak_31 : decode cX9_rolledPeak 31 = .ok (.iconst 0, 1) := dgq (p := 10) daX9_rolledPeak_21 dbX9_rolledPeak_21.2.2.2.2.2.2.1
theorem dX9_rolledPeak_32 : decode cX9_rolledPeak 32 = .ok (.istore 8, 2) := dgq (p := 11) daX9_rolledPeak_21 dbX9_rolledPeak_21.2.2.2.2.2.2.2.1
theorem dX9_rolledPeak_34 : decode cX9_rolledPeak 34 = .ok (.iload_n 2, 1) := dgq (p := 13) daX9_rolledPeak_21 dbX9_rolledPeak_21.2.2.2.2.2.2.2.2.1
theorem dX9_rolledPeak_35 : decode cX9_rolledPeak 35 = .ok (.istore 9, 2) := dgq (p := 14) daX9_rolledPeak_21 dbX9_rolledPeak_21.2.2.2.2.2.2.2.2.2
def dsX9_rolledPeak_37 : ByteArray := ⟨#[3, 54, 10, 21, 10, 21, 7, 162, 0, 98, 21, 8, 45, 190, 162, 0, 91, 21, 9]⟩
theorem daX9_rolledPeak_37 : agB cX9_rolledPeak dsX9_rolledPeak_37 37 := agB_of (n := 19) (by decide +kernel)
theorem dbX9_rolledPeak_37 : (decode dsX9_rolledPeak_37 0 = .ok (.iconst 0, 1) ∧ okop dsX9_rolledPeak_37 0 = true) ∧ (decode dsX9_rolledPeak_37 1 = .ok (.istore 10, 2) ∧ okop dsX9_rolledPeak_37 1 = true) ∧ (decode dsX9_rolledPeak_37 3 = .ok (.iload 10, 2) ∧ okop dsX9_rolledPeak_37 3 = true) ∧ (decode dsX9_rolledPeak_37 5 = .ok (.iload 7, 2) ∧ okop dsX9_rolledPeak_37 5 = true) ∧ (decode dsX9_rolledPeak_37 7 = .ok (.if_icmp .ge 98, 3) ∧ okop dsX9_rolledPeak_37 7 = true) ∧ (decode dsX9_rolledPeak_37 10 = .ok (.iload 8, 2) ∧ okop dsX9_rolledPeak_37 10 = true) ∧ (decode dsX9_rolledPeak_37 12 = .ok (.aload_n 3, 1) ∧ okop dsX9_rolledPeak_37 12 = true) ∧ (decode dsX9_rolledPeak_37 13 = .ok (.arraylength, 1) ∧ okop dsX9_rolledPeak_37 13 = true) ∧ (decode dsX9_rolledPeak_37 14 = .ok (.if_icmp .ge 91, 3) ∧ okop dsX9_rolledPeak_37 14 = true) ∧ (decode dsX9_rolledPeak_37 17 = .ok (.iload 9, 2) ∧ okop dsX9_rolledPeak_37 17 = true) := by decide +kernel
theorem dX9_rolledPeak_37 : decode cX9_rolledPeak 37 = .ok (.iconst 0, 1) := dgq (p := 0) daX9_rolledPeak_37 dbX9_rolledPeak_37.1
theorem dX9_rolledPeak_38 : decode cX9_rolledPeak 38 = .ok (.istore 10, 2) := dgq (p := 1) daX9_rolledPeak_37 dbX9_rolledPeak_37.2.1
theorem dX9_rolledPeak_40 : decode cX9_rolledPeak 40 = .ok (.iload 10, 2) := dgq (p := 3) daX9_rolledPeak_37 dbX9_rolledPeak_37.2.2.1
theorem dX9_rolledPeak_42 : decode cX9_rolledPeak 42 = .ok (.iload 7, 2) := dgq (p := 5) daX9_rolledPeak_37 dbX9_rolledPeak_37.2.2.2.1
theorem dX9_rolledPeak_44 : decode cX9_rolledPeak 44 = .ok (.if_icmp .ge 98, 3) := dgq (p := 7) daX9_rolledPeak_37 dbX9_rolledPeak_37.2.2.2.2.1
theorem dX9_rolledPeak_47 : decode cX9_rolledPeak 47 = .ok (.iload 8, 2) := dgq (p := 10) daX9_rolledPeak_37 dbX9_rolledPeak_37.2.2.2.2.2.1
theorem dX9_rolledPeak_49 : decode cX9_rolledPeak 49 = .ok (.aload_n 3, 1) := dgq (p := 12) daX9_rolledPeak_37 dbX9_rolledPeak_37.2.2.2.2.2.2.1
theorem dX9_rolledPeak_50 : decode cX9_rolledPeak 50 = .ok (.arraylength, 1) := dgq (p := 13) daX9_rolledPeak_37 dbX9_rolledPeak_37.2.2.2.2.2.2.2.1
theorem dX9_rolledPeak_51 : decode cX9_rolledPeak 51 = .ok (.if_icmp .ge 91, 3) := dgq (p := 14) daX9_rolledPeak_37 dbX9_rolledPeak_37.2.2.2.2.2.2.2.2.1
theorem dX9_rolledPeak_54 : decode cX9_rolledPeak 54 = .ok (.iload 9, 2) := dgq (p := 17) daX9_rolledPeak_37 dbX9_rolledPeak_37.2.2.2.2.2.2.2.2.2
def dsX9_rolledPeak_56 : ByteArray := ⟨#[155, 0, 86, 21, 9, 25, 4, 190, 162, 0, 78, 45, 21, 8, 46, 25, 4, 21, 9]⟩
theorem daX9_rolledPeak_56 : agB cX9_rolledPeak dsX9_rolledPeak_56 56 := agB_of (n := 19) (by decide +kernel)
theorem dbX9_rolledPeak_56 : (decode dsX9_rolledPeak_56 0 = .ok (.ifCond .lt 86, 3) ∧ okop dsX9_rolledPeak_56 0 = true) ∧ (decode dsX9_rolledPeak_56 3 = .ok (.iload 9, 2) ∧ okop dsX9_rolledPeak_56 3 = true) ∧ (decode dsX9_rolledPeak_56 5 = .ok (.aload 4, 2) ∧ okop dsX9_rolledPeak_56 5 = true) ∧ (decode dsX9_rolledPeak_56 7 = .ok (.arraylength, 1) ∧ okop dsX9_rolledPeak_56 7 = true) ∧ (decode dsX9_rolledPeak_56 8 = .ok (.if_icmp .ge 78, 3) ∧ okop dsX9_rolledPeak_56 8 = true) ∧ (decode dsX9_rolledPeak_56 11 = .ok (.aload_n 3, 1) ∧ okop dsX9_rolledPeak_56 11 = true) ∧ (decode dsX9_rolledPeak_56 12 = .ok (.iload 8, 2) ∧ okop dsX9_rolledPeak_56 12 = true) ∧ (decode dsX9_rolledPeak_56 14 = .ok (.iaload, 1) ∧ okop dsX9_rolledPeak_56 14 = true) ∧ (decode dsX9_rolledPeak_56 15 = .ok (.aload 4, 2) ∧ okop dsX9_rolledPeak_56 15 = true) ∧ (decode dsX9_rolledPeak_56 17 = .ok (.iload 9, 2) ∧ okop dsX9_rolledPeak_56 17 = true) := by decide +kernel
theorem dX9_rolledPeak_56 : decode cX9_rolledPeak 56 = .ok (.ifCond .lt 86, 3) := dgq (p := 0) daX9_rolledPeak_56 dbX9_rolledPeak_56.1
theorem dX9_rolledPeak_59 : decode cX9_rolledPeak 59 = .ok (.iload 9, 2) := dgq (p := 3) daX9_rolledPeak_56 dbX9_rolledPeak_56.2.1
theorem dX9_rolledPeak_61 : decode cX9_rolledPeak 61 = .ok (.aload 4, 2) := dgq (p := 5) daX9_rolledPeak_56 dbX9_rolledPeak_56.2.2.1
theorem dX9_rolledPeak_63 : decode cX9_rolledPeak 63 = .ok (.arraylength, 1) := dgq (p := 7) daX9_rolledPeak_56 dbX9_rolledPeak_56.2.2.2.1
theorem dX9_rolledPeak_64 : decode cX9_rolledPeak 64 = .ok (.if_icmp .ge 78, 3) := dgq (p := 8) daX9_rolledPeak_56 dbX9_rolledPeak_56.2.2.2.2.1
theorem dX9_rolledPeak_67 : decode cX9_rolledPeak 67 = .ok (.aload_n 3, 1) := dgq (p := 11) daX9_rolledPeak_56 dbX9_rolledPeak_56.2.2.2.2.2.1
theorem dX9_rolledPeak_68 : decode cX9_rolledPeak 68 = .ok (.iload 8, 2) := dgq (p := 12) daX9_rolledPeak_56 dbX9_rolledPeak_56.2.2.2.2.2.2.1
theorem dX9_rolledPeak_70 : decode cX9_rolledPeak 70 = .ok (.iaload, 1) := dgq (p := 14) daX9_rolledPeak_56 dbX9_rolledPeak_56.2.2.2.2.2.2.2.1
theorem dX9_rolledPeak_71 : decode cX9_rolledPeak 71 = .ok (.aload 4, 2) := dgq (p := 15) daX9_rolledPeak_56 dbX9_rolledPeak_56.2.2.2.2.2.2.2.2.1
theorem dX9_rolledPeak_73 : decode cX9_rolledPeak 73 = .ok (.iload 9, 2) := dgq (p := 17) daX9_rolledPeak_56 dbX9_rolledPeak_56.2.2.2.2.2.2.2.2.2
def dsX9_rolledPeak_75 : ByteArray := ⟨#[46, 96, 54, 11, 21, 5, 21, 11, 184, 1, 106, 54, 5, 21, 6, 21, 11, 184, 0, 181]⟩
theorem daX9_rolledPeak_75 : agB cX9_rolledPeak dsX9_rolledPeak_75 75 := agB_of (n := 20) (by decide +kernel)
theorem dbX9_rolledPeak_75 : (decode dsX9_rolledPeak_75 0 = .ok (.iaload, 1) ∧ okop dsX9_rolledPeak_75 0 = true) ∧ (decode dsX9_rolledPeak_75 1 = .ok (.iadd, 1) ∧ okop dsX9_rolledPeak_75 1 = true) ∧ (decode dsX9_rolledPeak_75 2 = .ok (.istore 11, 2) ∧ okop dsX9_rolledPeak_75 2 = true) ∧ (decode dsX9_rolledPeak_75 4 = .ok (.iload 5, 2) ∧ okop dsX9_rolledPeak_75 4 = true) ∧ (decode dsX9_rolledPeak_75 6 = .ok (.iload 11, 2) ∧ okop dsX9_rolledPeak_75 6 = true) ∧ (decode dsX9_rolledPeak_75 8 = .ok (.invokestatic 362, 3) ∧ okop dsX9_rolledPeak_75 8 = true) ∧ (decode dsX9_rolledPeak_75 11 = .ok (.istore 5, 2) ∧ okop dsX9_rolledPeak_75 11 = true) ∧ (decode dsX9_rolledPeak_75 13 = .ok (.iload 6, 2) ∧ okop dsX9_rolledPeak_75 13 = true) ∧ (decode dsX9_rolledPeak_75 15 = .ok (.iload 11, 2) ∧ okop dsX9_rolledPeak_75 15 = true) ∧ (decode dsX9_rolledPeak_75 17 = .ok (.invokestatic 181, 3) ∧ okop dsX9_rolledPeak_75 17 = true) := by decide +kernel
theorem dX9_rolledPeak_75 : decode cX9_rolledPeak 75 = .ok (.iaload, 1) := dgq (p := 0) daX9_rolledPeak_75 dbX9_rolledPeak_75.1
theorem dX9_rolledPeak_76 : decode cX9_rolledPeak 76 = .ok (.iadd, 1) := dgq (p := 1) daX9_rolledPeak_75 dbX9_rolledPeak_75.2.1
theorem dX9_rolledPeak_77 : decode cX9_rolledPeak 77 = .ok (.istore 11, 2) := dgq (p := 2) daX9_rolledPeak_75 dbX9_rolledPeak_75.2.2.1
theorem dX9_rolledPeak_79 : decode cX9_rolledPeak 79 = .ok (.iload 5, 2) := dgq (p := 4) daX9_rolledPeak_75 dbX9_rolledPeak_75.2.2.2.1
theorem dX9_rolledPeak_81 : decode cX9_rolledPeak 81 = .ok (.iload 11, 2) := dgq (p := 6) daX9_rolledPeak_75 dbX9_rolledPeak_75.2.2.2.2.1
theorem dX9_rolledPeak_83 : decode cX9_rolledPeak 83 = .ok (.invokestatic 362, 3) := dgq (p := 8) daX9_rolledPeak_75 dbX9_rolledPeak_75.2.2.2.2.2.1
theorem dX9_rolledPeak_86 : decode cX9_rolledPeak 86 = .ok (.istore 5, 2) := dgq (p := 11) daX9_rolledPeak_75 dbX9_rolledPeak_75.2.2.2.2.2.2.1
theorem dX9_rolledPeak_88 : decode cX9_rolledPeak 88 = .ok (.iload 6, 2) := dgq (p := 13) daX9_rolledPeak_75 dbX9_rolledPeak_75.2.2.2.2.2.2.2.1
theorem dX9_rolledPeak_90 : decode cX9_rolledPeak 90 = .ok (.iload 11, 2) := dgq (p := 15) daX9_rolledPeak_75 dbX9_rolledPeak_75.2.2.2.2.2.2.2.2.1
theorem dX9_rolledPeak_92 : decode cX9_rolledPeak 92 = .ok (.invokestatic 181, 3) := dgq (p := 17) daX9_rolledPeak_75 dbX9_rolledPeak_75.2.2.2.2.2.2.2.2.2
def dsX9_rolledPeak_95 : ByteArray := ⟨#[54, 6, 21, 8, 4, 96, 45, 190, 162, 0, 10, 21, 8, 4, 96]⟩
theorem daX9_rolledPeak_95 : agB cX9_rolledPeak dsX9_rolledPeak_95 95 := agB_of (n := 15) (by decide +kernel)
theorem dbX9_rolledPeak_95 : (decode dsX9_rolledPeak_95 0 = .ok (.istore 6, 2) ∧ okop dsX9_rolledPeak_95 0 = true) ∧ (decode dsX9_rolledPeak_95 2 = .ok (.iload 8, 2) ∧ okop dsX9_rolledPeak_95 2 = true) ∧ (decode dsX9_rolledPeak_95 4 = .ok (.iconst 1, 1) ∧ okop dsX9_rolledPeak_95 4 = true) ∧ (decode dsX9_rolledPeak_95 5 = .ok (.iadd, 1) ∧ okop dsX9_rolledPeak_95 5 = true) ∧ (decode dsX9_rolledPeak_95 6 = .ok (.aload_n 3, 1) ∧ okop dsX9_rolledPeak_95 6 = true) ∧ (decode dsX9_rolledPeak_95 7 = .ok (.arraylength, 1) ∧ okop dsX9_rolledPeak_95 7 = true) ∧ (decode dsX9_rolledPeak_95 8 = .ok (.if_icmp .ge 10, 3) ∧ okop dsX9_rolledPeak_95 8 = true) ∧ (decode dsX9_rolledPeak_95 11 = .ok (.iload 8, 2) ∧ okop dsX9_rolledPeak_95 11 = true) ∧ (decode dsX9_rolledPeak_95 13 = .ok (.iconst 1, 1) ∧ okop dsX9_rolledPeak_95 13 = true) ∧ (decode dsX9_rolledPeak_95 14 = .ok (.iadd, 1) ∧ okop dsX9_rolledPeak_95 14 = true) := by decide +kernel
theorem dX9_rolledPeak_95 : decode cX9_rolledPeak 95 = .ok (.istore 6, 2) := dgq (p := 0) daX9_rolledPeak_95 dbX9_rolledPeak_95.1
theorem dX9_rolledPeak_97 : decode cX9_rolledPeak 97 = .ok (.iload 8, 2) := dgq (p := 2) daX9_rolledPeak_95 dbX9_rolledPeak_95.2.1
theorem dX9_rolledPeak_99 : decode cX9_rolledPeak 99 = .ok (.iconst 1, 1) := dgq (p := 4) daX9_rolledPeak_95 dbX9_rolledPeak_95.2.2.1
theorem dX9_rolledPeak_100 : decode cX9_rolledPeak 100 = .ok (.iadd, 1) := dgq (p := 5) daX9_rolledPeak_95 dbX9_rolledPeak_95.2.2.2.1
theorem dX9_rolledPeak_101 : decode cX9_rolledPeak 101 = .ok (.aload_n 3, 1) := dgq (p := 6) daX9_rolledPeak_95 dbX9_rolledPeak_95.2.2.2.2.1
theorem dX9_rolledPeak_102 : decode cX9_rolledPeak 102 = .ok (.arraylength, 1) := dgq (p := 7) daX9_rolledPeak_95 dbX9_rolledPeak_95.2.2.2.2.2.1
theorem dX9_rolledPeak_103 : decode cX9_rolledPeak 103 = .ok (.if_icmp .ge 10, 3) := dgq (p := 8) daX9_rolledPeak_95 dbX9_rolledPeak_95.2.2.2.2.2.2.1
theorem dX9_rolledPeak_106 : decode cX9_rolledPeak 106 = .ok (.iload 8, 2) := dgq (p := 11) daX9_rolledPeak_95 dbX9_rolledPeak_95.2.2.2.2.2.2.2.1
theorem dX9_rolledPeak_108 : decode cX9_rolledPeak 108 = .ok (.iconst 1, 1) := dgq (p := 13) daX9_rolledPeak_95 dbX9_rolledPeak_95.2.2.2.2.2.2.2.2.1
theorem dX9_rolledPeak_109 : decode cX9_rolledPeak 109 = .ok (.iadd, 1) := dgq (p := 14) daX9_rolledPeak_95 dbX9_rolledPeak_95.2.2.2.2.2.2.2.2.2
def dsX9_rolledPeak_110 : ByteArray := ⟨#[167, 0, 4, 3, 54, 8, 21, 9, 4, 96, 25, 4, 190, 162, 0, 10, 21, 9]⟩
theorem daX9_rolledPeak_110 : agB cX9_rolledPeak dsX9_rolledPeak_110 110 := agB_of (n := 18) (by decide +kernel)
theorem dbX9_rolledPeak_110 : (decode dsX9_rolledPeak_110 0 = .ok (.goto 4, 3) ∧ okop dsX9_rolledPeak_110 0 = true) ∧ (decode dsX9_rolledPeak_110 3 = .ok (.iconst 0, 1) ∧ okop dsX9_rolledPeak_110 3 = true) ∧ (decode dsX9_rolledPeak_110 4 = .ok (.istore 8, 2) ∧ okop dsX9_rolledPeak_110 4 = true) ∧ (decode dsX9_rolledPeak_110 6 = .ok (.iload 9, 2) ∧ okop dsX9_rolledPeak_110 6 = true) ∧ (decode dsX9_rolledPeak_110 8 = .ok (.iconst 1, 1) ∧ okop dsX9_rolledPeak_110 8 = true) ∧ (decode dsX9_rolledPeak_110 9 = .ok (.iadd, 1) ∧ okop dsX9_rolledPeak_110 9 = true) ∧ (decode dsX9_rolledPeak_110 10 = .ok (.aload 4, 2) ∧ okop dsX9_rolledPeak_110 10 = true) ∧ (decode dsX9_rolledPeak_110 12 = .ok (.arraylength, 1) ∧ okop dsX9_rolledPeak_110 12 = true) ∧ (decode dsX9_rolledPeak_110 13 = .ok (.if_icmp .ge 10, 3) ∧ okop dsX9_rolledPeak_110 13 = true) ∧ (decode dsX9_rolledPeak_110 16 = .ok (.iload 9, 2) ∧ okop dsX9_rolledPeak_110 16 = true) := by decide +kernel
theorem dX9_rolledPeak_110 : decode cX9_rolledPeak 110 = .ok (.goto 4, 3) := dgq (p := 0) daX9_rolledPeak_110 dbX9_rolledPeak_110.1
theorem dX9_rolledPeak_113 : decode cX9_rolledPeak 113 = .ok (.iconst 0, 1) := dgq (p := 3) daX9_rolledPeak_110 dbX9_rolledPeak_110.2.1
theorem dX9_rolledPeak_114 : decode cX9_rolledPeak 114 = .ok (.istore 8, 2) := dgq (p := 4) daX9_rolledPeak_110 dbX9_rolledPeak_110.2.2.1
theorem dX9_rolledPeak_116 : decode cX9_rolledPeak 116 = .ok (.iload 9, 2) := dgq (p := 6) daX9_rolledPeak_110 dbX9_rolledPeak_110.2.2.2.1
theorem dX9_rolledPeak_118 : decode cX9_rolledPeak 118 = .ok (.iconst 1, 1) := dgq (p := 8) daX9_rolledPeak_110 dbX9_rolledPeak_110.2.2.2.2.1
theorem dX9_rolledPeak_119 : decode cX9_rolledPeak 119 = .ok (.iadd, 1) := dgq (p := 9) daX9_rolledPeak_110 dbX9_rolledPeak_110.2.2.2.2.2.1
theorem dX9_rolledPeak_120 : decode cX9_rolledPeak 120 = .ok (.aload 4, 2) := dgq (p := 10) daX9_rolledPeak_110 dbX9_rolledPeak_110.2.2.2.2.2.2.1
theorem dX9_rolledPeak_122 : decode cX9_rolledPeak 122 = .ok (.arraylength, 1) := dgq (p := 12) daX9_rolledPeak_110 dbX9_rolledPeak_110.2.2.2.2.2.2.2.1
theorem dX9_rolledPeak_123 : decode cX9_rolledPeak 123 = .ok (.if_icmp .ge 10, 3) := dgq (p := 13) daX9_rolledPeak_110 dbX9_rolledPeak_110.2.2.2.2.2.2.2.2.1
theorem dX9_rolledPeak_126 : decode cX9_rolledPeak 126 = .ok (.iload 9, 2) := dgq (p := 16) daX9_rolledPeak_110 dbX9_rolledPeak_110.2.2.2.2.2.2.2.2.2
def dsX9_rolledPeak_128 : ByteArray := ⟨#[4, 96, 167, 0, 4, 3, 54, 9, 132, 10, 1, 167, 255, 157, 21, 5, 21, 6, 100]⟩
theorem daX9_rolledPeak_128 : agB cX9_rolledPeak dsX9_rolledPeak_128 128 := agB_of (n := 19) (by decide +kernel)
theorem dbX9_rolledPeak_128 : (decode dsX9_rolledPeak_128 0 = .ok (.iconst 1, 1) ∧ okop dsX9_rolledPeak_128 0 = true) ∧ (decode dsX9_rolledPeak_128 1 = .ok (.iadd, 1) ∧ okop dsX9_rolledPeak_128 1 = true) ∧ (decode dsX9_rolledPeak_128 2 = .ok (.goto 4, 3) ∧ okop dsX9_rolledPeak_128 2 = true) ∧ (decode dsX9_rolledPeak_128 5 = .ok (.iconst 0, 1) ∧ okop dsX9_rolledPeak_128 5 = true) ∧ (decode dsX9_rolledPeak_128 6 = .ok (.istore 9, 2) ∧ okop dsX9_rolledPeak_128 6 = true) ∧ (decode dsX9_rolledPeak_128 8 = .ok (.iinc 10 1, 3) ∧ okop dsX9_rolledPeak_128 8 = true) ∧ (decode dsX9_rolledPeak_128 11 = .ok (.goto (-99), 3) ∧ okop dsX9_rolledPeak_128 11 = true) ∧ (decode dsX9_rolledPeak_128 14 = .ok (.iload 5, 2) ∧ okop dsX9_rolledPeak_128 14 = true) ∧ (decode dsX9_rolledPeak_128 16 = .ok (.iload 6, 2) ∧ okop dsX9_rolledPeak_128 16 = true) ∧ (decode dsX9_rolledPeak_128 18 = .ok (.isub, 1) ∧ okop dsX9_rolledPeak_128 18 = true) := by decide +kernel
theorem dX9_rolledPeak_128 : decode cX9_rolledPeak 128 = .ok (.iconst 1, 1) := dgq (p := 0) daX9_rolledPeak_128 dbX9_rolledPeak_128.1
theorem dX9_rolledPeak_129 : decode cX9_rolledPeak 129 = .ok (.iadd, 1) := dgq (p := 1) daX9_rolledPeak_128 dbX9_rolledPeak_128.2.1
theorem dX9_rolledPeak_130 : decode cX9_rolledPeak 130 = .ok (.goto 4, 3) := dgq (p := 2) daX9_rolledPeak_128 dbX9_rolledPeak_128.2.2.1
theorem dX9_rolledPeak_133 : decode cX9_rolledPeak 133 = .ok (.iconst 0, 1) := dgq (p := 5) daX9_rolledPeak_128 dbX9_rolledPeak_128.2.2.2.1
theorem dX9_rolledPeak_134 : decode cX9_rolledPeak 134 = .ok (.istore 9, 2) := dgq (p := 6) daX9_rolledPeak_128 dbX9_rolledPeak_128.2.2.2.2.1
theorem dX9_rolledPeak_136 : decode cX9_rolledPeak 136 = .ok (.iinc 10 1, 3) := dgq (p := 8) daX9_rolledPeak_128 dbX9_rolledPeak_128.2.2.2.2.2.1
theorem dX9_rolledPeak_139 : decode cX9_rolledPeak 139 = .ok (.goto (-99), 3) := dgq (p := 11) daX9_rolledPeak_128 dbX9_rolledPeak_128.2.2.2.2.2.2.1
theorem dX9_rolledPeak_142 : decode cX9_rolledPeak 142 = .ok (.iload 5, 2) := dgq (p := 14) daX9_rolledPeak_128 dbX9_rolledPeak_128.2.2.2.2.2.2.2.1
theorem dX9_rolledPeak_144 : decode cX9_rolledPeak 144 = .ok (.iload 6, 2) := dgq (p := 16) daX9_rolledPeak_128 dbX9_rolledPeak_128.2.2.2.2.2.2.2.2.1
theorem dX9_rolledPeak_146 : decode cX9_rolledPeak 146 = .ok (.isub, 1) := dgq (p := 18) daX9_rolledPeak_128 dbX9_rolledPeak_128.2.2.2.2.2.2.2.2.2
theorem dX9_rolledPeak_147 : decode cX9_rolledPeak 147 = .ok (.ireturn, 1) := by decide +kernel
def dsX9_gearAt_0 : ByteArray := ⟨#[27, 155, 0, 11, 27, 42, 180, 0, 64, 161, 0, 14, 187, 1, 37, 89, 19, 2, 9, 183, 1, 41]⟩
theorem daX9_gearAt_0 : agB cX9_gearAt dsX9_gearAt_0 0 := agB_of (n := 22) (by decide +kernel)
theorem dbX9_gearAt_0 : (decode dsX9_gearAt_0 0 = .ok (.iload_n 1, 1) ∧ okop dsX9_gearAt_0 0 = true) ∧ (decode dsX9_gearAt_0 1 = .ok (.ifCond .lt 11, 3) ∧ okop dsX9_gearAt_0 1 = true) ∧ (decode dsX9_gearAt_0 4 = .ok (.iload_n 1, 1) ∧ okop dsX9_gearAt_0 4 = true) ∧ (decode dsX9_gearAt_0 5 = .ok (.aload_n 0, 1) ∧ okop dsX9_gearAt_0 5 = true) ∧ (decode dsX9_gearAt_0 6 = .ok (.getfield 64, 3) ∧ okop dsX9_gearAt_0 6 = true) ∧ (decode dsX9_gearAt_0 9 = .ok (.if_icmp .lt 14, 3) ∧ okop dsX9_gearAt_0 9 = true) ∧ (decode dsX9_gearAt_0 12 = .ok (.new 293, 3) ∧ okop dsX9_gearAt_0 12 = true) ∧ (decode dsX9_gearAt_0 15 = .ok (.dup, 1) ∧ okop dsX9_gearAt_0 15 = true) ∧ (decode dsX9_gearAt_0 16 = .ok (.ldc_w 521, 3) ∧ okop dsX9_gearAt_0 16 = true) ∧ (decode dsX9_gearAt_0 19 = .ok (.invokespecial 297, 3) ∧ okop dsX9_gearAt_0 19 = true) := by decide +kernel
theorem dX9_gearAt_0 : decode cX9_gearAt 0 = .ok (.iload_n 1, 1) := dgq (p := 0) daX9_gearAt_0 dbX9_gearAt_0.1
theorem dX9_gearAt_1 : decode cX9_gearAt 1 = .ok (.ifCond .lt 11, 3) := dgq (p := 1) daX9_gearAt_0 dbX9_gearAt_0.2.1
theorem dX9_gearAt_4 : decode cX9_gearAt 4 = .ok (.iload_n 1, 1) := dgq (p := 4) daX9_gearAt_0 dbX9_gearAt_0.2.2.1
theorem dX9_gearAt_5 : decode cX9_gearAt 5 = .ok (.aload_n 0, 1) := dgq (p := 5) daX9_gearAt_0 dbX9_gearAt_0.2.2.2.1
theorem dX9_gearAt_6 : decode cX9_gearAt 6 = .ok (.getfield 64, 3) := dgq (p := 6) daX9_gearAt_0 dbX9_gearAt_0.2.2.2.2.1
theorem dX9_gearAt_9 : decode cX9_gearAt 9 = .ok (.if_icmp .lt 14, 3) := dgq (p := 9) daX9_gearAt_0 dbX9_gearAt_0.2.2.2.2.2.1
theorem dX9_gearAt_12 : decode cX9_gearAt 12 = .ok (.new 293, 3) := dgq (p := 12) daX9_gearAt_0 dbX9_gearAt_0.2.2.2.2.2.2.1
theorem dX9_gearAt_15 : decode cX9_gearAt 15 = .ok (.dup, 1) := dgq (p := 15) daX9_gearAt_0 dbX9_gearAt_0.2.2.2.2.2.2.2.1
theorem dX9_gearAt_16 : decode cX9_gearAt 16 = .ok (.ldc_w 521, 3) := dgq (p := 16) daX9_gearAt_0 dbX9_gearAt_0.2.2.2.2.2.2.2.2.1
theorem dX9_gearAt_19 : decode cX9_gearAt 19 = .ok (.invokespecial 297, 3) := dgq (p := 19) daX9_gearAt_0 dbX9_gearAt_0.2.2.2.2.2.2.2.2.2
def dsX9_gearAt_22 : ByteArray := ⟨#[191, 42, 180, 0, 11, 27, 50, 176]⟩
theorem daX9_gearAt_22 : agB cX9_gearAt dsX9_gearAt_22 22 := agB_of (n := 8) (by decide +kernel)
theorem dbX9_gearAt_22 : (decode dsX9_gearAt_22 0 = .ok (.athrow, 1) ∧ okop dsX9_gearAt_22 0 = true) ∧ (decode dsX9_gearAt_22 1 = .ok (.aload_n 0, 1) ∧ okop dsX9_gearAt_22 1 = true) ∧ (decode dsX9_gearAt_22 2 = .ok (.getfield 11, 3) ∧ okop dsX9_gearAt_22 2 = true) ∧ (decode dsX9_gearAt_22 5 = .ok (.iload_n 1, 1) ∧ okop dsX9_gearAt_22 5 = true) ∧ (decode dsX9_gearAt_22 6 = .ok (.aaload, 1) ∧ okop dsX9_gearAt_22 6 = true) ∧ (decode dsX9_gearAt_22 7 = .ok (.areturn, 1) ∧ okop dsX9_gearAt_22 7 = true) := by decide +kernel
theorem dX9_gearAt_22 : decode cX9_gearAt 22 = .ok (.athrow, 1) := dgq (p := 0) daX9_gearAt_22 dbX9_gearAt_22.1
theorem dX9_gearAt_23 : decode cX9_gearAt 23 = .ok (.aload_n 0, 1) := dgq (p := 1) daX9_gearAt_22 dbX9_gearAt_22.2.1
theorem dX9_gearAt_24 : decode cX9_gearAt 24 = .ok (.getfield 11, 3) := dgq (p := 2) daX9_gearAt_22 dbX9_gearAt_22.2.2.1
theorem dX9_gearAt_27 : decode cX9_gearAt 27 = .ok (.iload_n 1, 1) := dgq (p := 5) daX9_gearAt_22 dbX9_gearAt_22.2.2.2.1
theorem dX9_gearAt_28 : decode cX9_gearAt 28 = .ok (.aaload, 1) := dgq (p := 6) daX9_gearAt_22 dbX9_gearAt_22.2.2.2.2.1
theorem dX9_gearAt_29 : decode cX9_gearAt 29 = .ok (.areturn, 1) := dgq (p := 7) daX9_gearAt_22 dbX9_gearAt_22.2.2.2.2.2
def dsX9_hobAt_0 : ByteArray := ⟨#[27, 155, 0, 11, 27, 42, 180, 0, 249, 161, 0, 14, 187, 1, 37, 89, 19, 2, 11, 183, 1, 41]⟩
theorem daX9_hobAt_0 : agB cX9_hobAt dsX9_hobAt_0 0 := agB_of (n := 22) (by decide +kernel)
theorem dbX9_hobAt_0 : (decode dsX9_hobAt_0 0 = .ok (.iload_n 1, 1) ∧ okop dsX9_hobAt_0 0 = true) ∧ (decode dsX9_hobAt_0 1 = .ok (.ifCond .lt 11, 3) ∧ okop dsX9_hobAt_0 1 = true) ∧ (decode dsX9_hobAt_0 4 = .ok (.iload_n 1, 1) ∧ okop dsX9_hobAt_0 4 = true) ∧ (decode dsX9_hobAt_0 5 = .ok (.aload_n 0, 1) ∧ okop dsX9_hobAt_0 5 = true) ∧ (decode dsX9_hobAt_0 6 = .ok (.getfield 249, 3) ∧ okop dsX9_hobAt_0 6 = true) ∧ (decode dsX9_hobAt_0 9 = .ok (.if_icmp .lt 14, 3) ∧ okop dsX9_hobAt_0 9 = true) ∧ (decode dsX9_hobAt_0 12 = .ok (.new 293, 3) ∧ okop dsX9_hobAt_0 12 = true) ∧ (decode dsX9_hobAt_0 15 = .ok (.dup, 1) ∧ okop dsX9_hobAt_0 15 = true) ∧ (decode dsX9_hobAt_0 16 = .ok (.ldc_w 523, 3) ∧ okop dsX9_hobAt_0 16 = true) ∧ (decode dsX9_hobAt_0 19 = .ok (.invokespecial 297, 3) ∧ okop dsX9_hobAt_0 19 = true) := by decide +kernel
theorem dX9_hobAt_0 : decode cX9_hobAt 0 = .ok (.iload_n 1, 1) := dgq (p := 0) daX9_hobAt_0 dbX9_hobAt_0.1
theorem dX9_hobAt_1 : decode cX9_hobAt 1 = .ok (.ifCond .lt 11, 3) := dgq (p := 1) daX9_hobAt_0 dbX9_hobAt_0.2.1
theorem dX9_hobAt_4 : decode cX9_hobAt 4 = .ok (.iload_n 1, 1) := dgq (p := 4) daX9_hobAt_0 dbX9_hobAt_0.2.2.1
theorem dX9_hobAt_5 : decode cX9_hobAt 5 = .ok (.aload_n 0, 1) := dgq (p := 5) daX9_hobAt_0 dbX9_hobAt_0.2.2.2.1
theorem dX9_hobAt_6 : decode cX9_hobAt 6 = .ok (.getfield 249, 3) := dgq (p := 6) daX9_hobAt_0 dbX9_hobAt_0.2.2.2.2.1
theorem dX9_hobAt_9 : decode cX9_hobAt 9 = .ok (.if_icmp .lt 14, 3) := dgq (p := 9) daX9_hobAt_0 dbX9_hobAt_0.2.2.2.2.2.1
theorem dX9_hobAt_12 : decode cX9_hobAt 12 = .ok (.new 293, 3) := dgq (p := 12) daX9_hobAt_0 dbX9_hobAt_0.2.2.2.2.2.2.1
theorem dX9_hobAt_15 : decode cX9_hobAt 15 = .ok (.dup, 1) := dgq (p := 15) daX9_hobAt_0 dbX9_hobAt_0.2.2.2.2.2.2.2.1
theorem dX9_hobAt_16 : decode cX9_hobAt 16 = .ok (.ldc_w 523, 3) := dgq (p := 16) daX9_hobAt_0 dbX9_hobAt_0.2.2.2.2.2.2.2.2.1
theorem dX9_hobAt_19 : decode cX9_hobAt 19 = .ok (.invokespecial 297, 3) := dgq (p := 19) daX9_hobAt_0 dbX9_hobAt_0.2.2.2.2.2.2.2.2.2
def dsX9_hobAt_22 : ByteArray := ⟨#[191, 42, 180, 0, 17, 27, 50, 176]⟩
theorem daX9_hobAt_22 : agB cX9_hobAt dsX9_hobAt_22 22 := agB_of (n := 8) (by decide +kernel)
theorem dbX9_hobAt_22 : (decode dsX9_hobAt_22 0 = .ok (.athrow, 1) ∧ okop dsX9_hobAt_22 0 = true) ∧ (decode dsX9_hobAt_22 1 = .ok (.aload_n 0, 1) ∧ okop dsX9_hobAt_22 1 = true) ∧ (decode dsX9_hobAt_22 2 = .ok (.getfield 17, 3) ∧ okop dsX9_hobAt_22 2 = true) ∧ (decode dsX9_hobAt_22 5 = .ok (.iload_n 1, 1) ∧ okop dsX9_hobAt_22 5 = true) ∧ (decode dsX9_hobAt_22 6 = .ok (.aaload, 1) ∧ okop dsX9_hobAt_22 6 = true) ∧ (decode dsX9_hobAt_22 7 = .ok (.areturn, 1) ∧ okop dsX9_hobAt_22 7 = true) := by decide +kernel
theorem dX9_hobAt_22 : decode cX9_hobAt 22 = .ok (.athrow, 1) := dgq (p := 0) daX9_hobAt_22 dbX9_hobAt_22.1
theorem dX9_hobAt_23 : decode cX9_hobAt 23 = .ok (.aload_n 0, 1) := dgq (p := 1) daX9_hobAt_22 dbX9_hobAt_22.2.1
theorem dX9_hobAt_24 : decode cX9_hobAt 24 = .ok (.getfield 17, 3) := dgq (p := 2) daX9_hobAt_22 dbX9_hobAt_22.2.2.1
theorem dX9_hobAt_27 : decode cX9_hobAt 27 = .ok (.iload_n 1, 1) := dgq (p := 5) daX9_hobAt_22 dbX9_hobAt_22.2.2.2.1
theorem dX9_hobAt_28 : decode cX9_hobAt 28 = .ok (.aaload, 1) := dgq (p := 6) daX9_hobAt_22 dbX9_hobAt_22.2.2.2.2.1
theorem dX9_hobAt_29 : decode cX9_hobAt 29 = .ok (.areturn, 1) := dgq (p := 7) daX9_hobAt_22 dbX9_hobAt_22.2.2.2.2.2
def dsX9_needRange_0 : ByteArray := ⟨#[26, 27, 161, 0, 8, 26, 28, 164, 0, 14, 187, 0, 110, 89, 19, 2, 13, 183, 0, 114]⟩
theorem daX9_needRange_0 : agB cX9_needRange dsX9_needRange_0 0 := agB_of (n := 20) (by decide +kernel)
theorem dbX9_needRange_0 : (decode dsX9_needRange_0 0 = .ok (.iload_n 0, 1) ∧ okop dsX9_needRange_0 0 = true) ∧ (decode dsX9_needRange_0 1 = .ok (.iload_n 1, 1) ∧ okop dsX9_needRange_0 1 = true) ∧ (decode dsX9_needRange_0 2 = .ok (.if_icmp .lt 8, 3) ∧ okop dsX9_needRange_0 2 = true) ∧ (decode dsX9_needRange_0 5 = .ok (.iload_n 0, 1) ∧ okop dsX9_needRange_0 5 = true) ∧ (decode dsX9_needRange_0 6 = .ok (.iload_n 2, 1) ∧ okop dsX9_needRange_0 6 = true) ∧ (decode dsX9_needRange_0 7 = .ok (.if_icmp .le 14, 3) ∧ okop dsX9_needRange_0 7 = true) ∧ (decode dsX9_needRange_0 10 = .ok (.new 110, 3) ∧ okop dsX9_needRange_0 10 = true) ∧ (decode dsX9_needRange_0 13 = .ok (.dup, 1) ∧ okop dsX9_needRange_0 13 = true) ∧ (decode dsX9_needRange_0 14 = .ok (.ldc_w 525, 3) ∧ okop dsX9_needRange_0 14 = true) ∧ (decode dsX9_needRange_0 17 = .ok (.invokespecial 114, 3) ∧ okop dsX9_needRange_0 17 = true) := by decide +kernel
theorem dX9_needRange_0 : decode cX9_needRange 0 = .ok (.iload_n 0, 1) := dgq (p := 0) daX9_needRange_0 dbX9_needRange_0.1
theorem dX9_needRange_1 : decode cX9_needRange 1 = .ok (.iload_n 1, 1) := dgq (p := 1) daX9_needRange_0 dbX9_needRange_0.2.1
theorem dX9_needRange_2 : decode cX9_needRange 2 = .ok (.if_icmp .lt 8, 3) := dgq (p := 2) daX9_needRange_0 dbX9_needRange_0.2.2.1
theorem dX9_needRange_5 : decode cX9_needRange 5 = .ok (.iload_n 0, 1) := dgq (p := 5) daX9_needRange_0 dbX9_needRange_0.2.2.2.1
theorem dX9_needRange_6 : decode cX9_needRange 6 = .ok (.iload_n 2, 1) := dgq (p := 6) daX9_needRange_0 dbX9_needRange_0.2.2.2.2.1
theorem dX9_needRange_7 : decode cX9_needRange 7 = .ok (.if_icmp .le 14, 3) := dgq (p := 7) daX9_needRange_0 dbX9_needRange_0.2.2.2.2.2.1
theorem dX9_needRange_10 : decode cX9_needRange 10 = .ok (.new 110, 3) := dgq (p := 10) daX9_needRange_0 dbX9_needRange_0.2.2.2.2.2.2.1
theorem dX9_needRange_13 : decode cX9_needRange 13 = .ok (.dup, 1) := dgq (p := 13) daX9_needRange_0 dbX9_needRange_0.2.2.2.2.2.2.2.1
theorem dX9_needRange_14 : decode cX9_needRange 14 = .ok (.ldc_w 525, 3) := dgq (p := 14) daX9_needRange_0 dbX9_needRange_0.2.2.2.2.2.2.2.2.1
theorem dX9_needRange_17 : decode cX9_needRange 17 = .ok (.invokespecial 114, 3) := dgq (p := 17) daX9_needRange_0 dbX9_needRange_0.2.2.2.2.2.2.2.2.2
theorem dX9_needRange_20 : decode cX9_needRange 20 = .ok (.athrow, 1) := by decide +kernel
theorem dX9_needRange_21 : decode cX9_needRange 21 = .ok (.return_, 1) := by decide +kernel
set_option maxRecDepth 20000 in
theorem ggX9_needTeeth_X9_needRange : GoodIn wsX9_needTeeth wsX9_needRange := goodIn_ca (goodIn_q _ [4, 5, 6] rfl (by decide +kernel)) (goodIn_sub (fun _ h => List.mem_cons_of_mem _ (List.mem_append_right _ h)) (by decide +kernel))
set_option maxRecDepth 20000 in
theorem gX9_needTeeth_X9_needRange : GoodIn wsX9_needTeeth (va_wsS RX9 59 yX9_needRange wsX9_needRange) := goodIn_app (goodIn_q _ [1, 2, 3] rfl (by decide +kernel)) ggX9_needTeeth_X9_needRange
def dsX9_needTeeth_0 : ByteArray := ⟨#[26, 16, 6, 17, 0, 200, 184, 0, 59, 177]⟩
theorem daX9_needTeeth_0 : agB cX9_needTeeth dsX9_needTeeth_0 0 := agB_of (n := 10) (by decide +kernel)
theorem dbX9_needTeeth_0 : (decode dsX9_needTeeth_0 0 = .ok (.iload_n 0, 1) ∧ okop dsX9_needTeeth_0 0 = true) ∧ (decode dsX9_needTeeth_0 1 = .ok (.bipush 6, 2) ∧ okop dsX9_needTeeth_0 1 = true) ∧ (decode dsX9_needTeeth_0 3 = .ok (.sipush 200, 3) ∧ okop dsX9_needTeeth_0 3 = true) ∧ (decode dsX9_needTeeth_0 6 = .ok (.invokestatic 59, 3) ∧ okop dsX9_needTeeth_0 6 = true) ∧ (decode dsX9_needTeeth_0 9 = .ok (.return_, 1) ∧ okop dsX9_needTeeth_0 9 = true) := by decide +kernel
theorem dX9_needTeeth_0 : decode cX9_needTeeth 0 = .ok (.iload_n 0, 1) := dgq (p := 0) daX9_needTeeth_0 dbX9_needTeeth_0.1
theorem dX9_needTeeth_1 : decode cX9_needTeeth 1 = .ok (.bipush 6, 2) := dgq (p := 1) daX9_needTeeth_0 dbX9_needTeeth_0.2.1
theorem dX9_needTeeth_3 : decode cX9_needTeeth 3 = .ok (.sipush 200, 3) := dgq (p := 3) daX9_needTeeth_0 dbX9_needTeeth_0.2.2.1
theorem dX9_needTeeth_6 : decode cX9_needTeeth 6 = .ok (.invokestatic 59, 3) := dgq (p := 6) daX9_needTeeth_0 dbX9_needTeeth_0.2.2.2.1
theorem dX9_needTeeth_9 : decode cX9_needTeeth 9 = .ok (.return_, 1) := dgq (p := 9) daX9_needTeeth_0 dbX9_needTeeth_0.2.2.2.2
set_option maxRecDepth 20000 in
theorem ggX9_needRatio_X9_needRange : GoodIn wsX9_needRatio wsX9_needRange := goodIn_ca (goodIn_q _ [4, 5, 6] rfl (by decide +kernel)) (goodIn_sub (fun _ h => List.mem_cons_of_mem _ (List.mem_append_right _ h)) (by decide +kernel))
set_option maxRecDepth 20000 in
theorem gX9_needRatio_X9_needRange : GoodIn wsX9_needRatio (va_wsS RX9 59 yX9_needRange wsX9_needRange) := goodIn_app (goodIn_q _ [1, 2, 3] rfl (by decide +kernel)) ggX9_needRatio_X9_needRange
def dsX9_needRatio_0 : ByteArray := ⟨#[26, 4, 17, 39, 15, 184, 0, 59, 27, 4, 17, 39, 15, 184, 0, 59, 177]⟩
theorem daX9_needRatio_0 : agB cX9_needRatio dsX9_needRatio_0 0 := agB_of (n := 17) (by decide +kernel)
theorem dbX9_needRatio_0 : (decode dsX9_needRatio_0 0 = .ok (.iload_n 0, 1) ∧ okop dsX9_needRatio_0 0 = true) ∧ (decode dsX9_needRatio_0 1 = .ok (.iconst 1, 1) ∧ okop dsX9_needRatio_0 1 = true) ∧ (decode dsX9_needRatio_0 2 = .ok (.sipush 9999, 3) ∧ okop dsX9_needRatio_0 2 = true) ∧ (decode dsX9_needRatio_0 5 = .ok (.invokestatic 59, 3) ∧ okop dsX9_needRatio_0 5 = true) ∧ (decode dsX9_needRatio_0 8 = .ok (.iload_n 1, 1) ∧ okop dsX9_needRatio_0 8 = true) ∧ (decode dsX9_needRatio_0 9 = .ok (.iconst 1, 1) ∧ okop dsX9_needRatio_0 9 = true) ∧ (decode dsX9_needRatio_0 10 = .ok (.sipush 9999, 3) ∧ okop dsX9_needRatio_0 10 = true) ∧ (decode dsX9_needRatio_0 13 = .ok (.invokestatic 59, 3) ∧ okop dsX9_needRatio_0 13 = true) ∧ (decode dsX9_needRatio_0 16 = .ok (.return_, 1) ∧ okop dsX9_needRatio_0 16 = true) := by decide +kernel
theorem dX9_needRatio_0 : decode cX9_needRatio 0 = .ok (.iload_n 0, 1) := dgq (p := 0) daX9_needRatio_0 dbX9_needRatio_0.1
theorem dX9_needRatio_1 : decode cX9_needRatio 1 = .ok (.iconst 1, 1) := dgq (p := 1) daX9_needRatio_0 dbX9_needRatio_0.2.1
theorem dX9_needRatio_2 : decode cX9_needRatio 2 = .ok (.sipush 9999, 3) := dgq (p := 2) daX9_needRatio_0 dbX9_needRatio_0.2.2.1
theorem dX9_needRatio_5 : decode cX9_needRatio 5 = .ok (.invokestatic 59, 3) := dgq (p := 5) daX9_needRatio_0 dbX9_needRatio_0.2.2.2.1
theorem dX9_needRatio_8 : decode cX9_needRatio 8 = .ok (.iload_n 1, 1) := dgq (p := 8) daX9_needRatio_0 dbX9_needRatio_0.2.2.2.2.1
theorem dX9_needRatio_9 : decode cX9_needRatio 9 = .ok (.iconst 1, 1) := dgq (p := 9) daX9_needRatio_0 dbX9_needRatio_0.2.2.2.2.2.1
theorem dX9_needRatio_10 : decode cX9_needRatio 10 = .ok (.sipush 9999, 3) := dgq (p := 10) daX9_needRatio_0 dbX9_needRatio_0.2.2.2.2.2.2.1
theorem dX9_needRatio_13 : decode cX9_needRatio 13 = .ok (.invokestatic 59, 3) := dgq (p := 13) daX9_needRatio_0 dbX9_needRatio_0.2.2.2.2.2.2.2.1
theorem dX9_needRatio_16 : decode cX9_needRatio 16 = .ok (.return_, 1) := dgq (p := 16) daX9_needRatio_0 dbX9_needRatio_0.2.2.2.2.2.2.2.2
def dsX9_needKind_0 : ByteArray := ⟨#[26, 16, 104, 159, 0, 32, 26, 16, 102, 159, 0, 26, 26, 16, 103, 159, 0, 20, 26]⟩
theorem daX9_needKind_0 : agB cX9_needKind dsX9_needKind_0 0 := agB_of (n := 19) (by decide +kernel)
theorem dbX9_needKind_0 : (decode dsX9_needKind_0 0 = .ok (.iload_n 0, 1) ∧ okop dsX9_needKind_0 0 = true) ∧ (decode dsX9_needKind_0 1 = .ok (.bipush 104, 2) ∧ okop dsX9_needKind_0 1 = true) ∧ (decode dsX9_needKind_0 3 = .ok (.if_icmp .eq 32, 3) ∧ okop dsX9_needKind_0 3 = true) ∧ (decode dsX9_needKind_0 6 = .ok (.iload_n 0, 1) ∧ okop dsX9_needKind_0 6 = true) ∧ (decode dsX9_needKind_0 7 = .ok (.bipush 102, 2) ∧ okop dsX9_needKind_0 7 = true) ∧ (decode dsX9_needKind_0 9 = .ok (.if_icmp .eq 26, 3) ∧ okop dsX9_needKind_0 9 = true) ∧ (decode dsX9_needKind_0 12 = .ok (.iload_n 0, 1) ∧ okop dsX9_needKind_0 12 = true) ∧ (decode dsX9_needKind_0 13 = .ok (.bipush 103, 2) ∧ okop dsX9_needKind_0 13 = true) ∧ (decode dsX9_needKind_0 15 = .ok (.if_icmp .eq 20, 3) ∧ okop dsX9_needKind_0 15 = true) ∧ (decode dsX9_needKind_0 18 = .ok (.iload_n 0, 1) ∧ okop dsX9_needKind_0 18 = true) := by decide +kernel
theorem dX9_needKind_0 : decode cX9_needKind 0 = .ok (.iload_n 0, 1) := dgq (p := 0) daX9_needKind_0 dbX9_needKind_0.1
theorem dX9_needKind_1 : decode cX9_needKind 1 = .ok (.bipush 104, 2) := dgq (p := 1) daX9_needKind_0 dbX9_needKind_0.2.1
theorem dX9_needKind_3 : decode cX9_needKind 3 = .ok (.if_icmp .eq 32, 3) := dgq (p := 3) daX9_needKind_0 dbX9_needKind_0.2.2.1
theorem dX9_needKind_6 : decode cX9_needKind 6 = .ok (.iload_n 0, 1) := dgq (p := 6) daX9_needKind_0 dbX9_needKind_0.2.2.2.1
theorem dX9_needKind_7 : decode cX9_needKind 7 = .ok (.bipush 102, 2) := dgq (p := 7) daX9_needKind_0 dbX9_needKind_0.2.2.2.2.1
theorem dX9_needKind_9 : decode cX9_needKind 9 = .ok (.if_icmp .eq 26, 3) := dgq (p := 9) daX9_needKind_0 dbX9_needKind_0.2.2.2.2.2.1
theorem dX9_needKind_12 : decode cX9_needKind 12 = .ok (.iload_n 0, 1) := dgq (p := 12) daX9_needKind_0 dbX9_needKind_0.2.2.2.2.2.2.1
theorem dX9_needKind_13 : decode cX9_needKind 13 = .ok (.bipush 103, 2) := dgq (p := 13) daX9_needKind_0 dbX9_needKind_0.2.2.2.2.2.2.2.1
theorem dX9_needKind_15 : decode cX9_needKind 15 = .ok (.if_icmp .eq 20, 3) := dgq (p := 15) daX9_needKind_0 dbX9_needKind_0.2.2.2.2.2.2.2.2.1
theorem dX9_needKind_18 : decode cX9_needKind 18 = .ok (.iload_n 0, 1) := dgq (p := 18) daX9_needKind_0 dbX9_needKind_0.2.2.2.2.2.2.2.2.2
def dsX9_needKind_19 : ByteArray := ⟨#[16, 99, 159, 0, 14, 187, 0, 110, 89, 19, 2, 15, 183, 0, 114, 191, 177]⟩
theorem daX9_needKind_19 : agB cX9_needKind dsX9_needKind_19 19 := agB_of (n := 17) (by decide +kernel)
theorem dbX9_needKind_19 : (decode dsX9_needKind_19 0 = .ok (.bipush 99, 2) ∧ okop dsX9_needKind_19 0 = true) ∧ (decode dsX9_needKind_19 2 = .ok (.if_icmp .eq 14, 3) ∧ okop dsX9_needKind_19 2 = true) ∧ (decode dsX9_needKind_19 5 = .ok (.new 110, 3) ∧ okop dsX9_needKind_19 5 = true) ∧ (decode dsX9_needKind_19 8 = .ok (.dup, 1) ∧ okop dsX9_needKind_19 8 = true) ∧ (decode dsX9_needKind_19 9 = .ok (.ldc_w 527, 3) ∧ okop dsX9_needKind_19 9 = true) ∧ (decode dsX9_needKind_19 12 = .ok (.invokespecial 114, 3) ∧ okop dsX9_needKind_19 12 = true) ∧ (decode dsX9_needKind_19 15 = .ok (.athrow, 1) ∧ okop dsX9_needKind_19 15 = true) ∧ (decode dsX9_needKind_19 16 = .ok (.return_, 1) ∧ okop dsX9_needKind_19 16 = true) := by decide +kernel
theorem dX9_needKind_19 : decode cX9_needKind 19 = .ok (.bipush 99, 2) := dgq (p := 0) daX9_needKind_19 dbX9_needKind_19.1
theorem dX9_needKind_21 : decode cX9_needKind 21 = .ok (.if_icmp .eq 14, 3) := dgq (p := 2) daX9_needKind_19 dbX9_needKind_19.2.1
theorem dX9_needKind_24 : decode cX9_needKind 24 = .ok (.new 110, 3) := dgq (p := 5) daX9_needKind_19 dbX9_needKind_19.2.2.1
theorem dX9_needKind_27 : decode cX9_needKind 27 = .ok (.dup, 1) := dgq (p := 8) daX9_needKind_19 dbX9_needKind_19.2.2.2.1
theorem dX9_needKind_28 : decode cX9_needKind 28 = .ok (.ldc_w 527, 3) := dgq (p := 9) daX9_needKind_19 dbX9_needKind_19.2.2.2.2.1
theorem dX9_needKind_31 : decode cX9_needKind 31 = .ok (.invokespecial 114, 3) := dgq (p := 12) daX9_needKind_19 dbX9_needKind_19.2.2.2.2.2.1
theorem dX9_needKind_34 : decode cX9_needKind 34 = .ok (.athrow, 1) := dgq (p := 15) daX9_needKind_19 dbX9_needKind_19.2.2.2.2.2.2.1
theorem dX9_needKind_35 : decode cX9_needKind 35 = .ok (.return_, 1) := dgq (p := 16) daX9_needKind_19 dbX9_needKind_19.2.2.2.2.2.2.2
set_option maxRecDepth 20000 in
theorem ggX9_needPair_X2_pairsWith : GoodIn wsX9_needPair wsX2_pairsWith := goodIn_ca (goodIn_q _ [5, 6, 7] rfl (by decide +kernel)) (goodIn_sub (fun _ h => (List.mem_cons_of_mem _ (List.mem_append_left _ (List.mem_append_right _ h)))) tg_wsX20)
set_option maxRecDepth 20000 in
theorem gX9_needPair_X2_pairsWith : GoodIn wsX9_needPair (wsV RX9 115 RX2 yX2_pairsWith wsX2_pairsWith) := goodIn_app (goodIn_q _ [1, 2, 3, 4] rfl (by decide +kernel)) ggX9_needPair_X2_pairsWith
set_option maxRecDepth 20000 in
theorem ggX9_needPair_X9_allowOnly : GoodIn wsX9_needPair wsX9_allowOnly := goodIn_ca (goodIn_q _ [11, 12, 13] rfl (by decide +kernel)) (goodIn_sub (fun _ h => List.mem_cons_of_mem _ (List.mem_append_right _ h)) (by decide +kernel))
set_option maxRecDepth 20000 in
theorem gX9_needPair_X9_allowOnly : GoodIn wsX9_needPair (va_wsS RX9 85 yX9_allowOnly wsX9_allowOnly) := goodIn_app (goodIn_q _ [8, 9, 10] rfl (by decide +kernel)) ggX9_needPair_X9_allowOnly
def dsX9_needPair_0 : ByteArray := ⟨#[42, 43, 165, 0, 15, 42, 43, 182, 0, 115, 153, 0, 7, 4, 167, 0, 4, 3]⟩
theorem daX9_needPair_0 : agB cX9_needPair dsX9_needPair_0 0 := agB_of (n := 18) (by decide +kernel)
theorem dbX9_needPair_0 : (decode dsX9_needPair_0 0 = .ok (.aload_n 0, 1) ∧ okop dsX9_needPair_0 0 = true) ∧ (decode dsX9_needPair_0 1 = .ok (.aload_n 1, 1) ∧ okop dsX9_needPair_0 1 = true) ∧ (decode dsX9_needPair_0 2 = .ok (.if_acmp .eq 15, 3) ∧ okop dsX9_needPair_0 2 = true) ∧ (decode dsX9_needPair_0 5 = .ok (.aload_n 0, 1) ∧ okop dsX9_needPair_0 5 = true) ∧ (decode dsX9_needPair_0 6 = .ok (.aload_n 1, 1) ∧ okop dsX9_needPair_0 6 = true) ∧ (decode dsX9_needPair_0 7 = .ok (.invokevirtual 115, 3) ∧ okop dsX9_needPair_0 7 = true) ∧ (decode dsX9_needPair_0 10 = .ok (.ifCond .eq 7, 3) ∧ okop dsX9_needPair_0 10 = true) ∧ (decode dsX9_needPair_0 13 = .ok (.iconst 1, 1) ∧ okop dsX9_needPair_0 13 = true) ∧ (decode dsX9_needPair_0 14 = .ok (.goto 4, 3) ∧ okop dsX9_needPair_0 14 = true) ∧ (decode dsX9_needPair_0 17 = .ok (.iconst 0, 1) ∧ okop dsX9_needPair_0 17 = true) := by decide +kernel
theorem dX9_needPair_0 : decode cX9_needPair 0 = .ok (.aload_n 0, 1) := dgq (p := 0) daX9_needPair_0 dbX9_needPair_0.1
theorem dX9_needPair_1 : decode cX9_needPair 1 = .ok (.aload_n 1, 1) := dgq (p := 1) daX9_needPair_0 dbX9_needPair_0.2.1
theorem dX9_needPair_2 : decode cX9_needPair 2 = .ok (.if_acmp .eq 15, 3) := dgq (p := 2) daX9_needPair_0 dbX9_needPair_0.2.2.1
theorem dX9_needPair_5 : decode cX9_needPair 5 = .ok (.aload_n 0, 1) := dgq (p := 5) daX9_needPair_0 dbX9_needPair_0.2.2.2.1
theorem dX9_needPair_6 : decode cX9_needPair 6 = .ok (.aload_n 1, 1) := dgq (p := 6) daX9_needPair_0 dbX9_needPair_0.2.2.2.2.1
theorem dX9_needPair_7 : decode cX9_needPair 7 = .ok (.invokevirtual 115, 3) := dgq (p := 7) daX9_needPair_0 dbX9_needPair_0.2.2.2.2.2.1
theorem dX9_needPair_10 : decode cX9_needPair 10 = .ok (.ifCond .eq 7, 3) := dgq (p := 10) daX9_needPair_0 dbX9_needPair_0.2.2.2.2.2.2.1
theorem dX9_needPair_13 : decode cX9_needPair 13 = .ok (.iconst 1, 1) := dgq (p := 13) daX9_needPair_0 dbX9_needPair_0.2.2.2.2.2.2.2.1
theorem dX9_needPair_14 : decode cX9_needPair 14 = .ok (.goto 4, 3) := dgq (p := 14) daX9_needPair_0 dbX9_needPair_0.2.2.2.2.2.2.2.2.1
theorem dX9_needPair_17 : decode cX9_needPair 17 = .ok (.iconst 0, 1) := dgq (p := 17) daX9_needPair_0 dbX9_needPair_0.2.2.2.2.2.2.2.2.2
theorem dX9_needPair_18 : decode cX9_needPair 18 = .ok (.invokestatic 85, 3) := by decide +kernel
theorem dX9_needPair_21 : decode cX9_needPair 21 = .ok (.return_, 1) := by decide +kernel
def dsX9_allowOnly_0 : ByteArray := ⟨#[26, 154, 0, 14, 187, 2, 17, 89, 19, 2, 19, 183, 2, 21, 191, 177]⟩
theorem daX9_allowOnly_0 : agB cX9_allowOnly dsX9_allowOnly_0 0 := agB_of (n := 16) (by decide +kernel)
theorem dbX9_allowOnly_0 : (decode dsX9_allowOnly_0 0 = .ok (.iload_n 0, 1) ∧ okop dsX9_allowOnly_0 0 = true) ∧ (decode dsX9_allowOnly_0 1 = .ok (.ifCond .ne 14, 3) ∧ okop dsX9_allowOnly_0 1 = true) ∧ (decode dsX9_allowOnly_0 4 = .ok (.new 529, 3) ∧ okop dsX9_allowOnly_0 4 = true) ∧ (decode dsX9_allowOnly_0 7 = .ok (.dup, 1) ∧ okop dsX9_allowOnly_0 7 = true) ∧ (decode dsX9_allowOnly_0 8 = .ok (.ldc_w 531, 3) ∧ okop dsX9_allowOnly_0 8 = true) ∧ (decode dsX9_allowOnly_0 11 = .ok (.invokespecial 533, 3) ∧ okop dsX9_allowOnly_0 11 = true) ∧ (decode dsX9_allowOnly_0 14 = .ok (.athrow, 1) ∧ okop dsX9_allowOnly_0 14 = true) ∧ (decode dsX9_allowOnly_0 15 = .ok (.return_, 1) ∧ okop dsX9_allowOnly_0 15 = true) := by decide +kernel
theorem dX9_allowOnly_0 : decode cX9_allowOnly 0 = .ok (.iload_n 0, 1) := dgq (p := 0) daX9_allowOnly_0 dbX9_allowOnly_0.1
theorem dX9_allowOnly_1 : decode cX9_allowOnly 1 = .ok (.ifCond .ne 14, 3) := dgq (p := 1) daX9_allowOnly_0 dbX9_allowOnly_0.2.1
theorem dX9_allowOnly_4 : decode cX9_allowOnly 4 = .ok (.new 529, 3) := dgq (p := 4) daX9_allowOnly_0 dbX9_allowOnly_0.2.2.1
theorem dX9_allowOnly_7 : decode cX9_allowOnly 7 = .ok (.dup, 1) := dgq (p := 7) daX9_allowOnly_0 dbX9_allowOnly_0.2.2.2.1
theorem dX9_allowOnly_8 : decode cX9_allowOnly 8 = .ok (.ldc_w 531, 3) := dgq (p := 8) daX9_allowOnly_0 dbX9_allowOnly_0.2.2.2.2.1
theorem dX9_allowOnly_11 : decode cX9_allowOnly 11 = .ok (.invokespecial 533, 3) := dgq (p := 11) daX9_allowOnly_0 dbX9_allowOnly_0.2.2.2.2.2.1
theorem dX9_allowOnly_14 : decode cX9_allowOnly 14 = .ok (.athrow, 1) := dgq (p := 14) daX9_allowOnly_0 dbX9_allowOnly_0.2.2.2.2.2.2.1
theorem dX9_allowOnly_15 : decode cX9_allowOnly 15 = .ok (.return_, 1) := dgq (p := 15) daX9_allowOnly_0 dbX9_allowOnly_0.2.2.2.2.2.2.2
set_option maxRecDepth 20000 in
theorem ggX9_needFourWheels_X0_hasFour : GoodIn wsX9_needFourWheels wsX0_hasFour := goodIn_ca (goodIn_q _ [8, 9] rfl (by decide +kernel)) (goodIn_sub (fun _ h => (List.mem_cons_of_mem _ (List.mem_append_left _ (List.mem_append_right _ h)))) tg_wsX00)
set_option maxRecDepth 20000 in
theorem gX9_needFourWheels_X0_hasFour : GoodIn wsX9_needFourWheels (wsV RX9 534 RX0 yX0_hasFour wsX0_hasFour) := goodIn_app (goodIn_q _ [4, 5, 6, 7] rfl (by decide +kernel)) ggX9_needFourWheels_X0_hasFour
def dsX9_needFourWheels_0 : ByteArray := ⟨#[42, 180, 0, 30, 182, 2, 22, 154, 0, 14, 187, 0, 150, 89, 19, 2, 25, 183, 0, 154, 191, 177]⟩
theorem daX9_needFourWheels_0 : agB cX9_needFourWheels dsX9_needFourWheels_0 0 := agB_of (n := 22) (by decide +kernel)
theorem dbX9_needFourWheels_0 : (decode dsX9_needFourWheels_0 0 = .ok (.aload_n 0, 1) ∧ okop dsX9_needFourWheels_0 0 = true) ∧ (decode dsX9_needFourWheels_0 1 = .ok (.getfield 30, 3) ∧ okop dsX9_needFourWheels_0 1 = true) ∧ (decode dsX9_needFourWheels_0 4 = .ok (.invokevirtual 534, 3) ∧ okop dsX9_needFourWheels_0 4 = true) ∧ (decode dsX9_needFourWheels_0 7 = .ok (.ifCond .ne 14, 3) ∧ okop dsX9_needFourWheels_0 7 = true) ∧ (decode dsX9_needFourWheels_0 10 = .ok (.new 150, 3) ∧ okop dsX9_needFourWheels_0 10 = true) ∧ (decode dsX9_needFourWheels_0 13 = .ok (.dup, 1) ∧ okop dsX9_needFourWheels_0 13 = true) ∧ (decode dsX9_needFourWheels_0 14 = .ok (.ldc_w 537, 3) ∧ okop dsX9_needFourWheels_0 14 = true) ∧ (decode dsX9_needFourWheels_0 17 = .ok (.invokespecial 154, 3) ∧ okop dsX9_needFourWheels_0 17 = true) ∧ (decode dsX9_needFourWheels_0 20 = .ok (.athrow, 1) ∧ okop dsX9_needFourWheels_0 20 = true) ∧ (decode dsX9_needFourWheels_0 21 = .ok (.return_, 1) ∧ okop dsX9_needFourWheels_0 21 = true) := by decide +kernel
theorem dX9_needFourWheels_0 : decode cX9_needFourWheels 0 = .ok (.aload_n 0, 1) := dgq (p := 0) daX9_needFourWheels_0 dbX9_needFourWheels_0.1
theorem dX9_needFourWheels_1 : decode cX9_needFourWheels 1 = .ok (.getfield 30, 3) := dgq (p := 1) daX9_needFourWheels_0 dbX9_needFourWheels_0.2.1
theorem dX9_needFourWheels_4 : decode cX9_needFourWheels 4 = .ok (.invokevirtual 534, 3) := dgq (p := 4) daX9_needFourWheels_0 dbX9_needFourWheels_0.2.2.1
theorem dX9_needFourWheels_7 : decode cX9_needFourWheels 7 = .ok (.ifCond .ne 14, 3) := dgq (p := 7) daX9_needFourWheels_0 dbX9_needFourWheels_0.2.2.2.1
theorem dX9_needFourWheels_10 : decode cX9_needFourWheels 10 = .ok (.new 150, 3) := dgq (p := 10) daX9_needFourWheels_0 dbX9_needFourWheels_0.2.2.2.2.1
theorem dX9_needFourWheels_13 : decode cX9_needFourWheels 13 = .ok (.dup, 1) := dgq (p := 13) daX9_needFourWheels_0 dbX9_needFourWheels_0.2.2.2.2.2.1
theorem dX9_needFourWheels_14 : decode cX9_needFourWheels 14 = .ok (.ldc_w 537, 3) := dgq (p := 14) daX9_needFourWheels_0 dbX9_needFourWheels_0.2.2.2.2.2.2.1
theorem dX9_needFourWheels_17 : decode cX9_needFourWheels 17 = .ok (.invokespecial 154, 3) := dgq (p := 17) daX9_needFourWheels_0 dbX9_needFourWheels_0.2.2.2.2.2.2.2.1
theorem dX9_needFourWheels_20 : decode cX9_needFourWheels 20 = .ok (.athrow, 1) := dgq (p := 20) daX9_needFourWheels_0 dbX9_needFourWheels_0.2.2.2.2.2.2.2.2.1
theorem dX9_needFourWheels_21 : decode cX9_needFourWheels 21 = .ok (.return_, 1) := dgq (p := 21) daX9_needFourWheels_0 dbX9_needFourWheels_0.2.2.2.2.2.2.2.2.2
def dsX9_needAnyGear_0 : ByteArray := ⟨#[42, 180, 0, 64, 154, 0, 14, 187, 2, 27, 89, 19, 2, 29, 183, 2, 31, 191, 177]⟩
theorem daX9_needAnyGear_0 : agB cX9_needAnyGear dsX9_needAnyGear_0 0 := agB_of (n := 19) (by decide +kernel)
theorem dbX9_needAnyGear_0 : (decode dsX9_needAnyGear_0 0 = .ok (.aload_n 0, 1) ∧ okop dsX9_needAnyGear_0 0 = true) ∧ (decode dsX9_needAnyGear_0 1 = .ok (.getfield 64, 3) ∧ okop dsX9_needAnyGear_0 1 = true) ∧ (decode dsX9_needAnyGear_0 4 = .ok (.ifCond .ne 14, 3) ∧ okop dsX9_needAnyGear_0 4 = true) ∧ (decode dsX9_needAnyGear_0 7 = .ok (.new 539, 3) ∧ okop dsX9_needAnyGear_0 7 = true) ∧ (decode dsX9_needAnyGear_0 10 = .ok (.dup, 1) ∧ okop dsX9_needAnyGear_0 10 = true) ∧ (decode dsX9_needAnyGear_0 11 = .ok (.ldc_w 541, 3) ∧ okop dsX9_needAnyGear_0 11 = true) ∧ (decode dsX9_needAnyGear_0 14 = .ok (.invokespecial 543, 3) ∧ okop dsX9_needAnyGear_0 14 = true) ∧ (decode dsX9_needAnyGear_0 17 = .ok (.athrow, 1) ∧ okop dsX9_needAnyGear_0 17 = true) ∧ (decode dsX9_needAnyGear_0 18 = .ok (.return_, 1) ∧ okop dsX9_needAnyGear_0 18 = true) := by decide +kernel
theorem dX9_needAnyGear_0 : decode cX9_needAnyGear 0 = .ok (.aload_n 0, 1) := dgq (p := 0) daX9_needAnyGear_0 dbX9_needAnyGear_0.1
theorem dX9_needAnyGear_1 : decode cX9_needAnyGear 1 = .ok (.getfield 64, 3) := dgq (p := 1) daX9_needAnyGear_0 dbX9_needAnyGear_0.2.1
theorem dX9_needAnyGear_4 : decode cX9_needAnyGear 4 = .ok (.ifCond .ne 14, 3) := dgq (p := 4) daX9_needAnyGear_0 dbX9_needAnyGear_0.2.2.1
theorem dX9_needAnyGear_7 : decode cX9_needAnyGear 7 = .ok (.new 539, 3) := dgq (p := 7) daX9_needAnyGear_0 dbX9_needAnyGear_0.2.2.2.1
theorem dX9_needAnyGear_10 : decode cX9_needAnyGear 10 = .ok (.dup, 1) := dgq (p := 10) daX9_needAnyGear_0 dbX9_needAnyGear_0.2.2.2.2.1
theorem dX9_needAnyGear_11 : decode cX9_needAnyGear 11 = .ok (.ldc_w 541, 3) := dgq (p := 11) daX9_needAnyGear_0 dbX9_needAnyGear_0.2.2.2.2.2.1
theorem dX9_needAnyGear_14 : decode cX9_needAnyGear 14 = .ok (.invokespecial 543, 3) := dgq (p := 14) daX9_needAnyGear_0 dbX9_needAnyGear_0.2.2.2.2.2.2.1
theorem dX9_needAnyGear_17 : decode cX9_needAnyGear 17 = .ok (.athrow, 1) := dgq (p := 17) daX9_needAnyGear_0 dbX9_needAnyGear_0.2.2.2.2.2.2.2.1
theorem dX9_needAnyGear_18 : decode cX9_needAnyGear 18 = .ok (.return_, 1) := dgq (p := 18) daX9_needAnyGear_0 dbX9_needAnyGear_0.2.2.2.2.2.2.2.2
def dsX9_root_0 : ByteArray := ⟨#[9, 65, 16, 30, 54, 4, 21, 4, 155, 0, 30, 32, 10, 21, 4, 121]⟩
theorem daX9_root_0 : agB cX9_root dsX9_root_0 0 := agB_of (n := 16) (by decide +kernel)
theorem dbX9_root_0 : (decode dsX9_root_0 0 = .ok (.lconst 0, 1) ∧ okop dsX9_root_0 0 = true) ∧ (decode dsX9_root_0 1 = .ok (.lstore_n 2, 1) ∧ okop dsX9_root_0 1 = true) ∧ (decode dsX9_root_0 2 = .ok (.bipush 30, 2) ∧ okop dsX9_root_0 2 = true) ∧ (decode dsX9_root_0 4 = .ok (.istore 4, 2) ∧ okop dsX9_root_0 4 = true) ∧ (decode dsX9_root_0 6 = .ok (.iload 4, 2) ∧ okop dsX9_root_0 6 = true) ∧ (decode dsX9_root_0 8 = .ok (.ifCond .lt 30, 3) ∧ okop dsX9_root_0 8 = true) ∧ (decode dsX9_root_0 11 = .ok (.lload_n 2, 1) ∧ okop dsX9_root_0 11 = true) ∧ (decode dsX9_root_0 12 = .ok (.lconst 1, 1) ∧ okop dsX9_root_0 12 = true) ∧ (decode dsX9_root_0 13 = .ok (.iload 4, 2) ∧ okop dsX9_root_0 13 = true) ∧ (decode dsX9_root_0 15 = .ok (.lshl, 1) ∧ okop dsX9_root_0 15 = true) := by decide +kernel
theorem dX9_root_0 : decode cX9_root 0 = .ok (.lconst 0, 1) := dgq (p := 0) daX9_root_0 dbX9_root_0.1
theorem dX9_root_1 : decode cX9_root 1 = .ok (.lstore_n 2, 1) := dgq (p := 1) daX9_root_0 dbX9_root_0.2.1
theorem dX9_root_2 : decode cX9_root 2 = .ok (.bipush 30, 2) := dgq (p := 2) daX9_root_0 dbX9_root_0.2.2.1
theorem dX9_root_4 : decode cX9_root 4 = .ok (.istore 4, 2) := dgq (p := 4) daX9_root_0 dbX9_root_0.2.2.2.1
theorem dX9_root_6 : decode cX9_root 6 = .ok (.iload 4, 2) := dgq (p := 6) daX9_root_0 dbX9_root_0.2.2.2.2.1
theorem dX9_root_8 : decode cX9_root 8 = .ok (.ifCond .lt 30, 3) := dgq (p := 8) daX9_root_0 dbX9_root_0.2.2.2.2.2.1
theorem dX9_root_11 : decode cX9_root 11 = .ok (.lload_n 2, 1) := dgq (p := 11) daX9_root_0 dbX9_root_0.2.2.2.2.2.2.1
theorem dX9_root_12 : decode cX9_root 12 = .ok (.lconst 1, 1) := dgq (p := 12) daX9_root_0 dbX9_root_0.2.2.2.2.2.2.2.1
theorem dX9_root_13 : decode cX9_root 13 = .ok (.iload 4, 2) := dgq (p := 13) daX9_root_0 dbX9_root_0.2.2.2.2.2.2.2.2.1
theorem dX9_root_15 : decode cX9_root 15 = .ok (.lshl, 1) := dgq (p := 15) daX9_root_0 dbX9_root_0.2.2.2.2.2.2.2.2.2
def dsX9_root_16 : ByteArray := ⟨#[97, 55, 5, 22, 5, 22, 5, 105, 30, 148, 157, 0, 6, 22, 5, 65]⟩
theorem daX9_root_16 : agB cX9_root dsX9_root_16 16 := agB_of (n := 16) (by decide +kernel)
theorem dbX9_root_16 : (decode dsX9_root_16 0 = .ok (.ladd, 1) ∧ okop dsX9_root_16 0 = true) ∧ (decode dsX9_root_16 1 = .ok (.lstore 5, 2) ∧ okop dsX9_root_16 1 = true) ∧ (decode dsX9_root_16 3 = .ok (.lload 5, 2) ∧ okop dsX9_root_16 3 = true) ∧ (decode dsX9_root_16 5 = .ok (.lload 5, 2) ∧ okop dsX9_root_16 5 = true) ∧ (decode dsX9_root_16 7 = .ok (.lmul, 1) ∧ okop dsX9_root_16 7 = true) ∧ (decode dsX9_root_16 8 = .ok (.lload_n 0, 1) ∧ okop dsX9_root_16 8 = true) ∧ (decode dsX9_root_16 9 = .ok (.lcmp, 1) ∧ okop dsX9_root_16 9 = true) ∧ (decode dsX9_root_16 10 = .ok (.ifCond .gt 6, 3) ∧ okop dsX9_root_16 10 = true) ∧ (decode dsX9_root_16 13 = .ok (.lload 5, 2) ∧ okop dsX9_root_16 13 = true) ∧ (decode dsX9_root_16 15 = .ok (.lstore_n 2, 1) ∧ okop dsX9_root_16 15 = true) := by decide +kernel
theorem dX9_root_16 : decode cX9_root 16 = .ok (.ladd, 1) := dgq (p := 0) daX9_root_16 dbX9_root_16.1
theorem dX9_root_17 : decode cX9_root 17 = .ok (.lstore 5, 2) := dgq (p := 1) daX9_root_16 dbX9_root_16.2.1
theorem dX9_root_19 : decode cX9_root 19 = .ok (.lload 5, 2) := dgq (p := 3) daX9_root_16 dbX9_root_16.2.2.1
theorem dX9_root_21 : decode cX9_root 21 = .ok (.lload 5, 2) := dgq (p := 5) daX9_root_16 dbX9_root_16.2.2.2.1
theorem dX9_root_23 : decode cX9_root 23 = .ok (.lmul, 1) := dgq (p := 7) daX9_root_16 dbX9_root_16.2.2.2.2.1
theorem dX9_root_24 : decode cX9_root 24 = .ok (.lload_n 0, 1) := dgq (p := 8) daX9_root_16 dbX9_root_16.2.2.2.2.2.1
theorem dX9_root_25 : decode cX9_root 25 = .ok (.lcmp, 1) := dgq (p := 9) daX9_root_16 dbX9_root_16.2.2.2.2.2.2.1
theorem dX9_root_26 : decode cX9_root 26 = .ok (.ifCond .gt 6, 3) := dgq (p := 10) daX9_root_16 dbX9_root_16.2.2.2.2.2.2.2.1
theorem dX9_root_29 : decode cX9_root 29 = .ok (.lload 5, 2) := dgq (p := 13) daX9_root_16 dbX9_root_16.2.2.2.2.2.2.2.2.1
theorem dX9_root_31 : decode cX9_root 31 = .ok (.lstore_n 2, 1) := dgq (p := 15) daX9_root_16 dbX9_root_16.2.2.2.2.2.2.2.2.2
def dsX9_root_32 : ByteArray := ⟨#[132, 4, 255, 167, 255, 227, 32, 173]⟩
theorem daX9_root_32 : agB cX9_root dsX9_root_32 32 := agB_of (n := 8) (by decide +kernel)
theorem dbX9_root_32 : (decode dsX9_root_32 0 = .ok (.iinc 4 (-1), 3) ∧ okop dsX9_root_32 0 = true) ∧ (decode dsX9_root_32 3 = .ok (.goto (-29), 3) ∧ okop dsX9_root_32 3 = true) ∧ (decode dsX9_root_32 6 = .ok (.lload_n 2, 1) ∧ okop dsX9_root_32 6 = true) ∧ (decode dsX9_root_32 7 = .ok (.lreturn, 1) ∧ okop dsX9_root_32 7 = true) := by decide +kernel
theorem dX9_root_32 : decode cX9_root 32 = .ok (.iinc 4 (-1), 3) := dgq (p := 0) daX9_root_32 dbX9_root_32.1
theorem dX9_root_35 : decode cX9_root 35 = .ok (.goto (-29), 3) := dgq (p := 3) daX9_root_32 dbX9_root_32.2.1
theorem dX9_root_38 : decode cX9_root 38 = .ok (.lload_n 2, 1) := dgq (p := 6) daX9_root_32 dbX9_root_32.2.2.1
theorem dX9_root_39 : decode cX9_root 39 = .ok (.lreturn, 1) := dgq (p := 7) daX9_root_32 dbX9_root_32.2.2.2
def dsX9_commonDivisor_0 : ByteArray := ⟨#[26, 61, 27, 62, 3, 54, 4, 21, 4, 16, 64, 162, 0, 23, 29]⟩
theorem daX9_commonDivisor_0 : agB cX9_commonDivisor dsX9_commonDivisor_0 0 := agB_of (n := 15) (by decide +kernel)
theorem dbX9_commonDivisor_0 : (decode dsX9_commonDivisor_0 0 = .ok (.iload_n 0, 1) ∧ okop dsX9_commonDivisor_0 0 = true) ∧ (decode dsX9_commonDivisor_0 1 = .ok (.istore_n 2, 1) ∧ okop dsX9_commonDivisor_0 1 = true) ∧ (decode dsX9_commonDivisor_0 2 = .ok (.iload_n 1, 1) ∧ okop dsX9_commonDivisor_0 2 = true) ∧ (decode dsX9_commonDivisor_0 3 = .ok (.istore_n 3, 1) ∧ okop dsX9_commonDivisor_0 3 = true) ∧ (decode dsX9_commonDivisor_0 4 = .ok (.iconst 0, 1) ∧ okop dsX9_commonDivisor_0 4 = true) ∧ (decode dsX9_commonDivisor_0 5 = .ok (.istore 4, 2) ∧ okop dsX9_commonDivisor_0 5 = true) ∧ (decode dsX9_commonDivisor_0 7 = .ok (.iload 4, 2) ∧ okop dsX9_commonDivisor_0 7 = true) ∧ (decode dsX9_commonDivisor_0 9 = .ok (.bipush 64, 2) ∧ okop dsX9_commonDivisor_0 9 = true) ∧ (decode dsX9_commonDivisor_0 11 = .ok (.if_icmp .ge 23, 3) ∧ okop dsX9_commonDivisor_0 11 = true) ∧ (decode dsX9_commonDivisor_0 14 = .ok (.iload_n 3, 1) ∧ okop dsX9_commonDivisor_0 14 = true) := by decide +kernel
theorem dX9_commonDivisor_0 : decode cX9_commonDivisor 0 = .ok (.iload_n 0, 1) := dgq (p := 0) daX9_commonDivisor_0 dbX9_commonDivisor_0.1
theorem dX9_commonDivisor_1 : decode cX9_commonDivisor 1 = .ok (.istore_n 2, 1) := dgq (p := 1) daX9_commonDivisor_0 dbX9_commonDivisor_0.2.1
theorem dX9_commonDivisor_2 : decode cX9_commonDivisor 2 = .ok (.iload_n 1, 1) := dgq (p := 2) daX9_commonDivisor_0 dbX9_commonDivisor_0.2.2.1
theorem dX9_commonDivisor_3 : decode cX9_commonDivisor 3 = .ok (.istore_n 3, 1) := dgq (p := 3) daX9_commonDivisor_0 dbX9_commonDivisor_0.2.2.2.1
theorem dX9_commonDivisor_4 : decode cX9_commonDivisor 4 = .ok (.iconst 0, 1) := dgq (p := 4) daX9_commonDivisor_0 dbX9_commonDivisor_0.2.2.2.2.1
theorem dX9_commonDivisor_5 : decode cX9_commonDivisor 5 = .ok (.istore 4, 2) := dgq (p := 5) daX9_commonDivisor_0 dbX9_commonDivisor_0.2.2.2.2.2.1
theorem dX9_commonDivisor_7 : decode cX9_commonDivisor 7 = .ok (.iload 4, 2) := dgq (p := 7) daX9_commonDivisor_0 dbX9_commonDivisor_0.2.2.2.2.2.2.1
theorem dX9_commonDivisor_9 : decode cX9_commonDivisor 9 = .ok (.bipush 64, 2) := dgq (p := 9) daX9_commonDivisor_0 dbX9_commonDivisor_0.2.2.2.2.2.2.2.1
theorem dX9_commonDivisor_11 : decode cX9_commonDivisor 11 = .ok (.if_icmp .ge 23, 3) := dgq (p := 11) daX9_commonDivisor_0 dbX9_commonDivisor_0.2.2.2.2.2.2.2.2.1
theorem dX9_commonDivisor_14 : decode cX9_commonDivisor 14 = .ok (.iload_n 3, 1) := dgq (p := 14) daX9_commonDivisor_0 dbX9_commonDivisor_0.2.2.2.2.2.2.2.2.2
def dsX9_commonDivisor_15 : ByteArray := ⟨#[153, 0, 19, 28, 29, 112, 54, 5, 29, 61, 21, 5, 62, 132, 4, 1]⟩
theorem daX9_commonDivisor_15 : agB cX9_commonDivisor dsX9_commonDivisor_15 15 := agB_of (n := 16) (by decide +kernel)
theorem dbX9_commonDivisor_15 : (decode dsX9_commonDivisor_15 0 = .ok (.ifCond .eq 19, 3) ∧ okop dsX9_commonDivisor_15 0 = true) ∧ (decode dsX9_commonDivisor_15 3 = .ok (.iload_n 2, 1) ∧ okop dsX9_commonDivisor_15 3 = true) ∧ (decode dsX9_commonDivisor_15 4 = .ok (.iload_n 3, 1) ∧ okop dsX9_commonDivisor_15 4 = true) ∧ (decode dsX9_commonDivisor_15 5 = .ok (.irem, 1) ∧ okop dsX9_commonDivisor_15 5 = true) ∧ (decode dsX9_commonDivisor_15 6 = .ok (.istore 5, 2) ∧ okop dsX9_commonDivisor_15 6 = true) ∧ (decode dsX9_commonDivisor_15 8 = .ok (.iload_n 3, 1) ∧ okop dsX9_commonDivisor_15 8 = true) ∧ (decode dsX9_commonDivisor_15 9 = .ok (.istore_n 2, 1) ∧ okop dsX9_commonDivisor_15 9 = true) ∧ (decode dsX9_commonDivisor_15 10 = .ok (.iload 5, 2) ∧ okop dsX9_commonDivisor_15 10 = true) ∧ (decode dsX9_commonDivisor_15 12 = .ok (.istore_n 3, 1) ∧ okop dsX9_commonDivisor_15 12 = true) ∧ (decode dsX9_commonDivisor_15 13 = .ok (.iinc 4 1, 3) ∧ okop dsX9_commonDivisor_15 13 = true) := by decide +kernel
theorem dX9_commonDivisor_15 : decode cX9_commonDivisor 15 = .ok (.ifCond .eq 19, 3) := dgq (p := 0) daX9_commonDivisor_15 dbX9_commonDivisor_15.1
theorem dX9_commonDivisor_18 : decode cX9_commonDivisor 18 = .ok (.iload_n 2, 1) := dgq (p := 3) daX9_commonDivisor_15 dbX9_commonDivisor_15.2.1
theorem dX9_commonDivisor_19 : decode cX9_commonDivisor 19 = .ok (.iload_n 3, 1) := dgq (p := 4) daX9_commonDivisor_15 dbX9_commonDivisor_15.2.2.1
theorem dX9_commonDivisor_20 : decode cX9_commonDivisor 20 = .ok (.irem, 1) := dgq (p := 5) daX9_commonDivisor_15 dbX9_commonDivisor_15.2.2.2.1
theorem dX9_commonDivisor_21 : decode cX9_commonDivisor 21 = .ok (.istore 5, 2) := dgq (p := 6) daX9_commonDivisor_15 dbX9_commonDivisor_15.2.2.2.2.1
theorem dX9_commonDivisor_23 : decode cX9_commonDivisor 23 = .ok (.iload_n 3, 1) := dgq (p := 8) daX9_commonDivisor_15 dbX9_commonDivisor_15.2.2.2.2.2.1
theorem dX9_commonDivisor_24 : decode cX9_commonDivisor 24 = .ok (.istore_n 2, 1) := dgq (p := 9) daX9_commonDivisor_15 dbX9_commonDivisor_15.2.2.2.2.2.2.1
theorem dX9_commonDivisor_25 : decode cX9_commonDivisor 25 = .ok (.iload 5, 2) := dgq (p := 10) daX9_commonDivisor_15 dbX9_commonDivisor_15.2.2.2.2.2.2.2.1
theorem dX9_commonDivisor_27 : decode cX9_commonDivisor 27 = .ok (.istore_n 3, 1) := dgq (p := 12) daX9_commonDivisor_15 dbX9_commonDivisor_15.2.2.2.2.2.2.2.2.1
theorem dX9_commonDivisor_28 : decode cX9_commonDivisor 28 = .ok (.iinc 4 1, 3) := dgq (p := 13) daX9_commonDivisor_15 dbX9_commonDivisor_15.2.2.2.2.2.2.2.2.2
def dsX9_commonDivisor_31 : ByteArray := ⟨#[167, 255, 232, 28, 4, 184, 1, 106, 172]⟩
theorem daX9_commonDivisor_31 : agB cX9_commonDivisor dsX9_commonDivisor_31 31 := agB_of (n := 9) (by decide +kernel)
theorem dbX9_commonDivisor_31 : (decode dsX9_commonDivisor_31 0 = .ok (.goto (-24), 3) ∧ okop dsX9_commonDivisor_31 0 = true) ∧ (decode dsX9_commonDivisor_31 3 = .ok (.iload_n 2, 1) ∧ okop dsX9_commonDivisor_31 3 = true) ∧ (decode dsX9_commonDivisor_31 4 = .ok (.iconst 1, 1) ∧ okop dsX9_commonDivisor_31 4 = true) ∧ (decode dsX9_commonDivisor_31 5 = .ok (.invokestatic 362, 3) ∧ okop dsX9_commonDivisor_31 5 = true) ∧ (decode dsX9_commonDivisor_31 8 = .ok (.ireturn, 1) ∧ okop dsX9_commonDivisor_31 8 = true) := by decide +kernel
theorem dX9_commonDivisor_31 : decode cX9_commonDivisor 31 = .ok (.goto (-24), 3) := dgq (p := 0) daX9_commonDivisor_31 dbX9_commonDivisor_31.1
theorem dX9_commonDivisor_34 : decode cX9_commonDivisor 34 = .ok (.iload_n 2, 1) := dgq (p := 3) daX9_commonDivisor_31 dbX9_commonDivisor_31.2.1
theorem dX9_commonDivisor_35 : decode cX9_commonDivisor 35 = .ok (.iconst 1, 1) := dgq (p := 4) daX9_commonDivisor_31 dbX9_commonDivisor_31.2.2.1
theorem dX9_commonDivisor_36 : decode cX9_commonDivisor 36 = .ok (.invokestatic 362, 3) := dgq (p := 5) daX9_commonDivisor_31 dbX9_commonDivisor_31.2.2.2.1
theorem dX9_commonDivisor_39 : decode cX9_commonDivisor 39 = .ok (.ireturn, 1) := dgq (p := 8) daX9_commonDivisor_31 dbX9_commonDivisor_31.2.2.2.2
set_option maxRecDepth 20000 in
theorem ggX9_commonMultiple_X9_commonDivisor : GoodIn wsX9_commonMultiple wsX9_commonDivisor := goodIn_ca (goodIn_q _ [4, 5, 6, 7, 8] rfl (by decide +kernel)) (goodIn_sub (fun _ h => List.mem_cons_of_mem _ (List.mem_append_right _ h)) (by decide +kernel))
set_option maxRecDepth 20000 in
theorem gX9_commonMultiple_X9_commonDivisor : GoodIn wsX9_commonMultiple (va_wsS RX9 359 yX9_commonDivisor wsX9_commonDivisor) := goodIn_app (goodIn_q _ [1, 2, 3] rfl (by decide +kernel)) ggX9_commonMultiple_X9_commonDivisor
def dsX9_commonMultiple_0 : ByteArray := ⟨#[26, 26, 27, 184, 1, 103, 108, 27, 104, 172]⟩
theorem daX9_commonMultiple_0 : agB cX9_commonMultiple dsX9_commonMultiple_0 0 := agB_of (n := 10) (by decide +kernel)
theorem dbX9_commonMultiple_0 : (decode dsX9_commonMultiple_0 0 = .ok (.iload_n 0, 1) ∧ okop dsX9_commonMultiple_0 0 = true) ∧ (decode dsX9_commonMultiple_0 1 = .ok (.iload_n 0, 1) ∧ okop dsX9_commonMultiple_0 1 = true) ∧ (decode dsX9_commonMultiple_0 2 = .ok (.iload_n 1, 1) ∧ okop dsX9_commonMultiple_0 2 = true) ∧ (decode dsX9_commonMultiple_0 3 = .ok (.invokestatic 359, 3) ∧ okop dsX9_commonMultiple_0 3 = true) ∧ (decode dsX9_commonMultiple_0 6 = .ok (.idiv, 1) ∧ okop dsX9_commonMultiple_0 6 = true) ∧ (decode dsX9_commonMultiple_0 7 = .ok (.iload_n 1, 1) ∧ okop dsX9_commonMultiple_0 7 = true) ∧ (decode dsX9_commonMultiple_0 8 = .ok (.imul, 1) ∧ okop dsX9_commonMultiple_0 8 = true) ∧ (decode dsX9_commonMultiple_0 9 = .ok (.ireturn, 1) ∧ okop dsX9_commonMultiple_0 9 = true) := by decide +kernel
theorem dX9_commonMultiple_0 : decode cX9_commonMultiple 0 = .ok (.iload_n 0, 1) := dgq (p := 0) daX9_commonMultiple_0 dbX9_commonMultiple_0.1
theorem dX9_commonMultiple_1 : decode cX9_commonMultiple 1 = .ok (.iload_n 0, 1) := dgq (p := 1) daX9_commonMultiple_0 dbX9_commonMultiple_0.2.1
theorem dX9_commonMultiple_2 : decode cX9_commonMultiple 2 = .ok (.iload_n 1, 1) := dgq (p := 2) daX9_commonMultiple_0 dbX9_commonMultiple_0.2.2.1
theorem dX9_commonMultiple_3 : decode cX9_commonMultiple 3 = .ok (.invokestatic 359, 3) := dgq (p := 3) daX9_commonMultiple_0 dbX9_commonMultiple_0.2.2.2.1
theorem dX9_commonMultiple_6 : decode cX9_commonMultiple 6 = .ok (.idiv, 1) := dgq (p := 6) daX9_commonMultiple_0 dbX9_commonMultiple_0.2.2.2.2.1
theorem dX9_commonMultiple_7 : decode cX9_commonMultiple 7 = .ok (.iload_n 1, 1) := dgq (p := 7) daX9_commonMultiple_0 dbX9_commonMultiple_0.2.2.2.2.2.1
theorem dX9_commonMultiple_8 : decode cX9_commonMultiple 8 = .ok (.imul, 1) := dgq (p := 8) daX9_commonMultiple_0 dbX9_commonMultiple_0.2.2.2.2.2.2.1
theorem dX9_commonMultiple_9 : decode cX9_commonMultiple 9 = .ok (.ireturn, 1) := dgq (p := 9) daX9_commonMultiple_0 dbX9_commonMultiple_0.2.2.2.2.2.2.2
def dsX9_gradeOf_0 : ByteArray := ⟨#[3, 60, 27, 178, 2, 32, 190, 162, 0, 18, 178, 2, 32, 27, 46, 26]⟩
theorem daX9_gradeOf_0 : agB cX9_gradeOf dsX9_gradeOf_0 0 := agB_of (n := 16) (by decide +kernel)
theorem dbX9_gradeOf_0 : (decode dsX9_gradeOf_0 0 = .ok (.iconst 0, 1) ∧ okop dsX9_gradeOf_0 0 = true) ∧ (decode dsX9_gradeOf_0 1 = .ok (.istore_n 1, 1) ∧ okop dsX9_gradeOf_0 1 = true) ∧ (decode dsX9_gradeOf_0 2 = .ok (.iload_n 1, 1) ∧ okop dsX9_gradeOf_0 2 = true) ∧ (decode dsX9_gradeOf_0 3 = .ok (.getstatic 544, 3) ∧ okop dsX9_gradeOf_0 3 = true) ∧ (decode dsX9_gradeOf_0 6 = .ok (.arraylength, 1) ∧ okop dsX9_gradeOf_0 6 = true) ∧ (decode dsX9_gradeOf_0 7 = .ok (.if_icmp .ge 18, 3) ∧ okop dsX9_gradeOf_0 7 = true) ∧ (decode dsX9_gradeOf_0 10 = .ok (.getstatic 544, 3) ∧ okop dsX9_gradeOf_0 10 = true) ∧ (decode dsX9_gradeOf_0 13 = .ok (.iload_n 1, 1) ∧ okop dsX9_gradeOf_0 13 = true) ∧ (decode dsX9_gradeOf_0 14 = .ok (.iaload, 1) ∧ okop dsX9_gradeOf_0 14 = true) ∧ (decode dsX9_gradeOf_0 15 = .ok (.iload_n 0, 1) ∧ okop dsX9_gradeOf_0 15 = true) := by decide +kernel
theorem dX9_gradeOf_0 : decode cX9_gradeOf 0 = .ok (.iconst 0, 1) := dgq (p := 0) daX9_gradeOf_0 dbX9_gradeOf_0.1
theorem dX9_gradeOf_1 : decode cX9_gradeOf 1 = .ok (.istore_n 1, 1) := dgq (p := 1) daX9_gradeOf_0 dbX9_gradeOf_0.2.1
theorem dX9_gradeOf_2 : decode cX9_gradeOf 2 = .ok (.iload_n 1, 1) := dgq (p := 2) daX9_gradeOf_0 dbX9_gradeOf_0.2.2.1
theorem dX9_gradeOf_3 : decode cX9_gradeOf 3 = .ok (.getstatic 544, 3) := dgq (p := 3) daX9_gradeOf_0 dbX9_gradeOf_0.2.2.2.1
theorem dX9_gradeOf_6 : decode cX9_gradeOf 6 = .ok (.arraylength, 1) := dgq (p := 6) daX9_gradeOf_0 dbX9_gradeOf_0.2.2.2.2.1
theorem dX9_gradeOf_7 : decode cX9_gradeOf 7 = .ok (.if_icmp .ge 18, 3) := dgq (p := 7) daX9_gradeOf_0 dbX9_gradeOf_0.2.2.2.2.2.1
theorem dX9_gradeOf_10 : decode cX9_gradeOf 10 = .ok (.getstatic 544, 3) := dgq (p := 10) daX9_gradeOf_0 dbX9_gradeOf_0.2.2.2.2.2.2.1
theorem dX9_gradeOf_13 : decode cX9_gradeOf 13 = .ok (.iload_n 1, 1) := dgq (p := 13) daX9_gradeOf_0 dbX9_gradeOf_0.2.2.2.2.2.2.2.1
theorem dX9_gradeOf_14 : decode cX9_gradeOf 14 = .ok (.iaload, 1) := dgq (p := 14) daX9_gradeOf_0 dbX9_gradeOf_0.2.2.2.2.2.2.2.2.1
theorem dX9_gradeOf_15 : decode cX9_gradeOf 15 = .ok (.iload_n 0, 1) := dgq (p := 15) daX9_gradeOf_0 dbX9_gradeOf_0.2.2.2.2.2.2.2.2.2
def dsX9_gradeOf_16 : ByteArray := ⟨#[162, 0, 9, 132, 1, 1, 167, 255, 236, 27, 172]⟩
theorem daX9_gradeOf_16 : agB cX9_gradeOf dsX9_gradeOf_16 16 := agB_of (n := 11) (by decide +kernel)
theorem dbX9_gradeOf_16 : (decode dsX9_gradeOf_16 0 = .ok (.if_icmp .ge 9, 3) ∧ okop dsX9_gradeOf_16 0 = true) ∧ (decode dsX9_gradeOf_16 3 = .ok (.iinc 1 1, 3) ∧ okop dsX9_gradeOf_16 3 = true) ∧ (decode dsX9_gradeOf_16 6 = .ok (.goto (-20), 3) ∧ okop dsX9_gradeOf_16 6 = true) ∧ (decode dsX9_gradeOf_16 9 = .ok (.iload_n 1, 1) ∧ okop dsX9_gradeOf_16 9 = true) ∧ (decode dsX9_gradeOf_16 10 = .ok (.ireturn, 1) ∧ okop dsX9_gradeOf_16 10 = true) := by decide +kernel
theorem dX9_gradeOf_16 : decode cX9_gradeOf 16 = .ok (.if_icmp .ge 9, 3) := dgq (p := 0) daX9_gradeOf_16 dbX9_gradeOf_16.1
theorem dX9_gradeOf_19 : decode cX9_gradeOf 19 = .ok (.iinc 1 1, 3) := dgq (p := 3) daX9_gradeOf_16 dbX9_gradeOf_16.2.1
theorem dX9_gradeOf_22 : decode cX9_gradeOf 22 = .ok (.goto (-20), 3) := dgq (p := 6) daX9_gradeOf_16 dbX9_gradeOf_16.2.2.1
theorem dX9_gradeOf_25 : decode cX9_gradeOf 25 = .ok (.iload_n 1, 1) := dgq (p := 9) daX9_gradeOf_16 dbX9_gradeOf_16.2.2.2.1
theorem dX9_gradeOf_26 : decode cX9_gradeOf 26 = .ok (.ireturn, 1) := dgq (p := 10) daX9_gradeOf_16 dbX9_gradeOf_16.2.2.2.2
