def dsX12_machine_70 : ByteArray := ⟨#[42, 42, 180, 1, 229, 4, 100, 182, 0, 153, 172]⟩
theorem daX12_machine_70 : agB cX12_machine dsX12_machine_70 70 := agB_of (n := 11) (by decide +kernel)
theorem dbX12_machine_70 : (decode dsX12_machine_70 0 = .ok (.aload_n 0, 1) ∧ okop dsX12_machine_70 0 = true) ∧ (decode dsX12_machine_70 1 = .ok (.aload_n 0, 1) ∧ okop dsX12_machine_70 1 = true) ∧ (decode dsX12_machine_70 2 = .ok (.getfield 485, 3) ∧ okop dsX12_machine_70 2 = true) ∧ (decode dsX12_machine_70 5 = .ok (.iconst 1, 1) ∧ okop dsX12_machine_70 5 = true) ∧ (decode dsX12_machine_70 6 = .ok (.isub, 1) ∧ okop dsX12_machine_70 6 = true) ∧ (decode dsX12_machine_70 7 = .ok (.invokevirtual 153, 3) ∧ okop dsX12_machine_70 7 = true) ∧ (decode dsX12_machine_70 10 = .ok (.ireturn, 1) ∧ okop dsX12_machine_70 10 = true) := by decide +kernel
theorem dX12_machine_70 : decode cX12_machine 70 = .ok (.aload_n 0, 1) := dgq (p := 0) daX12_machine_70 dbX12_machine_70.1
theorem dX12_machine_71 : decode cX12_machine 71 = .ok (.aload_n 0, 1) := dgq (p := 1) daX12_machine_70 dbX12_machine_70.2.1
theorem dX12_machine_72 : decode cX12_machine 72 = .ok (.getfield 485, 3) := dgq (p := 2) daX12_machine_70 dbX12_machine_70.2.2.1
theorem dX12_machine_75 : decode cX12_machine 75 = .ok (.iconst 1, 1) := dgq (p := 5) daX12_machine_70 dbX12_machine_70.2.2.2.1
theorem dX12_machine_76 : decode cX12_machine 76 = .ok (.isub, 1) := dgq (p := 6) daX12_machine_70 dbX12_machine_70.2.2.2.2.1
theorem dX12_machine_77 : decode cX12_machine 77 = .ok (.invokevirtual 153, 3) := dgq (p := 7) daX12_machine_70 dbX12_machine_70.2.2.2.2.2.1
theorem dX12_machine_80 : decode cX12_machine 80 = .ok (.ireturn, 1) := dgq (p := 10) daX12_machine_70 dbX12_machine_70.2.2.2.2.2.2
set_option maxRecDepth 20000 in
theorem ggX12_toolsAt_X12_in : GoodIn wsX12_toolsAt wsX12_in := goodIn_q _ [7] rfl (by decide +kernel)
set_option maxRecDepth 20000 in
theorem gX12_toolsAt_X12_in : GoodIn wsX12_toolsAt (va_wsS RX12 101 yX12_in wsX12_in) := goodIn_app (goodIn_q _ [4, 5, 6] rfl (by decide +kernel)) ggX12_toolsAt_X12_in
set_option maxRecDepth 20000 in
theorem ggX12_toolsAt_X12_fails : GoodIn wsX12_toolsAt wsX12_fails := goodIn_ca (goodIn_q _ [11, 12] rfl (by decide +kernel)) (goodIn_sub (fun _ h => (List.mem_cons_of_mem _ (List.mem_append_left _ (List.mem_append_right _ h)))) tg_wsX120)
set_option maxRecDepth 20000 in
theorem gX12_toolsAt_X12_fails : GoodIn wsX12_toolsAt (wsV RX12 143 RX12 yX12_fails wsX12_fails) := goodIn_app (goodIn_q _ [8, 9, 10, 6] rfl (by decide +kernel)) ggX12_toolsAt_X12_fails
set_option maxRecDepth 20000 in
theorem ggX12_toolsAt_X12_answer : GoodIn wsX12_toolsAt wsX12_answer := goodIn_ca (goodIn_q _ [16, 12] rfl (by decide +kernel)) (goodIn_sub (fun _ h => (List.mem_cons_of_mem _ (List.mem_append_left _ (List.mem_append_right _ h)))) tg_wsX120)
set_option maxRecDepth 20000 in
theorem gX12_toolsAt_X12_answer : GoodIn wsX12_toolsAt (wsV RX12 153 RX12 yX12_answer wsX12_answer) := goodIn_app (goodIn_q _ [13, 14, 15, 6] rfl (by decide +kernel)) ggX12_toolsAt_X12_answer
def dsX12_toolsAt_0 : ByteArray := ⟨#[27, 133, 9, 42, 180, 1, 229, 4, 100, 133, 184, 0, 101, 154, 0, 9]⟩
theorem daX12_toolsAt_0 : agB cX12_toolsAt dsX12_toolsAt_0 0 := agB_of (n := 16) (by decide +kernel)
theorem dbX12_toolsAt_0 : (decode dsX12_toolsAt_0 0 = .ok (.iload_n 1, 1) ∧ okop dsX12_toolsAt_0 0 = true) ∧ (decode dsX12_toolsAt_0 1 = .ok (.i2l, 1) ∧ okop dsX12_toolsAt_0 1 = true) ∧ (decode dsX12_toolsAt_0 2 = .ok (.lconst 0, 1) ∧ okop dsX12_toolsAt_0 2 = true) ∧ (decode dsX12_toolsAt_0 3 = .ok (.aload_n 0, 1) ∧ okop dsX12_toolsAt_0 3 = true) ∧ (decode dsX12_toolsAt_0 4 = .ok (.getfield 485, 3) ∧ okop dsX12_toolsAt_0 4 = true) ∧ (decode dsX12_toolsAt_0 7 = .ok (.iconst 1, 1) ∧ okop dsX12_toolsAt_0 7 = true) ∧ (decode dsX12_toolsAt_0 8 = .ok (.isub, 1) ∧ okop dsX12_toolsAt_0 8 = true) ∧ (decode dsX12_toolsAt_0 9 = .ok (.i2l, 1) ∧ okop dsX12_toolsAt_0 9 = true) ∧ (decode dsX12_toolsAt_0 10 = .ok (.invokestatic 101, 3) ∧ okop dsX12_toolsAt_0 10 = true) ∧ (decode dsX12_toolsAt_0 13 = .ok (.ifCond .ne 9, 3) ∧ okop dsX12_toolsAt_0 13 = true) := by decide +kernel
theorem dX12_toolsAt_0 : decode cX12_toolsAt 0 = .ok (.iload_n 1, 1) := dgq (p := 0) daX12_toolsAt_0 dbX12_toolsAt_0.1
theorem dX12_toolsAt_1 : decode cX12_toolsAt 1 = .ok (.i2l, 1) := dgq (p := 1) daX12_toolsAt_0 dbX12_toolsAt_0.2.1
theorem dX12_toolsAt_2 : decode cX12_toolsAt 2 = .ok (.lconst 0, 1) := dgq (p := 2) daX12_toolsAt_0 dbX12_toolsAt_0.2.2.1
theorem dX12_toolsAt_3 : decode cX12_toolsAt 3 = .ok (.aload_n 0, 1) := dgq (p := 3) daX12_toolsAt_0 dbX12_toolsAt_0.2.2.2.1
theorem dX12_toolsAt_4 : decode cX12_toolsAt 4 = .ok (.getfield 485, 3) := dgq (p := 4) daX12_toolsAt_0 dbX12_toolsAt_0.2.2.2.2.1
theorem dX12_toolsAt_7 : decode cX12_toolsAt 7 = .ok (.iconst 1, 1) := dgq (p := 7) daX12_toolsAt_0 dbX12_toolsAt_0.2.2.2.2.2.1
theorem dX12_toolsAt_8 : decode cX12_toolsAt 8 = .ok (.isub, 1) := dgq (p := 8) daX12_toolsAt_0 dbX12_toolsAt_0.2.2.2.2.2.2.1
theorem dX12_toolsAt_9 : decode cX12_toolsAt 9 = .ok (.i2l, 1) := dgq (p := 9) daX12_toolsAt_0 dbX12_toolsAt_0.2.2.2.2.2.2.2.1
theorem dX12_toolsAt_10 : decode cX12_toolsAt 10 = .ok (.invokestatic 101, 3) := dgq (p := 10) daX12_toolsAt_0 dbX12_toolsAt_0.2.2.2.2.2.2.2.2.1
theorem dX12_toolsAt_13 : decode cX12_toolsAt 13 = .ok (.ifCond .ne 9, 3) := dgq (p := 13) daX12_toolsAt_0 dbX12_toolsAt_0.2.2.2.2.2.2.2.2.2
def dsX12_toolsAt_16 : ByteArray := ⟨#[42, 4, 182, 0, 143, 172, 28, 133, 9, 20, 0, 249, 184, 0, 101, 154, 0, 9]⟩
theorem daX12_toolsAt_16 : agB cX12_toolsAt dsX12_toolsAt_16 16 := agB_of (n := 18) (by decide +kernel)
theorem dbX12_toolsAt_16 : (decode dsX12_toolsAt_16 0 = .ok (.aload_n 0, 1) ∧ okop dsX12_toolsAt_16 0 = true) ∧ (decode dsX12_toolsAt_16 1 = .ok (.iconst 1, 1) ∧ okop dsX12_toolsAt_16 1 = true) ∧ (decode dsX12_toolsAt_16 2 = .ok (.invokevirtual 143, 3) ∧ okop dsX12_toolsAt_16 2 = true) ∧ (decode dsX12_toolsAt_16 5 = .ok (.ireturn, 1) ∧ okop dsX12_toolsAt_16 5 = true) ∧ (decode dsX12_toolsAt_16 6 = .ok (.iload_n 2, 1) ∧ okop dsX12_toolsAt_16 6 = true) ∧ (decode dsX12_toolsAt_16 7 = .ok (.i2l, 1) ∧ okop dsX12_toolsAt_16 7 = true) ∧ (decode dsX12_toolsAt_16 8 = .ok (.lconst 0, 1) ∧ okop dsX12_toolsAt_16 8 = true) ∧ (decode dsX12_toolsAt_16 9 = .ok (.ldc2_w 249, 3) ∧ okop dsX12_toolsAt_16 9 = true) ∧ (decode dsX12_toolsAt_16 12 = .ok (.invokestatic 101, 3) ∧ okop dsX12_toolsAt_16 12 = true) ∧ (decode dsX12_toolsAt_16 15 = .ok (.ifCond .ne 9, 3) ∧ okop dsX12_toolsAt_16 15 = true) := by decide +kernel
theorem dX12_toolsAt_16 : decode cX12_toolsAt 16 = .ok (.aload_n 0, 1) := dgq (p := 0) daX12_toolsAt_16 dbX12_toolsAt_16.1
theorem dX12_toolsAt_17 : decode cX12_toolsAt 17 = .ok (.iconst 1, 1) := dgq (p := 1) daX12_toolsAt_16 dbX12_toolsAt_16.2.1
theorem dX12_toolsAt_18 : decode cX12_toolsAt 18 = .ok (.invokevirtual 143, 3) := dgq (p := 2) daX12_toolsAt_16 dbX12_toolsAt_16.2.2.1
theorem dX12_toolsAt_21 : decode cX12_toolsAt 21 = .ok (.ireturn, 1) := dgq (p := 5) daX12_toolsAt_16 dbX12_toolsAt_16.2.2.2.1
theorem dX12_toolsAt_22 : decode cX12_toolsAt 22 = .ok (.iload_n 2, 1) := dgq (p := 6) daX12_toolsAt_16 dbX12_toolsAt_16.2.2.2.2.1
theorem dX12_toolsAt_23 : decode cX12_toolsAt 23 = .ok (.i2l, 1) := dgq (p := 7) daX12_toolsAt_16 dbX12_toolsAt_16.2.2.2.2.2.1
theorem dX12_toolsAt_24 : decode cX12_toolsAt 24 = .ok (.lconst 0, 1) := dgq (p := 8) daX12_toolsAt_16 dbX12_toolsAt_16.2.2.2.2.2.2.1
theorem dX12_toolsAt_25 : decode cX12_toolsAt 25 = .ok (.ldc2_w 249, 3) := dgq (p := 9) daX12_toolsAt_16 dbX12_toolsAt_16.2.2.2.2.2.2.2.1
theorem dX12_toolsAt_28 : decode cX12_toolsAt 28 = .ok (.invokestatic 101, 3) := dgq (p := 12) daX12_toolsAt_16 dbX12_toolsAt_16.2.2.2.2.2.2.2.2.1
theorem dX12_toolsAt_31 : decode cX12_toolsAt 31 = .ok (.ifCond .ne 9, 3) := dgq (p := 15) daX12_toolsAt_16 dbX12_toolsAt_16.2.2.2.2.2.2.2.2.2
def dsX12_toolsAt_34 : ByteArray := ⟨#[42, 5, 182, 0, 143, 172, 42, 180, 0, 48, 27, 46, 62, 42]⟩
theorem daX12_toolsAt_34 : agB cX12_toolsAt dsX12_toolsAt_34 34 := agB_of (n := 14) (by decide +kernel)
theorem dbX12_toolsAt_34 : (decode dsX12_toolsAt_34 0 = .ok (.aload_n 0, 1) ∧ okop dsX12_toolsAt_34 0 = true) ∧ (decode dsX12_toolsAt_34 1 = .ok (.iconst 2, 1) ∧ okop dsX12_toolsAt_34 1 = true) ∧ (decode dsX12_toolsAt_34 2 = .ok (.invokevirtual 143, 3) ∧ okop dsX12_toolsAt_34 2 = true) ∧ (decode dsX12_toolsAt_34 5 = .ok (.ireturn, 1) ∧ okop dsX12_toolsAt_34 5 = true) ∧ (decode dsX12_toolsAt_34 6 = .ok (.aload_n 0, 1) ∧ okop dsX12_toolsAt_34 6 = true) ∧ (decode dsX12_toolsAt_34 7 = .ok (.getfield 48, 3) ∧ okop dsX12_toolsAt_34 7 = true) ∧ (decode dsX12_toolsAt_34 10 = .ok (.iload_n 1, 1) ∧ okop dsX12_toolsAt_34 10 = true) ∧ (decode dsX12_toolsAt_34 11 = .ok (.iaload, 1) ∧ okop dsX12_toolsAt_34 11 = true) ∧ (decode dsX12_toolsAt_34 12 = .ok (.istore_n 3, 1) ∧ okop dsX12_toolsAt_34 12 = true) ∧ (decode dsX12_toolsAt_34 13 = .ok (.aload_n 0, 1) ∧ okop dsX12_toolsAt_34 13 = true) := by decide +kernel
theorem dX12_toolsAt_34 : decode cX12_toolsAt 34 = .ok (.aload_n 0, 1) := dgq (p := 0) daX12_toolsAt_34 dbX12_toolsAt_34.1
theorem dX12_toolsAt_35 : decode cX12_toolsAt 35 = .ok (.iconst 2, 1) := dgq (p := 1) daX12_toolsAt_34 dbX12_toolsAt_34.2.1
theorem dX12_toolsAt_36 : decode cX12_toolsAt 36 = .ok (.invokevirtual 143, 3) := dgq (p := 2) daX12_toolsAt_34 dbX12_toolsAt_34.2.2.1
theorem dX12_toolsAt_39 : decode cX12_toolsAt 39 = .ok (.ireturn, 1) := dgq (p := 5) daX12_toolsAt_34 dbX12_toolsAt_34.2.2.2.1
theorem dX12_toolsAt_40 : decode cX12_toolsAt 40 = .ok (.aload_n 0, 1) := dgq (p := 6) daX12_toolsAt_34 dbX12_toolsAt_34.2.2.2.2.1
theorem dX12_toolsAt_41 : decode cX12_toolsAt 41 = .ok (.getfield 48, 3) := dgq (p := 7) daX12_toolsAt_34 dbX12_toolsAt_34.2.2.2.2.2.1
theorem dX12_toolsAt_44 : decode cX12_toolsAt 44 = .ok (.iload_n 1, 1) := dgq (p := 10) daX12_toolsAt_34 dbX12_toolsAt_34.2.2.2.2.2.2.1
theorem dX12_toolsAt_45 : decode cX12_toolsAt 45 = .ok (.iaload, 1) := dgq (p := 11) daX12_toolsAt_34 dbX12_toolsAt_34.2.2.2.2.2.2.2.1
theorem dX12_toolsAt_46 : decode cX12_toolsAt 46 = .ok (.istore_n 3, 1) := dgq (p := 12) daX12_toolsAt_34 dbX12_toolsAt_34.2.2.2.2.2.2.2.2.1
theorem dX12_toolsAt_47 : decode cX12_toolsAt 47 = .ok (.aload_n 0, 1) := dgq (p := 13) daX12_toolsAt_34 dbX12_toolsAt_34.2.2.2.2.2.2.2.2.2
def dsX12_toolsAt_48 : ByteArray := ⟨#[180, 0, 48, 27, 28, 79, 42, 29, 182, 0, 153, 172]⟩
theorem daX12_toolsAt_48 : agB cX12_toolsAt dsX12_toolsAt_48 48 := agB_of (n := 12) (by decide +kernel)
theorem dbX12_toolsAt_48 : (decode dsX12_toolsAt_48 0 = .ok (.getfield 48, 3) ∧ okop dsX12_toolsAt_48 0 = true) ∧ (decode dsX12_toolsAt_48 3 = .ok (.iload_n 1, 1) ∧ okop dsX12_toolsAt_48 3 = true) ∧ (decode dsX12_toolsAt_48 4 = .ok (.iload_n 2, 1) ∧ okop dsX12_toolsAt_48 4 = true) ∧ (decode dsX12_toolsAt_48 5 = .ok (.iastore, 1) ∧ okop dsX12_toolsAt_48 5 = true) ∧ (decode dsX12_toolsAt_48 6 = .ok (.aload_n 0, 1) ∧ okop dsX12_toolsAt_48 6 = true) ∧ (decode dsX12_toolsAt_48 7 = .ok (.iload_n 3, 1) ∧ okop dsX12_toolsAt_48 7 = true) ∧ (decode dsX12_toolsAt_48 8 = .ok (.invokevirtual 153, 3) ∧ okop dsX12_toolsAt_48 8 = true) ∧ (decode dsX12_toolsAt_48 11 = .ok (.ireturn, 1) ∧ okop dsX12_toolsAt_48 11 = true) := by decide +kernel
theorem dX12_toolsAt_48 : decode cX12_toolsAt 48 = .ok (.getfield 48, 3) := dgq (p := 0) daX12_toolsAt_48 dbX12_toolsAt_48.1
theorem dX12_toolsAt_51 : decode cX12_toolsAt 51 = .ok (.iload_n 1, 1) := dgq (p := 3) daX12_toolsAt_48 dbX12_toolsAt_48.2.1
theorem dX12_toolsAt_52 : decode cX12_toolsAt 52 = .ok (.iload_n 2, 1) := dgq (p := 4) daX12_toolsAt_48 dbX12_toolsAt_48.2.2.1
theorem dX12_toolsAt_53 : decode cX12_toolsAt 53 = .ok (.iastore, 1) := dgq (p := 5) daX12_toolsAt_48 dbX12_toolsAt_48.2.2.2.1
theorem dX12_toolsAt_54 : decode cX12_toolsAt 54 = .ok (.aload_n 0, 1) := dgq (p := 6) daX12_toolsAt_48 dbX12_toolsAt_48.2.2.2.2.1
theorem dX12_toolsAt_55 : decode cX12_toolsAt 55 = .ok (.iload_n 3, 1) := dgq (p := 7) daX12_toolsAt_48 dbX12_toolsAt_48.2.2.2.2.2.1
theorem dX12_toolsAt_56 : decode cX12_toolsAt 56 = .ok (.invokevirtual 153, 3) := dgq (p := 8) daX12_toolsAt_48 dbX12_toolsAt_48.2.2.2.2.2.2.1
theorem dX12_toolsAt_59 : decode cX12_toolsAt 59 = .ok (.ireturn, 1) := dgq (p := 11) daX12_toolsAt_48 dbX12_toolsAt_48.2.2.2.2.2.2.2
set_option maxRecDepth 20000 in
theorem ggX12_route_X12_isGear : GoodIn wsX12_route wsX12_isGear := goodIn_ca (goodIn_ca (goodIn_q _ [5, 6, 7, 8, 9, 10, 11, 12, 13, 14, 4, 15] rfl (by decide +kernel)) (goodIn_sub (fun _ h => (List.mem_cons_of_mem _ (List.mem_append_left _ (List.mem_append_left _ (List.mem_append_right _ h))))) tg_wsX120)) (goodIn_sub (fun _ h => (List.mem_cons_of_mem _ (List.mem_append_left _ (List.mem_append_right _ h)))) tg_wsJx4a65c0)
set_option maxRecDepth 20000 in
theorem gX12_route_X12_isGear : GoodIn wsX12_route (wsV RX12 121 RX12 yX12_isGear wsX12_isGear) := goodIn_app (goodIn_q _ [1, 2, 3, 4] rfl (by decide +kernel)) ggX12_route_X12_isGear
set_option maxRecDepth 20000 in
theorem ggX12_route_X12_fails : GoodIn wsX12_route wsX12_fails := goodIn_ca (goodIn_q _ [19, 20] rfl (by decide +kernel)) (goodIn_sub (fun _ h => (List.mem_cons_of_mem _ (List.mem_append_left _ (List.mem_append_left _ (List.mem_append_right _ h))))) tg_wsX120)
set_option maxRecDepth 20000 in
theorem gX12_route_X12_fails : GoodIn wsX12_route (wsV RX12 143 RX12 yX12_fails wsX12_fails) := goodIn_app (goodIn_q _ [16, 17, 18, 4] rfl (by decide +kernel)) ggX12_route_X12_fails
set_option maxRecDepth 20000 in
theorem ggX12_route_X12_isKind : GoodIn wsX12_route wsX12_isKind := goodIn_q _ [23] rfl (by decide +kernel)
set_option maxRecDepth 20000 in
theorem gX12_route_X12_isKind : GoodIn wsX12_route (va_wsS RX12 481 yX12_isKind wsX12_isKind) := goodIn_app (goodIn_q _ [21, 22, 4] rfl (by decide +kernel)) ggX12_route_X12_isKind
set_option maxRecDepth 20000 in
theorem ggX12_route_X12_gearAt : GoodIn wsX12_route wsX12_gearAt := goodIn_ca (goodIn_ca (goodIn_q _ [27, 6, 28, 29, 30, 31, 10, 32, 12, 33, 34, 35, 36, 37, 38, 39, 40, 41, 42, 43, 44, 45] rfl (by decide +kernel)) (goodIn_sub (fun _ h => (List.mem_cons_of_mem _ (List.mem_append_left _ (List.mem_append_left _ (List.mem_append_right _ h))))) tg_wsX120)) (goodIn_sub (fun _ h => (List.mem_cons_of_mem _ (List.mem_append_left _ (List.mem_append_right _ h)))) tg_wsJx4a65c0)
set_option maxRecDepth 20000 in
theorem gX12_route_X12_gearAt : GoodIn wsX12_route (wsV RX12 111 RX12 yX12_gearAt wsX12_gearAt) := goodIn_app (goodIn_q _ [24, 25, 26, 4] rfl (by decide +kernel)) ggX12_route_X12_gearAt
set_option maxRecDepth 20000 in
theorem ggX12_route_X12_answer : GoodIn wsX12_route wsX12_answer := goodIn_ca (goodIn_q _ [49, 20] rfl (by decide +kernel)) (goodIn_sub (fun _ h => (List.mem_cons_of_mem _ (List.mem_append_left _ (List.mem_append_left _ (List.mem_append_right _ h))))) tg_wsX120)
set_option maxRecDepth 20000 in
theorem gX12_route_X12_answer : GoodIn wsX12_route (wsV RX12 153 RX12 yX12_answer wsX12_answer) := goodIn_app (goodIn_q _ [46, 47, 48, 4] rfl (by decide +kernel)) ggX12_route_X12_answer
def dsX12_route_0 : ByteArray := ⟨#[42, 27, 182, 0, 121, 154, 0, 9, 42, 4, 182, 0, 143, 172, 28, 184, 1, 225]⟩
theorem daX12_route_0 : agB cX12_route dsX12_route_0 0 := agB_of (n := 18) (by decide +kernel)
theorem dbX12_route_0 : (decode dsX12_route_0 0 = .ok (.aload_n 0, 1) ∧ okop dsX12_route_0 0 = true) ∧ (decode dsX12_route_0 1 = .ok (.iload_n 1, 1) ∧ okop dsX12_route_0 1 = true) ∧ (decode dsX12_route_0 2 = .ok (.invokevirtual 121, 3) ∧ okop dsX12_route_0 2 = true) ∧ (decode dsX12_route_0 5 = .ok (.ifCond .ne 9, 3) ∧ okop dsX12_route_0 5 = true) ∧ (decode dsX12_route_0 8 = .ok (.aload_n 0, 1) ∧ okop dsX12_route_0 8 = true) ∧ (decode dsX12_route_0 9 = .ok (.iconst 1, 1) ∧ okop dsX12_route_0 9 = true) ∧ (decode dsX12_route_0 10 = .ok (.invokevirtual 143, 3) ∧ okop dsX12_route_0 10 = true) ∧ (decode dsX12_route_0 13 = .ok (.ireturn, 1) ∧ okop dsX12_route_0 13 = true) ∧ (decode dsX12_route_0 14 = .ok (.iload_n 2, 1) ∧ okop dsX12_route_0 14 = true) ∧ (decode dsX12_route_0 15 = .ok (.invokestatic 481, 3) ∧ okop dsX12_route_0 15 = true) := by decide +kernel
theorem dX12_route_0 : decode cX12_route 0 = .ok (.aload_n 0, 1) := dgq (p := 0) daX12_route_0 dbX12_route_0.1
theorem dX12_route_1 : decode cX12_route 1 = .ok (.iload_n 1, 1) := dgq (p := 1) daX12_route_0 dbX12_route_0.2.1
theorem dX12_route_2 : decode cX12_route 2 = .ok (.invokevirtual 121, 3) := dgq (p := 2) daX12_route_0 dbX12_route_0.2.2.1
theorem dX12_route_5 : decode cX12_route 5 = .ok (.ifCond .ne 9, 3) := dgq (p := 5) daX12_route_0 dbX12_route_0.2.2.2.1
theorem dX12_route_8 : decode cX12_route 8 = .ok (.aload_n 0, 1) := dgq (p := 8) daX12_route_0 dbX12_route_0.2.2.2.2.1
theorem dX12_route_9 : decode cX12_route 9 = .ok (.iconst 1, 1) := dgq (p := 9) daX12_route_0 dbX12_route_0.2.2.2.2.2.1
theorem dX12_route_10 : decode cX12_route 10 = .ok (.invokevirtual 143, 3) := dgq (p := 10) daX12_route_0 dbX12_route_0.2.2.2.2.2.2.1
theorem dX12_route_13 : decode cX12_route 13 = .ok (.ireturn, 1) := dgq (p := 13) daX12_route_0 dbX12_route_0.2.2.2.2.2.2.2.1
theorem dX12_route_14 : decode cX12_route 14 = .ok (.iload_n 2, 1) := dgq (p := 14) daX12_route_0 dbX12_route_0.2.2.2.2.2.2.2.2.1
theorem dX12_route_15 : decode cX12_route 15 = .ok (.invokestatic 481, 3) := dgq (p := 15) daX12_route_0 dbX12_route_0.2.2.2.2.2.2.2.2.2
def dsX12_route_18 : ByteArray := ⟨#[154, 0, 9, 42, 5, 182, 0, 143, 172, 42, 27, 182, 0, 111, 78, 45]⟩
theorem daX12_route_18 : agB cX12_route dsX12_route_18 18 := agB_of (n := 16) (by decide +kernel)
theorem dbX12_route_18 : (decode dsX12_route_18 0 = .ok (.ifCond .ne 9, 3) ∧ okop dsX12_route_18 0 = true) ∧ (decode dsX12_route_18 3 = .ok (.aload_n 0, 1) ∧ okop dsX12_route_18 3 = true) ∧ (decode dsX12_route_18 4 = .ok (.iconst 2, 1) ∧ okop dsX12_route_18 4 = true) ∧ (decode dsX12_route_18 5 = .ok (.invokevirtual 143, 3) ∧ okop dsX12_route_18 5 = true) ∧ (decode dsX12_route_18 8 = .ok (.ireturn, 1) ∧ okop dsX12_route_18 8 = true) ∧ (decode dsX12_route_18 9 = .ok (.aload_n 0, 1) ∧ okop dsX12_route_18 9 = true) ∧ (decode dsX12_route_18 10 = .ok (.iload_n 1, 1) ∧ okop dsX12_route_18 10 = true) ∧ (decode dsX12_route_18 11 = .ok (.invokevirtual 111, 3) ∧ okop dsX12_route_18 11 = true) ∧ (decode dsX12_route_18 14 = .ok (.astore_n 3, 1) ∧ okop dsX12_route_18 14 = true) ∧ (decode dsX12_route_18 15 = .ok (.aload_n 3, 1) ∧ okop dsX12_route_18 15 = true) := by decide +kernel
theorem dX12_route_18 : decode cX12_route 18 = .ok (.ifCond .ne 9, 3) := dgq (p := 0) daX12_route_18 dbX12_route_18.1
theorem dX12_route_21 : decode cX12_route 21 = .ok (.aload_n 0, 1) := dgq (p := 3) daX12_route_18 dbX12_route_18.2.1
theorem dX12_route_22 : decode cX12_route 22 = .ok (.iconst 2, 1) := dgq (p := 4) daX12_route_18 dbX12_route_18.2.2.1
theorem dX12_route_23 : decode cX12_route 23 = .ok (.invokevirtual 143, 3) := dgq (p := 5) daX12_route_18 dbX12_route_18.2.2.2.1
theorem dX12_route_26 : decode cX12_route 26 = .ok (.ireturn, 1) := dgq (p := 8) daX12_route_18 dbX12_route_18.2.2.2.2.1
theorem dX12_route_27 : decode cX12_route 27 = .ok (.aload_n 0, 1) := dgq (p := 9) daX12_route_18 dbX12_route_18.2.2.2.2.2.1
theorem dX12_route_28 : decode cX12_route 28 = .ok (.iload_n 1, 1) := dgq (p := 10) daX12_route_18 dbX12_route_18.2.2.2.2.2.2.1
theorem dX12_route_29 : decode cX12_route 29 = .ok (.invokevirtual 111, 3) := dgq (p := 11) daX12_route_18 dbX12_route_18.2.2.2.2.2.2.2.1
theorem dX12_route_32 : decode cX12_route 32 = .ok (.astore_n 3, 1) := dgq (p := 14) daX12_route_18 dbX12_route_18.2.2.2.2.2.2.2.2.1
theorem dX12_route_33 : decode cX12_route 33 = .ok (.aload_n 3, 1) := dgq (p := 15) daX12_route_18 dbX12_route_18.2.2.2.2.2.2.2.2.2
def dsX12_route_34 : ByteArray := ⟨#[180, 1, 232, 16, 8, 160, 0, 9, 42, 6, 182, 0, 143, 172, 45, 180, 1, 234, 45]⟩
theorem daX12_route_34 : agB cX12_route dsX12_route_34 34 := agB_of (n := 19) (by decide +kernel)
theorem dbX12_route_34 : (decode dsX12_route_34 0 = .ok (.getfield 488, 3) ∧ okop dsX12_route_34 0 = true) ∧ (decode dsX12_route_34 3 = .ok (.bipush 8, 2) ∧ okop dsX12_route_34 3 = true) ∧ (decode dsX12_route_34 5 = .ok (.if_icmp .ne 9, 3) ∧ okop dsX12_route_34 5 = true) ∧ (decode dsX12_route_34 8 = .ok (.aload_n 0, 1) ∧ okop dsX12_route_34 8 = true) ∧ (decode dsX12_route_34 9 = .ok (.iconst 3, 1) ∧ okop dsX12_route_34 9 = true) ∧ (decode dsX12_route_34 10 = .ok (.invokevirtual 143, 3) ∧ okop dsX12_route_34 10 = true) ∧ (decode dsX12_route_34 13 = .ok (.ireturn, 1) ∧ okop dsX12_route_34 13 = true) ∧ (decode dsX12_route_34 14 = .ok (.aload_n 3, 1) ∧ okop dsX12_route_34 14 = true) ∧ (decode dsX12_route_34 15 = .ok (.getfield 490, 3) ∧ okop dsX12_route_34 15 = true) ∧ (decode dsX12_route_34 18 = .ok (.aload_n 3, 1) ∧ okop dsX12_route_34 18 = true) := by decide +kernel
theorem dX12_route_34 : decode cX12_route 34 = .ok (.getfield 488, 3) := dgq (p := 0) daX12_route_34 dbX12_route_34.1
theorem dX12_route_37 : decode cX12_route 37 = .ok (.bipush 8, 2) := dgq (p := 3) daX12_route_34 dbX12_route_34.2.1
theorem dX12_route_39 : decode cX12_route 39 = .ok (.if_icmp .ne 9, 3) := dgq (p := 5) daX12_route_34 dbX12_route_34.2.2.1
theorem dX12_route_42 : decode cX12_route 42 = .ok (.aload_n 0, 1) := dgq (p := 8) daX12_route_34 dbX12_route_34.2.2.2.1
theorem dX12_route_43 : decode cX12_route 43 = .ok (.iconst 3, 1) := dgq (p := 9) daX12_route_34 dbX12_route_34.2.2.2.2.1
theorem dX12_route_44 : decode cX12_route 44 = .ok (.invokevirtual 143, 3) := dgq (p := 10) daX12_route_34 dbX12_route_34.2.2.2.2.2.1
theorem dX12_route_47 : decode cX12_route 47 = .ok (.ireturn, 1) := dgq (p := 13) daX12_route_34 dbX12_route_34.2.2.2.2.2.2.1
theorem dX12_route_48 : decode cX12_route 48 = .ok (.aload_n 3, 1) := dgq (p := 14) daX12_route_34 dbX12_route_34.2.2.2.2.2.2.2.1
theorem dX12_route_49 : decode cX12_route 49 = .ok (.getfield 490, 3) := dgq (p := 15) daX12_route_34 dbX12_route_34.2.2.2.2.2.2.2.2.1
theorem dX12_route_52 : decode cX12_route 52 = .ok (.aload_n 3, 1) := dgq (p := 18) daX12_route_34 dbX12_route_34.2.2.2.2.2.2.2.2.2
def dsX12_route_53 : ByteArray := ⟨#[180, 1, 232, 28, 85, 45, 89, 180, 1, 232, 4, 96, 181, 1, 232, 42]⟩
theorem daX12_route_53 : agB cX12_route dsX12_route_53 53 := agB_of (n := 16) (by decide +kernel)
theorem dbX12_route_53 : (decode dsX12_route_53 0 = .ok (.getfield 488, 3) ∧ okop dsX12_route_53 0 = true) ∧ (decode dsX12_route_53 3 = .ok (.iload_n 2, 1) ∧ okop dsX12_route_53 3 = true) ∧ (decode dsX12_route_53 4 = .ok (.castore, 1) ∧ okop dsX12_route_53 4 = true) ∧ (decode dsX12_route_53 5 = .ok (.aload_n 3, 1) ∧ okop dsX12_route_53 5 = true) ∧ (decode dsX12_route_53 6 = .ok (.dup, 1) ∧ okop dsX12_route_53 6 = true) ∧ (decode dsX12_route_53 7 = .ok (.getfield 488, 3) ∧ okop dsX12_route_53 7 = true) ∧ (decode dsX12_route_53 10 = .ok (.iconst 1, 1) ∧ okop dsX12_route_53 10 = true) ∧ (decode dsX12_route_53 11 = .ok (.iadd, 1) ∧ okop dsX12_route_53 11 = true) ∧ (decode dsX12_route_53 12 = .ok (.putfield 488, 3) ∧ okop dsX12_route_53 12 = true) ∧ (decode dsX12_route_53 15 = .ok (.aload_n 0, 1) ∧ okop dsX12_route_53 15 = true) := by decide +kernel
theorem dX12_route_53 : decode cX12_route 53 = .ok (.getfield 488, 3) := dgq (p := 0) daX12_route_53 dbX12_route_53.1
theorem dX12_route_56 : decode cX12_route 56 = .ok (.iload_n 2, 1) := dgq (p := 3) daX12_route_53 dbX12_route_53.2.1
theorem dX12_route_57 : decode cX12_route 57 = .ok (.castore, 1) := dgq (p := 4) daX12_route_53 dbX12_route_53.2.2.1
theorem dX12_route_58 : decode cX12_route 58 = .ok (.aload_n 3, 1) := dgq (p := 5) daX12_route_53 dbX12_route_53.2.2.2.1
theorem dX12_route_59 : decode cX12_route 59 = .ok (.dup, 1) := dgq (p := 6) daX12_route_53 dbX12_route_53.2.2.2.2.1
theorem dX12_route_60 : decode cX12_route 60 = .ok (.getfield 488, 3) := dgq (p := 7) daX12_route_53 dbX12_route_53.2.2.2.2.2.1
theorem dX12_route_63 : decode cX12_route 63 = .ok (.iconst 1, 1) := dgq (p := 10) daX12_route_53 dbX12_route_53.2.2.2.2.2.2.1
theorem dX12_route_64 : decode cX12_route 64 = .ok (.iadd, 1) := dgq (p := 11) daX12_route_53 dbX12_route_53.2.2.2.2.2.2.2.1
theorem dX12_route_65 : decode cX12_route 65 = .ok (.putfield 488, 3) := dgq (p := 12) daX12_route_53 dbX12_route_53.2.2.2.2.2.2.2.2.1
theorem dX12_route_68 : decode cX12_route 68 = .ok (.aload_n 0, 1) := dgq (p := 15) daX12_route_53 dbX12_route_53.2.2.2.2.2.2.2.2.2
def dsX12_route_69 : ByteArray := ⟨#[45, 180, 1, 232, 182, 0, 153, 172]⟩
theorem daX12_route_69 : agB cX12_route dsX12_route_69 69 := agB_of (n := 8) (by decide +kernel)
theorem dbX12_route_69 : (decode dsX12_route_69 0 = .ok (.aload_n 3, 1) ∧ okop dsX12_route_69 0 = true) ∧ (decode dsX12_route_69 1 = .ok (.getfield 488, 3) ∧ okop dsX12_route_69 1 = true) ∧ (decode dsX12_route_69 4 = .ok (.invokevirtual 153, 3) ∧ okop dsX12_route_69 4 = true) ∧ (decode dsX12_route_69 7 = .ok (.ireturn, 1) ∧ okop dsX12_route_69 7 = true) := by decide +kernel
theorem dX12_route_69 : decode cX12_route 69 = .ok (.aload_n 3, 1) := dgq (p := 0) daX12_route_69 dbX12_route_69.1
theorem dX12_route_70 : decode cX12_route 70 = .ok (.getfield 488, 3) := dgq (p := 1) daX12_route_69 dbX12_route_69.2.1
theorem dX12_route_73 : decode cX12_route 73 = .ok (.invokevirtual 153, 3) := dgq (p := 4) daX12_route_69 dbX12_route_69.2.2.1
theorem dX12_route_76 : decode cX12_route 76 = .ok (.ireturn, 1) := dgq (p := 7) daX12_route_69 dbX12_route_69.2.2.2
def dsX12_goesThrough_0 : ByteArray := ⟨#[3, 61, 3, 62, 29, 43, 180, 1, 232, 162, 0, 124, 2, 54, 4]⟩
theorem daX12_goesThrough_0 : agB cX12_goesThrough dsX12_goesThrough_0 0 := agB_of (n := 15) (by decide +kernel)
theorem dbX12_goesThrough_0 : (decode dsX12_goesThrough_0 0 = .ok (.iconst 0, 1) ∧ okop dsX12_goesThrough_0 0 = true) ∧ (decode dsX12_goesThrough_0 1 = .ok (.istore_n 2, 1) ∧ okop dsX12_goesThrough_0 1 = true) ∧ (decode dsX12_goesThrough_0 2 = .ok (.iconst 0, 1) ∧ okop dsX12_goesThrough_0 2 = true) ∧ (decode dsX12_goesThrough_0 3 = .ok (.istore_n 3, 1) ∧ okop dsX12_goesThrough_0 3 = true) ∧ (decode dsX12_goesThrough_0 4 = .ok (.iload_n 3, 1) ∧ okop dsX12_goesThrough_0 4 = true) ∧ (decode dsX12_goesThrough_0 5 = .ok (.aload_n 1, 1) ∧ okop dsX12_goesThrough_0 5 = true) ∧ (decode dsX12_goesThrough_0 6 = .ok (.getfield 488, 3) ∧ okop dsX12_goesThrough_0 6 = true) ∧ (decode dsX12_goesThrough_0 9 = .ok (.if_icmp .ge 124, 3) ∧ okop dsX12_goesThrough_0 9 = true) ∧ (decode dsX12_goesThrough_0 12 = .ok (.iconst (-1), 1) ∧ okop dsX12_goesThrough_0 12 = true) ∧ (decode dsX12_goesThrough_0 13 = .ok (.istore 4, 2) ∧ okop dsX12_goesThrough_0 13 = true) := by decide +kernel
theorem dX12_goesThrough_0 : decode cX12_goesThrough 0 = .ok (.iconst 0, 1) := dgq (p := 0) daX12_goesThrough_0 dbX12_goesThrough_0.1
theorem dX12_goesThrough_1 : decode cX12_goesThrough 1 = .ok (.istore_n 2, 1) := dgq (p := 1) daX12_goesThrough_0 dbX12_goesThrough_0.2.1
theorem dX12_goesThrough_2 : decode cX12_goesThrough 2 = .ok (.iconst 0, 1) := dgq (p := 2) daX12_goesThrough_0 dbX12_goesThrough_0.2.2.1
theorem dX12_goesThrough_3 : decode cX12_goesThrough 3 = .ok (.istore_n 3, 1) := dgq (p := 3) daX12_goesThrough_0 dbX12_goesThrough_0.2.2.2.1
theorem dX12_goesThrough_4 : decode cX12_goesThrough 4 = .ok (.iload_n 3, 1) := dgq (p := 4) daX12_goesThrough_0 dbX12_goesThrough_0.2.2.2.2.1
theorem dX12_goesThrough_5 : decode cX12_goesThrough 5 = .ok (.aload_n 1, 1) := dgq (p := 5) daX12_goesThrough_0 dbX12_goesThrough_0.2.2.2.2.2.1
theorem dX12_goesThrough_6 : decode cX12_goesThrough 6 = .ok (.getfield 488, 3) := dgq (p := 6) daX12_goesThrough_0 dbX12_goesThrough_0.2.2.2.2.2.2.1
theorem dX12_goesThrough_9 : decode cX12_goesThrough 9 = .ok (.if_icmp .ge 124, 3) := dgq (p := 9) daX12_goesThrough_0 dbX12_goesThrough_0.2.2.2.2.2.2.2.1
theorem dX12_goesThrough_12 : decode cX12_goesThrough 12 = .ok (.iconst (-1), 1) := dgq (p := 12) daX12_goesThrough_0 dbX12_goesThrough_0.2.2.2.2.2.2.2.2.1
theorem dX12_goesThrough_13 : decode cX12_goesThrough 13 = .ok (.istore 4, 2) := dgq (p := 13) daX12_goesThrough_0 dbX12_goesThrough_0.2.2.2.2.2.2.2.2.2
def dsX12_goesThrough_15 : ByteArray := ⟨#[3, 54, 5, 3, 54, 6, 21, 6, 42, 180, 1, 229, 162, 0, 80, 28, 42]⟩
theorem daX12_goesThrough_15 : agB cX12_goesThrough dsX12_goesThrough_15 15 := agB_of (n := 17) (by decide +kernel)
theorem dbX12_goesThrough_15 : (decode dsX12_goesThrough_15 0 = .ok (.iconst 0, 1) ∧ okop dsX12_goesThrough_15 0 = true) ∧ (decode dsX12_goesThrough_15 1 = .ok (.istore 5, 2) ∧ okop dsX12_goesThrough_15 1 = true) ∧ (decode dsX12_goesThrough_15 3 = .ok (.iconst 0, 1) ∧ okop dsX12_goesThrough_15 3 = true) ∧ (decode dsX12_goesThrough_15 4 = .ok (.istore 6, 2) ∧ okop dsX12_goesThrough_15 4 = true) ∧ (decode dsX12_goesThrough_15 6 = .ok (.iload 6, 2) ∧ okop dsX12_goesThrough_15 6 = true) ∧ (decode dsX12_goesThrough_15 8 = .ok (.aload_n 0, 1) ∧ okop dsX12_goesThrough_15 8 = true) ∧ (decode dsX12_goesThrough_15 9 = .ok (.getfield 485, 3) ∧ okop dsX12_goesThrough_15 9 = true) ∧ (decode dsX12_goesThrough_15 12 = .ok (.if_icmp .ge 80, 3) ∧ okop dsX12_goesThrough_15 12 = true) ∧ (decode dsX12_goesThrough_15 15 = .ok (.iload_n 2, 1) ∧ okop dsX12_goesThrough_15 15 = true) ∧ (decode dsX12_goesThrough_15 16 = .ok (.aload_n 0, 1) ∧ okop dsX12_goesThrough_15 16 = true) := by decide +kernel
theorem dX12_goesThrough_15 : decode cX12_goesThrough 15 = .ok (.iconst 0, 1) := dgq (p := 0) daX12_goesThrough_15 dbX12_goesThrough_15.1
theorem dX12_goesThrough_16 : decode cX12_goesThrough 16 = .ok (.istore 5, 2) := dgq (p := 1) daX12_goesThrough_15 dbX12_goesThrough_15.2.1
theorem dX12_goesThrough_18 : decode cX12_goesThrough 18 = .ok (.iconst 0, 1) := dgq (p := 3) daX12_goesThrough_15 dbX12_goesThrough_15.2.2.1
theorem dX12_goesThrough_19 : decode cX12_goesThrough 19 = .ok (.istore 6, 2) := dgq (p := 4) daX12_goesThrough_15 dbX12_goesThrough_15.2.2.2.1
theorem dX12_goesThrough_21 : decode cX12_goesThrough 21 = .ok (.iload 6, 2) := dgq (p := 6) daX12_goesThrough_15 dbX12_goesThrough_15.2.2.2.2.1
theorem dX12_goesThrough_23 : decode cX12_goesThrough 23 = .ok (.aload_n 0, 1) := dgq (p := 8) daX12_goesThrough_15 dbX12_goesThrough_15.2.2.2.2.2.1
theorem dX12_goesThrough_24 : decode cX12_goesThrough 24 = .ok (.getfield 485, 3) := dgq (p := 9) daX12_goesThrough_15 dbX12_goesThrough_15.2.2.2.2.2.2.1
theorem dX12_goesThrough_27 : decode cX12_goesThrough 27 = .ok (.if_icmp .ge 80, 3) := dgq (p := 12) daX12_goesThrough_15 dbX12_goesThrough_15.2.2.2.2.2.2.2.1
theorem dX12_goesThrough_30 : decode cX12_goesThrough 30 = .ok (.iload_n 2, 1) := dgq (p := 15) daX12_goesThrough_15 dbX12_goesThrough_15.2.2.2.2.2.2.2.2.1
theorem dX12_goesThrough_31 : decode cX12_goesThrough 31 = .ok (.aload_n 0, 1) := dgq (p := 16) daX12_goesThrough_15 dbX12_goesThrough_15.2.2.2.2.2.2.2.2.2
def dsX12_goesThrough_32 : ByteArray := ⟨#[180, 0, 51, 21, 6, 46, 42, 180, 0, 48, 21, 6, 46, 184, 1, 162, 184, 1, 162, 42]⟩
theorem daX12_goesThrough_32 : agB cX12_goesThrough dsX12_goesThrough_32 32 := agB_of (n := 20) (by decide +kernel)
theorem dbX12_goesThrough_32 : (decode dsX12_goesThrough_32 0 = .ok (.getfield 51, 3) ∧ okop dsX12_goesThrough_32 0 = true) ∧ (decode dsX12_goesThrough_32 3 = .ok (.iload 6, 2) ∧ okop dsX12_goesThrough_32 3 = true) ∧ (decode dsX12_goesThrough_32 5 = .ok (.iaload, 1) ∧ okop dsX12_goesThrough_32 5 = true) ∧ (decode dsX12_goesThrough_32 6 = .ok (.aload_n 0, 1) ∧ okop dsX12_goesThrough_32 6 = true) ∧ (decode dsX12_goesThrough_32 7 = .ok (.getfield 48, 3) ∧ okop dsX12_goesThrough_32 7 = true) ∧ (decode dsX12_goesThrough_32 10 = .ok (.iload 6, 2) ∧ okop dsX12_goesThrough_32 10 = true) ∧ (decode dsX12_goesThrough_32 12 = .ok (.iaload, 1) ∧ okop dsX12_goesThrough_32 12 = true) ∧ (decode dsX12_goesThrough_32 13 = .ok (.invokestatic 418, 3) ∧ okop dsX12_goesThrough_32 13 = true) ∧ (decode dsX12_goesThrough_32 16 = .ok (.invokestatic 418, 3) ∧ okop dsX12_goesThrough_32 16 = true) ∧ (decode dsX12_goesThrough_32 19 = .ok (.aload_n 0, 1) ∧ okop dsX12_goesThrough_32 19 = true) := by decide +kernel
theorem dX12_goesThrough_32 : decode cX12_goesThrough 32 = .ok (.getfield 51, 3) := dgq (p := 0) daX12_goesThrough_32 dbX12_goesThrough_32.1
theorem dX12_goesThrough_35 : decode cX12_goesThrough 35 = .ok (.iload 6, 2) := dgq (p := 3) daX12_goesThrough_32 dbX12_goesThrough_32.2.1
theorem dX12_goesThrough_37 : decode cX12_goesThrough 37 = .ok (.iaload, 1) := dgq (p := 5) daX12_goesThrough_32 dbX12_goesThrough_32.2.2.1
theorem dX12_goesThrough_38 : decode cX12_goesThrough 38 = .ok (.aload_n 0, 1) := dgq (p := 6) daX12_goesThrough_32 dbX12_goesThrough_32.2.2.2.1
theorem dX12_goesThrough_39 : decode cX12_goesThrough 39 = .ok (.getfield 48, 3) := dgq (p := 7) daX12_goesThrough_32 dbX12_goesThrough_32.2.2.2.2.1
theorem dX12_goesThrough_42 : decode cX12_goesThrough 42 = .ok (.iload 6, 2) := dgq (p := 10) daX12_goesThrough_32 dbX12_goesThrough_32.2.2.2.2.2.1
theorem dX12_goesThrough_44 : decode cX12_goesThrough 44 = .ok (.iaload, 1) := dgq (p := 12) daX12_goesThrough_32 dbX12_goesThrough_32.2.2.2.2.2.2.1
theorem dX12_goesThrough_45 : decode cX12_goesThrough 45 = .ok (.invokestatic 418, 3) := dgq (p := 13) daX12_goesThrough_32 dbX12_goesThrough_32.2.2.2.2.2.2.2.1
theorem dX12_goesThrough_48 : decode cX12_goesThrough 48 = .ok (.invokestatic 418, 3) := dgq (p := 16) daX12_goesThrough_32 dbX12_goesThrough_32.2.2.2.2.2.2.2.2.1
theorem dX12_goesThrough_51 : decode cX12_goesThrough 51 = .ok (.aload_n 0, 1) := dgq (p := 19) daX12_goesThrough_32 dbX12_goesThrough_32.2.2.2.2.2.2.2.2.2
def dsX12_goesThrough_52 : ByteArray := ⟨#[180, 0, 45, 21, 6, 46, 96, 54, 7, 42, 180, 0, 41, 21, 6, 52, 43]⟩
theorem daX12_goesThrough_52 : agB cX12_goesThrough dsX12_goesThrough_52 52 := agB_of (n := 17) (by decide +kernel)
theorem dbX12_goesThrough_52 : (decode dsX12_goesThrough_52 0 = .ok (.getfield 45, 3) ∧ okop dsX12_goesThrough_52 0 = true) ∧ (decode dsX12_goesThrough_52 3 = .ok (.iload 6, 2) ∧ okop dsX12_goesThrough_52 3 = true) ∧ (decode dsX12_goesThrough_52 5 = .ok (.iaload, 1) ∧ okop dsX12_goesThrough_52 5 = true) ∧ (decode dsX12_goesThrough_52 6 = .ok (.iadd, 1) ∧ okop dsX12_goesThrough_52 6 = true) ∧ (decode dsX12_goesThrough_52 7 = .ok (.istore 7, 2) ∧ okop dsX12_goesThrough_52 7 = true) ∧ (decode dsX12_goesThrough_52 9 = .ok (.aload_n 0, 1) ∧ okop dsX12_goesThrough_52 9 = true) ∧ (decode dsX12_goesThrough_52 10 = .ok (.getfield 41, 3) ∧ okop dsX12_goesThrough_52 10 = true) ∧ (decode dsX12_goesThrough_52 13 = .ok (.iload 6, 2) ∧ okop dsX12_goesThrough_52 13 = true) ∧ (decode dsX12_goesThrough_52 15 = .ok (.caload, 1) ∧ okop dsX12_goesThrough_52 15 = true) ∧ (decode dsX12_goesThrough_52 16 = .ok (.aload_n 1, 1) ∧ okop dsX12_goesThrough_52 16 = true) := by decide +kernel
theorem dX12_goesThrough_52 : decode cX12_goesThrough 52 = .ok (.getfield 45, 3) := dgq (p := 0) daX12_goesThrough_52 dbX12_goesThrough_52.1
theorem dX12_goesThrough_55 : decode cX12_goesThrough 55 = .ok (.iload 6, 2) := dgq (p := 3) daX12_goesThrough_52 dbX12_goesThrough_52.2.1
theorem dX12_goesThrough_57 : decode cX12_goesThrough 57 = .ok (.iaload, 1) := dgq (p := 5) daX12_goesThrough_52 dbX12_goesThrough_52.2.2.1
theorem dX12_goesThrough_58 : decode cX12_goesThrough 58 = .ok (.iadd, 1) := dgq (p := 6) daX12_goesThrough_52 dbX12_goesThrough_52.2.2.2.1
theorem dX12_goesThrough_59 : decode cX12_goesThrough 59 = .ok (.istore 7, 2) := dgq (p := 7) daX12_goesThrough_52 dbX12_goesThrough_52.2.2.2.2.1
theorem dX12_goesThrough_61 : decode cX12_goesThrough 61 = .ok (.aload_n 0, 1) := dgq (p := 9) daX12_goesThrough_52 dbX12_goesThrough_52.2.2.2.2.2.1
theorem dX12_goesThrough_62 : decode cX12_goesThrough 62 = .ok (.getfield 41, 3) := dgq (p := 10) daX12_goesThrough_52 dbX12_goesThrough_52.2.2.2.2.2.2.1
theorem dX12_goesThrough_65 : decode cX12_goesThrough 65 = .ok (.iload 6, 2) := dgq (p := 13) daX12_goesThrough_52 dbX12_goesThrough_52.2.2.2.2.2.2.2.1
theorem dX12_goesThrough_67 : decode cX12_goesThrough 67 = .ok (.caload, 1) := dgq (p := 15) daX12_goesThrough_52 dbX12_goesThrough_52.2.2.2.2.2.2.2.2.1
theorem dX12_goesThrough_68 : decode cX12_goesThrough 68 = .ok (.aload_n 1, 1) := dgq (p := 16) daX12_goesThrough_52 dbX12_goesThrough_52.2.2.2.2.2.2.2.2.2
def dsX12_goesThrough_69 : ByteArray := ⟨#[180, 1, 234, 29, 52, 160, 0, 27, 21, 4, 2, 159, 0, 13, 21, 7, 21, 5, 161, 0, 6]⟩
theorem daX12_goesThrough_69 : agB cX12_goesThrough dsX12_goesThrough_69 69 := agB_of (n := 21) (by decide +kernel)
theorem dbX12_goesThrough_69 : (decode dsX12_goesThrough_69 0 = .ok (.getfield 490, 3) ∧ okop dsX12_goesThrough_69 0 = true) ∧ (decode dsX12_goesThrough_69 3 = .ok (.iload_n 3, 1) ∧ okop dsX12_goesThrough_69 3 = true) ∧ (decode dsX12_goesThrough_69 4 = .ok (.caload, 1) ∧ okop dsX12_goesThrough_69 4 = true) ∧ (decode dsX12_goesThrough_69 5 = .ok (.if_icmp .ne 27, 3) ∧ okop dsX12_goesThrough_69 5 = true) ∧ (decode dsX12_goesThrough_69 8 = .ok (.iload 4, 2) ∧ okop dsX12_goesThrough_69 8 = true) ∧ (decode dsX12_goesThrough_69 10 = .ok (.iconst (-1), 1) ∧ okop dsX12_goesThrough_69 10 = true) ∧ (decode dsX12_goesThrough_69 11 = .ok (.if_icmp .eq 13, 3) ∧ okop dsX12_goesThrough_69 11 = true) ∧ (decode dsX12_goesThrough_69 14 = .ok (.iload 7, 2) ∧ okop dsX12_goesThrough_69 14 = true) ∧ (decode dsX12_goesThrough_69 16 = .ok (.iload 5, 2) ∧ okop dsX12_goesThrough_69 16 = true) ∧ (decode dsX12_goesThrough_69 18 = .ok (.if_icmp .lt 6, 3) ∧ okop dsX12_goesThrough_69 18 = true) := by decide +kernel
theorem dX12_goesThrough_69 : decode cX12_goesThrough 69 = .ok (.getfield 490, 3) := dgq (p := 0) daX12_goesThrough_69 dbX12_goesThrough_69.1
theorem dX12_goesThrough_72 : decode cX12_goesThrough 72 = .ok (.iload_n 3, 1) := dgq (p := 3) daX12_goesThrough_69 dbX12_goesThrough_69.2.1
theorem dX12_goesThrough_73 : decode cX12_goesThrough 73 = .ok (.caload, 1) := dgq (p := 4) daX12_goesThrough_69 dbX12_goesThrough_69.2.2.1
theorem dX12_goesThrough_74 : decode cX12_goesThrough 74 = .ok (.if_icmp .ne 27, 3) := dgq (p := 5) daX12_goesThrough_69 dbX12_goesThrough_69.2.2.2.1
theorem dX12_goesThrough_77 : decode cX12_goesThrough 77 = .ok (.iload 4, 2) := dgq (p := 8) daX12_goesThrough_69 dbX12_goesThrough_69.2.2.2.2.1
theorem dX12_goesThrough_79 : decode cX12_goesThrough 79 = .ok (.iconst (-1), 1) := dgq (p := 10) daX12_goesThrough_69 dbX12_goesThrough_69.2.2.2.2.2.1
theorem dX12_goesThrough_80 : decode cX12_goesThrough 80 = .ok (.if_icmp .eq 13, 3) := dgq (p := 11) daX12_goesThrough_69 dbX12_goesThrough_69.2.2.2.2.2.2.1
theorem dX12_goesThrough_83 : decode cX12_goesThrough 83 = .ok (.iload 7, 2) := dgq (p := 14) daX12_goesThrough_69 dbX12_goesThrough_69.2.2.2.2.2.2.2.1
theorem dX12_goesThrough_85 : decode cX12_goesThrough 85 = .ok (.iload 5, 2) := dgq (p := 16) daX12_goesThrough_69 dbX12_goesThrough_69.2.2.2.2.2.2.2.2.1
theorem dX12_goesThrough_87 : decode cX12_goesThrough 87 = .ok (.if_icmp .lt 6, 3) := dgq (p := 18) daX12_goesThrough_69 dbX12_goesThrough_69.2.2.2.2.2.2.2.2.2
def dsX12_goesThrough_90 : ByteArray := ⟨#[167, 0, 11, 21, 6, 54, 4, 21, 7, 54, 5, 132, 6, 1, 167, 255, 173, 21, 4, 2, 160, 0, 5]⟩
theorem daX12_goesThrough_90 : agB cX12_goesThrough dsX12_goesThrough_90 90 := agB_of (n := 23) (by decide +kernel)
theorem dbX12_goesThrough_90 : (decode dsX12_goesThrough_90 0 = .ok (.goto 11, 3) ∧ okop dsX12_goesThrough_90 0 = true) ∧ (decode dsX12_goesThrough_90 3 = .ok (.iload 6, 2) ∧ okop dsX12_goesThrough_90 3 = true) ∧ (decode dsX12_goesThrough_90 5 = .ok (.istore 4, 2) ∧ okop dsX12_goesThrough_90 5 = true) ∧ (decode dsX12_goesThrough_90 7 = .ok (.iload 7, 2) ∧ okop dsX12_goesThrough_90 7 = true) ∧ (decode dsX12_goesThrough_90 9 = .ok (.istore 5, 2) ∧ okop dsX12_goesThrough_90 9 = true) ∧ (decode dsX12_goesThrough_90 11 = .ok (.iinc 6 1, 3) ∧ okop dsX12_goesThrough_90 11 = true) ∧ (decode dsX12_goesThrough_90 14 = .ok (.goto (-83), 3) ∧ okop dsX12_goesThrough_90 14 = true) ∧ (decode dsX12_goesThrough_90 17 = .ok (.iload 4, 2) ∧ okop dsX12_goesThrough_90 17 = true) ∧ (decode dsX12_goesThrough_90 19 = .ok (.iconst (-1), 1) ∧ okop dsX12_goesThrough_90 19 = true) ∧ (decode dsX12_goesThrough_90 20 = .ok (.if_icmp .ne 5, 3) ∧ okop dsX12_goesThrough_90 20 = true) := by decide +kernel
theorem dX12_goesThrough_90 : decode cX12_goesThrough 90 = .ok (.goto 11, 3) := dgq (p := 0) daX12_goesThrough_90 dbX12_goesThrough_90.1
theorem dX12_goesThrough_93 : decode cX12_goesThrough 93 = .ok (.iload 6, 2) := dgq (p := 3) daX12_goesThrough_90 dbX12_goesThrough_90.2.1
theorem dX12_goesThrough_95 : decode cX12_goesThrough 95 = .ok (.istore 4, 2) := dgq (p := 5) daX12_goesThrough_90 dbX12_goesThrough_90.2.2.1
theorem dX12_goesThrough_97 : decode cX12_goesThrough 97 = .ok (.iload 7, 2) := dgq (p := 7) daX12_goesThrough_90 dbX12_goesThrough_90.2.2.2.1
theorem dX12_goesThrough_99 : decode cX12_goesThrough 99 = .ok (.istore 5, 2) := dgq (p := 9) daX12_goesThrough_90 dbX12_goesThrough_90.2.2.2.2.1
theorem dX12_goesThrough_101 : decode cX12_goesThrough 101 = .ok (.iinc 6 1, 3) := dgq (p := 11) daX12_goesThrough_90 dbX12_goesThrough_90.2.2.2.2.2.1
theorem dX12_goesThrough_104 : decode cX12_goesThrough 104 = .ok (.goto (-83), 3) := dgq (p := 14) daX12_goesThrough_90 dbX12_goesThrough_90.2.2.2.2.2.2.1
theorem dX12_goesThrough_107 : decode cX12_goesThrough 107 = .ok (.iload 4, 2) := dgq (p := 17) daX12_goesThrough_90 dbX12_goesThrough_90.2.2.2.2.2.2.2.1
theorem dX12_goesThrough_109 : decode cX12_goesThrough 109 = .ok (.iconst (-1), 1) := dgq (p := 19) daX12_goesThrough_90 dbX12_goesThrough_90.2.2.2.2.2.2.2.2.1
theorem dX12_goesThrough_110 : decode cX12_goesThrough 110 = .ok (.if_icmp .ne 5, 3) := dgq (p := 20) daX12_goesThrough_90 dbX12_goesThrough_90.2.2.2.2.2.2.2.2.2
def dsX12_goesThrough_113 : ByteArray := ⟨#[2, 172, 42, 180, 0, 51, 21, 4, 21, 5, 79, 21, 5, 61, 132, 3, 1]⟩
theorem daX12_goesThrough_113 : agB cX12_goesThrough dsX12_goesThrough_113 113 := agB_of (n := 17) (by decide +kernel)
theorem dbX12_goesThrough_113 : (decode dsX12_goesThrough_113 0 = .ok (.iconst (-1), 1) ∧ okop dsX12_goesThrough_113 0 = true) ∧ (decode dsX12_goesThrough_113 1 = .ok (.ireturn, 1) ∧ okop dsX12_goesThrough_113 1 = true) ∧ (decode dsX12_goesThrough_113 2 = .ok (.aload_n 0, 1) ∧ okop dsX12_goesThrough_113 2 = true) ∧ (decode dsX12_goesThrough_113 3 = .ok (.getfield 51, 3) ∧ okop dsX12_goesThrough_113 3 = true) ∧ (decode dsX12_goesThrough_113 6 = .ok (.iload 4, 2) ∧ okop dsX12_goesThrough_113 6 = true) ∧ (decode dsX12_goesThrough_113 8 = .ok (.iload 5, 2) ∧ okop dsX12_goesThrough_113 8 = true) ∧ (decode dsX12_goesThrough_113 10 = .ok (.iastore, 1) ∧ okop dsX12_goesThrough_113 10 = true) ∧ (decode dsX12_goesThrough_113 11 = .ok (.iload 5, 2) ∧ okop dsX12_goesThrough_113 11 = true) ∧ (decode dsX12_goesThrough_113 13 = .ok (.istore_n 2, 1) ∧ okop dsX12_goesThrough_113 13 = true) ∧ (decode dsX12_goesThrough_113 14 = .ok (.iinc 3 1, 3) ∧ okop dsX12_goesThrough_113 14 = true) := by decide +kernel
theorem dX12_goesThrough_113 : decode cX12_goesThrough 113 = .ok (.iconst (-1), 1) := dgq (p := 0) daX12_goesThrough_113 dbX12_goesThrough_113.1
theorem dX12_goesThrough_114 : decode cX12_goesThrough 114 = .ok (.ireturn, 1) := dgq (p := 1) daX12_goesThrough_113 dbX12_goesThrough_113.2.1
theorem dX12_goesThrough_115 : decode cX12_goesThrough 115 = .ok (.aload_n 0, 1) := dgq (p := 2) daX12_goesThrough_113 dbX12_goesThrough_113.2.2.1
theorem dX12_goesThrough_116 : decode cX12_goesThrough 116 = .ok (.getfield 51, 3) := dgq (p := 3) daX12_goesThrough_113 dbX12_goesThrough_113.2.2.2.1
theorem dX12_goesThrough_119 : decode cX12_goesThrough 119 = .ok (.iload 4, 2) := dgq (p := 6) daX12_goesThrough_113 dbX12_goesThrough_113.2.2.2.2.1
theorem dX12_goesThrough_121 : decode cX12_goesThrough 121 = .ok (.iload 5, 2) := dgq (p := 8) daX12_goesThrough_113 dbX12_goesThrough_113.2.2.2.2.2.1
theorem dX12_goesThrough_123 : decode cX12_goesThrough 123 = .ok (.iastore, 1) := dgq (p := 10) daX12_goesThrough_113 dbX12_goesThrough_113.2.2.2.2.2.2.1
theorem dX12_goesThrough_124 : decode cX12_goesThrough 124 = .ok (.iload 5, 2) := dgq (p := 11) daX12_goesThrough_113 dbX12_goesThrough_113.2.2.2.2.2.2.2.1
theorem dX12_goesThrough_126 : decode cX12_goesThrough 126 = .ok (.istore_n 2, 1) := dgq (p := 13) daX12_goesThrough_113 dbX12_goesThrough_113.2.2.2.2.2.2.2.2.1
theorem dX12_goesThrough_127 : decode cX12_goesThrough 127 = .ok (.iinc 3 1, 3) := dgq (p := 14) daX12_goesThrough_113 dbX12_goesThrough_113.2.2.2.2.2.2.2.2.2
def dsX12_goesThrough_130 : ByteArray := ⟨#[167, 255, 130, 28, 172]⟩
theorem daX12_goesThrough_130 : agB cX12_goesThrough dsX12_goesThrough_130 130 := agB_of (n := 5) (by decide +kernel)
theorem dbX12_goesThrough_130 : (decode dsX12_goesThrough_130 0 = .ok (.goto (-126), 3) ∧ okop dsX12_goesThrough_130 0 = true) ∧ (decode dsX12_goesThrough_130 3 = .ok (.iload_n 2, 1) ∧ okop dsX12_goesThrough_130 3 = true) ∧ (decode dsX12_goesThrough_130 4 = .ok (.ireturn, 1) ∧ okop dsX12_goesThrough_130 4 = true) := by decide +kernel
theorem dX12_goesThrough_130 : decode cX12_goesThrough 130 = .ok (.goto (-126), 3) := dgq (p := 0) daX12_goesThrough_130 dbX12_goesThrough_130.1
theorem dX12_goesThrough_133 : decode cX12_goesThrough 133 = .ok (.iload_n 2, 1) := dgq (p := 3) daX12_goesThrough_130 dbX12_goesThrough_130.2.1
theorem dX12_goesThrough_134 : decode cX12_goesThrough 134 = .ok (.ireturn, 1) := dgq (p := 4) daX12_goesThrough_130 dbX12_goesThrough_130.2.2
set_option maxRecDepth 20000 in
theorem ggX12_doneAt_X12_isGear : GoodIn wsX12_doneAt wsX12_isGear := goodIn_ca (goodIn_ca (goodIn_q _ [7, 2, 8, 9, 10, 11, 12, 13, 14, 15, 6, 16] rfl (by decide +kernel)) (goodIn_sub (fun _ h => (List.mem_cons_of_mem _ (List.mem_append_left _ (List.mem_append_left _ (List.mem_append_left _ (List.mem_append_right _ h)))))) tg_wsX120)) (goodIn_sub (fun _ h => (List.mem_cons_of_mem _ (List.mem_append_left _ (List.mem_append_left _ (List.mem_append_right _ h))))) tg_wsJx4a65c0)
set_option maxRecDepth 20000 in
theorem gX12_doneAt_X12_isGear : GoodIn wsX12_doneAt (wsV RX12 121 RX12 yX12_isGear wsX12_isGear) := goodIn_app (goodIn_q _ [3, 4, 5, 6] rfl (by decide +kernel)) ggX12_doneAt_X12_isGear
set_option maxRecDepth 20000 in
theorem ggX12_doneAt_X12_fails : GoodIn wsX12_doneAt wsX12_fails := goodIn_ca (goodIn_q _ [20, 21] rfl (by decide +kernel)) (goodIn_sub (fun _ h => (List.mem_cons_of_mem _ (List.mem_append_left _ (List.mem_append_left _ (List.mem_append_left _ (List.mem_append_right _ h)))))) tg_wsX120)
set_option maxRecDepth 20000 in
theorem gX12_doneAt_X12_fails : GoodIn wsX12_doneAt (wsV RX12 143 RX12 yX12_fails wsX12_fails) := goodIn_app (goodIn_q _ [17, 18, 19, 6] rfl (by decide +kernel)) ggX12_doneAt_X12_fails
set_option maxRecDepth 20000 in
theorem ggX12_doneAt_Jx4a65c_size_8abf5 : GoodIn wsX12_doneAt wsJx4a65c_size_8abf5 := goodIn_ca (goodIn_q _ [12, 13] rfl (by decide +kernel)) (goodIn_sub (fun _ h => (List.mem_cons_of_mem _ (List.mem_append_left _ (List.mem_append_left _ (List.mem_append_right _ h))))) tg_wsJx4a65c0)
set_option maxRecDepth 20000 in
theorem gX12_doneAt_Jx4a65c_size_8abf5 : GoodIn wsX12_doneAt (wsV RX12 97 RJx4a65c yJx4a65c_size_8abf5 wsJx4a65c_size_8abf5) := goodIn_app (goodIn_q _ [8, 9, 10, 11] rfl (by decide +kernel)) ggX12_doneAt_Jx4a65c_size_8abf5
set_option maxRecDepth 20000 in
theorem ggX12_doneAt_X12_gearAt : GoodIn wsX12_doneAt wsX12_gearAt := goodIn_ca (goodIn_ca (goodIn_q _ [25, 2, 26, 27, 28, 29, 11, 30, 13, 31, 32, 33, 34, 35, 36, 37, 38, 39, 40, 41, 42, 43] rfl (by decide +kernel)) (goodIn_sub (fun _ h => (List.mem_cons_of_mem _ (List.mem_append_left _ (List.mem_append_left _ (List.mem_append_left _ (List.mem_append_right _ h)))))) tg_wsX120)) (goodIn_sub (fun _ h => (List.mem_cons_of_mem _ (List.mem_append_left _ (List.mem_append_left _ (List.mem_append_right _ h))))) tg_wsJx4a65c0)
set_option maxRecDepth 20000 in
theorem gX12_doneAt_X12_gearAt : GoodIn wsX12_doneAt (wsV RX12 111 RX12 yX12_gearAt wsX12_gearAt) := goodIn_app (goodIn_q _ [22, 23, 24, 6] rfl (by decide +kernel)) ggX12_doneAt_X12_gearAt
set_option maxRecDepth 20000 in
theorem ggX12_doneAt_X12_goesThrough : GoodIn wsX12_doneAt wsX12_goesThrough := goodIn_ca (goodIn_ca (goodIn_ca (goodIn_q _ [47, 48, 1, 49, 50, 51, 52, 53, 54, 55] rfl (by decide +kernel)) (goodIn_sub (fun _ h => (List.mem_cons_of_mem _ (List.mem_append_left _ (List.mem_append_right _ h)))) tg_wsX100)) (goodIn_sub (fun _ h => (List.mem_cons_of_mem _ (List.mem_append_left _ (List.mem_append_left _ (List.mem_append_left _ (List.mem_append_right _ h)))))) tg_wsX120)) (goodIn_sub (fun _ h => List.mem_cons_of_mem _ (List.mem_append_right _ h)) (by decide +kernel))
set_option maxRecDepth 20000 in
theorem gX12_doneAt_X12_goesThrough : GoodIn wsX12_doneAt (wsV RX12 493 RX12 yX12_goesThrough wsX12_goesThrough) := goodIn_app (goodIn_q _ [44, 45, 46, 6] rfl (by decide +kernel)) ggX12_doneAt_X12_goesThrough
set_option maxRecDepth 20000 in
theorem ggX12_doneAt_X12_answer : GoodIn wsX12_doneAt wsX12_answer := goodIn_ca (goodIn_q _ [59, 21] rfl (by decide +kernel)) (goodIn_sub (fun _ h => (List.mem_cons_of_mem _ (List.mem_append_left _ (List.mem_append_left _ (List.mem_append_left _ (List.mem_append_right _ h)))))) tg_wsX120)
set_option maxRecDepth 20000 in
theorem gX12_doneAt_X12_answer : GoodIn wsX12_doneAt (wsV RX12 153 RX12 yX12_answer wsX12_answer) := goodIn_app (goodIn_q _ [56, 57, 58, 6] rfl (by decide +kernel)) ggX12_doneAt_X12_answer
def dsX12_doneAt_0 : ByteArray := ⟨#[42, 27, 182, 0, 121, 154, 0, 9, 42, 4, 182, 0, 143, 172, 3, 61]⟩
theorem daX12_doneAt_0 : agB cX12_doneAt dsX12_doneAt_0 0 := agB_of (n := 16) (by decide +kernel)
theorem dbX12_doneAt_0 : (decode dsX12_doneAt_0 0 = .ok (.aload_n 0, 1) ∧ okop dsX12_doneAt_0 0 = true) ∧ (decode dsX12_doneAt_0 1 = .ok (.iload_n 1, 1) ∧ okop dsX12_doneAt_0 1 = true) ∧ (decode dsX12_doneAt_0 2 = .ok (.invokevirtual 121, 3) ∧ okop dsX12_doneAt_0 2 = true) ∧ (decode dsX12_doneAt_0 5 = .ok (.ifCond .ne 9, 3) ∧ okop dsX12_doneAt_0 5 = true) ∧ (decode dsX12_doneAt_0 8 = .ok (.aload_n 0, 1) ∧ okop dsX12_doneAt_0 8 = true) ∧ (decode dsX12_doneAt_0 9 = .ok (.iconst 1, 1) ∧ okop dsX12_doneAt_0 9 = true) ∧ (decode dsX12_doneAt_0 10 = .ok (.invokevirtual 143, 3) ∧ okop dsX12_doneAt_0 10 = true) ∧ (decode dsX12_doneAt_0 13 = .ok (.ireturn, 1) ∧ okop dsX12_doneAt_0 13 = true) ∧ (decode dsX12_doneAt_0 14 = .ok (.iconst 0, 1) ∧ okop dsX12_doneAt_0 14 = true) ∧ (decode dsX12_doneAt_0 15 = .ok (.istore_n 2, 1) ∧ okop dsX12_doneAt_0 15 = true) := by decide +kernel
theorem dX12_doneAt_0 : decode cX12_doneAt 0 = .ok (.aload_n 0, 1) := dgq (p := 0) daX12_doneAt_0 dbX12_doneAt_0.1
theorem dX12_doneAt_1 : decode cX12_doneAt 1 = .ok (.iload_n 1, 1) := dgq (p := 1) daX12_doneAt_0 dbX12_doneAt_0.2.1
theorem dX12_doneAt_2 : decode cX12_doneAt 2 = .ok (.invokevirtual 121, 3) := dgq (p := 2) daX12_doneAt_0 dbX12_doneAt_0.2.2.1
theorem dX12_doneAt_5 : decode cX12_doneAt 5 = .ok (.ifCond .ne 9, 3) := dgq (p := 5) daX12_doneAt_0 dbX12_doneAt_0.2.2.2.1
theorem dX12_doneAt_8 : decode cX12_doneAt 8 = .ok (.aload_n 0, 1) := dgq (p := 8) daX12_doneAt_0 dbX12_doneAt_0.2.2.2.2.1
theorem dX12_doneAt_9 : decode cX12_doneAt 9 = .ok (.iconst 1, 1) := dgq (p := 9) daX12_doneAt_0 dbX12_doneAt_0.2.2.2.2.2.1
theorem dX12_doneAt_10 : decode cX12_doneAt 10 = .ok (.invokevirtual 143, 3) := dgq (p := 10) daX12_doneAt_0 dbX12_doneAt_0.2.2.2.2.2.2.1
theorem dX12_doneAt_13 : decode cX12_doneAt 13 = .ok (.ireturn, 1) := dgq (p := 13) daX12_doneAt_0 dbX12_doneAt_0.2.2.2.2.2.2.2.1
theorem dX12_doneAt_14 : decode cX12_doneAt 14 = .ok (.iconst 0, 1) := dgq (p := 14) daX12_doneAt_0 dbX12_doneAt_0.2.2.2.2.2.2.2.2.1
theorem dX12_doneAt_15 : decode cX12_doneAt 15 = .ok (.istore_n 2, 1) := dgq (p := 15) daX12_doneAt_0 dbX12_doneAt_0.2.2.2.2.2.2.2.2.2
def dsX12_doneAt_16 : ByteArray := ⟨#[28, 16, 6, 162, 0, 16, 42, 180, 0, 51, 28, 3, 79, 132, 2, 1, 167, 255, 240]⟩
theorem daX12_doneAt_16 : agB cX12_doneAt dsX12_doneAt_16 16 := agB_of (n := 19) (by decide +kernel)
theorem dbX12_doneAt_16 : (decode dsX12_doneAt_16 0 = .ok (.iload_n 2, 1) ∧ okop dsX12_doneAt_16 0 = true) ∧ (decode dsX12_doneAt_16 1 = .ok (.bipush 6, 2) ∧ okop dsX12_doneAt_16 1 = true) ∧ (decode dsX12_doneAt_16 3 = .ok (.if_icmp .ge 16, 3) ∧ okop dsX12_doneAt_16 3 = true) ∧ (decode dsX12_doneAt_16 6 = .ok (.aload_n 0, 1) ∧ okop dsX12_doneAt_16 6 = true) ∧ (decode dsX12_doneAt_16 7 = .ok (.getfield 51, 3) ∧ okop dsX12_doneAt_16 7 = true) ∧ (decode dsX12_doneAt_16 10 = .ok (.iload_n 2, 1) ∧ okop dsX12_doneAt_16 10 = true) ∧ (decode dsX12_doneAt_16 11 = .ok (.iconst 0, 1) ∧ okop dsX12_doneAt_16 11 = true) ∧ (decode dsX12_doneAt_16 12 = .ok (.iastore, 1) ∧ okop dsX12_doneAt_16 12 = true) ∧ (decode dsX12_doneAt_16 13 = .ok (.iinc 2 1, 3) ∧ okop dsX12_doneAt_16 13 = true) ∧ (decode dsX12_doneAt_16 16 = .ok (.goto (-16), 3) ∧ okop dsX12_doneAt_16 16 = true) := by decide +kernel
theorem dX12_doneAt_16 : decode cX12_doneAt 16 = .ok (.iload_n 2, 1) := dgq (p := 0) daX12_doneAt_16 dbX12_doneAt_16.1
theorem dX12_doneAt_17 : decode cX12_doneAt 17 = .ok (.bipush 6, 2) := dgq (p := 1) daX12_doneAt_16 dbX12_doneAt_16.2.1
theorem dX12_doneAt_19 : decode cX12_doneAt 19 = .ok (.if_icmp .ge 16, 3) := dgq (p := 3) daX12_doneAt_16 dbX12_doneAt_16.2.2.1
theorem dX12_doneAt_22 : decode cX12_doneAt 22 = .ok (.aload_n 0, 1) := dgq (p := 6) daX12_doneAt_16 dbX12_doneAt_16.2.2.2.1
theorem dX12_doneAt_23 : decode cX12_doneAt 23 = .ok (.getfield 51, 3) := dgq (p := 7) daX12_doneAt_16 dbX12_doneAt_16.2.2.2.2.1
theorem dX12_doneAt_26 : decode cX12_doneAt 26 = .ok (.iload_n 2, 1) := dgq (p := 10) daX12_doneAt_16 dbX12_doneAt_16.2.2.2.2.2.1
theorem dX12_doneAt_27 : decode cX12_doneAt 27 = .ok (.iconst 0, 1) := dgq (p := 11) daX12_doneAt_16 dbX12_doneAt_16.2.2.2.2.2.2.1
theorem dX12_doneAt_28 : decode cX12_doneAt 28 = .ok (.iastore, 1) := dgq (p := 12) daX12_doneAt_16 dbX12_doneAt_16.2.2.2.2.2.2.2.1
theorem dX12_doneAt_29 : decode cX12_doneAt 29 = .ok (.iinc 2 1, 3) := dgq (p := 13) daX12_doneAt_16 dbX12_doneAt_16.2.2.2.2.2.2.2.2.1
theorem dX12_doneAt_32 : decode cX12_doneAt 32 = .ok (.goto (-16), 3) := dgq (p := 16) daX12_doneAt_16 dbX12_doneAt_16.2.2.2.2.2.2.2.2.2
def dsX12_doneAt_35 : ByteArray := ⟨#[3, 61, 3, 62, 3, 54, 4, 21, 4, 42, 180, 0, 24, 182, 0, 97]⟩
theorem daX12_doneAt_35 : agB cX12_doneAt dsX12_doneAt_35 35 := agB_of (n := 16) (by decide +kernel)
theorem dbX12_doneAt_35 : (decode dsX12_doneAt_35 0 = .ok (.iconst 0, 1) ∧ okop dsX12_doneAt_35 0 = true) ∧ (decode dsX12_doneAt_35 1 = .ok (.istore_n 2, 1) ∧ okop dsX12_doneAt_35 1 = true) ∧ (decode dsX12_doneAt_35 2 = .ok (.iconst 0, 1) ∧ okop dsX12_doneAt_35 2 = true) ∧ (decode dsX12_doneAt_35 3 = .ok (.istore_n 3, 1) ∧ okop dsX12_doneAt_35 3 = true) ∧ (decode dsX12_doneAt_35 4 = .ok (.iconst 0, 1) ∧ okop dsX12_doneAt_35 4 = true) ∧ (decode dsX12_doneAt_35 5 = .ok (.istore 4, 2) ∧ okop dsX12_doneAt_35 5 = true) ∧ (decode dsX12_doneAt_35 7 = .ok (.iload 4, 2) ∧ okop dsX12_doneAt_35 7 = true) ∧ (decode dsX12_doneAt_35 9 = .ok (.aload_n 0, 1) ∧ okop dsX12_doneAt_35 9 = true) ∧ (decode dsX12_doneAt_35 10 = .ok (.getfield 24, 3) ∧ okop dsX12_doneAt_35 10 = true) ∧ (decode dsX12_doneAt_35 13 = .ok (.invokevirtual 97, 3) ∧ okop dsX12_doneAt_35 13 = true) := by decide +kernel
theorem dX12_doneAt_35 : decode cX12_doneAt 35 = .ok (.iconst 0, 1) := dgq (p := 0) daX12_doneAt_35 dbX12_doneAt_35.1
theorem dX12_doneAt_36 : decode cX12_doneAt 36 = .ok (.istore_n 2, 1) := dgq (p := 1) daX12_doneAt_35 dbX12_doneAt_35.2.1
theorem dX12_doneAt_37 : decode cX12_doneAt 37 = .ok (.iconst 0, 1) := dgq (p := 2) daX12_doneAt_35 dbX12_doneAt_35.2.2.1
theorem dX12_doneAt_38 : decode cX12_doneAt 38 = .ok (.istore_n 3, 1) := dgq (p := 3) daX12_doneAt_35 dbX12_doneAt_35.2.2.2.1
theorem dX12_doneAt_39 : decode cX12_doneAt 39 = .ok (.iconst 0, 1) := dgq (p := 4) daX12_doneAt_35 dbX12_doneAt_35.2.2.2.2.1
theorem dX12_doneAt_40 : decode cX12_doneAt 40 = .ok (.istore 4, 2) := dgq (p := 5) daX12_doneAt_35 dbX12_doneAt_35.2.2.2.2.2.1
theorem dX12_doneAt_42 : decode cX12_doneAt 42 = .ok (.iload 4, 2) := dgq (p := 7) daX12_doneAt_35 dbX12_doneAt_35.2.2.2.2.2.2.1
theorem dX12_doneAt_44 : decode cX12_doneAt 44 = .ok (.aload_n 0, 1) := dgq (p := 9) daX12_doneAt_35 dbX12_doneAt_35.2.2.2.2.2.2.2.1
theorem dX12_doneAt_45 : decode cX12_doneAt 45 = .ok (.getfield 24, 3) := dgq (p := 10) daX12_doneAt_35 dbX12_doneAt_35.2.2.2.2.2.2.2.2.1
theorem dX12_doneAt_48 : decode cX12_doneAt 48 = .ok (.invokevirtual 97, 3) := dgq (p := 13) daX12_doneAt_35 dbX12_doneAt_35.2.2.2.2.2.2.2.2.2
def dsX12_doneAt_51 : ByteArray := ⟨#[162, 0, 50, 42, 42, 21, 4, 182, 0, 111, 182, 1, 237, 54, 5, 29, 154, 0, 9, 21, 5]⟩
theorem daX12_doneAt_51 : agB cX12_doneAt dsX12_doneAt_51 51 := agB_of (n := 21) (by decide +kernel)
theorem dbX12_doneAt_51 : (decode dsX12_doneAt_51 0 = .ok (.if_icmp .ge 50, 3) ∧ okop dsX12_doneAt_51 0 = true) ∧ (decode dsX12_doneAt_51 3 = .ok (.aload_n 0, 1) ∧ okop dsX12_doneAt_51 3 = true) ∧ (decode dsX12_doneAt_51 4 = .ok (.aload_n 0, 1) ∧ okop dsX12_doneAt_51 4 = true) ∧ (decode dsX12_doneAt_51 5 = .ok (.iload 4, 2) ∧ okop dsX12_doneAt_51 5 = true) ∧ (decode dsX12_doneAt_51 7 = .ok (.invokevirtual 111, 3) ∧ okop dsX12_doneAt_51 7 = true) ∧ (decode dsX12_doneAt_51 10 = .ok (.invokevirtual 493, 3) ∧ okop dsX12_doneAt_51 10 = true) ∧ (decode dsX12_doneAt_51 13 = .ok (.istore 5, 2) ∧ okop dsX12_doneAt_51 13 = true) ∧ (decode dsX12_doneAt_51 15 = .ok (.iload_n 3, 1) ∧ okop dsX12_doneAt_51 15 = true) ∧ (decode dsX12_doneAt_51 16 = .ok (.ifCond .ne 9, 3) ∧ okop dsX12_doneAt_51 16 = true) ∧ (decode dsX12_doneAt_51 19 = .ok (.iload 5, 2) ∧ okop dsX12_doneAt_51 19 = true) := by decide +kernel
theorem dX12_doneAt_51 : decode cX12_doneAt 51 = .ok (.if_icmp .ge 50, 3) := dgq (p := 0) daX12_doneAt_51 dbX12_doneAt_51.1
theorem dX12_doneAt_54 : decode cX12_doneAt 54 = .ok (.aload_n 0, 1) := dgq (p := 3) daX12_doneAt_51 dbX12_doneAt_51.2.1
theorem dX12_doneAt_55 : decode cX12_doneAt 55 = .ok (.aload_n 0, 1) := dgq (p := 4) daX12_doneAt_51 dbX12_doneAt_51.2.2.1
theorem dX12_doneAt_56 : decode cX12_doneAt 56 = .ok (.iload 4, 2) := dgq (p := 5) daX12_doneAt_51 dbX12_doneAt_51.2.2.2.1
theorem dX12_doneAt_58 : decode cX12_doneAt 58 = .ok (.invokevirtual 111, 3) := dgq (p := 7) daX12_doneAt_51 dbX12_doneAt_51.2.2.2.2.1
theorem dX12_doneAt_61 : decode cX12_doneAt 61 = .ok (.invokevirtual 493, 3) := dgq (p := 10) daX12_doneAt_51 dbX12_doneAt_51.2.2.2.2.2.1
theorem dX12_doneAt_64 : decode cX12_doneAt 64 = .ok (.istore 5, 2) := dgq (p := 13) daX12_doneAt_51 dbX12_doneAt_51.2.2.2.2.2.2.1
theorem dX12_doneAt_66 : decode cX12_doneAt 66 = .ok (.iload_n 3, 1) := dgq (p := 15) daX12_doneAt_51 dbX12_doneAt_51.2.2.2.2.2.2.2.1
theorem dX12_doneAt_67 : decode cX12_doneAt 67 = .ok (.ifCond .ne 9, 3) := dgq (p := 16) daX12_doneAt_51 dbX12_doneAt_51.2.2.2.2.2.2.2.2.1
theorem dX12_doneAt_70 : decode cX12_doneAt 70 = .ok (.iload 5, 2) := dgq (p := 19) daX12_doneAt_51 dbX12_doneAt_51.2.2.2.2.2.2.2.2.2
def dsX12_doneAt_72 : ByteArray := ⟨#[2, 160, 0, 7, 4, 167, 0, 4, 3, 62, 21, 4, 27, 160, 0, 8, 21, 5]⟩
theorem daX12_doneAt_72 : agB cX12_doneAt dsX12_doneAt_72 72 := agB_of (n := 18) (by decide +kernel)
theorem dbX12_doneAt_72 : (decode dsX12_doneAt_72 0 = .ok (.iconst (-1), 1) ∧ okop dsX12_doneAt_72 0 = true) ∧ (decode dsX12_doneAt_72 1 = .ok (.if_icmp .ne 7, 3) ∧ okop dsX12_doneAt_72 1 = true) ∧ (decode dsX12_doneAt_72 4 = .ok (.iconst 1, 1) ∧ okop dsX12_doneAt_72 4 = true) ∧ (decode dsX12_doneAt_72 5 = .ok (.goto 4, 3) ∧ okop dsX12_doneAt_72 5 = true) ∧ (decode dsX12_doneAt_72 8 = .ok (.iconst 0, 1) ∧ okop dsX12_doneAt_72 8 = true) ∧ (decode dsX12_doneAt_72 9 = .ok (.istore_n 3, 1) ∧ okop dsX12_doneAt_72 9 = true) ∧ (decode dsX12_doneAt_72 10 = .ok (.iload 4, 2) ∧ okop dsX12_doneAt_72 10 = true) ∧ (decode dsX12_doneAt_72 12 = .ok (.iload_n 1, 1) ∧ okop dsX12_doneAt_72 12 = true) ∧ (decode dsX12_doneAt_72 13 = .ok (.if_icmp .ne 8, 3) ∧ okop dsX12_doneAt_72 13 = true) ∧ (decode dsX12_doneAt_72 16 = .ok (.iload 5, 2) ∧ okop dsX12_doneAt_72 16 = true) := by decide +kernel
theorem dX12_doneAt_72 : decode cX12_doneAt 72 = .ok (.iconst (-1), 1) := dgq (p := 0) daX12_doneAt_72 dbX12_doneAt_72.1
theorem dX12_doneAt_73 : decode cX12_doneAt 73 = .ok (.if_icmp .ne 7, 3) := dgq (p := 1) daX12_doneAt_72 dbX12_doneAt_72.2.1
theorem dX12_doneAt_76 : decode cX12_doneAt 76 = .ok (.iconst 1, 1) := dgq (p := 4) daX12_doneAt_72 dbX12_doneAt_72.2.2.1
theorem dX12_doneAt_77 : decode cX12_doneAt 77 = .ok (.goto 4, 3) := dgq (p := 5) daX12_doneAt_72 dbX12_doneAt_72.2.2.2.1
theorem dX12_doneAt_80 : decode cX12_doneAt 80 = .ok (.iconst 0, 1) := dgq (p := 8) daX12_doneAt_72 dbX12_doneAt_72.2.2.2.2.1
theorem dX12_doneAt_81 : decode cX12_doneAt 81 = .ok (.istore_n 3, 1) := dgq (p := 9) daX12_doneAt_72 dbX12_doneAt_72.2.2.2.2.2.1
theorem dX12_doneAt_82 : decode cX12_doneAt 82 = .ok (.iload 4, 2) := dgq (p := 10) daX12_doneAt_72 dbX12_doneAt_72.2.2.2.2.2.2.1
theorem dX12_doneAt_84 : decode cX12_doneAt 84 = .ok (.iload_n 1, 1) := dgq (p := 12) daX12_doneAt_72 dbX12_doneAt_72.2.2.2.2.2.2.2.1
theorem dX12_doneAt_85 : decode cX12_doneAt 85 = .ok (.if_icmp .ne 8, 3) := dgq (p := 13) daX12_doneAt_72 dbX12_doneAt_72.2.2.2.2.2.2.2.2.1
theorem dX12_doneAt_88 : decode cX12_doneAt 88 = .ok (.iload 5, 2) := dgq (p := 16) daX12_doneAt_72 dbX12_doneAt_72.2.2.2.2.2.2.2.2.2
def dsX12_doneAt_90 : ByteArray := ⟨#[167, 0, 4, 28, 61, 132, 4, 1, 167, 255, 200, 29, 153, 0, 11, 42, 5, 182, 0, 143]⟩
theorem daX12_doneAt_90 : agB cX12_doneAt dsX12_doneAt_90 90 := agB_of (n := 20) (by decide +kernel)
theorem dbX12_doneAt_90 : (decode dsX12_doneAt_90 0 = .ok (.goto 4, 3) ∧ okop dsX12_doneAt_90 0 = true) ∧ (decode dsX12_doneAt_90 3 = .ok (.iload_n 2, 1) ∧ okop dsX12_doneAt_90 3 = true) ∧ (decode dsX12_doneAt_90 4 = .ok (.istore_n 2, 1) ∧ okop dsX12_doneAt_90 4 = true) ∧ (decode dsX12_doneAt_90 5 = .ok (.iinc 4 1, 3) ∧ okop dsX12_doneAt_90 5 = true) ∧ (decode dsX12_doneAt_90 8 = .ok (.goto (-56), 3) ∧ okop dsX12_doneAt_90 8 = true) ∧ (decode dsX12_doneAt_90 11 = .ok (.iload_n 3, 1) ∧ okop dsX12_doneAt_90 11 = true) ∧ (decode dsX12_doneAt_90 12 = .ok (.ifCond .eq 11, 3) ∧ okop dsX12_doneAt_90 12 = true) ∧ (decode dsX12_doneAt_90 15 = .ok (.aload_n 0, 1) ∧ okop dsX12_doneAt_90 15 = true) ∧ (decode dsX12_doneAt_90 16 = .ok (.iconst 2, 1) ∧ okop dsX12_doneAt_90 16 = true) ∧ (decode dsX12_doneAt_90 17 = .ok (.invokevirtual 143, 3) ∧ okop dsX12_doneAt_90 17 = true) := by decide +kernel
theorem dX12_doneAt_90 : decode cX12_doneAt 90 = .ok (.goto 4, 3) := dgq (p := 0) daX12_doneAt_90 dbX12_doneAt_90.1
theorem dX12_doneAt_93 : decode cX12_doneAt 93 = .ok (.iload_n 2, 1) := dgq (p := 3) daX12_doneAt_90 dbX12_doneAt_90.2.1
theorem dX12_doneAt_94 : decode cX12_doneAt 94 = .ok (.istore_n 2, 1) := dgq (p := 4) daX12_doneAt_90 dbX12_doneAt_90.2.2.1
theorem dX12_doneAt_95 : decode cX12_doneAt 95 = .ok (.iinc 4 1, 3) := dgq (p := 5) daX12_doneAt_90 dbX12_doneAt_90.2.2.2.1
theorem dX12_doneAt_98 : decode cX12_doneAt 98 = .ok (.goto (-56), 3) := dgq (p := 8) daX12_doneAt_90 dbX12_doneAt_90.2.2.2.2.1
theorem dX12_doneAt_101 : decode cX12_doneAt 101 = .ok (.iload_n 3, 1) := dgq (p := 11) daX12_doneAt_90 dbX12_doneAt_90.2.2.2.2.2.1
theorem dX12_doneAt_102 : decode cX12_doneAt 102 = .ok (.ifCond .eq 11, 3) := dgq (p := 12) daX12_doneAt_90 dbX12_doneAt_90.2.2.2.2.2.2.1
theorem dX12_doneAt_105 : decode cX12_doneAt 105 = .ok (.aload_n 0, 1) := dgq (p := 15) daX12_doneAt_90 dbX12_doneAt_90.2.2.2.2.2.2.2.1
theorem dX12_doneAt_106 : decode cX12_doneAt 106 = .ok (.iconst 2, 1) := dgq (p := 16) daX12_doneAt_90 dbX12_doneAt_90.2.2.2.2.2.2.2.2.1
theorem dX12_doneAt_107 : decode cX12_doneAt 107 = .ok (.invokevirtual 143, 3) := dgq (p := 17) daX12_doneAt_90 dbX12_doneAt_90.2.2.2.2.2.2.2.2.2
def dsX12_doneAt_110 : ByteArray := ⟨#[167, 0, 8, 42, 28, 182, 0, 153, 172]⟩
theorem daX12_doneAt_110 : agB cX12_doneAt dsX12_doneAt_110 110 := agB_of (n := 9) (by decide +kernel)
theorem dbX12_doneAt_110 : (decode dsX12_doneAt_110 0 = .ok (.goto 8, 3) ∧ okop dsX12_doneAt_110 0 = true) ∧ (decode dsX12_doneAt_110 3 = .ok (.aload_n 0, 1) ∧ okop dsX12_doneAt_110 3 = true) ∧ (decode dsX12_doneAt_110 4 = .ok (.iload_n 2, 1) ∧ okop dsX12_doneAt_110 4 = true) ∧ (decode dsX12_doneAt_110 5 = .ok (.invokevirtual 153, 3) ∧ okop dsX12_doneAt_110 5 = true) ∧ (decode dsX12_doneAt_110 8 = .ok (.ireturn, 1) ∧ okop dsX12_doneAt_110 8 = true) := by decide +kernel
theorem dX12_doneAt_110 : decode cX12_doneAt 110 = .ok (.goto 8, 3) := dgq (p := 0) daX12_doneAt_110 dbX12_doneAt_110.1
theorem dX12_doneAt_113 : decode cX12_doneAt 113 = .ok (.aload_n 0, 1) := dgq (p := 3) daX12_doneAt_110 dbX12_doneAt_110.2.1
theorem dX12_doneAt_114 : decode cX12_doneAt 114 = .ok (.iload_n 2, 1) := dgq (p := 4) daX12_doneAt_110 dbX12_doneAt_110.2.2.1
theorem dX12_doneAt_115 : decode cX12_doneAt 115 = .ok (.invokevirtual 153, 3) := dgq (p := 5) daX12_doneAt_110 dbX12_doneAt_110.2.2.2.1
theorem dX12_doneAt_118 : decode cX12_doneAt 118 = .ok (.ireturn, 1) := dgq (p := 8) daX12_doneAt_110 dbX12_doneAt_110.2.2.2.2
def dsX12_isOldBetter_0 : ByteArray := ⟨#[28, 184, 0, 215, 42, 180, 1, 241, 184, 0, 215, 159, 0, 23, 28, 184, 0, 215, 42, 180, 1, 241]⟩
theorem daX12_isOldBetter_0 : agB cX12_isOldBetter dsX12_isOldBetter_0 0 := agB_of (n := 22) (by decide +kernel)
theorem dbX12_isOldBetter_0 : (decode dsX12_isOldBetter_0 0 = .ok (.iload_n 2, 1) ∧ okop dsX12_isOldBetter_0 0 = true) ∧ (decode dsX12_isOldBetter_0 1 = .ok (.invokestatic 215, 3) ∧ okop dsX12_isOldBetter_0 1 = true) ∧ (decode dsX12_isOldBetter_0 4 = .ok (.aload_n 0, 1) ∧ okop dsX12_isOldBetter_0 4 = true) ∧ (decode dsX12_isOldBetter_0 5 = .ok (.getfield 497, 3) ∧ okop dsX12_isOldBetter_0 5 = true) ∧ (decode dsX12_isOldBetter_0 8 = .ok (.invokestatic 215, 3) ∧ okop dsX12_isOldBetter_0 8 = true) ∧ (decode dsX12_isOldBetter_0 11 = .ok (.if_icmp .eq 23, 3) ∧ okop dsX12_isOldBetter_0 11 = true) ∧ (decode dsX12_isOldBetter_0 14 = .ok (.iload_n 2, 1) ∧ okop dsX12_isOldBetter_0 14 = true) ∧ (decode dsX12_isOldBetter_0 15 = .ok (.invokestatic 215, 3) ∧ okop dsX12_isOldBetter_0 15 = true) ∧ (decode dsX12_isOldBetter_0 18 = .ok (.aload_n 0, 1) ∧ okop dsX12_isOldBetter_0 18 = true) ∧ (decode dsX12_isOldBetter_0 19 = .ok (.getfield 497, 3) ∧ okop dsX12_isOldBetter_0 19 = true) := by decide +kernel
theorem dX12_isOldBetter_0 : decode cX12_isOldBetter 0 = .ok (.iload_n 2, 1) := dgq (p := 0) daX12_isOldBetter_0 dbX12_isOldBetter_0.1
theorem dX12_isOldBetter_1 : decode cX12_isOldBetter 1 = .ok (.invokestatic 215, 3) := dgq (p := 1) daX12_isOldBetter_0 dbX12_isOldBetter_0.2.1
theorem dX12_isOldBetter_4 : decode cX12_isOldBetter 4 = .ok (.aload_n 0, 1) := dgq (p := 4) daX12_isOldBetter_0 dbX12_isOldBetter_0.2.2.1
theorem dX12_isOldBetter_5 : decode cX12_isOldBetter 5 = .ok (.getfield 497, 3) := dgq (p := 5) daX12_isOldBetter_0 dbX12_isOldBetter_0.2.2.2.1
theorem dX12_isOldBetter_8 : decode cX12_isOldBetter 8 = .ok (.invokestatic 215, 3) := dgq (p := 8) daX12_isOldBetter_0 dbX12_isOldBetter_0.2.2.2.2.1
theorem dX12_isOldBetter_11 : decode cX12_isOldBetter 11 = .ok (.if_icmp .eq 23, 3) := dgq (p := 11) daX12_isOldBetter_0 dbX12_isOldBetter_0.2.2.2.2.2.1
theorem dX12_isOldBetter_14 : decode cX12_isOldBetter 14 = .ok (.iload_n 2, 1) := dgq (p := 14) daX12_isOldBetter_0 dbX12_isOldBetter_0.2.2.2.2.2.2.1
theorem dX12_isOldBetter_15 : decode cX12_isOldBetter 15 = .ok (.invokestatic 215, 3) := dgq (p := 15) daX12_isOldBetter_0 dbX12_isOldBetter_0.2.2.2.2.2.2.2.1
theorem dX12_isOldBetter_18 : decode cX12_isOldBetter 18 = .ok (.aload_n 0, 1) := dgq (p := 18) daX12_isOldBetter_0 dbX12_isOldBetter_0.2.2.2.2.2.2.2.2.1
theorem dX12_isOldBetter_19 : decode cX12_isOldBetter 19 = .ok (.getfield 497, 3) := dgq (p := 19) daX12_isOldBetter_0 dbX12_isOldBetter_0.2.2.2.2.2.2.2.2.2
def dsX12_isOldBetter_22 : ByteArray := ⟨#[184, 0, 215, 162, 0, 7, 4, 167, 0, 4, 3, 172, 33, 22, 5, 148, 153, 0, 16]⟩
theorem daX12_isOldBetter_22 : agB cX12_isOldBetter dsX12_isOldBetter_22 22 := agB_of (n := 19) (by decide +kernel)
theorem dbX12_isOldBetter_22 : (decode dsX12_isOldBetter_22 0 = .ok (.invokestatic 215, 3) ∧ okop dsX12_isOldBetter_22 0 = true) ∧ (decode dsX12_isOldBetter_22 3 = .ok (.if_icmp .ge 7, 3) ∧ okop dsX12_isOldBetter_22 3 = true) ∧ (decode dsX12_isOldBetter_22 6 = .ok (.iconst 1, 1) ∧ okop dsX12_isOldBetter_22 6 = true) ∧ (decode dsX12_isOldBetter_22 7 = .ok (.goto 4, 3) ∧ okop dsX12_isOldBetter_22 7 = true) ∧ (decode dsX12_isOldBetter_22 10 = .ok (.iconst 0, 1) ∧ okop dsX12_isOldBetter_22 10 = true) ∧ (decode dsX12_isOldBetter_22 11 = .ok (.ireturn, 1) ∧ okop dsX12_isOldBetter_22 11 = true) ∧ (decode dsX12_isOldBetter_22 12 = .ok (.lload_n 3, 1) ∧ okop dsX12_isOldBetter_22 12 = true) ∧ (decode dsX12_isOldBetter_22 13 = .ok (.lload 5, 2) ∧ okop dsX12_isOldBetter_22 13 = true) ∧ (decode dsX12_isOldBetter_22 15 = .ok (.lcmp, 1) ∧ okop dsX12_isOldBetter_22 15 = true) ∧ (decode dsX12_isOldBetter_22 16 = .ok (.ifCond .eq 16, 3) ∧ okop dsX12_isOldBetter_22 16 = true) := by decide +kernel
theorem dX12_isOldBetter_22 : decode cX12_isOldBetter 22 = .ok (.invokestatic 215, 3) := dgq (p := 0) daX12_isOldBetter_22 dbX12_isOldBetter_22.1
theorem dX12_isOldBetter_25 : decode cX12_isOldBetter 25 = .ok (.if_icmp .ge 7, 3) := dgq (p := 3) daX12_isOldBetter_22 dbX12_isOldBetter_22.2.1
theorem dX12_isOldBetter_28 : decode cX12_isOldBetter 28 = .ok (.iconst 1, 1) := dgq (p := 6) daX12_isOldBetter_22 dbX12_isOldBetter_22.2.2.1
theorem dX12_isOldBetter_29 : decode cX12_isOldBetter 29 = .ok (.goto 4, 3) := dgq (p := 7) daX12_isOldBetter_22 dbX12_isOldBetter_22.2.2.2.1
theorem dX12_isOldBetter_32 : decode cX12_isOldBetter 32 = .ok (.iconst 0, 1) := dgq (p := 10) daX12_isOldBetter_22 dbX12_isOldBetter_22.2.2.2.2.1
theorem dX12_isOldBetter_33 : decode cX12_isOldBetter 33 = .ok (.ireturn, 1) := dgq (p := 11) daX12_isOldBetter_22 dbX12_isOldBetter_22.2.2.2.2.2.1
theorem dX12_isOldBetter_34 : decode cX12_isOldBetter 34 = .ok (.lload_n 3, 1) := dgq (p := 12) daX12_isOldBetter_22 dbX12_isOldBetter_22.2.2.2.2.2.2.1
theorem dX12_isOldBetter_35 : decode cX12_isOldBetter 35 = .ok (.lload 5, 2) := dgq (p := 13) daX12_isOldBetter_22 dbX12_isOldBetter_22.2.2.2.2.2.2.2.1
theorem dX12_isOldBetter_37 : decode cX12_isOldBetter 37 = .ok (.lcmp, 1) := dgq (p := 15) daX12_isOldBetter_22 dbX12_isOldBetter_22.2.2.2.2.2.2.2.2.1
theorem dX12_isOldBetter_38 : decode cX12_isOldBetter 38 = .ok (.ifCond .eq 16, 3) := dgq (p := 16) daX12_isOldBetter_22 dbX12_isOldBetter_22.2.2.2.2.2.2.2.2.2
def dsX12_isOldBetter_41 : ByteArray := ⟨#[33, 22, 5, 148, 156, 0, 7, 4, 167, 0, 4, 3, 172, 27, 42]⟩
theorem daX12_isOldBetter_41 : agB cX12_isOldBetter dsX12_isOldBetter_41 41 := agB_of (n := 15) (by decide +kernel)
theorem dbX12_isOldBetter_41 : (decode dsX12_isOldBetter_41 0 = .ok (.lload_n 3, 1) ∧ okop dsX12_isOldBetter_41 0 = true) ∧ (decode dsX12_isOldBetter_41 1 = .ok (.lload 5, 2) ∧ okop dsX12_isOldBetter_41 1 = true) ∧ (decode dsX12_isOldBetter_41 3 = .ok (.lcmp, 1) ∧ okop dsX12_isOldBetter_41 3 = true) ∧ (decode dsX12_isOldBetter_41 4 = .ok (.ifCond .ge 7, 3) ∧ okop dsX12_isOldBetter_41 4 = true) ∧ (decode dsX12_isOldBetter_41 7 = .ok (.iconst 1, 1) ∧ okop dsX12_isOldBetter_41 7 = true) ∧ (decode dsX12_isOldBetter_41 8 = .ok (.goto 4, 3) ∧ okop dsX12_isOldBetter_41 8 = true) ∧ (decode dsX12_isOldBetter_41 11 = .ok (.iconst 0, 1) ∧ okop dsX12_isOldBetter_41 11 = true) ∧ (decode dsX12_isOldBetter_41 12 = .ok (.ireturn, 1) ∧ okop dsX12_isOldBetter_41 12 = true) ∧ (decode dsX12_isOldBetter_41 13 = .ok (.iload_n 1, 1) ∧ okop dsX12_isOldBetter_41 13 = true) ∧ (decode dsX12_isOldBetter_41 14 = .ok (.aload_n 0, 1) ∧ okop dsX12_isOldBetter_41 14 = true) := by decide +kernel
theorem dX12_isOldBetter_41 : decode cX12_isOldBetter 41 = .ok (.lload_n 3, 1) := dgq (p := 0) daX12_isOldBetter_41 dbX12_isOldBetter_41.1
theorem dX12_isOldBetter_42 : decode cX12_isOldBetter 42 = .ok (.lload 5, 2) := dgq (p := 1) daX12_isOldBetter_41 dbX12_isOldBetter_41.2.1
theorem dX12_isOldBetter_44 : decode cX12_isOldBetter 44 = .ok (.lcmp, 1) := dgq (p := 3) daX12_isOldBetter_41 dbX12_isOldBetter_41.2.2.1
theorem dX12_isOldBetter_45 : decode cX12_isOldBetter 45 = .ok (.ifCond .ge 7, 3) := dgq (p := 4) daX12_isOldBetter_41 dbX12_isOldBetter_41.2.2.2.1
theorem dX12_isOldBetter_48 : decode cX12_isOldBetter 48 = .ok (.iconst 1, 1) := dgq (p := 7) daX12_isOldBetter_41 dbX12_isOldBetter_41.2.2.2.2.1
theorem dX12_isOldBetter_49 : decode cX12_isOldBetter 49 = .ok (.goto 4, 3) := dgq (p := 8) daX12_isOldBetter_41 dbX12_isOldBetter_41.2.2.2.2.2.1
theorem dX12_isOldBetter_52 : decode cX12_isOldBetter 52 = .ok (.iconst 0, 1) := dgq (p := 11) daX12_isOldBetter_41 dbX12_isOldBetter_41.2.2.2.2.2.2.1
theorem dX12_isOldBetter_53 : decode cX12_isOldBetter 53 = .ok (.ireturn, 1) := dgq (p := 12) daX12_isOldBetter_41 dbX12_isOldBetter_41.2.2.2.2.2.2.2.1
theorem dX12_isOldBetter_54 : decode cX12_isOldBetter 54 = .ok (.iload_n 1, 1) := dgq (p := 13) daX12_isOldBetter_41 dbX12_isOldBetter_41.2.2.2.2.2.2.2.2.1
theorem dX12_isOldBetter_55 : decode cX12_isOldBetter 55 = .ok (.aload_n 0, 1) := dgq (p := 14) daX12_isOldBetter_41 dbX12_isOldBetter_41.2.2.2.2.2.2.2.2.2
def dsX12_isOldBetter_56 : ByteArray := ⟨#[180, 1, 244, 159, 0, 19, 27, 42, 180, 1, 244, 162, 0, 7, 4, 167, 0, 20, 3, 167, 0, 16]⟩
theorem daX12_isOldBetter_56 : agB cX12_isOldBetter dsX12_isOldBetter_56 56 := agB_of (n := 22) (by decide +kernel)
theorem dbX12_isOldBetter_56 : (decode dsX12_isOldBetter_56 0 = .ok (.getfield 500, 3) ∧ okop dsX12_isOldBetter_56 0 = true) ∧ (decode dsX12_isOldBetter_56 3 = .ok (.if_icmp .eq 19, 3) ∧ okop dsX12_isOldBetter_56 3 = true) ∧ (decode dsX12_isOldBetter_56 6 = .ok (.iload_n 1, 1) ∧ okop dsX12_isOldBetter_56 6 = true) ∧ (decode dsX12_isOldBetter_56 7 = .ok (.aload_n 0, 1) ∧ okop dsX12_isOldBetter_56 7 = true) ∧ (decode dsX12_isOldBetter_56 8 = .ok (.getfield 500, 3) ∧ okop dsX12_isOldBetter_56 8 = true) ∧ (decode dsX12_isOldBetter_56 11 = .ok (.if_icmp .ge 7, 3) ∧ okop dsX12_isOldBetter_56 11 = true) ∧ (decode dsX12_isOldBetter_56 14 = .ok (.iconst 1, 1) ∧ okop dsX12_isOldBetter_56 14 = true) ∧ (decode dsX12_isOldBetter_56 15 = .ok (.goto 20, 3) ∧ okop dsX12_isOldBetter_56 15 = true) ∧ (decode dsX12_isOldBetter_56 18 = .ok (.iconst 0, 1) ∧ okop dsX12_isOldBetter_56 18 = true) ∧ (decode dsX12_isOldBetter_56 19 = .ok (.goto 16, 3) ∧ okop dsX12_isOldBetter_56 19 = true) := by decide +kernel
theorem dX12_isOldBetter_56 : decode cX12_isOldBetter 56 = .ok (.getfield 500, 3) := dgq (p := 0) daX12_isOldBetter_56 dbX12_isOldBetter_56.1
theorem dX12_isOldBetter_59 : decode cX12_isOldBetter 59 = .ok (.if_icmp .eq 19, 3) := dgq (p := 3) daX12_isOldBetter_56 dbX12_isOldBetter_56.2.1
theorem dX12_isOldBetter_62 : decode cX12_isOldBetter 62 = .ok (.iload_n 1, 1) := dgq (p := 6) daX12_isOldBetter_56 dbX12_isOldBetter_56.2.2.1
theorem dX12_isOldBetter_63 : decode cX12_isOldBetter 63 = .ok (.aload_n 0, 1) := dgq (p := 7) daX12_isOldBetter_56 dbX12_isOldBetter_56.2.2.2.1
theorem dX12_isOldBetter_64 : decode cX12_isOldBetter 64 = .ok (.getfield 500, 3) := dgq (p := 8) daX12_isOldBetter_56 dbX12_isOldBetter_56.2.2.2.2.1
theorem dX12_isOldBetter_67 : decode cX12_isOldBetter 67 = .ok (.if_icmp .ge 7, 3) := dgq (p := 11) daX12_isOldBetter_56 dbX12_isOldBetter_56.2.2.2.2.2.1
theorem dX12_isOldBetter_70 : decode cX12_isOldBetter 70 = .ok (.iconst 1, 1) := dgq (p := 14) daX12_isOldBetter_56 dbX12_isOldBetter_56.2.2.2.2.2.2.1
theorem dX12_isOldBetter_71 : decode cX12_isOldBetter 71 = .ok (.goto 20, 3) := dgq (p := 15) daX12_isOldBetter_56 dbX12_isOldBetter_56.2.2.2.2.2.2.2.1
theorem dX12_isOldBetter_74 : decode cX12_isOldBetter 74 = .ok (.iconst 0, 1) := dgq (p := 18) daX12_isOldBetter_56 dbX12_isOldBetter_56.2.2.2.2.2.2.2.2.1
theorem dX12_isOldBetter_75 : decode cX12_isOldBetter 75 = .ok (.goto 16, 3) := dgq (p := 19) daX12_isOldBetter_56 dbX12_isOldBetter_56.2.2.2.2.2.2.2.2.2
def dsX12_isOldBetter_78 : ByteArray := ⟨#[28, 42, 180, 1, 241, 164, 0, 7, 4, 167, 0, 4, 3, 172]⟩
theorem daX12_isOldBetter_78 : agB cX12_isOldBetter dsX12_isOldBetter_78 78 := agB_of (n := 14) (by decide +kernel)
theorem dbX12_isOldBetter_78 : (decode dsX12_isOldBetter_78 0 = .ok (.iload_n 2, 1) ∧ okop dsX12_isOldBetter_78 0 = true) ∧ (decode dsX12_isOldBetter_78 1 = .ok (.aload_n 0, 1) ∧ okop dsX12_isOldBetter_78 1 = true) ∧ (decode dsX12_isOldBetter_78 2 = .ok (.getfield 497, 3) ∧ okop dsX12_isOldBetter_78 2 = true) ∧ (decode dsX12_isOldBetter_78 5 = .ok (.if_icmp .le 7, 3) ∧ okop dsX12_isOldBetter_78 5 = true) ∧ (decode dsX12_isOldBetter_78 8 = .ok (.iconst 1, 1) ∧ okop dsX12_isOldBetter_78 8 = true) ∧ (decode dsX12_isOldBetter_78 9 = .ok (.goto 4, 3) ∧ okop dsX12_isOldBetter_78 9 = true) ∧ (decode dsX12_isOldBetter_78 12 = .ok (.iconst 0, 1) ∧ okop dsX12_isOldBetter_78 12 = true) ∧ (decode dsX12_isOldBetter_78 13 = .ok (.ireturn, 1) ∧ okop dsX12_isOldBetter_78 13 = true) := by decide +kernel
theorem dX12_isOldBetter_78 : decode cX12_isOldBetter 78 = .ok (.iload_n 2, 1) := dgq (p := 0) daX12_isOldBetter_78 dbX12_isOldBetter_78.1
theorem dX12_isOldBetter_79 : decode cX12_isOldBetter 79 = .ok (.aload_n 0, 1) := dgq (p := 1) daX12_isOldBetter_78 dbX12_isOldBetter_78.2.1
theorem dX12_isOldBetter_80 : decode cX12_isOldBetter 80 = .ok (.getfield 497, 3) := dgq (p := 2) daX12_isOldBetter_78 dbX12_isOldBetter_78.2.2.1
theorem dX12_isOldBetter_83 : decode cX12_isOldBetter 83 = .ok (.if_icmp .le 7, 3) := dgq (p := 5) daX12_isOldBetter_78 dbX12_isOldBetter_78.2.2.2.1
theorem dX12_isOldBetter_86 : decode cX12_isOldBetter 86 = .ok (.iconst 1, 1) := dgq (p := 8) daX12_isOldBetter_78 dbX12_isOldBetter_78.2.2.2.2.1
theorem dX12_isOldBetter_87 : decode cX12_isOldBetter 87 = .ok (.goto 4, 3) := dgq (p := 9) daX12_isOldBetter_78 dbX12_isOldBetter_78.2.2.2.2.2.1
theorem dX12_isOldBetter_90 : decode cX12_isOldBetter 90 = .ok (.iconst 0, 1) := dgq (p := 12) daX12_isOldBetter_78 dbX12_isOldBetter_78.2.2.2.2.2.2.1
theorem dX12_isOldBetter_91 : decode cX12_isOldBetter 91 = .ok (.ireturn, 1) := dgq (p := 13) daX12_isOldBetter_78 dbX12_isOldBetter_78.2.2.2.2.2.2.2
set_option maxRecDepth 20000 in
theorem ggX12_isMeant_X12_isOldBetter : GoodIn wsX12_isMeant wsX12_isOldBetter := goodIn_ca (goodIn_q _ [10, 11, 12, 13, 14, 5, 4] rfl (by decide +kernel)) (goodIn_sub (fun _ h => (List.mem_cons_of_mem _ (List.mem_append_right _ h))) tg_wsX120)
set_option maxRecDepth 20000 in
theorem gX12_isMeant_X12_isOldBetter : GoodIn wsX12_isMeant (wsV RX12 503 RX12 yX12_isOldBetter wsX12_isOldBetter) := goodIn_app (goodIn_q _ [6, 7, 8, 9] rfl (by decide +kernel)) ggX12_isMeant_X12_isOldBetter
def dsX12_isMeant_0 : ByteArray := ⟨#[20, 1, 79, 55, 4, 17, 1, 244, 54, 6, 21, 6, 17, 39, 16, 163, 0, 121, 16, 206, 54, 7, 21, 7]⟩
theorem daX12_isMeant_0 : agB cX12_isMeant dsX12_isMeant_0 0 := agB_of (n := 24) (by decide +kernel)
theorem dbX12_isMeant_0 : (decode dsX12_isMeant_0 0 = .ok (.ldc2_w 335, 3) ∧ okop dsX12_isMeant_0 0 = true) ∧ (decode dsX12_isMeant_0 3 = .ok (.lstore 4, 2) ∧ okop dsX12_isMeant_0 3 = true) ∧ (decode dsX12_isMeant_0 5 = .ok (.sipush 500, 3) ∧ okop dsX12_isMeant_0 5 = true) ∧ (decode dsX12_isMeant_0 8 = .ok (.istore 6, 2) ∧ okop dsX12_isMeant_0 8 = true) ∧ (decode dsX12_isMeant_0 10 = .ok (.iload 6, 2) ∧ okop dsX12_isMeant_0 10 = true) ∧ (decode dsX12_isMeant_0 12 = .ok (.sipush 10000, 3) ∧ okop dsX12_isMeant_0 12 = true) ∧ (decode dsX12_isMeant_0 15 = .ok (.if_icmp .gt 121, 3) ∧ okop dsX12_isMeant_0 15 = true) ∧ (decode dsX12_isMeant_0 18 = .ok (.bipush (-50), 2) ∧ okop dsX12_isMeant_0 18 = true) ∧ (decode dsX12_isMeant_0 20 = .ok (.istore 7, 2) ∧ okop dsX12_isMeant_0 20 = true) ∧ (decode dsX12_isMeant_0 22 = .ok (.iload 7, 2) ∧ okop dsX12_isMeant_0 22 = true) := by decide +kernel
theorem dX12_isMeant_0 : decode cX12_isMeant 0 = .ok (.ldc2_w 335, 3) := dgq (p := 0) daX12_isMeant_0 dbX12_isMeant_0.1
theorem dX12_isMeant_3 : decode cX12_isMeant 3 = .ok (.lstore 4, 2) := dgq (p := 3) daX12_isMeant_0 dbX12_isMeant_0.2.1
theorem dX12_isMeant_5 : decode cX12_isMeant 5 = .ok (.sipush 500, 3) := dgq (p := 5) daX12_isMeant_0 dbX12_isMeant_0.2.2.1
theorem dX12_isMeant_8 : decode cX12_isMeant 8 = .ok (.istore 6, 2) := dgq (p := 8) daX12_isMeant_0 dbX12_isMeant_0.2.2.2.1
theorem dX12_isMeant_10 : decode cX12_isMeant 10 = .ok (.iload 6, 2) := dgq (p := 10) daX12_isMeant_0 dbX12_isMeant_0.2.2.2.2.1
theorem dX12_isMeant_12 : decode cX12_isMeant 12 = .ok (.sipush 10000, 3) := dgq (p := 12) daX12_isMeant_0 dbX12_isMeant_0.2.2.2.2.2.1
theorem dX12_isMeant_15 : decode cX12_isMeant 15 = .ok (.if_icmp .gt 121, 3) := dgq (p := 15) daX12_isMeant_0 dbX12_isMeant_0.2.2.2.2.2.2.1
theorem dX12_isMeant_18 : decode cX12_isMeant 18 = .ok (.bipush (-50), 2) := dgq (p := 18) daX12_isMeant_0 dbX12_isMeant_0.2.2.2.2.2.2.2.1
theorem dX12_isMeant_20 : decode cX12_isMeant 20 = .ok (.istore 7, 2) := dgq (p := 20) daX12_isMeant_0 dbX12_isMeant_0.2.2.2.2.2.2.2.2.1
theorem dX12_isMeant_22 : decode cX12_isMeant 22 = .ok (.iload 7, 2) := dgq (p := 22) daX12_isMeant_0 dbX12_isMeant_0.2.2.2.2.2.2.2.2.2
def dsX12_isMeant_24 : ByteArray := ⟨#[16, 50, 163, 0, 101, 27, 133, 21, 6, 133, 105, 20, 0, 3, 21, 6, 133]⟩
theorem daX12_isMeant_24 : agB cX12_isMeant dsX12_isMeant_24 24 := agB_of (n := 17) (by decide +kernel)
theorem dbX12_isMeant_24 : (decode dsX12_isMeant_24 0 = .ok (.bipush 50, 2) ∧ okop dsX12_isMeant_24 0 = true) ∧ (decode dsX12_isMeant_24 2 = .ok (.if_icmp .gt 101, 3) ∧ okop dsX12_isMeant_24 2 = true) ∧ (decode dsX12_isMeant_24 5 = .ok (.iload_n 1, 1) ∧ okop dsX12_isMeant_24 5 = true) ∧ (decode dsX12_isMeant_24 6 = .ok (.i2l, 1) ∧ okop dsX12_isMeant_24 6 = true) ∧ (decode dsX12_isMeant_24 7 = .ok (.iload 6, 2) ∧ okop dsX12_isMeant_24 7 = true) ∧ (decode dsX12_isMeant_24 9 = .ok (.i2l, 1) ∧ okop dsX12_isMeant_24 9 = true) ∧ (decode dsX12_isMeant_24 10 = .ok (.lmul, 1) ∧ okop dsX12_isMeant_24 10 = true) ∧ (decode dsX12_isMeant_24 11 = .ok (.ldc2_w 3, 3) ∧ okop dsX12_isMeant_24 11 = true) ∧ (decode dsX12_isMeant_24 14 = .ok (.iload 6, 2) ∧ okop dsX12_isMeant_24 14 = true) ∧ (decode dsX12_isMeant_24 16 = .ok (.i2l, 1) ∧ okop dsX12_isMeant_24 16 = true) := by decide +kernel
theorem dX12_isMeant_24 : decode cX12_isMeant 24 = .ok (.bipush 50, 2) := dgq (p := 0) daX12_isMeant_24 dbX12_isMeant_24.1
theorem dX12_isMeant_26 : decode cX12_isMeant 26 = .ok (.if_icmp .gt 101, 3) := dgq (p := 2) daX12_isMeant_24 dbX12_isMeant_24.2.1
theorem dX12_isMeant_29 : decode cX12_isMeant 29 = .ok (.iload_n 1, 1) := dgq (p := 5) daX12_isMeant_24 dbX12_isMeant_24.2.2.1
theorem dX12_isMeant_30 : decode cX12_isMeant 30 = .ok (.i2l, 1) := dgq (p := 6) daX12_isMeant_24 dbX12_isMeant_24.2.2.2.1
theorem dX12_isMeant_31 : decode cX12_isMeant 31 = .ok (.iload 6, 2) := dgq (p := 7) daX12_isMeant_24 dbX12_isMeant_24.2.2.2.2.1
theorem dX12_isMeant_33 : decode cX12_isMeant 33 = .ok (.i2l, 1) := dgq (p := 9) daX12_isMeant_24 dbX12_isMeant_24.2.2.2.2.2.1
theorem dX12_isMeant_34 : decode cX12_isMeant 34 = .ok (.lmul, 1) := dgq (p := 10) daX12_isMeant_24 dbX12_isMeant_24.2.2.2.2.2.2.1
theorem dX12_isMeant_35 : decode cX12_isMeant 35 = .ok (.ldc2_w 3, 3) := dgq (p := 11) daX12_isMeant_24 dbX12_isMeant_24.2.2.2.2.2.2.2.1
theorem dX12_isMeant_38 : decode cX12_isMeant 38 = .ok (.iload 6, 2) := dgq (p := 14) daX12_isMeant_24 dbX12_isMeant_24.2.2.2.2.2.2.2.2.1
theorem dX12_isMeant_40 : decode cX12_isMeant 40 = .ok (.i2l, 1) := dgq (p := 16) daX12_isMeant_24 dbX12_isMeant_24.2.2.2.2.2.2.2.2.2
def dsX12_isMeant_41 : ByteArray := ⟨#[105, 97, 20, 0, 3, 21, 7, 133, 105, 21, 6, 133, 105, 20, 0, 158]⟩
theorem daX12_isMeant_41 : agB cX12_isMeant dsX12_isMeant_41 41 := agB_of (n := 16) (by decide +kernel)
theorem dbX12_isMeant_41 : (decode dsX12_isMeant_41 0 = .ok (.lmul, 1) ∧ okop dsX12_isMeant_41 0 = true) ∧ (decode dsX12_isMeant_41 1 = .ok (.ladd, 1) ∧ okop dsX12_isMeant_41 1 = true) ∧ (decode dsX12_isMeant_41 2 = .ok (.ldc2_w 3, 3) ∧ okop dsX12_isMeant_41 2 = true) ∧ (decode dsX12_isMeant_41 5 = .ok (.iload 7, 2) ∧ okop dsX12_isMeant_41 5 = true) ∧ (decode dsX12_isMeant_41 7 = .ok (.i2l, 1) ∧ okop dsX12_isMeant_41 7 = true) ∧ (decode dsX12_isMeant_41 8 = .ok (.lmul, 1) ∧ okop dsX12_isMeant_41 8 = true) ∧ (decode dsX12_isMeant_41 9 = .ok (.iload 6, 2) ∧ okop dsX12_isMeant_41 9 = true) ∧ (decode dsX12_isMeant_41 11 = .ok (.i2l, 1) ∧ okop dsX12_isMeant_41 11 = true) ∧ (decode dsX12_isMeant_41 12 = .ok (.lmul, 1) ∧ okop dsX12_isMeant_41 12 = true) ∧ (decode dsX12_isMeant_41 13 = .ok (.ldc2_w 158, 3) ∧ okop dsX12_isMeant_41 13 = true) := by decide +kernel
theorem dX12_isMeant_41 : decode cX12_isMeant 41 = .ok (.lmul, 1) := dgq (p := 0) daX12_isMeant_41 dbX12_isMeant_41.1
theorem dX12_isMeant_42 : decode cX12_isMeant 42 = .ok (.ladd, 1) := dgq (p := 1) daX12_isMeant_41 dbX12_isMeant_41.2.1
theorem dX12_isMeant_43 : decode cX12_isMeant 43 = .ok (.ldc2_w 3, 3) := dgq (p := 2) daX12_isMeant_41 dbX12_isMeant_41.2.2.1
theorem dX12_isMeant_46 : decode cX12_isMeant 46 = .ok (.iload 7, 2) := dgq (p := 5) daX12_isMeant_41 dbX12_isMeant_41.2.2.2.1
theorem dX12_isMeant_48 : decode cX12_isMeant 48 = .ok (.i2l, 1) := dgq (p := 7) daX12_isMeant_41 dbX12_isMeant_41.2.2.2.2.1
theorem dX12_isMeant_49 : decode cX12_isMeant 49 = .ok (.lmul, 1) := dgq (p := 8) daX12_isMeant_41 dbX12_isMeant_41.2.2.2.2.2.1
theorem dX12_isMeant_50 : decode cX12_isMeant 50 = .ok (.iload 6, 2) := dgq (p := 9) daX12_isMeant_41 dbX12_isMeant_41.2.2.2.2.2.2.1
theorem dX12_isMeant_52 : decode cX12_isMeant 52 = .ok (.i2l, 1) := dgq (p := 11) daX12_isMeant_41 dbX12_isMeant_41.2.2.2.2.2.2.2.1
theorem dX12_isMeant_53 : decode cX12_isMeant 53 = .ok (.lmul, 1) := dgq (p := 12) daX12_isMeant_41 dbX12_isMeant_41.2.2.2.2.2.2.2.2.1
theorem dX12_isMeant_54 : decode cX12_isMeant 54 = .ok (.ldc2_w 158, 3) := dgq (p := 13) daX12_isMeant_41 dbX12_isMeant_41.2.2.2.2.2.2.2.2.2
def dsX12_isMeant_57 : ByteArray := ⟨#[109, 97, 55, 8, 22, 8, 28, 133, 148, 155, 0, 55, 22, 8, 28]⟩
theorem daX12_isMeant_57 : agB cX12_isMeant dsX12_isMeant_57 57 := agB_of (n := 15) (by decide +kernel)
theorem dbX12_isMeant_57 : (decode dsX12_isMeant_57 0 = .ok (.ldiv, 1) ∧ okop dsX12_isMeant_57 0 = true) ∧ (decode dsX12_isMeant_57 1 = .ok (.ladd, 1) ∧ okop dsX12_isMeant_57 1 = true) ∧ (decode dsX12_isMeant_57 2 = .ok (.lstore 8, 2) ∧ okop dsX12_isMeant_57 2 = true) ∧ (decode dsX12_isMeant_57 4 = .ok (.lload 8, 2) ∧ okop dsX12_isMeant_57 4 = true) ∧ (decode dsX12_isMeant_57 6 = .ok (.iload_n 2, 1) ∧ okop dsX12_isMeant_57 6 = true) ∧ (decode dsX12_isMeant_57 7 = .ok (.i2l, 1) ∧ okop dsX12_isMeant_57 7 = true) ∧ (decode dsX12_isMeant_57 8 = .ok (.lcmp, 1) ∧ okop dsX12_isMeant_57 8 = true) ∧ (decode dsX12_isMeant_57 9 = .ok (.ifCond .lt 55, 3) ∧ okop dsX12_isMeant_57 9 = true) ∧ (decode dsX12_isMeant_57 12 = .ok (.lload 8, 2) ∧ okop dsX12_isMeant_57 12 = true) ∧ (decode dsX12_isMeant_57 14 = .ok (.iload_n 2, 1) ∧ okop dsX12_isMeant_57 14 = true) := by decide +kernel
theorem dX12_isMeant_57 : decode cX12_isMeant 57 = .ok (.ldiv, 1) := dgq (p := 0) daX12_isMeant_57 dbX12_isMeant_57.1
theorem dX12_isMeant_58 : decode cX12_isMeant 58 = .ok (.ladd, 1) := dgq (p := 1) daX12_isMeant_57 dbX12_isMeant_57.2.1
theorem dX12_isMeant_59 : decode cX12_isMeant 59 = .ok (.lstore 8, 2) := dgq (p := 2) daX12_isMeant_57 dbX12_isMeant_57.2.2.1
theorem dX12_isMeant_61 : decode cX12_isMeant 61 = .ok (.lload 8, 2) := dgq (p := 4) daX12_isMeant_57 dbX12_isMeant_57.2.2.2.1
theorem dX12_isMeant_63 : decode cX12_isMeant 63 = .ok (.iload_n 2, 1) := dgq (p := 6) daX12_isMeant_57 dbX12_isMeant_57.2.2.2.2.1
theorem dX12_isMeant_64 : decode cX12_isMeant 64 = .ok (.i2l, 1) := dgq (p := 7) daX12_isMeant_57 dbX12_isMeant_57.2.2.2.2.2.1
theorem dX12_isMeant_65 : decode cX12_isMeant 65 = .ok (.lcmp, 1) := dgq (p := 8) daX12_isMeant_57 dbX12_isMeant_57.2.2.2.2.2.2.1
theorem dX12_isMeant_66 : decode cX12_isMeant 66 = .ok (.ifCond .lt 55, 3) := dgq (p := 9) daX12_isMeant_57 dbX12_isMeant_57.2.2.2.2.2.2.2.1
theorem dX12_isMeant_69 : decode cX12_isMeant 69 = .ok (.lload 8, 2) := dgq (p := 12) daX12_isMeant_57 dbX12_isMeant_57.2.2.2.2.2.2.2.2.1
theorem dX12_isMeant_71 : decode cX12_isMeant 71 = .ok (.iload_n 2, 1) := dgq (p := 14) daX12_isMeant_57 dbX12_isMeant_57.2.2.2.2.2.2.2.2.2
def dsX12_isMeant_72 : ByteArray := ⟨#[133, 29, 133, 97, 148, 157, 0, 44, 22, 4, 9, 148, 155, 0, 21]⟩
theorem daX12_isMeant_72 : agB cX12_isMeant dsX12_isMeant_72 72 := agB_of (n := 15) (by decide +kernel)
theorem dbX12_isMeant_72 : (decode dsX12_isMeant_72 0 = .ok (.i2l, 1) ∧ okop dsX12_isMeant_72 0 = true) ∧ (decode dsX12_isMeant_72 1 = .ok (.iload_n 3, 1) ∧ okop dsX12_isMeant_72 1 = true) ∧ (decode dsX12_isMeant_72 2 = .ok (.i2l, 1) ∧ okop dsX12_isMeant_72 2 = true) ∧ (decode dsX12_isMeant_72 3 = .ok (.ladd, 1) ∧ okop dsX12_isMeant_72 3 = true) ∧ (decode dsX12_isMeant_72 4 = .ok (.lcmp, 1) ∧ okop dsX12_isMeant_72 4 = true) ∧ (decode dsX12_isMeant_72 5 = .ok (.ifCond .gt 44, 3) ∧ okop dsX12_isMeant_72 5 = true) ∧ (decode dsX12_isMeant_72 8 = .ok (.lload 4, 2) ∧ okop dsX12_isMeant_72 8 = true) ∧ (decode dsX12_isMeant_72 10 = .ok (.lconst 0, 1) ∧ okop dsX12_isMeant_72 10 = true) ∧ (decode dsX12_isMeant_72 11 = .ok (.lcmp, 1) ∧ okop dsX12_isMeant_72 11 = true) ∧ (decode dsX12_isMeant_72 12 = .ok (.ifCond .lt 21, 3) ∧ okop dsX12_isMeant_72 12 = true) := by decide +kernel
theorem dX12_isMeant_72 : decode cX12_isMeant 72 = .ok (.i2l, 1) := dgq (p := 0) daX12_isMeant_72 dbX12_isMeant_72.1
theorem dX12_isMeant_73 : decode cX12_isMeant 73 = .ok (.iload_n 3, 1) := dgq (p := 1) daX12_isMeant_72 dbX12_isMeant_72.2.1
theorem dX12_isMeant_74 : decode cX12_isMeant 74 = .ok (.i2l, 1) := dgq (p := 2) daX12_isMeant_72 dbX12_isMeant_72.2.2.1
theorem dX12_isMeant_75 : decode cX12_isMeant 75 = .ok (.ladd, 1) := dgq (p := 3) daX12_isMeant_72 dbX12_isMeant_72.2.2.2.1
theorem dX12_isMeant_76 : decode cX12_isMeant 76 = .ok (.lcmp, 1) := dgq (p := 4) daX12_isMeant_72 dbX12_isMeant_72.2.2.2.2.1
theorem dX12_isMeant_77 : decode cX12_isMeant 77 = .ok (.ifCond .gt 44, 3) := dgq (p := 5) daX12_isMeant_72 dbX12_isMeant_72.2.2.2.2.2.1
theorem dX12_isMeant_80 : decode cX12_isMeant 80 = .ok (.lload 4, 2) := dgq (p := 8) daX12_isMeant_72 dbX12_isMeant_72.2.2.2.2.2.2.1
theorem dX12_isMeant_82 : decode cX12_isMeant 82 = .ok (.lconst 0, 1) := dgq (p := 10) daX12_isMeant_72 dbX12_isMeant_72.2.2.2.2.2.2.2.1
theorem dX12_isMeant_83 : decode cX12_isMeant 83 = .ok (.lcmp, 1) := dgq (p := 11) daX12_isMeant_72 dbX12_isMeant_72.2.2.2.2.2.2.2.2.1
theorem dX12_isMeant_84 : decode cX12_isMeant 84 = .ok (.ifCond .lt 21, 3) := dgq (p := 12) daX12_isMeant_72 dbX12_isMeant_72.2.2.2.2.2.2.2.2.2
def dsX12_isMeant_87 : ByteArray := ⟨#[42, 21, 6, 21, 7, 22, 8, 22, 4, 182, 1, 247, 154, 0, 6, 167, 0, 19, 22, 8, 55, 4]⟩
theorem daX12_isMeant_87 : agB cX12_isMeant dsX12_isMeant_87 87 := agB_of (n := 22) (by decide +kernel)
theorem dbX12_isMeant_87 : (decode dsX12_isMeant_87 0 = .ok (.aload_n 0, 1) ∧ okop dsX12_isMeant_87 0 = true) ∧ (decode dsX12_isMeant_87 1 = .ok (.iload 6, 2) ∧ okop dsX12_isMeant_87 1 = true) ∧ (decode dsX12_isMeant_87 3 = .ok (.iload 7, 2) ∧ okop dsX12_isMeant_87 3 = true) ∧ (decode dsX12_isMeant_87 5 = .ok (.lload 8, 2) ∧ okop dsX12_isMeant_87 5 = true) ∧ (decode dsX12_isMeant_87 7 = .ok (.lload 4, 2) ∧ okop dsX12_isMeant_87 7 = true) ∧ (decode dsX12_isMeant_87 9 = .ok (.invokevirtual 503, 3) ∧ okop dsX12_isMeant_87 9 = true) ∧ (decode dsX12_isMeant_87 12 = .ok (.ifCond .ne 6, 3) ∧ okop dsX12_isMeant_87 12 = true) ∧ (decode dsX12_isMeant_87 15 = .ok (.goto 19, 3) ∧ okop dsX12_isMeant_87 15 = true) ∧ (decode dsX12_isMeant_87 18 = .ok (.lload 8, 2) ∧ okop dsX12_isMeant_87 18 = true) ∧ (decode dsX12_isMeant_87 20 = .ok (.lstore 4, 2) ∧ okop dsX12_isMeant_87 20 = true) := by decide +kernel
theorem dX12_isMeant_87 : decode cX12_isMeant 87 = .ok (.aload_n 0, 1) := dgq (p := 0) daX12_isMeant_87 dbX12_isMeant_87.1
theorem dX12_isMeant_88 : decode cX12_isMeant 88 = .ok (.iload 6, 2) := dgq (p := 1) daX12_isMeant_87 dbX12_isMeant_87.2.1
theorem dX12_isMeant_90 : decode cX12_isMeant 90 = .ok (.iload 7, 2) := dgq (p := 3) daX12_isMeant_87 dbX12_isMeant_87.2.2.1
theorem dX12_isMeant_92 : decode cX12_isMeant 92 = .ok (.lload 8, 2) := dgq (p := 5) daX12_isMeant_87 dbX12_isMeant_87.2.2.2.1
theorem dX12_isMeant_94 : decode cX12_isMeant 94 = .ok (.lload 4, 2) := dgq (p := 7) daX12_isMeant_87 dbX12_isMeant_87.2.2.2.2.1
theorem dX12_isMeant_96 : decode cX12_isMeant 96 = .ok (.invokevirtual 503, 3) := dgq (p := 9) daX12_isMeant_87 dbX12_isMeant_87.2.2.2.2.2.1
theorem dX12_isMeant_99 : decode cX12_isMeant 99 = .ok (.ifCond .ne 6, 3) := dgq (p := 12) daX12_isMeant_87 dbX12_isMeant_87.2.2.2.2.2.2.1
theorem dX12_isMeant_102 : decode cX12_isMeant 102 = .ok (.goto 19, 3) := dgq (p := 15) daX12_isMeant_87 dbX12_isMeant_87.2.2.2.2.2.2.2.1
theorem dX12_isMeant_105 : decode cX12_isMeant 105 = .ok (.lload 8, 2) := dgq (p := 18) daX12_isMeant_87 dbX12_isMeant_87.2.2.2.2.2.2.2.2.1
theorem dX12_isMeant_107 : decode cX12_isMeant 107 = .ok (.lstore 4, 2) := dgq (p := 20) daX12_isMeant_87 dbX12_isMeant_87.2.2.2.2.2.2.2.2.2
theorem dX12_isMeant_127 : decode cX12_isMeant 127 = .ok (.iinc 6 250, 6) := by decide +kernel
def dsX12_isMeant_109 : ByteArray := ⟨#[42, 21, 6, 181, 1, 244, 42, 21, 7, 181, 1, 241, 132, 7, 1, 167, 255, 154, 196, 132, 0, 6, 0, 250, 167, 255, 133, 22, 4]⟩
theorem daX12_isMeant_109 : agB cX12_isMeant dsX12_isMeant_109 109 := agB_of (n := 29) (by decide +kernel)
theorem dbX12_isMeant_109 : (decode dsX12_isMeant_109 0 = .ok (.aload_n 0, 1) ∧ okop dsX12_isMeant_109 0 = true) ∧ (decode dsX12_isMeant_109 1 = .ok (.iload 6, 2) ∧ okop dsX12_isMeant_109 1 = true) ∧ (decode dsX12_isMeant_109 3 = .ok (.putfield 500, 3) ∧ okop dsX12_isMeant_109 3 = true) ∧ (decode dsX12_isMeant_109 6 = .ok (.aload_n 0, 1) ∧ okop dsX12_isMeant_109 6 = true) ∧ (decode dsX12_isMeant_109 7 = .ok (.iload 7, 2) ∧ okop dsX12_isMeant_109 7 = true) ∧ (decode dsX12_isMeant_109 9 = .ok (.putfield 497, 3) ∧ okop dsX12_isMeant_109 9 = true) ∧ (decode dsX12_isMeant_109 12 = .ok (.iinc 7 1, 3) ∧ okop dsX12_isMeant_109 12 = true) ∧ (decode dsX12_isMeant_109 15 = .ok (.goto (-102), 3) ∧ okop dsX12_isMeant_109 15 = true) ∧ (decode dsX12_isMeant_109 24 = .ok (.goto (-123), 3) ∧ okop dsX12_isMeant_109 24 = true) ∧ (decode dsX12_isMeant_109 27 = .ok (.lload 4, 2) ∧ okop dsX12_isMeant_109 27 = true) := by decide +kernel
theorem dX12_isMeant_109 : decode cX12_isMeant 109 = .ok (.aload_n 0, 1) := dgq (p := 0) daX12_isMeant_109 dbX12_isMeant_109.1
theorem dX12_isMeant_110 : decode cX12_isMeant 110 = .ok (.iload 6, 2) := dgq (p := 1) daX12_isMeant_109 dbX12_isMeant_109.2.1
theorem dX12_isMeant_112 : decode cX12_isMeant 112 = .ok (.putfield 500, 3) := dgq (p := 3) daX12_isMeant_109 dbX12_isMeant_109.2.2.1
theorem dX12_isMeant_115 : decode cX12_isMeant 115 = .ok (.aload_n 0, 1) := dgq (p := 6) daX12_isMeant_109 dbX12_isMeant_109.2.2.2.1
theorem dX12_isMeant_116 : decode cX12_isMeant 116 = .ok (.iload 7, 2) := dgq (p := 7) daX12_isMeant_109 dbX12_isMeant_109.2.2.2.2.1
theorem dX12_isMeant_118 : decode cX12_isMeant 118 = .ok (.putfield 497, 3) := dgq (p := 9) daX12_isMeant_109 dbX12_isMeant_109.2.2.2.2.2.1
theorem dX12_isMeant_121 : decode cX12_isMeant 121 = .ok (.iinc 7 1, 3) := dgq (p := 12) daX12_isMeant_109 dbX12_isMeant_109.2.2.2.2.2.2.1
theorem dX12_isMeant_124 : decode cX12_isMeant 124 = .ok (.goto (-102), 3) := dgq (p := 15) daX12_isMeant_109 dbX12_isMeant_109.2.2.2.2.2.2.2.1
theorem dX12_isMeant_133 : decode cX12_isMeant 133 = .ok (.goto (-123), 3) := dgq (p := 24) daX12_isMeant_109 dbX12_isMeant_109.2.2.2.2.2.2.2.2.1
theorem dX12_isMeant_136 : decode cX12_isMeant 136 = .ok (.lload 4, 2) := dgq (p := 27) daX12_isMeant_109 dbX12_isMeant_109.2.2.2.2.2.2.2.2.2
def dsX12_isMeant_138 : ByteArray := ⟨#[9, 148, 155, 0, 7, 4, 167, 0, 4, 3, 172]⟩
theorem daX12_isMeant_138 : agB cX12_isMeant dsX12_isMeant_138 138 := agB_of (n := 11) (by decide +kernel)
theorem dbX12_isMeant_138 : (decode dsX12_isMeant_138 0 = .ok (.lconst 0, 1) ∧ okop dsX12_isMeant_138 0 = true) ∧ (decode dsX12_isMeant_138 1 = .ok (.lcmp, 1) ∧ okop dsX12_isMeant_138 1 = true) ∧ (decode dsX12_isMeant_138 2 = .ok (.ifCond .lt 7, 3) ∧ okop dsX12_isMeant_138 2 = true) ∧ (decode dsX12_isMeant_138 5 = .ok (.iconst 1, 1) ∧ okop dsX12_isMeant_138 5 = true) ∧ (decode dsX12_isMeant_138 6 = .ok (.goto 4, 3) ∧ okop dsX12_isMeant_138 6 = true) ∧ (decode dsX12_isMeant_138 9 = .ok (.iconst 0, 1) ∧ okop dsX12_isMeant_138 9 = true) ∧ (decode dsX12_isMeant_138 10 = .ok (.ireturn, 1) ∧ okop dsX12_isMeant_138 10 = true) := by decide +kernel
theorem dX12_isMeant_138 : decode cX12_isMeant 138 = .ok (.lconst 0, 1) := dgq (p := 0) daX12_isMeant_138 dbX12_isMeant_138.1
theorem dX12_isMeant_139 : decode cX12_isMeant 139 = .ok (.lcmp, 1) := dgq (p := 1) daX12_isMeant_138 dbX12_isMeant_138.2.1
theorem dX12_isMeant_140 : decode cX12_isMeant 140 = .ok (.ifCond .lt 7, 3) := dgq (p := 2) daX12_isMeant_138 dbX12_isMeant_138.2.2.1
theorem dX12_isMeant_143 : decode cX12_isMeant 143 = .ok (.iconst 1, 1) := dgq (p := 5) daX12_isMeant_138 dbX12_isMeant_138.2.2.2.1
theorem dX12_isMeant_144 : decode cX12_isMeant 144 = .ok (.goto 4, 3) := dgq (p := 6) daX12_isMeant_138 dbX12_isMeant_138.2.2.2.2.1
theorem dX12_isMeant_147 : decode cX12_isMeant 147 = .ok (.iconst 0, 1) := dgq (p := 9) daX12_isMeant_138 dbX12_isMeant_138.2.2.2.2.2.1
theorem dX12_isMeant_148 : decode cX12_isMeant 148 = .ok (.ireturn, 1) := dgq (p := 10) daX12_isMeant_138 dbX12_isMeant_138.2.2.2.2.2.2
set_option maxRecDepth 20000 in
theorem ggX12_isOld_X12_in : GoodIn wsX12_isOld wsX12_in := goodIn_q _ [10] rfl (by decide +kernel)
set_option maxRecDepth 20000 in
theorem gX12_isOld_X12_in : GoodIn wsX12_isOld (va_wsS RX12 101 yX12_in wsX12_in) := goodIn_app (goodIn_q _ [7, 8, 9] rfl (by decide +kernel)) ggX12_isOld_X12_in
set_option maxRecDepth 20000 in
theorem ggX12_isOld_X12_isMeant : GoodIn wsX12_isOld wsX12_isMeant := goodIn_ca (goodIn_q _ [14, 15, 16, 17, 18, 19, 20, 21, 22, 9, 23, 24, 25, 26, 27] rfl (by decide +kernel)) (goodIn_sub (fun _ h => (List.mem_cons_of_mem _ (List.mem_append_right _ h))) tg_wsX120)
set_option maxRecDepth 20000 in
theorem gX12_isOld_X12_isMeant : GoodIn wsX12_isOld (wsV RX12 509 RX12 yX12_isMeant wsX12_isMeant) := goodIn_app (goodIn_q _ [11, 12, 13, 9] rfl (by decide +kernel)) ggX12_isOld_X12_isMeant
def dsX12_isOld_0 : ByteArray := ⟨#[27, 133, 20, 0, 129, 20, 0, 131, 184, 0, 101, 153, 0, 33, 28, 133, 20, 0, 139, 20, 1, 251]⟩
theorem daX12_isOld_0 : agB cX12_isOld dsX12_isOld_0 0 := agB_of (n := 22) (by decide +kernel)
theorem dbX12_isOld_0 : (decode dsX12_isOld_0 0 = .ok (.iload_n 1, 1) ∧ okop dsX12_isOld_0 0 = true) ∧ (decode dsX12_isOld_0 1 = .ok (.i2l, 1) ∧ okop dsX12_isOld_0 1 = true) ∧ (decode dsX12_isOld_0 2 = .ok (.ldc2_w 129, 3) ∧ okop dsX12_isOld_0 2 = true) ∧ (decode dsX12_isOld_0 5 = .ok (.ldc2_w 131, 3) ∧ okop dsX12_isOld_0 5 = true) ∧ (decode dsX12_isOld_0 8 = .ok (.invokestatic 101, 3) ∧ okop dsX12_isOld_0 8 = true) ∧ (decode dsX12_isOld_0 11 = .ok (.ifCond .eq 33, 3) ∧ okop dsX12_isOld_0 11 = true) ∧ (decode dsX12_isOld_0 14 = .ok (.iload_n 2, 1) ∧ okop dsX12_isOld_0 14 = true) ∧ (decode dsX12_isOld_0 15 = .ok (.i2l, 1) ∧ okop dsX12_isOld_0 15 = true) ∧ (decode dsX12_isOld_0 16 = .ok (.ldc2_w 139, 3) ∧ okop dsX12_isOld_0 16 = true) ∧ (decode dsX12_isOld_0 19 = .ok (.ldc2_w 507, 3) ∧ okop dsX12_isOld_0 19 = true) := by decide +kernel
theorem dX12_isOld_0 : decode cX12_isOld 0 = .ok (.iload_n 1, 1) := dgq (p := 0) daX12_isOld_0 dbX12_isOld_0.1
theorem dX12_isOld_1 : decode cX12_isOld 1 = .ok (.i2l, 1) := dgq (p := 1) daX12_isOld_0 dbX12_isOld_0.2.1
theorem dX12_isOld_2 : decode cX12_isOld 2 = .ok (.ldc2_w 129, 3) := dgq (p := 2) daX12_isOld_0 dbX12_isOld_0.2.2.1
theorem dX12_isOld_5 : decode cX12_isOld 5 = .ok (.ldc2_w 131, 3) := dgq (p := 5) daX12_isOld_0 dbX12_isOld_0.2.2.2.1
theorem dX12_isOld_8 : decode cX12_isOld 8 = .ok (.invokestatic 101, 3) := dgq (p := 8) daX12_isOld_0 dbX12_isOld_0.2.2.2.2.1
theorem dX12_isOld_11 : decode cX12_isOld 11 = .ok (.ifCond .eq 33, 3) := dgq (p := 11) daX12_isOld_0 dbX12_isOld_0.2.2.2.2.2.1
theorem dX12_isOld_14 : decode cX12_isOld 14 = .ok (.iload_n 2, 1) := dgq (p := 14) daX12_isOld_0 dbX12_isOld_0.2.2.2.2.2.2.1
theorem dX12_isOld_15 : decode cX12_isOld 15 = .ok (.i2l, 1) := dgq (p := 15) daX12_isOld_0 dbX12_isOld_0.2.2.2.2.2.2.2.1
theorem dX12_isOld_16 : decode cX12_isOld 16 = .ok (.ldc2_w 139, 3) := dgq (p := 16) daX12_isOld_0 dbX12_isOld_0.2.2.2.2.2.2.2.2.1
theorem dX12_isOld_19 : decode cX12_isOld 19 = .ok (.ldc2_w 507, 3) := dgq (p := 19) daX12_isOld_0 dbX12_isOld_0.2.2.2.2.2.2.2.2.2
def dsX12_isOld_22 : ByteArray := ⟨#[184, 0, 101, 153, 0, 19, 29, 133, 9, 20, 0, 249, 184, 0, 101, 153, 0, 7, 4, 167, 0, 4]⟩
theorem daX12_isOld_22 : agB cX12_isOld dsX12_isOld_22 22 := agB_of (n := 22) (by decide +kernel)
theorem dbX12_isOld_22 : (decode dsX12_isOld_22 0 = .ok (.invokestatic 101, 3) ∧ okop dsX12_isOld_22 0 = true) ∧ (decode dsX12_isOld_22 3 = .ok (.ifCond .eq 19, 3) ∧ okop dsX12_isOld_22 3 = true) ∧ (decode dsX12_isOld_22 6 = .ok (.iload_n 3, 1) ∧ okop dsX12_isOld_22 6 = true) ∧ (decode dsX12_isOld_22 7 = .ok (.i2l, 1) ∧ okop dsX12_isOld_22 7 = true) ∧ (decode dsX12_isOld_22 8 = .ok (.lconst 0, 1) ∧ okop dsX12_isOld_22 8 = true) ∧ (decode dsX12_isOld_22 9 = .ok (.ldc2_w 249, 3) ∧ okop dsX12_isOld_22 9 = true) ∧ (decode dsX12_isOld_22 12 = .ok (.invokestatic 101, 3) ∧ okop dsX12_isOld_22 12 = true) ∧ (decode dsX12_isOld_22 15 = .ok (.ifCond .eq 7, 3) ∧ okop dsX12_isOld_22 15 = true) ∧ (decode dsX12_isOld_22 18 = .ok (.iconst 1, 1) ∧ okop dsX12_isOld_22 18 = true) ∧ (decode dsX12_isOld_22 19 = .ok (.goto 4, 3) ∧ okop dsX12_isOld_22 19 = true) := by decide +kernel
theorem dX12_isOld_22 : decode cX12_isOld 22 = .ok (.invokestatic 101, 3) := dgq (p := 0) daX12_isOld_22 dbX12_isOld_22.1
theorem dX12_isOld_25 : decode cX12_isOld 25 = .ok (.ifCond .eq 19, 3) := dgq (p := 3) daX12_isOld_22 dbX12_isOld_22.2.1
theorem dX12_isOld_28 : decode cX12_isOld 28 = .ok (.iload_n 3, 1) := dgq (p := 6) daX12_isOld_22 dbX12_isOld_22.2.2.1
theorem dX12_isOld_29 : decode cX12_isOld 29 = .ok (.i2l, 1) := dgq (p := 7) daX12_isOld_22 dbX12_isOld_22.2.2.2.1
theorem dX12_isOld_30 : decode cX12_isOld 30 = .ok (.lconst 0, 1) := dgq (p := 8) daX12_isOld_22 dbX12_isOld_22.2.2.2.2.1
theorem dX12_isOld_31 : decode cX12_isOld 31 = .ok (.ldc2_w 249, 3) := dgq (p := 9) daX12_isOld_22 dbX12_isOld_22.2.2.2.2.2.1
theorem dX12_isOld_34 : decode cX12_isOld 34 = .ok (.invokestatic 101, 3) := dgq (p := 12) daX12_isOld_22 dbX12_isOld_22.2.2.2.2.2.2.1
theorem dX12_isOld_37 : decode cX12_isOld 37 = .ok (.ifCond .eq 7, 3) := dgq (p := 15) daX12_isOld_22 dbX12_isOld_22.2.2.2.2.2.2.2.1
theorem dX12_isOld_40 : decode cX12_isOld 40 = .ok (.iconst 1, 1) := dgq (p := 18) daX12_isOld_22 dbX12_isOld_22.2.2.2.2.2.2.2.2.1
theorem dX12_isOld_41 : decode cX12_isOld 41 = .ok (.goto 4, 3) := dgq (p := 19) daX12_isOld_22 dbX12_isOld_22.2.2.2.2.2.2.2.2.2
def dsX12_isOld_44 : ByteArray := ⟨#[3, 54, 4, 42, 21, 4, 154, 0, 7, 4, 167, 0, 18, 42, 27, 28]⟩
theorem daX12_isOld_44 : agB cX12_isOld dsX12_isOld_44 44 := agB_of (n := 16) (by decide +kernel)
theorem dbX12_isOld_44 : (decode dsX12_isOld_44 0 = .ok (.iconst 0, 1) ∧ okop dsX12_isOld_44 0 = true) ∧ (decode dsX12_isOld_44 1 = .ok (.istore 4, 2) ∧ okop dsX12_isOld_44 1 = true) ∧ (decode dsX12_isOld_44 3 = .ok (.aload_n 0, 1) ∧ okop dsX12_isOld_44 3 = true) ∧ (decode dsX12_isOld_44 4 = .ok (.iload 4, 2) ∧ okop dsX12_isOld_44 4 = true) ∧ (decode dsX12_isOld_44 6 = .ok (.ifCond .ne 7, 3) ∧ okop dsX12_isOld_44 6 = true) ∧ (decode dsX12_isOld_44 9 = .ok (.iconst 1, 1) ∧ okop dsX12_isOld_44 9 = true) ∧ (decode dsX12_isOld_44 10 = .ok (.goto 18, 3) ∧ okop dsX12_isOld_44 10 = true) ∧ (decode dsX12_isOld_44 13 = .ok (.aload_n 0, 1) ∧ okop dsX12_isOld_44 13 = true) ∧ (decode dsX12_isOld_44 14 = .ok (.iload_n 1, 1) ∧ okop dsX12_isOld_44 14 = true) ∧ (decode dsX12_isOld_44 15 = .ok (.iload_n 2, 1) ∧ okop dsX12_isOld_44 15 = true) := by decide +kernel
theorem dX12_isOld_44 : decode cX12_isOld 44 = .ok (.iconst 0, 1) := dgq (p := 0) daX12_isOld_44 dbX12_isOld_44.1
theorem dX12_isOld_45 : decode cX12_isOld 45 = .ok (.istore 4, 2) := dgq (p := 1) daX12_isOld_44 dbX12_isOld_44.2.1
theorem dX12_isOld_47 : decode cX12_isOld 47 = .ok (.aload_n 0, 1) := dgq (p := 3) daX12_isOld_44 dbX12_isOld_44.2.2.1
theorem dX12_isOld_48 : decode cX12_isOld 48 = .ok (.iload 4, 2) := dgq (p := 4) daX12_isOld_44 dbX12_isOld_44.2.2.2.1
theorem dX12_isOld_50 : decode cX12_isOld 50 = .ok (.ifCond .ne 7, 3) := dgq (p := 6) daX12_isOld_44 dbX12_isOld_44.2.2.2.2.1
theorem dX12_isOld_53 : decode cX12_isOld 53 = .ok (.iconst 1, 1) := dgq (p := 9) daX12_isOld_44 dbX12_isOld_44.2.2.2.2.2.1
theorem dX12_isOld_54 : decode cX12_isOld 54 = .ok (.goto 18, 3) := dgq (p := 10) daX12_isOld_44 dbX12_isOld_44.2.2.2.2.2.2.1
theorem dX12_isOld_57 : decode cX12_isOld 57 = .ok (.aload_n 0, 1) := dgq (p := 13) daX12_isOld_44 dbX12_isOld_44.2.2.2.2.2.2.2.1
theorem dX12_isOld_58 : decode cX12_isOld 58 = .ok (.iload_n 1, 1) := dgq (p := 14) daX12_isOld_44 dbX12_isOld_44.2.2.2.2.2.2.2.2.1
theorem dX12_isOld_59 : decode cX12_isOld 59 = .ok (.iload_n 2, 1) := dgq (p := 15) daX12_isOld_44 dbX12_isOld_44.2.2.2.2.2.2.2.2.2
def dsX12_isOld_60 : ByteArray := ⟨#[29, 182, 1, 253, 153, 0, 7, 3, 167, 0, 4, 5, 181, 0, 94, 42, 180, 0, 94, 154, 0, 7]⟩
theorem daX12_isOld_60 : agB cX12_isOld dsX12_isOld_60 60 := agB_of (n := 22) (by decide +kernel)
theorem dbX12_isOld_60 : (decode dsX12_isOld_60 0 = .ok (.iload_n 3, 1) ∧ okop dsX12_isOld_60 0 = true) ∧ (decode dsX12_isOld_60 1 = .ok (.invokevirtual 509, 3) ∧ okop dsX12_isOld_60 1 = true) ∧ (decode dsX12_isOld_60 4 = .ok (.ifCond .eq 7, 3) ∧ okop dsX12_isOld_60 4 = true) ∧ (decode dsX12_isOld_60 7 = .ok (.iconst 0, 1) ∧ okop dsX12_isOld_60 7 = true) ∧ (decode dsX12_isOld_60 8 = .ok (.goto 4, 3) ∧ okop dsX12_isOld_60 8 = true) ∧ (decode dsX12_isOld_60 11 = .ok (.iconst 2, 1) ∧ okop dsX12_isOld_60 11 = true) ∧ (decode dsX12_isOld_60 12 = .ok (.putfield 94, 3) ∧ okop dsX12_isOld_60 12 = true) ∧ (decode dsX12_isOld_60 15 = .ok (.aload_n 0, 1) ∧ okop dsX12_isOld_60 15 = true) ∧ (decode dsX12_isOld_60 16 = .ok (.getfield 94, 3) ∧ okop dsX12_isOld_60 16 = true) ∧ (decode dsX12_isOld_60 19 = .ok (.ifCond .ne 7, 3) ∧ okop dsX12_isOld_60 19 = true) := by decide +kernel
theorem dX12_isOld_60 : decode cX12_isOld 60 = .ok (.iload_n 3, 1) := dgq (p := 0) daX12_isOld_60 dbX12_isOld_60.1
theorem dX12_isOld_61 : decode cX12_isOld 61 = .ok (.invokevirtual 509, 3) := dgq (p := 1) daX12_isOld_60 dbX12_isOld_60.2.1
theorem dX12_isOld_64 : decode cX12_isOld 64 = .ok (.ifCond .eq 7, 3) := dgq (p := 4) daX12_isOld_60 dbX12_isOld_60.2.2.1
theorem dX12_isOld_67 : decode cX12_isOld 67 = .ok (.iconst 0, 1) := dgq (p := 7) daX12_isOld_60 dbX12_isOld_60.2.2.2.1
theorem dX12_isOld_68 : decode cX12_isOld 68 = .ok (.goto 4, 3) := dgq (p := 8) daX12_isOld_60 dbX12_isOld_60.2.2.2.2.1
theorem dX12_isOld_71 : decode cX12_isOld 71 = .ok (.iconst 2, 1) := dgq (p := 11) daX12_isOld_60 dbX12_isOld_60.2.2.2.2.2.1
theorem dX12_isOld_72 : decode cX12_isOld 72 = .ok (.putfield 94, 3) := dgq (p := 12) daX12_isOld_60 dbX12_isOld_60.2.2.2.2.2.2.1
theorem dX12_isOld_75 : decode cX12_isOld 75 = .ok (.aload_n 0, 1) := dgq (p := 15) daX12_isOld_60 dbX12_isOld_60.2.2.2.2.2.2.2.1
theorem dX12_isOld_76 : decode cX12_isOld 76 = .ok (.getfield 94, 3) := dgq (p := 16) daX12_isOld_60 dbX12_isOld_60.2.2.2.2.2.2.2.2.1
theorem dX12_isOld_79 : decode cX12_isOld 79 = .ok (.ifCond .ne 7, 3) := dgq (p := 19) daX12_isOld_60 dbX12_isOld_60.2.2.2.2.2.2.2.2.2
def dsX12_isOld_82 : ByteArray := ⟨#[4, 167, 0, 4, 3, 172]⟩
theorem daX12_isOld_82 : agB cX12_isOld dsX12_isOld_82 82 := agB_of (n := 6) (by decide +kernel)
theorem dbX12_isOld_82 : (decode dsX12_isOld_82 0 = .ok (.iconst 1, 1) ∧ okop dsX12_isOld_82 0 = true) ∧ (decode dsX12_isOld_82 1 = .ok (.goto 4, 3) ∧ okop dsX12_isOld_82 1 = true) ∧ (decode dsX12_isOld_82 4 = .ok (.iconst 0, 1) ∧ okop dsX12_isOld_82 4 = true) ∧ (decode dsX12_isOld_82 5 = .ok (.ireturn, 1) ∧ okop dsX12_isOld_82 5 = true) := by decide +kernel
theorem dX12_isOld_82 : decode cX12_isOld 82 = .ok (.iconst 1, 1) := dgq (p := 0) daX12_isOld_82 dbX12_isOld_82.1
theorem dX12_isOld_83 : decode cX12_isOld 83 = .ok (.goto 4, 3) := dgq (p := 1) daX12_isOld_82 dbX12_isOld_82.2.1
theorem dX12_isOld_86 : decode cX12_isOld 86 = .ok (.iconst 0, 1) := dgq (p := 4) daX12_isOld_82 dbX12_isOld_82.2.2.1
theorem dX12_isOld_87 : decode cX12_isOld 87 = .ok (.ireturn, 1) := dgq (p := 5) daX12_isOld_82 dbX12_isOld_82.2.2.2
set_option maxRecDepth 20000 in
theorem ggX12_oldModule_X12_isOld : GoodIn wsX12_oldModule wsX12_isOld := goodIn_ca (goodIn_q _ [6, 7, 8, 9, 10, 11, 12, 13, 14, 5, 15, 16, 17, 18, 19, 20, 21, 22, 1, 23, 24, 25, 26, 27, 28, 29, 30, 31] rfl (by decide +kernel)) (goodIn_sub (fun _ h => (List.mem_cons_of_mem _ (List.mem_append_right _ h))) tg_wsX120)
set_option maxRecDepth 20000 in
theorem gX12_oldModule_X12_isOld : GoodIn wsX12_oldModule (wsV RX12 513 RX12 yX12_isOld wsX12_isOld) := goodIn_app (goodIn_q _ [2, 3, 4, 5] rfl (by decide +kernel)) ggX12_oldModule_X12_isOld
def dsX12_oldModule_0 : ByteArray := ⟨#[42, 27, 28, 29, 182, 2, 1, 153, 0, 10, 42, 180, 1, 244, 167, 0, 4, 3]⟩
theorem daX12_oldModule_0 : agB cX12_oldModule dsX12_oldModule_0 0 := agB_of (n := 18) (by decide +kernel)
theorem dbX12_oldModule_0 : (decode dsX12_oldModule_0 0 = .ok (.aload_n 0, 1) ∧ okop dsX12_oldModule_0 0 = true) ∧ (decode dsX12_oldModule_0 1 = .ok (.iload_n 1, 1) ∧ okop dsX12_oldModule_0 1 = true) ∧ (decode dsX12_oldModule_0 2 = .ok (.iload_n 2, 1) ∧ okop dsX12_oldModule_0 2 = true) ∧ (decode dsX12_oldModule_0 3 = .ok (.iload_n 3, 1) ∧ okop dsX12_oldModule_0 3 = true) ∧ (decode dsX12_oldModule_0 4 = .ok (.invokevirtual 513, 3) ∧ okop dsX12_oldModule_0 4 = true) ∧ (decode dsX12_oldModule_0 7 = .ok (.ifCond .eq 10, 3) ∧ okop dsX12_oldModule_0 7 = true) ∧ (decode dsX12_oldModule_0 10 = .ok (.aload_n 0, 1) ∧ okop dsX12_oldModule_0 10 = true) ∧ (decode dsX12_oldModule_0 11 = .ok (.getfield 500, 3) ∧ okop dsX12_oldModule_0 11 = true) ∧ (decode dsX12_oldModule_0 14 = .ok (.goto 4, 3) ∧ okop dsX12_oldModule_0 14 = true) ∧ (decode dsX12_oldModule_0 17 = .ok (.iconst 0, 1) ∧ okop dsX12_oldModule_0 17 = true) := by decide +kernel
theorem dX12_oldModule_0 : decode cX12_oldModule 0 = .ok (.aload_n 0, 1) := dgq (p := 0) daX12_oldModule_0 dbX12_oldModule_0.1
theorem dX12_oldModule_1 : decode cX12_oldModule 1 = .ok (.iload_n 1, 1) := dgq (p := 1) daX12_oldModule_0 dbX12_oldModule_0.2.1
theorem dX12_oldModule_2 : decode cX12_oldModule 2 = .ok (.iload_n 2, 1) := dgq (p := 2) daX12_oldModule_0 dbX12_oldModule_0.2.2.1
theorem dX12_oldModule_3 : decode cX12_oldModule 3 = .ok (.iload_n 3, 1) := dgq (p := 3) daX12_oldModule_0 dbX12_oldModule_0.2.2.2.1
theorem dX12_oldModule_4 : decode cX12_oldModule 4 = .ok (.invokevirtual 513, 3) := dgq (p := 4) daX12_oldModule_0 dbX12_oldModule_0.2.2.2.2.1
theorem dX12_oldModule_7 : decode cX12_oldModule 7 = .ok (.ifCond .eq 10, 3) := dgq (p := 7) daX12_oldModule_0 dbX12_oldModule_0.2.2.2.2.2.1
theorem dX12_oldModule_10 : decode cX12_oldModule 10 = .ok (.aload_n 0, 1) := dgq (p := 10) daX12_oldModule_0 dbX12_oldModule_0.2.2.2.2.2.2.1
theorem dX12_oldModule_11 : decode cX12_oldModule 11 = .ok (.getfield 500, 3) := dgq (p := 11) daX12_oldModule_0 dbX12_oldModule_0.2.2.2.2.2.2.2.1
theorem dX12_oldModule_14 : decode cX12_oldModule 14 = .ok (.goto 4, 3) := dgq (p := 14) daX12_oldModule_0 dbX12_oldModule_0.2.2.2.2.2.2.2.2.1
theorem dX12_oldModule_17 : decode cX12_oldModule 17 = .ok (.iconst 0, 1) := dgq (p := 17) daX12_oldModule_0 dbX12_oldModule_0.2.2.2.2.2.2.2.2.2
theorem dX12_oldModule_18 : decode cX12_oldModule 18 = .ok (.ireturn, 1) := by decide +kernel
set_option maxRecDepth 20000 in
theorem ggX12_oldShift_X12_isOld : GoodIn wsX12_oldShift wsX12_isOld := goodIn_ca (goodIn_q _ [6, 7, 8, 9, 10, 11, 12, 13, 14, 5, 15, 16, 17, 18, 19, 20, 21, 22, 23, 1, 24, 25, 26, 27, 28, 29, 30, 31] rfl (by decide +kernel)) (goodIn_sub (fun _ h => (List.mem_cons_of_mem _ (List.mem_append_right _ h))) tg_wsX120)
set_option maxRecDepth 20000 in
theorem gX12_oldShift_X12_isOld : GoodIn wsX12_oldShift (wsV RX12 513 RX12 yX12_isOld wsX12_isOld) := goodIn_app (goodIn_q _ [2, 3, 4, 5] rfl (by decide +kernel)) ggX12_oldShift_X12_isOld
def dsX12_oldShift_0 : ByteArray := ⟨#[42, 27, 28, 29, 182, 2, 1, 153, 0, 10, 42, 180, 1, 241, 167, 0, 4, 3]⟩
theorem daX12_oldShift_0 : agB cX12_oldShift dsX12_oldShift_0 0 := agB_of (n := 18) (by decide +kernel)
theorem dbX12_oldShift_0 : (decode dsX12_oldShift_0 0 = .ok (.aload_n 0, 1) ∧ okop dsX12_oldShift_0 0 = true) ∧ (decode dsX12_oldShift_0 1 = .ok (.iload_n 1, 1) ∧ okop dsX12_oldShift_0 1 = true) ∧ (decode dsX12_oldShift_0 2 = .ok (.iload_n 2, 1) ∧ okop dsX12_oldShift_0 2 = true) ∧ (decode dsX12_oldShift_0 3 = .ok (.iload_n 3, 1) ∧ okop dsX12_oldShift_0 3 = true) ∧ (decode dsX12_oldShift_0 4 = .ok (.invokevirtual 513, 3) ∧ okop dsX12_oldShift_0 4 = true) ∧ (decode dsX12_oldShift_0 7 = .ok (.ifCond .eq 10, 3) ∧ okop dsX12_oldShift_0 7 = true) ∧ (decode dsX12_oldShift_0 10 = .ok (.aload_n 0, 1) ∧ okop dsX12_oldShift_0 10 = true) ∧ (decode dsX12_oldShift_0 11 = .ok (.getfield 497, 3) ∧ okop dsX12_oldShift_0 11 = true) ∧ (decode dsX12_oldShift_0 14 = .ok (.goto 4, 3) ∧ okop dsX12_oldShift_0 14 = true) ∧ (decode dsX12_oldShift_0 17 = .ok (.iconst 0, 1) ∧ okop dsX12_oldShift_0 17 = true) := by decide +kernel
theorem dX12_oldShift_0 : decode cX12_oldShift 0 = .ok (.aload_n 0, 1) := dgq (p := 0) daX12_oldShift_0 dbX12_oldShift_0.1
theorem dX12_oldShift_1 : decode cX12_oldShift 1 = .ok (.iload_n 1, 1) := dgq (p := 1) daX12_oldShift_0 dbX12_oldShift_0.2.1
theorem dX12_oldShift_2 : decode cX12_oldShift 2 = .ok (.iload_n 2, 1) := dgq (p := 2) daX12_oldShift_0 dbX12_oldShift_0.2.2.1
theorem dX12_oldShift_3 : decode cX12_oldShift 3 = .ok (.iload_n 3, 1) := dgq (p := 3) daX12_oldShift_0 dbX12_oldShift_0.2.2.2.1
theorem dX12_oldShift_4 : decode cX12_oldShift 4 = .ok (.invokevirtual 513, 3) := dgq (p := 4) daX12_oldShift_0 dbX12_oldShift_0.2.2.2.2.1
theorem dX12_oldShift_7 : decode cX12_oldShift 7 = .ok (.ifCond .eq 10, 3) := dgq (p := 7) daX12_oldShift_0 dbX12_oldShift_0.2.2.2.2.2.1
theorem dX12_oldShift_10 : decode cX12_oldShift 10 = .ok (.aload_n 0, 1) := dgq (p := 10) daX12_oldShift_0 dbX12_oldShift_0.2.2.2.2.2.2.1
theorem dX12_oldShift_11 : decode cX12_oldShift 11 = .ok (.getfield 497, 3) := dgq (p := 11) daX12_oldShift_0 dbX12_oldShift_0.2.2.2.2.2.2.2.1
theorem dX12_oldShift_14 : decode cX12_oldShift 14 = .ok (.goto 4, 3) := dgq (p := 14) daX12_oldShift_0 dbX12_oldShift_0.2.2.2.2.2.2.2.2.1
theorem dX12_oldShift_17 : decode cX12_oldShift 17 = .ok (.iconst 0, 1) := dgq (p := 17) daX12_oldShift_0 dbX12_oldShift_0.2.2.2.2.2.2.2.2.2
theorem dX12_oldShift_18 : decode cX12_oldShift 18 = .ok (.ireturn, 1) := by decide +kernel
set_option maxRecDepth 20000 in
theorem ggX12_allDamage_Jx4a65c_size_8abf5 : GoodIn wsX12_allDamage wsJx4a65c_size_8abf5 := goodIn_ca (goodIn_q _ [6, 7] rfl (by decide +kernel)) (goodIn_sub (fun _ h => (List.mem_cons_of_mem _ (List.mem_append_right _ h))) tg_wsJx4a65c0)
set_option maxRecDepth 20000 in
theorem gX12_allDamage_Jx4a65c_size_8abf5 : GoodIn wsX12_allDamage (wsV RX12 97 RJx4a65c yJx4a65c_size_8abf5 wsJx4a65c_size_8abf5) := goodIn_app (goodIn_q _ [2, 3, 4, 5] rfl (by decide +kernel)) ggX12_allDamage_Jx4a65c_size_8abf5
set_option maxRecDepth 20000 in
theorem ggX12_allDamage_X12_gearAt : GoodIn wsX12_allDamage wsX12_gearAt := goodIn_ca (goodIn_ca (goodIn_q _ [12, 1, 13, 14, 15, 16, 5, 17, 7, 18, 19, 20, 21, 22, 23, 24, 25, 26, 27, 28, 29, 30] rfl (by decide +kernel)) (goodIn_sub (fun _ h => (List.mem_cons_of_mem _ (List.mem_append_left _ (List.mem_append_left _ (List.mem_append_right _ h))))) tg_wsX120)) (goodIn_sub (fun _ h => (List.mem_cons_of_mem _ (List.mem_append_right _ h))) tg_wsJx4a65c0)
set_option maxRecDepth 20000 in
theorem gX12_allDamage_X12_gearAt : GoodIn wsX12_allDamage (wsV RX12 111 RX12 yX12_gearAt wsX12_gearAt) := goodIn_app (goodIn_q _ [8, 9, 10, 11] rfl (by decide +kernel)) ggX12_allDamage_X12_gearAt
set_option maxRecDepth 20000 in
theorem ggX12_allDamage_X12_answerLong : GoodIn wsX12_allDamage wsX12_answerLong := goodIn_ca (goodIn_q _ [34, 35] rfl (by decide +kernel)) (goodIn_sub (fun _ h => (List.mem_cons_of_mem _ (List.mem_append_left _ (List.mem_append_left _ (List.mem_append_right _ h))))) tg_wsX120)
set_option maxRecDepth 20000 in
theorem gX12_allDamage_X12_answerLong : GoodIn wsX12_allDamage (wsV RX12 443 RX12 yX12_answerLong wsX12_answerLong) := goodIn_app (goodIn_q _ [31, 32, 33, 11] rfl (by decide +kernel)) ggX12_allDamage_X12_answerLong
def dsX12_allDamage_0 : ByteArray := ⟨#[9, 64, 3, 62, 29, 42, 180, 0, 24, 182, 0, 97, 162, 0, 20, 31]⟩
theorem daX12_allDamage_0 : agB cX12_allDamage dsX12_allDamage_0 0 := agB_of (n := 16) (by decide +kernel)
theorem dbX12_allDamage_0 : (decode dsX12_allDamage_0 0 = .ok (.lconst 0, 1) ∧ okop dsX12_allDamage_0 0 = true) ∧ (decode dsX12_allDamage_0 1 = .ok (.lstore_n 1, 1) ∧ okop dsX12_allDamage_0 1 = true) ∧ (decode dsX12_allDamage_0 2 = .ok (.iconst 0, 1) ∧ okop dsX12_allDamage_0 2 = true) ∧ (decode dsX12_allDamage_0 3 = .ok (.istore_n 3, 1) ∧ okop dsX12_allDamage_0 3 = true) ∧ (decode dsX12_allDamage_0 4 = .ok (.iload_n 3, 1) ∧ okop dsX12_allDamage_0 4 = true) ∧ (decode dsX12_allDamage_0 5 = .ok (.aload_n 0, 1) ∧ okop dsX12_allDamage_0 5 = true) ∧ (decode dsX12_allDamage_0 6 = .ok (.getfield 24, 3) ∧ okop dsX12_allDamage_0 6 = true) ∧ (decode dsX12_allDamage_0 9 = .ok (.invokevirtual 97, 3) ∧ okop dsX12_allDamage_0 9 = true) ∧ (decode dsX12_allDamage_0 12 = .ok (.if_icmp .ge 20, 3) ∧ okop dsX12_allDamage_0 12 = true) ∧ (decode dsX12_allDamage_0 15 = .ok (.lload_n 1, 1) ∧ okop dsX12_allDamage_0 15 = true) := by decide +kernel
theorem dX12_allDamage_0 : decode cX12_allDamage 0 = .ok (.lconst 0, 1) := dgq (p := 0) daX12_allDamage_0 dbX12_allDamage_0.1
theorem dX12_allDamage_1 : decode cX12_allDamage 1 = .ok (.lstore_n 1, 1) := dgq (p := 1) daX12_allDamage_0 dbX12_allDamage_0.2.1
theorem dX12_allDamage_2 : decode cX12_allDamage 2 = .ok (.iconst 0, 1) := dgq (p := 2) daX12_allDamage_0 dbX12_allDamage_0.2.2.1
theorem dX12_allDamage_3 : decode cX12_allDamage 3 = .ok (.istore_n 3, 1) := dgq (p := 3) daX12_allDamage_0 dbX12_allDamage_0.2.2.2.1
theorem dX12_allDamage_4 : decode cX12_allDamage 4 = .ok (.iload_n 3, 1) := dgq (p := 4) daX12_allDamage_0 dbX12_allDamage_0.2.2.2.2.1
theorem dX12_allDamage_5 : decode cX12_allDamage 5 = .ok (.aload_n 0, 1) := dgq (p := 5) daX12_allDamage_0 dbX12_allDamage_0.2.2.2.2.2.1
theorem dX12_allDamage_6 : decode cX12_allDamage 6 = .ok (.getfield 24, 3) := dgq (p := 6) daX12_allDamage_0 dbX12_allDamage_0.2.2.2.2.2.2.1
theorem dX12_allDamage_9 : decode cX12_allDamage 9 = .ok (.invokevirtual 97, 3) := dgq (p := 9) daX12_allDamage_0 dbX12_allDamage_0.2.2.2.2.2.2.2.1
theorem dX12_allDamage_12 : decode cX12_allDamage 12 = .ok (.if_icmp .ge 20, 3) := dgq (p := 12) daX12_allDamage_0 dbX12_allDamage_0.2.2.2.2.2.2.2.2.1
theorem dX12_allDamage_15 : decode cX12_allDamage 15 = .ok (.lload_n 1, 1) := dgq (p := 15) daX12_allDamage_0 dbX12_allDamage_0.2.2.2.2.2.2.2.2.2
def dsX12_allDamage_16 : ByteArray := ⟨#[42, 29, 182, 0, 111, 180, 1, 199, 97, 64, 132, 3, 1, 167, 255, 231, 42, 31]⟩
theorem daX12_allDamage_16 : agB cX12_allDamage dsX12_allDamage_16 16 := agB_of (n := 18) (by decide +kernel)
theorem dbX12_allDamage_16 : (decode dsX12_allDamage_16 0 = .ok (.aload_n 0, 1) ∧ okop dsX12_allDamage_16 0 = true) ∧ (decode dsX12_allDamage_16 1 = .ok (.iload_n 3, 1) ∧ okop dsX12_allDamage_16 1 = true) ∧ (decode dsX12_allDamage_16 2 = .ok (.invokevirtual 111, 3) ∧ okop dsX12_allDamage_16 2 = true) ∧ (decode dsX12_allDamage_16 5 = .ok (.getfield 455, 3) ∧ okop dsX12_allDamage_16 5 = true) ∧ (decode dsX12_allDamage_16 8 = .ok (.ladd, 1) ∧ okop dsX12_allDamage_16 8 = true) ∧ (decode dsX12_allDamage_16 9 = .ok (.lstore_n 1, 1) ∧ okop dsX12_allDamage_16 9 = true) ∧ (decode dsX12_allDamage_16 10 = .ok (.iinc 3 1, 3) ∧ okop dsX12_allDamage_16 10 = true) ∧ (decode dsX12_allDamage_16 13 = .ok (.goto (-25), 3) ∧ okop dsX12_allDamage_16 13 = true) ∧ (decode dsX12_allDamage_16 16 = .ok (.aload_n 0, 1) ∧ okop dsX12_allDamage_16 16 = true) ∧ (decode dsX12_allDamage_16 17 = .ok (.lload_n 1, 1) ∧ okop dsX12_allDamage_16 17 = true) := by decide +kernel
theorem dX12_allDamage_16 : decode cX12_allDamage 16 = .ok (.aload_n 0, 1) := dgq (p := 0) daX12_allDamage_16 dbX12_allDamage_16.1
theorem dX12_allDamage_17 : decode cX12_allDamage 17 = .ok (.iload_n 3, 1) := dgq (p := 1) daX12_allDamage_16 dbX12_allDamage_16.2.1
theorem dX12_allDamage_18 : decode cX12_allDamage 18 = .ok (.invokevirtual 111, 3) := dgq (p := 2) daX12_allDamage_16 dbX12_allDamage_16.2.2.1
theorem dX12_allDamage_21 : decode cX12_allDamage 21 = .ok (.getfield 455, 3) := dgq (p := 5) daX12_allDamage_16 dbX12_allDamage_16.2.2.2.1
theorem dX12_allDamage_24 : decode cX12_allDamage 24 = .ok (.ladd, 1) := dgq (p := 8) daX12_allDamage_16 dbX12_allDamage_16.2.2.2.2.1
theorem dX12_allDamage_25 : decode cX12_allDamage 25 = .ok (.lstore_n 1, 1) := dgq (p := 9) daX12_allDamage_16 dbX12_allDamage_16.2.2.2.2.2.1
theorem dX12_allDamage_26 : decode cX12_allDamage 26 = .ok (.iinc 3 1, 3) := dgq (p := 10) daX12_allDamage_16 dbX12_allDamage_16.2.2.2.2.2.2.1
theorem dX12_allDamage_29 : decode cX12_allDamage 29 = .ok (.goto (-25), 3) := dgq (p := 13) daX12_allDamage_16 dbX12_allDamage_16.2.2.2.2.2.2.2.1
theorem dX12_allDamage_32 : decode cX12_allDamage 32 = .ok (.aload_n 0, 1) := dgq (p := 16) daX12_allDamage_16 dbX12_allDamage_16.2.2.2.2.2.2.2.2.1
theorem dX12_allDamage_33 : decode cX12_allDamage 33 = .ok (.lload_n 1, 1) := dgq (p := 17) daX12_allDamage_16 dbX12_allDamage_16.2.2.2.2.2.2.2.2.2
theorem dX12_allDamage_34 : decode cX12_allDamage 34 = .ok (.invokevirtual 443, 3) := by decide +kernel
theorem dX12_allDamage_37 : decode cX12_allDamage 37 = .ok (.lreturn, 1) := by decide +kernel
set_option maxRecDepth 20000 in
theorem ggX12_cutShare_Jx4a65c_size_8abf5 : GoodIn wsX12_cutShare wsJx4a65c_size_8abf5 := goodIn_ca (goodIn_q _ [7, 8] rfl (by decide +kernel)) (goodIn_sub (fun _ h => (List.mem_cons_of_mem _ (List.mem_append_right _ h))) tg_wsJx4a65c0)
set_option maxRecDepth 20000 in
theorem gX12_cutShare_Jx4a65c_size_8abf5 : GoodIn wsX12_cutShare (wsV RX12 97 RJx4a65c yJx4a65c_size_8abf5 wsJx4a65c_size_8abf5) := goodIn_app (goodIn_q _ [3, 4, 5, 6] rfl (by decide +kernel)) ggX12_cutShare_Jx4a65c_size_8abf5
set_option maxRecDepth 20000 in
theorem ggX12_cutShare_X12_gearAt : GoodIn wsX12_cutShare wsX12_gearAt := goodIn_ca (goodIn_ca (goodIn_q _ [13, 1, 14, 15, 16, 17, 6, 18, 8, 19, 20, 21, 22, 23, 24, 25, 26, 27, 28, 29, 30, 31] rfl (by decide +kernel)) (goodIn_sub (fun _ h => (List.mem_cons_of_mem _ (List.mem_append_left _ (List.mem_append_left _ (List.mem_append_right _ h))))) tg_wsX120)) (goodIn_sub (fun _ h => (List.mem_cons_of_mem _ (List.mem_append_right _ h))) tg_wsJx4a65c0)
set_option maxRecDepth 20000 in
theorem gX12_cutShare_X12_gearAt : GoodIn wsX12_cutShare (wsV RX12 111 RX12 yX12_gearAt wsX12_gearAt) := goodIn_app (goodIn_q _ [9, 10, 11, 12] rfl (by decide +kernel)) ggX12_cutShare_X12_gearAt
set_option maxRecDepth 20000 in
theorem ggX12_cutShare_Jx4a65c_isEmpty_aae02 : GoodIn wsX12_cutShare wsJx4a65c_isEmpty_aae02 := goodIn_ca (goodIn_q _ [35, 8] rfl (by decide +kernel)) (goodIn_sub (fun _ h => (List.mem_cons_of_mem _ (List.mem_append_right _ h))) tg_wsJx4a65c0)
set_option maxRecDepth 20000 in
theorem gX12_cutShare_Jx4a65c_isEmpty_aae02 : GoodIn wsX12_cutShare (wsV RX12 516 RJx4a65c yJx4a65c_isEmpty_aae02 wsJx4a65c_isEmpty_aae02) := goodIn_app (goodIn_q _ [32, 33, 34, 6] rfl (by decide +kernel)) ggX12_cutShare_Jx4a65c_isEmpty_aae02
def dsX12_cutShare_0 : ByteArray := ⟨#[3, 60, 3, 61, 28, 42, 180, 0, 24, 182, 0, 97, 162, 0, 28, 27]⟩
theorem daX12_cutShare_0 : agB cX12_cutShare dsX12_cutShare_0 0 := agB_of (n := 16) (by decide +kernel)
theorem dbX12_cutShare_0 : (decode dsX12_cutShare_0 0 = .ok (.iconst 0, 1) ∧ okop dsX12_cutShare_0 0 = true) ∧ (decode dsX12_cutShare_0 1 = .ok (.istore_n 1, 1) ∧ okop dsX12_cutShare_0 1 = true) ∧ (decode dsX12_cutShare_0 2 = .ok (.iconst 0, 1) ∧ okop dsX12_cutShare_0 2 = true) ∧ (decode dsX12_cutShare_0 3 = .ok (.istore_n 2, 1) ∧ okop dsX12_cutShare_0 3 = true) ∧ (decode dsX12_cutShare_0 4 = .ok (.iload_n 2, 1) ∧ okop dsX12_cutShare_0 4 = true) ∧ (decode dsX12_cutShare_0 5 = .ok (.aload_n 0, 1) ∧ okop dsX12_cutShare_0 5 = true) ∧ (decode dsX12_cutShare_0 6 = .ok (.getfield 24, 3) ∧ okop dsX12_cutShare_0 6 = true) ∧ (decode dsX12_cutShare_0 9 = .ok (.invokevirtual 97, 3) ∧ okop dsX12_cutShare_0 9 = true) ∧ (decode dsX12_cutShare_0 12 = .ok (.if_icmp .ge 28, 3) ∧ okop dsX12_cutShare_0 12 = true) ∧ (decode dsX12_cutShare_0 15 = .ok (.iload_n 1, 1) ∧ okop dsX12_cutShare_0 15 = true) := by decide +kernel
theorem dX12_cutShare_0 : decode cX12_cutShare 0 = .ok (.iconst 0, 1) := dgq (p := 0) daX12_cutShare_0 dbX12_cutShare_0.1
theorem dX12_cutShare_1 : decode cX12_cutShare 1 = .ok (.istore_n 1, 1) := dgq (p := 1) daX12_cutShare_0 dbX12_cutShare_0.2.1
theorem dX12_cutShare_2 : decode cX12_cutShare 2 = .ok (.iconst 0, 1) := dgq (p := 2) daX12_cutShare_0 dbX12_cutShare_0.2.2.1
theorem dX12_cutShare_3 : decode cX12_cutShare 3 = .ok (.istore_n 2, 1) := dgq (p := 3) daX12_cutShare_0 dbX12_cutShare_0.2.2.2.1
theorem dX12_cutShare_4 : decode cX12_cutShare 4 = .ok (.iload_n 2, 1) := dgq (p := 4) daX12_cutShare_0 dbX12_cutShare_0.2.2.2.2.1
theorem dX12_cutShare_5 : decode cX12_cutShare 5 = .ok (.aload_n 0, 1) := dgq (p := 5) daX12_cutShare_0 dbX12_cutShare_0.2.2.2.2.2.1
theorem dX12_cutShare_6 : decode cX12_cutShare 6 = .ok (.getfield 24, 3) := dgq (p := 6) daX12_cutShare_0 dbX12_cutShare_0.2.2.2.2.2.2.1
theorem dX12_cutShare_9 : decode cX12_cutShare 9 = .ok (.invokevirtual 97, 3) := dgq (p := 9) daX12_cutShare_0 dbX12_cutShare_0.2.2.2.2.2.2.2.1
theorem dX12_cutShare_12 : decode cX12_cutShare 12 = .ok (.if_icmp .ge 28, 3) := dgq (p := 12) daX12_cutShare_0 dbX12_cutShare_0.2.2.2.2.2.2.2.2.1
theorem dX12_cutShare_15 : decode cX12_cutShare 15 = .ok (.iload_n 1, 1) := dgq (p := 15) daX12_cutShare_0 dbX12_cutShare_0.2.2.2.2.2.2.2.2.2
def dsX12_cutShare_16 : ByteArray := ⟨#[42, 28, 182, 0, 111, 180, 0, 160, 153, 0, 7, 4, 167, 0, 4, 3, 96, 60]⟩
theorem daX12_cutShare_16 : agB cX12_cutShare dsX12_cutShare_16 16 := agB_of (n := 18) (by decide +kernel)
theorem dbX12_cutShare_16 : (decode dsX12_cutShare_16 0 = .ok (.aload_n 0, 1) ∧ okop dsX12_cutShare_16 0 = true) ∧ (decode dsX12_cutShare_16 1 = .ok (.iload_n 2, 1) ∧ okop dsX12_cutShare_16 1 = true) ∧ (decode dsX12_cutShare_16 2 = .ok (.invokevirtual 111, 3) ∧ okop dsX12_cutShare_16 2 = true) ∧ (decode dsX12_cutShare_16 5 = .ok (.getfield 160, 3) ∧ okop dsX12_cutShare_16 5 = true) ∧ (decode dsX12_cutShare_16 8 = .ok (.ifCond .eq 7, 3) ∧ okop dsX12_cutShare_16 8 = true) ∧ (decode dsX12_cutShare_16 11 = .ok (.iconst 1, 1) ∧ okop dsX12_cutShare_16 11 = true) ∧ (decode dsX12_cutShare_16 12 = .ok (.goto 4, 3) ∧ okop dsX12_cutShare_16 12 = true) ∧ (decode dsX12_cutShare_16 15 = .ok (.iconst 0, 1) ∧ okop dsX12_cutShare_16 15 = true) ∧ (decode dsX12_cutShare_16 16 = .ok (.iadd, 1) ∧ okop dsX12_cutShare_16 16 = true) ∧ (decode dsX12_cutShare_16 17 = .ok (.istore_n 1, 1) ∧ okop dsX12_cutShare_16 17 = true) := by decide +kernel
theorem dX12_cutShare_16 : decode cX12_cutShare 16 = .ok (.aload_n 0, 1) := dgq (p := 0) daX12_cutShare_16 dbX12_cutShare_16.1
theorem dX12_cutShare_17 : decode cX12_cutShare 17 = .ok (.iload_n 2, 1) := dgq (p := 1) daX12_cutShare_16 dbX12_cutShare_16.2.1
theorem dX12_cutShare_18 : decode cX12_cutShare 18 = .ok (.invokevirtual 111, 3) := dgq (p := 2) daX12_cutShare_16 dbX12_cutShare_16.2.2.1
theorem dX12_cutShare_21 : decode cX12_cutShare 21 = .ok (.getfield 160, 3) := dgq (p := 5) daX12_cutShare_16 dbX12_cutShare_16.2.2.2.1
theorem dX12_cutShare_24 : decode cX12_cutShare 24 = .ok (.ifCond .eq 7, 3) := dgq (p := 8) daX12_cutShare_16 dbX12_cutShare_16.2.2.2.2.1
theorem dX12_cutShare_27 : decode cX12_cutShare 27 = .ok (.iconst 1, 1) := dgq (p := 11) daX12_cutShare_16 dbX12_cutShare_16.2.2.2.2.2.1
theorem dX12_cutShare_28 : decode cX12_cutShare 28 = .ok (.goto 4, 3) := dgq (p := 12) daX12_cutShare_16 dbX12_cutShare_16.2.2.2.2.2.2.1
theorem dX12_cutShare_31 : decode cX12_cutShare 31 = .ok (.iconst 0, 1) := dgq (p := 15) daX12_cutShare_16 dbX12_cutShare_16.2.2.2.2.2.2.2.1
theorem dX12_cutShare_32 : decode cX12_cutShare 32 = .ok (.iadd, 1) := dgq (p := 16) daX12_cutShare_16 dbX12_cutShare_16.2.2.2.2.2.2.2.2.1
theorem dX12_cutShare_33 : decode cX12_cutShare 33 = .ok (.istore_n 1, 1) := dgq (p := 17) daX12_cutShare_16 dbX12_cutShare_16.2.2.2.2.2.2.2.2.2
def dsX12_cutShare_34 : ByteArray := ⟨#[132, 2, 1, 167, 255, 223, 42, 42, 180, 0, 24, 182, 2, 4, 153, 0, 7, 4, 167, 0, 4, 3]⟩
theorem daX12_cutShare_34 : agB cX12_cutShare dsX12_cutShare_34 34 := agB_of (n := 22) (by decide +kernel)
theorem dbX12_cutShare_34 : (decode dsX12_cutShare_34 0 = .ok (.iinc 2 1, 3) ∧ okop dsX12_cutShare_34 0 = true) ∧ (decode dsX12_cutShare_34 3 = .ok (.goto (-33), 3) ∧ okop dsX12_cutShare_34 3 = true) ∧ (decode dsX12_cutShare_34 6 = .ok (.aload_n 0, 1) ∧ okop dsX12_cutShare_34 6 = true) ∧ (decode dsX12_cutShare_34 7 = .ok (.aload_n 0, 1) ∧ okop dsX12_cutShare_34 7 = true) ∧ (decode dsX12_cutShare_34 8 = .ok (.getfield 24, 3) ∧ okop dsX12_cutShare_34 8 = true) ∧ (decode dsX12_cutShare_34 11 = .ok (.invokevirtual 516, 3) ∧ okop dsX12_cutShare_34 11 = true) ∧ (decode dsX12_cutShare_34 14 = .ok (.ifCond .eq 7, 3) ∧ okop dsX12_cutShare_34 14 = true) ∧ (decode dsX12_cutShare_34 17 = .ok (.iconst 1, 1) ∧ okop dsX12_cutShare_34 17 = true) ∧ (decode dsX12_cutShare_34 18 = .ok (.goto 4, 3) ∧ okop dsX12_cutShare_34 18 = true) ∧ (decode dsX12_cutShare_34 21 = .ok (.iconst 0, 1) ∧ okop dsX12_cutShare_34 21 = true) := by decide +kernel
theorem dX12_cutShare_34 : decode cX12_cutShare 34 = .ok (.iinc 2 1, 3) := dgq (p := 0) daX12_cutShare_34 dbX12_cutShare_34.1
theorem dX12_cutShare_37 : decode cX12_cutShare 37 = .ok (.goto (-33), 3) := dgq (p := 3) daX12_cutShare_34 dbX12_cutShare_34.2.1
theorem dX12_cutShare_40 : decode cX12_cutShare 40 = .ok (.aload_n 0, 1) := dgq (p := 6) daX12_cutShare_34 dbX12_cutShare_34.2.2.1
theorem dX12_cutShare_41 : decode cX12_cutShare 41 = .ok (.aload_n 0, 1) := dgq (p := 7) daX12_cutShare_34 dbX12_cutShare_34.2.2.2.1
theorem dX12_cutShare_42 : decode cX12_cutShare 42 = .ok (.getfield 24, 3) := dgq (p := 8) daX12_cutShare_34 dbX12_cutShare_34.2.2.2.2.1
theorem dX12_cutShare_45 : decode cX12_cutShare 45 = .ok (.invokevirtual 516, 3) := dgq (p := 11) daX12_cutShare_34 dbX12_cutShare_34.2.2.2.2.2.1
theorem dX12_cutShare_48 : decode cX12_cutShare 48 = .ok (.ifCond .eq 7, 3) := dgq (p := 14) daX12_cutShare_34 dbX12_cutShare_34.2.2.2.2.2.2.1
theorem dX12_cutShare_51 : decode cX12_cutShare 51 = .ok (.iconst 1, 1) := dgq (p := 17) daX12_cutShare_34 dbX12_cutShare_34.2.2.2.2.2.2.2.1
theorem dX12_cutShare_52 : decode cX12_cutShare 52 = .ok (.goto 4, 3) := dgq (p := 18) daX12_cutShare_34 dbX12_cutShare_34.2.2.2.2.2.2.2.2.1
theorem dX12_cutShare_55 : decode cX12_cutShare 55 = .ok (.iconst 0, 1) := dgq (p := 21) daX12_cutShare_34 dbX12_cutShare_34.2.2.2.2.2.2.2.2.2
def dsX12_cutShare_56 : ByteArray := ⟨#[181, 0, 94, 42, 180, 0, 94, 158, 0, 7, 11, 167, 0, 14, 27, 134, 42, 180, 0, 24]⟩
theorem daX12_cutShare_56 : agB cX12_cutShare dsX12_cutShare_56 56 := agB_of (n := 20) (by decide +kernel)
theorem dbX12_cutShare_56 : (decode dsX12_cutShare_56 0 = .ok (.putfield 94, 3) ∧ okop dsX12_cutShare_56 0 = true) ∧ (decode dsX12_cutShare_56 3 = .ok (.aload_n 0, 1) ∧ okop dsX12_cutShare_56 3 = true) ∧ (decode dsX12_cutShare_56 4 = .ok (.getfield 94, 3) ∧ okop dsX12_cutShare_56 4 = true) ∧ (decode dsX12_cutShare_56 7 = .ok (.ifCond .le 7, 3) ∧ okop dsX12_cutShare_56 7 = true) ∧ (decode dsX12_cutShare_56 10 = .ok (.fconst 0, 1) ∧ okop dsX12_cutShare_56 10 = true) ∧ (decode dsX12_cutShare_56 11 = .ok (.goto 14, 3) ∧ okop dsX12_cutShare_56 11 = true) ∧ (decode dsX12_cutShare_56 14 = .ok (.iload_n 1, 1) ∧ okop dsX12_cutShare_56 14 = true) ∧ (decode dsX12_cutShare_56 15 = .ok (.i2f, 1) ∧ okop dsX12_cutShare_56 15 = true) ∧ (decode dsX12_cutShare_56 16 = .ok (.aload_n 0, 1) ∧ okop dsX12_cutShare_56 16 = true) ∧ (decode dsX12_cutShare_56 17 = .ok (.getfield 24, 3) ∧ okop dsX12_cutShare_56 17 = true) := by decide +kernel
theorem dX12_cutShare_56 : decode cX12_cutShare 56 = .ok (.putfield 94, 3) := dgq (p := 0) daX12_cutShare_56 dbX12_cutShare_56.1
theorem dX12_cutShare_59 : decode cX12_cutShare 59 = .ok (.aload_n 0, 1) := dgq (p := 3) daX12_cutShare_56 dbX12_cutShare_56.2.1
theorem dX12_cutShare_60 : decode cX12_cutShare 60 = .ok (.getfield 94, 3) := dgq (p := 4) daX12_cutShare_56 dbX12_cutShare_56.2.2.1
theorem dX12_cutShare_63 : decode cX12_cutShare 63 = .ok (.ifCond .le 7, 3) := dgq (p := 7) daX12_cutShare_56 dbX12_cutShare_56.2.2.2.1
theorem dX12_cutShare_66 : decode cX12_cutShare 66 = .ok (.fconst 0, 1) := dgq (p := 10) daX12_cutShare_56 dbX12_cutShare_56.2.2.2.2.1
theorem dX12_cutShare_67 : decode cX12_cutShare 67 = .ok (.goto 14, 3) := dgq (p := 11) daX12_cutShare_56 dbX12_cutShare_56.2.2.2.2.2.1
theorem dX12_cutShare_70 : decode cX12_cutShare 70 = .ok (.iload_n 1, 1) := dgq (p := 14) daX12_cutShare_56 dbX12_cutShare_56.2.2.2.2.2.2.1
theorem dX12_cutShare_71 : decode cX12_cutShare 71 = .ok (.i2f, 1) := dgq (p := 15) daX12_cutShare_56 dbX12_cutShare_56.2.2.2.2.2.2.2.1
theorem dX12_cutShare_72 : decode cX12_cutShare 72 = .ok (.aload_n 0, 1) := dgq (p := 16) daX12_cutShare_56 dbX12_cutShare_56.2.2.2.2.2.2.2.2.1
theorem dX12_cutShare_73 : decode cX12_cutShare 73 = .ok (.getfield 24, 3) := dgq (p := 17) daX12_cutShare_56 dbX12_cutShare_56.2.2.2.2.2.2.2.2.2
def dsX12_cutShare_76 : ByteArray := ⟨#[182, 0, 97, 134, 110, 174]⟩
theorem daX12_cutShare_76 : agB cX12_cutShare dsX12_cutShare_76 76 := agB_of (n := 6) (by decide +kernel)
theorem dbX12_cutShare_76 : (decode dsX12_cutShare_76 0 = .ok (.invokevirtual 97, 3) ∧ okop dsX12_cutShare_76 0 = true) ∧ (decode dsX12_cutShare_76 3 = .ok (.i2f, 1) ∧ okop dsX12_cutShare_76 3 = true) ∧ (decode dsX12_cutShare_76 4 = .ok (.fdiv, 1) ∧ okop dsX12_cutShare_76 4 = true) ∧ (decode dsX12_cutShare_76 5 = .ok (.freturn, 1) ∧ okop dsX12_cutShare_76 5 = true) := by decide +kernel
theorem dX12_cutShare_76 : decode cX12_cutShare 76 = .ok (.invokevirtual 97, 3) := dgq (p := 0) daX12_cutShare_76 dbX12_cutShare_76.1
theorem dX12_cutShare_79 : decode cX12_cutShare 79 = .ok (.i2f, 1) := dgq (p := 3) daX12_cutShare_76 dbX12_cutShare_76.2.1
theorem dX12_cutShare_80 : decode cX12_cutShare 80 = .ok (.fdiv, 1) := dgq (p := 4) daX12_cutShare_76 dbX12_cutShare_76.2.2.1
theorem dX12_cutShare_81 : decode cX12_cutShare 81 = .ok (.freturn, 1) := dgq (p := 5) daX12_cutShare_76 dbX12_cutShare_76.2.2.2
set_option maxRecDepth 20000 in
theorem ggX12_meanGrade_Jx4a65c_size_8abf5 : GoodIn wsX12_meanGrade wsJx4a65c_size_8abf5 := goodIn_ca (goodIn_q _ [7, 8] rfl (by decide +kernel)) (goodIn_sub (fun _ h => (List.mem_cons_of_mem _ (List.mem_append_left _ (List.mem_append_left _ (List.mem_append_left _ (List.mem_append_right _ h)))))) tg_wsJx4a65c0)
set_option maxRecDepth 20000 in
theorem gX12_meanGrade_Jx4a65c_size_8abf5 : GoodIn wsX12_meanGrade (wsV RX12 97 RJx4a65c yJx4a65c_size_8abf5 wsJx4a65c_size_8abf5) := goodIn_app (goodIn_q _ [3, 4, 5, 6] rfl (by decide +kernel)) ggX12_meanGrade_Jx4a65c_size_8abf5
set_option maxRecDepth 20000 in
theorem ggX12_meanGrade_X12_gearAt : GoodIn wsX12_meanGrade wsX12_gearAt := goodIn_ca (goodIn_ca (goodIn_q _ [13, 1, 14, 15, 16, 17, 6, 18, 8, 19, 20, 21, 22, 23, 24, 25, 26, 27, 28, 29, 30, 31] rfl (by decide +kernel)) (goodIn_sub (fun _ h => (List.mem_cons_of_mem _ (List.mem_append_left _ (List.mem_append_left _ (List.mem_append_left _ (List.mem_append_left _ (List.mem_append_right _ h))))))) tg_wsX120)) (goodIn_sub (fun _ h => (List.mem_cons_of_mem _ (List.mem_append_left _ (List.mem_append_left _ (List.mem_append_left _ (List.mem_append_right _ h)))))) tg_wsJx4a65c0)
set_option maxRecDepth 20000 in
theorem gX12_meanGrade_X12_gearAt : GoodIn wsX12_meanGrade (wsV RX12 111 RX12 yX12_gearAt wsX12_gearAt) := goodIn_app (goodIn_q _ [9, 10, 11, 12] rfl (by decide +kernel)) ggX12_meanGrade_X12_gearAt
set_option maxRecDepth 20000 in
theorem ggX12_meanGrade_X10_grade : GoodIn wsX12_meanGrade wsX10_grade := goodIn_ca (goodIn_ca (goodIn_ca (goodIn_q _ [36, 37, 38, 39, 40, 41, 42, 43, 44, 35, 45, 46, 47, 48, 49, 50, 51, 12, 52, 53, 54, 55, 56, 57, 58, 59, 60, 61, 62, 63, 64, 65, 66] rfl (by decide +kernel)) (goodIn_sub (fun _ h => (List.mem_cons_of_mem _ (List.mem_append_left _ (List.mem_append_left _ (List.mem_append_right _ h))))) tg_wsX100)) (goodIn_sub (fun _ h => List.mem_cons_of_mem _ (List.mem_append_left _ (List.mem_append_right _ h))) (by decide +kernel))) (goodIn_sub (fun _ h => List.mem_cons_of_mem _ (List.mem_append_right _ h)) (by decide +kernel))
set_option maxRecDepth 20000 in
theorem gX12_meanGrade_X10_grade : GoodIn wsX12_meanGrade (wsV RX12 409 RX10 yX10_grade wsX10_grade) := goodIn_app (goodIn_q _ [32, 33, 34, 35] rfl (by decide +kernel)) ggX12_meanGrade_X10_grade
set_option maxRecDepth 20000 in
theorem ggX12_meanGrade_Jx4a65c_isEmpty_aae02 : GoodIn wsX12_meanGrade wsJx4a65c_isEmpty_aae02 := goodIn_ca (goodIn_q _ [70, 8] rfl (by decide +kernel)) (goodIn_sub (fun _ h => (List.mem_cons_of_mem _ (List.mem_append_left _ (List.mem_append_left _ (List.mem_append_left _ (List.mem_append_right _ h)))))) tg_wsJx4a65c0)
set_option maxRecDepth 20000 in
theorem gX12_meanGrade_Jx4a65c_isEmpty_aae02 : GoodIn wsX12_meanGrade (wsV RX12 516 RJx4a65c yJx4a65c_isEmpty_aae02 wsJx4a65c_isEmpty_aae02) := goodIn_app (goodIn_q _ [67, 68, 69, 6] rfl (by decide +kernel)) ggX12_meanGrade_Jx4a65c_isEmpty_aae02
def dsX12_meanGrade_0 : ByteArray := ⟨#[3, 60, 3, 61, 28, 42, 180, 0, 24, 182, 0, 97, 162, 0, 20, 27]⟩
theorem daX12_meanGrade_0 : agB cX12_meanGrade dsX12_meanGrade_0 0 := agB_of (n := 16) (by decide +kernel)
theorem dbX12_meanGrade_0 : (decode dsX12_meanGrade_0 0 = .ok (.iconst 0, 1) ∧ okop dsX12_meanGrade_0 0 = true) ∧ (decode dsX12_meanGrade_0 1 = .ok (.istore_n 1, 1) ∧ okop dsX12_meanGrade_0 1 = true) ∧ (decode dsX12_meanGrade_0 2 = .ok (.iconst 0, 1) ∧ okop dsX12_meanGrade_0 2 = true) ∧ (decode dsX12_meanGrade_0 3 = .ok (.istore_n 2, 1) ∧ okop dsX12_meanGrade_0 3 = true) ∧ (decode dsX12_meanGrade_0 4 = .ok (.iload_n 2, 1) ∧ okop dsX12_meanGrade_0 4 = true) ∧ (decode dsX12_meanGrade_0 5 = .ok (.aload_n 0, 1) ∧ okop dsX12_meanGrade_0 5 = true) ∧ (decode dsX12_meanGrade_0 6 = .ok (.getfield 24, 3) ∧ okop dsX12_meanGrade_0 6 = true) ∧ (decode dsX12_meanGrade_0 9 = .ok (.invokevirtual 97, 3) ∧ okop dsX12_meanGrade_0 9 = true) ∧ (decode dsX12_meanGrade_0 12 = .ok (.if_icmp .ge 20, 3) ∧ okop dsX12_meanGrade_0 12 = true) ∧ (decode dsX12_meanGrade_0 15 = .ok (.iload_n 1, 1) ∧ okop dsX12_meanGrade_0 15 = true) := by decide +kernel
theorem dX12_meanGrade_0 : decode cX12_meanGrade 0 = .ok (.iconst 0, 1) := dgq (p := 0) daX12_meanGrade_0 dbX12_meanGrade_0.1
theorem dX12_meanGrade_1 : decode cX12_meanGrade 1 = .ok (.istore_n 1, 1) := dgq (p := 1) daX12_meanGrade_0 dbX12_meanGrade_0.2.1
theorem dX12_meanGrade_2 : decode cX12_meanGrade 2 = .ok (.iconst 0, 1) := dgq (p := 2) daX12_meanGrade_0 dbX12_meanGrade_0.2.2.1
theorem dX12_meanGrade_3 : decode cX12_meanGrade 3 = .ok (.istore_n 2, 1) := dgq (p := 3) daX12_meanGrade_0 dbX12_meanGrade_0.2.2.2.1
theorem dX12_meanGrade_4 : decode cX12_meanGrade 4 = .ok (.iload_n 2, 1) := dgq (p := 4) daX12_meanGrade_0 dbX12_meanGrade_0.2.2.2.2.1
theorem dX12_meanGrade_5 : decode cX12_meanGrade 5 = .ok (.aload_n 0, 1) := dgq (p := 5) daX12_meanGrade_0 dbX12_meanGrade_0.2.2.2.2.2.1
theorem dX12_meanGrade_6 : decode cX12_meanGrade 6 = .ok (.getfield 24, 3) := dgq (p := 6) daX12_meanGrade_0 dbX12_meanGrade_0.2.2.2.2.2.2.1
theorem dX12_meanGrade_9 : decode cX12_meanGrade 9 = .ok (.invokevirtual 97, 3) := dgq (p := 9) daX12_meanGrade_0 dbX12_meanGrade_0.2.2.2.2.2.2.2.1
theorem dX12_meanGrade_12 : decode cX12_meanGrade 12 = .ok (.if_icmp .ge 20, 3) := dgq (p := 12) daX12_meanGrade_0 dbX12_meanGrade_0.2.2.2.2.2.2.2.2.1
theorem dX12_meanGrade_15 : decode cX12_meanGrade 15 = .ok (.iload_n 1, 1) := dgq (p := 15) daX12_meanGrade_0 dbX12_meanGrade_0.2.2.2.2.2.2.2.2.2
def dsX12_meanGrade_16 : ByteArray := ⟨#[42, 28, 182, 0, 111, 182, 1, 153, 96, 60, 132, 2, 1, 167, 255, 231, 42, 42]⟩
theorem daX12_meanGrade_16 : agB cX12_meanGrade dsX12_meanGrade_16 16 := agB_of (n := 18) (by decide +kernel)
theorem dbX12_meanGrade_16 : (decode dsX12_meanGrade_16 0 = .ok (.aload_n 0, 1) ∧ okop dsX12_meanGrade_16 0 = true) ∧ (decode dsX12_meanGrade_16 1 = .ok (.iload_n 2, 1) ∧ okop dsX12_meanGrade_16 1 = true) ∧ (decode dsX12_meanGrade_16 2 = .ok (.invokevirtual 111, 3) ∧ okop dsX12_meanGrade_16 2 = true) ∧ (decode dsX12_meanGrade_16 5 = .ok (.invokevirtual 409, 3) ∧ okop dsX12_meanGrade_16 5 = true) ∧ (decode dsX12_meanGrade_16 8 = .ok (.iadd, 1) ∧ okop dsX12_meanGrade_16 8 = true) ∧ (decode dsX12_meanGrade_16 9 = .ok (.istore_n 1, 1) ∧ okop dsX12_meanGrade_16 9 = true) ∧ (decode dsX12_meanGrade_16 10 = .ok (.iinc 2 1, 3) ∧ okop dsX12_meanGrade_16 10 = true) ∧ (decode dsX12_meanGrade_16 13 = .ok (.goto (-25), 3) ∧ okop dsX12_meanGrade_16 13 = true) ∧ (decode dsX12_meanGrade_16 16 = .ok (.aload_n 0, 1) ∧ okop dsX12_meanGrade_16 16 = true) ∧ (decode dsX12_meanGrade_16 17 = .ok (.aload_n 0, 1) ∧ okop dsX12_meanGrade_16 17 = true) := by decide +kernel
theorem dX12_meanGrade_16 : decode cX12_meanGrade 16 = .ok (.aload_n 0, 1) := dgq (p := 0) daX12_meanGrade_16 dbX12_meanGrade_16.1
theorem dX12_meanGrade_17 : decode cX12_meanGrade 17 = .ok (.iload_n 2, 1) := dgq (p := 1) daX12_meanGrade_16 dbX12_meanGrade_16.2.1
theorem dX12_meanGrade_18 : decode cX12_meanGrade 18 = .ok (.invokevirtual 111, 3) := dgq (p := 2) daX12_meanGrade_16 dbX12_meanGrade_16.2.2.1
theorem dX12_meanGrade_21 : decode cX12_meanGrade 21 = .ok (.invokevirtual 409, 3) := dgq (p := 5) daX12_meanGrade_16 dbX12_meanGrade_16.2.2.2.1
theorem dX12_meanGrade_24 : decode cX12_meanGrade 24 = .ok (.iadd, 1) := dgq (p := 8) daX12_meanGrade_16 dbX12_meanGrade_16.2.2.2.2.1
theorem dX12_meanGrade_25 : decode cX12_meanGrade 25 = .ok (.istore_n 1, 1) := dgq (p := 9) daX12_meanGrade_16 dbX12_meanGrade_16.2.2.2.2.2.1
theorem dX12_meanGrade_26 : decode cX12_meanGrade 26 = .ok (.iinc 2 1, 3) := dgq (p := 10) daX12_meanGrade_16 dbX12_meanGrade_16.2.2.2.2.2.2.1
theorem dX12_meanGrade_29 : decode cX12_meanGrade 29 = .ok (.goto (-25), 3) := dgq (p := 13) daX12_meanGrade_16 dbX12_meanGrade_16.2.2.2.2.2.2.2.1
theorem dX12_meanGrade_32 : decode cX12_meanGrade 32 = .ok (.aload_n 0, 1) := dgq (p := 16) daX12_meanGrade_16 dbX12_meanGrade_16.2.2.2.2.2.2.2.2.1
theorem dX12_meanGrade_33 : decode cX12_meanGrade 33 = .ok (.aload_n 0, 1) := dgq (p := 17) daX12_meanGrade_16 dbX12_meanGrade_16.2.2.2.2.2.2.2.2.2
def dsX12_meanGrade_34 : ByteArray := ⟨#[180, 0, 24, 182, 2, 4, 153, 0, 7, 4, 167, 0, 4, 3, 181, 0, 94, 42, 180, 0, 94, 158, 0, 7]⟩
theorem daX12_meanGrade_34 : agB cX12_meanGrade dsX12_meanGrade_34 34 := agB_of (n := 24) (by decide +kernel)
theorem dbX12_meanGrade_34 : (decode dsX12_meanGrade_34 0 = .ok (.getfield 24, 3) ∧ okop dsX12_meanGrade_34 0 = true) ∧ (decode dsX12_meanGrade_34 3 = .ok (.invokevirtual 516, 3) ∧ okop dsX12_meanGrade_34 3 = true) ∧ (decode dsX12_meanGrade_34 6 = .ok (.ifCond .eq 7, 3) ∧ okop dsX12_meanGrade_34 6 = true) ∧ (decode dsX12_meanGrade_34 9 = .ok (.iconst 1, 1) ∧ okop dsX12_meanGrade_34 9 = true) ∧ (decode dsX12_meanGrade_34 10 = .ok (.goto 4, 3) ∧ okop dsX12_meanGrade_34 10 = true) ∧ (decode dsX12_meanGrade_34 13 = .ok (.iconst 0, 1) ∧ okop dsX12_meanGrade_34 13 = true) ∧ (decode dsX12_meanGrade_34 14 = .ok (.putfield 94, 3) ∧ okop dsX12_meanGrade_34 14 = true) ∧ (decode dsX12_meanGrade_34 17 = .ok (.aload_n 0, 1) ∧ okop dsX12_meanGrade_34 17 = true) ∧ (decode dsX12_meanGrade_34 18 = .ok (.getfield 94, 3) ∧ okop dsX12_meanGrade_34 18 = true) ∧ (decode dsX12_meanGrade_34 21 = .ok (.ifCond .le 7, 3) ∧ okop dsX12_meanGrade_34 21 = true) := by decide +kernel
theorem dX12_meanGrade_34 : decode cX12_meanGrade 34 = .ok (.getfield 24, 3) := dgq (p := 0) daX12_meanGrade_34 dbX12_meanGrade_34.1
theorem dX12_meanGrade_37 : decode cX12_meanGrade 37 = .ok (.invokevirtual 516, 3) := dgq (p := 3) daX12_meanGrade_34 dbX12_meanGrade_34.2.1
theorem dX12_meanGrade_40 : decode cX12_meanGrade 40 = .ok (.ifCond .eq 7, 3) := dgq (p := 6) daX12_meanGrade_34 dbX12_meanGrade_34.2.2.1
theorem dX12_meanGrade_43 : decode cX12_meanGrade 43 = .ok (.iconst 1, 1) := dgq (p := 9) daX12_meanGrade_34 dbX12_meanGrade_34.2.2.2.1
theorem dX12_meanGrade_44 : decode cX12_meanGrade 44 = .ok (.goto 4, 3) := dgq (p := 10) daX12_meanGrade_34 dbX12_meanGrade_34.2.2.2.2.1
theorem dX12_meanGrade_47 : decode cX12_meanGrade 47 = .ok (.iconst 0, 1) := dgq (p := 13) daX12_meanGrade_34 dbX12_meanGrade_34.2.2.2.2.2.1
theorem dX12_meanGrade_48 : decode cX12_meanGrade 48 = .ok (.putfield 94, 3) := dgq (p := 14) daX12_meanGrade_34 dbX12_meanGrade_34.2.2.2.2.2.2.1
theorem dX12_meanGrade_51 : decode cX12_meanGrade 51 = .ok (.aload_n 0, 1) := dgq (p := 17) daX12_meanGrade_34 dbX12_meanGrade_34.2.2.2.2.2.2.2.1
theorem dX12_meanGrade_52 : decode cX12_meanGrade 52 = .ok (.getfield 94, 3) := dgq (p := 18) daX12_meanGrade_34 dbX12_meanGrade_34.2.2.2.2.2.2.2.2.1
theorem dX12_meanGrade_55 : decode cX12_meanGrade 55 = .ok (.ifCond .le 7, 3) := dgq (p := 21) daX12_meanGrade_34 dbX12_meanGrade_34.2.2.2.2.2.2.2.2.2
def dsX12_meanGrade_58 : ByteArray := ⟨#[14, 167, 0, 14, 27, 135, 42, 180, 0, 24, 182, 0, 97, 135, 111, 175]⟩
theorem daX12_meanGrade_58 : agB cX12_meanGrade dsX12_meanGrade_58 58 := agB_of (n := 16) (by decide +kernel)
theorem dbX12_meanGrade_58 : (decode dsX12_meanGrade_58 0 = .ok (.dconst 0, 1) ∧ okop dsX12_meanGrade_58 0 = true) ∧ (decode dsX12_meanGrade_58 1 = .ok (.goto 14, 3) ∧ okop dsX12_meanGrade_58 1 = true) ∧ (decode dsX12_meanGrade_58 4 = .ok (.iload_n 1, 1) ∧ okop dsX12_meanGrade_58 4 = true) ∧ (decode dsX12_meanGrade_58 5 = .ok (.i2d, 1) ∧ okop dsX12_meanGrade_58 5 = true) ∧ (decode dsX12_meanGrade_58 6 = .ok (.aload_n 0, 1) ∧ okop dsX12_meanGrade_58 6 = true) ∧ (decode dsX12_meanGrade_58 7 = .ok (.getfield 24, 3) ∧ okop dsX12_meanGrade_58 7 = true) ∧ (decode dsX12_meanGrade_58 10 = .ok (.invokevirtual 97, 3) ∧ okop dsX12_meanGrade_58 10 = true) ∧ (decode dsX12_meanGrade_58 13 = .ok (.i2d, 1) ∧ okop dsX12_meanGrade_58 13 = true) ∧ (decode dsX12_meanGrade_58 14 = .ok (.ddiv, 1) ∧ okop dsX12_meanGrade_58 14 = true) ∧ (decode dsX12_meanGrade_58 15 = .ok (.dreturn, 1) ∧ okop dsX12_meanGrade_58 15 = true) := by decide +kernel
theorem dX12_meanGrade_58 : decode cX12_meanGrade 58 = .ok (.dconst 0, 1) := dgq (p := 0) daX12_meanGrade_58 dbX12_meanGrade_58.1
theorem dX12_meanGrade_59 : decode cX12_meanGrade 59 = .ok (.goto 14, 3) := dgq (p := 1) daX12_meanGrade_58 dbX12_meanGrade_58.2.1
theorem dX12_meanGrade_62 : decode cX12_meanGrade 62 = .ok (.iload_n 1, 1) := dgq (p := 4) daX12_meanGrade_58 dbX12_meanGrade_58.2.2.1
theorem dX12_meanGrade_63 : decode cX12_meanGrade 63 = .ok (.i2d, 1) := dgq (p := 5) daX12_meanGrade_58 dbX12_meanGrade_58.2.2.2.1
theorem dX12_meanGrade_64 : decode cX12_meanGrade 64 = .ok (.aload_n 0, 1) := dgq (p := 6) daX12_meanGrade_58 dbX12_meanGrade_58.2.2.2.2.1
theorem dX12_meanGrade_65 : decode cX12_meanGrade 65 = .ok (.getfield 24, 3) := dgq (p := 7) daX12_meanGrade_58 dbX12_meanGrade_58.2.2.2.2.2.1
theorem dX12_meanGrade_68 : decode cX12_meanGrade 68 = .ok (.invokevirtual 97, 3) := dgq (p := 10) daX12_meanGrade_58 dbX12_meanGrade_58.2.2.2.2.2.2.1
theorem dX12_meanGrade_71 : decode cX12_meanGrade 71 = .ok (.i2d, 1) := dgq (p := 13) daX12_meanGrade_58 dbX12_meanGrade_58.2.2.2.2.2.2.2.1
theorem dX12_meanGrade_72 : decode cX12_meanGrade 72 = .ok (.ddiv, 1) := dgq (p := 14) daX12_meanGrade_58 dbX12_meanGrade_58.2.2.2.2.2.2.2.2.1
theorem dX12_meanGrade_73 : decode cX12_meanGrade 73 = .ok (.dreturn, 1) := dgq (p := 15) daX12_meanGrade_58 dbX12_meanGrade_58.2.2.2.2.2.2.2.2.2
set_option maxRecDepth 20000 in
theorem ggX12_isSound_X12_says : GoodIn wsX12_isSound wsX12_says := goodIn_ca (goodIn_q _ [5, 6] rfl (by decide +kernel)) (goodIn_sub (fun _ h => (List.mem_cons_of_mem _ (List.mem_append_right _ h))) tg_wsX120)
set_option maxRecDepth 20000 in
theorem gX12_isSound_X12_says : GoodIn wsX12_isSound (wsV RX12 178 RX12 yX12_says wsX12_says) := goodIn_app (goodIn_q _ [1, 2, 3, 4] rfl (by decide +kernel)) ggX12_isSound_X12_says
def dsX12_isSound_0 : ByteArray := ⟨#[42, 4, 182, 0, 178, 172]⟩
theorem daX12_isSound_0 : agB cX12_isSound dsX12_isSound_0 0 := agB_of (n := 6) (by decide +kernel)
theorem dbX12_isSound_0 : (decode dsX12_isSound_0 0 = .ok (.aload_n 0, 1) ∧ okop dsX12_isSound_0 0 = true) ∧ (decode dsX12_isSound_0 1 = .ok (.iconst 1, 1) ∧ okop dsX12_isSound_0 1 = true) ∧ (decode dsX12_isSound_0 2 = .ok (.invokevirtual 178, 3) ∧ okop dsX12_isSound_0 2 = true) ∧ (decode dsX12_isSound_0 5 = .ok (.ireturn, 1) ∧ okop dsX12_isSound_0 5 = true) := by decide +kernel
theorem dX12_isSound_0 : decode cX12_isSound 0 = .ok (.aload_n 0, 1) := dgq (p := 0) daX12_isSound_0 dbX12_isSound_0.1
theorem dX12_isSound_1 : decode cX12_isSound 1 = .ok (.iconst 1, 1) := dgq (p := 1) daX12_isSound_0 dbX12_isSound_0.2.1
theorem dX12_isSound_2 : decode cX12_isSound 2 = .ok (.invokevirtual 178, 3) := dgq (p := 2) daX12_isSound_0 dbX12_isSound_0.2.2.1
theorem dX12_isSound_5 : decode cX12_isSound 5 = .ok (.ireturn, 1) := dgq (p := 5) daX12_isSound_0 dbX12_isSound_0.2.2.2
set_option maxRecDepth 20000 in
theorem ggJ5_init_d00df_J2_newBytesFor_77867 : GoodIn wsJ5_init_d00df wsJ2_newBytesFor_77867 := goodIn_q _ [11, 5, 12, 13, 10, 14, 15] rfl (by decide +kernel)
set_option maxRecDepth 20000 in
theorem gJ5_init_d00df_J2_newBytesFor_77867 : GoodIn wsJ5_init_d00df (va_wsS RJ5 26 yJ2_newBytesFor_77867 wsJ2_newBytesFor_77867) := goodIn_app (goodIn_q _ [8, 9, 10] rfl (by decide +kernel)) ggJ5_init_d00df_J2_newBytesFor_77867
theorem dJ5_init_d00df_12 : decode cJ5_init_d00df 12 = .ok (.newarray .byte, 2) := by decide +kernel
def dsJ5_init_d00df_0 : ByteArray := ⟨#[42, 183, 0, 3, 178, 0, 18, 153, 0, 18, 42, 27, 188, 8, 181, 0, 15, 42, 3, 181, 0, 22]⟩
theorem daJ5_init_d00df_0 : agB cJ5_init_d00df dsJ5_init_d00df_0 0 := agB_of (n := 22) (by decide +kernel)
theorem dbJ5_init_d00df_0 : (decode dsJ5_init_d00df_0 0 = .ok (.aload_n 0, 1) ∧ okop dsJ5_init_d00df_0 0 = true) ∧ (decode dsJ5_init_d00df_0 1 = .ok (.invokespecial 3, 3) ∧ okop dsJ5_init_d00df_0 1 = true) ∧ (decode dsJ5_init_d00df_0 4 = .ok (.getstatic 18, 3) ∧ okop dsJ5_init_d00df_0 4 = true) ∧ (decode dsJ5_init_d00df_0 7 = .ok (.ifCond .eq 18, 3) ∧ okop dsJ5_init_d00df_0 7 = true) ∧ (decode dsJ5_init_d00df_0 10 = .ok (.aload_n 0, 1) ∧ okop dsJ5_init_d00df_0 10 = true) ∧ (decode dsJ5_init_d00df_0 11 = .ok (.iload_n 1, 1) ∧ okop dsJ5_init_d00df_0 11 = true) ∧ (decode dsJ5_init_d00df_0 14 = .ok (.putfield 15, 3) ∧ okop dsJ5_init_d00df_0 14 = true) ∧ (decode dsJ5_init_d00df_0 17 = .ok (.aload_n 0, 1) ∧ okop dsJ5_init_d00df_0 17 = true) ∧ (decode dsJ5_init_d00df_0 18 = .ok (.iconst 0, 1) ∧ okop dsJ5_init_d00df_0 18 = true) ∧ (decode dsJ5_init_d00df_0 19 = .ok (.putfield 22, 3) ∧ okop dsJ5_init_d00df_0 19 = true) := by decide +kernel
theorem dJ5_init_d00df_0 : decode cJ5_init_d00df 0 = .ok (.aload_n 0, 1) := dgq (p := 0) daJ5_init_d00df_0 dbJ5_init_d00df_0.1
theorem dJ5_init_d00df_1 : decode cJ5_init_d00df 1 = .ok (.invokespecial 3, 3) := dgq (p := 1) daJ5_init_d00df_0 dbJ5_init_d00df_0.2.1
theorem dJ5_init_d00df_4 : decode cJ5_init_d00df 4 = .ok (.getstatic 18, 3) := dgq (p := 4) daJ5_init_d00df_0 dbJ5_init_d00df_0.2.2.1
theorem dJ5_init_d00df_7 : decode cJ5_init_d00df 7 = .ok (.ifCond .eq 18, 3) := dgq (p := 7) daJ5_init_d00df_0 dbJ5_init_d00df_0.2.2.2.1
theorem dJ5_init_d00df_10 : decode cJ5_init_d00df 10 = .ok (.aload_n 0, 1) := dgq (p := 10) daJ5_init_d00df_0 dbJ5_init_d00df_0.2.2.2.2.1
theorem dJ5_init_d00df_11 : decode cJ5_init_d00df 11 = .ok (.iload_n 1, 1) := dgq (p := 11) daJ5_init_d00df_0 dbJ5_init_d00df_0.2.2.2.2.2.1
theorem dJ5_init_d00df_14 : decode cJ5_init_d00df 14 = .ok (.putfield 15, 3) := dgq (p := 14) daJ5_init_d00df_0 dbJ5_init_d00df_0.2.2.2.2.2.2.1
theorem dJ5_init_d00df_17 : decode cJ5_init_d00df 17 = .ok (.aload_n 0, 1) := dgq (p := 17) daJ5_init_d00df_0 dbJ5_init_d00df_0.2.2.2.2.2.2.2.1
theorem dJ5_init_d00df_18 : decode cJ5_init_d00df 18 = .ok (.iconst 0, 1) := dgq (p := 18) daJ5_init_d00df_0 dbJ5_init_d00df_0.2.2.2.2.2.2.2.2.1
theorem dJ5_init_d00df_19 : decode cJ5_init_d00df 19 = .ok (.putfield 22, 3) := dgq (p := 19) daJ5_init_d00df_0 dbJ5_init_d00df_0.2.2.2.2.2.2.2.2.2
def dsJ5_init_d00df_22 : ByteArray := ⟨#[167, 0, 16, 42, 27, 184, 0, 26, 181, 0, 15, 42, 4, 181, 0, 22, 177]⟩
theorem daJ5_init_d00df_22 : agB cJ5_init_d00df dsJ5_init_d00df_22 22 := agB_of (n := 17) (by decide +kernel)
theorem dbJ5_init_d00df_22 : (decode dsJ5_init_d00df_22 0 = .ok (.goto 16, 3) ∧ okop dsJ5_init_d00df_22 0 = true) ∧ (decode dsJ5_init_d00df_22 3 = .ok (.aload_n 0, 1) ∧ okop dsJ5_init_d00df_22 3 = true) ∧ (decode dsJ5_init_d00df_22 4 = .ok (.iload_n 1, 1) ∧ okop dsJ5_init_d00df_22 4 = true) ∧ (decode dsJ5_init_d00df_22 5 = .ok (.invokestatic 26, 3) ∧ okop dsJ5_init_d00df_22 5 = true) ∧ (decode dsJ5_init_d00df_22 8 = .ok (.putfield 15, 3) ∧ okop dsJ5_init_d00df_22 8 = true) ∧ (decode dsJ5_init_d00df_22 11 = .ok (.aload_n 0, 1) ∧ okop dsJ5_init_d00df_22 11 = true) ∧ (decode dsJ5_init_d00df_22 12 = .ok (.iconst 1, 1) ∧ okop dsJ5_init_d00df_22 12 = true) ∧ (decode dsJ5_init_d00df_22 13 = .ok (.putfield 22, 3) ∧ okop dsJ5_init_d00df_22 13 = true) ∧ (decode dsJ5_init_d00df_22 16 = .ok (.return_, 1) ∧ okop dsJ5_init_d00df_22 16 = true) := by decide +kernel
theorem dJ5_init_d00df_22 : decode cJ5_init_d00df 22 = .ok (.goto 16, 3) := dgq (p := 0) daJ5_init_d00df_22 dbJ5_init_d00df_22.1
theorem dJ5_init_d00df_25 : decode cJ5_init_d00df 25 = .ok (.aload_n 0, 1) := dgq (p := 3) daJ5_init_d00df_22 dbJ5_init_d00df_22.2.1
theorem dJ5_init_d00df_26 : decode cJ5_init_d00df 26 = .ok (.iload_n 1, 1) := dgq (p := 4) daJ5_init_d00df_22 dbJ5_init_d00df_22.2.2.1
theorem dJ5_init_d00df_27 : decode cJ5_init_d00df 27 = .ok (.invokestatic 26, 3) := dgq (p := 5) daJ5_init_d00df_22 dbJ5_init_d00df_22.2.2.2.1
theorem dJ5_init_d00df_30 : decode cJ5_init_d00df 30 = .ok (.putfield 15, 3) := dgq (p := 8) daJ5_init_d00df_22 dbJ5_init_d00df_22.2.2.2.2.1
theorem dJ5_init_d00df_33 : decode cJ5_init_d00df 33 = .ok (.aload_n 0, 1) := dgq (p := 11) daJ5_init_d00df_22 dbJ5_init_d00df_22.2.2.2.2.2.1
theorem dJ5_init_d00df_34 : decode cJ5_init_d00df 34 = .ok (.iconst 1, 1) := dgq (p := 12) daJ5_init_d00df_22 dbJ5_init_d00df_22.2.2.2.2.2.2.1
theorem dJ5_init_d00df_35 : decode cJ5_init_d00df 35 = .ok (.putfield 22, 3) := dgq (p := 13) daJ5_init_d00df_22 dbJ5_init_d00df_22.2.2.2.2.2.2.2.1
theorem dJ5_init_d00df_38 : decode cJ5_init_d00df 38 = .ok (.return_, 1) := dgq (p := 16) daJ5_init_d00df_22 dbJ5_init_d00df_22.2.2.2.2.2.2.2.2
def dsJ5_length_8abf5_0 : ByteArray := ⟨#[42, 180, 0, 79, 172]⟩
theorem daJ5_length_8abf5_0 : agB cJ5_length_8abf5 dsJ5_length_8abf5_0 0 := agB_of (n := 5) (by decide +kernel)
theorem dbJ5_length_8abf5_0 : (decode dsJ5_length_8abf5_0 0 = .ok (.aload_n 0, 1) ∧ okop dsJ5_length_8abf5_0 0 = true) ∧ (decode dsJ5_length_8abf5_0 1 = .ok (.getfield 79, 3) ∧ okop dsJ5_length_8abf5_0 1 = true) ∧ (decode dsJ5_length_8abf5_0 4 = .ok (.ireturn, 1) ∧ okop dsJ5_length_8abf5_0 4 = true) := by decide +kernel
theorem dJ5_length_8abf5_0 : decode cJ5_length_8abf5 0 = .ok (.aload_n 0, 1) := dgq (p := 0) daJ5_length_8abf5_0 dbJ5_length_8abf5_0.1
theorem dJ5_length_8abf5_1 : decode cJ5_length_8abf5 1 = .ok (.getfield 79, 3) := dgq (p := 1) daJ5_length_8abf5_0 dbJ5_length_8abf5_0.2.1
theorem dJ5_length_8abf5_4 : decode cJ5_length_8abf5 4 = .ok (.ireturn, 1) := dgq (p := 4) daJ5_length_8abf5_0 dbJ5_length_8abf5_0.2.2
set_option maxRecDepth 20000 in
theorem ggJ5_ensureCapacityInternal_d00df_J5_newCapacity_0f7a4 : GoodIn wsJ5_ensureCapacityInternal_d00df wsJ5_newCapacity_0f7a4 := goodIn_ca (goodIn_q _ [8, 1, 2, 9, 10, 11, 12, 13, 14, 15, 16, 17, 18, 19, 20, 21] rfl (by decide +kernel)) (goodIn_sub (fun _ h => (List.mem_cons_of_mem _ (List.mem_append_right _ h))) tg_wsJ40)
set_option maxRecDepth 20000 in
theorem gJ5_ensureCapacityInternal_d00df_J5_newCapacity_0f7a4_u104J4 : GoodIn wsJ5_ensureCapacityInternal_d00df (va_wsU RJ5 104 RJ4 "java/lang/AbstractStringBuilder" ⟨"java/lang/AbstractStringBuilder", "newCapacity", "(I)I"⟩ yJ5_newCapacity_0f7a4 wsJ5_newCapacity_0f7a4) := goodIn_app (goodIn_of _ (by decide +kernel)) ggJ5_ensureCapacityInternal_d00df_J5_newCapacity_0f7a4
set_option maxRecDepth 20000 in
theorem ggJ5_ensureCapacityInternal_d00df_J7_copyOf_9075b : GoodIn wsJ5_ensureCapacityInternal_d00df wsJ7_copyOf_9075b := goodIn_q _ [25, 26, 27, 28, 29, 30, 31, 32, 33, 34, 16, 35, 36, 37, 38, 39] rfl (by decide +kernel)
set_option maxRecDepth 20000 in
theorem gJ5_ensureCapacityInternal_d00df_J7_copyOf_9075b : GoodIn wsJ5_ensureCapacityInternal_d00df (va_wsS RJ5 108 yJ7_copyOf_9075b wsJ7_copyOf_9075b) := goodIn_app (goodIn_q _ [22, 23, 24] rfl (by decide +kernel)) ggJ5_ensureCapacityInternal_d00df_J7_copyOf_9075b
def dsJ5_ensureCapacityInternal_d00df_0 : ByteArray := ⟨#[42, 180, 0, 15, 190, 42, 180, 0, 22, 122, 61, 27, 28, 100]⟩
theorem daJ5_ensureCapacityInternal_d00df_0 : agB cJ5_ensureCapacityInternal_d00df dsJ5_ensureCapacityInternal_d00df_0 0 := agB_of (n := 14) (by decide +kernel)
theorem dbJ5_ensureCapacityInternal_d00df_0 : (decode dsJ5_ensureCapacityInternal_d00df_0 0 = .ok (.aload_n 0, 1) ∧ okop dsJ5_ensureCapacityInternal_d00df_0 0 = true) ∧ (decode dsJ5_ensureCapacityInternal_d00df_0 1 = .ok (.getfield 15, 3) ∧ okop dsJ5_ensureCapacityInternal_d00df_0 1 = true) ∧ (decode dsJ5_ensureCapacityInternal_d00df_0 4 = .ok (.arraylength, 1) ∧ okop dsJ5_ensureCapacityInternal_d00df_0 4 = true) ∧ (decode dsJ5_ensureCapacityInternal_d00df_0 5 = .ok (.aload_n 0, 1) ∧ okop dsJ5_ensureCapacityInternal_d00df_0 5 = true) ∧ (decode dsJ5_ensureCapacityInternal_d00df_0 6 = .ok (.getfield 22, 3) ∧ okop dsJ5_ensureCapacityInternal_d00df_0 6 = true) ∧ (decode dsJ5_ensureCapacityInternal_d00df_0 9 = .ok (.ishr, 1) ∧ okop dsJ5_ensureCapacityInternal_d00df_0 9 = true) ∧ (decode dsJ5_ensureCapacityInternal_d00df_0 10 = .ok (.istore_n 2, 1) ∧ okop dsJ5_ensureCapacityInternal_d00df_0 10 = true) ∧ (decode dsJ5_ensureCapacityInternal_d00df_0 11 = .ok (.iload_n 1, 1) ∧ okop dsJ5_ensureCapacityInternal_d00df_0 11 = true) ∧ (decode dsJ5_ensureCapacityInternal_d00df_0 12 = .ok (.iload_n 2, 1) ∧ okop dsJ5_ensureCapacityInternal_d00df_0 12 = true) ∧ (decode dsJ5_ensureCapacityInternal_d00df_0 13 = .ok (.isub, 1) ∧ okop dsJ5_ensureCapacityInternal_d00df_0 13 = true) := by decide +kernel
theorem dJ5_ensureCapacityInternal_d00df_0 : decode cJ5_ensureCapacityInternal_d00df 0 = .ok (.aload_n 0, 1) := dgq (p := 0) daJ5_ensureCapacityInternal_d00df_0 dbJ5_ensureCapacityInternal_d00df_0.1
theorem dJ5_ensureCapacityInternal_d00df_1 : decode cJ5_ensureCapacityInternal_d00df 1 = .ok (.getfield 15, 3) := dgq (p := 1) daJ5_ensureCapacityInternal_d00df_0 dbJ5_ensureCapacityInternal_d00df_0.2.1
theorem dJ5_ensureCapacityInternal_d00df_4 : decode cJ5_ensureCapacityInternal_d00df 4 = .ok (.arraylength, 1) := dgq (p := 4) daJ5_ensureCapacityInternal_d00df_0 dbJ5_ensureCapacityInternal_d00df_0.2.2.1
theorem dJ5_ensureCapacityInternal_d00df_5 : decode cJ5_ensureCapacityInternal_d00df 5 = .ok (.aload_n 0, 1) := dgq (p := 5) daJ5_ensureCapacityInternal_d00df_0 dbJ5_ensureCapacityInternal_d00df_0.2.2.2.1
theorem dJ5_ensureCapacityInternal_d00df_6 : decode cJ5_ensureCapacityInternal_d00df 6 = .ok (.getfield 22, 3) := dgq (p := 6) daJ5_ensureCapacityInternal_d00df_0 dbJ5_ensureCapacityInternal_d00df_0.2.2.2.2.1
theorem dJ5_ensureCapacityInternal_d00df_9 : decode cJ5_ensureCapacityInternal_d00df 9 = .ok (.ishr, 1) := dgq (p := 9) daJ5_ensureCapacityInternal_d00df_0 dbJ5_ensureCapacityInternal_d00df_0.2.2.2.2.2.1
theorem dJ5_ensureCapacityInternal_d00df_10 : decode cJ5_ensureCapacityInternal_d00df 10 = .ok (.istore_n 2, 1) := dgq (p := 10) daJ5_ensureCapacityInternal_d00df_0 dbJ5_ensureCapacityInternal_d00df_0.2.2.2.2.2.2.1
theorem dJ5_ensureCapacityInternal_d00df_11 : decode cJ5_ensureCapacityInternal_d00df 11 = .ok (.iload_n 1, 1) := dgq (p := 11) daJ5_ensureCapacityInternal_d00df_0 dbJ5_ensureCapacityInternal_d00df_0.2.2.2.2.2.2.2.1
theorem dJ5_ensureCapacityInternal_d00df_12 : decode cJ5_ensureCapacityInternal_d00df 12 = .ok (.iload_n 2, 1) := dgq (p := 12) daJ5_ensureCapacityInternal_d00df_0 dbJ5_ensureCapacityInternal_d00df_0.2.2.2.2.2.2.2.2.1
theorem dJ5_ensureCapacityInternal_d00df_13 : decode cJ5_ensureCapacityInternal_d00df 13 = .ok (.isub, 1) := dgq (p := 13) daJ5_ensureCapacityInternal_d00df_0 dbJ5_ensureCapacityInternal_d00df_0.2.2.2.2.2.2.2.2.2
def dsJ5_ensureCapacityInternal_d00df_14 : ByteArray := ⟨#[158, 0, 24, 42, 42, 180, 0, 15, 42, 27, 182, 0, 104, 42, 180, 0, 22, 120]⟩
theorem daJ5_ensureCapacityInternal_d00df_14 : agB cJ5_ensureCapacityInternal_d00df dsJ5_ensureCapacityInternal_d00df_14 14 := agB_of (n := 18) (by decide +kernel)
theorem dbJ5_ensureCapacityInternal_d00df_14 : (decode dsJ5_ensureCapacityInternal_d00df_14 0 = .ok (.ifCond .le 24, 3) ∧ okop dsJ5_ensureCapacityInternal_d00df_14 0 = true) ∧ (decode dsJ5_ensureCapacityInternal_d00df_14 3 = .ok (.aload_n 0, 1) ∧ okop dsJ5_ensureCapacityInternal_d00df_14 3 = true) ∧ (decode dsJ5_ensureCapacityInternal_d00df_14 4 = .ok (.aload_n 0, 1) ∧ okop dsJ5_ensureCapacityInternal_d00df_14 4 = true) ∧ (decode dsJ5_ensureCapacityInternal_d00df_14 5 = .ok (.getfield 15, 3) ∧ okop dsJ5_ensureCapacityInternal_d00df_14 5 = true) ∧ (decode dsJ5_ensureCapacityInternal_d00df_14 8 = .ok (.aload_n 0, 1) ∧ okop dsJ5_ensureCapacityInternal_d00df_14 8 = true) ∧ (decode dsJ5_ensureCapacityInternal_d00df_14 9 = .ok (.iload_n 1, 1) ∧ okop dsJ5_ensureCapacityInternal_d00df_14 9 = true) ∧ (decode dsJ5_ensureCapacityInternal_d00df_14 10 = .ok (.invokevirtual 104, 3) ∧ okop dsJ5_ensureCapacityInternal_d00df_14 10 = true) ∧ (decode dsJ5_ensureCapacityInternal_d00df_14 13 = .ok (.aload_n 0, 1) ∧ okop dsJ5_ensureCapacityInternal_d00df_14 13 = true) ∧ (decode dsJ5_ensureCapacityInternal_d00df_14 14 = .ok (.getfield 22, 3) ∧ okop dsJ5_ensureCapacityInternal_d00df_14 14 = true) ∧ (decode dsJ5_ensureCapacityInternal_d00df_14 17 = .ok (.ishl, 1) ∧ okop dsJ5_ensureCapacityInternal_d00df_14 17 = true) := by decide +kernel
theorem dJ5_ensureCapacityInternal_d00df_14 : decode cJ5_ensureCapacityInternal_d00df 14 = .ok (.ifCond .le 24, 3) := dgq (p := 0) daJ5_ensureCapacityInternal_d00df_14 dbJ5_ensureCapacityInternal_d00df_14.1
theorem dJ5_ensureCapacityInternal_d00df_17 : decode cJ5_ensureCapacityInternal_d00df 17 = .ok (.aload_n 0, 1) := dgq (p := 3) daJ5_ensureCapacityInternal_d00df_14 dbJ5_ensureCapacityInternal_d00df_14.2.1
theorem dJ5_ensureCapacityInternal_d00df_18 : decode cJ5_ensureCapacityInternal_d00df 18 = .ok (.aload_n 0, 1) := dgq (p := 4) daJ5_ensureCapacityInternal_d00df_14 dbJ5_ensureCapacityInternal_d00df_14.2.2.1
theorem dJ5_ensureCapacityInternal_d00df_19 : decode cJ5_ensureCapacityInternal_d00df 19 = .ok (.getfield 15, 3) := dgq (p := 5) daJ5_ensureCapacityInternal_d00df_14 dbJ5_ensureCapacityInternal_d00df_14.2.2.2.1
theorem dJ5_ensureCapacityInternal_d00df_22 : decode cJ5_ensureCapacityInternal_d00df 22 = .ok (.aload_n 0, 1) := dgq (p := 8) daJ5_ensureCapacityInternal_d00df_14 dbJ5_ensureCapacityInternal_d00df_14.2.2.2.2.1
theorem dJ5_ensureCapacityInternal_d00df_23 : decode cJ5_ensureCapacityInternal_d00df 23 = .ok (.iload_n 1, 1) := dgq (p := 9) daJ5_ensureCapacityInternal_d00df_14 dbJ5_ensureCapacityInternal_d00df_14.2.2.2.2.2.1
theorem dJ5_ensureCapacityInternal_d00df_24 : decode cJ5_ensureCapacityInternal_d00df 24 = .ok (.invokevirtual 104, 3) := dgq (p := 10) daJ5_ensureCapacityInternal_d00df_14 dbJ5_ensureCapacityInternal_d00df_14.2.2.2.2.2.2.1
theorem dJ5_ensureCapacityInternal_d00df_27 : decode cJ5_ensureCapacityInternal_d00df 27 = .ok (.aload_n 0, 1) := dgq (p := 13) daJ5_ensureCapacityInternal_d00df_14 dbJ5_ensureCapacityInternal_d00df_14.2.2.2.2.2.2.2.1
theorem dJ5_ensureCapacityInternal_d00df_28 : decode cJ5_ensureCapacityInternal_d00df 28 = .ok (.getfield 22, 3) := dgq (p := 14) daJ5_ensureCapacityInternal_d00df_14 dbJ5_ensureCapacityInternal_d00df_14.2.2.2.2.2.2.2.2.1
theorem dJ5_ensureCapacityInternal_d00df_31 : decode cJ5_ensureCapacityInternal_d00df 31 = .ok (.ishl, 1) := dgq (p := 17) daJ5_ensureCapacityInternal_d00df_14 dbJ5_ensureCapacityInternal_d00df_14.2.2.2.2.2.2.2.2.2
def dsJ5_ensureCapacityInternal_d00df_32 : ByteArray := ⟨#[184, 0, 108, 181, 0, 15, 177]⟩
theorem daJ5_ensureCapacityInternal_d00df_32 : agB cJ5_ensureCapacityInternal_d00df dsJ5_ensureCapacityInternal_d00df_32 32 := agB_of (n := 7) (by decide +kernel)
theorem dbJ5_ensureCapacityInternal_d00df_32 : (decode dsJ5_ensureCapacityInternal_d00df_32 0 = .ok (.invokestatic 108, 3) ∧ okop dsJ5_ensureCapacityInternal_d00df_32 0 = true) ∧ (decode dsJ5_ensureCapacityInternal_d00df_32 3 = .ok (.putfield 15, 3) ∧ okop dsJ5_ensureCapacityInternal_d00df_32 3 = true) ∧ (decode dsJ5_ensureCapacityInternal_d00df_32 6 = .ok (.return_, 1) ∧ okop dsJ5_ensureCapacityInternal_d00df_32 6 = true) := by decide +kernel
theorem dJ5_ensureCapacityInternal_d00df_32 : decode cJ5_ensureCapacityInternal_d00df 32 = .ok (.invokestatic 108, 3) := dgq (p := 0) daJ5_ensureCapacityInternal_d00df_32 dbJ5_ensureCapacityInternal_d00df_32.1
theorem dJ5_ensureCapacityInternal_d00df_35 : decode cJ5_ensureCapacityInternal_d00df 35 = .ok (.putfield 15, 3) := dgq (p := 3) daJ5_ensureCapacityInternal_d00df_32 dbJ5_ensureCapacityInternal_d00df_32.2.1
theorem dJ5_ensureCapacityInternal_d00df_38 : decode cJ5_ensureCapacityInternal_d00df 38 = .ok (.return_, 1) := dgq (p := 6) daJ5_ensureCapacityInternal_d00df_32 dbJ5_ensureCapacityInternal_d00df_32.2.2
set_option maxRecDepth 20000 in
theorem ggJ5_newCapacity_0f7a4_J8_newLength_cabcc : GoodIn wsJ5_newCapacity_0f7a4 wsJ8_newLength_cabcc := goodIn_q _ [7, 8, 9, 10, 11, 12, 13, 14, 6, 15] rfl (by decide +kernel)
set_option maxRecDepth 20000 in
theorem gJ5_newCapacity_0f7a4_J8_newLength_cabcc : GoodIn wsJ5_newCapacity_0f7a4 (va_wsS RJ5 114 yJ8_newLength_cabcc wsJ8_newLength_cabcc) := goodIn_app (goodIn_q _ [4, 5, 6] rfl (by decide +kernel)) ggJ5_newCapacity_0f7a4_J8_newLength_cabcc
def dsJ5_newCapacity_0f7a4_0 : ByteArray := ⟨#[42, 180, 0, 15, 190, 61, 27, 42, 180, 0, 22, 120, 62, 29]⟩
theorem daJ5_newCapacity_0f7a4_0 : agB cJ5_newCapacity_0f7a4 dsJ5_newCapacity_0f7a4_0 0 := agB_of (n := 14) (by decide +kernel)
theorem dbJ5_newCapacity_0f7a4_0 : (decode dsJ5_newCapacity_0f7a4_0 0 = .ok (.aload_n 0, 1) ∧ okop dsJ5_newCapacity_0f7a4_0 0 = true) ∧ (decode dsJ5_newCapacity_0f7a4_0 1 = .ok (.getfield 15, 3) ∧ okop dsJ5_newCapacity_0f7a4_0 1 = true) ∧ (decode dsJ5_newCapacity_0f7a4_0 4 = .ok (.arraylength, 1) ∧ okop dsJ5_newCapacity_0f7a4_0 4 = true) ∧ (decode dsJ5_newCapacity_0f7a4_0 5 = .ok (.istore_n 2, 1) ∧ okop dsJ5_newCapacity_0f7a4_0 5 = true) ∧ (decode dsJ5_newCapacity_0f7a4_0 6 = .ok (.iload_n 1, 1) ∧ okop dsJ5_newCapacity_0f7a4_0 6 = true) ∧ (decode dsJ5_newCapacity_0f7a4_0 7 = .ok (.aload_n 0, 1) ∧ okop dsJ5_newCapacity_0f7a4_0 7 = true) ∧ (decode dsJ5_newCapacity_0f7a4_0 8 = .ok (.getfield 22, 3) ∧ okop dsJ5_newCapacity_0f7a4_0 8 = true) ∧ (decode dsJ5_newCapacity_0f7a4_0 11 = .ok (.ishl, 1) ∧ okop dsJ5_newCapacity_0f7a4_0 11 = true) ∧ (decode dsJ5_newCapacity_0f7a4_0 12 = .ok (.istore_n 3, 1) ∧ okop dsJ5_newCapacity_0f7a4_0 12 = true) ∧ (decode dsJ5_newCapacity_0f7a4_0 13 = .ok (.iload_n 3, 1) ∧ okop dsJ5_newCapacity_0f7a4_0 13 = true) := by decide +kernel
theorem dJ5_newCapacity_0f7a4_0 : decode cJ5_newCapacity_0f7a4 0 = .ok (.aload_n 0, 1) := dgq (p := 0) daJ5_newCapacity_0f7a4_0 dbJ5_newCapacity_0f7a4_0.1
theorem dJ5_newCapacity_0f7a4_1 : decode cJ5_newCapacity_0f7a4 1 = .ok (.getfield 15, 3) := dgq (p := 1) daJ5_newCapacity_0f7a4_0 dbJ5_newCapacity_0f7a4_0.2.1
theorem dJ5_newCapacity_0f7a4_4 : decode cJ5_newCapacity_0f7a4 4 = .ok (.arraylength, 1) := dgq (p := 4) daJ5_newCapacity_0f7a4_0 dbJ5_newCapacity_0f7a4_0.2.2.1
theorem dJ5_newCapacity_0f7a4_5 : decode cJ5_newCapacity_0f7a4 5 = .ok (.istore_n 2, 1) := dgq (p := 5) daJ5_newCapacity_0f7a4_0 dbJ5_newCapacity_0f7a4_0.2.2.2.1
theorem dJ5_newCapacity_0f7a4_6 : decode cJ5_newCapacity_0f7a4 6 = .ok (.iload_n 1, 1) := dgq (p := 6) daJ5_newCapacity_0f7a4_0 dbJ5_newCapacity_0f7a4_0.2.2.2.2.1
theorem dJ5_newCapacity_0f7a4_7 : decode cJ5_newCapacity_0f7a4 7 = .ok (.aload_n 0, 1) := dgq (p := 7) daJ5_newCapacity_0f7a4_0 dbJ5_newCapacity_0f7a4_0.2.2.2.2.2.1
theorem dJ5_newCapacity_0f7a4_8 : decode cJ5_newCapacity_0f7a4 8 = .ok (.getfield 22, 3) := dgq (p := 8) daJ5_newCapacity_0f7a4_0 dbJ5_newCapacity_0f7a4_0.2.2.2.2.2.2.1
theorem dJ5_newCapacity_0f7a4_11 : decode cJ5_newCapacity_0f7a4 11 = .ok (.ishl, 1) := dgq (p := 11) daJ5_newCapacity_0f7a4_0 dbJ5_newCapacity_0f7a4_0.2.2.2.2.2.2.2.1
theorem dJ5_newCapacity_0f7a4_12 : decode cJ5_newCapacity_0f7a4 12 = .ok (.istore_n 3, 1) := dgq (p := 12) daJ5_newCapacity_0f7a4_0 dbJ5_newCapacity_0f7a4_0.2.2.2.2.2.2.2.2.1
theorem dJ5_newCapacity_0f7a4_13 : decode cJ5_newCapacity_0f7a4 13 = .ok (.iload_n 3, 1) := dgq (p := 13) daJ5_newCapacity_0f7a4_0 dbJ5_newCapacity_0f7a4_0.2.2.2.2.2.2.2.2.2
def dsJ5_newCapacity_0f7a4_14 : ByteArray := ⟨#[28, 100, 54, 4, 28, 21, 4, 28, 5, 42, 180, 0, 22, 120]⟩
theorem daJ5_newCapacity_0f7a4_14 : agB cJ5_newCapacity_0f7a4 dsJ5_newCapacity_0f7a4_14 14 := agB_of (n := 14) (by decide +kernel)
theorem dbJ5_newCapacity_0f7a4_14 : (decode dsJ5_newCapacity_0f7a4_14 0 = .ok (.iload_n 2, 1) ∧ okop dsJ5_newCapacity_0f7a4_14 0 = true) ∧ (decode dsJ5_newCapacity_0f7a4_14 1 = .ok (.isub, 1) ∧ okop dsJ5_newCapacity_0f7a4_14 1 = true) ∧ (decode dsJ5_newCapacity_0f7a4_14 2 = .ok (.istore 4, 2) ∧ okop dsJ5_newCapacity_0f7a4_14 2 = true) ∧ (decode dsJ5_newCapacity_0f7a4_14 4 = .ok (.iload_n 2, 1) ∧ okop dsJ5_newCapacity_0f7a4_14 4 = true) ∧ (decode dsJ5_newCapacity_0f7a4_14 5 = .ok (.iload 4, 2) ∧ okop dsJ5_newCapacity_0f7a4_14 5 = true) ∧ (decode dsJ5_newCapacity_0f7a4_14 7 = .ok (.iload_n 2, 1) ∧ okop dsJ5_newCapacity_0f7a4_14 7 = true) ∧ (decode dsJ5_newCapacity_0f7a4_14 8 = .ok (.iconst 2, 1) ∧ okop dsJ5_newCapacity_0f7a4_14 8 = true) ∧ (decode dsJ5_newCapacity_0f7a4_14 9 = .ok (.aload_n 0, 1) ∧ okop dsJ5_newCapacity_0f7a4_14 9 = true) ∧ (decode dsJ5_newCapacity_0f7a4_14 10 = .ok (.getfield 22, 3) ∧ okop dsJ5_newCapacity_0f7a4_14 10 = true) ∧ (decode dsJ5_newCapacity_0f7a4_14 13 = .ok (.ishl, 1) ∧ okop dsJ5_newCapacity_0f7a4_14 13 = true) := by decide +kernel
theorem dJ5_newCapacity_0f7a4_14 : decode cJ5_newCapacity_0f7a4 14 = .ok (.iload_n 2, 1) := dgq (p := 0) daJ5_newCapacity_0f7a4_14 dbJ5_newCapacity_0f7a4_14.1
theorem dJ5_newCapacity_0f7a4_15 : decode cJ5_newCapacity_0f7a4 15 = .ok (.isub, 1) := dgq (p := 1) daJ5_newCapacity_0f7a4_14 dbJ5_newCapacity_0f7a4_14.2.1
theorem dJ5_newCapacity_0f7a4_16 : decode cJ5_newCapacity_0f7a4 16 = .ok (.istore 4, 2) := dgq (p := 2) daJ5_newCapacity_0f7a4_14 dbJ5_newCapacity_0f7a4_14.2.2.1
theorem dJ5_newCapacity_0f7a4_18 : decode cJ5_newCapacity_0f7a4 18 = .ok (.iload_n 2, 1) := dgq (p := 4) daJ5_newCapacity_0f7a4_14 dbJ5_newCapacity_0f7a4_14.2.2.2.1
theorem dJ5_newCapacity_0f7a4_19 : decode cJ5_newCapacity_0f7a4 19 = .ok (.iload 4, 2) := dgq (p := 5) daJ5_newCapacity_0f7a4_14 dbJ5_newCapacity_0f7a4_14.2.2.2.2.1
theorem dJ5_newCapacity_0f7a4_21 : decode cJ5_newCapacity_0f7a4 21 = .ok (.iload_n 2, 1) := dgq (p := 7) daJ5_newCapacity_0f7a4_14 dbJ5_newCapacity_0f7a4_14.2.2.2.2.2.1
theorem dJ5_newCapacity_0f7a4_22 : decode cJ5_newCapacity_0f7a4 22 = .ok (.iconst 2, 1) := dgq (p := 8) daJ5_newCapacity_0f7a4_14 dbJ5_newCapacity_0f7a4_14.2.2.2.2.2.2.1
theorem dJ5_newCapacity_0f7a4_23 : decode cJ5_newCapacity_0f7a4 23 = .ok (.aload_n 0, 1) := dgq (p := 9) daJ5_newCapacity_0f7a4_14 dbJ5_newCapacity_0f7a4_14.2.2.2.2.2.2.2.1
theorem dJ5_newCapacity_0f7a4_24 : decode cJ5_newCapacity_0f7a4 24 = .ok (.getfield 22, 3) := dgq (p := 10) daJ5_newCapacity_0f7a4_14 dbJ5_newCapacity_0f7a4_14.2.2.2.2.2.2.2.2.1
theorem dJ5_newCapacity_0f7a4_27 : decode cJ5_newCapacity_0f7a4 27 = .ok (.ishl, 1) := dgq (p := 13) daJ5_newCapacity_0f7a4_14 dbJ5_newCapacity_0f7a4_14.2.2.2.2.2.2.2.2.2
def dsJ5_newCapacity_0f7a4_28 : ByteArray := ⟨#[96, 184, 0, 114, 54, 5, 21, 5, 18, 39, 160, 0, 13, 187, 0, 120, 89, 18, 122, 183, 0, 124]⟩
theorem daJ5_newCapacity_0f7a4_28 : agB cJ5_newCapacity_0f7a4 dsJ5_newCapacity_0f7a4_28 28 := agB_of (n := 22) (by decide +kernel)
theorem dbJ5_newCapacity_0f7a4_28 : (decode dsJ5_newCapacity_0f7a4_28 0 = .ok (.iadd, 1) ∧ okop dsJ5_newCapacity_0f7a4_28 0 = true) ∧ (decode dsJ5_newCapacity_0f7a4_28 1 = .ok (.invokestatic 114, 3) ∧ okop dsJ5_newCapacity_0f7a4_28 1 = true) ∧ (decode dsJ5_newCapacity_0f7a4_28 4 = .ok (.istore 5, 2) ∧ okop dsJ5_newCapacity_0f7a4_28 4 = true) ∧ (decode dsJ5_newCapacity_0f7a4_28 6 = .ok (.iload 5, 2) ∧ okop dsJ5_newCapacity_0f7a4_28 6 = true) ∧ (decode dsJ5_newCapacity_0f7a4_28 8 = .ok (.ldc 39, 2) ∧ okop dsJ5_newCapacity_0f7a4_28 8 = true) ∧ (decode dsJ5_newCapacity_0f7a4_28 10 = .ok (.if_icmp .ne 13, 3) ∧ okop dsJ5_newCapacity_0f7a4_28 10 = true) ∧ (decode dsJ5_newCapacity_0f7a4_28 13 = .ok (.new 120, 3) ∧ okop dsJ5_newCapacity_0f7a4_28 13 = true) ∧ (decode dsJ5_newCapacity_0f7a4_28 16 = .ok (.dup, 1) ∧ okop dsJ5_newCapacity_0f7a4_28 16 = true) ∧ (decode dsJ5_newCapacity_0f7a4_28 17 = .ok (.ldc 122, 2) ∧ okop dsJ5_newCapacity_0f7a4_28 17 = true) ∧ (decode dsJ5_newCapacity_0f7a4_28 19 = .ok (.invokespecial 124, 3) ∧ okop dsJ5_newCapacity_0f7a4_28 19 = true) := by decide +kernel
theorem dJ5_newCapacity_0f7a4_28 : decode cJ5_newCapacity_0f7a4 28 = .ok (.iadd, 1) := dgq (p := 0) daJ5_newCapacity_0f7a4_28 dbJ5_newCapacity_0f7a4_28.1
theorem dJ5_newCapacity_0f7a4_29 : decode cJ5_newCapacity_0f7a4 29 = .ok (.invokestatic 114, 3) := dgq (p := 1) daJ5_newCapacity_0f7a4_28 dbJ5_newCapacity_0f7a4_28.2.1
theorem dJ5_newCapacity_0f7a4_32 : decode cJ5_newCapacity_0f7a4 32 = .ok (.istore 5, 2) := dgq (p := 4) daJ5_newCapacity_0f7a4_28 dbJ5_newCapacity_0f7a4_28.2.2.1
theorem dJ5_newCapacity_0f7a4_34 : decode cJ5_newCapacity_0f7a4 34 = .ok (.iload 5, 2) := dgq (p := 6) daJ5_newCapacity_0f7a4_28 dbJ5_newCapacity_0f7a4_28.2.2.2.1
theorem dJ5_newCapacity_0f7a4_36 : decode cJ5_newCapacity_0f7a4 36 = .ok (.ldc 39, 2) := dgq (p := 8) daJ5_newCapacity_0f7a4_28 dbJ5_newCapacity_0f7a4_28.2.2.2.2.1
theorem dJ5_newCapacity_0f7a4_38 : decode cJ5_newCapacity_0f7a4 38 = .ok (.if_icmp .ne 13, 3) := dgq (p := 10) daJ5_newCapacity_0f7a4_28 dbJ5_newCapacity_0f7a4_28.2.2.2.2.2.1
theorem dJ5_newCapacity_0f7a4_41 : decode cJ5_newCapacity_0f7a4 41 = .ok (.new 120, 3) := dgq (p := 13) daJ5_newCapacity_0f7a4_28 dbJ5_newCapacity_0f7a4_28.2.2.2.2.2.2.1
theorem dJ5_newCapacity_0f7a4_44 : decode cJ5_newCapacity_0f7a4 44 = .ok (.dup, 1) := dgq (p := 16) daJ5_newCapacity_0f7a4_28 dbJ5_newCapacity_0f7a4_28.2.2.2.2.2.2.2.1
theorem dJ5_newCapacity_0f7a4_45 : decode cJ5_newCapacity_0f7a4 45 = .ok (.ldc 122, 2) := dgq (p := 17) daJ5_newCapacity_0f7a4_28 dbJ5_newCapacity_0f7a4_28.2.2.2.2.2.2.2.2.1
theorem dJ5_newCapacity_0f7a4_47 : decode cJ5_newCapacity_0f7a4 47 = .ok (.invokespecial 124, 3) := dgq (p := 19) daJ5_newCapacity_0f7a4_28 dbJ5_newCapacity_0f7a4_28.2.2.2.2.2.2.2.2.2
def dsJ5_newCapacity_0f7a4_50 : ByteArray := ⟨#[191, 21, 5, 42, 180, 0, 22, 122, 172]⟩
theorem daJ5_newCapacity_0f7a4_50 : agB cJ5_newCapacity_0f7a4 dsJ5_newCapacity_0f7a4_50 50 := agB_of (n := 9) (by decide +kernel)
theorem dbJ5_newCapacity_0f7a4_50 : (decode dsJ5_newCapacity_0f7a4_50 0 = .ok (.athrow, 1) ∧ okop dsJ5_newCapacity_0f7a4_50 0 = true) ∧ (decode dsJ5_newCapacity_0f7a4_50 1 = .ok (.iload 5, 2) ∧ okop dsJ5_newCapacity_0f7a4_50 1 = true) ∧ (decode dsJ5_newCapacity_0f7a4_50 3 = .ok (.aload_n 0, 1) ∧ okop dsJ5_newCapacity_0f7a4_50 3 = true) ∧ (decode dsJ5_newCapacity_0f7a4_50 4 = .ok (.getfield 22, 3) ∧ okop dsJ5_newCapacity_0f7a4_50 4 = true) ∧ (decode dsJ5_newCapacity_0f7a4_50 7 = .ok (.ishr, 1) ∧ okop dsJ5_newCapacity_0f7a4_50 7 = true) ∧ (decode dsJ5_newCapacity_0f7a4_50 8 = .ok (.ireturn, 1) ∧ okop dsJ5_newCapacity_0f7a4_50 8 = true) := by decide +kernel
theorem dJ5_newCapacity_0f7a4_50 : decode cJ5_newCapacity_0f7a4 50 = .ok (.athrow, 1) := dgq (p := 0) daJ5_newCapacity_0f7a4_50 dbJ5_newCapacity_0f7a4_50.1
theorem dJ5_newCapacity_0f7a4_51 : decode cJ5_newCapacity_0f7a4 51 = .ok (.iload 5, 2) := dgq (p := 1) daJ5_newCapacity_0f7a4_50 dbJ5_newCapacity_0f7a4_50.2.1
theorem dJ5_newCapacity_0f7a4_53 : decode cJ5_newCapacity_0f7a4 53 = .ok (.aload_n 0, 1) := dgq (p := 3) daJ5_newCapacity_0f7a4_50 dbJ5_newCapacity_0f7a4_50.2.2.1
theorem dJ5_newCapacity_0f7a4_54 : decode cJ5_newCapacity_0f7a4 54 = .ok (.getfield 22, 3) := dgq (p := 4) daJ5_newCapacity_0f7a4_50 dbJ5_newCapacity_0f7a4_50.2.2.2.1
theorem dJ5_newCapacity_0f7a4_57 : decode cJ5_newCapacity_0f7a4 57 = .ok (.ishr, 1) := dgq (p := 7) daJ5_newCapacity_0f7a4_50 dbJ5_newCapacity_0f7a4_50.2.2.2.2.1
theorem dJ5_newCapacity_0f7a4_58 : decode cJ5_newCapacity_0f7a4 58 = .ok (.ireturn, 1) := dgq (p := 8) daJ5_newCapacity_0f7a4_50 dbJ5_newCapacity_0f7a4_50.2.2.2.2.2
set_option maxRecDepth 20000 in
theorem ggJ5_inflate_da8c8_J5_isLatin1_aae02 : GoodIn wsJ5_inflate_da8c8 wsJ5_isLatin1_aae02 := goodIn_ca (goodIn_q _ [9, 10, 3] rfl (by decide +kernel)) (goodIn_sub (fun _ h => (List.mem_cons_of_mem _ (List.mem_append_right _ h))) tg_wsJ40)
set_option maxRecDepth 20000 in
theorem gJ5_inflate_da8c8_J5_isLatin1_aae02_u83J4 : GoodIn wsJ5_inflate_da8c8 (va_wsU RJ5 83 RJ4 "java/lang/AbstractStringBuilder" ⟨"java/lang/AbstractStringBuilder", "isLatin1", "()Z"⟩ yJ5_isLatin1_aae02 wsJ5_isLatin1_aae02) := goodIn_app (goodIn_of _ (by decide +kernel)) ggJ5_inflate_da8c8_J5_isLatin1_aae02
set_option maxRecDepth 20000 in
theorem ggJ5_inflate_da8c8_J2_newBytesFor_77867 : GoodIn wsJ5_inflate_da8c8 wsJ2_newBytesFor_77867 := goodIn_q _ [14, 15, 16, 17, 13, 18, 19] rfl (by decide +kernel)
set_option maxRecDepth 20000 in
theorem gJ5_inflate_da8c8_J2_newBytesFor_77867 : GoodIn wsJ5_inflate_da8c8 (va_wsS RJ5 26 yJ2_newBytesFor_77867 wsJ2_newBytesFor_77867) := goodIn_app (goodIn_q _ [11, 12, 13] rfl (by decide +kernel)) ggJ5_inflate_da8c8_J2_newBytesFor_77867
set_option maxRecDepth 20000 in
theorem ggJ5_inflate_da8c8_J1_inflate_0e8fd : GoodIn wsJ5_inflate_da8c8 wsJ1_inflate_0e8fd := goodIn_q _ [23, 24, 25, 13, 26, 27, 28, 29, 30, 31, 32, 33, 34, 35, 36, 37, 38, 39, 40, 41, 42, 43, 44, 45, 46, 47] rfl (by decide +kernel)
set_option maxRecDepth 20000 in
theorem gJ5_inflate_da8c8_J1_inflate_0e8fd : GoodIn wsJ5_inflate_da8c8 (va_wsS RJ5 125 yJ1_inflate_0e8fd wsJ1_inflate_0e8fd) := goodIn_app (goodIn_q _ [20, 21, 22] rfl (by decide +kernel)) ggJ5_inflate_da8c8_J1_inflate_0e8fd
def dsJ5_inflate_da8c8_0 : ByteArray := ⟨#[42, 182, 0, 83, 154, 0, 4, 177, 42, 180, 0, 15, 190, 184, 0, 26, 76, 42]⟩
theorem daJ5_inflate_da8c8_0 : agB cJ5_inflate_da8c8 dsJ5_inflate_da8c8_0 0 := agB_of (n := 18) (by decide +kernel)
theorem dbJ5_inflate_da8c8_0 : (decode dsJ5_inflate_da8c8_0 0 = .ok (.aload_n 0, 1) ∧ okop dsJ5_inflate_da8c8_0 0 = true) ∧ (decode dsJ5_inflate_da8c8_0 1 = .ok (.invokevirtual 83, 3) ∧ okop dsJ5_inflate_da8c8_0 1 = true) ∧ (decode dsJ5_inflate_da8c8_0 4 = .ok (.ifCond .ne 4, 3) ∧ okop dsJ5_inflate_da8c8_0 4 = true) ∧ (decode dsJ5_inflate_da8c8_0 7 = .ok (.return_, 1) ∧ okop dsJ5_inflate_da8c8_0 7 = true) ∧ (decode dsJ5_inflate_da8c8_0 8 = .ok (.aload_n 0, 1) ∧ okop dsJ5_inflate_da8c8_0 8 = true) ∧ (decode dsJ5_inflate_da8c8_0 9 = .ok (.getfield 15, 3) ∧ okop dsJ5_inflate_da8c8_0 9 = true) ∧ (decode dsJ5_inflate_da8c8_0 12 = .ok (.arraylength, 1) ∧ okop dsJ5_inflate_da8c8_0 12 = true) ∧ (decode dsJ5_inflate_da8c8_0 13 = .ok (.invokestatic 26, 3) ∧ okop dsJ5_inflate_da8c8_0 13 = true) ∧ (decode dsJ5_inflate_da8c8_0 16 = .ok (.astore_n 1, 1) ∧ okop dsJ5_inflate_da8c8_0 16 = true) ∧ (decode dsJ5_inflate_da8c8_0 17 = .ok (.aload_n 0, 1) ∧ okop dsJ5_inflate_da8c8_0 17 = true) := by decide +kernel
theorem dJ5_inflate_da8c8_0 : decode cJ5_inflate_da8c8 0 = .ok (.aload_n 0, 1) := dgq (p := 0) daJ5_inflate_da8c8_0 dbJ5_inflate_da8c8_0.1
theorem dJ5_inflate_da8c8_1 : decode cJ5_inflate_da8c8 1 = .ok (.invokevirtual 83, 3) := dgq (p := 1) daJ5_inflate_da8c8_0 dbJ5_inflate_da8c8_0.2.1
theorem dJ5_inflate_da8c8_4 : decode cJ5_inflate_da8c8 4 = .ok (.ifCond .ne 4, 3) := dgq (p := 4) daJ5_inflate_da8c8_0 dbJ5_inflate_da8c8_0.2.2.1
theorem dJ5_inflate_da8c8_7 : decode cJ5_inflate_da8c8 7 = .ok (.return_, 1) := dgq (p := 7) daJ5_inflate_da8c8_0 dbJ5_inflate_da8c8_0.2.2.2.1
theorem dJ5_inflate_da8c8_8 : decode cJ5_inflate_da8c8 8 = .ok (.aload_n 0, 1) := dgq (p := 8) daJ5_inflate_da8c8_0 dbJ5_inflate_da8c8_0.2.2.2.2.1
theorem dJ5_inflate_da8c8_9 : decode cJ5_inflate_da8c8 9 = .ok (.getfield 15, 3) := dgq (p := 9) daJ5_inflate_da8c8_0 dbJ5_inflate_da8c8_0.2.2.2.2.2.1
theorem dJ5_inflate_da8c8_12 : decode cJ5_inflate_da8c8 12 = .ok (.arraylength, 1) := dgq (p := 12) daJ5_inflate_da8c8_0 dbJ5_inflate_da8c8_0.2.2.2.2.2.2.1
theorem dJ5_inflate_da8c8_13 : decode cJ5_inflate_da8c8 13 = .ok (.invokestatic 26, 3) := dgq (p := 13) daJ5_inflate_da8c8_0 dbJ5_inflate_da8c8_0.2.2.2.2.2.2.2.1
theorem dJ5_inflate_da8c8_16 : decode cJ5_inflate_da8c8 16 = .ok (.astore_n 1, 1) := dgq (p := 16) daJ5_inflate_da8c8_0 dbJ5_inflate_da8c8_0.2.2.2.2.2.2.2.2.1
theorem dJ5_inflate_da8c8_17 : decode cJ5_inflate_da8c8 17 = .ok (.aload_n 0, 1) := dgq (p := 17) daJ5_inflate_da8c8_0 dbJ5_inflate_da8c8_0.2.2.2.2.2.2.2.2.2
def dsJ5_inflate_da8c8_18 : ByteArray := ⟨#[180, 0, 15, 3, 43, 3, 42, 180, 0, 79, 184, 0, 125, 42, 43, 181, 0, 15]⟩
theorem daJ5_inflate_da8c8_18 : agB cJ5_inflate_da8c8 dsJ5_inflate_da8c8_18 18 := agB_of (n := 18) (by decide +kernel)
theorem dbJ5_inflate_da8c8_18 : (decode dsJ5_inflate_da8c8_18 0 = .ok (.getfield 15, 3) ∧ okop dsJ5_inflate_da8c8_18 0 = true) ∧ (decode dsJ5_inflate_da8c8_18 3 = .ok (.iconst 0, 1) ∧ okop dsJ5_inflate_da8c8_18 3 = true) ∧ (decode dsJ5_inflate_da8c8_18 4 = .ok (.aload_n 1, 1) ∧ okop dsJ5_inflate_da8c8_18 4 = true) ∧ (decode dsJ5_inflate_da8c8_18 5 = .ok (.iconst 0, 1) ∧ okop dsJ5_inflate_da8c8_18 5 = true) ∧ (decode dsJ5_inflate_da8c8_18 6 = .ok (.aload_n 0, 1) ∧ okop dsJ5_inflate_da8c8_18 6 = true) ∧ (decode dsJ5_inflate_da8c8_18 7 = .ok (.getfield 79, 3) ∧ okop dsJ5_inflate_da8c8_18 7 = true) ∧ (decode dsJ5_inflate_da8c8_18 10 = .ok (.invokestatic 125, 3) ∧ okop dsJ5_inflate_da8c8_18 10 = true) ∧ (decode dsJ5_inflate_da8c8_18 13 = .ok (.aload_n 0, 1) ∧ okop dsJ5_inflate_da8c8_18 13 = true) ∧ (decode dsJ5_inflate_da8c8_18 14 = .ok (.aload_n 1, 1) ∧ okop dsJ5_inflate_da8c8_18 14 = true) ∧ (decode dsJ5_inflate_da8c8_18 15 = .ok (.putfield 15, 3) ∧ okop dsJ5_inflate_da8c8_18 15 = true) := by decide +kernel
theorem dJ5_inflate_da8c8_18 : decode cJ5_inflate_da8c8 18 = .ok (.getfield 15, 3) := dgq (p := 0) daJ5_inflate_da8c8_18 dbJ5_inflate_da8c8_18.1
theorem dJ5_inflate_da8c8_21 : decode cJ5_inflate_da8c8 21 = .ok (.iconst 0, 1) := dgq (p := 3) daJ5_inflate_da8c8_18 dbJ5_inflate_da8c8_18.2.1
theorem dJ5_inflate_da8c8_22 : decode cJ5_inflate_da8c8 22 = .ok (.aload_n 1, 1) := dgq (p := 4) daJ5_inflate_da8c8_18 dbJ5_inflate_da8c8_18.2.2.1
theorem dJ5_inflate_da8c8_23 : decode cJ5_inflate_da8c8 23 = .ok (.iconst 0, 1) := dgq (p := 5) daJ5_inflate_da8c8_18 dbJ5_inflate_da8c8_18.2.2.2.1
theorem dJ5_inflate_da8c8_24 : decode cJ5_inflate_da8c8 24 = .ok (.aload_n 0, 1) := dgq (p := 6) daJ5_inflate_da8c8_18 dbJ5_inflate_da8c8_18.2.2.2.2.1
theorem dJ5_inflate_da8c8_25 : decode cJ5_inflate_da8c8 25 = .ok (.getfield 79, 3) := dgq (p := 7) daJ5_inflate_da8c8_18 dbJ5_inflate_da8c8_18.2.2.2.2.2.1
theorem dJ5_inflate_da8c8_28 : decode cJ5_inflate_da8c8 28 = .ok (.invokestatic 125, 3) := dgq (p := 10) daJ5_inflate_da8c8_18 dbJ5_inflate_da8c8_18.2.2.2.2.2.2.1
theorem dJ5_inflate_da8c8_31 : decode cJ5_inflate_da8c8 31 = .ok (.aload_n 0, 1) := dgq (p := 13) daJ5_inflate_da8c8_18 dbJ5_inflate_da8c8_18.2.2.2.2.2.2.2.1
theorem dJ5_inflate_da8c8_32 : decode cJ5_inflate_da8c8 32 = .ok (.aload_n 1, 1) := dgq (p := 14) daJ5_inflate_da8c8_18 dbJ5_inflate_da8c8_18.2.2.2.2.2.2.2.2.1
theorem dJ5_inflate_da8c8_33 : decode cJ5_inflate_da8c8 33 = .ok (.putfield 15, 3) := dgq (p := 15) daJ5_inflate_da8c8_18 dbJ5_inflate_da8c8_18.2.2.2.2.2.2.2.2.2
def dsJ5_inflate_da8c8_36 : ByteArray := ⟨#[42, 4, 181, 0, 22, 177]⟩
theorem daJ5_inflate_da8c8_36 : agB cJ5_inflate_da8c8 dsJ5_inflate_da8c8_36 36 := agB_of (n := 6) (by decide +kernel)
theorem dbJ5_inflate_da8c8_36 : (decode dsJ5_inflate_da8c8_36 0 = .ok (.aload_n 0, 1) ∧ okop dsJ5_inflate_da8c8_36 0 = true) ∧ (decode dsJ5_inflate_da8c8_36 1 = .ok (.iconst 1, 1) ∧ okop dsJ5_inflate_da8c8_36 1 = true) ∧ (decode dsJ5_inflate_da8c8_36 2 = .ok (.putfield 22, 3) ∧ okop dsJ5_inflate_da8c8_36 2 = true) ∧ (decode dsJ5_inflate_da8c8_36 5 = .ok (.return_, 1) ∧ okop dsJ5_inflate_da8c8_36 5 = true) := by decide +kernel
theorem dJ5_inflate_da8c8_36 : decode cJ5_inflate_da8c8 36 = .ok (.aload_n 0, 1) := dgq (p := 0) daJ5_inflate_da8c8_36 dbJ5_inflate_da8c8_36.1
theorem dJ5_inflate_da8c8_37 : decode cJ5_inflate_da8c8 37 = .ok (.iconst 1, 1) := dgq (p := 1) daJ5_inflate_da8c8_36 dbJ5_inflate_da8c8_36.2.1
theorem dJ5_inflate_da8c8_38 : decode cJ5_inflate_da8c8 38 = .ok (.putfield 22, 3) := dgq (p := 2) daJ5_inflate_da8c8_36 dbJ5_inflate_da8c8_36.2.2.1
theorem dJ5_inflate_da8c8_41 : decode cJ5_inflate_da8c8 41 = .ok (.return_, 1) := dgq (p := 5) daJ5_inflate_da8c8_36 dbJ5_inflate_da8c8_36.2.2.2
set_option maxRecDepth 20000 in
theorem ggJ5_charAt_5068e_J0_checkIndex_df160 : GoodIn wsJ5_charAt_5068e wsJ0_checkIndex_df160 := goodIn_q _ [11, 12, 13, 14, 15, 16] rfl (by decide +kernel)
set_option maxRecDepth 20000 in
theorem gJ5_charAt_5068e_J0_checkIndex_df160 : GoodIn wsJ5_charAt_5068e (va_wsS RJ5 144 yJ0_checkIndex_df160 wsJ0_checkIndex_df160) := goodIn_app (goodIn_q _ [8, 9, 10] rfl (by decide +kernel)) ggJ5_charAt_5068e_J0_checkIndex_df160
set_option maxRecDepth 20000 in
theorem ggJ5_charAt_5068e_J2_getChar_3b067 : GoodIn wsJ5_charAt_5068e wsJ2_getChar_3b067 := goodIn_q _ [20, 21, 22, 23, 24, 25, 19, 26] rfl (by decide +kernel)
set_option maxRecDepth 20000 in
theorem gJ5_charAt_5068e_J2_getChar_3b067 : GoodIn wsJ5_charAt_5068e (va_wsS RJ5 148 yJ2_getChar_3b067 wsJ2_getChar_3b067) := goodIn_app (goodIn_q _ [17, 18, 19] rfl (by decide +kernel)) ggJ5_charAt_5068e_J2_getChar_3b067
def dsJ5_charAt_5068e_0 : ByteArray := ⟨#[42, 180, 0, 22, 61, 42, 180, 0, 15, 78, 42, 180, 0, 79, 45, 190]⟩
theorem daJ5_charAt_5068e_0 : agB cJ5_charAt_5068e dsJ5_charAt_5068e_0 0 := agB_of (n := 16) (by decide +kernel)
theorem dbJ5_charAt_5068e_0 : (decode dsJ5_charAt_5068e_0 0 = .ok (.aload_n 0, 1) ∧ okop dsJ5_charAt_5068e_0 0 = true) ∧ (decode dsJ5_charAt_5068e_0 1 = .ok (.getfield 22, 3) ∧ okop dsJ5_charAt_5068e_0 1 = true) ∧ (decode dsJ5_charAt_5068e_0 4 = .ok (.istore_n 2, 1) ∧ okop dsJ5_charAt_5068e_0 4 = true) ∧ (decode dsJ5_charAt_5068e_0 5 = .ok (.aload_n 0, 1) ∧ okop dsJ5_charAt_5068e_0 5 = true) ∧ (decode dsJ5_charAt_5068e_0 6 = .ok (.getfield 15, 3) ∧ okop dsJ5_charAt_5068e_0 6 = true) ∧ (decode dsJ5_charAt_5068e_0 9 = .ok (.astore_n 3, 1) ∧ okop dsJ5_charAt_5068e_0 9 = true) ∧ (decode dsJ5_charAt_5068e_0 10 = .ok (.aload_n 0, 1) ∧ okop dsJ5_charAt_5068e_0 10 = true) ∧ (decode dsJ5_charAt_5068e_0 11 = .ok (.getfield 79, 3) ∧ okop dsJ5_charAt_5068e_0 11 = true) ∧ (decode dsJ5_charAt_5068e_0 14 = .ok (.aload_n 3, 1) ∧ okop dsJ5_charAt_5068e_0 14 = true) ∧ (decode dsJ5_charAt_5068e_0 15 = .ok (.arraylength, 1) ∧ okop dsJ5_charAt_5068e_0 15 = true) := by decide +kernel
theorem dJ5_charAt_5068e_0 : decode cJ5_charAt_5068e 0 = .ok (.aload_n 0, 1) := dgq (p := 0) daJ5_charAt_5068e_0 dbJ5_charAt_5068e_0.1
theorem dJ5_charAt_5068e_1 : decode cJ5_charAt_5068e 1 = .ok (.getfield 22, 3) := dgq (p := 1) daJ5_charAt_5068e_0 dbJ5_charAt_5068e_0.2.1
theorem dJ5_charAt_5068e_4 : decode cJ5_charAt_5068e 4 = .ok (.istore_n 2, 1) := dgq (p := 4) daJ5_charAt_5068e_0 dbJ5_charAt_5068e_0.2.2.1
theorem dJ5_charAt_5068e_5 : decode cJ5_charAt_5068e 5 = .ok (.aload_n 0, 1) := dgq (p := 5) daJ5_charAt_5068e_0 dbJ5_charAt_5068e_0.2.2.2.1
theorem dJ5_charAt_5068e_6 : decode cJ5_charAt_5068e 6 = .ok (.getfield 15, 3) := dgq (p := 6) daJ5_charAt_5068e_0 dbJ5_charAt_5068e_0.2.2.2.2.1
theorem dJ5_charAt_5068e_9 : decode cJ5_charAt_5068e 9 = .ok (.astore_n 3, 1) := dgq (p := 9) daJ5_charAt_5068e_0 dbJ5_charAt_5068e_0.2.2.2.2.2.1
theorem dJ5_charAt_5068e_10 : decode cJ5_charAt_5068e 10 = .ok (.aload_n 0, 1) := dgq (p := 10) daJ5_charAt_5068e_0 dbJ5_charAt_5068e_0.2.2.2.2.2.2.1
theorem dJ5_charAt_5068e_11 : decode cJ5_charAt_5068e 11 = .ok (.getfield 79, 3) := dgq (p := 11) daJ5_charAt_5068e_0 dbJ5_charAt_5068e_0.2.2.2.2.2.2.2.1
theorem dJ5_charAt_5068e_14 : decode cJ5_charAt_5068e 14 = .ok (.aload_n 3, 1) := dgq (p := 14) daJ5_charAt_5068e_0 dbJ5_charAt_5068e_0.2.2.2.2.2.2.2.2.1
theorem dJ5_charAt_5068e_15 : decode cJ5_charAt_5068e 15 = .ok (.arraylength, 1) := dgq (p := 15) daJ5_charAt_5068e_0 dbJ5_charAt_5068e_0.2.2.2.2.2.2.2.2.2
def dsJ5_charAt_5068e_16 : ByteArray := ⟨#[28, 122, 184, 0, 138, 54, 4, 27, 21, 4, 184, 0, 144, 28, 154, 0, 12, 45]⟩
theorem daJ5_charAt_5068e_16 : agB cJ5_charAt_5068e dsJ5_charAt_5068e_16 16 := agB_of (n := 18) (by decide +kernel)
theorem dbJ5_charAt_5068e_16 : (decode dsJ5_charAt_5068e_16 0 = .ok (.iload_n 2, 1) ∧ okop dsJ5_charAt_5068e_16 0 = true) ∧ (decode dsJ5_charAt_5068e_16 1 = .ok (.ishr, 1) ∧ okop dsJ5_charAt_5068e_16 1 = true) ∧ (decode dsJ5_charAt_5068e_16 2 = .ok (.invokestatic 138, 3) ∧ okop dsJ5_charAt_5068e_16 2 = true) ∧ (decode dsJ5_charAt_5068e_16 5 = .ok (.istore 4, 2) ∧ okop dsJ5_charAt_5068e_16 5 = true) ∧ (decode dsJ5_charAt_5068e_16 7 = .ok (.iload_n 1, 1) ∧ okop dsJ5_charAt_5068e_16 7 = true) ∧ (decode dsJ5_charAt_5068e_16 8 = .ok (.iload 4, 2) ∧ okop dsJ5_charAt_5068e_16 8 = true) ∧ (decode dsJ5_charAt_5068e_16 10 = .ok (.invokestatic 144, 3) ∧ okop dsJ5_charAt_5068e_16 10 = true) ∧ (decode dsJ5_charAt_5068e_16 13 = .ok (.iload_n 2, 1) ∧ okop dsJ5_charAt_5068e_16 13 = true) ∧ (decode dsJ5_charAt_5068e_16 14 = .ok (.ifCond .ne 12, 3) ∧ okop dsJ5_charAt_5068e_16 14 = true) ∧ (decode dsJ5_charAt_5068e_16 17 = .ok (.aload_n 3, 1) ∧ okop dsJ5_charAt_5068e_16 17 = true) := by decide +kernel
theorem dJ5_charAt_5068e_16 : decode cJ5_charAt_5068e 16 = .ok (.iload_n 2, 1) := dgq (p := 0) daJ5_charAt_5068e_16 dbJ5_charAt_5068e_16.1
theorem dJ5_charAt_5068e_17 : decode cJ5_charAt_5068e 17 = .ok (.ishr, 1) := dgq (p := 1) daJ5_charAt_5068e_16 dbJ5_charAt_5068e_16.2.1
theorem dJ5_charAt_5068e_18 : decode cJ5_charAt_5068e 18 = .ok (.invokestatic 138, 3) := dgq (p := 2) daJ5_charAt_5068e_16 dbJ5_charAt_5068e_16.2.2.1
theorem dJ5_charAt_5068e_21 : decode cJ5_charAt_5068e 21 = .ok (.istore 4, 2) := dgq (p := 5) daJ5_charAt_5068e_16 dbJ5_charAt_5068e_16.2.2.2.1
theorem dJ5_charAt_5068e_23 : decode cJ5_charAt_5068e 23 = .ok (.iload_n 1, 1) := dgq (p := 7) daJ5_charAt_5068e_16 dbJ5_charAt_5068e_16.2.2.2.2.1
theorem dJ5_charAt_5068e_24 : decode cJ5_charAt_5068e 24 = .ok (.iload 4, 2) := dgq (p := 8) daJ5_charAt_5068e_16 dbJ5_charAt_5068e_16.2.2.2.2.2.1
theorem dJ5_charAt_5068e_26 : decode cJ5_charAt_5068e 26 = .ok (.invokestatic 144, 3) := dgq (p := 10) daJ5_charAt_5068e_16 dbJ5_charAt_5068e_16.2.2.2.2.2.2.1
theorem dJ5_charAt_5068e_29 : decode cJ5_charAt_5068e 29 = .ok (.iload_n 2, 1) := dgq (p := 13) daJ5_charAt_5068e_16 dbJ5_charAt_5068e_16.2.2.2.2.2.2.2.1
theorem dJ5_charAt_5068e_30 : decode cJ5_charAt_5068e 30 = .ok (.ifCond .ne 12, 3) := dgq (p := 14) daJ5_charAt_5068e_16 dbJ5_charAt_5068e_16.2.2.2.2.2.2.2.2.1
theorem dJ5_charAt_5068e_33 : decode cJ5_charAt_5068e 33 = .ok (.aload_n 3, 1) := dgq (p := 17) daJ5_charAt_5068e_16 dbJ5_charAt_5068e_16.2.2.2.2.2.2.2.2.2
def dsJ5_charAt_5068e_34 : ByteArray := ⟨#[27, 51, 17, 0, 255, 126, 146, 172, 45, 27, 184, 0, 148, 172]⟩
theorem daJ5_charAt_5068e_34 : agB cJ5_charAt_5068e dsJ5_charAt_5068e_34 34 := agB_of (n := 14) (by decide +kernel)
theorem dbJ5_charAt_5068e_34 : (decode dsJ5_charAt_5068e_34 0 = .ok (.iload_n 1, 1) ∧ okop dsJ5_charAt_5068e_34 0 = true) ∧ (decode dsJ5_charAt_5068e_34 1 = .ok (.baload, 1) ∧ okop dsJ5_charAt_5068e_34 1 = true) ∧ (decode dsJ5_charAt_5068e_34 2 = .ok (.sipush 255, 3) ∧ okop dsJ5_charAt_5068e_34 2 = true) ∧ (decode dsJ5_charAt_5068e_34 5 = .ok (.iand, 1) ∧ okop dsJ5_charAt_5068e_34 5 = true) ∧ (decode dsJ5_charAt_5068e_34 6 = .ok (.i2c, 1) ∧ okop dsJ5_charAt_5068e_34 6 = true) ∧ (decode dsJ5_charAt_5068e_34 7 = .ok (.ireturn, 1) ∧ okop dsJ5_charAt_5068e_34 7 = true) ∧ (decode dsJ5_charAt_5068e_34 8 = .ok (.aload_n 3, 1) ∧ okop dsJ5_charAt_5068e_34 8 = true) ∧ (decode dsJ5_charAt_5068e_34 9 = .ok (.iload_n 1, 1) ∧ okop dsJ5_charAt_5068e_34 9 = true) ∧ (decode dsJ5_charAt_5068e_34 10 = .ok (.invokestatic 148, 3) ∧ okop dsJ5_charAt_5068e_34 10 = true) ∧ (decode dsJ5_charAt_5068e_34 13 = .ok (.ireturn, 1) ∧ okop dsJ5_charAt_5068e_34 13 = true) := by decide +kernel
theorem dJ5_charAt_5068e_34 : decode cJ5_charAt_5068e 34 = .ok (.iload_n 1, 1) := dgq (p := 0) daJ5_charAt_5068e_34 dbJ5_charAt_5068e_34.1
theorem dJ5_charAt_5068e_35 : decode cJ5_charAt_5068e 35 = .ok (.baload, 1) := dgq (p := 1) daJ5_charAt_5068e_34 dbJ5_charAt_5068e_34.2.1
theorem dJ5_charAt_5068e_36 : decode cJ5_charAt_5068e 36 = .ok (.sipush 255, 3) := dgq (p := 2) daJ5_charAt_5068e_34 dbJ5_charAt_5068e_34.2.2.1
theorem dJ5_charAt_5068e_39 : decode cJ5_charAt_5068e 39 = .ok (.iand, 1) := dgq (p := 5) daJ5_charAt_5068e_34 dbJ5_charAt_5068e_34.2.2.2.1
theorem dJ5_charAt_5068e_40 : decode cJ5_charAt_5068e 40 = .ok (.i2c, 1) := dgq (p := 6) daJ5_charAt_5068e_34 dbJ5_charAt_5068e_34.2.2.2.2.1
theorem dJ5_charAt_5068e_41 : decode cJ5_charAt_5068e 41 = .ok (.ireturn, 1) := dgq (p := 7) daJ5_charAt_5068e_34 dbJ5_charAt_5068e_34.2.2.2.2.2.1
theorem dJ5_charAt_5068e_42 : decode cJ5_charAt_5068e 42 = .ok (.aload_n 3, 1) := dgq (p := 8) daJ5_charAt_5068e_34 dbJ5_charAt_5068e_34.2.2.2.2.2.2.1
theorem dJ5_charAt_5068e_43 : decode cJ5_charAt_5068e 43 = .ok (.iload_n 1, 1) := dgq (p := 9) daJ5_charAt_5068e_34 dbJ5_charAt_5068e_34.2.2.2.2.2.2.2.1
theorem dJ5_charAt_5068e_44 : decode cJ5_charAt_5068e 44 = .ok (.invokestatic 148, 3) := dgq (p := 10) daJ5_charAt_5068e_34 dbJ5_charAt_5068e_34.2.2.2.2.2.2.2.2.1
theorem dJ5_charAt_5068e_47 : decode cJ5_charAt_5068e 47 = .ok (.ireturn, 1) := dgq (p := 13) daJ5_charAt_5068e_34 dbJ5_charAt_5068e_34.2.2.2.2.2.2.2.2.2
set_option maxRecDepth 20000 in
theorem ggJ5_append_3fe6f_J5_ensureCapacityInternal_d00df : GoodIn wsJ5_append_3fe6f wsJ5_ensureCapacityInternal_d00df := goodIn_ca (goodIn_q _ [8, 2, 9, 10, 11, 12, 13, 7, 14, 15, 16, 17, 18, 19, 20, 21, 22, 23, 24, 25, 26, 27, 28, 29, 30, 31, 32, 33, 34, 35, 36, 37, 38, 39, 40, 41, 42, 43, 44, 45] rfl (by decide +kernel)) (goodIn_sub (fun _ h => (List.mem_cons_of_mem _ (List.mem_append_right _ h))) tg_wsJ40)
set_option maxRecDepth 20000 in
theorem gJ5_append_3fe6f_J5_ensureCapacityInternal_d00df_u100J4 : GoodIn wsJ5_append_3fe6f (va_wsU RJ5 100 RJ4 "java/lang/AbstractStringBuilder" ⟨"java/lang/AbstractStringBuilder", "ensureCapacityInternal", "(I)V"⟩ yJ5_ensureCapacityInternal_d00df wsJ5_ensureCapacityInternal_d00df) := goodIn_app (goodIn_of _ (by decide +kernel)) ggJ5_append_3fe6f_J5_ensureCapacityInternal_d00df
set_option maxRecDepth 20000 in
theorem ggJ5_append_3fe6f_J5_isLatin1_aae02 : GoodIn wsJ5_append_3fe6f wsJ5_isLatin1_aae02 := goodIn_ca (goodIn_q _ [50, 51, 9] rfl (by decide +kernel)) (goodIn_sub (fun _ h => (List.mem_cons_of_mem _ (List.mem_append_right _ h))) tg_wsJ40)
set_option maxRecDepth 20000 in
theorem gJ5_append_3fe6f_J5_isLatin1_aae02_u83J4 : GoodIn wsJ5_append_3fe6f (va_wsU RJ5 83 RJ4 "java/lang/AbstractStringBuilder" ⟨"java/lang/AbstractStringBuilder", "isLatin1", "()Z"⟩ yJ5_isLatin1_aae02 wsJ5_isLatin1_aae02) := goodIn_app (goodIn_of _ (by decide +kernel)) ggJ5_append_3fe6f_J5_isLatin1_aae02
set_option maxRecDepth 20000 in
theorem ggJ5_append_3fe6f_J1_canEncode_fc78d : GoodIn wsJ5_append_3fe6f wsJ1_canEncode_fc78d := goodIn_q _ [55] rfl (by decide +kernel)
set_option maxRecDepth 20000 in
theorem gJ5_append_3fe6f_J1_canEncode_fc78d : GoodIn wsJ5_append_3fe6f (va_wsS RJ5 191 yJ1_canEncode_fc78d wsJ1_canEncode_fc78d) := goodIn_app (goodIn_q _ [52, 53, 54] rfl (by decide +kernel)) ggJ5_append_3fe6f_J1_canEncode_fc78d
set_option maxRecDepth 20000 in
theorem ggJ5_append_3fe6f_J5_inflate_da8c8 : GoodIn wsJ5_append_3fe6f wsJ5_inflate_da8c8 := goodIn_ca (goodIn_q _ [60, 2, 1, 9, 46, 47, 48, 49, 7, 50, 51, 61, 62, 63, 64, 38, 65, 66, 67, 68, 69, 70, 54, 71, 72, 73, 74, 75, 76, 77, 78, 79, 80, 81, 82, 83, 84, 85, 86, 87, 88, 89, 90, 91, 92, 93, 94, 95] rfl (by decide +kernel)) (goodIn_sub (fun _ h => (List.mem_cons_of_mem _ (List.mem_append_right _ h))) tg_wsJ40)
set_option maxRecDepth 20000 in
theorem gJ5_append_3fe6f_J5_inflate_da8c8_u195J4 : GoodIn wsJ5_append_3fe6f (va_wsU RJ5 195 RJ4 "java/lang/AbstractStringBuilder" ⟨"java/lang/AbstractStringBuilder", "inflate", "()V"⟩ yJ5_inflate_da8c8 wsJ5_inflate_da8c8) := goodIn_app (goodIn_of _ (by decide +kernel)) ggJ5_append_3fe6f_J5_inflate_da8c8
set_option maxRecDepth 20000 in
theorem ggJ5_append_3fe6f_J2_putCharSB_b72d1 : GoodIn wsJ5_append_3fe6f wsJ2_putCharSB_b72d1 := goodIn_q _ [98, 99, 100, 63, 101, 78, 79, 80, 102, 103, 83, 104, 85, 105, 106, 88, 107, 90, 91, 92, 93, 94, 95] rfl (by decide +kernel)
set_option maxRecDepth 20000 in
theorem gJ5_append_3fe6f_J2_putCharSB_b72d1 : GoodIn wsJ5_append_3fe6f (va_wsS RJ5 197 yJ2_putCharSB_b72d1 wsJ2_putCharSB_b72d1) := goodIn_app (goodIn_q _ [96, 97, 63] rfl (by decide +kernel)) ggJ5_append_3fe6f_J2_putCharSB_b72d1
def dsJ5_append_3fe6f_0 : ByteArray := ⟨#[42, 42, 180, 0, 79, 4, 96, 182, 0, 100, 42, 182, 0, 83, 153, 0, 31, 27]⟩
theorem daJ5_append_3fe6f_0 : agB cJ5_append_3fe6f dsJ5_append_3fe6f_0 0 := agB_of (n := 18) (by decide +kernel)
theorem dbJ5_append_3fe6f_0 : (decode dsJ5_append_3fe6f_0 0 = .ok (.aload_n 0, 1) ∧ okop dsJ5_append_3fe6f_0 0 = true) ∧ (decode dsJ5_append_3fe6f_0 1 = .ok (.aload_n 0, 1) ∧ okop dsJ5_append_3fe6f_0 1 = true) ∧ (decode dsJ5_append_3fe6f_0 2 = .ok (.getfield 79, 3) ∧ okop dsJ5_append_3fe6f_0 2 = true) ∧ (decode dsJ5_append_3fe6f_0 5 = .ok (.iconst 1, 1) ∧ okop dsJ5_append_3fe6f_0 5 = true) ∧ (decode dsJ5_append_3fe6f_0 6 = .ok (.iadd, 1) ∧ okop dsJ5_append_3fe6f_0 6 = true) ∧ (decode dsJ5_append_3fe6f_0 7 = .ok (.invokevirtual 100, 3) ∧ okop dsJ5_append_3fe6f_0 7 = true) ∧ (decode dsJ5_append_3fe6f_0 10 = .ok (.aload_n 0, 1) ∧ okop dsJ5_append_3fe6f_0 10 = true) ∧ (decode dsJ5_append_3fe6f_0 11 = .ok (.invokevirtual 83, 3) ∧ okop dsJ5_append_3fe6f_0 11 = true) ∧ (decode dsJ5_append_3fe6f_0 14 = .ok (.ifCond .eq 31, 3) ∧ okop dsJ5_append_3fe6f_0 14 = true) ∧ (decode dsJ5_append_3fe6f_0 17 = .ok (.iload_n 1, 1) ∧ okop dsJ5_append_3fe6f_0 17 = true) := by decide +kernel
theorem dJ5_append_3fe6f_0 : decode cJ5_append_3fe6f 0 = .ok (.aload_n 0, 1) := dgq (p := 0) daJ5_append_3fe6f_0 dbJ5_append_3fe6f_0.1
theorem dJ5_append_3fe6f_1 : decode cJ5_append_3fe6f 1 = .ok (.aload_n 0, 1) := dgq (p := 1) daJ5_append_3fe6f_0 dbJ5_append_3fe6f_0.2.1
theorem dJ5_append_3fe6f_2 : decode cJ5_append_3fe6f 2 = .ok (.getfield 79, 3) := dgq (p := 2) daJ5_append_3fe6f_0 dbJ5_append_3fe6f_0.2.2.1
theorem dJ5_append_3fe6f_5 : decode cJ5_append_3fe6f 5 = .ok (.iconst 1, 1) := dgq (p := 5) daJ5_append_3fe6f_0 dbJ5_append_3fe6f_0.2.2.2.1
theorem dJ5_append_3fe6f_6 : decode cJ5_append_3fe6f 6 = .ok (.iadd, 1) := dgq (p := 6) daJ5_append_3fe6f_0 dbJ5_append_3fe6f_0.2.2.2.2.1
theorem dJ5_append_3fe6f_7 : decode cJ5_append_3fe6f 7 = .ok (.invokevirtual 100, 3) := dgq (p := 7) daJ5_append_3fe6f_0 dbJ5_append_3fe6f_0.2.2.2.2.2.1
theorem dJ5_append_3fe6f_10 : decode cJ5_append_3fe6f 10 = .ok (.aload_n 0, 1) := dgq (p := 10) daJ5_append_3fe6f_0 dbJ5_append_3fe6f_0.2.2.2.2.2.2.1
theorem dJ5_append_3fe6f_11 : decode cJ5_append_3fe6f 11 = .ok (.invokevirtual 83, 3) := dgq (p := 11) daJ5_append_3fe6f_0 dbJ5_append_3fe6f_0.2.2.2.2.2.2.2.1
theorem dJ5_append_3fe6f_14 : decode cJ5_append_3fe6f 14 = .ok (.ifCond .eq 31, 3) := dgq (p := 14) daJ5_append_3fe6f_0 dbJ5_append_3fe6f_0.2.2.2.2.2.2.2.2.1
theorem dJ5_append_3fe6f_17 : decode cJ5_append_3fe6f 17 = .ok (.iload_n 1, 1) := dgq (p := 17) daJ5_append_3fe6f_0 dbJ5_append_3fe6f_0.2.2.2.2.2.2.2.2.2
def dsJ5_append_3fe6f_18 : ByteArray := ⟨#[184, 0, 191, 153, 0, 24, 42, 180, 0, 15, 42, 89, 180, 0, 79, 90, 4, 96]⟩
theorem daJ5_append_3fe6f_18 : agB cJ5_append_3fe6f dsJ5_append_3fe6f_18 18 := agB_of (n := 18) (by decide +kernel)
theorem dbJ5_append_3fe6f_18 : (decode dsJ5_append_3fe6f_18 0 = .ok (.invokestatic 191, 3) ∧ okop dsJ5_append_3fe6f_18 0 = true) ∧ (decode dsJ5_append_3fe6f_18 3 = .ok (.ifCond .eq 24, 3) ∧ okop dsJ5_append_3fe6f_18 3 = true) ∧ (decode dsJ5_append_3fe6f_18 6 = .ok (.aload_n 0, 1) ∧ okop dsJ5_append_3fe6f_18 6 = true) ∧ (decode dsJ5_append_3fe6f_18 7 = .ok (.getfield 15, 3) ∧ okop dsJ5_append_3fe6f_18 7 = true) ∧ (decode dsJ5_append_3fe6f_18 10 = .ok (.aload_n 0, 1) ∧ okop dsJ5_append_3fe6f_18 10 = true) ∧ (decode dsJ5_append_3fe6f_18 11 = .ok (.dup, 1) ∧ okop dsJ5_append_3fe6f_18 11 = true) ∧ (decode dsJ5_append_3fe6f_18 12 = .ok (.getfield 79, 3) ∧ okop dsJ5_append_3fe6f_18 12 = true) ∧ (decode dsJ5_append_3fe6f_18 15 = .ok (.dup_x1, 1) ∧ okop dsJ5_append_3fe6f_18 15 = true) ∧ (decode dsJ5_append_3fe6f_18 16 = .ok (.iconst 1, 1) ∧ okop dsJ5_append_3fe6f_18 16 = true) ∧ (decode dsJ5_append_3fe6f_18 17 = .ok (.iadd, 1) ∧ okop dsJ5_append_3fe6f_18 17 = true) := by decide +kernel
theorem dJ5_append_3fe6f_18 : decode cJ5_append_3fe6f 18 = .ok (.invokestatic 191, 3) := dgq (p := 0) daJ5_append_3fe6f_18 dbJ5_append_3fe6f_18.1
theorem dJ5_append_3fe6f_21 : decode cJ5_append_3fe6f 21 = .ok (.ifCond .eq 24, 3) := dgq (p := 3) daJ5_append_3fe6f_18 dbJ5_append_3fe6f_18.2.1
theorem dJ5_append_3fe6f_24 : decode cJ5_append_3fe6f 24 = .ok (.aload_n 0, 1) := dgq (p := 6) daJ5_append_3fe6f_18 dbJ5_append_3fe6f_18.2.2.1
theorem dJ5_append_3fe6f_25 : decode cJ5_append_3fe6f 25 = .ok (.getfield 15, 3) := dgq (p := 7) daJ5_append_3fe6f_18 dbJ5_append_3fe6f_18.2.2.2.1
theorem dJ5_append_3fe6f_28 : decode cJ5_append_3fe6f 28 = .ok (.aload_n 0, 1) := dgq (p := 10) daJ5_append_3fe6f_18 dbJ5_append_3fe6f_18.2.2.2.2.1
theorem dJ5_append_3fe6f_29 : decode cJ5_append_3fe6f 29 = .ok (.dup, 1) := dgq (p := 11) daJ5_append_3fe6f_18 dbJ5_append_3fe6f_18.2.2.2.2.2.1
theorem dJ5_append_3fe6f_30 : decode cJ5_append_3fe6f 30 = .ok (.getfield 79, 3) := dgq (p := 12) daJ5_append_3fe6f_18 dbJ5_append_3fe6f_18.2.2.2.2.2.2.1
theorem dJ5_append_3fe6f_33 : decode cJ5_append_3fe6f 33 = .ok (.dup_x1, 1) := dgq (p := 15) daJ5_append_3fe6f_18 dbJ5_append_3fe6f_18.2.2.2.2.2.2.2.1
theorem dJ5_append_3fe6f_34 : decode cJ5_append_3fe6f 34 = .ok (.iconst 1, 1) := dgq (p := 16) daJ5_append_3fe6f_18 dbJ5_append_3fe6f_18.2.2.2.2.2.2.2.2.1
theorem dJ5_append_3fe6f_35 : decode cJ5_append_3fe6f 35 = .ok (.iadd, 1) := dgq (p := 17) daJ5_append_3fe6f_18 dbJ5_append_3fe6f_18.2.2.2.2.2.2.2.2.2
def dsJ5_append_3fe6f_36 : ByteArray := ⟨#[181, 0, 79, 27, 145, 84, 167, 0, 33, 42, 182, 0, 83, 153, 0, 7, 42, 182, 0, 195]⟩
theorem daJ5_append_3fe6f_36 : agB cJ5_append_3fe6f dsJ5_append_3fe6f_36 36 := agB_of (n := 20) (by decide +kernel)
theorem dbJ5_append_3fe6f_36 : (decode dsJ5_append_3fe6f_36 0 = .ok (.putfield 79, 3) ∧ okop dsJ5_append_3fe6f_36 0 = true) ∧ (decode dsJ5_append_3fe6f_36 3 = .ok (.iload_n 1, 1) ∧ okop dsJ5_append_3fe6f_36 3 = true) ∧ (decode dsJ5_append_3fe6f_36 4 = .ok (.i2b, 1) ∧ okop dsJ5_append_3fe6f_36 4 = true) ∧ (decode dsJ5_append_3fe6f_36 5 = .ok (.bastore, 1) ∧ okop dsJ5_append_3fe6f_36 5 = true) ∧ (decode dsJ5_append_3fe6f_36 6 = .ok (.goto 33, 3) ∧ okop dsJ5_append_3fe6f_36 6 = true) ∧ (decode dsJ5_append_3fe6f_36 9 = .ok (.aload_n 0, 1) ∧ okop dsJ5_append_3fe6f_36 9 = true) ∧ (decode dsJ5_append_3fe6f_36 10 = .ok (.invokevirtual 83, 3) ∧ okop dsJ5_append_3fe6f_36 10 = true) ∧ (decode dsJ5_append_3fe6f_36 13 = .ok (.ifCond .eq 7, 3) ∧ okop dsJ5_append_3fe6f_36 13 = true) ∧ (decode dsJ5_append_3fe6f_36 16 = .ok (.aload_n 0, 1) ∧ okop dsJ5_append_3fe6f_36 16 = true) ∧ (decode dsJ5_append_3fe6f_36 17 = .ok (.invokevirtual 195, 3) ∧ okop dsJ5_append_3fe6f_36 17 = true) := by decide +kernel
theorem dJ5_append_3fe6f_36 : decode cJ5_append_3fe6f 36 = .ok (.putfield 79, 3) := dgq (p := 0) daJ5_append_3fe6f_36 dbJ5_append_3fe6f_36.1
theorem dJ5_append_3fe6f_39 : decode cJ5_append_3fe6f 39 = .ok (.iload_n 1, 1) := dgq (p := 3) daJ5_append_3fe6f_36 dbJ5_append_3fe6f_36.2.1
theorem dJ5_append_3fe6f_40 : decode cJ5_append_3fe6f 40 = .ok (.i2b, 1) := dgq (p := 4) daJ5_append_3fe6f_36 dbJ5_append_3fe6f_36.2.2.1
theorem dJ5_append_3fe6f_41 : decode cJ5_append_3fe6f 41 = .ok (.bastore, 1) := dgq (p := 5) daJ5_append_3fe6f_36 dbJ5_append_3fe6f_36.2.2.2.1
theorem dJ5_append_3fe6f_42 : decode cJ5_append_3fe6f 42 = .ok (.goto 33, 3) := dgq (p := 6) daJ5_append_3fe6f_36 dbJ5_append_3fe6f_36.2.2.2.2.1
theorem dJ5_append_3fe6f_45 : decode cJ5_append_3fe6f 45 = .ok (.aload_n 0, 1) := dgq (p := 9) daJ5_append_3fe6f_36 dbJ5_append_3fe6f_36.2.2.2.2.2.1
theorem dJ5_append_3fe6f_46 : decode cJ5_append_3fe6f 46 = .ok (.invokevirtual 83, 3) := dgq (p := 10) daJ5_append_3fe6f_36 dbJ5_append_3fe6f_36.2.2.2.2.2.2.1
theorem dJ5_append_3fe6f_49 : decode cJ5_append_3fe6f 49 = .ok (.ifCond .eq 7, 3) := dgq (p := 13) daJ5_append_3fe6f_36 dbJ5_append_3fe6f_36.2.2.2.2.2.2.2.1
theorem dJ5_append_3fe6f_52 : decode cJ5_append_3fe6f 52 = .ok (.aload_n 0, 1) := dgq (p := 16) daJ5_append_3fe6f_36 dbJ5_append_3fe6f_36.2.2.2.2.2.2.2.2.1
theorem dJ5_append_3fe6f_53 : decode cJ5_append_3fe6f 53 = .ok (.invokevirtual 195, 3) := dgq (p := 17) daJ5_append_3fe6f_36 dbJ5_append_3fe6f_36.2.2.2.2.2.2.2.2.2
def dsJ5_append_3fe6f_56 : ByteArray := ⟨#[42, 180, 0, 15, 42, 89, 180, 0, 79, 90, 4, 96, 181, 0, 79, 27]⟩
theorem daJ5_append_3fe6f_56 : agB cJ5_append_3fe6f dsJ5_append_3fe6f_56 56 := agB_of (n := 16) (by decide +kernel)
theorem dbJ5_append_3fe6f_56 : (decode dsJ5_append_3fe6f_56 0 = .ok (.aload_n 0, 1) ∧ okop dsJ5_append_3fe6f_56 0 = true) ∧ (decode dsJ5_append_3fe6f_56 1 = .ok (.getfield 15, 3) ∧ okop dsJ5_append_3fe6f_56 1 = true) ∧ (decode dsJ5_append_3fe6f_56 4 = .ok (.aload_n 0, 1) ∧ okop dsJ5_append_3fe6f_56 4 = true) ∧ (decode dsJ5_append_3fe6f_56 5 = .ok (.dup, 1) ∧ okop dsJ5_append_3fe6f_56 5 = true) ∧ (decode dsJ5_append_3fe6f_56 6 = .ok (.getfield 79, 3) ∧ okop dsJ5_append_3fe6f_56 6 = true) ∧ (decode dsJ5_append_3fe6f_56 9 = .ok (.dup_x1, 1) ∧ okop dsJ5_append_3fe6f_56 9 = true) ∧ (decode dsJ5_append_3fe6f_56 10 = .ok (.iconst 1, 1) ∧ okop dsJ5_append_3fe6f_56 10 = true) ∧ (decode dsJ5_append_3fe6f_56 11 = .ok (.iadd, 1) ∧ okop dsJ5_append_3fe6f_56 11 = true) ∧ (decode dsJ5_append_3fe6f_56 12 = .ok (.putfield 79, 3) ∧ okop dsJ5_append_3fe6f_56 12 = true) ∧ (decode dsJ5_append_3fe6f_56 15 = .ok (.iload_n 1, 1) ∧ okop dsJ5_append_3fe6f_56 15 = true) := by decide +kernel
theorem dJ5_append_3fe6f_56 : decode cJ5_append_3fe6f 56 = .ok (.aload_n 0, 1) := dgq (p := 0) daJ5_append_3fe6f_56 dbJ5_append_3fe6f_56.1
theorem dJ5_append_3fe6f_57 : decode cJ5_append_3fe6f 57 = .ok (.getfield 15, 3) := dgq (p := 1) daJ5_append_3fe6f_56 dbJ5_append_3fe6f_56.2.1
theorem dJ5_append_3fe6f_60 : decode cJ5_append_3fe6f 60 = .ok (.aload_n 0, 1) := dgq (p := 4) daJ5_append_3fe6f_56 dbJ5_append_3fe6f_56.2.2.1
theorem dJ5_append_3fe6f_61 : decode cJ5_append_3fe6f 61 = .ok (.dup, 1) := dgq (p := 5) daJ5_append_3fe6f_56 dbJ5_append_3fe6f_56.2.2.2.1
theorem dJ5_append_3fe6f_62 : decode cJ5_append_3fe6f 62 = .ok (.getfield 79, 3) := dgq (p := 6) daJ5_append_3fe6f_56 dbJ5_append_3fe6f_56.2.2.2.2.1
theorem dJ5_append_3fe6f_65 : decode cJ5_append_3fe6f 65 = .ok (.dup_x1, 1) := dgq (p := 9) daJ5_append_3fe6f_56 dbJ5_append_3fe6f_56.2.2.2.2.2.1
theorem dJ5_append_3fe6f_66 : decode cJ5_append_3fe6f 66 = .ok (.iconst 1, 1) := dgq (p := 10) daJ5_append_3fe6f_56 dbJ5_append_3fe6f_56.2.2.2.2.2.2.1
theorem dJ5_append_3fe6f_67 : decode cJ5_append_3fe6f 67 = .ok (.iadd, 1) := dgq (p := 11) daJ5_append_3fe6f_56 dbJ5_append_3fe6f_56.2.2.2.2.2.2.2.1
theorem dJ5_append_3fe6f_68 : decode cJ5_append_3fe6f 68 = .ok (.putfield 79, 3) := dgq (p := 12) daJ5_append_3fe6f_56 dbJ5_append_3fe6f_56.2.2.2.2.2.2.2.2.1
theorem dJ5_append_3fe6f_71 : decode cJ5_append_3fe6f 71 = .ok (.iload_n 1, 1) := dgq (p := 15) daJ5_append_3fe6f_56 dbJ5_append_3fe6f_56.2.2.2.2.2.2.2.2.2
def dsJ5_append_3fe6f_72 : ByteArray := ⟨#[184, 0, 197, 42, 176]⟩
theorem daJ5_append_3fe6f_72 : agB cJ5_append_3fe6f dsJ5_append_3fe6f_72 72 := agB_of (n := 5) (by decide +kernel)
theorem dbJ5_append_3fe6f_72 : (decode dsJ5_append_3fe6f_72 0 = .ok (.invokestatic 197, 3) ∧ okop dsJ5_append_3fe6f_72 0 = true) ∧ (decode dsJ5_append_3fe6f_72 3 = .ok (.aload_n 0, 1) ∧ okop dsJ5_append_3fe6f_72 3 = true) ∧ (decode dsJ5_append_3fe6f_72 4 = .ok (.areturn, 1) ∧ okop dsJ5_append_3fe6f_72 4 = true) := by decide +kernel
theorem dJ5_append_3fe6f_72 : decode cJ5_append_3fe6f 72 = .ok (.invokestatic 197, 3) := dgq (p := 0) daJ5_append_3fe6f_72 dbJ5_append_3fe6f_72.1
theorem dJ5_append_3fe6f_75 : decode cJ5_append_3fe6f 75 = .ok (.aload_n 0, 1) := dgq (p := 3) daJ5_append_3fe6f_72 dbJ5_append_3fe6f_72.2.1
theorem dJ5_append_3fe6f_76 : decode cJ5_append_3fe6f 76 = .ok (.areturn, 1) := dgq (p := 4) daJ5_append_3fe6f_72 dbJ5_append_3fe6f_72.2.2
def dsJ5_isLatin1_aae02_0 : ByteArray := ⟨#[178, 0, 18, 153, 0, 14, 42, 180, 0, 22, 154, 0, 7, 4, 167, 0, 4, 3, 172]⟩
theorem daJ5_isLatin1_aae02_0 : agB cJ5_isLatin1_aae02 dsJ5_isLatin1_aae02_0 0 := agB_of (n := 19) (by decide +kernel)
theorem dbJ5_isLatin1_aae02_0 : (decode dsJ5_isLatin1_aae02_0 0 = .ok (.getstatic 18, 3) ∧ okop dsJ5_isLatin1_aae02_0 0 = true) ∧ (decode dsJ5_isLatin1_aae02_0 3 = .ok (.ifCond .eq 14, 3) ∧ okop dsJ5_isLatin1_aae02_0 3 = true) ∧ (decode dsJ5_isLatin1_aae02_0 6 = .ok (.aload_n 0, 1) ∧ okop dsJ5_isLatin1_aae02_0 6 = true) ∧ (decode dsJ5_isLatin1_aae02_0 7 = .ok (.getfield 22, 3) ∧ okop dsJ5_isLatin1_aae02_0 7 = true) ∧ (decode dsJ5_isLatin1_aae02_0 10 = .ok (.ifCond .ne 7, 3) ∧ okop dsJ5_isLatin1_aae02_0 10 = true) ∧ (decode dsJ5_isLatin1_aae02_0 13 = .ok (.iconst 1, 1) ∧ okop dsJ5_isLatin1_aae02_0 13 = true) ∧ (decode dsJ5_isLatin1_aae02_0 14 = .ok (.goto 4, 3) ∧ okop dsJ5_isLatin1_aae02_0 14 = true) ∧ (decode dsJ5_isLatin1_aae02_0 17 = .ok (.iconst 0, 1) ∧ okop dsJ5_isLatin1_aae02_0 17 = true) ∧ (decode dsJ5_isLatin1_aae02_0 18 = .ok (.ireturn, 1) ∧ okop dsJ5_isLatin1_aae02_0 18 = true) := by decide +kernel
theorem dJ5_isLatin1_aae02_0 : decode cJ5_isLatin1_aae02 0 = .ok (.getstatic 18, 3) := dgq (p := 0) daJ5_isLatin1_aae02_0 dbJ5_isLatin1_aae02_0.1
theorem dJ5_isLatin1_aae02_3 : decode cJ5_isLatin1_aae02 3 = .ok (.ifCond .eq 14, 3) := dgq (p := 3) daJ5_isLatin1_aae02_0 dbJ5_isLatin1_aae02_0.2.1
theorem dJ5_isLatin1_aae02_6 : decode cJ5_isLatin1_aae02 6 = .ok (.aload_n 0, 1) := dgq (p := 6) daJ5_isLatin1_aae02_0 dbJ5_isLatin1_aae02_0.2.2.1
theorem dJ5_isLatin1_aae02_7 : decode cJ5_isLatin1_aae02 7 = .ok (.getfield 22, 3) := dgq (p := 7) daJ5_isLatin1_aae02_0 dbJ5_isLatin1_aae02_0.2.2.2.1
theorem dJ5_isLatin1_aae02_10 : decode cJ5_isLatin1_aae02 10 = .ok (.ifCond .ne 7, 3) := dgq (p := 10) daJ5_isLatin1_aae02_0 dbJ5_isLatin1_aae02_0.2.2.2.2.1
theorem dJ5_isLatin1_aae02_13 : decode cJ5_isLatin1_aae02 13 = .ok (.iconst 1, 1) := dgq (p := 13) daJ5_isLatin1_aae02_0 dbJ5_isLatin1_aae02_0.2.2.2.2.2.1
theorem dJ5_isLatin1_aae02_14 : decode cJ5_isLatin1_aae02 14 = .ok (.goto 4, 3) := dgq (p := 14) daJ5_isLatin1_aae02_0 dbJ5_isLatin1_aae02_0.2.2.2.2.2.2.1
theorem dJ5_isLatin1_aae02_17 : decode cJ5_isLatin1_aae02 17 = .ok (.iconst 0, 1) := dgq (p := 17) daJ5_isLatin1_aae02_0 dbJ5_isLatin1_aae02_0.2.2.2.2.2.2.2.1
theorem dJ5_isLatin1_aae02_18 : decode cJ5_isLatin1_aae02 18 = .ok (.ireturn, 1) := dgq (p := 18) daJ5_isLatin1_aae02_0 dbJ5_isLatin1_aae02_0.2.2.2.2.2.2.2.2
def dsJx00060_init_a7421_0 : ByteArray := ⟨#[42, 43, 183, 0, 7, 177]⟩
theorem daJx00060_init_a7421_0 : agB cJx00060_init_a7421 dsJx00060_init_a7421_0 0 := agB_of (n := 6) (by decide +kernel)
theorem dbJx00060_init_a7421_0 : (decode dsJx00060_init_a7421_0 0 = .ok (.aload_n 0, 1) ∧ okop dsJx00060_init_a7421_0 0 = true) ∧ (decode dsJx00060_init_a7421_0 1 = .ok (.aload_n 1, 1) ∧ okop dsJx00060_init_a7421_0 1 = true) ∧ (decode dsJx00060_init_a7421_0 2 = .ok (.invokespecial 7, 3) ∧ okop dsJx00060_init_a7421_0 2 = true) ∧ (decode dsJx00060_init_a7421_0 5 = .ok (.return_, 1) ∧ okop dsJx00060_init_a7421_0 5 = true) := by decide +kernel
theorem dJx00060_init_a7421_0 : decode cJx00060_init_a7421 0 = .ok (.aload_n 0, 1) := dgq (p := 0) daJx00060_init_a7421_0 dbJx00060_init_a7421_0.1
theorem dJx00060_init_a7421_1 : decode cJx00060_init_a7421 1 = .ok (.aload_n 1, 1) := dgq (p := 1) daJx00060_init_a7421_0 dbJx00060_init_a7421_0.2.1
theorem dJx00060_init_a7421_2 : decode cJx00060_init_a7421 2 = .ok (.invokespecial 7, 3) := dgq (p := 2) daJx00060_init_a7421_0 dbJx00060_init_a7421_0.2.2.1
theorem dJx00060_init_a7421_5 : decode cJx00060_init_a7421 5 = .ok (.return_, 1) := dgq (p := 5) daJx00060_init_a7421_0 dbJx00060_init_a7421_0.2.2.2
def dsJ9_floorMod_7cf53_0 : ByteArray := ⟨#[26, 27, 112]⟩
theorem daJ9_floorMod_7cf53_0 : agB cJ9_floorMod_7cf53 dsJ9_floorMod_7cf53_0 0 := agB_of (n := 3) (by decide +kernel)
theorem dbJ9_floorMod_7cf53_0 : (decode dsJ9_floorMod_7cf53_0 0 = .ok (.iload_n 0, 1) ∧ okop dsJ9_floorMod_7cf53_0 0 = true) ∧ (decode dsJ9_floorMod_7cf53_0 1 = .ok (.iload_n 1, 1) ∧ okop dsJ9_floorMod_7cf53_0 1 = true) ∧ (decode dsJ9_floorMod_7cf53_0 2 = .ok (.irem, 1) ∧ okop dsJ9_floorMod_7cf53_0 2 = true) := by decide +kernel
theorem dJ9_floorMod_7cf53_0 : decode cJ9_floorMod_7cf53 0 = .ok (.iload_n 0, 1) := dgq (p := 0) daJ9_floorMod_7cf53_0 dbJ9_floorMod_7cf53_0.1
theorem dJ9_floorMod_7cf53_1 : decode cJ9_floorMod_7cf53 1 = .ok (.iload_n 1, 1) := dgq (p := 1) daJ9_floorMod_7cf53_0 dbJ9_floorMod_7cf53_0.2.1
theorem dJ9_floorMod_7cf53_2 : decode cJ9_floorMod_7cf53 2 = .ok (.irem, 1) := dgq (p := 2) daJ9_floorMod_7cf53_0 dbJ9_floorMod_7cf53_0.2.2
