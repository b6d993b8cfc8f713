def dsX12_machine_70 : ByteArray := ⟨#[42, 42, 180, 1, 229, 4, 100, 182, 0, 153, 172]⟩
theorem daX12_machine_70 : agB cX12_machine dsX12_machine_70 70 := agB_of (n := 11) (by decide +kernel)
def dlX12_machine_70 : List (Nat × Instr × Nat) := [(0, .aload_n 0, 1), (1, .aload_n 0, 1), (2, .getfield 485, 3), (5, .iconst 1, 1), (6, .isub, 1), (7, .invokevirtual 153, 3), (10, .ireturn, 1)]
theorem dbX12_machine_70 : ∀ z ∈ dlX12_machine_70, decode dsX12_machine_70 z.1 = Except.ok z.2 ∧ okop dsX12_machine_70 z.1 = true := by decide +kernel
theorem dX12_machine_70 : decode cX12_machine 70 = .ok (.aload_n 0, 1) := dgs daX12_machine_70 dbX12_machine_70 0 0 rfl
theorem dX12_machine_71 : decode cX12_machine 71 = .ok (.aload_n 0, 1) := dgs daX12_machine_70 dbX12_machine_70 1 1 rfl
theorem dX12_machine_72 : decode cX12_machine 72 = .ok (.getfield 485, 3) := dgs daX12_machine_70 dbX12_machine_70 2 2 rfl
theorem dX12_machine_75 : decode cX12_machine 75 = .ok (.iconst 1, 1) := dgs daX12_machine_70 dbX12_machine_70 3 5 rfl
theorem dX12_machine_76 : decode cX12_machine 76 = .ok (.isub, 1) := dgs daX12_machine_70 dbX12_machine_70 4 6 rfl
theorem dX12_machine_77 : decode cX12_machine 77 = .ok (.invokevirtual 153, 3) := dgs daX12_machine_70 dbX12_machine_70 5 7 rfl
theorem dX12_machine_80 : decode cX12_machine 80 = .ok (.ireturn, 1) := dgs daX12_machine_70 dbX12_machine_70 6 10 rfl
set_option maxRecDepth 20000 in
theorem ggX12_toolsAt_X12_in : GoodIn wsX12_toolsAt wsX12_in := goodIn_q _ [7] rfl (by decide +kernel)
set_option maxRecDepth 20000 in
theorem gX12_toolsAt_X12_in : GoodIn wsX12_toolsAt (va_wsS RX12 101 yX12_in wsX12_in) := goodIn_app (goodIn_q _ [4, 5, 6] rfl (by decide +kernel)) ggX12_toolsAt_X12_in
set_option maxRecDepth 20000 in
theorem ggX12_toolsAt_X12_fails : GoodIn wsX12_toolsAt wsX12_fails := goodIn_q _ [11, 12, 17, 18, 19, 20, 21, 22, 23, 24, 25, 26, 27, 28, 29, 30, 31, 32, 33, 34, 35, 36, 37, 38, 39, 40, 41, 42, 43, 44, 45, 46, 47, 48, 49, 50] rfl (by decide +kernel)
set_option maxRecDepth 20000 in
theorem gX12_toolsAt_X12_fails : GoodIn wsX12_toolsAt (wsV RX12 143 RX12 yX12_fails wsX12_fails) := goodIn_app (goodIn_q _ [8, 9, 10, 6] rfl (by decide +kernel)) ggX12_toolsAt_X12_fails
set_option maxRecDepth 20000 in
theorem ggX12_toolsAt_X12_answer : GoodIn wsX12_toolsAt wsX12_answer := goodIn_q _ [16, 12, 17, 18, 19, 20, 21, 22, 23, 24, 25, 26, 27, 28, 29, 30, 31, 32, 33, 34, 35, 36, 37, 38, 39, 40, 41, 42, 43, 44, 45, 46, 47, 48, 49, 50] rfl (by decide +kernel)
set_option maxRecDepth 20000 in
theorem gX12_toolsAt_X12_answer : GoodIn wsX12_toolsAt (wsV RX12 153 RX12 yX12_answer wsX12_answer) := goodIn_app (goodIn_q _ [13, 14, 15, 6] rfl (by decide +kernel)) ggX12_toolsAt_X12_answer
def dsX12_toolsAt_0 : ByteArray := ⟨#[27, 133, 9, 42, 180, 1, 229, 4, 100, 133, 184, 0, 101, 154, 0, 9, 42, 4, 182, 0, 143, 172, 28, 133, 9, 20, 0, 249, 184, 0, 101, 154, 0, 9, 42, 5, 182, 0, 143, 172, 42, 180, 0, 48, 27, 46, 62, 42, 180, 0, 48, 27, 28, 79, 42, 29, 182, 0, 153, 172]⟩
theorem daX12_toolsAt_0 : agB cX12_toolsAt dsX12_toolsAt_0 0 := agB_of (n := 60) (by decide +kernel)
def dlX12_toolsAt_0 : List (Nat × Instr × Nat) := [(0, .iload_n 1, 1), (1, .i2l, 1), (2, .lconst 0, 1), (3, .aload_n 0, 1), (4, .getfield 485, 3), (7, .iconst 1, 1), (8, .isub, 1), (9, .i2l, 1), (10, .invokestatic 101, 3), (13, .ifCond .ne 9, 3), (16, .aload_n 0, 1), (17, .iconst 1, 1), (18, .invokevirtual 143, 3), (21, .ireturn, 1), (22, .iload_n 2, 1), (23, .i2l, 1), (24, .lconst 0, 1), (25, .ldc2_w 249, 3), (28, .invokestatic 101, 3), (31, .ifCond .ne 9, 3), (34, .aload_n 0, 1), (35, .iconst 2, 1), (36, .invokevirtual 143, 3), (39, .ireturn, 1), (40, .aload_n 0, 1), (41, .getfield 48, 3), (44, .iload_n 1, 1), (45, .iaload, 1), (46, .istore_n 3, 1), (47, .aload_n 0, 1), (48, .getfield 48, 3), (51, .iload_n 1, 1), (52, .iload_n 2, 1), (53, .iastore, 1), (54, .aload_n 0, 1), (55, .iload_n 3, 1), (56, .invokevirtual 153, 3), (59, .ireturn, 1)]
theorem dbX12_toolsAt_0 : ∀ z ∈ dlX12_toolsAt_0, decode dsX12_toolsAt_0 z.1 = Except.ok z.2 ∧ okop dsX12_toolsAt_0 z.1 = true := by decide +kernel
theorem dX12_toolsAt_0 : decode cX12_toolsAt 0 = .ok (.iload_n 1, 1) := dgs daX12_toolsAt_0 dbX12_toolsAt_0 0 0 rfl
theorem dX12_toolsAt_1 : decode cX12_toolsAt 1 = .ok (.i2l, 1) := dgs daX12_toolsAt_0 dbX12_toolsAt_0 1 1 rfl
theorem dX12_toolsAt_2 : decode cX12_toolsAt 2 = .ok (.lconst 0, 1) := dgs daX12_toolsAt_0 dbX12_toolsAt_0 2 2 rfl
theorem dX12_toolsAt_3 : decode cX12_toolsAt 3 = .ok (.aload_n 0, 1) := dgs daX12_toolsAt_0 dbX12_toolsAt_0 3 3 rfl
theorem dX12_toolsAt_4 : decode cX12_toolsAt 4 = .ok (.getfield 485, 3) := dgs daX12_toolsAt_0 dbX12_toolsAt_0 4 4 rfl
theorem dX12_toolsAt_7 : decode cX12_toolsAt 7 = .ok (.iconst 1, 1) := dgs daX12_toolsAt_0 dbX12_toolsAt_0 5 7 rfl
theorem dX12_toolsAt_8 : decode cX12_toolsAt 8 = .ok (.isub, 1) := dgs daX12_toolsAt_0 dbX12_toolsAt_0 6 8 rfl
theorem dX12_toolsAt_9 : decode cX12_toolsAt 9 = .ok (.i2l, 1) := dgs daX12_toolsAt_0 dbX12_toolsAt_0 7 9 rfl
theorem dX12_toolsAt_10 : decode cX12_toolsAt 10 = .ok (.invokestatic 101, 3) := dgs daX12_toolsAt_0 dbX12_toolsAt_0 8 10 rfl
theorem dX12_toolsAt_13 : decode cX12_toolsAt 13 = .ok (.ifCond .ne 9, 3) := dgs daX12_toolsAt_0 dbX12_toolsAt_0 9 13 rfl
theorem dX12_toolsAt_16 : decode cX12_toolsAt 16 = .ok (.aload_n 0, 1) := dgs daX12_toolsAt_0 dbX12_toolsAt_0 10 16 rfl
theorem dX12_toolsAt_17 : decode cX12_toolsAt 17 = .ok (.iconst 1, 1) := dgs daX12_toolsAt_0 dbX12_toolsAt_0 11 17 rfl
theorem dX12_toolsAt_18 : decode cX12_toolsAt 18 = .ok (.invokevirtual 143, 3) := dgs daX12_toolsAt_0 dbX12_toolsAt_0 12 18 rfl
theorem dX12_toolsAt_21 : decode cX12_toolsAt 21 = .ok (.ireturn, 1) := dgs daX12_toolsAt_0 dbX12_toolsAt_0 13 21 rfl
theorem dX12_toolsAt_22 : decode cX12_toolsAt 22 = .ok (.iload_n 2, 1) := dgs daX12_toolsAt_0 dbX12_toolsAt_0 14 22 rfl
theorem dX12_toolsAt_23 : decode cX12_toolsAt 23 = .ok (.i2l, 1) := dgs daX12_toolsAt_0 dbX12_toolsAt_0 15 23 rfl
theorem dX12_toolsAt_24 : decode cX12_toolsAt 24 = .ok (.lconst 0, 1) := dgs daX12_toolsAt_0 dbX12_toolsAt_0 16 24 rfl
theorem dX12_toolsAt_25 : decode cX12_toolsAt 25 = .ok (.ldc2_w 249, 3) := dgs daX12_toolsAt_0 dbX12_toolsAt_0 17 25 rfl
theorem dX12_toolsAt_28 : decode cX12_toolsAt 28 = .ok (.invokestatic 101, 3) := dgs daX12_toolsAt_0 dbX12_toolsAt_0 18 28 rfl
theorem dX12_toolsAt_31 : decode cX12_toolsAt 31 = .ok (.ifCond .ne 9, 3) := dgs daX12_toolsAt_0 dbX12_toolsAt_0 19 31 rfl
theorem dX12_toolsAt_34 : decode cX12_toolsAt 34 = .ok (.aload_n 0, 1) := dgs daX12_toolsAt_0 dbX12_toolsAt_0 20 34 rfl
theorem dX12_toolsAt_35 : decode cX12_toolsAt 35 = .ok (.iconst 2, 1) := dgs daX12_toolsAt_0 dbX12_toolsAt_0 21 35 rfl
theorem dX12_toolsAt_36 : decode cX12_toolsAt 36 = .ok (.invokevirtual 143, 3) := dgs daX12_toolsAt_0 dbX12_toolsAt_0 22 36 rfl
theorem dX12_toolsAt_39 : decode cX12_toolsAt 39 = .ok (.ireturn, 1) := dgs daX12_toolsAt_0 dbX12_toolsAt_0 23 39 rfl
theorem dX12_toolsAt_40 : decode cX12_toolsAt 40 = .ok (.aload_n 0, 1) := dgs daX12_toolsAt_0 dbX12_toolsAt_0 24 40 rfl
theorem dX12_toolsAt_41 : decode cX12_toolsAt 41 = .ok (.getfield 48, 3) := dgs daX12_toolsAt_0 dbX12_toolsAt_0 25 41 rfl
theorem dX12_toolsAt_44 : decode cX12_toolsAt 44 = .ok (.iload_n 1, 1) := dgs daX12_toolsAt_0 dbX12_toolsAt_0 26 44 rfl
theorem dX12_toolsAt_45 : decode cX12_toolsAt 45 = .ok (.iaload, 1) := dgs daX12_toolsAt_0 dbX12_toolsAt_0 27 45 rfl
theorem dX12_toolsAt_46 : decode cX12_toolsAt 46 = .ok (.istore_n 3, 1) := dgs daX12_toolsAt_0 dbX12_toolsAt_0 28 46 rfl
theorem dX12_toolsAt_47 : decode cX12_toolsAt 47 = .ok (.aload_n 0, 1) := dgs daX12_toolsAt_0 dbX12_toolsAt_0 29 47 rfl
theorem dX12_toolsAt_48 : decode cX12_toolsAt 48 = .ok (.getfield 48, 3) := dgs daX12_toolsAt_0 dbX12_toolsAt_0 30 48 rfl
theorem dX12_toolsAt_51 : decode cX12_toolsAt 51 = .ok (.iload_n 1, 1) := dgs daX12_toolsAt_0 dbX12_toolsAt_0 31 51 rfl
theorem dX12_toolsAt_52 : decode cX12_toolsAt 52 = .ok (.iload_n 2, 1) := dgs daX12_toolsAt_0 dbX12_toolsAt_0 32 52 rfl
theorem dX12_toolsAt_53 : decode cX12_toolsAt 53 = .ok (.iastore, 1) := dgs daX12_toolsAt_0 dbX12_toolsAt_0 33 53 rfl
theorem dX12_toolsAt_54 : decode cX12_toolsAt 54 = .ok (.aload_n 0, 1) := dgs daX12_toolsAt_0 dbX12_toolsAt_0 34 54 rfl
theorem dX12_toolsAt_55 : decode cX12_toolsAt 55 = .ok (.iload_n 3, 1) := dgs daX12_toolsAt_0 dbX12_toolsAt_0 35 55 rfl
theorem dX12_toolsAt_56 : decode cX12_toolsAt 56 = .ok (.invokevirtual 153, 3) := dgs daX12_toolsAt_0 dbX12_toolsAt_0 36 56 rfl
theorem dX12_toolsAt_59 : decode cX12_toolsAt 59 = .ok (.ireturn, 1) := dgs daX12_toolsAt_0 dbX12_toolsAt_0 37 59 rfl
set_option maxRecDepth 20000 in
theorem ggX12_route_X12_isGear : GoodIn wsX12_route wsX12_isGear := goodIn_q _ [5, 6, 7, 8, 9, 10, 11, 12, 13, 14, 4, 15, 73, 74, 75, 76, 77, 78, 79, 80, 81, 82, 83, 84, 85, 86, 87, 88, 89, 90, 91, 92, 93, 94, 95, 96, 97, 98, 99, 100, 101, 102, 103, 104, 105, 106, 107, 108, 109] rfl (by decide +kernel)
set_option maxRecDepth 20000 in
theorem gX12_route_X12_isGear : GoodIn wsX12_route (wsV RX12 121 RX12 yX12_isGear wsX12_isGear) := goodIn_app (goodIn_q _ [1, 2, 3, 4] rfl (by decide +kernel)) ggX12_route_X12_isGear
set_option maxRecDepth 20000 in
theorem ggX12_route_X12_fails : GoodIn wsX12_route wsX12_fails := goodIn_q _ [19, 20, 73, 74, 75, 76, 77, 78, 79, 80, 81, 82, 83, 84, 85, 86, 87, 88, 89, 90, 91, 92, 93, 94, 95, 96, 97, 98, 99, 100, 101, 102, 103, 104, 105, 106] rfl (by decide +kernel)
set_option maxRecDepth 20000 in
theorem gX12_route_X12_fails : GoodIn wsX12_route (wsV RX12 143 RX12 yX12_fails wsX12_fails) := goodIn_app (goodIn_q _ [16, 17, 18, 4] rfl (by decide +kernel)) ggX12_route_X12_fails
set_option maxRecDepth 20000 in
theorem ggX12_route_X12_isKind : GoodIn wsX12_route wsX12_isKind := goodIn_q _ [23] rfl (by decide +kernel)
set_option maxRecDepth 20000 in
theorem gX12_route_X12_isKind : GoodIn wsX12_route (va_wsS RX12 481 yX12_isKind wsX12_isKind) := goodIn_app (goodIn_q _ [21, 22, 4] rfl (by decide +kernel)) ggX12_route_X12_isKind
set_option maxRecDepth 20000 in
theorem ggX12_route_X12_gearAt : GoodIn wsX12_route wsX12_gearAt := goodIn_q _ [27, 6, 28, 29, 30, 31, 10, 32, 12, 33, 34, 35, 36, 37, 38, 39, 40, 41, 42, 43, 44, 45, 73, 74, 75, 76, 77, 78, 79, 80, 81, 82, 83, 84, 85, 86, 87, 88, 89, 90, 91, 92, 93, 94, 95, 96, 97, 98, 99, 100, 101, 102, 103, 104, 105, 106, 107, 108, 109] rfl (by decide +kernel)
set_option maxRecDepth 20000 in
theorem gX12_route_X12_gearAt : GoodIn wsX12_route (wsV RX12 111 RX12 yX12_gearAt wsX12_gearAt) := goodIn_app (goodIn_q _ [24, 25, 26, 4] rfl (by decide +kernel)) ggX12_route_X12_gearAt
set_option maxRecDepth 20000 in
theorem ggX12_route_X12_answer : GoodIn wsX12_route wsX12_answer := goodIn_q _ [49, 20, 73, 74, 75, 76, 77, 78, 79, 80, 81, 82, 83, 84, 85, 86, 87, 88, 89, 90, 91, 92, 93, 94, 95, 96, 97, 98, 99, 100, 101, 102, 103, 104, 105, 106] rfl (by decide +kernel)
set_option maxRecDepth 20000 in
theorem gX12_route_X12_answer : GoodIn wsX12_route (wsV RX12 153 RX12 yX12_answer wsX12_answer) := goodIn_app (goodIn_q _ [46, 47, 48, 4] rfl (by decide +kernel)) ggX12_route_X12_answer
def dsX12_route_0 : ByteArray := ⟨#[42, 27, 182, 0, 121, 154, 0, 9, 42, 4, 182, 0, 143, 172, 28, 184, 1, 225, 154, 0, 9, 42, 5, 182, 0, 143, 172, 42, 27, 182, 0, 111, 78, 45, 180, 1, 232, 16, 8, 160, 0, 9, 42, 6, 182, 0, 143, 172, 45, 180, 1, 234, 45, 180, 1, 232, 28, 85, 45, 89, 180, 1, 232, 4, 96, 181, 1, 232, 42, 45, 180, 1, 232, 182, 0, 153, 172]⟩
theorem daX12_route_0 : agB cX12_route dsX12_route_0 0 := agB_of (n := 77) (by decide +kernel)
def dlX12_route_0 : List (Nat × Instr × Nat) := [(0, .aload_n 0, 1), (1, .iload_n 1, 1), (2, .invokevirtual 121, 3), (5, .ifCond .ne 9, 3), (8, .aload_n 0, 1), (9, .iconst 1, 1), (10, .invokevirtual 143, 3), (13, .ireturn, 1), (14, .iload_n 2, 1), (15, .invokestatic 481, 3), (18, .ifCond .ne 9, 3), (21, .aload_n 0, 1), (22, .iconst 2, 1), (23, .invokevirtual 143, 3), (26, .ireturn, 1), (27, .aload_n 0, 1), (28, .iload_n 1, 1), (29, .invokevirtual 111, 3), (32, .astore_n 3, 1), (33, .aload_n 3, 1), (34, .getfield 488, 3), (37, .bipush 8, 2), (39, .if_icmp .ne 9, 3), (42, .aload_n 0, 1), (43, .iconst 3, 1), (44, .invokevirtual 143, 3), (47, .ireturn, 1), (48, .aload_n 3, 1), (49, .getfield 490, 3), (52, .aload_n 3, 1), (53, .getfield 488, 3), (56, .iload_n 2, 1), (57, .castore, 1), (58, .aload_n 3, 1), (59, .dup, 1), (60, .getfield 488, 3), (63, .iconst 1, 1), (64, .iadd, 1), (65, .putfield 488, 3), (68, .aload_n 0, 1), (69, .aload_n 3, 1), (70, .getfield 488, 3), (73, .invokevirtual 153, 3), (76, .ireturn, 1)]
theorem dbX12_route_0 : ∀ z ∈ dlX12_route_0, decode dsX12_route_0 z.1 = Except.ok z.2 ∧ okop dsX12_route_0 z.1 = true := by decide +kernel
theorem dX12_route_0 : decode cX12_route 0 = .ok (.aload_n 0, 1) := dgs daX12_route_0 dbX12_route_0 0 0 rfl
theorem dX12_route_1 : decode cX12_route 1 = .ok (.iload_n 1, 1) := dgs daX12_route_0 dbX12_route_0 1 1 rfl
theorem dX12_route_2 : decode cX12_route 2 = .ok (.invokevirtual 121, 3) := dgs daX12_route_0 dbX12_route_0 2 2 rfl
theorem dX12_route_5 : decode cX12_route 5 = .ok (.ifCond .ne 9, 3) := dgs daX12_route_0 dbX12_route_0 3 5 rfl
theorem dX12_route_8 : decode cX12_route 8 = .ok (.aload_n 0, 1) := dgs daX12_route_0 dbX12_route_0 4 8 rfl
theorem dX12_route_9 : decode cX12_route 9 = .ok (.iconst 1, 1) := dgs daX12_route_0 dbX12_route_0 5 9 rfl
theorem dX12_route_10 : decode cX12_route 10 = .ok (.invokevirtual 143, 3) := dgs daX12_route_0 dbX12_route_0 6 10 rfl
theorem dX12_route_13 : decode cX12_route 13 = .ok (.ireturn, 1) := dgs daX12_route_0 dbX12_route_0 7 13 rfl
theorem dX12_route_14 : decode cX12_route 14 = .ok (.iload_n 2, 1) := dgs daX12_route_0 dbX12_route_0 8 14 rfl
theorem dX12_route_15 : decode cX12_route 15 = .ok (.invokestatic 481, 3) := dgs daX12_route_0 dbX12_route_0 9 15 rfl
theorem dX12_route_18 : decode cX12_route 18 = .ok (.ifCond .ne 9, 3) := dgs daX12_route_0 dbX12_route_0 10 18 rfl
theorem dX12_route_21 : decode cX12_route 21 = .ok (.aload_n 0, 1) := dgs daX12_route_0 dbX12_route_0 11 21 rfl
theorem dX12_route_22 : decode cX12_route 22 = .ok (.iconst 2, 1) := dgs daX12_route_0 dbX12_route_0 12 22 rfl
theorem dX12_route_23 : decode cX12_route 23 = .ok (.invokevirtual 143, 3) := dgs daX12_route_0 dbX12_route_0 13 23 rfl
theorem dX12_route_26 : decode cX12_route 26 = .ok (.ireturn, 1) := dgs daX12_route_0 dbX12_route_0 14 26 rfl
theorem dX12_route_27 : decode cX12_route 27 = .ok (.aload_n 0, 1) := dgs daX12_route_0 dbX12_route_0 15 27 rfl
theorem dX12_route_28 : decode cX12_route 28 = .ok (.iload_n 1, 1) := dgs daX12_route_0 dbX12_route_0 16 28 rfl
theorem dX12_route_29 : decode cX12_route 29 = .ok (.invokevirtual 111, 3) := dgs daX12_route_0 dbX12_route_0 17 29 rfl
theorem dX12_route_32 : decode cX12_route 32 = .ok (.astore_n 3, 1) := dgs daX12_route_0 dbX12_route_0 18 32 rfl
theorem dX12_route_33 : decode cX12_route 33 = .ok (.aload_n 3, 1) := dgs daX12_route_0 dbX12_route_0 19 33 rfl
theorem dX12_route_34 : decode cX12_route 34 = .ok (.getfield 488, 3) := dgs daX12_route_0 dbX12_route_0 20 34 rfl
theorem dX12_route_37 : decode cX12_route 37 = .ok (.bipush 8, 2) := dgs daX12_route_0 dbX12_route_0 21 37 rfl
theorem dX12_route_39 : decode cX12_route 39 = .ok (.if_icmp .ne 9, 3) := dgs daX12_route_0 dbX12_route_0 22 39 rfl
theorem dX12_route_42 : decode cX12_route 42 = .ok (.aload_n 0, 1) := dgs daX12_route_0 dbX12_route_0 23 42 rfl
theorem dX12_route_43 : decode cX12_route 43 = .ok (.iconst 3, 1) := dgs daX12_route_0 dbX12_route_0 24 43 rfl
theorem dX12_route_44 : decode cX12_route 44 = .ok (.invokevirtual 143, 3) := dgs daX12_route_0 dbX12_route_0 25 44 rfl
theorem dX12_route_47 : decode cX12_route 47 = .ok (.ireturn, 1) := dgs daX12_route_0 dbX12_route_0 26 47 rfl
theorem dX12_route_48 : decode cX12_route 48 = .ok (.aload_n 3, 1) := dgs daX12_route_0 dbX12_route_0 27 48 rfl
theorem dX12_route_49 : decode cX12_route 49 = .ok (.getfield 490, 3) := dgs daX12_route_0 dbX12_route_0 28 49 rfl
theorem dX12_route_52 : decode cX12_route 52 = .ok (.aload_n 3, 1) := dgs daX12_route_0 dbX12_route_0 29 52 rfl
theorem dX12_route_53 : decode cX12_route 53 = .ok (.getfield 488, 3) := dgs daX12_route_0 dbX12_route_0 30 53 rfl
theorem dX12_route_56 : decode cX12_route 56 = .ok (.iload_n 2, 1) := dgs daX12_route_0 dbX12_route_0 31 56 rfl
theorem dX12_route_57 : decode cX12_route 57 = .ok (.castore, 1) := dgs daX12_route_0 dbX12_route_0 32 57 rfl
theorem dX12_route_58 : decode cX12_route 58 = .ok (.aload_n 3, 1) := dgs daX12_route_0 dbX12_route_0 33 58 rfl
theorem dX12_route_59 : decode cX12_route 59 = .ok (.dup, 1) := dgs daX12_route_0 dbX12_route_0 34 59 rfl
theorem dX12_route_60 : decode cX12_route 60 = .ok (.getfield 488, 3) := dgs daX12_route_0 dbX12_route_0 35 60 rfl
theorem dX12_route_63 : decode cX12_route 63 = .ok (.iconst 1, 1) := dgs daX12_route_0 dbX12_route_0 36 63 rfl
theorem dX12_route_64 : decode cX12_route 64 = .ok (.iadd, 1) := dgs daX12_route_0 dbX12_route_0 37 64 rfl
theorem dX12_route_65 : decode cX12_route 65 = .ok (.putfield 488, 3) := dgs daX12_route_0 dbX12_route_0 38 65 rfl
theorem dX12_route_68 : decode cX12_route 68 = .ok (.aload_n 0, 1) := dgs daX12_route_0 dbX12_route_0 39 68 rfl
theorem dX12_route_69 : decode cX12_route 69 = .ok (.aload_n 3, 1) := dgs daX12_route_0 dbX12_route_0 40 69 rfl
theorem dX12_route_70 : decode cX12_route 70 = .ok (.getfield 488, 3) := dgs daX12_route_0 dbX12_route_0 41 70 rfl
theorem dX12_route_73 : decode cX12_route 73 = .ok (.invokevirtual 153, 3) := dgs daX12_route_0 dbX12_route_0 42 73 rfl
theorem dX12_route_76 : decode cX12_route 76 = .ok (.ireturn, 1) := dgs daX12_route_0 dbX12_route_0 43 76 rfl
def dsX12_goesThrough_0 : ByteArray := ⟨#[3, 61, 3, 62, 29, 43, 180, 1, 232, 162, 0, 124, 2, 54, 4, 3, 54, 5, 3, 54, 6, 21, 6, 42, 180, 1, 229, 162, 0, 80, 28, 42, 180, 0, 51, 21, 6, 46, 42, 180, 0, 48, 21, 6, 46, 184, 1, 162, 184, 1, 162, 42, 180, 0, 45, 21, 6, 46, 96, 54, 7, 42, 180, 0, 41, 21, 6, 52, 43, 180, 1, 234, 29, 52, 160, 0, 27, 21, 4, 2, 159, 0, 13, 21, 7, 21, 5, 161, 0, 6, 167, 0, 11, 21, 6, 54, 4, 21, 7, 54, 5, 132, 6, 1, 167, 255, 173, 21, 4, 2, 160, 0, 5, 2, 172, 42, 180, 0, 51, 21, 4]⟩
theorem daX12_goesThrough_0 : agB cX12_goesThrough dsX12_goesThrough_0 0 := agB_of (n := 121) (by decide +kernel)
def dlX12_goesThrough_0 : List (Nat × Instr × Nat) := [(0, .iconst 0, 1), (1, .istore_n 2, 1), (2, .iconst 0, 1), (3, .istore_n 3, 1), (4, .iload_n 3, 1), (5, .aload_n 1, 1), (6, .getfield 488, 3), (9, .if_icmp .ge 124, 3), (12, .iconst (-1), 1), (13, .istore 4, 2), (15, .iconst 0, 1), (16, .istore 5, 2), (18, .iconst 0, 1), (19, .istore 6, 2), (21, .iload 6, 2), (23, .aload_n 0, 1), (24, .getfield 485, 3), (27, .if_icmp .ge 80, 3), (30, .iload_n 2, 1), (31, .aload_n 0, 1), (32, .getfield 51, 3), (35, .iload 6, 2), (37, .iaload, 1), (38, .aload_n 0, 1), (39, .getfield 48, 3), (42, .iload 6, 2), (44, .iaload, 1), (45, .invokestatic 418, 3), (48, .invokestatic 418, 3), (51, .aload_n 0, 1), (52, .getfield 45, 3), (55, .iload 6, 2), (57, .iaload, 1), (58, .iadd, 1), (59, .istore 7, 2), (61, .aload_n 0, 1), (62, .getfield 41, 3), (65, .iload 6, 2), (67, .caload, 1), (68, .aload_n 1, 1), (69, .getfield 490, 3), (72, .iload_n 3, 1), (73, .caload, 1), (74, .if_icmp .ne 27, 3), (77, .iload 4, 2), (79, .iconst (-1), 1), (80, .if_icmp .eq 13, 3), (83, .iload 7, 2), (85, .iload 5, 2), (87, .if_icmp .lt 6, 3), (90, .goto 11, 3), (93, .iload 6, 2), (95, .istore 4, 2), (97, .iload 7, 2), (99, .istore 5, 2), (101, .iinc 6 1, 3), (104, .goto (-83), 3), (107, .iload 4, 2), (109, .iconst (-1), 1), (110, .if_icmp .ne 5, 3), (113, .iconst (-1), 1), (114, .ireturn, 1), (115, .aload_n 0, 1), (116, .getfield 51, 3), (119, .iload 4, 2)]
theorem dbX12_goesThrough_0 : ∀ z ∈ dlX12_goesThrough_0, decode dsX12_goesThrough_0 z.1 = Except.ok z.2 ∧ okop dsX12_goesThrough_0 z.1 = true := by decide +kernel
theorem dX12_goesThrough_0 : decode cX12_goesThrough 0 = .ok (.iconst 0, 1) := dgs daX12_goesThrough_0 dbX12_goesThrough_0 0 0 rfl
theorem dX12_goesThrough_1 : decode cX12_goesThrough 1 = .ok (.istore_n 2, 1) := dgs daX12_goesThrough_0 dbX12_goesThrough_0 1 1 rfl
theorem dX12_goesThrough_2 : decode cX12_goesThrough 2 = .ok (.iconst 0, 1) := dgs daX12_goesThrough_0 dbX12_goesThrough_0 2 2 rfl
theorem dX12_goesThrough_3 : decode cX12_goesThrough 3 = .ok (.istore_n 3, 1) := dgs daX12_goesThrough_0 dbX12_goesThrough_0 3 3 rfl
theorem dX12_goesThrough_4 : decode cX12_goesThrough 4 = .ok (.iload_n 3, 1) := dgs daX12_goesThrough_0 dbX12_goesThrough_0 4 4 rfl
theorem dX12_goesThrough_5 : decode cX12_goesThrough 5 = .ok (.aload_n 1, 1) := dgs daX12_goesThrough_0 dbX12_goesThrough_0 5 5 rfl
theorem dX12_goesThrough_6 : decode cX12_goesThrough 6 = .ok (.getfield 488, 3) := dgs daX12_goesThrough_0 dbX12_goesThrough_0 6 6 rfl
theorem dX12_goesThrough_9 : decode cX12_goesThrough 9 = .ok (.if_icmp .ge 124, 3) := dgs daX12_goesThrough_0 dbX12_goesThrough_0 7 9 rfl
theorem dX12_goesThrough_12 : decode cX12_goesThrough 12 = .ok (.iconst (-1), 1) := dgs daX12_goesThrough_0 dbX12_goesThrough_0 8 12 rfl
theorem dX12_goesThrough_13 : decode cX12_goesThrough 13 = .ok (.istore 4, 2) := dgs daX12_goesThrough_0 dbX12_goesThrough_0 9 13 rfl
theorem dX12_goesThrough_15 : decode cX12_goesThrough 15 = .ok (.iconst 0, 1) := dgs daX12_goesThrough_0 dbX12_goesThrough_0 10 15 rfl
theorem dX12_goesThrough_16 : decode cX12_goesThrough 16 = .ok (.istore 5, 2) := dgs daX12_goesThrough_0 dbX12_goesThrough_0 11 16 rfl
theorem dX12_goesThrough_18 : decode cX12_goesThrough 18 = .ok (.iconst 0, 1) := dgs daX12_goesThrough_0 dbX12_goesThrough_0 12 18 rfl
theorem dX12_goesThrough_19 : decode cX12_goesThrough 19 = .ok (.istore 6, 2) := dgs daX12_goesThrough_0 dbX12_goesThrough_0 13 19 rfl
theorem dX12_goesThrough_21 : decode cX12_goesThrough 21 = .ok (.iload 6, 2) := dgs daX12_goesThrough_0 dbX12_goesThrough_0 14 21 rfl
theorem dX12_goesThrough_23 : decode cX12_goesThrough 23 = .ok (.aload_n 0, 1) := dgs daX12_goesThrough_0 dbX12_goesThrough_0 15 23 rfl
theorem dX12_goesThrough_24 : decode cX12_goesThrough 24 = .ok (.getfield 485, 3) := dgs daX12_goesThrough_0 dbX12_goesThrough_0 16 24 rfl
theorem dX12_goesThrough_27 : decode cX12_goesThrough 27 = .ok (.if_icmp .ge 80, 3) := dgs daX12_goesThrough_0 dbX12_goesThrough_0 17 27 rfl
theorem dX12_goesThrough_30 : decode cX12_goesThrough 30 = .ok (.iload_n 2, 1) := dgs daX12_goesThrough_0 dbX12_goesThrough_0 18 30 rfl
theorem dX12_goesThrough_31 : decode cX12_goesThrough 31 = .ok (.aload_n 0, 1) := dgs daX12_goesThrough_0 dbX12_goesThrough_0 19 31 rfl
theorem dX12_goesThrough_32 : decode cX12_goesThrough 32 = .ok (.getfield 51, 3) := dgs daX12_goesThrough_0 dbX12_goesThrough_0 20 32 rfl
theorem dX12_goesThrough_35 : decode cX12_goesThrough 35 = .ok (.iload 6, 2) := dgs daX12_goesThrough_0 dbX12_goesThrough_0 21 35 rfl
theorem dX12_goesThrough_37 : decode cX12_goesThrough 37 = .ok (.iaload, 1) := dgs daX12_goesThrough_0 dbX12_goesThrough_0 22 37 rfl
theorem dX12_goesThrough_38 : decode cX12_goesThrough 38 = .ok (.aload_n 0, 1) := dgs daX12_goesThrough_0 dbX12_goesThrough_0 23 38 rfl
theorem dX12_goesThrough_39 : decode cX12_goesThrough 39 = .ok (.getfield 48, 3) := dgs daX12_goesThrough_0 dbX12_goesThrough_0 24 39 rfl
theorem dX12_goesThrough_42 : decode cX12_goesThrough 42 = .ok (.iload 6, 2) := dgs daX12_goesThrough_0 dbX12_goesThrough_0 25 42 rfl
theorem dX12_goesThrough_44 : decode cX12_goesThrough 44 = .ok (.iaload, 1) := dgs daX12_goesThrough_0 dbX12_goesThrough_0 26 44 rfl
theorem dX12_goesThrough_45 : decode cX12_goesThrough 45 = .ok (.invokestatic 418, 3) := dgs daX12_goesThrough_0 dbX12_goesThrough_0 27 45 rfl
theorem dX12_goesThrough_48 : decode cX12_goesThrough 48 = .ok (.invokestatic 418, 3) := dgs daX12_goesThrough_0 dbX12_goesThrough_0 28 48 rfl
theorem dX12_goesThrough_51 : decode cX12_goesThrough 51 = .ok (.aload_n 0, 1) := dgs daX12_goesThrough_0 dbX12_goesThrough_0 29 51 rfl
theorem dX12_goesThrough_52 : decode cX12_goesThrough 52 = .ok (.getfield 45, 3) := dgs daX12_goesThrough_0 dbX12_goesThrough_0 30 52 rfl
theorem dX12_goesThrough_55 : decode cX12_goesThrough 55 = .ok (.iload 6, 2) := dgs daX12_goesThrough_0 dbX12_goesThrough_0 31 55 rfl
theorem dX12_goesThrough_57 : decode cX12_goesThrough 57 = .ok (.iaload, 1) := dgs daX12_goesThrough_0 dbX12_goesThrough_0 32 57 rfl
theorem dX12_goesThrough_58 : decode cX12_goesThrough 58 = .ok (.iadd, 1) := dgs daX12_goesThrough_0 dbX12_goesThrough_0 33 58 rfl
theorem dX12_goesThrough_59 : decode cX12_goesThrough 59 = .ok (.istore 7, 2) := dgs daX12_goesThrough_0 dbX12_goesThrough_0 34 59 rfl
theorem dX12_goesThrough_61 : decode cX12_goesThrough 61 = .ok (.aload_n 0, 1) := dgs daX12_goesThrough_0 dbX12_goesThrough_0 35 61 rfl
theorem dX12_goesThrough_62 : decode cX12_goesThrough 62 = .ok (.getfield 41, 3) := dgs daX12_goesThrough_0 dbX12_goesThrough_0 36 62 rfl
theorem dX12_goesThrough_65 : decode cX12_goesThrough 65 = .ok (.iload 6, 2) := dgs daX12_goesThrough_0 dbX12_goesThrough_0 37 65 rfl
theorem dX12_goesThrough_67 : decode cX12_goesThrough 67 = .ok (.caload, 1) := dgs daX12_goesThrough_0 dbX12_goesThrough_0 38 67 rfl
theorem dX12_goesThrough_68 : decode cX12_goesThrough 68 = .ok (.aload_n 1, 1) := dgs daX12_goesThrough_0 dbX12_goesThrough_0 39 68 rfl
theorem dX12_goesThrough_69 : decode cX12_goesThrough 69 = .ok (.getfield 490, 3) := dgs daX12_goesThrough_0 dbX12_goesThrough_0 40 69 rfl
theorem dX12_goesThrough_72 : decode cX12_goesThrough 72 = .ok (.iload_n 3, 1) := dgs daX12_goesThrough_0 dbX12_goesThrough_0 41 72 rfl
theorem dX12_goesThrough_73 : decode cX12_goesThrough 73 = .ok (.caload, 1) := dgs daX12_goesThrough_0 dbX12_goesThrough_0 42 73 rfl
theorem dX12_goesThrough_74 : decode cX12_goesThrough 74 = .ok (.if_icmp .ne 27, 3) := dgs daX12_goesThrough_0 dbX12_goesThrough_0 43 74 rfl
theorem dX12_goesThrough_77 : decode cX12_goesThrough 77 = .ok (.iload 4, 2) := dgs daX12_goesThrough_0 dbX12_goesThrough_0 44 77 rfl
theorem dX12_goesThrough_79 : decode cX12_goesThrough 79 = .ok (.iconst (-1), 1) := dgs daX12_goesThrough_0 dbX12_goesThrough_0 45 79 rfl
theorem dX12_goesThrough_80 : decode cX12_goesThrough 80 = .ok (.if_icmp .eq 13, 3) := dgs daX12_goesThrough_0 dbX12_goesThrough_0 46 80 rfl
theorem dX12_goesThrough_83 : decode cX12_goesThrough 83 = .ok (.iload 7, 2) := dgs daX12_goesThrough_0 dbX12_goesThrough_0 47 83 rfl
theorem dX12_goesThrough_85 : decode cX12_goesThrough 85 = .ok (.iload 5, 2) := dgs daX12_goesThrough_0 dbX12_goesThrough_0 48 85 rfl
theorem dX12_goesThrough_87 : decode cX12_goesThrough 87 = .ok (.if_icmp .lt 6, 3) := dgs daX12_goesThrough_0 dbX12_goesThrough_0 49 87 rfl
theorem dX12_goesThrough_90 : decode cX12_goesThrough 90 = .ok (.goto 11, 3) := dgs daX12_goesThrough_0 dbX12_goesThrough_0 50 90 rfl
theorem dX12_goesThrough_93 : decode cX12_goesThrough 93 = .ok (.iload 6, 2) := dgs daX12_goesThrough_0 dbX12_goesThrough_0 51 93 rfl
theorem dX12_goesThrough_95 : decode cX12_goesThrough 95 = .ok (.istore 4, 2) := dgs daX12_goesThrough_0 dbX12_goesThrough_0 52 95 rfl
theorem dX12_goesThrough_97 : decode cX12_goesThrough 97 = .ok (.iload 7, 2) := dgs daX12_goesThrough_0 dbX12_goesThrough_0 53 97 rfl
theorem dX12_goesThrough_99 : decode cX12_goesThrough 99 = .ok (.istore 5, 2) := dgs daX12_goesThrough_0 dbX12_goesThrough_0 54 99 rfl
theorem dX12_goesThrough_101 : decode cX12_goesThrough 101 = .ok (.iinc 6 1, 3) := dgs daX12_goesThrough_0 dbX12_goesThrough_0 55 101 rfl
theorem dX12_goesThrough_104 : decode cX12_goesThrough 104 = .ok (.goto (-83), 3) := dgs daX12_goesThrough_0 dbX12_goesThrough_0 56 104 rfl
theorem dX12_goesThrough_107 : decode cX12_goesThrough 107 = .ok (.iload 4, 2) := dgs daX12_goesThrough_0 dbX12_goesThrough_0 57 107 rfl
theorem dX12_goesThrough_109 : decode cX12_goesThrough 109 = .ok (.iconst (-1), 1) := dgs daX12_goesThrough_0 dbX12_goesThrough_0 58 109 rfl
theorem dX12_goesThrough_110 : decode cX12_goesThrough 110 = .ok (.if_icmp .ne 5, 3) := dgs daX12_goesThrough_0 dbX12_goesThrough_0 59 110 rfl
theorem dX12_goesThrough_113 : decode cX12_goesThrough 113 = .ok (.iconst (-1), 1) := dgs daX12_goesThrough_0 dbX12_goesThrough_0 60 113 rfl
theorem dX12_goesThrough_114 : decode cX12_goesThrough 114 = .ok (.ireturn, 1) := dgs daX12_goesThrough_0 dbX12_goesThrough_0 61 114 rfl
theorem dX12_goesThrough_115 : decode cX12_goesThrough 115 = .ok (.aload_n 0, 1) := dgs daX12_goesThrough_0 dbX12_goesThrough_0 62 115 rfl
theorem dX12_goesThrough_116 : decode cX12_goesThrough 116 = .ok (.getfield 51, 3) := dgs daX12_goesThrough_0 dbX12_goesThrough_0 63 116 rfl
theorem dX12_goesThrough_119 : decode cX12_goesThrough 119 = .ok (.iload 4, 2) := dgs daX12_goesThrough_0 dbX12_goesThrough_0 64 119 rfl
def dsX12_goesThrough_121 : ByteArray := ⟨#[21, 5, 79, 21, 5, 61, 132, 3, 1, 167, 255, 130, 28, 172]⟩
theorem daX12_goesThrough_121 : agB cX12_goesThrough dsX12_goesThrough_121 121 := agB_of (n := 14) (by decide +kernel)
def dlX12_goesThrough_121 : List (Nat × Instr × Nat) := [(0, .iload 5, 2), (2, .iastore, 1), (3, .iload 5, 2), (5, .istore_n 2, 1), (6, .iinc 3 1, 3), (9, .goto (-126), 3), (12, .iload_n 2, 1), (13, .ireturn, 1)]
theorem dbX12_goesThrough_121 : ∀ z ∈ dlX12_goesThrough_121, decode dsX12_goesThrough_121 z.1 = Except.ok z.2 ∧ okop dsX12_goesThrough_121 z.1 = true := by decide +kernel
theorem dX12_goesThrough_121 : decode cX12_goesThrough 121 = .ok (.iload 5, 2) := dgs daX12_goesThrough_121 dbX12_goesThrough_121 0 0 rfl
theorem dX12_goesThrough_123 : decode cX12_goesThrough 123 = .ok (.iastore, 1) := dgs daX12_goesThrough_121 dbX12_goesThrough_121 1 2 rfl
theorem dX12_goesThrough_124 : decode cX12_goesThrough 124 = .ok (.iload 5, 2) := dgs daX12_goesThrough_121 dbX12_goesThrough_121 2 3 rfl
theorem dX12_goesThrough_126 : decode cX12_goesThrough 126 = .ok (.istore_n 2, 1) := dgs daX12_goesThrough_121 dbX12_goesThrough_121 3 5 rfl
theorem dX12_goesThrough_127 : decode cX12_goesThrough 127 = .ok (.iinc 3 1, 3) := dgs daX12_goesThrough_121 dbX12_goesThrough_121 4 6 rfl
theorem dX12_goesThrough_130 : decode cX12_goesThrough 130 = .ok (.goto (-126), 3) := dgs daX12_goesThrough_121 dbX12_goesThrough_121 5 9 rfl
theorem dX12_goesThrough_133 : decode cX12_goesThrough 133 = .ok (.iload_n 2, 1) := dgs daX12_goesThrough_121 dbX12_goesThrough_121 6 12 rfl
theorem dX12_goesThrough_134 : decode cX12_goesThrough 134 = .ok (.ireturn, 1) := dgs daX12_goesThrough_121 dbX12_goesThrough_121 7 13 rfl
set_option maxRecDepth 20000 in
theorem ggX12_doneAt_X12_isGear : GoodIn wsX12_doneAt wsX12_isGear := goodIn_q _ [7, 2, 8, 9, 10, 11, 12, 13, 14, 15, 6, 16, 60, 61, 62, 63, 64, 65, 66, 67, 68, 69, 70, 71, 72, 73, 74, 75, 76, 77, 78, 79, 80, 81, 82, 83, 84, 85, 86, 87, 88, 89, 90, 91, 92, 93, 94, 95, 96] rfl (by decide +kernel)
set_option maxRecDepth 20000 in
theorem gX12_doneAt_X12_isGear : GoodIn wsX12_doneAt (wsV RX12 121 RX12 yX12_isGear wsX12_isGear) := goodIn_app (goodIn_q _ [3, 4, 5, 6] rfl (by decide +kernel)) ggX12_doneAt_X12_isGear
set_option maxRecDepth 20000 in
theorem ggX12_doneAt_X12_fails : GoodIn wsX12_doneAt wsX12_fails := goodIn_q _ [20, 21, 60, 61, 62, 63, 64, 65, 66, 67, 68, 69, 70, 71, 72, 73, 74, 75, 76, 77, 78, 79, 80, 81, 82, 83, 84, 85, 86, 87, 88, 89, 90, 91, 92, 93] rfl (by decide +kernel)
set_option maxRecDepth 20000 in
theorem gX12_doneAt_X12_fails : GoodIn wsX12_doneAt (wsV RX12 143 RX12 yX12_fails wsX12_fails) := goodIn_app (goodIn_q _ [17, 18, 19, 6] rfl (by decide +kernel)) ggX12_doneAt_X12_fails
set_option maxRecDepth 20000 in
theorem ggX12_doneAt_Jx4a65c_size_8abf5 : GoodIn wsX12_doneAt wsJx4a65c_size_8abf5 := goodIn_q _ [12, 13, 94, 95, 96] rfl (by decide +kernel)
set_option maxRecDepth 20000 in
theorem gX12_doneAt_Jx4a65c_size_8abf5 : GoodIn wsX12_doneAt (wsV RX12 97 RJx4a65c yJx4a65c_size_8abf5 wsJx4a65c_size_8abf5) := goodIn_app (goodIn_q _ [8, 9, 10, 11] rfl (by decide +kernel)) ggX12_doneAt_Jx4a65c_size_8abf5
set_option maxRecDepth 20000 in
theorem ggX12_doneAt_X12_gearAt : GoodIn wsX12_doneAt wsX12_gearAt := goodIn_q _ [25, 2, 26, 27, 28, 29, 11, 30, 13, 31, 32, 33, 34, 35, 36, 37, 38, 39, 40, 41, 42, 43, 60, 61, 62, 63, 64, 65, 66, 67, 68, 69, 70, 71, 72, 73, 74, 75, 76, 77, 78, 79, 80, 81, 82, 83, 84, 85, 86, 87, 88, 89, 90, 91, 92, 93, 94, 95, 96] rfl (by decide +kernel)
set_option maxRecDepth 20000 in
theorem gX12_doneAt_X12_gearAt : GoodIn wsX12_doneAt (wsV RX12 111 RX12 yX12_gearAt wsX12_gearAt) := goodIn_app (goodIn_q _ [22, 23, 24, 6] rfl (by decide +kernel)) ggX12_doneAt_X12_gearAt
set_option maxRecDepth 20000 in
theorem ggX12_doneAt_X12_goesThrough : GoodIn wsX12_doneAt wsX12_goesThrough := goodIn_ca (goodIn_q _ [47, 48, 1, 49, 50, 51, 52, 53, 54, 55, 97, 98, 99, 100, 101, 102, 103, 104, 105, 106, 107, 108, 109, 110, 111, 112, 113, 114, 115, 116, 117, 118, 119, 60, 61, 62, 63, 64, 65, 66, 67, 68, 69, 70, 71, 72, 73, 74, 75, 76, 77, 78, 79, 80, 81, 82, 83, 84, 85, 86, 87, 88, 89, 90, 91, 92, 93] rfl (by decide +kernel)) (goodIn_sub (fun _ h => List.mem_cons_of_mem _ (List.mem_append_right _ h)) (by decide +kernel))
set_option maxRecDepth 20000 in
theorem gX12_doneAt_X12_goesThrough : GoodIn wsX12_doneAt (wsV RX12 493 RX12 yX12_goesThrough wsX12_goesThrough) := goodIn_app (goodIn_q _ [44, 45, 46, 6] rfl (by decide +kernel)) ggX12_doneAt_X12_goesThrough
set_option maxRecDepth 20000 in
theorem ggX12_doneAt_X12_answer : GoodIn wsX12_doneAt wsX12_answer := goodIn_q _ [59, 21, 60, 61, 62, 63, 64, 65, 66, 67, 68, 69, 70, 71, 72, 73, 74, 75, 76, 77, 78, 79, 80, 81, 82, 83, 84, 85, 86, 87, 88, 89, 90, 91, 92, 93] rfl (by decide +kernel)
set_option maxRecDepth 20000 in
theorem gX12_doneAt_X12_answer : GoodIn wsX12_doneAt (wsV RX12 153 RX12 yX12_answer wsX12_answer) := goodIn_app (goodIn_q _ [56, 57, 58, 6] rfl (by decide +kernel)) ggX12_doneAt_X12_answer
def dsX12_doneAt_0 : ByteArray := ⟨#[42, 27, 182, 0, 121, 154, 0, 9, 42, 4, 182, 0, 143, 172, 3, 61, 28, 16, 6, 162, 0, 16, 42, 180, 0, 51, 28, 3, 79, 132, 2, 1, 167, 255, 240, 3, 61, 3, 62, 3, 54, 4, 21, 4, 42, 180, 0, 24, 182, 0, 97, 162, 0, 50, 42, 42, 21, 4, 182, 0, 111, 182, 1, 237, 54, 5, 29, 154, 0, 9, 21, 5, 2, 160, 0, 7, 4, 167, 0, 4, 3, 62, 21, 4, 27, 160, 0, 8, 21, 5, 167, 0, 4, 28, 61, 132, 4, 1, 167, 255, 200, 29, 153, 0, 11, 42, 5, 182, 0, 143, 167, 0, 8, 42, 28, 182, 0, 153, 172]⟩
theorem daX12_doneAt_0 : agB cX12_doneAt dsX12_doneAt_0 0 := agB_of (n := 119) (by decide +kernel)
def dlX12_doneAt_0 : List (Nat × Instr × Nat) := [(0, .aload_n 0, 1), (1, .iload_n 1, 1), (2, .invokevirtual 121, 3), (5, .ifCond .ne 9, 3), (8, .aload_n 0, 1), (9, .iconst 1, 1), (10, .invokevirtual 143, 3), (13, .ireturn, 1), (14, .iconst 0, 1), (15, .istore_n 2, 1), (16, .iload_n 2, 1), (17, .bipush 6, 2), (19, .if_icmp .ge 16, 3), (22, .aload_n 0, 1), (23, .getfield 51, 3), (26, .iload_n 2, 1), (27, .iconst 0, 1), (28, .iastore, 1), (29, .iinc 2 1, 3), (32, .goto (-16), 3), (35, .iconst 0, 1), (36, .istore_n 2, 1), (37, .iconst 0, 1), (38, .istore_n 3, 1), (39, .iconst 0, 1), (40, .istore 4, 2), (42, .iload 4, 2), (44, .aload_n 0, 1), (45, .getfield 24, 3), (48, .invokevirtual 97, 3), (51, .if_icmp .ge 50, 3), (54, .aload_n 0, 1), (55, .aload_n 0, 1), (56, .iload 4, 2), (58, .invokevirtual 111, 3), (61, .invokevirtual 493, 3), (64, .istore 5, 2), (66, .iload_n 3, 1), (67, .ifCond .ne 9, 3), (70, .iload 5, 2), (72, .iconst (-1), 1), (73, .if_icmp .ne 7, 3), (76, .iconst 1, 1), (77, .goto 4, 3), (80, .iconst 0, 1), (81, .istore_n 3, 1), (82, .iload 4, 2), (84, .iload_n 1, 1), (85, .if_icmp .ne 8, 3), (88, .iload 5, 2), (90, .goto 4, 3), (93, .iload_n 2, 1), (94, .istore_n 2, 1), (95, .iinc 4 1, 3), (98, .goto (-56), 3), (101, .iload_n 3, 1), (102, .ifCond .eq 11, 3), (105, .aload_n 0, 1), (106, .iconst 2, 1), (107, .invokevirtual 143, 3), (110, .goto 8, 3), (113, .aload_n 0, 1), (114, .iload_n 2, 1), (115, .invokevirtual 153, 3), (118, .ireturn, 1)]
theorem dbX12_doneAt_0 : ∀ z ∈ dlX12_doneAt_0, decode dsX12_doneAt_0 z.1 = Except.ok z.2 ∧ okop dsX12_doneAt_0 z.1 = true := by decide +kernel
theorem dX12_doneAt_0 : decode cX12_doneAt 0 = .ok (.aload_n 0, 1) := dgs daX12_doneAt_0 dbX12_doneAt_0 0 0 rfl
theorem dX12_doneAt_1 : decode cX12_doneAt 1 = .ok (.iload_n 1, 1) := dgs daX12_doneAt_0 dbX12_doneAt_0 1 1 rfl
theorem dX12_doneAt_2 : decode cX12_doneAt 2 = .ok (.invokevirtual 121, 3) := dgs daX12_doneAt_0 dbX12_doneAt_0 2 2 rfl
theorem dX12_doneAt_5 : decode cX12_doneAt 5 = .ok (.ifCond .ne 9, 3) := dgs daX12_doneAt_0 dbX12_doneAt_0 3 5 rfl
theorem dX12_doneAt_8 : decode cX12_doneAt 8 = .ok (.aload_n 0, 1) := dgs daX12_doneAt_0 dbX12_doneAt_0 4 8 rfl
theorem dX12_doneAt_9 : decode cX12_doneAt 9 = .ok (.iconst 1, 1) := dgs daX12_doneAt_0 dbX12_doneAt_0 5 9 rfl
theorem dX12_doneAt_10 : decode cX12_doneAt 10 = .ok (.invokevirtual 143, 3) := dgs daX12_doneAt_0 dbX12_doneAt_0 6 10 rfl
theorem dX12_doneAt_13 : decode cX12_doneAt 13 = .ok (.ireturn, 1) := dgs daX12_doneAt_0 dbX12_doneAt_0 7 13 rfl
theorem dX12_doneAt_14 : decode cX12_doneAt 14 = .ok (.iconst 0, 1) := dgs daX12_doneAt_0 dbX12_doneAt_0 8 14 rfl
theorem dX12_doneAt_15 : decode cX12_doneAt 15 = .ok (.istore_n 2, 1) := dgs daX12_doneAt_0 dbX12_doneAt_0 9 15 rfl
theorem dX12_doneAt_16 : decode cX12_doneAt 16 = .ok (.iload_n 2, 1) := dgs daX12_doneAt_0 dbX12_doneAt_0 10 16 rfl
theorem dX12_doneAt_17 : decode cX12_doneAt 17 = .ok (.bipush 6, 2) := dgs daX12_doneAt_0 dbX12_doneAt_0 11 17 rfl
theorem dX12_doneAt_19 : decode cX12_doneAt 19 = .ok (.if_icmp .ge 16, 3) := dgs daX12_doneAt_0 dbX12_doneAt_0 12 19 rfl
theorem dX12_doneAt_22 : decode cX12_doneAt 22 = .ok (.aload_n 0, 1) := dgs daX12_doneAt_0 dbX12_doneAt_0 13 22 rfl
theorem dX12_doneAt_23 : decode cX12_doneAt 23 = .ok (.getfield 51, 3) := dgs daX12_doneAt_0 dbX12_doneAt_0 14 23 rfl
theorem dX12_doneAt_26 : decode cX12_doneAt 26 = .ok (.iload_n 2, 1) := dgs daX12_doneAt_0 dbX12_doneAt_0 15 26 rfl
theorem dX12_doneAt_27 : decode cX12_doneAt 27 = .ok (.iconst 0, 1) := dgs daX12_doneAt_0 dbX12_doneAt_0 16 27 rfl
theorem dX12_doneAt_28 : decode cX12_doneAt 28 = .ok (.iastore, 1) := dgs daX12_doneAt_0 dbX12_doneAt_0 17 28 rfl
theorem dX12_doneAt_29 : decode cX12_doneAt 29 = .ok (.iinc 2 1, 3) := dgs daX12_doneAt_0 dbX12_doneAt_0 18 29 rfl
theorem dX12_doneAt_32 : decode cX12_doneAt 32 = .ok (.goto (-16), 3) := dgs daX12_doneAt_0 dbX12_doneAt_0 19 32 rfl
theorem dX12_doneAt_35 : decode cX12_doneAt 35 = .ok (.iconst 0, 1) := dgs daX12_doneAt_0 dbX12_doneAt_0 20 35 rfl
theorem dX12_doneAt_36 : decode cX12_doneAt 36 = .ok (.istore_n 2, 1) := dgs daX12_doneAt_0 dbX12_doneAt_0 21 36 rfl
theorem dX12_doneAt_37 : decode cX12_doneAt 37 = .ok (.iconst 0, 1) := dgs daX12_doneAt_0 dbX12_doneAt_0 22 37 rfl
theorem dX12_doneAt_38 : decode cX12_doneAt 38 = .ok (.istore_n 3, 1) := dgs daX12_doneAt_0 dbX12_doneAt_0 23 38 rfl
theorem dX12_doneAt_39 : decode cX12_doneAt 39 = .ok (.iconst 0, 1) := dgs daX12_doneAt_0 dbX12_doneAt_0 24 39 rfl
theorem dX12_doneAt_40 : decode cX12_doneAt 40 = .ok (.istore 4, 2) := dgs daX12_doneAt_0 dbX12_doneAt_0 25 40 rfl
theorem dX12_doneAt_42 : decode cX12_doneAt 42 = .ok (.iload 4, 2) := dgs daX12_doneAt_0 dbX12_doneAt_0 26 42 rfl
theorem dX12_doneAt_44 : decode cX12_doneAt 44 = .ok (.aload_n 0, 1) := dgs daX12_doneAt_0 dbX12_doneAt_0 27 44 rfl
theorem dX12_doneAt_45 : decode cX12_doneAt 45 = .ok (.getfield 24, 3) := dgs daX12_doneAt_0 dbX12_doneAt_0 28 45 rfl
theorem dX12_doneAt_48 : decode cX12_doneAt 48 = .ok (.invokevirtual 97, 3) := dgs daX12_doneAt_0 dbX12_doneAt_0 29 48 rfl
theorem dX12_doneAt_51 : decode cX12_doneAt 51 = .ok (.if_icmp .ge 50, 3) := dgs daX12_doneAt_0 dbX12_doneAt_0 30 51 rfl
theorem dX12_doneAt_54 : decode cX12_doneAt 54 = .ok (.aload_n 0, 1) := dgs daX12_doneAt_0 dbX12_doneAt_0 31 54 rfl
theorem dX12_doneAt_55 : decode cX12_doneAt 55 = .ok (.aload_n 0, 1) := dgs daX12_doneAt_0 dbX12_doneAt_0 32 55 rfl
theorem dX12_doneAt_56 : decode cX12_doneAt 56 = .ok (.iload 4, 2) := dgs daX12_doneAt_0 dbX12_doneAt_0 33 56 rfl
theorem dX12_doneAt_58 : decode cX12_doneAt 58 = .ok (.invokevirtual 111, 3) := dgs daX12_doneAt_0 dbX12_doneAt_0 34 58 rfl
theorem dX12_doneAt_61 : decode cX12_doneAt 61 = .ok (.invokevirtual 493, 3) := dgs daX12_doneAt_0 dbX12_doneAt_0 35 61 rfl
theorem dX12_doneAt_64 : decode cX12_doneAt 64 = .ok (.istore 5, 2) := dgs daX12_doneAt_0 dbX12_doneAt_0 36 64 rfl
theorem dX12_doneAt_66 : decode cX12_doneAt 66 = .ok (.iload_n 3, 1) := dgs daX12_doneAt_0 dbX12_doneAt_0 37 66 rfl
theorem dX12_doneAt_67 : decode cX12_doneAt 67 = .ok (.ifCond .ne 9, 3) := dgs daX12_doneAt_0 dbX12_doneAt_0 38 67 rfl
theorem dX12_doneAt_70 : decode cX12_doneAt 70 = .ok (.iload 5, 2) := dgs daX12_doneAt_0 dbX12_doneAt_0 39 70 rfl
theorem dX12_doneAt_72 : decode cX12_doneAt 72 = .ok (.iconst (-1), 1) := dgs daX12_doneAt_0 dbX12_doneAt_0 40 72 rfl
theorem dX12_doneAt_73 : decode cX12_doneAt 73 = .ok (.if_icmp .ne 7, 3) := dgs daX12_doneAt_0 dbX12_doneAt_0 41 73 rfl
theorem dX12_doneAt_76 : decode cX12_doneAt 76 = .ok (.iconst 1, 1) := dgs daX12_doneAt_0 dbX12_doneAt_0 42 76 rfl
theorem dX12_doneAt_77 : decode cX12_doneAt 77 = .ok (.goto 4, 3) := dgs daX12_doneAt_0 dbX12_doneAt_0 43 77 rfl
theorem dX12_doneAt_80 : decode cX12_doneAt 80 = .ok (.iconst 0, 1) := dgs daX12_doneAt_0 dbX12_doneAt_0 44 80 rfl
theorem dX12_doneAt_81 : decode cX12_doneAt 81 = .ok (.istore_n 3, 1) := dgs daX12_doneAt_0 dbX12_doneAt_0 45 81 rfl
theorem dX12_doneAt_82 : decode cX12_doneAt 82 = .ok (.iload 4, 2) := dgs daX12_doneAt_0 dbX12_doneAt_0 46 82 rfl
theorem dX12_doneAt_84 : decode cX12_doneAt 84 = .ok (.iload_n 1, 1) := dgs daX12_doneAt_0 dbX12_doneAt_0 47 84 rfl
theorem dX12_doneAt_85 : decode cX12_doneAt 85 = .ok (.if_icmp .ne 8, 3) := dgs daX12_doneAt_0 dbX12_doneAt_0 48 85 rfl
theorem dX12_doneAt_88 : decode cX12_doneAt 88 = .ok (.iload 5, 2) := dgs daX12_doneAt_0 dbX12_doneAt_0 49 88 rfl
theorem dX12_doneAt_90 : decode cX12_doneAt 90 = .ok (.goto 4, 3) := dgs daX12_doneAt_0 dbX12_doneAt_0 50 90 rfl
theorem dX12_doneAt_93 : decode cX12_doneAt 93 = .ok (.iload_n 2, 1) := dgs daX12_doneAt_0 dbX12_doneAt_0 51 93 rfl
theorem dX12_doneAt_94 : decode cX12_doneAt 94 = .ok (.istore_n 2, 1) := dgs daX12_doneAt_0 dbX12_doneAt_0 52 94 rfl
theorem dX12_doneAt_95 : decode cX12_doneAt 95 = .ok (.iinc 4 1, 3) := dgs daX12_doneAt_0 dbX12_doneAt_0 53 95 rfl
theorem dX12_doneAt_98 : decode cX12_doneAt 98 = .ok (.goto (-56), 3) := dgs daX12_doneAt_0 dbX12_doneAt_0 54 98 rfl
theorem dX12_doneAt_101 : decode cX12_doneAt 101 = .ok (.iload_n 3, 1) := dgs daX12_doneAt_0 dbX12_doneAt_0 55 101 rfl
theorem dX12_doneAt_102 : decode cX12_doneAt 102 = .ok (.ifCond .eq 11, 3) := dgs daX12_doneAt_0 dbX12_doneAt_0 56 102 rfl
theorem dX12_doneAt_105 : decode cX12_doneAt 105 = .ok (.aload_n 0, 1) := dgs daX12_doneAt_0 dbX12_doneAt_0 57 105 rfl
theorem dX12_doneAt_106 : decode cX12_doneAt 106 = .ok (.iconst 2, 1) := dgs daX12_doneAt_0 dbX12_doneAt_0 58 106 rfl
theorem dX12_doneAt_107 : decode cX12_doneAt 107 = .ok (.invokevirtual 143, 3) := dgs daX12_doneAt_0 dbX12_doneAt_0 59 107 rfl
theorem dX12_doneAt_110 : decode cX12_doneAt 110 = .ok (.goto 8, 3) := dgs daX12_doneAt_0 dbX12_doneAt_0 60 110 rfl
theorem dX12_doneAt_113 : decode cX12_doneAt 113 = .ok (.aload_n 0, 1) := dgs daX12_doneAt_0 dbX12_doneAt_0 61 113 rfl
theorem dX12_doneAt_114 : decode cX12_doneAt 114 = .ok (.iload_n 2, 1) := dgs daX12_doneAt_0 dbX12_doneAt_0 62 114 rfl
theorem dX12_doneAt_115 : decode cX12_doneAt 115 = .ok (.invokevirtual 153, 3) := dgs daX12_doneAt_0 dbX12_doneAt_0 63 115 rfl
theorem dX12_doneAt_118 : decode cX12_doneAt 118 = .ok (.ireturn, 1) := dgs daX12_doneAt_0 dbX12_doneAt_0 64 118 rfl
def dsX12_isOldBetter_0 : ByteArray := ⟨#[28, 184, 0, 215, 42, 180, 1, 241, 184, 0, 215, 159, 0, 23, 28, 184, 0, 215, 42, 180, 1, 241, 184, 0, 215, 162, 0, 7, 4, 167, 0, 4, 3, 172, 33, 22, 5, 148, 153, 0, 16, 33, 22, 5, 148, 156, 0, 7, 4, 167, 0, 4, 3, 172, 27, 42, 180, 1, 244, 159, 0, 19, 27, 42, 180, 1, 244, 162, 0, 7, 4, 167, 0, 20, 3, 167, 0, 16, 28, 42, 180, 1, 241, 164, 0, 7, 4, 167, 0, 4, 3, 172]⟩
theorem daX12_isOldBetter_0 : agB cX12_isOldBetter dsX12_isOldBetter_0 0 := agB_of (n := 92) (by decide +kernel)
def dlX12_isOldBetter_0 : List (Nat × Instr × Nat) := [(0, .iload_n 2, 1), (1, .invokestatic 215, 3), (4, .aload_n 0, 1), (5, .getfield 497, 3), (8, .invokestatic 215, 3), (11, .if_icmp .eq 23, 3), (14, .iload_n 2, 1), (15, .invokestatic 215, 3), (18, .aload_n 0, 1), (19, .getfield 497, 3), (22, .invokestatic 215, 3), (25, .if_icmp .ge 7, 3), (28, .iconst 1, 1), (29, .goto 4, 3), (32, .iconst 0, 1), (33, .ireturn, 1), (34, .lload_n 3, 1), (35, .lload 5, 2), (37, .lcmp, 1), (38, .ifCond .eq 16, 3), (41, .lload_n 3, 1), (42, .lload 5, 2), (44, .lcmp, 1), (45, .ifCond .ge 7, 3), (48, .iconst 1, 1), (49, .goto 4, 3), (52, .iconst 0, 1), (53, .ireturn, 1), (54, .iload_n 1, 1), (55, .aload_n 0, 1), (56, .getfield 500, 3), (59, .if_icmp .eq 19, 3), (62, .iload_n 1, 1), (63, .aload_n 0, 1), (64, .getfield 500, 3), (67, .if_icmp .ge 7, 3), (70, .iconst 1, 1), (71, .goto 20, 3), (74, .iconst 0, 1), (75, .goto 16, 3), (78, .iload_n 2, 1), (79, .aload_n 0, 1), (80, .getfield 497, 3), (83, .if_icmp .le 7, 3), (86, .iconst 1, 1), (87, .goto 4, 3), (90, .iconst 0, 1), (91, .ireturn, 1)]
theorem dbX12_isOldBetter_0 : ∀ z ∈ dlX12_isOldBetter_0, decode dsX12_isOldBetter_0 z.1 = Except.ok z.2 ∧ okop dsX12_isOldBetter_0 z.1 = true := by decide +kernel
theorem dX12_isOldBetter_0 : decode cX12_isOldBetter 0 = .ok (.iload_n 2, 1) := dgs daX12_isOldBetter_0 dbX12_isOldBetter_0 0 0 rfl
theorem dX12_isOldBetter_1 : decode cX12_isOldBetter 1 = .ok (.invokestatic 215, 3) := dgs daX12_isOldBetter_0 dbX12_isOldBetter_0 1 1 rfl
theorem dX12_isOldBetter_4 : decode cX12_isOldBetter 4 = .ok (.aload_n 0, 1) := dgs daX12_isOldBetter_0 dbX12_isOldBetter_0 2 4 rfl
theorem dX12_isOldBetter_5 : decode cX12_isOldBetter 5 = .ok (.getfield 497, 3) := dgs daX12_isOldBetter_0 dbX12_isOldBetter_0 3 5 rfl
theorem dX12_isOldBetter_8 : decode cX12_isOldBetter 8 = .ok (.invokestatic 215, 3) := dgs daX12_isOldBetter_0 dbX12_isOldBetter_0 4 8 rfl
theorem dX12_isOldBetter_11 : decode cX12_isOldBetter 11 = .ok (.if_icmp .eq 23, 3) := dgs daX12_isOldBetter_0 dbX12_isOldBetter_0 5 11 rfl
theorem dX12_isOldBetter_14 : decode cX12_isOldBetter 14 = .ok (.iload_n 2, 1) := dgs daX12_isOldBetter_0 dbX12_isOldBetter_0 6 14 rfl
theorem dX12_isOldBetter_15 : decode cX12_isOldBetter 15 = .ok (.invokestatic 215, 3) := dgs daX12_isOldBetter_0 dbX12_isOldBetter_0 7 15 rfl
theorem dX12_isOldBetter_18 : decode cX12_isOldBetter 18 = .ok (.aload_n 0, 1) := dgs daX12_isOldBetter_0 dbX12_isOldBetter_0 8 18 rfl
theorem dX12_isOldBetter_19 : decode cX12_isOldBetter 19 = .ok (.getfield 497, 3) := dgs daX12_isOldBetter_0 dbX12_isOldBetter_0 9 19 rfl
theorem dX12_isOldBetter_22 : decode cX12_isOldBetter 22 = .ok (.invokestatic 215, 3) := dgs daX12_isOldBetter_0 dbX12_isOldBetter_0 10 22 rfl
theorem dX12_isOldBetter_25 : decode cX12_isOldBetter 25 = .ok (.if_icmp .ge 7, 3) := dgs daX12_isOldBetter_0 dbX12_isOldBetter_0 11 25 rfl
theorem dX12_isOldBetter_28 : decode cX12_isOldBetter 28 = .ok (.iconst 1, 1) := dgs daX12_isOldBetter_0 dbX12_isOldBetter_0 12 28 rfl
theorem dX12_isOldBetter_29 : decode cX12_isOldBetter 29 = .ok (.goto 4, 3) := dgs daX12_isOldBetter_0 dbX12_isOldBetter_0 13 29 rfl
theorem dX12_isOldBetter_32 : decode cX12_isOldBetter 32 = .ok (.iconst 0, 1) := dgs daX12_isOldBetter_0 dbX12_isOldBetter_0 14 32 rfl
theorem dX12_isOldBetter_33 : decode cX12_isOldBetter 33 = .ok (.ireturn, 1) := dgs daX12_isOldBetter_0 dbX12_isOldBetter_0 15 33 rfl
theorem dX12_isOldBetter_34 : decode cX12_isOldBetter 34 = .ok (.lload_n 3, 1) := dgs daX12_isOldBetter_0 dbX12_isOldBetter_0 16 34 rfl
theorem dX12_isOldBetter_35 : decode cX12_isOldBetter 35 = .ok (.lload 5, 2) := dgs daX12_isOldBetter_0 dbX12_isOldBetter_0 17 35 rfl
theorem dX12_isOldBetter_37 : decode cX12_isOldBetter 37 = .ok (.lcmp, 1) := dgs daX12_isOldBetter_0 dbX12_isOldBetter_0 18 37 rfl
theorem dX12_isOldBetter_38 : decode cX12_isOldBetter 38 = .ok (.ifCond .eq 16, 3) := dgs daX12_isOldBetter_0 dbX12_isOldBetter_0 19 38 rfl
theorem dX12_isOldBetter_41 : decode cX12_isOldBetter 41 = .ok (.lload_n 3, 1) := dgs daX12_isOldBetter_0 dbX12_isOldBetter_0 20 41 rfl
theorem dX12_isOldBetter_42 : decode cX12_isOldBetter 42 = .ok (.lload 5, 2) := dgs daX12_isOldBetter_0 dbX12_isOldBetter_0 21 42 rfl
theorem dX12_isOldBetter_44 : decode cX12_isOldBetter 44 = .ok (.lcmp, 1) := dgs daX12_isOldBetter_0 dbX12_isOldBetter_0 22 44 rfl
theorem dX12_isOldBetter_45 : decode cX12_isOldBetter 45 = .ok (.ifCond .ge 7, 3) := dgs daX12_isOldBetter_0 dbX12_isOldBetter_0 23 45 rfl
theorem dX12_isOldBetter_48 : decode cX12_isOldBetter 48 = .ok (.iconst 1, 1) := dgs daX12_isOldBetter_0 dbX12_isOldBetter_0 24 48 rfl
theorem dX12_isOldBetter_49 : decode cX12_isOldBetter 49 = .ok (.goto 4, 3) := dgs daX12_isOldBetter_0 dbX12_isOldBetter_0 25 49 rfl
theorem dX12_isOldBetter_52 : decode cX12_isOldBetter 52 = .ok (.iconst 0, 1) := dgs daX12_isOldBetter_0 dbX12_isOldBetter_0 26 52 rfl
theorem dX12_isOldBetter_53 : decode cX12_isOldBetter 53 = .ok (.ireturn, 1) := dgs daX12_isOldBetter_0 dbX12_isOldBetter_0 27 53 rfl
theorem dX12_isOldBetter_54 : decode cX12_isOldBetter 54 = .ok (.iload_n 1, 1) := dgs daX12_isOldBetter_0 dbX12_isOldBetter_0 28 54 rfl
theorem dX12_isOldBetter_55 : decode cX12_isOldBetter 55 = .ok (.aload_n 0, 1) := dgs daX12_isOldBetter_0 dbX12_isOldBetter_0 29 55 rfl
theorem dX12_isOldBetter_56 : decode cX12_isOldBetter 56 = .ok (.getfield 500, 3) := dgs daX12_isOldBetter_0 dbX12_isOldBetter_0 30 56 rfl
theorem dX12_isOldBetter_59 : decode cX12_isOldBetter 59 = .ok (.if_icmp .eq 19, 3) := dgs daX12_isOldBetter_0 dbX12_isOldBetter_0 31 59 rfl
theorem dX12_isOldBetter_62 : decode cX12_isOldBetter 62 = .ok (.iload_n 1, 1) := dgs daX12_isOldBetter_0 dbX12_isOldBetter_0 32 62 rfl
theorem dX12_isOldBetter_63 : decode cX12_isOldBetter 63 = .ok (.aload_n 0, 1) := dgs daX12_isOldBetter_0 dbX12_isOldBetter_0 33 63 rfl
theorem dX12_isOldBetter_64 : decode cX12_isOldBetter 64 = .ok (.getfield 500, 3) := dgs daX12_isOldBetter_0 dbX12_isOldBetter_0 34 64 rfl
theorem dX12_isOldBetter_67 : decode cX12_isOldBetter 67 = .ok (.if_icmp .ge 7, 3) := dgs daX12_isOldBetter_0 dbX12_isOldBetter_0 35 67 rfl
theorem dX12_isOldBetter_70 : decode cX12_isOldBetter 70 = .ok (.iconst 1, 1) := dgs daX12_isOldBetter_0 dbX12_isOldBetter_0 36 70 rfl
theorem dX12_isOldBetter_71 : decode cX12_isOldBetter 71 = .ok (.goto 20, 3) := dgs daX12_isOldBetter_0 dbX12_isOldBetter_0 37 71 rfl
theorem dX12_isOldBetter_74 : decode cX12_isOldBetter 74 = .ok (.iconst 0, 1) := dgs daX12_isOldBetter_0 dbX12_isOldBetter_0 38 74 rfl
theorem dX12_isOldBetter_75 : decode cX12_isOldBetter 75 = .ok (.goto 16, 3) := dgs daX12_isOldBetter_0 dbX12_isOldBetter_0 39 75 rfl
theorem dX12_isOldBetter_78 : decode cX12_isOldBetter 78 = .ok (.iload_n 2, 1) := dgs daX12_isOldBetter_0 dbX12_isOldBetter_0 40 78 rfl
theorem dX12_isOldBetter_79 : decode cX12_isOldBetter 79 = .ok (.aload_n 0, 1) := dgs daX12_isOldBetter_0 dbX12_isOldBetter_0 41 79 rfl
theorem dX12_isOldBetter_80 : decode cX12_isOldBetter 80 = .ok (.getfield 497, 3) := dgs daX12_isOldBetter_0 dbX12_isOldBetter_0 42 80 rfl
theorem dX12_isOldBetter_83 : decode cX12_isOldBetter 83 = .ok (.if_icmp .le 7, 3) := dgs daX12_isOldBetter_0 dbX12_isOldBetter_0 43 83 rfl
theorem dX12_isOldBetter_86 : decode cX12_isOldBetter 86 = .ok (.iconst 1, 1) := dgs daX12_isOldBetter_0 dbX12_isOldBetter_0 44 86 rfl
theorem dX12_isOldBetter_87 : decode cX12_isOldBetter 87 = .ok (.goto 4, 3) := dgs daX12_isOldBetter_0 dbX12_isOldBetter_0 45 87 rfl
theorem dX12_isOldBetter_90 : decode cX12_isOldBetter 90 = .ok (.iconst 0, 1) := dgs daX12_isOldBetter_0 dbX12_isOldBetter_0 46 90 rfl
theorem dX12_isOldBetter_91 : decode cX12_isOldBetter 91 = .ok (.ireturn, 1) := dgs daX12_isOldBetter_0 dbX12_isOldBetter_0 47 91 rfl
set_option maxRecDepth 20000 in
theorem ggX12_isMeant_X12_isOldBetter : GoodIn wsX12_isMeant wsX12_isOldBetter := goodIn_q _ [10, 11, 12, 13, 14, 5, 4, 15, 16, 17, 18, 19, 20, 21, 22, 23, 24, 25, 26, 27, 28, 29, 30, 31, 32, 33, 34, 35, 36, 37, 38, 39, 40, 41, 42, 43, 44, 45, 46, 47, 48] rfl (by decide +kernel)
set_option maxRecDepth 20000 in
theorem gX12_isMeant_X12_isOldBetter : GoodIn wsX12_isMeant (wsV RX12 503 RX12 yX12_isOldBetter wsX12_isOldBetter) := goodIn_app (goodIn_q _ [6, 7, 8, 9] rfl (by decide +kernel)) ggX12_isMeant_X12_isOldBetter
def dsX12_isMeant_0 : ByteArray := ⟨#[20, 1, 79, 55, 4, 17, 1, 244, 54, 6, 21, 6, 17, 39, 16, 163, 0, 121, 16, 206, 54, 7, 21, 7, 16, 50, 163, 0, 101, 27, 133, 21, 6, 133, 105, 20, 0, 3, 21, 6, 133, 105, 97, 20, 0, 3, 21, 7, 133, 105, 21, 6, 133, 105, 20, 0, 158, 109, 97, 55, 8, 22, 8, 28, 133, 148, 155, 0, 55, 22, 8, 28, 133, 29, 133, 97, 148, 157, 0, 44, 22, 4, 9, 148, 155, 0, 21, 42, 21, 6, 21, 7, 22, 8, 22, 4, 182, 1, 247, 154, 0, 6, 167, 0, 19, 22, 8, 55, 4, 42, 21, 6, 181, 1, 244, 42, 21, 7, 181, 1, 241]⟩
theorem daX12_isMeant_0 : agB cX12_isMeant dsX12_isMeant_0 0 := agB_of (n := 121) (by decide +kernel)
def dlX12_isMeant_0 : List (Nat × Instr × Nat) := [(0, .ldc2_w 335, 3), (3, .lstore 4, 2), (5, .sipush 500, 3), (8, .istore 6, 2), (10, .iload 6, 2), (12, .sipush 10000, 3), (15, .if_icmp .gt 121, 3), (18, .bipush (-50), 2), (20, .istore 7, 2), (22, .iload 7, 2), (24, .bipush 50, 2), (26, .if_icmp .gt 101, 3), (29, .iload_n 1, 1), (30, .i2l, 1), (31, .iload 6, 2), (33, .i2l, 1), (34, .lmul, 1), (35, .ldc2_w 3, 3), (38, .iload 6, 2), (40, .i2l, 1), (41, .lmul, 1), (42, .ladd, 1), (43, .ldc2_w 3, 3), (46, .iload 7, 2), (48, .i2l, 1), (49, .lmul, 1), (50, .iload 6, 2), (52, .i2l, 1), (53, .lmul, 1), (54, .ldc2_w 158, 3), (57, .ldiv, 1), (58, .ladd, 1), (59, .lstore 8, 2), (61, .lload 8, 2), (63, .iload_n 2, 1), (64, .i2l, 1), (65, .lcmp, 1), (66, .ifCond .lt 55, 3), (69, .lload 8, 2), (71, .iload_n 2, 1), (72, .i2l, 1), (73, .iload_n 3, 1), (74, .i2l, 1), (75, .ladd, 1), (76, .lcmp, 1), (77, .ifCond .gt 44, 3), (80, .lload 4, 2), (82, .lconst 0, 1), (83, .lcmp, 1), (84, .ifCond .lt 21, 3), (87, .aload_n 0, 1), (88, .iload 6, 2), (90, .iload 7, 2), (92, .lload 8, 2), (94, .lload 4, 2), (96, .invokevirtual 503, 3), (99, .ifCond .ne 6, 3), (102, .goto 19, 3), (105, .lload 8, 2), (107, .lstore 4, 2), (109, .aload_n 0, 1), (110, .iload 6, 2), (112, .putfield 500, 3), (115, .aload_n 0, 1), (116, .iload 7, 2), (118, .putfield 497, 3)]
theorem dbX12_isMeant_0 : ∀ z ∈ dlX12_isMeant_0, decode dsX12_isMeant_0 z.1 = Except.ok z.2 ∧ okop dsX12_isMeant_0 z.1 = true := by decide +kernel
theorem dX12_isMeant_0 : decode cX12_isMeant 0 = .ok (.ldc2_w 335, 3) := dgs daX12_isMeant_0 dbX12_isMeant_0 0 0 rfl
theorem dX12_isMeant_3 : decode cX12_isMeant 3 = .ok (.lstore 4, 2) := dgs daX12_isMeant_0 dbX12_isMeant_0 1 3 rfl
theorem dX12_isMeant_5 : decode cX12_isMeant 5 = .ok (.sipush 500, 3) := dgs daX12_isMeant_0 dbX12_isMeant_0 2 5 rfl
theorem dX12_isMeant_8 : decode cX12_isMeant 8 = .ok (.istore 6, 2) := dgs daX12_isMeant_0 dbX12_isMeant_0 3 8 rfl
theorem dX12_isMeant_10 : decode cX12_isMeant 10 = .ok (.iload 6, 2) := dgs daX12_isMeant_0 dbX12_isMeant_0 4 10 rfl
theorem dX12_isMeant_12 : decode cX12_isMeant 12 = .ok (.sipush 10000, 3) := dgs daX12_isMeant_0 dbX12_isMeant_0 5 12 rfl
theorem dX12_isMeant_15 : decode cX12_isMeant 15 = .ok (.if_icmp .gt 121, 3) := dgs daX12_isMeant_0 dbX12_isMeant_0 6 15 rfl
theorem dX12_isMeant_18 : decode cX12_isMeant 18 = .ok (.bipush (-50), 2) := dgs daX12_isMeant_0 dbX12_isMeant_0 7 18 rfl
theorem dX12_isMeant_20 : decode cX12_isMeant 20 = .ok (.istore 7, 2) := dgs daX12_isMeant_0 dbX12_isMeant_0 8 20 rfl
theorem dX12_isMeant_22 : decode cX12_isMeant 22 = .ok (.iload 7, 2) := dgs daX12_isMeant_0 dbX12_isMeant_0 9 22 rfl
theorem dX12_isMeant_24 : decode cX12_isMeant 24 = .ok (.bipush 50, 2) := dgs daX12_isMeant_0 dbX12_isMeant_0 10 24 rfl
theorem dX12_isMeant_26 : decode cX12_isMeant 26 = .ok (.if_icmp .gt 101, 3) := dgs daX12_isMeant_0 dbX12_isMeant_0 11 26 rfl
theorem dX12_isMeant_29 : decode cX12_isMeant 29 = .ok (.iload_n 1, 1) := dgs daX12_isMeant_0 dbX12_isMeant_0 12 29 rfl
theorem dX12_isMeant_30 : decode cX12_isMeant 30 = .ok (.i2l, 1) := dgs daX12_isMeant_0 dbX12_isMeant_0 13 30 rfl
theorem dX12_isMeant_31 : decode cX12_isMeant 31 = .ok (.iload 6, 2) := dgs daX12_isMeant_0 dbX12_isMeant_0 14 31 rfl
theorem dX12_isMeant_33 : decode cX12_isMeant 33 = .ok (.i2l, 1) := dgs daX12_isMeant_0 dbX12_isMeant_0 15 33 rfl
theorem dX12_isMeant_34 : decode cX12_isMeant 34 = .ok (.lmul, 1) := dgs daX12_isMeant_0 dbX12_isMeant_0 16 34 rfl
theorem dX12_isMeant_35 : decode cX12_isMeant 35 = .ok (.ldc2_w 3, 3) := dgs daX12_isMeant_0 dbX12_isMeant_0 17 35 rfl
theorem dX12_isMeant_38 : decode cX12_isMeant 38 = .ok (.iload 6, 2) := dgs daX12_isMeant_0 dbX12_isMeant_0 18 38 rfl
theorem dX12_isMeant_40 : decode cX12_isMeant 40 = .ok (.i2l, 1) := dgs daX12_isMeant_0 dbX12_isMeant_0 19 40 rfl
theorem dX12_isMeant_41 : decode cX12_isMeant 41 = .ok (.lmul, 1) := dgs daX12_isMeant_0 dbX12_isMeant_0 20 41 rfl
theorem dX12_isMeant_42 : decode cX12_isMeant 42 = .ok (.ladd, 1) := dgs daX12_isMeant_0 dbX12_isMeant_0 21 42 rfl
theorem dX12_isMeant_43 : decode cX12_isMeant 43 = .ok (.ldc2_w 3, 3) := dgs daX12_isMeant_0 dbX12_isMeant_0 22 43 rfl
theorem dX12_isMeant_46 : decode cX12_isMeant 46 = .ok (.iload 7, 2) := dgs daX12_isMeant_0 dbX12_isMeant_0 23 46 rfl
theorem dX12_isMeant_48 : decode cX12_isMeant 48 = .ok (.i2l, 1) := dgs daX12_isMeant_0 dbX12_isMeant_0 24 48 rfl
theorem dX12_isMeant_49 : decode cX12_isMeant 49 = .ok (.lmul, 1) := dgs daX12_isMeant_0 dbX12_isMeant_0 25 49 rfl
theorem dX12_isMeant_50 : decode cX12_isMeant 50 = .ok (.iload 6, 2) := dgs daX12_isMeant_0 dbX12_isMeant_0 26 50 rfl
theorem dX12_isMeant_52 : decode cX12_isMeant 52 = .ok (.i2l, 1) := dgs daX12_isMeant_0 dbX12_isMeant_0 27 52 rfl
theorem dX12_isMeant_53 : decode cX12_isMeant 53 = .ok (.lmul, 1) := dgs daX12_isMeant_0 dbX12_isMeant_0 28 53 rfl
theorem dX12_isMeant_54 : decode cX12_isMeant 54 = .ok (.ldc2_w 158, 3) := dgs daX12_isMeant_0 dbX12_isMeant_0 29 54 rfl
theorem dX12_isMeant_57 : decode cX12_isMeant 57 = .ok (.ldiv, 1) := dgs daX12_isMeant_0 dbX12_isMeant_0 30 57 rfl
theorem dX12_isMeant_58 : decode cX12_isMeant 58 = .ok (.ladd, 1) := dgs daX12_isMeant_0 dbX12_isMeant_0 31 58 rfl
theorem dX12_isMeant_59 : decode cX12_isMeant 59 = .ok (.lstore 8, 2) := dgs daX12_isMeant_0 dbX12_isMeant_0 32 59 rfl
theorem dX12_isMeant_61 : decode cX12_isMeant 61 = .ok (.lload 8, 2) := dgs daX12_isMeant_0 dbX12_isMeant_0 33 61 rfl
theorem dX12_isMeant_63 : decode cX12_isMeant 63 = .ok (.iload_n 2, 1) := dgs daX12_isMeant_0 dbX12_isMeant_0 34 63 rfl
theorem dX12_isMeant_64 : decode cX12_isMeant 64 = .ok (.i2l, 1) := dgs daX12_isMeant_0 dbX12_isMeant_0 35 64 rfl
theorem dX12_isMeant_65 : decode cX12_isMeant 65 = .ok (.lcmp, 1) := dgs daX12_isMeant_0 dbX12_isMeant_0 36 65 rfl
theorem dX12_isMeant_66 : decode cX12_isMeant 66 = .ok (.ifCond .lt 55, 3) := dgs daX12_isMeant_0 dbX12_isMeant_0 37 66 rfl
theorem dX12_isMeant_69 : decode cX12_isMeant 69 = .ok (.lload 8, 2) := dgs daX12_isMeant_0 dbX12_isMeant_0 38 69 rfl
theorem dX12_isMeant_71 : decode cX12_isMeant 71 = .ok (.iload_n 2, 1) := dgs daX12_isMeant_0 dbX12_isMeant_0 39 71 rfl
theorem dX12_isMeant_72 : decode cX12_isMeant 72 = .ok (.i2l, 1) := dgs daX12_isMeant_0 dbX12_isMeant_0 40 72 rfl
theorem dX12_isMeant_73 : decode cX12_isMeant 73 = .ok (.iload_n 3, 1) := dgs daX12_isMeant_0 dbX12_isMeant_0 41 73 rfl
theorem dX12_isMeant_74 : decode cX12_isMeant 74 = .ok (.i2l, 1) := dgs daX12_isMeant_0 dbX12_isMeant_0 42 74 rfl
theorem dX12_isMeant_75 : decode cX12_isMeant 75 = .ok (.ladd, 1) := dgs daX12_isMeant_0 dbX12_isMeant_0 43 75 rfl
theorem dX12_isMeant_76 : decode cX12_isMeant 76 = .ok (.lcmp, 1) := dgs daX12_isMeant_0 dbX12_isMeant_0 44 76 rfl
theorem dX12_isMeant_77 : decode cX12_isMeant 77 = .ok (.ifCond .gt 44, 3) := dgs daX12_isMeant_0 dbX12_isMeant_0 45 77 rfl
theorem dX12_isMeant_80 : decode cX12_isMeant 80 = .ok (.lload 4, 2) := dgs daX12_isMeant_0 dbX12_isMeant_0 46 80 rfl
theorem dX12_isMeant_82 : decode cX12_isMeant 82 = .ok (.lconst 0, 1) := dgs daX12_isMeant_0 dbX12_isMeant_0 47 82 rfl
theorem dX12_isMeant_83 : decode cX12_isMeant 83 = .ok (.lcmp, 1) := dgs daX12_isMeant_0 dbX12_isMeant_0 48 83 rfl
theorem dX12_isMeant_84 : decode cX12_isMeant 84 = .ok (.ifCond .lt 21, 3) := dgs daX12_isMeant_0 dbX12_isMeant_0 49 84 rfl
theorem dX12_isMeant_87 : decode cX12_isMeant 87 = .ok (.aload_n 0, 1) := dgs daX12_isMeant_0 dbX12_isMeant_0 50 87 rfl
theorem dX12_isMeant_88 : decode cX12_isMeant 88 = .ok (.iload 6, 2) := dgs daX12_isMeant_0 dbX12_isMeant_0 51 88 rfl
theorem dX12_isMeant_90 : decode cX12_isMeant 90 = .ok (.iload 7, 2) := dgs daX12_isMeant_0 dbX12_isMeant_0 52 90 rfl
theorem dX12_isMeant_92 : decode cX12_isMeant 92 = .ok (.lload 8, 2) := dgs daX12_isMeant_0 dbX12_isMeant_0 53 92 rfl
theorem dX12_isMeant_94 : decode cX12_isMeant 94 = .ok (.lload 4, 2) := dgs daX12_isMeant_0 dbX12_isMeant_0 54 94 rfl
theorem dX12_isMeant_96 : decode cX12_isMeant 96 = .ok (.invokevirtual 503, 3) := dgs daX12_isMeant_0 dbX12_isMeant_0 55 96 rfl
theorem dX12_isMeant_99 : decode cX12_isMeant 99 = .ok (.ifCond .ne 6, 3) := dgs daX12_isMeant_0 dbX12_isMeant_0 56 99 rfl
theorem dX12_isMeant_102 : decode cX12_isMeant 102 = .ok (.goto 19, 3) := dgs daX12_isMeant_0 dbX12_isMeant_0 57 102 rfl
theorem dX12_isMeant_105 : decode cX12_isMeant 105 = .ok (.lload 8, 2) := dgs daX12_isMeant_0 dbX12_isMeant_0 58 105 rfl
theorem dX12_isMeant_107 : decode cX12_isMeant 107 = .ok (.lstore 4, 2) := dgs daX12_isMeant_0 dbX12_isMeant_0 59 107 rfl
theorem dX12_isMeant_109 : decode cX12_isMeant 109 = .ok (.aload_n 0, 1) := dgs daX12_isMeant_0 dbX12_isMeant_0 60 109 rfl
theorem dX12_isMeant_110 : decode cX12_isMeant 110 = .ok (.iload 6, 2) := dgs daX12_isMeant_0 dbX12_isMeant_0 61 110 rfl
theorem dX12_isMeant_112 : decode cX12_isMeant 112 = .ok (.putfield 500, 3) := dgs daX12_isMeant_0 dbX12_isMeant_0 62 112 rfl
theorem dX12_isMeant_115 : decode cX12_isMeant 115 = .ok (.aload_n 0, 1) := dgs daX12_isMeant_0 dbX12_isMeant_0 63 115 rfl
theorem dX12_isMeant_116 : decode cX12_isMeant 116 = .ok (.iload 7, 2) := dgs daX12_isMeant_0 dbX12_isMeant_0 64 116 rfl
theorem dX12_isMeant_118 : decode cX12_isMeant 118 = .ok (.putfield 497, 3) := dgs daX12_isMeant_0 dbX12_isMeant_0 65 118 rfl
theorem dX12_isMeant_127 : decode cX12_isMeant 127 = .ok (.iinc 6 250, 6) := by decide +kernel
def dsX12_isMeant_121 : ByteArray := ⟨#[132, 7, 1, 167, 255, 154, 196, 132, 0, 6, 0, 250, 167, 255, 133, 22, 4, 9, 148, 155, 0, 7, 4, 167, 0, 4, 3, 172]⟩
theorem daX12_isMeant_121 : agB cX12_isMeant dsX12_isMeant_121 121 := agB_of (n := 28) (by decide +kernel)
def dlX12_isMeant_121 : List (Nat × Instr × Nat) := [(0, .iinc 7 1, 3), (3, .goto (-102), 3), (12, .goto (-123), 3), (15, .lload 4, 2), (17, .lconst 0, 1), (18, .lcmp, 1), (19, .ifCond .lt 7, 3), (22, .iconst 1, 1), (23, .goto 4, 3), (26, .iconst 0, 1), (27, .ireturn, 1)]
theorem dbX12_isMeant_121 : ∀ z ∈ dlX12_isMeant_121, decode dsX12_isMeant_121 z.1 = Except.ok z.2 ∧ okop dsX12_isMeant_121 z.1 = true := by decide +kernel
theorem dX12_isMeant_121 : decode cX12_isMeant 121 = .ok (.iinc 7 1, 3) := dgs daX12_isMeant_121 dbX12_isMeant_121 0 0 rfl
theorem dX12_isMeant_124 : decode cX12_isMeant 124 = .ok (.goto (-102), 3) := dgs daX12_isMeant_121 dbX12_isMeant_121 1 3 rfl
theorem dX12_isMeant_133 : decode cX12_isMeant 133 = .ok (.goto (-123), 3) := dgs daX12_isMeant_121 dbX12_isMeant_121 2 12 rfl
theorem dX12_isMeant_136 : decode cX12_isMeant 136 = .ok (.lload 4, 2) := dgs daX12_isMeant_121 dbX12_isMeant_121 3 15 rfl
theorem dX12_isMeant_138 : decode cX12_isMeant 138 = .ok (.lconst 0, 1) := dgs daX12_isMeant_121 dbX12_isMeant_121 4 17 rfl
theorem dX12_isMeant_139 : decode cX12_isMeant 139 = .ok (.lcmp, 1) := dgs daX12_isMeant_121 dbX12_isMeant_121 5 18 rfl
theorem dX12_isMeant_140 : decode cX12_isMeant 140 = .ok (.ifCond .lt 7, 3) := dgs daX12_isMeant_121 dbX12_isMeant_121 6 19 rfl
theorem dX12_isMeant_143 : decode cX12_isMeant 143 = .ok (.iconst 1, 1) := dgs daX12_isMeant_121 dbX12_isMeant_121 7 22 rfl
theorem dX12_isMeant_144 : decode cX12_isMeant 144 = .ok (.goto 4, 3) := dgs daX12_isMeant_121 dbX12_isMeant_121 8 23 rfl
theorem dX12_isMeant_147 : decode cX12_isMeant 147 = .ok (.iconst 0, 1) := dgs daX12_isMeant_121 dbX12_isMeant_121 9 26 rfl
theorem dX12_isMeant_148 : decode cX12_isMeant 148 = .ok (.ireturn, 1) := dgs daX12_isMeant_121 dbX12_isMeant_121 10 27 rfl
set_option maxRecDepth 20000 in
theorem ggX12_isOld_X12_in : GoodIn wsX12_isOld wsX12_in := goodIn_q _ [10] rfl (by decide +kernel)
set_option maxRecDepth 20000 in
theorem gX12_isOld_X12_in : GoodIn wsX12_isOld (va_wsS RX12 101 yX12_in wsX12_in) := goodIn_app (goodIn_q _ [7, 8, 9] rfl (by decide +kernel)) ggX12_isOld_X12_in
set_option maxRecDepth 20000 in
theorem ggX12_isOld_X12_isMeant : GoodIn wsX12_isOld wsX12_isMeant := goodIn_q _ [14, 15, 16, 17, 18, 19, 20, 21, 22, 9, 23, 24, 25, 26, 27, 28, 29, 30, 31, 32, 33, 34, 35, 36, 37, 38, 39, 40, 41, 42, 43, 44, 45, 46, 47, 48, 49, 50, 51, 52, 53, 54, 55, 56, 57, 58, 59, 60, 61] rfl (by decide +kernel)
set_option maxRecDepth 20000 in
theorem gX12_isOld_X12_isMeant : GoodIn wsX12_isOld (wsV RX12 509 RX12 yX12_isMeant wsX12_isMeant) := goodIn_app (goodIn_q _ [11, 12, 13, 9] rfl (by decide +kernel)) ggX12_isOld_X12_isMeant
def dsX12_isOld_0 : ByteArray := ⟨#[27, 133, 20, 0, 129, 20, 0, 131, 184, 0, 101, 153, 0, 33, 28, 133, 20, 0, 139, 20, 1, 251, 184, 0, 101, 153, 0, 19, 29, 133, 9, 20, 0, 249, 184, 0, 101, 153, 0, 7, 4, 167, 0, 4, 3, 54, 4, 42, 21, 4, 154, 0, 7, 4, 167, 0, 18, 42, 27, 28, 29, 182, 1, 253, 153, 0, 7, 3, 167, 0, 4, 5, 181, 0, 94, 42, 180, 0, 94, 154, 0, 7, 4, 167, 0, 4, 3, 172]⟩
theorem daX12_isOld_0 : agB cX12_isOld dsX12_isOld_0 0 := agB_of (n := 88) (by decide +kernel)
def dlX12_isOld_0 : List (Nat × Instr × Nat) := [(0, .iload_n 1, 1), (1, .i2l, 1), (2, .ldc2_w 129, 3), (5, .ldc2_w 131, 3), (8, .invokestatic 101, 3), (11, .ifCond .eq 33, 3), (14, .iload_n 2, 1), (15, .i2l, 1), (16, .ldc2_w 139, 3), (19, .ldc2_w 507, 3), (22, .invokestatic 101, 3), (25, .ifCond .eq 19, 3), (28, .iload_n 3, 1), (29, .i2l, 1), (30, .lconst 0, 1), (31, .ldc2_w 249, 3), (34, .invokestatic 101, 3), (37, .ifCond .eq 7, 3), (40, .iconst 1, 1), (41, .goto 4, 3), (44, .iconst 0, 1), (45, .istore 4, 2), (47, .aload_n 0, 1), (48, .iload 4, 2), (50, .ifCond .ne 7, 3), (53, .iconst 1, 1), (54, .goto 18, 3), (57, .aload_n 0, 1), (58, .iload_n 1, 1), (59, .iload_n 2, 1), (60, .iload_n 3, 1), (61, .invokevirtual 509, 3), (64, .ifCond .eq 7, 3), (67, .iconst 0, 1), (68, .goto 4, 3), (71, .iconst 2, 1), (72, .putfield 94, 3), (75, .aload_n 0, 1), (76, .getfield 94, 3), (79, .ifCond .ne 7, 3), (82, .iconst 1, 1), (83, .goto 4, 3), (86, .iconst 0, 1), (87, .ireturn, 1)]
theorem dbX12_isOld_0 : ∀ z ∈ dlX12_isOld_0, decode dsX12_isOld_0 z.1 = Except.ok z.2 ∧ okop dsX12_isOld_0 z.1 = true := by decide +kernel
theorem dX12_isOld_0 : decode cX12_isOld 0 = .ok (.iload_n 1, 1) := dgs daX12_isOld_0 dbX12_isOld_0 0 0 rfl
theorem dX12_isOld_1 : decode cX12_isOld 1 = .ok (.i2l, 1) := dgs daX12_isOld_0 dbX12_isOld_0 1 1 rfl
theorem dX12_isOld_2 : decode cX12_isOld 2 = .ok (.ldc2_w 129, 3) := dgs daX12_isOld_0 dbX12_isOld_0 2 2 rfl
theorem dX12_isOld_5 : decode cX12_isOld 5 = .ok (.ldc2_w 131, 3) := dgs daX12_isOld_0 dbX12_isOld_0 3 5 rfl
theorem dX12_isOld_8 : decode cX12_isOld 8 = .ok (.invokestatic 101, 3) := dgs daX12_isOld_0 dbX12_isOld_0 4 8 rfl
theorem dX12_isOld_11 : decode cX12_isOld 11 = .ok (.ifCond .eq 33, 3) := dgs daX12_isOld_0 dbX12_isOld_0 5 11 rfl
theorem dX12_isOld_14 : decode cX12_isOld 14 = .ok (.iload_n 2, 1) := dgs daX12_isOld_0 dbX12_isOld_0 6 14 rfl
theorem dX12_isOld_15 : decode cX12_isOld 15 = .ok (.i2l, 1) := dgs daX12_isOld_0 dbX12_isOld_0 7 15 rfl
theorem dX12_isOld_16 : decode cX12_isOld 16 = .ok (.ldc2_w 139, 3) := dgs daX12_isOld_0 dbX12_isOld_0 8 16 rfl
theorem dX12_isOld_19 : decode cX12_isOld 19 = .ok (.ldc2_w 507, 3) := dgs daX12_isOld_0 dbX12_isOld_0 9 19 rfl
theorem dX12_isOld_22 : decode cX12_isOld 22 = .ok (.invokestatic 101, 3) := dgs daX12_isOld_0 dbX12_isOld_0 10 22 rfl
theorem dX12_isOld_25 : decode cX12_isOld 25 = .ok (.ifCond .eq 19, 3) := dgs daX12_isOld_0 dbX12_isOld_0 11 25 rfl
theorem dX12_isOld_28 : decode cX12_isOld 28 = .ok (.iload_n 3, 1) := dgs daX12_isOld_0 dbX12_isOld_0 12 28 rfl
theorem dX12_isOld_29 : decode cX12_isOld 29 = .ok (.i2l, 1) := dgs daX12_isOld_0 dbX12_isOld_0 13 29 rfl
theorem dX12_isOld_30 : decode cX12_isOld 30 = .ok (.lconst 0, 1) := dgs daX12_isOld_0 dbX12_isOld_0 14 30 rfl
theorem dX12_isOld_31 : decode cX12_isOld 31 = .ok (.ldc2_w 249, 3) := dgs daX12_isOld_0 dbX12_isOld_0 15 31 rfl
theorem dX12_isOld_34 : decode cX12_isOld 34 = .ok (.invokestatic 101, 3) := dgs daX12_isOld_0 dbX12_isOld_0 16 34 rfl
theorem dX12_isOld_37 : decode cX12_isOld 37 = .ok (.ifCond .eq 7, 3) := dgs daX12_isOld_0 dbX12_isOld_0 17 37 rfl
theorem dX12_isOld_40 : decode cX12_isOld 40 = .ok (.iconst 1, 1) := dgs daX12_isOld_0 dbX12_isOld_0 18 40 rfl
theorem dX12_isOld_41 : decode cX12_isOld 41 = .ok (.goto 4, 3) := dgs daX12_isOld_0 dbX12_isOld_0 19 41 rfl
theorem dX12_isOld_44 : decode cX12_isOld 44 = .ok (.iconst 0, 1) := dgs daX12_isOld_0 dbX12_isOld_0 20 44 rfl
theorem dX12_isOld_45 : decode cX12_isOld 45 = .ok (.istore 4, 2) := dgs daX12_isOld_0 dbX12_isOld_0 21 45 rfl
theorem dX12_isOld_47 : decode cX12_isOld 47 = .ok (.aload_n 0, 1) := dgs daX12_isOld_0 dbX12_isOld_0 22 47 rfl
theorem dX12_isOld_48 : decode cX12_isOld 48 = .ok (.iload 4, 2) := dgs daX12_isOld_0 dbX12_isOld_0 23 48 rfl
theorem dX12_isOld_50 : decode cX12_isOld 50 = .ok (.ifCond .ne 7, 3) := dgs daX12_isOld_0 dbX12_isOld_0 24 50 rfl
theorem dX12_isOld_53 : decode cX12_isOld 53 = .ok (.iconst 1, 1) := dgs daX12_isOld_0 dbX12_isOld_0 25 53 rfl
theorem dX12_isOld_54 : decode cX12_isOld 54 = .ok (.goto 18, 3) := dgs daX12_isOld_0 dbX12_isOld_0 26 54 rfl
theorem dX12_isOld_57 : decode cX12_isOld 57 = .ok (.aload_n 0, 1) := dgs daX12_isOld_0 dbX12_isOld_0 27 57 rfl
theorem dX12_isOld_58 : decode cX12_isOld 58 = .ok (.iload_n 1, 1) := dgs daX12_isOld_0 dbX12_isOld_0 28 58 rfl
theorem dX12_isOld_59 : decode cX12_isOld 59 = .ok (.iload_n 2, 1) := dgs daX12_isOld_0 dbX12_isOld_0 29 59 rfl
theorem dX12_isOld_60 : decode cX12_isOld 60 = .ok (.iload_n 3, 1) := dgs daX12_isOld_0 dbX12_isOld_0 30 60 rfl
theorem dX12_isOld_61 : decode cX12_isOld 61 = .ok (.invokevirtual 509, 3) := dgs daX12_isOld_0 dbX12_isOld_0 31 61 rfl
theorem dX12_isOld_64 : decode cX12_isOld 64 = .ok (.ifCond .eq 7, 3) := dgs daX12_isOld_0 dbX12_isOld_0 32 64 rfl
theorem dX12_isOld_67 : decode cX12_isOld 67 = .ok (.iconst 0, 1) := dgs daX12_isOld_0 dbX12_isOld_0 33 67 rfl
theorem dX12_isOld_68 : decode cX12_isOld 68 = .ok (.goto 4, 3) := dgs daX12_isOld_0 dbX12_isOld_0 34 68 rfl
theorem dX12_isOld_71 : decode cX12_isOld 71 = .ok (.iconst 2, 1) := dgs daX12_isOld_0 dbX12_isOld_0 35 71 rfl
theorem dX12_isOld_72 : decode cX12_isOld 72 = .ok (.putfield 94, 3) := dgs daX12_isOld_0 dbX12_isOld_0 36 72 rfl
theorem dX12_isOld_75 : decode cX12_isOld 75 = .ok (.aload_n 0, 1) := dgs daX12_isOld_0 dbX12_isOld_0 37 75 rfl
theorem dX12_isOld_76 : decode cX12_isOld 76 = .ok (.getfield 94, 3) := dgs daX12_isOld_0 dbX12_isOld_0 38 76 rfl
theorem dX12_isOld_79 : decode cX12_isOld 79 = .ok (.ifCond .ne 7, 3) := dgs daX12_isOld_0 dbX12_isOld_0 39 79 rfl
theorem dX12_isOld_82 : decode cX12_isOld 82 = .ok (.iconst 1, 1) := dgs daX12_isOld_0 dbX12_isOld_0 40 82 rfl
theorem dX12_isOld_83 : decode cX12_isOld 83 = .ok (.goto 4, 3) := dgs daX12_isOld_0 dbX12_isOld_0 41 83 rfl
theorem dX12_isOld_86 : decode cX12_isOld 86 = .ok (.iconst 0, 1) := dgs daX12_isOld_0 dbX12_isOld_0 42 86 rfl
theorem dX12_isOld_87 : decode cX12_isOld 87 = .ok (.ireturn, 1) := dgs daX12_isOld_0 dbX12_isOld_0 43 87 rfl
set_option maxRecDepth 20000 in
theorem ggX12_oldModule_X12_isOld : GoodIn wsX12_oldModule wsX12_isOld := goodIn_q _ [6, 7, 8, 9, 10, 11, 12, 13, 14, 5, 15, 16, 17, 18, 19, 20, 21, 22, 1, 23, 24, 25, 26, 27, 28, 29, 30, 31, 32, 33, 34, 35, 36, 37, 38, 39, 40, 41, 42, 43, 44, 45, 46, 47, 48, 49, 50, 51, 52, 53, 54, 55, 56, 57, 58, 59, 60, 61, 62, 63, 64, 65] rfl (by decide +kernel)
set_option maxRecDepth 20000 in
theorem gX12_oldModule_X12_isOld : GoodIn wsX12_oldModule (wsV RX12 513 RX12 yX12_isOld wsX12_isOld) := goodIn_app (goodIn_q _ [2, 3, 4, 5] rfl (by decide +kernel)) ggX12_oldModule_X12_isOld
def dsX12_oldModule_0 : ByteArray := ⟨#[42, 27, 28, 29, 182, 2, 1, 153, 0, 10, 42, 180, 1, 244, 167, 0, 4, 3, 172]⟩
theorem daX12_oldModule_0 : agB cX12_oldModule dsX12_oldModule_0 0 := agB_of (n := 19) (by decide +kernel)
def dlX12_oldModule_0 : List (Nat × Instr × Nat) := [(0, .aload_n 0, 1), (1, .iload_n 1, 1), (2, .iload_n 2, 1), (3, .iload_n 3, 1), (4, .invokevirtual 513, 3), (7, .ifCond .eq 10, 3), (10, .aload_n 0, 1), (11, .getfield 500, 3), (14, .goto 4, 3), (17, .iconst 0, 1), (18, .ireturn, 1)]
theorem dbX12_oldModule_0 : ∀ z ∈ dlX12_oldModule_0, decode dsX12_oldModule_0 z.1 = Except.ok z.2 ∧ okop dsX12_oldModule_0 z.1 = true := by decide +kernel
theorem dX12_oldModule_0 : decode cX12_oldModule 0 = .ok (.aload_n 0, 1) := dgs daX12_oldModule_0 dbX12_oldModule_0 0 0 rfl
theorem dX12_oldModule_1 : decode cX12_oldModule 1 = .ok (.iload_n 1, 1) := dgs daX12_oldModule_0 dbX12_oldModule_0 1 1 rfl
theorem dX12_oldModule_2 : decode cX12_oldModule 2 = .ok (.iload_n 2, 1) := dgs daX12_oldModule_0 dbX12_oldModule_0 2 2 rfl
theorem dX12_oldModule_3 : decode cX12_oldModule 3 = .ok (.iload_n 3, 1) := dgs daX12_oldModule_0 dbX12_oldModule_0 3 3 rfl
theorem dX12_oldModule_4 : decode cX12_oldModule 4 = .ok (.invokevirtual 513, 3) := dgs daX12_oldModule_0 dbX12_oldModule_0 4 4 rfl
theorem dX12_oldModule_7 : decode cX12_oldModule 7 = .ok (.ifCond .eq 10, 3) := dgs daX12_oldModule_0 dbX12_oldModule_0 5 7 rfl
theorem dX12_oldModule_10 : decode cX12_oldModule 10 = .ok (.aload_n 0, 1) := dgs daX12_oldModule_0 dbX12_oldModule_0 6 10 rfl
theorem dX12_oldModule_11 : decode cX12_oldModule 11 = .ok (.getfield 500, 3) := dgs daX12_oldModule_0 dbX12_oldModule_0 7 11 rfl
theorem dX12_oldModule_14 : decode cX12_oldModule 14 = .ok (.goto 4, 3) := dgs daX12_oldModule_0 dbX12_oldModule_0 8 14 rfl
theorem dX12_oldModule_17 : decode cX12_oldModule 17 = .ok (.iconst 0, 1) := dgs daX12_oldModule_0 dbX12_oldModule_0 9 17 rfl
theorem dX12_oldModule_18 : decode cX12_oldModule 18 = .ok (.ireturn, 1) := dgs daX12_oldModule_0 dbX12_oldModule_0 10 18 rfl
set_option maxRecDepth 20000 in
theorem ggX12_oldShift_X12_isOld : GoodIn wsX12_oldShift wsX12_isOld := goodIn_q _ [6, 7, 8, 9, 10, 11, 12, 13, 14, 5, 15, 16, 17, 18, 19, 20, 21, 22, 23, 1, 24, 25, 26, 27, 28, 29, 30, 31, 32, 33, 34, 35, 36, 37, 38, 39, 40, 41, 42, 43, 44, 45, 46, 47, 48, 49, 50, 51, 52, 53, 54, 55, 56, 57, 58, 59, 60, 61, 62, 63, 64, 65] rfl (by decide +kernel)
set_option maxRecDepth 20000 in
theorem gX12_oldShift_X12_isOld : GoodIn wsX12_oldShift (wsV RX12 513 RX12 yX12_isOld wsX12_isOld) := goodIn_app (goodIn_q _ [2, 3, 4, 5] rfl (by decide +kernel)) ggX12_oldShift_X12_isOld
def dsX12_oldShift_0 : ByteArray := ⟨#[42, 27, 28, 29, 182, 2, 1, 153, 0, 10, 42, 180, 1, 241, 167, 0, 4, 3, 172]⟩
theorem daX12_oldShift_0 : agB cX12_oldShift dsX12_oldShift_0 0 := agB_of (n := 19) (by decide +kernel)
def dlX12_oldShift_0 : List (Nat × Instr × Nat) := [(0, .aload_n 0, 1), (1, .iload_n 1, 1), (2, .iload_n 2, 1), (3, .iload_n 3, 1), (4, .invokevirtual 513, 3), (7, .ifCond .eq 10, 3), (10, .aload_n 0, 1), (11, .getfield 497, 3), (14, .goto 4, 3), (17, .iconst 0, 1), (18, .ireturn, 1)]
theorem dbX12_oldShift_0 : ∀ z ∈ dlX12_oldShift_0, decode dsX12_oldShift_0 z.1 = Except.ok z.2 ∧ okop dsX12_oldShift_0 z.1 = true := by decide +kernel
theorem dX12_oldShift_0 : decode cX12_oldShift 0 = .ok (.aload_n 0, 1) := dgs daX12_oldShift_0 dbX12_oldShift_0 0 0 rfl
theorem dX12_oldShift_1 : decode cX12_oldShift 1 = .ok (.iload_n 1, 1) := dgs daX12_oldShift_0 dbX12_oldShift_0 1 1 rfl
theorem dX12_oldShift_2 : decode cX12_oldShift 2 = .ok (.iload_n 2, 1) := dgs daX12_oldShift_0 dbX12_oldShift_0 2 2 rfl
theorem dX12_oldShift_3 : decode cX12_oldShift 3 = .ok (.iload_n 3, 1) := dgs daX12_oldShift_0 dbX12_oldShift_0 3 3 rfl
theorem dX12_oldShift_4 : decode cX12_oldShift 4 = .ok (.invokevirtual 513, 3) := dgs daX12_oldShift_0 dbX12_oldShift_0 4 4 rfl
theorem dX12_oldShift_7 : decode cX12_oldShift 7 = .ok (.ifCond .eq 10, 3) := dgs daX12_oldShift_0 dbX12_oldShift_0 5 7 rfl
theorem dX12_oldShift_10 : decode cX12_oldShift 10 = .ok (.aload_n 0, 1) := dgs daX12_oldShift_0 dbX12_oldShift_0 6 10 rfl
theorem dX12_oldShift_11 : decode cX12_oldShift 11 = .ok (.getfield 497, 3) := dgs daX12_oldShift_0 dbX12_oldShift_0 7 11 rfl
theorem dX12_oldShift_14 : decode cX12_oldShift 14 = .ok (.goto 4, 3) := dgs daX12_oldShift_0 dbX12_oldShift_0 8 14 rfl
theorem dX12_oldShift_17 : decode cX12_oldShift 17 = .ok (.iconst 0, 1) := dgs daX12_oldShift_0 dbX12_oldShift_0 9 17 rfl
theorem dX12_oldShift_18 : decode cX12_oldShift 18 = .ok (.ireturn, 1) := dgs daX12_oldShift_0 dbX12_oldShift_0 10 18 rfl
set_option maxRecDepth 20000 in
theorem ggX12_allDamage_Jx4a65c_size_8abf5 : GoodIn wsX12_allDamage wsJx4a65c_size_8abf5 := goodIn_q _ [6, 7, 93, 94, 95] rfl (by decide +kernel)
set_option maxRecDepth 20000 in
theorem gX12_allDamage_Jx4a65c_size_8abf5 : GoodIn wsX12_allDamage (wsV RX12 97 RJx4a65c yJx4a65c_size_8abf5 wsJx4a65c_size_8abf5) := goodIn_app (goodIn_q _ [2, 3, 4, 5] rfl (by decide +kernel)) ggX12_allDamage_Jx4a65c_size_8abf5
set_option maxRecDepth 20000 in
theorem ggX12_allDamage_X12_gearAt : GoodIn wsX12_allDamage wsX12_gearAt := goodIn_q _ [12, 1, 13, 14, 15, 16, 5, 17, 7, 18, 19, 20, 21, 22, 23, 24, 25, 26, 27, 28, 29, 30, 36, 37, 38, 39, 40, 41, 42, 43, 44, 45, 46, 47, 48, 49, 50, 51, 52, 53, 54, 55, 56, 57, 58, 59, 60, 61, 62, 63, 64, 65, 66, 67, 68, 69, 93, 94, 95] rfl (by decide +kernel)
set_option maxRecDepth 20000 in
theorem gX12_allDamage_X12_gearAt : GoodIn wsX12_allDamage (wsV RX12 111 RX12 yX12_gearAt wsX12_gearAt) := goodIn_app (goodIn_q _ [8, 9, 10, 11] rfl (by decide +kernel)) ggX12_allDamage_X12_gearAt
set_option maxRecDepth 20000 in
theorem ggX12_allDamage_X12_answerLong : GoodIn wsX12_allDamage wsX12_answerLong := goodIn_q _ [34, 35, 36, 37, 38, 39, 40, 41, 42, 43, 44, 45, 46, 47, 48, 49, 50, 51, 52, 53, 54, 55, 56, 57, 58, 59, 60, 61, 62, 63, 64, 65, 66, 67, 68, 69] rfl (by decide +kernel)
set_option maxRecDepth 20000 in
theorem gX12_allDamage_X12_answerLong : GoodIn wsX12_allDamage (wsV RX12 443 RX12 yX12_answerLong wsX12_answerLong) := goodIn_app (goodIn_q _ [31, 32, 33, 11] rfl (by decide +kernel)) ggX12_allDamage_X12_answerLong
def dsX12_allDamage_0 : ByteArray := ⟨#[9, 64, 3, 62, 29, 42, 180, 0, 24, 182, 0, 97, 162, 0, 20, 31, 42, 29, 182, 0, 111, 180, 1, 199, 97, 64, 132, 3, 1, 167, 255, 231, 42, 31, 182, 1, 187, 173]⟩
theorem daX12_allDamage_0 : agB cX12_allDamage dsX12_allDamage_0 0 := agB_of (n := 38) (by decide +kernel)
def dlX12_allDamage_0 : List (Nat × Instr × Nat) := [(0, .lconst 0, 1), (1, .lstore_n 1, 1), (2, .iconst 0, 1), (3, .istore_n 3, 1), (4, .iload_n 3, 1), (5, .aload_n 0, 1), (6, .getfield 24, 3), (9, .invokevirtual 97, 3), (12, .if_icmp .ge 20, 3), (15, .lload_n 1, 1), (16, .aload_n 0, 1), (17, .iload_n 3, 1), (18, .invokevirtual 111, 3), (21, .getfield 455, 3), (24, .ladd, 1), (25, .lstore_n 1, 1), (26, .iinc 3 1, 3), (29, .goto (-25), 3), (32, .aload_n 0, 1), (33, .lload_n 1, 1), (34, .invokevirtual 443, 3), (37, .lreturn, 1)]
theorem dbX12_allDamage_0 : ∀ z ∈ dlX12_allDamage_0, decode dsX12_allDamage_0 z.1 = Except.ok z.2 ∧ okop dsX12_allDamage_0 z.1 = true := by decide +kernel
theorem dX12_allDamage_0 : decode cX12_allDamage 0 = .ok (.lconst 0, 1) := dgs daX12_allDamage_0 dbX12_allDamage_0 0 0 rfl
theorem dX12_allDamage_1 : decode cX12_allDamage 1 = .ok (.lstore_n 1, 1) := dgs daX12_allDamage_0 dbX12_allDamage_0 1 1 rfl
theorem dX12_allDamage_2 : decode cX12_allDamage 2 = .ok (.iconst 0, 1) := dgs daX12_allDamage_0 dbX12_allDamage_0 2 2 rfl
theorem dX12_allDamage_3 : decode cX12_allDamage 3 = .ok (.istore_n 3, 1) := dgs daX12_allDamage_0 dbX12_allDamage_0 3 3 rfl
theorem dX12_allDamage_4 : decode cX12_allDamage 4 = .ok (.iload_n 3, 1) := dgs daX12_allDamage_0 dbX12_allDamage_0 4 4 rfl
theorem dX12_allDamage_5 : decode cX12_allDamage 5 = .ok (.aload_n 0, 1) := dgs daX12_allDamage_0 dbX12_allDamage_0 5 5 rfl
theorem dX12_allDamage_6 : decode cX12_allDamage 6 = .ok (.getfield 24, 3) := dgs daX12_allDamage_0 dbX12_allDamage_0 6 6 rfl
theorem dX12_allDamage_9 : decode cX12_allDamage 9 = .ok (.invokevirtual 97, 3) := dgs daX12_allDamage_0 dbX12_allDamage_0 7 9 rfl
theorem dX12_allDamage_12 : decode cX12_allDamage 12 = .ok (.if_icmp .ge 20, 3) := dgs daX12_allDamage_0 dbX12_allDamage_0 8 12 rfl
theorem dX12_allDamage_15 : decode cX12_allDamage 15 = .ok (.lload_n 1, 1) := dgs daX12_allDamage_0 dbX12_allDamage_0 9 15 rfl
theorem dX12_allDamage_16 : decode cX12_allDamage 16 = .ok (.aload_n 0, 1) := dgs daX12_allDamage_0 dbX12_allDamage_0 10 16 rfl
theorem dX12_allDamage_17 : decode cX12_allDamage 17 = .ok (.iload_n 3, 1) := dgs daX12_allDamage_0 dbX12_allDamage_0 11 17 rfl
theorem dX12_allDamage_18 : decode cX12_allDamage 18 = .ok (.invokevirtual 111, 3) := dgs daX12_allDamage_0 dbX12_allDamage_0 12 18 rfl
theorem dX12_allDamage_21 : decode cX12_allDamage 21 = .ok (.getfield 455, 3) := dgs daX12_allDamage_0 dbX12_allDamage_0 13 21 rfl
theorem dX12_allDamage_24 : decode cX12_allDamage 24 = .ok (.ladd, 1) := dgs daX12_allDamage_0 dbX12_allDamage_0 14 24 rfl
theorem dX12_allDamage_25 : decode cX12_allDamage 25 = .ok (.lstore_n 1, 1) := dgs daX12_allDamage_0 dbX12_allDamage_0 15 25 rfl
theorem dX12_allDamage_26 : decode cX12_allDamage 26 = .ok (.iinc 3 1, 3) := dgs daX12_allDamage_0 dbX12_allDamage_0 16 26 rfl
theorem dX12_allDamage_29 : decode cX12_allDamage 29 = .ok (.goto (-25), 3) := dgs daX12_allDamage_0 dbX12_allDamage_0 17 29 rfl
theorem dX12_allDamage_32 : decode cX12_allDamage 32 = .ok (.aload_n 0, 1) := dgs daX12_allDamage_0 dbX12_allDamage_0 18 32 rfl
theorem dX12_allDamage_33 : decode cX12_allDamage 33 = .ok (.lload_n 1, 1) := dgs daX12_allDamage_0 dbX12_allDamage_0 19 33 rfl
theorem dX12_allDamage_34 : decode cX12_allDamage 34 = .ok (.invokevirtual 443, 3) := dgs daX12_allDamage_0 dbX12_allDamage_0 20 34 rfl
theorem dX12_allDamage_37 : decode cX12_allDamage 37 = .ok (.lreturn, 1) := dgs daX12_allDamage_0 dbX12_allDamage_0 21 37 rfl
set_option maxRecDepth 20000 in
theorem ggX12_cutShare_Jx4a65c_size_8abf5 : GoodIn wsX12_cutShare wsJx4a65c_size_8abf5 := goodIn_q _ [7, 8, 93, 94, 95] rfl (by decide +kernel)
set_option maxRecDepth 20000 in
theorem gX12_cutShare_Jx4a65c_size_8abf5 : GoodIn wsX12_cutShare (wsV RX12 97 RJx4a65c yJx4a65c_size_8abf5 wsJx4a65c_size_8abf5) := goodIn_app (goodIn_q _ [3, 4, 5, 6] rfl (by decide +kernel)) ggX12_cutShare_Jx4a65c_size_8abf5
set_option maxRecDepth 20000 in
theorem ggX12_cutShare_X12_gearAt : GoodIn wsX12_cutShare wsX12_gearAt := goodIn_q _ [13, 1, 14, 15, 16, 17, 6, 18, 8, 19, 20, 21, 22, 23, 24, 25, 26, 27, 28, 29, 30, 31, 36, 37, 38, 39, 40, 41, 42, 43, 44, 45, 46, 47, 48, 49, 50, 51, 52, 53, 54, 55, 56, 57, 58, 59, 60, 61, 62, 63, 64, 65, 66, 67, 68, 69, 93, 94, 95] rfl (by decide +kernel)
set_option maxRecDepth 20000 in
theorem gX12_cutShare_X12_gearAt : GoodIn wsX12_cutShare (wsV RX12 111 RX12 yX12_gearAt wsX12_gearAt) := goodIn_app (goodIn_q _ [9, 10, 11, 12] rfl (by decide +kernel)) ggX12_cutShare_X12_gearAt
set_option maxRecDepth 20000 in
theorem ggX12_cutShare_Jx4a65c_isEmpty_aae02 : GoodIn wsX12_cutShare wsJx4a65c_isEmpty_aae02 := goodIn_q _ [35, 8, 93, 94, 95] rfl (by decide +kernel)
set_option maxRecDepth 20000 in
theorem gX12_cutShare_Jx4a65c_isEmpty_aae02 : GoodIn wsX12_cutShare (wsV RX12 516 RJx4a65c yJx4a65c_isEmpty_aae02 wsJx4a65c_isEmpty_aae02) := goodIn_app (goodIn_q _ [32, 33, 34, 6] rfl (by decide +kernel)) ggX12_cutShare_Jx4a65c_isEmpty_aae02
def dsX12_cutShare_0 : ByteArray := ⟨#[3, 60, 3, 61, 28, 42, 180, 0, 24, 182, 0, 97, 162, 0, 28, 27, 42, 28, 182, 0, 111, 180, 0, 160, 153, 0, 7, 4, 167, 0, 4, 3, 96, 60, 132, 2, 1, 167, 255, 223, 42, 42, 180, 0, 24, 182, 2, 4, 153, 0, 7, 4, 167, 0, 4, 3, 181, 0, 94, 42, 180, 0, 94, 158, 0, 7, 11, 167, 0, 14, 27, 134, 42, 180, 0, 24, 182, 0, 97, 134, 110, 174]⟩
theorem daX12_cutShare_0 : agB cX12_cutShare dsX12_cutShare_0 0 := agB_of (n := 82) (by decide +kernel)
def dlX12_cutShare_0 : List (Nat × Instr × Nat) := [(0, .iconst 0, 1), (1, .istore_n 1, 1), (2, .iconst 0, 1), (3, .istore_n 2, 1), (4, .iload_n 2, 1), (5, .aload_n 0, 1), (6, .getfield 24, 3), (9, .invokevirtual 97, 3), (12, .if_icmp .ge 28, 3), (15, .iload_n 1, 1), (16, .aload_n 0, 1), (17, .iload_n 2, 1), (18, .invokevirtual 111, 3), (21, .getfield 160, 3), (24, .ifCond .eq 7, 3), (27, .iconst 1, 1), (28, .goto 4, 3), (31, .iconst 0, 1), (32, .iadd, 1), (33, .istore_n 1, 1), (34, .iinc 2 1, 3), (37, .goto (-33), 3), (40, .aload_n 0, 1), (41, .aload_n 0, 1), (42, .getfield 24, 3), (45, .invokevirtual 516, 3), (48, .ifCond .eq 7, 3), (51, .iconst 1, 1), (52, .goto 4, 3), (55, .iconst 0, 1), (56, .putfield 94, 3), (59, .aload_n 0, 1), (60, .getfield 94, 3), (63, .ifCond .le 7, 3), (66, .fconst 0, 1), (67, .goto 14, 3), (70, .iload_n 1, 1), (71, .i2f, 1), (72, .aload_n 0, 1), (73, .getfield 24, 3), (76, .invokevirtual 97, 3), (79, .i2f, 1), (80, .fdiv, 1), (81, .freturn, 1)]
theorem dbX12_cutShare_0 : ∀ z ∈ dlX12_cutShare_0, decode dsX12_cutShare_0 z.1 = Except.ok z.2 ∧ okop dsX12_cutShare_0 z.1 = true := by decide +kernel
theorem dX12_cutShare_0 : decode cX12_cutShare 0 = .ok (.iconst 0, 1) := dgs daX12_cutShare_0 dbX12_cutShare_0 0 0 rfl
theorem dX12_cutShare_1 : decode cX12_cutShare 1 = .ok (.istore_n 1, 1) := dgs daX12_cutShare_0 dbX12_cutShare_0 1 1 rfl
theorem dX12_cutShare_2 : decode cX12_cutShare 2 = .ok (.iconst 0, 1) := dgs daX12_cutShare_0 dbX12_cutShare_0 2 2 rfl
theorem dX12_cutShare_3 : decode cX12_cutShare 3 = .ok (.istore_n 2, 1) := dgs daX12_cutShare_0 dbX12_cutShare_0 3 3 rfl
theorem dX12_cutShare_4 : decode cX12_cutShare 4 = .ok (.iload_n 2, 1) := dgs daX12_cutShare_0 dbX12_cutShare_0 4 4 rfl
theorem dX12_cutShare_5 : decode cX12_cutShare 5 = .ok (.aload_n 0, 1) := dgs daX12_cutShare_0 dbX12_cutShare_0 5 5 rfl
theorem dX12_cutShare_6 : decode cX12_cutShare 6 = .ok (.getfield 24, 3) := dgs daX12_cutShare_0 dbX12_cutShare_0 6 6 rfl
theorem dX12_cutShare_9 : decode cX12_cutShare 9 = .ok (.invokevirtual 97, 3) := dgs daX12_cutShare_0 dbX12_cutShare_0 7 9 rfl
theorem dX12_cutShare_12 : decode cX12_cutShare 12 = .ok (.if_icmp .ge 28, 3) := dgs daX12_cutShare_0 dbX12_cutShare_0 8 12 rfl
theorem dX12_cutShare_15 : decode cX12_cutShare 15 = .ok (.iload_n 1, 1) := dgs daX12_cutShare_0 dbX12_cutShare_0 9 15 rfl
theorem dX12_cutShare_16 : decode cX12_cutShare 16 = .ok (.aload_n 0, 1) := dgs daX12_cutShare_0 dbX12_cutShare_0 10 16 rfl
theorem dX12_cutShare_17 : decode cX12_cutShare 17 = .ok (.iload_n 2, 1) := dgs daX12_cutShare_0 dbX12_cutShare_0 11 17 rfl
theorem dX12_cutShare_18 : decode cX12_cutShare 18 = .ok (.invokevirtual 111, 3) := dgs daX12_cutShare_0 dbX12_cutShare_0 12 18 rfl
theorem dX12_cutShare_21 : decode cX12_cutShare 21 = .ok (.getfield 160, 3) := dgs daX12_cutShare_0 dbX12_cutShare_0 13 21 rfl
theorem dX12_cutShare_24 : decode cX12_cutShare 24 = .ok (.ifCond .eq 7, 3) := dgs daX12_cutShare_0 dbX12_cutShare_0 14 24 rfl
theorem dX12_cutShare_27 : decode cX12_cutShare 27 = .ok (.iconst 1, 1) := dgs daX12_cutShare_0 dbX12_cutShare_0 15 27 rfl
theorem dX12_cutShare_28 : decode cX12_cutShare 28 = .ok (.goto 4, 3) := dgs daX12_cutShare_0 dbX12_cutShare_0 16 28 rfl
theorem dX12_cutShare_31 : decode cX12_cutShare 31 = .ok (.iconst 0, 1) := dgs daX12_cutShare_0 dbX12_cutShare_0 17 31 rfl
theorem dX12_cutShare_32 : decode cX12_cutShare 32 = .ok (.iadd, 1) := dgs daX12_cutShare_0 dbX12_cutShare_0 18 32 rfl
theorem dX12_cutShare_33 : decode cX12_cutShare 33 = .ok (.istore_n 1, 1) := dgs daX12_cutShare_0 dbX12_cutShare_0 19 33 rfl
theorem dX12_cutShare_34 : decode cX12_cutShare 34 = .ok (.iinc 2 1, 3) := dgs daX12_cutShare_0 dbX12_cutShare_0 20 34 rfl
theorem dX12_cutShare_37 : decode cX12_cutShare 37 = .ok (.goto (-33), 3) := dgs daX12_cutShare_0 dbX12_cutShare_0 21 37 rfl
theorem dX12_cutShare_40 : decode cX12_cutShare 40 = .ok (.aload_n 0, 1) := dgs daX12_cutShare_0 dbX12_cutShare_0 22 40 rfl
theorem dX12_cutShare_41 : decode cX12_cutShare 41 = .ok (.aload_n 0, 1) := dgs daX12_cutShare_0 dbX12_cutShare_0 23 41 rfl
theorem dX12_cutShare_42 : decode cX12_cutShare 42 = .ok (.getfield 24, 3) := dgs daX12_cutShare_0 dbX12_cutShare_0 24 42 rfl
theorem dX12_cutShare_45 : decode cX12_cutShare 45 = .ok (.invokevirtual 516, 3) := dgs daX12_cutShare_0 dbX12_cutShare_0 25 45 rfl
theorem dX12_cutShare_48 : decode cX12_cutShare 48 = .ok (.ifCond .eq 7, 3) := dgs daX12_cutShare_0 dbX12_cutShare_0 26 48 rfl
theorem dX12_cutShare_51 : decode cX12_cutShare 51 = .ok (.iconst 1, 1) := dgs daX12_cutShare_0 dbX12_cutShare_0 27 51 rfl
theorem dX12_cutShare_52 : decode cX12_cutShare 52 = .ok (.goto 4, 3) := dgs daX12_cutShare_0 dbX12_cutShare_0 28 52 rfl
theorem dX12_cutShare_55 : decode cX12_cutShare 55 = .ok (.iconst 0, 1) := dgs daX12_cutShare_0 dbX12_cutShare_0 29 55 rfl
theorem dX12_cutShare_56 : decode cX12_cutShare 56 = .ok (.putfield 94, 3) := dgs daX12_cutShare_0 dbX12_cutShare_0 30 56 rfl
theorem dX12_cutShare_59 : decode cX12_cutShare 59 = .ok (.aload_n 0, 1) := dgs daX12_cutShare_0 dbX12_cutShare_0 31 59 rfl
theorem dX12_cutShare_60 : decode cX12_cutShare 60 = .ok (.getfield 94, 3) := dgs daX12_cutShare_0 dbX12_cutShare_0 32 60 rfl
theorem dX12_cutShare_63 : decode cX12_cutShare 63 = .ok (.ifCond .le 7, 3) := dgs daX12_cutShare_0 dbX12_cutShare_0 33 63 rfl
theorem dX12_cutShare_66 : decode cX12_cutShare 66 = .ok (.fconst 0, 1) := dgs daX12_cutShare_0 dbX12_cutShare_0 34 66 rfl
theorem dX12_cutShare_67 : decode cX12_cutShare 67 = .ok (.goto 14, 3) := dgs daX12_cutShare_0 dbX12_cutShare_0 35 67 rfl
theorem dX12_cutShare_70 : decode cX12_cutShare 70 = .ok (.iload_n 1, 1) := dgs daX12_cutShare_0 dbX12_cutShare_0 36 70 rfl
theorem dX12_cutShare_71 : decode cX12_cutShare 71 = .ok (.i2f, 1) := dgs daX12_cutShare_0 dbX12_cutShare_0 37 71 rfl
theorem dX12_cutShare_72 : decode cX12_cutShare 72 = .ok (.aload_n 0, 1) := dgs daX12_cutShare_0 dbX12_cutShare_0 38 72 rfl
theorem dX12_cutShare_73 : decode cX12_cutShare 73 = .ok (.getfield 24, 3) := dgs daX12_cutShare_0 dbX12_cutShare_0 39 73 rfl
theorem dX12_cutShare_76 : decode cX12_cutShare 76 = .ok (.invokevirtual 97, 3) := dgs daX12_cutShare_0 dbX12_cutShare_0 40 76 rfl
theorem dX12_cutShare_79 : decode cX12_cutShare 79 = .ok (.i2f, 1) := dgs daX12_cutShare_0 dbX12_cutShare_0 41 79 rfl
theorem dX12_cutShare_80 : decode cX12_cutShare 80 = .ok (.fdiv, 1) := dgs daX12_cutShare_0 dbX12_cutShare_0 42 80 rfl
theorem dX12_cutShare_81 : decode cX12_cutShare 81 = .ok (.freturn, 1) := dgs daX12_cutShare_0 dbX12_cutShare_0 43 81 rfl
set_option maxRecDepth 20000 in
theorem ggX12_meanGrade_Jx4a65c_size_8abf5 : GoodIn wsX12_meanGrade wsJx4a65c_size_8abf5 := goodIn_q _ [7, 8, 105, 106, 107] rfl (by decide +kernel)
set_option maxRecDepth 20000 in
theorem gX12_meanGrade_Jx4a65c_size_8abf5 : GoodIn wsX12_meanGrade (wsV RX12 97 RJx4a65c yJx4a65c_size_8abf5 wsJx4a65c_size_8abf5) := goodIn_app (goodIn_q _ [3, 4, 5, 6] rfl (by decide +kernel)) ggX12_meanGrade_Jx4a65c_size_8abf5
set_option maxRecDepth 20000 in
theorem ggX12_meanGrade_X12_gearAt : GoodIn wsX12_meanGrade wsX12_gearAt := goodIn_q _ [13, 1, 14, 15, 16, 17, 6, 18, 8, 19, 20, 21, 22, 23, 24, 25, 26, 27, 28, 29, 30, 31, 71, 72, 73, 74, 75, 76, 77, 78, 79, 80, 81, 82, 83, 84, 85, 86, 87, 88, 89, 90, 91, 92, 93, 94, 95, 96, 97, 98, 99, 100, 101, 102, 103, 104, 105, 106, 107] rfl (by decide +kernel)
set_option maxRecDepth 20000 in
theorem gX12_meanGrade_X12_gearAt : GoodIn wsX12_meanGrade (wsV RX12 111 RX12 yX12_gearAt wsX12_gearAt) := goodIn_app (goodIn_q _ [9, 10, 11, 12] rfl (by decide +kernel)) ggX12_meanGrade_X12_gearAt
set_option maxRecDepth 20000 in
theorem ggX12_meanGrade_X10_grade : GoodIn wsX12_meanGrade wsX10_grade := goodIn_ca (goodIn_ca (goodIn_q _ [36, 37, 38, 39, 40, 41, 42, 43, 44, 35, 45, 46, 47, 48, 49, 50, 51, 12, 52, 53, 54, 55, 56, 57, 58, 59, 60, 61, 62, 63, 64, 65, 66, 108, 109, 110, 111, 112, 113, 114, 115, 116, 117, 118, 119, 120, 121, 122, 123, 124, 125, 126, 127, 128, 129, 130] rfl (by decide +kernel)) (goodIn_sub (fun _ h => List.mem_cons_of_mem _ (List.mem_append_left _ (List.mem_append_right _ h))) (by decide +kernel))) (goodIn_sub (fun _ h => List.mem_cons_of_mem _ (List.mem_append_right _ h)) (by decide +kernel))
set_option maxRecDepth 20000 in
theorem gX12_meanGrade_X10_grade : GoodIn wsX12_meanGrade (wsV RX12 409 RX10 yX10_grade wsX10_grade) := goodIn_app (goodIn_q _ [32, 33, 34, 35] rfl (by decide +kernel)) ggX12_meanGrade_X10_grade
set_option maxRecDepth 20000 in
theorem ggX12_meanGrade_Jx4a65c_isEmpty_aae02 : GoodIn wsX12_meanGrade wsJx4a65c_isEmpty_aae02 := goodIn_q _ [70, 8, 105, 106, 107] rfl (by decide +kernel)
set_option maxRecDepth 20000 in
theorem gX12_meanGrade_Jx4a65c_isEmpty_aae02 : GoodIn wsX12_meanGrade (wsV RX12 516 RJx4a65c yJx4a65c_isEmpty_aae02 wsJx4a65c_isEmpty_aae02) := goodIn_app (goodIn_q _ [67, 68, 69, 6] rfl (by decide +kernel)) ggX12_meanGrade_Jx4a65c_isEmpty_aae02
def dsX12_meanGrade_0 : ByteArray := ⟨#[3, 60, 3, 61, 28, 42, 180, 0, 24, 182, 0, 97, 162, 0, 20, 27, 42, 28, 182, 0, 111, 182, 1, 153, 96, 60, 132, 2, 1, 167, 255, 231, 42, 42, 180, 0, 24, 182, 2, 4, 153, 0, 7, 4, 167, 0, 4, 3, 181, 0, 94, 42, 180, 0, 94, 158, 0, 7, 14, 167, 0, 14, 27, 135, 42, 180, 0, 24, 182, 0, 97, 135, 111, 175]⟩
theorem daX12_meanGrade_0 : agB cX12_meanGrade dsX12_meanGrade_0 0 := agB_of (n := 74) (by decide +kernel)
def dlX12_meanGrade_0 : List (Nat × Instr × Nat) := [(0, .iconst 0, 1), (1, .istore_n 1, 1), (2, .iconst 0, 1), (3, .istore_n 2, 1), (4, .iload_n 2, 1), (5, .aload_n 0, 1), (6, .getfield 24, 3), (9, .invokevirtual 97, 3), (12, .if_icmp .ge 20, 3), (15, .iload_n 1, 1), (16, .aload_n 0, 1), (17, .iload_n 2, 1), (18, .invokevirtual 111, 3), (21, .invokevirtual 409, 3), (24, .iadd, 1), (25, .istore_n 1, 1), (26, .iinc 2 1, 3), (29, .goto (-25), 3), (32, .aload_n 0, 1), (33, .aload_n 0, 1), (34, .getfield 24, 3), (37, .invokevirtual 516, 3), (40, .ifCond .eq 7, 3), (43, .iconst 1, 1), (44, .goto 4, 3), (47, .iconst 0, 1), (48, .putfield 94, 3), (51, .aload_n 0, 1), (52, .getfield 94, 3), (55, .ifCond .le 7, 3), (58, .dconst 0, 1), (59, .goto 14, 3), (62, .iload_n 1, 1), (63, .i2d, 1), (64, .aload_n 0, 1), (65, .getfield 24, 3), (68, .invokevirtual 97, 3), (71, .i2d, 1), (72, .ddiv, 1), (73, .dreturn, 1)]
theorem dbX12_meanGrade_0 : ∀ z ∈ dlX12_meanGrade_0, decode dsX12_meanGrade_0 z.1 = Except.ok z.2 ∧ okop dsX12_meanGrade_0 z.1 = true := by decide +kernel
theorem dX12_meanGrade_0 : decode cX12_meanGrade 0 = .ok (.iconst 0, 1) := dgs daX12_meanGrade_0 dbX12_meanGrade_0 0 0 rfl
theorem dX12_meanGrade_1 : decode cX12_meanGrade 1 = .ok (.istore_n 1, 1) := dgs daX12_meanGrade_0 dbX12_meanGrade_0 1 1 rfl
theorem dX12_meanGrade_2 : decode cX12_meanGrade 2 = .ok (.iconst 0, 1) := dgs daX12_meanGrade_0 dbX12_meanGrade_0 2 2 rfl
theorem dX12_meanGrade_3 : decode cX12_meanGrade 3 = .ok (.istore_n 2, 1) := dgs daX12_meanGrade_0 dbX12_meanGrade_0 3 3 rfl
theorem dX12_meanGrade_4 : decode cX12_meanGrade 4 = .ok (.iload_n 2, 1) := dgs daX12_meanGrade_0 dbX12_meanGrade_0 4 4 rfl
theorem dX12_meanGrade_5 : decode cX12_meanGrade 5 = .ok (.aload_n 0, 1) := dgs daX12_meanGrade_0 dbX12_meanGrade_0 5 5 rfl
theorem dX12_meanGrade_6 : decode cX12_meanGrade 6 = .ok (.getfield 24, 3) := dgs daX12_meanGrade_0 dbX12_meanGrade_0 6 6 rfl
theorem dX12_meanGrade_9 : decode cX12_meanGrade 9 = .ok (.invokevirtual 97, 3) := dgs daX12_meanGrade_0 dbX12_meanGrade_0 7 9 rfl
theorem dX12_meanGrade_12 : decode cX12_meanGrade 12 = .ok (.if_icmp .ge 20, 3) := dgs daX12_meanGrade_0 dbX12_meanGrade_0 8 12 rfl
theorem dX12_meanGrade_15 : decode cX12_meanGrade 15 = .ok (.iload_n 1, 1) := dgs daX12_meanGrade_0 dbX12_meanGrade_0 9 15 rfl
theorem dX12_meanGrade_16 : decode cX12_meanGrade 16 = .ok (.aload_n 0, 1) := dgs daX12_meanGrade_0 dbX12_meanGrade_0 10 16 rfl
theorem dX12_meanGrade_17 : decode cX12_meanGrade 17 = .ok (.iload_n 2, 1) := dgs daX12_meanGrade_0 dbX12_meanGrade_0 11 17 rfl
theorem dX12_meanGrade_18 : decode cX12_meanGrade 18 = .ok (.invokevirtual 111, 3) := dgs daX12_meanGrade_0 dbX12_meanGrade_0 12 18 rfl
theorem dX12_meanGrade_21 : decode cX12_meanGrade 21 = .ok (.invokevirtual 409, 3) := dgs daX12_meanGrade_0 dbX12_meanGrade_0 13 21 rfl
theorem dX12_meanGrade_24 : decode cX12_meanGrade 24 = .ok (.iadd, 1) := dgs daX12_meanGrade_0 dbX12_meanGrade_0 14 24 rfl
theorem dX12_meanGrade_25 : decode cX12_meanGrade 25 = .ok (.istore_n 1, 1) := dgs daX12_meanGrade_0 dbX12_meanGrade_0 15 25 rfl
theorem dX12_meanGrade_26 : decode cX12_meanGrade 26 = .ok (.iinc 2 1, 3) := dgs daX12_meanGrade_0 dbX12_meanGrade_0 16 26 rfl
theorem dX12_meanGrade_29 : decode cX12_meanGrade 29 = .ok (.goto (-25), 3) := dgs daX12_meanGrade_0 dbX12_meanGrade_0 17 29 rfl
theorem dX12_meanGrade_32 : decode cX12_meanGrade 32 = .ok (.aload_n 0, 1) := dgs daX12_meanGrade_0 dbX12_meanGrade_0 18 32 rfl
theorem dX12_meanGrade_33 : decode cX12_meanGrade 33 = .ok (.aload_n 0, 1) := dgs daX12_meanGrade_0 dbX12_meanGrade_0 19 33 rfl
theorem dX12_meanGrade_34 : decode cX12_meanGrade 34 = .ok (.getfield 24, 3) := dgs daX12_meanGrade_0 dbX12_meanGrade_0 20 34 rfl
theorem dX12_meanGrade_37 : decode cX12_meanGrade 37 = .ok (.invokevirtual 516, 3) := dgs daX12_meanGrade_0 dbX12_meanGrade_0 21 37 rfl
theorem dX12_meanGrade_40 : decode cX12_meanGrade 40 = .ok (.ifCond .eq 7, 3) := dgs daX12_meanGrade_0 dbX12_meanGrade_0 22 40 rfl
theorem dX12_meanGrade_43 : decode cX12_meanGrade 43 = .ok (.iconst 1, 1) := dgs daX12_meanGrade_0 dbX12_meanGrade_0 23 43 rfl
theorem dX12_meanGrade_44 : decode cX12_meanGrade 44 = .ok (.goto 4, 3) := dgs daX12_meanGrade_0 dbX12_meanGrade_0 24 44 rfl
theorem dX12_meanGrade_47 : decode cX12_meanGrade 47 = .ok (.iconst 0, 1) := dgs daX12_meanGrade_0 dbX12_meanGrade_0 25 47 rfl
theorem dX12_meanGrade_48 : decode cX12_meanGrade 48 = .ok (.putfield 94, 3) := dgs daX12_meanGrade_0 dbX12_meanGrade_0 26 48 rfl
theorem dX12_meanGrade_51 : decode cX12_meanGrade 51 = .ok (.aload_n 0, 1) := dgs daX12_meanGrade_0 dbX12_meanGrade_0 27 51 rfl
theorem dX12_meanGrade_52 : decode cX12_meanGrade 52 = .ok (.getfield 94, 3) := dgs daX12_meanGrade_0 dbX12_meanGrade_0 28 52 rfl
theorem dX12_meanGrade_55 : decode cX12_meanGrade 55 = .ok (.ifCond .le 7, 3) := dgs daX12_meanGrade_0 dbX12_meanGrade_0 29 55 rfl
theorem dX12_meanGrade_58 : decode cX12_meanGrade 58 = .ok (.dconst 0, 1) := dgs daX12_meanGrade_0 dbX12_meanGrade_0 30 58 rfl
theorem dX12_meanGrade_59 : decode cX12_meanGrade 59 = .ok (.goto 14, 3) := dgs daX12_meanGrade_0 dbX12_meanGrade_0 31 59 rfl
theorem dX12_meanGrade_62 : decode cX12_meanGrade 62 = .ok (.iload_n 1, 1) := dgs daX12_meanGrade_0 dbX12_meanGrade_0 32 62 rfl
theorem dX12_meanGrade_63 : decode cX12_meanGrade 63 = .ok (.i2d, 1) := dgs daX12_meanGrade_0 dbX12_meanGrade_0 33 63 rfl
theorem dX12_meanGrade_64 : decode cX12_meanGrade 64 = .ok (.aload_n 0, 1) := dgs daX12_meanGrade_0 dbX12_meanGrade_0 34 64 rfl
theorem dX12_meanGrade_65 : decode cX12_meanGrade 65 = .ok (.getfield 24, 3) := dgs daX12_meanGrade_0 dbX12_meanGrade_0 35 65 rfl
theorem dX12_meanGrade_68 : decode cX12_meanGrade 68 = .ok (.invokevirtual 97, 3) := dgs daX12_meanGrade_0 dbX12_meanGrade_0 36 68 rfl
theorem dX12_meanGrade_71 : decode cX12_meanGrade 71 = .ok (.i2d, 1) := dgs daX12_meanGrade_0 dbX12_meanGrade_0 37 71 rfl
theorem dX12_meanGrade_72 : decode cX12_meanGrade 72 = .ok (.ddiv, 1) := dgs daX12_meanGrade_0 dbX12_meanGrade_0 38 72 rfl
theorem dX12_meanGrade_73 : decode cX12_meanGrade 73 = .ok (.dreturn, 1) := dgs daX12_meanGrade_0 dbX12_meanGrade_0 39 73 rfl
set_option maxRecDepth 20000 in
theorem ggX12_isSound_X12_says : GoodIn wsX12_isSound wsX12_says := goodIn_q _ [5, 6, 7, 8, 9, 10, 11, 12, 13, 14, 15, 16, 17, 18, 19, 20, 21, 22, 23, 24, 25, 26, 27, 28, 29, 30, 31, 32, 33, 34, 35, 36, 37, 38, 39, 40] rfl (by decide +kernel)
set_option maxRecDepth 20000 in
theorem gX12_isSound_X12_says : GoodIn wsX12_isSound (wsV RX12 178 RX12 yX12_says wsX12_says) := goodIn_app (goodIn_q _ [1, 2, 3, 4] rfl (by decide +kernel)) ggX12_isSound_X12_says
def dsX12_isSound_0 : ByteArray := ⟨#[42, 4, 182, 0, 178, 172]⟩
theorem daX12_isSound_0 : agB cX12_isSound dsX12_isSound_0 0 := agB_of (n := 6) (by decide +kernel)
def dlX12_isSound_0 : List (Nat × Instr × Nat) := [(0, .aload_n 0, 1), (1, .iconst 1, 1), (2, .invokevirtual 178, 3), (5, .ireturn, 1)]
theorem dbX12_isSound_0 : ∀ z ∈ dlX12_isSound_0, decode dsX12_isSound_0 z.1 = Except.ok z.2 ∧ okop dsX12_isSound_0 z.1 = true := by decide +kernel
theorem dX12_isSound_0 : decode cX12_isSound 0 = .ok (.aload_n 0, 1) := dgs daX12_isSound_0 dbX12_isSound_0 0 0 rfl
theorem dX12_isSound_1 : decode cX12_isSound 1 = .ok (.iconst 1, 1) := dgs daX12_isSound_0 dbX12_isSound_0 1 1 rfl
theorem dX12_isSound_2 : decode cX12_isSound 2 = .ok (.invokevirtual 178, 3) := dgs daX12_isSound_0 dbX12_isSound_0 2 2 rfl
theorem dX12_isSound_5 : decode cX12_isSound 5 = .ok (.ireturn, 1) := dgs daX12_isSound_0 dbX12_isSound_0 3 5 rfl
set_option maxRecDepth 20000 in
theorem ggJ5_init_d00df_J2_newBytesFor_77867 : GoodIn wsJ5_init_d00df wsJ2_newBytesFor_77867 := goodIn_q _ [11, 5, 12, 13, 10, 14, 15] rfl (by decide +kernel)
set_option maxRecDepth 20000 in
theorem gJ5_init_d00df_J2_newBytesFor_77867 : GoodIn wsJ5_init_d00df (va_wsS RJ5 26 yJ2_newBytesFor_77867 wsJ2_newBytesFor_77867) := goodIn_app (goodIn_q _ [8, 9, 10] rfl (by decide +kernel)) ggJ5_init_d00df_J2_newBytesFor_77867
theorem dJ5_init_d00df_12 : decode cJ5_init_d00df 12 = .ok (.newarray .byte, 2) := by decide +kernel
def dsJ5_init_d00df_0 : ByteArray := ⟨#[42, 183, 0, 3, 178, 0, 18, 153, 0, 18, 42, 27, 188, 8, 181, 0, 15, 42, 3, 181, 0, 22, 167, 0, 16, 42, 27, 184, 0, 26, 181, 0, 15, 42, 4, 181, 0, 22, 177]⟩
theorem daJ5_init_d00df_0 : agB cJ5_init_d00df dsJ5_init_d00df_0 0 := agB_of (n := 39) (by decide +kernel)
def dlJ5_init_d00df_0 : List (Nat × Instr × Nat) := [(0, .aload_n 0, 1), (1, .invokespecial 3, 3), (4, .getstatic 18, 3), (7, .ifCond .eq 18, 3), (10, .aload_n 0, 1), (11, .iload_n 1, 1), (14, .putfield 15, 3), (17, .aload_n 0, 1), (18, .iconst 0, 1), (19, .putfield 22, 3), (22, .goto 16, 3), (25, .aload_n 0, 1), (26, .iload_n 1, 1), (27, .invokestatic 26, 3), (30, .putfield 15, 3), (33, .aload_n 0, 1), (34, .iconst 1, 1), (35, .putfield 22, 3), (38, .return_, 1)]
theorem dbJ5_init_d00df_0 : ∀ z ∈ dlJ5_init_d00df_0, decode dsJ5_init_d00df_0 z.1 = Except.ok z.2 ∧ okop dsJ5_init_d00df_0 z.1 = true := by decide +kernel
theorem dJ5_init_d00df_0 : decode cJ5_init_d00df 0 = .ok (.aload_n 0, 1) := dgs daJ5_init_d00df_0 dbJ5_init_d00df_0 0 0 rfl
theorem dJ5_init_d00df_1 : decode cJ5_init_d00df 1 = .ok (.invokespecial 3, 3) := dgs daJ5_init_d00df_0 dbJ5_init_d00df_0 1 1 rfl
theorem dJ5_init_d00df_4 : decode cJ5_init_d00df 4 = .ok (.getstatic 18, 3) := dgs daJ5_init_d00df_0 dbJ5_init_d00df_0 2 4 rfl
theorem dJ5_init_d00df_7 : decode cJ5_init_d00df 7 = .ok (.ifCond .eq 18, 3) := dgs daJ5_init_d00df_0 dbJ5_init_d00df_0 3 7 rfl
theorem dJ5_init_d00df_10 : decode cJ5_init_d00df 10 = .ok (.aload_n 0, 1) := dgs daJ5_init_d00df_0 dbJ5_init_d00df_0 4 10 rfl
theorem dJ5_init_d00df_11 : decode cJ5_init_d00df 11 = .ok (.iload_n 1, 1) := dgs daJ5_init_d00df_0 dbJ5_init_d00df_0 5 11 rfl
theorem dJ5_init_d00df_14 : decode cJ5_init_d00df 14 = .ok (.putfield 15, 3) := dgs daJ5_init_d00df_0 dbJ5_init_d00df_0 6 14 rfl
theorem dJ5_init_d00df_17 : decode cJ5_init_d00df 17 = .ok (.aload_n 0, 1) := dgs daJ5_init_d00df_0 dbJ5_init_d00df_0 7 17 rfl
theorem dJ5_init_d00df_18 : decode cJ5_init_d00df 18 = .ok (.iconst 0, 1) := dgs daJ5_init_d00df_0 dbJ5_init_d00df_0 8 18 rfl
theorem dJ5_init_d00df_19 : decode cJ5_init_d00df 19 = .ok (.putfield 22, 3) := dgs daJ5_init_d00df_0 dbJ5_init_d00df_0 9 19 rfl
theorem dJ5_init_d00df_22 : decode cJ5_init_d00df 22 = .ok (.goto 16, 3) := dgs daJ5_init_d00df_0 dbJ5_init_d00df_0 10 22 rfl
theorem dJ5_init_d00df_25 : decode cJ5_init_d00df 25 = .ok (.aload_n 0, 1) := dgs daJ5_init_d00df_0 dbJ5_init_d00df_0 11 25 rfl
theorem dJ5_init_d00df_26 : decode cJ5_init_d00df 26 = .ok (.iload_n 1, 1) := dgs daJ5_init_d00df_0 dbJ5_init_d00df_0 12 26 rfl
theorem dJ5_init_d00df_27 : decode cJ5_init_d00df 27 = .ok (.invokestatic 26, 3) := dgs daJ5_init_d00df_0 dbJ5_init_d00df_0 13 27 rfl
theorem dJ5_init_d00df_30 : decode cJ5_init_d00df 30 = .ok (.putfield 15, 3) := dgs daJ5_init_d00df_0 dbJ5_init_d00df_0 14 30 rfl
theorem dJ5_init_d00df_33 : decode cJ5_init_d00df 33 = .ok (.aload_n 0, 1) := dgs daJ5_init_d00df_0 dbJ5_init_d00df_0 15 33 rfl
theorem dJ5_init_d00df_34 : decode cJ5_init_d00df 34 = .ok (.iconst 1, 1) := dgs daJ5_init_d00df_0 dbJ5_init_d00df_0 16 34 rfl
theorem dJ5_init_d00df_35 : decode cJ5_init_d00df 35 = .ok (.putfield 22, 3) := dgs daJ5_init_d00df_0 dbJ5_init_d00df_0 17 35 rfl
theorem dJ5_init_d00df_38 : decode cJ5_init_d00df 38 = .ok (.return_, 1) := dgs daJ5_init_d00df_0 dbJ5_init_d00df_0 18 38 rfl
def dsJ5_length_8abf5_0 : ByteArray := ⟨#[42, 180, 0, 79, 172]⟩
theorem daJ5_length_8abf5_0 : agB cJ5_length_8abf5 dsJ5_length_8abf5_0 0 := agB_of (n := 5) (by decide +kernel)
def dlJ5_length_8abf5_0 : List (Nat × Instr × Nat) := [(0, .aload_n 0, 1), (1, .getfield 79, 3), (4, .ireturn, 1)]
theorem dbJ5_length_8abf5_0 : ∀ z ∈ dlJ5_length_8abf5_0, decode dsJ5_length_8abf5_0 z.1 = Except.ok z.2 ∧ okop dsJ5_length_8abf5_0 z.1 = true := by decide +kernel
theorem dJ5_length_8abf5_0 : decode cJ5_length_8abf5 0 = .ok (.aload_n 0, 1) := dgs daJ5_length_8abf5_0 dbJ5_length_8abf5_0 0 0 rfl
theorem dJ5_length_8abf5_1 : decode cJ5_length_8abf5 1 = .ok (.getfield 79, 3) := dgs daJ5_length_8abf5_0 dbJ5_length_8abf5_0 1 1 rfl
theorem dJ5_length_8abf5_4 : decode cJ5_length_8abf5 4 = .ok (.ireturn, 1) := dgs daJ5_length_8abf5_0 dbJ5_length_8abf5_0 2 4 rfl
set_option maxRecDepth 20000 in
theorem ggJ5_ensureCapacityInternal_d00df_J5_newCapacity_0f7a4 : GoodIn wsJ5_ensureCapacityInternal_d00df wsJ5_newCapacity_0f7a4 := goodIn_q _ [8, 1, 2, 9, 10, 11, 12, 13, 14, 15, 16, 17, 18, 19, 20, 21, 40, 41, 42, 43] rfl (by decide +kernel)
set_option maxRecDepth 20000 in
theorem gJ5_ensureCapacityInternal_d00df_J5_newCapacity_0f7a4_u104J4 : GoodIn wsJ5_ensureCapacityInternal_d00df (va_wsU RJ5 104 RJ4 "java/lang/AbstractStringBuilder" ⟨"java/lang/AbstractStringBuilder", "newCapacity", "(I)I"⟩ yJ5_newCapacity_0f7a4 wsJ5_newCapacity_0f7a4) := goodIn_app (goodIn_of _ (by decide +kernel)) ggJ5_ensureCapacityInternal_d00df_J5_newCapacity_0f7a4
set_option maxRecDepth 20000 in
theorem ggJ5_ensureCapacityInternal_d00df_J7_copyOf_9075b : GoodIn wsJ5_ensureCapacityInternal_d00df wsJ7_copyOf_9075b := goodIn_q _ [25, 26, 27, 28, 29, 30, 31, 32, 33, 34, 16, 35, 36, 37, 38, 39] rfl (by decide +kernel)
set_option maxRecDepth 20000 in
theorem gJ5_ensureCapacityInternal_d00df_J7_copyOf_9075b : GoodIn wsJ5_ensureCapacityInternal_d00df (va_wsS RJ5 108 yJ7_copyOf_9075b wsJ7_copyOf_9075b) := goodIn_app (goodIn_q _ [22, 23, 24] rfl (by decide +kernel)) ggJ5_ensureCapacityInternal_d00df_J7_copyOf_9075b
def dsJ5_ensureCapacityInternal_d00df_0 : ByteArray := ⟨#[42, 180, 0, 15, 190, 42, 180, 0, 22, 122, 61, 27, 28, 100, 158, 0, 24, 42, 42, 180, 0, 15, 42, 27, 182, 0, 104, 42, 180, 0, 22, 120, 184, 0, 108, 181, 0, 15, 177]⟩
theorem daJ5_ensureCapacityInternal_d00df_0 : agB cJ5_ensureCapacityInternal_d00df dsJ5_ensureCapacityInternal_d00df_0 0 := agB_of (n := 39) (by decide +kernel)
def dlJ5_ensureCapacityInternal_d00df_0 : List (Nat × Instr × Nat) := [(0, .aload_n 0, 1), (1, .getfield 15, 3), (4, .arraylength, 1), (5, .aload_n 0, 1), (6, .getfield 22, 3), (9, .ishr, 1), (10, .istore_n 2, 1), (11, .iload_n 1, 1), (12, .iload_n 2, 1), (13, .isub, 1), (14, .ifCond .le 24, 3), (17, .aload_n 0, 1), (18, .aload_n 0, 1), (19, .getfield 15, 3), (22, .aload_n 0, 1), (23, .iload_n 1, 1), (24, .invokevirtual 104, 3), (27, .aload_n 0, 1), (28, .getfield 22, 3), (31, .ishl, 1), (32, .invokestatic 108, 3), (35, .putfield 15, 3), (38, .return_, 1)]
theorem dbJ5_ensureCapacityInternal_d00df_0 : ∀ z ∈ dlJ5_ensureCapacityInternal_d00df_0, decode dsJ5_ensureCapacityInternal_d00df_0 z.1 = Except.ok z.2 ∧ okop dsJ5_ensureCapacityInternal_d00df_0 z.1 = true := by decide +kernel
theorem dJ5_ensureCapacityInternal_d00df_0 : decode cJ5_ensureCapacityInternal_d00df 0 = .ok (.aload_n 0, 1) := dgs daJ5_ensureCapacityInternal_d00df_0 dbJ5_ensureCapacityInternal_d00df_0 0 0 rfl
theorem dJ5_ensureCapacityInternal_d00df_1 : decode cJ5_ensureCapacityInternal_d00df 1 = .ok (.getfield 15, 3) := dgs daJ5_ensureCapacityInternal_d00df_0 dbJ5_ensureCapacityInternal_d00df_0 1 1 rfl
theorem dJ5_ensureCapacityInternal_d00df_4 : decode cJ5_ensureCapacityInternal_d00df 4 = .ok (.arraylength, 1) := dgs daJ5_ensureCapacityInternal_d00df_0 dbJ5_ensureCapacityInternal_d00df_0 2 4 rfl
theorem dJ5_ensureCapacityInternal_d00df_5 : decode cJ5_ensureCapacityInternal_d00df 5 = .ok (.aload_n 0, 1) := dgs daJ5_ensureCapacityInternal_d00df_0 dbJ5_ensureCapacityInternal_d00df_0 3 5 rfl
theorem dJ5_ensureCapacityInternal_d00df_6 : decode cJ5_ensureCapacityInternal_d00df 6 = .ok (.getfield 22, 3) := dgs daJ5_ensureCapacityInternal_d00df_0 dbJ5_ensureCapacityInternal_d00df_0 4 6 rfl
theorem dJ5_ensureCapacityInternal_d00df_9 : decode cJ5_ensureCapacityInternal_d00df 9 = .ok (.ishr, 1) := dgs daJ5_ensureCapacityInternal_d00df_0 dbJ5_ensureCapacityInternal_d00df_0 5 9 rfl
theorem dJ5_ensureCapacityInternal_d00df_10 : decode cJ5_ensureCapacityInternal_d00df 10 = .ok (.istore_n 2, 1) := dgs daJ5_ensureCapacityInternal_d00df_0 dbJ5_ensureCapacityInternal_d00df_0 6 10 rfl
theorem dJ5_ensureCapacityInternal_d00df_11 : decode cJ5_ensureCapacityInternal_d00df 11 = .ok (.iload_n 1, 1) := dgs daJ5_ensureCapacityInternal_d00df_0 dbJ5_ensureCapacityInternal_d00df_0 7 11 rfl
theorem dJ5_ensureCapacityInternal_d00df_12 : decode cJ5_ensureCapacityInternal_d00df 12 = .ok (.iload_n 2, 1) := dgs daJ5_ensureCapacityInternal_d00df_0 dbJ5_ensureCapacityInternal_d00df_0 8 12 rfl
theorem dJ5_ensureCapacityInternal_d00df_13 : decode cJ5_ensureCapacityInternal_d00df 13 = .ok (.isub, 1) := dgs daJ5_ensureCapacityInternal_d00df_0 dbJ5_ensureCapacityInternal_d00df_0 9 13 rfl
theorem dJ5_ensureCapacityInternal_d00df_14 : decode cJ5_ensureCapacityInternal_d00df 14 = .ok (.ifCond .le 24, 3) := dgs daJ5_ensureCapacityInternal_d00df_0 dbJ5_ensureCapacityInternal_d00df_0 10 14 rfl
theorem dJ5_ensureCapacityInternal_d00df_17 : decode cJ5_ensureCapacityInternal_d00df 17 = .ok (.aload_n 0, 1) := dgs daJ5_ensureCapacityInternal_d00df_0 dbJ5_ensureCapacityInternal_d00df_0 11 17 rfl
theorem dJ5_ensureCapacityInternal_d00df_18 : decode cJ5_ensureCapacityInternal_d00df 18 = .ok (.aload_n 0, 1) := dgs daJ5_ensureCapacityInternal_d00df_0 dbJ5_ensureCapacityInternal_d00df_0 12 18 rfl
theorem dJ5_ensureCapacityInternal_d00df_19 : decode cJ5_ensureCapacityInternal_d00df 19 = .ok (.getfield 15, 3) := dgs daJ5_ensureCapacityInternal_d00df_0 dbJ5_ensureCapacityInternal_d00df_0 13 19 rfl
theorem dJ5_ensureCapacityInternal_d00df_22 : decode cJ5_ensureCapacityInternal_d00df 22 = .ok (.aload_n 0, 1) := dgs daJ5_ensureCapacityInternal_d00df_0 dbJ5_ensureCapacityInternal_d00df_0 14 22 rfl
theorem dJ5_ensureCapacityInternal_d00df_23 : decode cJ5_ensureCapacityInternal_d00df 23 = .ok (.iload_n 1, 1) := dgs daJ5_ensureCapacityInternal_d00df_0 dbJ5_ensureCapacityInternal_d00df_0 15 23 rfl
theorem dJ5_ensureCapacityInternal_d00df_24 : decode cJ5_ensureCapacityInternal_d00df 24 = .ok (.invokevirtual 104, 3) := dgs daJ5_ensureCapacityInternal_d00df_0 dbJ5_ensureCapacityInternal_d00df_0 16 24 rfl
theorem dJ5_ensureCapacityInternal_d00df_27 : decode cJ5_ensureCapacityInternal_d00df 27 = .ok (.aload_n 0, 1) := dgs daJ5_ensureCapacityInternal_d00df_0 dbJ5_ensureCapacityInternal_d00df_0 17 27 rfl
theorem dJ5_ensureCapacityInternal_d00df_28 : decode cJ5_ensureCapacityInternal_d00df 28 = .ok (.getfield 22, 3) := dgs daJ5_ensureCapacityInternal_d00df_0 dbJ5_ensureCapacityInternal_d00df_0 18 28 rfl
theorem dJ5_ensureCapacityInternal_d00df_31 : decode cJ5_ensureCapacityInternal_d00df 31 = .ok (.ishl, 1) := dgs daJ5_ensureCapacityInternal_d00df_0 dbJ5_ensureCapacityInternal_d00df_0 19 31 rfl
theorem dJ5_ensureCapacityInternal_d00df_32 : decode cJ5_ensureCapacityInternal_d00df 32 = .ok (.invokestatic 108, 3) := dgs daJ5_ensureCapacityInternal_d00df_0 dbJ5_ensureCapacityInternal_d00df_0 20 32 rfl
theorem dJ5_ensureCapacityInternal_d00df_35 : decode cJ5_ensureCapacityInternal_d00df 35 = .ok (.putfield 15, 3) := dgs daJ5_ensureCapacityInternal_d00df_0 dbJ5_ensureCapacityInternal_d00df_0 21 35 rfl
theorem dJ5_ensureCapacityInternal_d00df_38 : decode cJ5_ensureCapacityInternal_d00df 38 = .ok (.return_, 1) := dgs daJ5_ensureCapacityInternal_d00df_0 dbJ5_ensureCapacityInternal_d00df_0 22 38 rfl
set_option maxRecDepth 20000 in
theorem ggJ5_newCapacity_0f7a4_J8_newLength_cabcc : GoodIn wsJ5_newCapacity_0f7a4 wsJ8_newLength_cabcc := goodIn_q _ [7, 8, 9, 10, 11, 12, 13, 14, 6, 15] rfl (by decide +kernel)
set_option maxRecDepth 20000 in
theorem gJ5_newCapacity_0f7a4_J8_newLength_cabcc : GoodIn wsJ5_newCapacity_0f7a4 (va_wsS RJ5 114 yJ8_newLength_cabcc wsJ8_newLength_cabcc) := goodIn_app (goodIn_q _ [4, 5, 6] rfl (by decide +kernel)) ggJ5_newCapacity_0f7a4_J8_newLength_cabcc
def dsJ5_newCapacity_0f7a4_0 : ByteArray := ⟨#[42, 180, 0, 15, 190, 61, 27, 42, 180, 0, 22, 120, 62, 29, 28, 100, 54, 4, 28, 21, 4, 28, 5, 42, 180, 0, 22, 120, 96, 184, 0, 114, 54, 5, 21, 5, 18, 39, 160, 0, 13, 187, 0, 120, 89, 18, 122, 183, 0, 124, 191, 21, 5, 42, 180, 0, 22, 122, 172]⟩
theorem daJ5_newCapacity_0f7a4_0 : agB cJ5_newCapacity_0f7a4 dsJ5_newCapacity_0f7a4_0 0 := agB_of (n := 59) (by decide +kernel)
def dlJ5_newCapacity_0f7a4_0 : List (Nat × Instr × Nat) := [(0, .aload_n 0, 1), (1, .getfield 15, 3), (4, .arraylength, 1), (5, .istore_n 2, 1), (6, .iload_n 1, 1), (7, .aload_n 0, 1), (8, .getfield 22, 3), (11, .ishl, 1), (12, .istore_n 3, 1), (13, .iload_n 3, 1), (14, .iload_n 2, 1), (15, .isub, 1), (16, .istore 4, 2), (18, .iload_n 2, 1), (19, .iload 4, 2), (21, .iload_n 2, 1), (22, .iconst 2, 1), (23, .aload_n 0, 1), (24, .getfield 22, 3), (27, .ishl, 1), (28, .iadd, 1), (29, .invokestatic 114, 3), (32, .istore 5, 2), (34, .iload 5, 2), (36, .ldc 39, 2), (38, .if_icmp .ne 13, 3), (41, .new 120, 3), (44, .dup, 1), (45, .ldc 122, 2), (47, .invokespecial 124, 3), (50, .athrow, 1), (51, .iload 5, 2), (53, .aload_n 0, 1), (54, .getfield 22, 3), (57, .ishr, 1), (58, .ireturn, 1)]
theorem dbJ5_newCapacity_0f7a4_0 : ∀ z ∈ dlJ5_newCapacity_0f7a4_0, decode dsJ5_newCapacity_0f7a4_0 z.1 = Except.ok z.2 ∧ okop dsJ5_newCapacity_0f7a4_0 z.1 = true := by decide +kernel
theorem dJ5_newCapacity_0f7a4_0 : decode cJ5_newCapacity_0f7a4 0 = .ok (.aload_n 0, 1) := dgs daJ5_newCapacity_0f7a4_0 dbJ5_newCapacity_0f7a4_0 0 0 rfl
theorem dJ5_newCapacity_0f7a4_1 : decode cJ5_newCapacity_0f7a4 1 = .ok (.getfield 15, 3) := dgs daJ5_newCapacity_0f7a4_0 dbJ5_newCapacity_0f7a4_0 1 1 rfl
theorem dJ5_newCapacity_0f7a4_4 : decode cJ5_newCapacity_0f7a4 4 = .ok (.arraylength, 1) := dgs daJ5_newCapacity_0f7a4_0 dbJ5_newCapacity_0f7a4_0 2 4 rfl
theorem dJ5_newCapacity_0f7a4_5 : decode cJ5_newCapacity_0f7a4 5 = .ok (.istore_n 2, 1) := dgs daJ5_newCapacity_0f7a4_0 dbJ5_newCapacity_0f7a4_0 3 5 rfl
theorem dJ5_newCapacity_0f7a4_6 : decode cJ5_newCapacity_0f7a4 6 = .ok (.iload_n 1, 1) := dgs daJ5_newCapacity_0f7a4_0 dbJ5_newCapacity_0f7a4_0 4 6 rfl
theorem dJ5_newCapacity_0f7a4_7 : decode cJ5_newCapacity_0f7a4 7 = .ok (.aload_n 0, 1) := dgs daJ5_newCapacity_0f7a4_0 dbJ5_newCapacity_0f7a4_0 5 7 rfl
theorem dJ5_newCapacity_0f7a4_8 : decode cJ5_newCapacity_0f7a4 8 = .ok (.getfield 22, 3) := dgs daJ5_newCapacity_0f7a4_0 dbJ5_newCapacity_0f7a4_0 6 8 rfl
theorem dJ5_newCapacity_0f7a4_11 : decode cJ5_newCapacity_0f7a4 11 = .ok (.ishl, 1) := dgs daJ5_newCapacity_0f7a4_0 dbJ5_newCapacity_0f7a4_0 7 11 rfl
theorem dJ5_newCapacity_0f7a4_12 : decode cJ5_newCapacity_0f7a4 12 = .ok (.istore_n 3, 1) := dgs daJ5_newCapacity_0f7a4_0 dbJ5_newCapacity_0f7a4_0 8 12 rfl
theorem dJ5_newCapacity_0f7a4_13 : decode cJ5_newCapacity_0f7a4 13 = .ok (.iload_n 3, 1) := dgs daJ5_newCapacity_0f7a4_0 dbJ5_newCapacity_0f7a4_0 9 13 rfl
theorem dJ5_newCapacity_0f7a4_14 : decode cJ5_newCapacity_0f7a4 14 = .ok (.iload_n 2, 1) := dgs daJ5_newCapacity_0f7a4_0 dbJ5_newCapacity_0f7a4_0 10 14 rfl
theorem dJ5_newCapacity_0f7a4_15 : decode cJ5_newCapacity_0f7a4 15 = .ok (.isub, 1) := dgs daJ5_newCapacity_0f7a4_0 dbJ5_newCapacity_0f7a4_0 11 15 rfl
theorem dJ5_newCapacity_0f7a4_16 : decode cJ5_newCapacity_0f7a4 16 = .ok (.istore 4, 2) := dgs daJ5_newCapacity_0f7a4_0 dbJ5_newCapacity_0f7a4_0 12 16 rfl
theorem dJ5_newCapacity_0f7a4_18 : decode cJ5_newCapacity_0f7a4 18 = .ok (.iload_n 2, 1) := dgs daJ5_newCapacity_0f7a4_0 dbJ5_newCapacity_0f7a4_0 13 18 rfl
theorem dJ5_newCapacity_0f7a4_19 : decode cJ5_newCapacity_0f7a4 19 = .ok (.iload 4, 2) := dgs daJ5_newCapacity_0f7a4_0 dbJ5_newCapacity_0f7a4_0 14 19 rfl
theorem dJ5_newCapacity_0f7a4_21 : decode cJ5_newCapacity_0f7a4 21 = .ok (.iload_n 2, 1) := dgs daJ5_newCapacity_0f7a4_0 dbJ5_newCapacity_0f7a4_0 15 21 rfl
theorem dJ5_newCapacity_0f7a4_22 : decode cJ5_newCapacity_0f7a4 22 = .ok (.iconst 2, 1) := dgs daJ5_newCapacity_0f7a4_0 dbJ5_newCapacity_0f7a4_0 16 22 rfl
theorem dJ5_newCapacity_0f7a4_23 : decode cJ5_newCapacity_0f7a4 23 = .ok (.aload_n 0, 1) := dgs daJ5_newCapacity_0f7a4_0 dbJ5_newCapacity_0f7a4_0 17 23 rfl
theorem dJ5_newCapacity_0f7a4_24 : decode cJ5_newCapacity_0f7a4 24 = .ok (.getfield 22, 3) := dgs daJ5_newCapacity_0f7a4_0 dbJ5_newCapacity_0f7a4_0 18 24 rfl
theorem dJ5_newCapacity_0f7a4_27 : decode cJ5_newCapacity_0f7a4 27 = .ok (.ishl, 1) := dgs daJ5_newCapacity_0f7a4_0 dbJ5_newCapacity_0f7a4_0 19 27 rfl
theorem dJ5_newCapacity_0f7a4_28 : decode cJ5_newCapacity_0f7a4 28 = .ok (.iadd, 1) := dgs daJ5_newCapacity_0f7a4_0 dbJ5_newCapacity_0f7a4_0 20 28 rfl
theorem dJ5_newCapacity_0f7a4_29 : decode cJ5_newCapacity_0f7a4 29 = .ok (.invokestatic 114, 3) := dgs daJ5_newCapacity_0f7a4_0 dbJ5_newCapacity_0f7a4_0 21 29 rfl
theorem dJ5_newCapacity_0f7a4_32 : decode cJ5_newCapacity_0f7a4 32 = .ok (.istore 5, 2) := dgs daJ5_newCapacity_0f7a4_0 dbJ5_newCapacity_0f7a4_0 22 32 rfl
theorem dJ5_newCapacity_0f7a4_34 : decode cJ5_newCapacity_0f7a4 34 = .ok (.iload 5, 2) := dgs daJ5_newCapacity_0f7a4_0 dbJ5_newCapacity_0f7a4_0 23 34 rfl
theorem dJ5_newCapacity_0f7a4_36 : decode cJ5_newCapacity_0f7a4 36 = .ok (.ldc 39, 2) := dgs daJ5_newCapacity_0f7a4_0 dbJ5_newCapacity_0f7a4_0 24 36 rfl
theorem dJ5_newCapacity_0f7a4_38 : decode cJ5_newCapacity_0f7a4 38 = .ok (.if_icmp .ne 13, 3) := dgs daJ5_newCapacity_0f7a4_0 dbJ5_newCapacity_0f7a4_0 25 38 rfl
theorem dJ5_newCapacity_0f7a4_41 : decode cJ5_newCapacity_0f7a4 41 = .ok (.new 120, 3) := dgs daJ5_newCapacity_0f7a4_0 dbJ5_newCapacity_0f7a4_0 26 41 rfl
theorem dJ5_newCapacity_0f7a4_44 : decode cJ5_newCapacity_0f7a4 44 = .ok (.dup, 1) := dgs daJ5_newCapacity_0f7a4_0 dbJ5_newCapacity_0f7a4_0 27 44 rfl
theorem dJ5_newCapacity_0f7a4_45 : decode cJ5_newCapacity_0f7a4 45 = .ok (.ldc 122, 2) := dgs daJ5_newCapacity_0f7a4_0 dbJ5_newCapacity_0f7a4_0 28 45 rfl
theorem dJ5_newCapacity_0f7a4_47 : decode cJ5_newCapacity_0f7a4 47 = .ok (.invokespecial 124, 3) := dgs daJ5_newCapacity_0f7a4_0 dbJ5_newCapacity_0f7a4_0 29 47 rfl
theorem dJ5_newCapacity_0f7a4_50 : decode cJ5_newCapacity_0f7a4 50 = .ok (.athrow, 1) := dgs daJ5_newCapacity_0f7a4_0 dbJ5_newCapacity_0f7a4_0 30 50 rfl
theorem dJ5_newCapacity_0f7a4_51 : decode cJ5_newCapacity_0f7a4 51 = .ok (.iload 5, 2) := dgs daJ5_newCapacity_0f7a4_0 dbJ5_newCapacity_0f7a4_0 31 51 rfl
theorem dJ5_newCapacity_0f7a4_53 : decode cJ5_newCapacity_0f7a4 53 = .ok (.aload_n 0, 1) := dgs daJ5_newCapacity_0f7a4_0 dbJ5_newCapacity_0f7a4_0 32 53 rfl
theorem dJ5_newCapacity_0f7a4_54 : decode cJ5_newCapacity_0f7a4 54 = .ok (.getfield 22, 3) := dgs daJ5_newCapacity_0f7a4_0 dbJ5_newCapacity_0f7a4_0 33 54 rfl
theorem dJ5_newCapacity_0f7a4_57 : decode cJ5_newCapacity_0f7a4 57 = .ok (.ishr, 1) := dgs daJ5_newCapacity_0f7a4_0 dbJ5_newCapacity_0f7a4_0 34 57 rfl
theorem dJ5_newCapacity_0f7a4_58 : decode cJ5_newCapacity_0f7a4 58 = .ok (.ireturn, 1) := dgs daJ5_newCapacity_0f7a4_0 dbJ5_newCapacity_0f7a4_0 35 58 rfl
set_option maxRecDepth 20000 in
theorem ggJ5_inflate_da8c8_J5_isLatin1_aae02 : GoodIn wsJ5_inflate_da8c8 wsJ5_isLatin1_aae02 := goodIn_q _ [9, 10, 3, 48, 49, 50, 51] rfl (by decide +kernel)
set_option maxRecDepth 20000 in
theorem gJ5_inflate_da8c8_J5_isLatin1_aae02_u83J4 : GoodIn wsJ5_inflate_da8c8 (va_wsU RJ5 83 RJ4 "java/lang/AbstractStringBuilder" ⟨"java/lang/AbstractStringBuilder", "isLatin1", "()Z"⟩ yJ5_isLatin1_aae02 wsJ5_isLatin1_aae02) := goodIn_app (goodIn_of _ (by decide +kernel)) ggJ5_inflate_da8c8_J5_isLatin1_aae02
set_option maxRecDepth 20000 in
theorem ggJ5_inflate_da8c8_J2_newBytesFor_77867 : GoodIn wsJ5_inflate_da8c8 wsJ2_newBytesFor_77867 := goodIn_q _ [14, 15, 16, 17, 13, 18, 19] rfl (by decide +kernel)
set_option maxRecDepth 20000 in
theorem gJ5_inflate_da8c8_J2_newBytesFor_77867 : GoodIn wsJ5_inflate_da8c8 (va_wsS RJ5 26 yJ2_newBytesFor_77867 wsJ2_newBytesFor_77867) := goodIn_app (goodIn_q _ [11, 12, 13] rfl (by decide +kernel)) ggJ5_inflate_da8c8_J2_newBytesFor_77867
set_option maxRecDepth 20000 in
theorem ggJ5_inflate_da8c8_J1_inflate_0e8fd : GoodIn wsJ5_inflate_da8c8 wsJ1_inflate_0e8fd := goodIn_q _ [23, 24, 25, 13, 26, 27, 28, 29, 30, 31, 32, 33, 34, 35, 36, 37, 38, 39, 40, 41, 42, 43, 44, 45, 46, 47] rfl (by decide +kernel)
set_option maxRecDepth 20000 in
theorem gJ5_inflate_da8c8_J1_inflate_0e8fd : GoodIn wsJ5_inflate_da8c8 (va_wsS RJ5 125 yJ1_inflate_0e8fd wsJ1_inflate_0e8fd) := goodIn_app (goodIn_q _ [20, 21, 22] rfl (by decide +kernel)) ggJ5_inflate_da8c8_J1_inflate_0e8fd
def dsJ5_inflate_da8c8_0 : ByteArray := ⟨#[42, 182, 0, 83, 154, 0, 4, 177, 42, 180, 0, 15, 190, 184, 0, 26, 76, 42, 180, 0, 15, 3, 43, 3, 42, 180, 0, 79, 184, 0, 125, 42, 43, 181, 0, 15, 42, 4, 181, 0, 22, 177]⟩
theorem daJ5_inflate_da8c8_0 : agB cJ5_inflate_da8c8 dsJ5_inflate_da8c8_0 0 := agB_of (n := 42) (by decide +kernel)
def dlJ5_inflate_da8c8_0 : List (Nat × Instr × Nat) := [(0, .aload_n 0, 1), (1, .invokevirtual 83, 3), (4, .ifCond .ne 4, 3), (7, .return_, 1), (8, .aload_n 0, 1), (9, .getfield 15, 3), (12, .arraylength, 1), (13, .invokestatic 26, 3), (16, .astore_n 1, 1), (17, .aload_n 0, 1), (18, .getfield 15, 3), (21, .iconst 0, 1), (22, .aload_n 1, 1), (23, .iconst 0, 1), (24, .aload_n 0, 1), (25, .getfield 79, 3), (28, .invokestatic 125, 3), (31, .aload_n 0, 1), (32, .aload_n 1, 1), (33, .putfield 15, 3), (36, .aload_n 0, 1), (37, .iconst 1, 1), (38, .putfield 22, 3), (41, .return_, 1)]
theorem dbJ5_inflate_da8c8_0 : ∀ z ∈ dlJ5_inflate_da8c8_0, decode dsJ5_inflate_da8c8_0 z.1 = Except.ok z.2 ∧ okop dsJ5_inflate_da8c8_0 z.1 = true := by decide +kernel
theorem dJ5_inflate_da8c8_0 : decode cJ5_inflate_da8c8 0 = .ok (.aload_n 0, 1) := dgs daJ5_inflate_da8c8_0 dbJ5_inflate_da8c8_0 0 0 rfl
theorem dJ5_inflate_da8c8_1 : decode cJ5_inflate_da8c8 1 = .ok (.invokevirtual 83, 3) := dgs daJ5_inflate_da8c8_0 dbJ5_inflate_da8c8_0 1 1 rfl
theorem dJ5_inflate_da8c8_4 : decode cJ5_inflate_da8c8 4 = .ok (.ifCond .ne 4, 3) := dgs daJ5_inflate_da8c8_0 dbJ5_inflate_da8c8_0 2 4 rfl
theorem dJ5_inflate_da8c8_7 : decode cJ5_inflate_da8c8 7 = .ok (.return_, 1) := dgs daJ5_inflate_da8c8_0 dbJ5_inflate_da8c8_0 3 7 rfl
theorem dJ5_inflate_da8c8_8 : decode cJ5_inflate_da8c8 8 = .ok (.aload_n 0, 1) := dgs daJ5_inflate_da8c8_0 dbJ5_inflate_da8c8_0 4 8 rfl
theorem dJ5_inflate_da8c8_9 : decode cJ5_inflate_da8c8 9 = .ok (.getfield 15, 3) := dgs daJ5_inflate_da8c8_0 dbJ5_inflate_da8c8_0 5 9 rfl
theorem dJ5_inflate_da8c8_12 : decode cJ5_inflate_da8c8 12 = .ok (.arraylength, 1) := dgs daJ5_inflate_da8c8_0 dbJ5_inflate_da8c8_0 6 12 rfl
theorem dJ5_inflate_da8c8_13 : decode cJ5_inflate_da8c8 13 = .ok (.invokestatic 26, 3) := dgs daJ5_inflate_da8c8_0 dbJ5_inflate_da8c8_0 7 13 rfl
theorem dJ5_inflate_da8c8_16 : decode cJ5_inflate_da8c8 16 = .ok (.astore_n 1, 1) := dgs daJ5_inflate_da8c8_0 dbJ5_inflate_da8c8_0 8 16 rfl
theorem dJ5_inflate_da8c8_17 : decode cJ5_inflate_da8c8 17 = .ok (.aload_n 0, 1) := dgs daJ5_inflate_da8c8_0 dbJ5_inflate_da8c8_0 9 17 rfl
theorem dJ5_inflate_da8c8_18 : decode cJ5_inflate_da8c8 18 = .ok (.getfield 15, 3) := dgs daJ5_inflate_da8c8_0 dbJ5_inflate_da8c8_0 10 18 rfl
theorem dJ5_inflate_da8c8_21 : decode cJ5_inflate_da8c8 21 = .ok (.iconst 0, 1) := dgs daJ5_inflate_da8c8_0 dbJ5_inflate_da8c8_0 11 21 rfl
theorem dJ5_inflate_da8c8_22 : decode cJ5_inflate_da8c8 22 = .ok (.aload_n 1, 1) := dgs daJ5_inflate_da8c8_0 dbJ5_inflate_da8c8_0 12 22 rfl
theorem dJ5_inflate_da8c8_23 : decode cJ5_inflate_da8c8 23 = .ok (.iconst 0, 1) := dgs daJ5_inflate_da8c8_0 dbJ5_inflate_da8c8_0 13 23 rfl
theorem dJ5_inflate_da8c8_24 : decode cJ5_inflate_da8c8 24 = .ok (.aload_n 0, 1) := dgs daJ5_inflate_da8c8_0 dbJ5_inflate_da8c8_0 14 24 rfl
theorem dJ5_inflate_da8c8_25 : decode cJ5_inflate_da8c8 25 = .ok (.getfield 79, 3) := dgs daJ5_inflate_da8c8_0 dbJ5_inflate_da8c8_0 15 25 rfl
theorem dJ5_inflate_da8c8_28 : decode cJ5_inflate_da8c8 28 = .ok (.invokestatic 125, 3) := dgs daJ5_inflate_da8c8_0 dbJ5_inflate_da8c8_0 16 28 rfl
theorem dJ5_inflate_da8c8_31 : decode cJ5_inflate_da8c8 31 = .ok (.aload_n 0, 1) := dgs daJ5_inflate_da8c8_0 dbJ5_inflate_da8c8_0 17 31 rfl
theorem dJ5_inflate_da8c8_32 : decode cJ5_inflate_da8c8 32 = .ok (.aload_n 1, 1) := dgs daJ5_inflate_da8c8_0 dbJ5_inflate_da8c8_0 18 32 rfl
theorem dJ5_inflate_da8c8_33 : decode cJ5_inflate_da8c8 33 = .ok (.putfield 15, 3) := dgs daJ5_inflate_da8c8_0 dbJ5_inflate_da8c8_0 19 33 rfl
theorem dJ5_inflate_da8c8_36 : decode cJ5_inflate_da8c8 36 = .ok (.aload_n 0, 1) := dgs daJ5_inflate_da8c8_0 dbJ5_inflate_da8c8_0 20 36 rfl
theorem dJ5_inflate_da8c8_37 : decode cJ5_inflate_da8c8 37 = .ok (.iconst 1, 1) := dgs daJ5_inflate_da8c8_0 dbJ5_inflate_da8c8_0 21 37 rfl
theorem dJ5_inflate_da8c8_38 : decode cJ5_inflate_da8c8 38 = .ok (.putfield 22, 3) := dgs daJ5_inflate_da8c8_0 dbJ5_inflate_da8c8_0 22 38 rfl
theorem dJ5_inflate_da8c8_41 : decode cJ5_inflate_da8c8 41 = .ok (.return_, 1) := dgs daJ5_inflate_da8c8_0 dbJ5_inflate_da8c8_0 23 41 rfl
set_option maxRecDepth 20000 in
theorem ggJ5_charAt_5068e_J0_checkIndex_df160 : GoodIn wsJ5_charAt_5068e wsJ0_checkIndex_df160 := goodIn_q _ [11, 12, 13, 14, 15, 16] rfl (by decide +kernel)
set_option maxRecDepth 20000 in
theorem gJ5_charAt_5068e_J0_checkIndex_df160 : GoodIn wsJ5_charAt_5068e (va_wsS RJ5 144 yJ0_checkIndex_df160 wsJ0_checkIndex_df160) := goodIn_app (goodIn_q _ [8, 9, 10] rfl (by decide +kernel)) ggJ5_charAt_5068e_J0_checkIndex_df160
set_option maxRecDepth 20000 in
theorem ggJ5_charAt_5068e_J2_getChar_3b067 : GoodIn wsJ5_charAt_5068e wsJ2_getChar_3b067 := goodIn_q _ [20, 21, 22, 23, 24, 25, 19, 26] rfl (by decide +kernel)
set_option maxRecDepth 20000 in
theorem gJ5_charAt_5068e_J2_getChar_3b067 : GoodIn wsJ5_charAt_5068e (va_wsS RJ5 148 yJ2_getChar_3b067 wsJ2_getChar_3b067) := goodIn_app (goodIn_q _ [17, 18, 19] rfl (by decide +kernel)) ggJ5_charAt_5068e_J2_getChar_3b067
def dsJ5_charAt_5068e_0 : ByteArray := ⟨#[42, 180, 0, 22, 61, 42, 180, 0, 15, 78, 42, 180, 0, 79, 45, 190, 28, 122, 184, 0, 138, 54, 4, 27, 21, 4, 184, 0, 144, 28, 154, 0, 12, 45, 27, 51, 17, 0, 255, 126, 146, 172, 45, 27, 184, 0, 148, 172]⟩
theorem daJ5_charAt_5068e_0 : agB cJ5_charAt_5068e dsJ5_charAt_5068e_0 0 := agB_of (n := 48) (by decide +kernel)
def dlJ5_charAt_5068e_0 : List (Nat × Instr × Nat) := [(0, .aload_n 0, 1), (1, .getfield 22, 3), (4, .istore_n 2, 1), (5, .aload_n 0, 1), (6, .getfield 15, 3), (9, .astore_n 3, 1), (10, .aload_n 0, 1), (11, .getfield 79, 3), (14, .aload_n 3, 1), (15, .arraylength, 1), (16, .iload_n 2, 1), (17, .ishr, 1), (18, .invokestatic 138, 3), (21, .istore 4, 2), (23, .iload_n 1, 1), (24, .iload 4, 2), (26, .invokestatic 144, 3), (29, .iload_n 2, 1), (30, .ifCond .ne 12, 3), (33, .aload_n 3, 1), (34, .iload_n 1, 1), (35, .baload, 1), (36, .sipush 255, 3), (39, .iand, 1), (40, .i2c, 1), (41, .ireturn, 1), (42, .aload_n 3, 1), (43, .iload_n 1, 1), (44, .invokestatic 148, 3), (47, .ireturn, 1)]
theorem dbJ5_charAt_5068e_0 : ∀ z ∈ dlJ5_charAt_5068e_0, decode dsJ5_charAt_5068e_0 z.1 = Except.ok z.2 ∧ okop dsJ5_charAt_5068e_0 z.1 = true := by decide +kernel
theorem dJ5_charAt_5068e_0 : decode cJ5_charAt_5068e 0 = .ok (.aload_n 0, 1) := dgs daJ5_charAt_5068e_0 dbJ5_charAt_5068e_0 0 0 rfl
theorem dJ5_charAt_5068e_1 : decode cJ5_charAt_5068e 1 = .ok (.getfield 22, 3) := dgs daJ5_charAt_5068e_0 dbJ5_charAt_5068e_0 1 1 rfl
theorem dJ5_charAt_5068e_4 : decode cJ5_charAt_5068e 4 = .ok (.istore_n 2, 1) := dgs daJ5_charAt_5068e_0 dbJ5_charAt_5068e_0 2 4 rfl
theorem dJ5_charAt_5068e_5 : decode cJ5_charAt_5068e 5 = .ok (.aload_n 0, 1) := dgs daJ5_charAt_5068e_0 dbJ5_charAt_5068e_0 3 5 rfl
theorem dJ5_charAt_5068e_6 : decode cJ5_charAt_5068e 6 = .ok (.getfield 15, 3) := dgs daJ5_charAt_5068e_0 dbJ5_charAt_5068e_0 4 6 rfl
theorem dJ5_charAt_5068e_9 : decode cJ5_charAt_5068e 9 = .ok (.astore_n 3, 1) := dgs daJ5_charAt_5068e_0 dbJ5_charAt_5068e_0 5 9 rfl
theorem dJ5_charAt_5068e_10 : decode cJ5_charAt_5068e 10 = .ok (.aload_n 0, 1) := dgs daJ5_charAt_5068e_0 dbJ5_charAt_5068e_0 6 10 rfl
theorem dJ5_charAt_5068e_11 : decode cJ5_charAt_5068e 11 = .ok (.getfield 79, 3) := dgs daJ5_charAt_5068e_0 dbJ5_charAt_5068e_0 7 11 rfl
theorem dJ5_charAt_5068e_14 : decode cJ5_charAt_5068e 14 = .ok (.aload_n 3, 1) := dgs daJ5_charAt_5068e_0 dbJ5_charAt_5068e_0 8 14 rfl
theorem dJ5_charAt_5068e_15 : decode cJ5_charAt_5068e 15 = .ok (.arraylength, 1) := dgs daJ5_charAt_5068e_0 dbJ5_charAt_5068e_0 9 15 rfl
theorem dJ5_charAt_5068e_16 : decode cJ5_charAt_5068e 16 = .ok (.iload_n 2, 1) := dgs daJ5_charAt_5068e_0 dbJ5_charAt_5068e_0 10 16 rfl
theorem dJ5_charAt_5068e_17 : decode cJ5_charAt_5068e 17 = .ok (.ishr, 1) := dgs daJ5_charAt_5068e_0 dbJ5_charAt_5068e_0 11 17 rfl
theorem dJ5_charAt_5068e_18 : decode cJ5_charAt_5068e 18 = .ok (.invokestatic 138, 3) := dgs daJ5_charAt_5068e_0 dbJ5_charAt_5068e_0 12 18 rfl
theorem dJ5_charAt_5068e_21 : decode cJ5_charAt_5068e 21 = .ok (.istore 4, 2) := dgs daJ5_charAt_5068e_0 dbJ5_charAt_5068e_0 13 21 rfl
theorem dJ5_charAt_5068e_23 : decode cJ5_charAt_5068e 23 = .ok (.iload_n 1, 1) := dgs daJ5_charAt_5068e_0 dbJ5_charAt_5068e_0 14 23 rfl
theorem dJ5_charAt_5068e_24 : decode cJ5_charAt_5068e 24 = .ok (.iload 4, 2) := dgs daJ5_charAt_5068e_0 dbJ5_charAt_5068e_0 15 24 rfl
theorem dJ5_charAt_5068e_26 : decode cJ5_charAt_5068e 26 = .ok (.invokestatic 144, 3) := dgs daJ5_charAt_5068e_0 dbJ5_charAt_5068e_0 16 26 rfl
theorem dJ5_charAt_5068e_29 : decode cJ5_charAt_5068e 29 = .ok (.iload_n 2, 1) := dgs daJ5_charAt_5068e_0 dbJ5_charAt_5068e_0 17 29 rfl
theorem dJ5_charAt_5068e_30 : decode cJ5_charAt_5068e 30 = .ok (.ifCond .ne 12, 3) := dgs daJ5_charAt_5068e_0 dbJ5_charAt_5068e_0 18 30 rfl
theorem dJ5_charAt_5068e_33 : decode cJ5_charAt_5068e 33 = .ok (.aload_n 3, 1) := dgs daJ5_charAt_5068e_0 dbJ5_charAt_5068e_0 19 33 rfl
theorem dJ5_charAt_5068e_34 : decode cJ5_charAt_5068e 34 = .ok (.iload_n 1, 1) := dgs daJ5_charAt_5068e_0 dbJ5_charAt_5068e_0 20 34 rfl
theorem dJ5_charAt_5068e_35 : decode cJ5_charAt_5068e 35 = .ok (.baload, 1) := dgs daJ5_charAt_5068e_0 dbJ5_charAt_5068e_0 21 35 rfl
theorem dJ5_charAt_5068e_36 : decode cJ5_charAt_5068e 36 = .ok (.sipush 255, 3) := dgs daJ5_charAt_5068e_0 dbJ5_charAt_5068e_0 22 36 rfl
theorem dJ5_charAt_5068e_39 : decode cJ5_charAt_5068e 39 = .ok (.iand, 1) := dgs daJ5_charAt_5068e_0 dbJ5_charAt_5068e_0 23 39 rfl
theorem dJ5_charAt_5068e_40 : decode cJ5_charAt_5068e 40 = .ok (.i2c, 1) := dgs daJ5_charAt_5068e_0 dbJ5_charAt_5068e_0 24 40 rfl
theorem dJ5_charAt_5068e_41 : decode cJ5_charAt_5068e 41 = .ok (.ireturn, 1) := dgs daJ5_charAt_5068e_0 dbJ5_charAt_5068e_0 25 41 rfl
theorem dJ5_charAt_5068e_42 : decode cJ5_charAt_5068e 42 = .ok (.aload_n 3, 1) := dgs daJ5_charAt_5068e_0 dbJ5_charAt_5068e_0 26 42 rfl
theorem dJ5_charAt_5068e_43 : decode cJ5_charAt_5068e 43 = .ok (.iload_n 1, 1) := dgs daJ5_charAt_5068e_0 dbJ5_charAt_5068e_0 27 43 rfl
theorem dJ5_charAt_5068e_44 : decode cJ5_charAt_5068e 44 = .ok (.invokestatic 148, 3) := dgs daJ5_charAt_5068e_0 dbJ5_charAt_5068e_0 28 44 rfl
theorem dJ5_charAt_5068e_47 : decode cJ5_charAt_5068e 47 = .ok (.ireturn, 1) := dgs daJ5_charAt_5068e_0 dbJ5_charAt_5068e_0 29 47 rfl
set_option maxRecDepth 20000 in
theorem ggJ5_append_3fe6f_J5_ensureCapacityInternal_d00df : GoodIn wsJ5_append_3fe6f wsJ5_ensureCapacityInternal_d00df := goodIn_q _ [8, 2, 9, 10, 11, 12, 13, 7, 14, 15, 16, 17, 18, 19, 20, 21, 22, 23, 24, 25, 26, 27, 28, 29, 30, 31, 32, 33, 34, 35, 36, 37, 38, 39, 40, 41, 42, 43, 44, 45, 108, 109, 110, 111] rfl (by decide +kernel)
set_option maxRecDepth 20000 in
theorem gJ5_append_3fe6f_J5_ensureCapacityInternal_d00df_u100J4 : GoodIn wsJ5_append_3fe6f (va_wsU RJ5 100 RJ4 "java/lang/AbstractStringBuilder" ⟨"java/lang/AbstractStringBuilder", "ensureCapacityInternal", "(I)V"⟩ yJ5_ensureCapacityInternal_d00df wsJ5_ensureCapacityInternal_d00df) := goodIn_app (goodIn_of _ (by decide +kernel)) ggJ5_append_3fe6f_J5_ensureCapacityInternal_d00df
set_option maxRecDepth 20000 in
theorem ggJ5_append_3fe6f_J5_isLatin1_aae02 : GoodIn wsJ5_append_3fe6f wsJ5_isLatin1_aae02 := goodIn_q _ [50, 51, 9, 108, 109, 110, 111] rfl (by decide +kernel)
set_option maxRecDepth 20000 in
theorem gJ5_append_3fe6f_J5_isLatin1_aae02_u83J4 : GoodIn wsJ5_append_3fe6f (va_wsU RJ5 83 RJ4 "java/lang/AbstractStringBuilder" ⟨"java/lang/AbstractStringBuilder", "isLatin1", "()Z"⟩ yJ5_isLatin1_aae02 wsJ5_isLatin1_aae02) := goodIn_app (goodIn_of _ (by decide +kernel)) ggJ5_append_3fe6f_J5_isLatin1_aae02
set_option maxRecDepth 20000 in
theorem ggJ5_append_3fe6f_J1_canEncode_fc78d : GoodIn wsJ5_append_3fe6f wsJ1_canEncode_fc78d := goodIn_q _ [55] rfl (by decide +kernel)
set_option maxRecDepth 20000 in
theorem gJ5_append_3fe6f_J1_canEncode_fc78d : GoodIn wsJ5_append_3fe6f (va_wsS RJ5 191 yJ1_canEncode_fc78d wsJ1_canEncode_fc78d) := goodIn_app (goodIn_q _ [52, 53, 54] rfl (by decide +kernel)) ggJ5_append_3fe6f_J1_canEncode_fc78d
set_option maxRecDepth 20000 in
theorem ggJ5_append_3fe6f_J5_inflate_da8c8 : GoodIn wsJ5_append_3fe6f wsJ5_inflate_da8c8 := goodIn_q _ [60, 2, 1, 9, 46, 47, 48, 49, 7, 50, 51, 61, 62, 63, 64, 38, 65, 66, 67, 68, 69, 70, 54, 71, 72, 73, 74, 75, 76, 77, 78, 79, 80, 81, 82, 83, 84, 85, 86, 87, 88, 89, 90, 91, 92, 93, 94, 95, 108, 109, 110, 111] rfl (by decide +kernel)
set_option maxRecDepth 20000 in
theorem gJ5_append_3fe6f_J5_inflate_da8c8_u195J4 : GoodIn wsJ5_append_3fe6f (va_wsU RJ5 195 RJ4 "java/lang/AbstractStringBuilder" ⟨"java/lang/AbstractStringBuilder", "inflate", "()V"⟩ yJ5_inflate_da8c8 wsJ5_inflate_da8c8) := goodIn_app (goodIn_of _ (by decide +kernel)) ggJ5_append_3fe6f_J5_inflate_da8c8
set_option maxRecDepth 20000 in
theorem ggJ5_append_3fe6f_J2_putCharSB_b72d1 : GoodIn wsJ5_append_3fe6f wsJ2_putCharSB_b72d1 := goodIn_q _ [98, 99, 100, 63, 101, 78, 79, 80, 102, 103, 83, 104, 85, 105, 106, 88, 107, 90, 91, 92, 93, 94, 95] rfl (by decide +kernel)
set_option maxRecDepth 20000 in
theorem gJ5_append_3fe6f_J2_putCharSB_b72d1 : GoodIn wsJ5_append_3fe6f (va_wsS RJ5 197 yJ2_putCharSB_b72d1 wsJ2_putCharSB_b72d1) := goodIn_app (goodIn_q _ [96, 97, 63] rfl (by decide +kernel)) ggJ5_append_3fe6f_J2_putCharSB_b72d1
def dsJ5_append_3fe6f_0 : ByteArray := ⟨#[42, 42, 180, 0, 79, 4, 96, 182, 0, 100, 42, 182, 0, 83, 153, 0, 31, 27, 184, 0, 191, 153, 0, 24, 42, 180, 0, 15, 42, 89, 180, 0, 79, 90, 4, 96, 181, 0, 79, 27, 145, 84, 167, 0, 33, 42, 182, 0, 83, 153, 0, 7, 42, 182, 0, 195, 42, 180, 0, 15, 42, 89, 180, 0, 79, 90, 4, 96, 181, 0, 79, 27, 184, 0, 197, 42, 176]⟩
theorem daJ5_append_3fe6f_0 : agB cJ5_append_3fe6f dsJ5_append_3fe6f_0 0 := agB_of (n := 77) (by decide +kernel)
def dlJ5_append_3fe6f_0 : List (Nat × Instr × Nat) := [(0, .aload_n 0, 1), (1, .aload_n 0, 1), (2, .getfield 79, 3), (5, .iconst 1, 1), (6, .iadd, 1), (7, .invokevirtual 100, 3), (10, .aload_n 0, 1), (11, .invokevirtual 83, 3), (14, .ifCond .eq 31, 3), (17, .iload_n 1, 1), (18, .invokestatic 191, 3), (21, .ifCond .eq 24, 3), (24, .aload_n 0, 1), (25, .getfield 15, 3), (28, .aload_n 0, 1), (29, .dup, 1), (30, .getfield 79, 3), (33, .dup_x1, 1), (34, .iconst 1, 1), (35, .iadd, 1), (36, .putfield 79, 3), (39, .iload_n 1, 1), (40, .i2b, 1), (41, .bastore, 1), (42, .goto 33, 3), (45, .aload_n 0, 1), (46, .invokevirtual 83, 3), (49, .ifCond .eq 7, 3), (52, .aload_n 0, 1), (53, .invokevirtual 195, 3), (56, .aload_n 0, 1), (57, .getfield 15, 3), (60, .aload_n 0, 1), (61, .dup, 1), (62, .getfield 79, 3), (65, .dup_x1, 1), (66, .iconst 1, 1), (67, .iadd, 1), (68, .putfield 79, 3), (71, .iload_n 1, 1), (72, .invokestatic 197, 3), (75, .aload_n 0, 1), (76, .areturn, 1)]
theorem dbJ5_append_3fe6f_0 : ∀ z ∈ dlJ5_append_3fe6f_0, decode dsJ5_append_3fe6f_0 z.1 = Except.ok z.2 ∧ okop dsJ5_append_3fe6f_0 z.1 = true := by decide +kernel
theorem dJ5_append_3fe6f_0 : decode cJ5_append_3fe6f 0 = .ok (.aload_n 0, 1) := dgs daJ5_append_3fe6f_0 dbJ5_append_3fe6f_0 0 0 rfl
theorem dJ5_append_3fe6f_1 : decode cJ5_append_3fe6f 1 = .ok (.aload_n 0, 1) := dgs daJ5_append_3fe6f_0 dbJ5_append_3fe6f_0 1 1 rfl
theorem dJ5_append_3fe6f_2 : decode cJ5_append_3fe6f 2 = .ok (.getfield 79, 3) := dgs daJ5_append_3fe6f_0 dbJ5_append_3fe6f_0 2 2 rfl
theorem dJ5_append_3fe6f_5 : decode cJ5_append_3fe6f 5 = .ok (.iconst 1, 1) := dgs daJ5_append_3fe6f_0 dbJ5_append_3fe6f_0 3 5 rfl
theorem dJ5_append_3fe6f_6 : decode cJ5_append_3fe6f 6 = .ok (.iadd, 1) := dgs daJ5_append_3fe6f_0 dbJ5_append_3fe6f_0 4 6 rfl
theorem dJ5_append_3fe6f_7 : decode cJ5_append_3fe6f 7 = .ok (.invokevirtual 100, 3) := dgs daJ5_append_3fe6f_0 dbJ5_append_3fe6f_0 5 7 rfl
theorem dJ5_append_3fe6f_10 : decode cJ5_append_3fe6f 10 = .ok (.aload_n 0, 1) := dgs daJ5_append_3fe6f_0 dbJ5_append_3fe6f_0 6 10 rfl
theorem dJ5_append_3fe6f_11 : decode cJ5_append_3fe6f 11 = .ok (.invokevirtual 83, 3) := dgs daJ5_append_3fe6f_0 dbJ5_append_3fe6f_0 7 11 rfl
theorem dJ5_append_3fe6f_14 : decode cJ5_append_3fe6f 14 = .ok (.ifCond .eq 31, 3) := dgs daJ5_append_3fe6f_0 dbJ5_append_3fe6f_0 8 14 rfl
theorem dJ5_append_3fe6f_17 : decode cJ5_append_3fe6f 17 = .ok (.iload_n 1, 1) := dgs daJ5_append_3fe6f_0 dbJ5_append_3fe6f_0 9 17 rfl
theorem dJ5_append_3fe6f_18 : decode cJ5_append_3fe6f 18 = .ok (.invokestatic 191, 3) := dgs daJ5_append_3fe6f_0 dbJ5_append_3fe6f_0 10 18 rfl
theorem dJ5_append_3fe6f_21 : decode cJ5_append_3fe6f 21 = .ok (.ifCond .eq 24, 3) := dgs daJ5_append_3fe6f_0 dbJ5_append_3fe6f_0 11 21 rfl
theorem dJ5_append_3fe6f_24 : decode cJ5_append_3fe6f 24 = .ok (.aload_n 0, 1) := dgs daJ5_append_3fe6f_0 dbJ5_append_3fe6f_0 12 24 rfl
theorem dJ5_append_3fe6f_25 : decode cJ5_append_3fe6f 25 = .ok (.getfield 15, 3) := dgs daJ5_append_3fe6f_0 dbJ5_append_3fe6f_0 13 25 rfl
theorem dJ5_append_3fe6f_28 : decode cJ5_append_3fe6f 28 = .ok (.aload_n 0, 1) := dgs daJ5_append_3fe6f_0 dbJ5_append_3fe6f_0 14 28 rfl
theorem dJ5_append_3fe6f_29 : decode cJ5_append_3fe6f 29 = .ok (.dup, 1) := dgs daJ5_append_3fe6f_0 dbJ5_append_3fe6f_0 15 29 rfl
theorem dJ5_append_3fe6f_30 : decode cJ5_append_3fe6f 30 = .ok (.getfield 79, 3) := dgs daJ5_append_3fe6f_0 dbJ5_append_3fe6f_0 16 30 rfl
theorem dJ5_append_3fe6f_33 : decode cJ5_append_3fe6f 33 = .ok (.dup_x1, 1) := dgs daJ5_append_3fe6f_0 dbJ5_append_3fe6f_0 17 33 rfl
theorem dJ5_append_3fe6f_34 : decode cJ5_append_3fe6f 34 = .ok (.iconst 1, 1) := dgs daJ5_append_3fe6f_0 dbJ5_append_3fe6f_0 18 34 rfl
theorem dJ5_append_3fe6f_35 : decode cJ5_append_3fe6f 35 = .ok (.iadd, 1) := dgs daJ5_append_3fe6f_0 dbJ5_append_3fe6f_0 19 35 rfl
theorem dJ5_append_3fe6f_36 : decode cJ5_append_3fe6f 36 = .ok (.putfield 79, 3) := dgs daJ5_append_3fe6f_0 dbJ5_append_3fe6f_0 20 36 rfl
theorem dJ5_append_3fe6f_39 : decode cJ5_append_3fe6f 39 = .ok (.iload_n 1, 1) := dgs daJ5_append_3fe6f_0 dbJ5_append_3fe6f_0 21 39 rfl
theorem dJ5_append_3fe6f_40 : decode cJ5_append_3fe6f 40 = .ok (.i2b, 1) := dgs daJ5_append_3fe6f_0 dbJ5_append_3fe6f_0 22 40 rfl
theorem dJ5_append_3fe6f_41 : decode cJ5_append_3fe6f 41 = .ok (.bastore, 1) := dgs daJ5_append_3fe6f_0 dbJ5_append_3fe6f_0 23 41 rfl
theorem dJ5_append_3fe6f_42 : decode cJ5_append_3fe6f 42 = .ok (.goto 33, 3) := dgs daJ5_append_3fe6f_0 dbJ5_append_3fe6f_0 24 42 rfl
theorem dJ5_append_3fe6f_45 : decode cJ5_append_3fe6f 45 = .ok (.aload_n 0, 1) := dgs daJ5_append_3fe6f_0 dbJ5_append_3fe6f_0 25 45 rfl
theorem dJ5_append_3fe6f_46 : decode cJ5_append_3fe6f 46 = .ok (.invokevirtual 83, 3) := dgs daJ5_append_3fe6f_0 dbJ5_append_3fe6f_0 26 46 rfl
theorem dJ5_append_3fe6f_49 : decode cJ5_append_3fe6f 49 = .ok (.ifCond .eq 7, 3) := dgs daJ5_append_3fe6f_0 dbJ5_append_3fe6f_0 27 49 rfl
theorem dJ5_append_3fe6f_52 : decode cJ5_append_3fe6f 52 = .ok (.aload_n 0, 1) := dgs daJ5_append_3fe6f_0 dbJ5_append_3fe6f_0 28 52 rfl
theorem dJ5_append_3fe6f_53 : decode cJ5_append_3fe6f 53 = .ok (.invokevirtual 195, 3) := dgs daJ5_append_3fe6f_0 dbJ5_append_3fe6f_0 29 53 rfl
theorem dJ5_append_3fe6f_56 : decode cJ5_append_3fe6f 56 = .ok (.aload_n 0, 1) := dgs daJ5_append_3fe6f_0 dbJ5_append_3fe6f_0 30 56 rfl
theorem dJ5_append_3fe6f_57 : decode cJ5_append_3fe6f 57 = .ok (.getfield 15, 3) := dgs daJ5_append_3fe6f_0 dbJ5_append_3fe6f_0 31 57 rfl
theorem dJ5_append_3fe6f_60 : decode cJ5_append_3fe6f 60 = .ok (.aload_n 0, 1) := dgs daJ5_append_3fe6f_0 dbJ5_append_3fe6f_0 32 60 rfl
theorem dJ5_append_3fe6f_61 : decode cJ5_append_3fe6f 61 = .ok (.dup, 1) := dgs daJ5_append_3fe6f_0 dbJ5_append_3fe6f_0 33 61 rfl
theorem dJ5_append_3fe6f_62 : decode cJ5_append_3fe6f 62 = .ok (.getfield 79, 3) := dgs daJ5_append_3fe6f_0 dbJ5_append_3fe6f_0 34 62 rfl
theorem dJ5_append_3fe6f_65 : decode cJ5_append_3fe6f 65 = .ok (.dup_x1, 1) := dgs daJ5_append_3fe6f_0 dbJ5_append_3fe6f_0 35 65 rfl
theorem dJ5_append_3fe6f_66 : decode cJ5_append_3fe6f 66 = .ok (.iconst 1, 1) := dgs daJ5_append_3fe6f_0 dbJ5_append_3fe6f_0 36 66 rfl
theorem dJ5_append_3fe6f_67 : decode cJ5_append_3fe6f 67 = .ok (.iadd, 1) := dgs daJ5_append_3fe6f_0 dbJ5_append_3fe6f_0 37 67 rfl
theorem dJ5_append_3fe6f_68 : decode cJ5_append_3fe6f 68 = .ok (.putfield 79, 3) := dgs daJ5_append_3fe6f_0 dbJ5_append_3fe6f_0 38 68 rfl
theorem dJ5_append_3fe6f_71 : decode cJ5_append_3fe6f 71 = .ok (.iload_n 1, 1) := dgs daJ5_append_3fe6f_0 dbJ5_append_3fe6f_0 39 71 rfl
theorem dJ5_append_3fe6f_72 : decode cJ5_append_3fe6f 72 = .ok (.invokestatic 197, 3) := dgs daJ5_append_3fe6f_0 dbJ5_append_3fe6f_0 40 72 rfl
theorem dJ5_append_3fe6f_75 : decode cJ5_append_3fe6f 75 = .ok (.aload_n 0, 1) := dgs daJ5_append_3fe6f_0 dbJ5_append_3fe6f_0 41 75 rfl
theorem dJ5_append_3fe6f_76 : decode cJ5_append_3fe6f 76 = .ok (.areturn, 1) := dgs daJ5_append_3fe6f_0 dbJ5_append_3fe6f_0 42 76 rfl
def dsJ5_isLatin1_aae02_0 : ByteArray := ⟨#[178, 0, 18, 153, 0, 14, 42, 180, 0, 22, 154, 0, 7, 4, 167, 0, 4, 3, 172]⟩
theorem daJ5_isLatin1_aae02_0 : agB cJ5_isLatin1_aae02 dsJ5_isLatin1_aae02_0 0 := agB_of (n := 19) (by decide +kernel)
def dlJ5_isLatin1_aae02_0 : List (Nat × Instr × Nat) := [(0, .getstatic 18, 3), (3, .ifCond .eq 14, 3), (6, .aload_n 0, 1), (7, .getfield 22, 3), (10, .ifCond .ne 7, 3), (13, .iconst 1, 1), (14, .goto 4, 3), (17, .iconst 0, 1), (18, .ireturn, 1)]
theorem dbJ5_isLatin1_aae02_0 : ∀ z ∈ dlJ5_isLatin1_aae02_0, decode dsJ5_isLatin1_aae02_0 z.1 = Except.ok z.2 ∧ okop dsJ5_isLatin1_aae02_0 z.1 = true := by decide +kernel
theorem dJ5_isLatin1_aae02_0 : decode cJ5_isLatin1_aae02 0 = .ok (.getstatic 18, 3) := dgs daJ5_isLatin1_aae02_0 dbJ5_isLatin1_aae02_0 0 0 rfl
theorem dJ5_isLatin1_aae02_3 : decode cJ5_isLatin1_aae02 3 = .ok (.ifCond .eq 14, 3) := dgs daJ5_isLatin1_aae02_0 dbJ5_isLatin1_aae02_0 1 3 rfl
theorem dJ5_isLatin1_aae02_6 : decode cJ5_isLatin1_aae02 6 = .ok (.aload_n 0, 1) := dgs daJ5_isLatin1_aae02_0 dbJ5_isLatin1_aae02_0 2 6 rfl
theorem dJ5_isLatin1_aae02_7 : decode cJ5_isLatin1_aae02 7 = .ok (.getfield 22, 3) := dgs daJ5_isLatin1_aae02_0 dbJ5_isLatin1_aae02_0 3 7 rfl
theorem dJ5_isLatin1_aae02_10 : decode cJ5_isLatin1_aae02 10 = .ok (.ifCond .ne 7, 3) := dgs daJ5_isLatin1_aae02_0 dbJ5_isLatin1_aae02_0 4 10 rfl
theorem dJ5_isLatin1_aae02_13 : decode cJ5_isLatin1_aae02 13 = .ok (.iconst 1, 1) := dgs daJ5_isLatin1_aae02_0 dbJ5_isLatin1_aae02_0 5 13 rfl
theorem dJ5_isLatin1_aae02_14 : decode cJ5_isLatin1_aae02 14 = .ok (.goto 4, 3) := dgs daJ5_isLatin1_aae02_0 dbJ5_isLatin1_aae02_0 6 14 rfl
theorem dJ5_isLatin1_aae02_17 : decode cJ5_isLatin1_aae02 17 = .ok (.iconst 0, 1) := dgs daJ5_isLatin1_aae02_0 dbJ5_isLatin1_aae02_0 7 17 rfl
theorem dJ5_isLatin1_aae02_18 : decode cJ5_isLatin1_aae02 18 = .ok (.ireturn, 1) := dgs daJ5_isLatin1_aae02_0 dbJ5_isLatin1_aae02_0 8 18 rfl
def dsJx00060_init_a7421_0 : ByteArray := ⟨#[42, 43, 183, 0, 7, 177]⟩
theorem daJx00060_init_a7421_0 : agB cJx00060_init_a7421 dsJx00060_init_a7421_0 0 := agB_of (n := 6) (by decide +kernel)
def dlJx00060_init_a7421_0 : List (Nat × Instr × Nat) := [(0, .aload_n 0, 1), (1, .aload_n 1, 1), (2, .invokespecial 7, 3), (5, .return_, 1)]
theorem dbJx00060_init_a7421_0 : ∀ z ∈ dlJx00060_init_a7421_0, decode dsJx00060_init_a7421_0 z.1 = Except.ok z.2 ∧ okop dsJx00060_init_a7421_0 z.1 = true := by decide +kernel
theorem dJx00060_init_a7421_0 : decode cJx00060_init_a7421 0 = .ok (.aload_n 0, 1) := dgs daJx00060_init_a7421_0 dbJx00060_init_a7421_0 0 0 rfl
theorem dJx00060_init_a7421_1 : decode cJx00060_init_a7421 1 = .ok (.aload_n 1, 1) := dgs daJx00060_init_a7421_0 dbJx00060_init_a7421_0 1 1 rfl
theorem dJx00060_init_a7421_2 : decode cJx00060_init_a7421 2 = .ok (.invokespecial 7, 3) := dgs daJx00060_init_a7421_0 dbJx00060_init_a7421_0 2 2 rfl
theorem dJx00060_init_a7421_5 : decode cJx00060_init_a7421 5 = .ok (.return_, 1) := dgs daJx00060_init_a7421_0 dbJx00060_init_a7421_0 3 5 rfl
def dsJ9_floorMod_7cf53_0 : ByteArray := ⟨#[26, 27, 112]⟩
theorem daJ9_floorMod_7cf53_0 : agB cJ9_floorMod_7cf53 dsJ9_floorMod_7cf53_0 0 := agB_of (n := 3) (by decide +kernel)
def dlJ9_floorMod_7cf53_0 : List (Nat × Instr × Nat) := [(0, .iload_n 0, 1), (1, .iload_n 1, 1), (2, .irem, 1)]
theorem dbJ9_floorMod_7cf53_0 : ∀ z ∈ dlJ9_floorMod_7cf53_0, decode dsJ9_floorMod_7cf53_0 z.1 = Except.ok z.2 ∧ okop dsJ9_floorMod_7cf53_0 z.1 = true := by decide +kernel
theorem dJ9_floorMod_7cf53_0 : decode cJ9_floorMod_7cf53 0 = .ok (.iload_n 0, 1) := dgs daJ9_floorMod_7cf53_0 dbJ9_floorMod_7cf53_0 0 0 rfl
theorem dJ9_floorMod_7cf53_1 : decode cJ9_floorMod_7cf53 1 = .ok (.iload_n 1, 1) := dgs daJ9_floorMod_7cf53_0 dbJ9_floorMod_7cf53_0 1 1 rfl
theorem dJ9_floorMod_7cf53_2 : decode cJ9_floorMod_7cf53 2 = .ok (.irem, 1) := dgs daJ9_floorMod_7cf53_0 dbJ9_floorMod_7cf53_0 2 2 rfl
