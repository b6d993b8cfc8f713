def dsX2_bearsTorque_68 : ByteArray := ⟨#[109, 184, 0, 72, 55, 8, 42, 180, 0, 116, 154, 0, 27, 22, 6, 20, 0, 149, 148, 157, 0, 16, 22, 8, 20, 0, 151, 148, 157, 0, 7, 4, 167, 0, 4, 3, 172, 42, 180, 0, 116, 42, 180, 0, 18, 16, 6, 108, 162, 0, 27, 22, 6, 20, 0, 153, 148, 157, 0, 16, 22, 8, 20, 0, 155, 148, 157, 0, 7, 4, 167, 0, 4, 3, 172, 22, 6, 20, 0, 157, 148, 157, 0, 16, 22, 8, 20, 0, 159, 148, 157, 0, 7, 4, 167, 0, 4, 3, 172]⟩
theorem daX2_bearsTorque_68 : agB cX2_bearsTorque dsX2_bearsTorque_68 68 := agB_of (n := 99) (by decide +kernel)
def dlX2_bearsTorque_68 : List (Nat × Instr × Nat) := [(0, .ldiv, 1), (1, .invokestatic 72, 3), (4, .lstore 8, 2), (6, .aload_n 0, 1), (7, .getfield 116, 3), (10, .ifCond .ne 27, 3), (13, .lload 6, 2), (15, .ldc2_w 149, 3), (18, .lcmp, 1), (19, .ifCond .gt 16, 3), (22, .lload 8, 2), (24, .ldc2_w 151, 3), (27, .lcmp, 1), (28, .ifCond .gt 7, 3), (31, .iconst 1, 1), (32, .goto 4, 3), (35, .iconst 0, 1), (36, .ireturn, 1), (37, .aload_n 0, 1), (38, .getfield 116, 3), (41, .aload_n 0, 1), (42, .getfield 18, 3), (45, .bipush 6, 2), (47, .idiv, 1), (48, .if_icmp .ge 27, 3), (51, .lload 6, 2), (53, .ldc2_w 153, 3), (56, .lcmp, 1), (57, .ifCond .gt 16, 3), (60, .lload 8, 2), (62, .ldc2_w 155, 3), (65, .lcmp, 1), (66, .ifCond .gt 7, 3), (69, .iconst 1, 1), (70, .goto 4, 3), (73, .iconst 0, 1), (74, .ireturn, 1), (75, .lload 6, 2), (77, .ldc2_w 157, 3), (80, .lcmp, 1), (81, .ifCond .gt 16, 3), (84, .lload 8, 2), (86, .ldc2_w 159, 3), (89, .lcmp, 1), (90, .ifCond .gt 7, 3), (93, .iconst 1, 1), (94, .goto 4, 3), (97, .iconst 0, 1), (98, .ireturn, 1)]
theorem dbX2_bearsTorque_68 : ∀ z ∈ dlX2_bearsTorque_68, decode dsX2_bearsTorque_68 z.1 = Except.ok z.2 ∧ okop dsX2_bearsTorque_68 z.1 = true := by decide +kernel
theorem dX2_bearsTorque_68 : decode cX2_bearsTorque 68 = .ok (.ldiv, 1) := dgs daX2_bearsTorque_68 dbX2_bearsTorque_68 0 0 rfl
theorem dX2_bearsTorque_69 : decode cX2_bearsTorque 69 = .ok (.invokestatic 72, 3) := dgs daX2_bearsTorque_68 dbX2_bearsTorque_68 1 1 rfl
theorem dX2_bearsTorque_72 : decode cX2_bearsTorque 72 = .ok (.lstore 8, 2) := dgs daX2_bearsTorque_68 dbX2_bearsTorque_68 2 4 rfl
theorem dX2_bearsTorque_74 : decode cX2_bearsTorque 74 = .ok (.aload_n 0, 1) := dgs daX2_bearsTorque_68 dbX2_bearsTorque_68 3 6 rfl
theorem dX2_bearsTorque_75 : decode cX2_bearsTorque 75 = .ok (.getfield 116, 3) := dgs daX2_bearsTorque_68 dbX2_bearsTorque_68 4 7 rfl
theorem dX2_bearsTorque_78 : decode cX2_bearsTorque 78 = .ok (.ifCond .ne 27, 3) := dgs daX2_bearsTorque_68 dbX2_bearsTorque_68 5 10 rfl
theorem dX2_bearsTorque_81 : decode cX2_bearsTorque 81 = .ok (.lload 6, 2) := dgs daX2_bearsTorque_68 dbX2_bearsTorque_68 6 13 rfl
theorem dX2_bearsTorque_83 : decode cX2_bearsTorque 83 = .ok (.ldc2_w 149, 3) := dgs daX2_bearsTorque_68 dbX2_bearsTorque_68 7 15 rfl
theorem dX2_bearsTorque_86 : decode cX2_bearsTorque 86 = .ok (.lcmp, 1) := dgs daX2_bearsTorque_68 dbX2_bearsTorque_68 8 18 rfl
theorem dX2_bearsTorque_87 : decode cX2_bearsTorque 87 = .ok (.ifCond .gt 16, 3) := dgs daX2_bearsTorque_68 dbX2_bearsTorque_68 9 19 rfl
theorem dX2_bearsTorque_90 : decode cX2_bearsTorque 90 = .ok (.lload 8, 2) := dgs daX2_bearsTorque_68 dbX2_bearsTorque_68 10 22 rfl
theorem dX2_bearsTorque_92 : decode cX2_bearsTorque 92 = .ok (.ldc2_w 151, 3) := dgs daX2_bearsTorque_68 dbX2_bearsTorque_68 11 24 rfl
theorem dX2_bearsTorque_95 : decode cX2_bearsTorque 95 = .ok (.lcmp, 1) := dgs daX2_bearsTorque_68 dbX2_bearsTorque_68 12 27 rfl
theorem dX2_bearsTorque_96 : decode cX2_bearsTorque 96 = .ok (.ifCond .gt 7, 3) := dgs daX2_bearsTorque_68 dbX2_bearsTorque_68 13 28 rfl
theorem dX2_bearsTorque_99 : decode cX2_bearsTorque 99 = .ok (.iconst 1, 1) := dgs daX2_bearsTorque_68 dbX2_bearsTorque_68 14 31 rfl
theorem dX2_bearsTorque_100 : decode cX2_bearsTorque 100 = .ok (.goto 4, 3) := dgs daX2_bearsTorque_68 dbX2_bearsTorque_68 15 32 rfl
theorem dX2_bearsTorque_103 : decode cX2_bearsTorque 103 = .ok (.iconst 0, 1) := dgs daX2_bearsTorque_68 dbX2_bearsTorque_68 16 35 rfl
theorem dX2_bearsTorque_104 : decode cX2_bearsTorque 104 = .ok (.ireturn, 1) := dgs daX2_bearsTorque_68 dbX2_bearsTorque_68 17 36 rfl
theorem dX2_bearsTorque_105 : decode cX2_bearsTorque 105 = .ok (.aload_n 0, 1) := dgs daX2_bearsTorque_68 dbX2_bearsTorque_68 18 37 rfl
theorem dX2_bearsTorque_106 : decode cX2_bearsTorque 106 = .ok (.getfield 116, 3) := dgs daX2_bearsTorque_68 dbX2_bearsTorque_68 19 38 rfl
theorem dX2_bearsTorque_109 : decode cX2_bearsTorque 109 = .ok (.aload_n 0, 1) := dgs daX2_bearsTorque_68 dbX2_bearsTorque_68 20 41 rfl
theorem dX2_bearsTorque_110 : decode cX2_bearsTorque 110 = .ok (.getfield 18, 3) := dgs daX2_bearsTorque_68 dbX2_bearsTorque_68 21 42 rfl
theorem dX2_bearsTorque_113 : decode cX2_bearsTorque 113 = .ok (.bipush 6, 2) := dgs daX2_bearsTorque_68 dbX2_bearsTorque_68 22 45 rfl
theorem dX2_bearsTorque_115 : decode cX2_bearsTorque 115 = .ok (.idiv, 1) := dgs daX2_bearsTorque_68 dbX2_bearsTorque_68 23 47 rfl
theorem dX2_bearsTorque_116 : decode cX2_bearsTorque 116 = .ok (.if_icmp .ge 27, 3) := dgs daX2_bearsTorque_68 dbX2_bearsTorque_68 24 48 rfl
theorem dX2_bearsTorque_119 : decode cX2_bearsTorque 119 = .ok (.lload 6, 2) := dgs daX2_bearsTorque_68 dbX2_bearsTorque_68 25 51 rfl
theorem dX2_bearsTorque_121 : decode cX2_bearsTorque 121 = .ok (.ldc2_w 153, 3) := dgs daX2_bearsTorque_68 dbX2_bearsTorque_68 26 53 rfl
theorem dX2_bearsTorque_124 : decode cX2_bearsTorque 124 = .ok (.lcmp, 1) := dgs daX2_bearsTorque_68 dbX2_bearsTorque_68 27 56 rfl
theorem dX2_bearsTorque_125 : decode cX2_bearsTorque 125 = .ok (.ifCond .gt 16, 3) := dgs daX2_bearsTorque_68 dbX2_bearsTorque_68 28 57 rfl
theorem dX2_bearsTorque_128 : decode cX2_bearsTorque 128 = .ok (.lload 8, 2) := dgs daX2_bearsTorque_68 dbX2_bearsTorque_68 29 60 rfl
theorem dX2_bearsTorque_130 : decode cX2_bearsTorque 130 = .ok (.ldc2_w 155, 3) := dgs daX2_bearsTorque_68 dbX2_bearsTorque_68 30 62 rfl
theorem dX2_bearsTorque_133 : decode cX2_bearsTorque 133 = .ok (.lcmp, 1) := dgs daX2_bearsTorque_68 dbX2_bearsTorque_68 31 65 rfl
theorem dX2_bearsTorque_134 : decode cX2_bearsTorque 134 = .ok (.ifCond .gt 7, 3) := dgs daX2_bearsTorque_68 dbX2_bearsTorque_68 32 66 rfl
theorem dX2_bearsTorque_137 : decode cX2_bearsTorque 137 = .ok (.iconst 1, 1) := dgs daX2_bearsTorque_68 dbX2_bearsTorque_68 33 69 rfl
theorem dX2_bearsTorque_138 : decode cX2_bearsTorque 138 = .ok (.goto 4, 3) := dgs daX2_bearsTorque_68 dbX2_bearsTorque_68 34 70 rfl
theorem dX2_bearsTorque_141 : decode cX2_bearsTorque 141 = .ok (.iconst 0, 1) := dgs daX2_bearsTorque_68 dbX2_bearsTorque_68 35 73 rfl
theorem dX2_bearsTorque_142 : decode cX2_bearsTorque 142 = .ok (.ireturn, 1) := dgs daX2_bearsTorque_68 dbX2_bearsTorque_68 36 74 rfl
theorem dX2_bearsTorque_143 : decode cX2_bearsTorque 143 = .ok (.lload 6, 2) := dgs daX2_bearsTorque_68 dbX2_bearsTorque_68 37 75 rfl
theorem dX2_bearsTorque_145 : decode cX2_bearsTorque 145 = .ok (.ldc2_w 157, 3) := dgs daX2_bearsTorque_68 dbX2_bearsTorque_68 38 77 rfl
theorem dX2_bearsTorque_148 : decode cX2_bearsTorque 148 = .ok (.lcmp, 1) := dgs daX2_bearsTorque_68 dbX2_bearsTorque_68 39 80 rfl
theorem dX2_bearsTorque_149 : decode cX2_bearsTorque 149 = .ok (.ifCond .gt 16, 3) := dgs daX2_bearsTorque_68 dbX2_bearsTorque_68 40 81 rfl
theorem dX2_bearsTorque_152 : decode cX2_bearsTorque 152 = .ok (.lload 8, 2) := dgs daX2_bearsTorque_68 dbX2_bearsTorque_68 41 84 rfl
theorem dX2_bearsTorque_154 : decode cX2_bearsTorque 154 = .ok (.ldc2_w 159, 3) := dgs daX2_bearsTorque_68 dbX2_bearsTorque_68 42 86 rfl
theorem dX2_bearsTorque_157 : decode cX2_bearsTorque 157 = .ok (.lcmp, 1) := dgs daX2_bearsTorque_68 dbX2_bearsTorque_68 43 89 rfl
theorem dX2_bearsTorque_158 : decode cX2_bearsTorque 158 = .ok (.ifCond .gt 7, 3) := dgs daX2_bearsTorque_68 dbX2_bearsTorque_68 44 90 rfl
theorem dX2_bearsTorque_161 : decode cX2_bearsTorque 161 = .ok (.iconst 1, 1) := dgs daX2_bearsTorque_68 dbX2_bearsTorque_68 45 93 rfl
theorem dX2_bearsTorque_162 : decode cX2_bearsTorque 162 = .ok (.goto 4, 3) := dgs daX2_bearsTorque_68 dbX2_bearsTorque_68 46 94 rfl
theorem dX2_bearsTorque_165 : decode cX2_bearsTorque 165 = .ok (.iconst 0, 1) := dgs daX2_bearsTorque_68 dbX2_bearsTorque_68 47 97 rfl
theorem dX2_bearsTorque_166 : decode cX2_bearsTorque 166 = .ok (.ireturn, 1) := dgs daX2_bearsTorque_68 dbX2_bearsTorque_68 48 98 rfl
set_option maxRecDepth 20000 in
theorem ggX2_lifeUnder_X2_borneTorque : GoodIn wsX2_lifeUnder wsX2_borneTorque := goodIn_ca (goodIn_q _ [7, 8, 9, 10, 11, 6, 12, 13, 14, 2, 15, 16, 17, 18, 19, 20, 21, 22, 23, 24, 25, 26, 27, 28, 29, 30, 31, 32, 33, 34, 35, 36, 37, 38, 39, 40, 41, 42, 43, 44, 45, 46, 47, 48, 49, 50, 51] rfl (by decide +kernel)) (goodIn_sub (fun _ h => List.mem_cons_of_mem _ (List.mem_append_right _ h)) (by decide +kernel))
set_option maxRecDepth 20000 in
theorem gX2_lifeUnder_X2_borneTorque : GoodIn wsX2_lifeUnder (wsV RX2 161 RX2 yX2_borneTorque wsX2_borneTorque) := goodIn_app (goodIn_q _ [3, 4, 5, 6] rfl (by decide +kernel)) ggX2_lifeUnder_X2_borneTorque
def dsX2_lifeUnder_0 : ByteArray := ⟨#[42, 182, 0, 161, 133, 66, 31, 33, 148, 157, 0, 7, 20, 0, 164, 173, 20, 0, 86, 55, 5, 3, 54, 7, 21, 7, 16, 6, 162, 0, 17, 22, 5, 33, 105, 31, 109, 55, 5, 132, 7, 1, 167, 255, 238, 22, 5, 173]⟩
theorem daX2_lifeUnder_0 : agB cX2_lifeUnder dsX2_lifeUnder_0 0 := agB_of (n := 48) (by decide +kernel)
def dlX2_lifeUnder_0 : List (Nat × Instr × Nat) := [(0, .aload_n 0, 1), (1, .invokevirtual 161, 3), (4, .i2l, 1), (5, .lstore_n 3, 1), (6, .lload_n 1, 1), (7, .lload_n 3, 1), (8, .lcmp, 1), (9, .ifCond .gt 7, 3), (12, .ldc2_w 164, 3), (15, .lreturn, 1), (16, .ldc2_w 86, 3), (19, .lstore 5, 2), (21, .iconst 0, 1), (22, .istore 7, 2), (24, .iload 7, 2), (26, .bipush 6, 2), (28, .if_icmp .ge 17, 3), (31, .lload 5, 2), (33, .lload_n 3, 1), (34, .lmul, 1), (35, .lload_n 1, 1), (36, .ldiv, 1), (37, .lstore 5, 2), (39, .iinc 7 1, 3), (42, .goto (-18), 3), (45, .lload 5, 2), (47, .lreturn, 1)]
theorem dbX2_lifeUnder_0 : ∀ z ∈ dlX2_lifeUnder_0, decode dsX2_lifeUnder_0 z.1 = Except.ok z.2 ∧ okop dsX2_lifeUnder_0 z.1 = true := by decide +kernel
theorem dX2_lifeUnder_0 : decode cX2_lifeUnder 0 = .ok (.aload_n 0, 1) := dgs daX2_lifeUnder_0 dbX2_lifeUnder_0 0 0 rfl
theorem dX2_lifeUnder_1 : decode cX2_lifeUnder 1 = .ok (.invokevirtual 161, 3) := dgs daX2_lifeUnder_0 dbX2_lifeUnder_0 1 1 rfl
theorem dX2_lifeUnder_4 : decode cX2_lifeUnder 4 = .ok (.i2l, 1) := dgs daX2_lifeUnder_0 dbX2_lifeUnder_0 2 4 rfl
theorem dX2_lifeUnder_5 : decode cX2_lifeUnder 5 = .ok (.lstore_n 3, 1) := dgs daX2_lifeUnder_0 dbX2_lifeUnder_0 3 5 rfl
theorem dX2_lifeUnder_6 : decode cX2_lifeUnder 6 = .ok (.lload_n 1, 1) := dgs daX2_lifeUnder_0 dbX2_lifeUnder_0 4 6 rfl
theorem dX2_lifeUnder_7 : decode cX2_lifeUnder 7 = .ok (.lload_n 3, 1) := dgs daX2_lifeUnder_0 dbX2_lifeUnder_0 5 7 rfl
theorem dX2_lifeUnder_8 : decode cX2_lifeUnder 8 = .ok (.lcmp, 1) := dgs daX2_lifeUnder_0 dbX2_lifeUnder_0 6 8 rfl
theorem dX2_lifeUnder_9 : decode cX2_lifeUnder 9 = .ok (.ifCond .gt 7, 3) := dgs daX2_lifeUnder_0 dbX2_lifeUnder_0 7 9 rfl
theorem dX2_lifeUnder_12 : decode cX2_lifeUnder 12 = .ok (.ldc2_w 164, 3) := dgs daX2_lifeUnder_0 dbX2_lifeUnder_0 8 12 rfl
theorem dX2_lifeUnder_15 : decode cX2_lifeUnder 15 = .ok (.lreturn, 1) := dgs daX2_lifeUnder_0 dbX2_lifeUnder_0 9 15 rfl
theorem dX2_lifeUnder_16 : decode cX2_lifeUnder 16 = .ok (.ldc2_w 86, 3) := dgs daX2_lifeUnder_0 dbX2_lifeUnder_0 10 16 rfl
theorem dX2_lifeUnder_19 : decode cX2_lifeUnder 19 = .ok (.lstore 5, 2) := dgs daX2_lifeUnder_0 dbX2_lifeUnder_0 11 19 rfl
theorem dX2_lifeUnder_21 : decode cX2_lifeUnder 21 = .ok (.iconst 0, 1) := dgs daX2_lifeUnder_0 dbX2_lifeUnder_0 12 21 rfl
theorem dX2_lifeUnder_22 : decode cX2_lifeUnder 22 = .ok (.istore 7, 2) := dgs daX2_lifeUnder_0 dbX2_lifeUnder_0 13 22 rfl
theorem dX2_lifeUnder_24 : decode cX2_lifeUnder 24 = .ok (.iload 7, 2) := dgs daX2_lifeUnder_0 dbX2_lifeUnder_0 14 24 rfl
theorem dX2_lifeUnder_26 : decode cX2_lifeUnder 26 = .ok (.bipush 6, 2) := dgs daX2_lifeUnder_0 dbX2_lifeUnder_0 15 26 rfl
theorem dX2_lifeUnder_28 : decode cX2_lifeUnder 28 = .ok (.if_icmp .ge 17, 3) := dgs daX2_lifeUnder_0 dbX2_lifeUnder_0 16 28 rfl
theorem dX2_lifeUnder_31 : decode cX2_lifeUnder 31 = .ok (.lload 5, 2) := dgs daX2_lifeUnder_0 dbX2_lifeUnder_0 17 31 rfl
theorem dX2_lifeUnder_33 : decode cX2_lifeUnder 33 = .ok (.lload_n 3, 1) := dgs daX2_lifeUnder_0 dbX2_lifeUnder_0 18 33 rfl
theorem dX2_lifeUnder_34 : decode cX2_lifeUnder 34 = .ok (.lmul, 1) := dgs daX2_lifeUnder_0 dbX2_lifeUnder_0 19 34 rfl
theorem dX2_lifeUnder_35 : decode cX2_lifeUnder 35 = .ok (.lload_n 1, 1) := dgs daX2_lifeUnder_0 dbX2_lifeUnder_0 20 35 rfl
theorem dX2_lifeUnder_36 : decode cX2_lifeUnder 36 = .ok (.ldiv, 1) := dgs daX2_lifeUnder_0 dbX2_lifeUnder_0 21 36 rfl
theorem dX2_lifeUnder_37 : decode cX2_lifeUnder 37 = .ok (.lstore 5, 2) := dgs daX2_lifeUnder_0 dbX2_lifeUnder_0 22 37 rfl
theorem dX2_lifeUnder_39 : decode cX2_lifeUnder 39 = .ok (.iinc 7 1, 3) := dgs daX2_lifeUnder_0 dbX2_lifeUnder_0 23 39 rfl
theorem dX2_lifeUnder_42 : decode cX2_lifeUnder 42 = .ok (.goto (-18), 3) := dgs daX2_lifeUnder_0 dbX2_lifeUnder_0 24 42 rfl
theorem dX2_lifeUnder_45 : decode cX2_lifeUnder 45 = .ok (.lload 5, 2) := dgs daX2_lifeUnder_0 dbX2_lifeUnder_0 25 45 rfl
theorem dX2_lifeUnder_47 : decode cX2_lifeUnder 47 = .ok (.lreturn, 1) := dgs daX2_lifeUnder_0 dbX2_lifeUnder_0 26 47 rfl
set_option maxRecDepth 20000 in
theorem ggX2_turn_X2_lifeUnder : GoodIn wsX2_turn wsX2_lifeUnder := goodIn_ca (goodIn_q _ [7, 8, 2, 9, 10, 11, 6, 12, 13, 14, 15, 16, 17, 18, 19, 20, 21, 22, 23, 24, 25, 26, 27, 28, 29, 30, 31, 32, 33, 34, 35, 36, 37, 38, 39, 40, 41, 42, 43, 44, 45, 46, 47, 48, 49, 50, 51, 52, 53, 54, 55, 56] rfl (by decide +kernel)) (goodIn_sub (fun _ h => List.mem_cons_of_mem _ (List.mem_append_right _ h)) (by decide +kernel))
set_option maxRecDepth 20000 in
theorem gX2_turn_X2_lifeUnder : GoodIn wsX2_turn (wsV RX2 166 RX2 yX2_lifeUnder wsX2_lifeUnder) := goodIn_app (goodIn_q _ [3, 4, 5, 6] rfl (by decide +kernel)) ggX2_turn_X2_lifeUnder
def dsX2_turn_0 : ByteArray := ⟨#[42, 31, 182, 0, 166, 55, 5, 22, 5, 9, 148, 154, 0, 18, 42, 89, 180, 0, 82, 20, 0, 86, 97, 181, 0, 82, 167, 0, 27, 22, 5, 9, 148, 158, 0, 20, 42, 89, 180, 0, 82, 20, 0, 86, 33, 105, 22, 5, 109, 97, 181, 0, 82, 177]⟩
theorem daX2_turn_0 : agB cX2_turn dsX2_turn_0 0 := agB_of (n := 54) (by decide +kernel)
def dlX2_turn_0 : List (Nat × Instr × Nat) := [(0, .aload_n 0, 1), (1, .lload_n 1, 1), (2, .invokevirtual 166, 3), (5, .lstore 5, 2), (7, .lload 5, 2), (9, .lconst 0, 1), (10, .lcmp, 1), (11, .ifCond .ne 18, 3), (14, .aload_n 0, 1), (15, .dup, 1), (16, .getfield 82, 3), (19, .ldc2_w 86, 3), (22, .ladd, 1), (23, .putfield 82, 3), (26, .goto 27, 3), (29, .lload 5, 2), (31, .lconst 0, 1), (32, .lcmp, 1), (33, .ifCond .le 20, 3), (36, .aload_n 0, 1), (37, .dup, 1), (38, .getfield 82, 3), (41, .ldc2_w 86, 3), (44, .lload_n 3, 1), (45, .lmul, 1), (46, .lload 5, 2), (48, .ldiv, 1), (49, .ladd, 1), (50, .putfield 82, 3), (53, .return_, 1)]
theorem dbX2_turn_0 : ∀ z ∈ dlX2_turn_0, decode dsX2_turn_0 z.1 = Except.ok z.2 ∧ okop dsX2_turn_0 z.1 = true := by decide +kernel
theorem dX2_turn_0 : decode cX2_turn 0 = .ok (.aload_n 0, 1) := dgs daX2_turn_0 dbX2_turn_0 0 0 rfl
theorem dX2_turn_1 : decode cX2_turn 1 = .ok (.lload_n 1, 1) := dgs daX2_turn_0 dbX2_turn_0 1 1 rfl
theorem dX2_turn_2 : decode cX2_turn 2 = .ok (.invokevirtual 166, 3) := dgs daX2_turn_0 dbX2_turn_0 2 2 rfl
theorem dX2_turn_5 : decode cX2_turn 5 = .ok (.lstore 5, 2) := dgs daX2_turn_0 dbX2_turn_0 3 5 rfl
theorem dX2_turn_7 : decode cX2_turn 7 = .ok (.lload 5, 2) := dgs daX2_turn_0 dbX2_turn_0 4 7 rfl
theorem dX2_turn_9 : decode cX2_turn 9 = .ok (.lconst 0, 1) := dgs daX2_turn_0 dbX2_turn_0 5 9 rfl
theorem dX2_turn_10 : decode cX2_turn 10 = .ok (.lcmp, 1) := dgs daX2_turn_0 dbX2_turn_0 6 10 rfl
theorem dX2_turn_11 : decode cX2_turn 11 = .ok (.ifCond .ne 18, 3) := dgs daX2_turn_0 dbX2_turn_0 7 11 rfl
theorem dX2_turn_14 : decode cX2_turn 14 = .ok (.aload_n 0, 1) := dgs daX2_turn_0 dbX2_turn_0 8 14 rfl
theorem dX2_turn_15 : decode cX2_turn 15 = .ok (.dup, 1) := dgs daX2_turn_0 dbX2_turn_0 9 15 rfl
theorem dX2_turn_16 : decode cX2_turn 16 = .ok (.getfield 82, 3) := dgs daX2_turn_0 dbX2_turn_0 10 16 rfl
theorem dX2_turn_19 : decode cX2_turn 19 = .ok (.ldc2_w 86, 3) := dgs daX2_turn_0 dbX2_turn_0 11 19 rfl
theorem dX2_turn_22 : decode cX2_turn 22 = .ok (.ladd, 1) := dgs daX2_turn_0 dbX2_turn_0 12 22 rfl
theorem dX2_turn_23 : decode cX2_turn 23 = .ok (.putfield 82, 3) := dgs daX2_turn_0 dbX2_turn_0 13 23 rfl
theorem dX2_turn_26 : decode cX2_turn 26 = .ok (.goto 27, 3) := dgs daX2_turn_0 dbX2_turn_0 14 26 rfl
theorem dX2_turn_29 : decode cX2_turn 29 = .ok (.lload 5, 2) := dgs daX2_turn_0 dbX2_turn_0 15 29 rfl
theorem dX2_turn_31 : decode cX2_turn 31 = .ok (.lconst 0, 1) := dgs daX2_turn_0 dbX2_turn_0 16 31 rfl
theorem dX2_turn_32 : decode cX2_turn 32 = .ok (.lcmp, 1) := dgs daX2_turn_0 dbX2_turn_0 17 32 rfl
theorem dX2_turn_33 : decode cX2_turn 33 = .ok (.ifCond .le 20, 3) := dgs daX2_turn_0 dbX2_turn_0 18 33 rfl
theorem dX2_turn_36 : decode cX2_turn 36 = .ok (.aload_n 0, 1) := dgs daX2_turn_0 dbX2_turn_0 19 36 rfl
theorem dX2_turn_37 : decode cX2_turn 37 = .ok (.dup, 1) := dgs daX2_turn_0 dbX2_turn_0 20 37 rfl
theorem dX2_turn_38 : decode cX2_turn 38 = .ok (.getfield 82, 3) := dgs daX2_turn_0 dbX2_turn_0 21 38 rfl
theorem dX2_turn_41 : decode cX2_turn 41 = .ok (.ldc2_w 86, 3) := dgs daX2_turn_0 dbX2_turn_0 22 41 rfl
theorem dX2_turn_44 : decode cX2_turn 44 = .ok (.lload_n 3, 1) := dgs daX2_turn_0 dbX2_turn_0 23 44 rfl
theorem dX2_turn_45 : decode cX2_turn 45 = .ok (.lmul, 1) := dgs daX2_turn_0 dbX2_turn_0 24 45 rfl
theorem dX2_turn_46 : decode cX2_turn 46 = .ok (.lload 5, 2) := dgs daX2_turn_0 dbX2_turn_0 25 46 rfl
theorem dX2_turn_48 : decode cX2_turn 48 = .ok (.ldiv, 1) := dgs daX2_turn_0 dbX2_turn_0 26 48 rfl
theorem dX2_turn_49 : decode cX2_turn 49 = .ok (.ladd, 1) := dgs daX2_turn_0 dbX2_turn_0 27 49 rfl
theorem dX2_turn_50 : decode cX2_turn 50 = .ok (.putfield 82, 3) := dgs daX2_turn_0 dbX2_turn_0 28 50 rfl
theorem dX2_turn_53 : decode cX2_turn 53 = .ok (.return_, 1) := dgs daX2_turn_0 dbX2_turn_0 29 53 rfl
theorem dX3_init_22 : decode cX3_init 22 = .ok (.newarray .int, 2) := by decide +kernel
def dsX3_init_0 : ByteArray := ⟨#[42, 183, 0, 3, 42, 27, 181, 0, 9, 42, 28, 181, 0, 15, 42, 29, 181, 0, 18, 42, 21, 4, 188, 10, 181, 0, 21, 177]⟩
theorem daX3_init_0 : agB cX3_init dsX3_init_0 0 := agB_of (n := 28) (by decide +kernel)
def dlX3_init_0 : List (Nat × Instr × Nat) := [(0, .aload_n 0, 1), (1, .invokespecial 3, 3), (4, .aload_n 0, 1), (5, .iload_n 1, 1), (6, .putfield 9, 3), (9, .aload_n 0, 1), (10, .iload_n 2, 1), (11, .putfield 15, 3), (14, .aload_n 0, 1), (15, .iload_n 3, 1), (16, .putfield 18, 3), (19, .aload_n 0, 1), (20, .iload 4, 2), (24, .putfield 21, 3), (27, .return_, 1)]
theorem dbX3_init_0 : ∀ z ∈ dlX3_init_0, decode dsX3_init_0 z.1 = Except.ok z.2 ∧ okop dsX3_init_0 z.1 = true := by decide +kernel
theorem dX3_init_0 : decode cX3_init 0 = .ok (.aload_n 0, 1) := dgs daX3_init_0 dbX3_init_0 0 0 rfl
theorem dX3_init_1 : decode cX3_init 1 = .ok (.invokespecial 3, 3) := dgs daX3_init_0 dbX3_init_0 1 1 rfl
theorem dX3_init_4 : decode cX3_init 4 = .ok (.aload_n 0, 1) := dgs daX3_init_0 dbX3_init_0 2 4 rfl
theorem dX3_init_5 : decode cX3_init 5 = .ok (.iload_n 1, 1) := dgs daX3_init_0 dbX3_init_0 3 5 rfl
theorem dX3_init_6 : decode cX3_init 6 = .ok (.putfield 9, 3) := dgs daX3_init_0 dbX3_init_0 4 6 rfl
theorem dX3_init_9 : decode cX3_init 9 = .ok (.aload_n 0, 1) := dgs daX3_init_0 dbX3_init_0 5 9 rfl
theorem dX3_init_10 : decode cX3_init 10 = .ok (.iload_n 2, 1) := dgs daX3_init_0 dbX3_init_0 6 10 rfl
theorem dX3_init_11 : decode cX3_init 11 = .ok (.putfield 15, 3) := dgs daX3_init_0 dbX3_init_0 7 11 rfl
theorem dX3_init_14 : decode cX3_init 14 = .ok (.aload_n 0, 1) := dgs daX3_init_0 dbX3_init_0 8 14 rfl
theorem dX3_init_15 : decode cX3_init 15 = .ok (.iload_n 3, 1) := dgs daX3_init_0 dbX3_init_0 9 15 rfl
theorem dX3_init_16 : decode cX3_init 16 = .ok (.putfield 18, 3) := dgs daX3_init_0 dbX3_init_0 10 16 rfl
theorem dX3_init_19 : decode cX3_init 19 = .ok (.aload_n 0, 1) := dgs daX3_init_0 dbX3_init_0 11 19 rfl
theorem dX3_init_20 : decode cX3_init 20 = .ok (.iload 4, 2) := dgs daX3_init_0 dbX3_init_0 12 20 rfl
theorem dX3_init_24 : decode cX3_init 24 = .ok (.putfield 21, 3) := dgs daX3_init_0 dbX3_init_0 13 24 rfl
theorem dX3_init_27 : decode cX3_init 27 = .ok (.return_, 1) := dgs daX3_init_0 dbX3_init_0 14 27 rfl
set_option maxRecDepth 20000 in
theorem ggX3_wayIn_X9_root : GoodIn wsX3_wayIn wsX9_root := goodIn_q _ [7] rfl (by decide +kernel)
set_option maxRecDepth 20000 in
theorem gX3_wayIn_X9_root_n29 : GoodIn wsX3_wayIn (wsX9_root) := ggX3_wayIn_X9_root
def dsX3_wayIn_0 : ByteArray := ⟨#[20, 0, 25, 42, 180, 0, 9, 133, 105, 20, 0, 27, 109, 64, 31, 42, 180, 0, 18, 133, 31, 101, 105, 184, 0, 29, 173]⟩
theorem daX3_wayIn_0 : agB cX3_wayIn dsX3_wayIn_0 0 := agB_of (n := 27) (by decide +kernel)
def dlX3_wayIn_0 : List (Nat × Instr × Nat) := [(0, .ldc2_w 25, 3), (3, .aload_n 0, 1), (4, .getfield 9, 3), (7, .i2l, 1), (8, .lmul, 1), (9, .ldc2_w 27, 3), (12, .ldiv, 1), (13, .lstore_n 1, 1), (14, .lload_n 1, 1), (15, .aload_n 0, 1), (16, .getfield 18, 3), (19, .i2l, 1), (20, .lload_n 1, 1), (21, .lsub, 1), (22, .lmul, 1), (23, .invokestatic 29, 3), (26, .lreturn, 1)]
theorem dbX3_wayIn_0 : ∀ z ∈ dlX3_wayIn_0, decode dsX3_wayIn_0 z.1 = Except.ok z.2 ∧ okop dsX3_wayIn_0 z.1 = true := by decide +kernel
theorem dX3_wayIn_0 : decode cX3_wayIn 0 = .ok (.ldc2_w 25, 3) := dgs daX3_wayIn_0 dbX3_wayIn_0 0 0 rfl
theorem dX3_wayIn_3 : decode cX3_wayIn 3 = .ok (.aload_n 0, 1) := dgs daX3_wayIn_0 dbX3_wayIn_0 1 3 rfl
theorem dX3_wayIn_4 : decode cX3_wayIn 4 = .ok (.getfield 9, 3) := dgs daX3_wayIn_0 dbX3_wayIn_0 2 4 rfl
theorem dX3_wayIn_7 : decode cX3_wayIn 7 = .ok (.i2l, 1) := dgs daX3_wayIn_0 dbX3_wayIn_0 3 7 rfl
theorem dX3_wayIn_8 : decode cX3_wayIn 8 = .ok (.lmul, 1) := dgs daX3_wayIn_0 dbX3_wayIn_0 4 8 rfl
theorem dX3_wayIn_9 : decode cX3_wayIn 9 = .ok (.ldc2_w 27, 3) := dgs daX3_wayIn_0 dbX3_wayIn_0 5 9 rfl
theorem dX3_wayIn_12 : decode cX3_wayIn 12 = .ok (.ldiv, 1) := dgs daX3_wayIn_0 dbX3_wayIn_0 6 12 rfl
theorem dX3_wayIn_13 : decode cX3_wayIn 13 = .ok (.lstore_n 1, 1) := dgs daX3_wayIn_0 dbX3_wayIn_0 7 13 rfl
theorem dX3_wayIn_14 : decode cX3_wayIn 14 = .ok (.lload_n 1, 1) := dgs daX3_wayIn_0 dbX3_wayIn_0 8 14 rfl
theorem dX3_wayIn_15 : decode cX3_wayIn 15 = .ok (.aload_n 0, 1) := dgs daX3_wayIn_0 dbX3_wayIn_0 9 15 rfl
theorem dX3_wayIn_16 : decode cX3_wayIn 16 = .ok (.getfield 18, 3) := dgs daX3_wayIn_0 dbX3_wayIn_0 10 16 rfl
theorem dX3_wayIn_19 : decode cX3_wayIn 19 = .ok (.i2l, 1) := dgs daX3_wayIn_0 dbX3_wayIn_0 11 19 rfl
theorem dX3_wayIn_20 : decode cX3_wayIn 20 = .ok (.lload_n 1, 1) := dgs daX3_wayIn_0 dbX3_wayIn_0 12 20 rfl
theorem dX3_wayIn_21 : decode cX3_wayIn 21 = .ok (.lsub, 1) := dgs daX3_wayIn_0 dbX3_wayIn_0 13 21 rfl
theorem dX3_wayIn_22 : decode cX3_wayIn 22 = .ok (.lmul, 1) := dgs daX3_wayIn_0 dbX3_wayIn_0 14 22 rfl
theorem dX3_wayIn_23 : decode cX3_wayIn 23 = .ok (.invokestatic 29, 3) := dgs daX3_wayIn_0 dbX3_wayIn_0 15 23 rfl
theorem dX3_wayIn_26 : decode cX3_wayIn 26 = .ok (.lreturn, 1) := dgs daX3_wayIn_0 dbX3_wayIn_0 16 26 rfl
set_option maxRecDepth 20000 in
theorem ggX3_fits_X3_wayIn : GoodIn wsX3_fits wsX3_wayIn := goodIn_q _ [11, 12, 2, 13, 14, 15, 16, 17, 38, 39, 40, 41, 42, 43] rfl (by decide +kernel)
set_option maxRecDepth 20000 in
theorem gX3_fits_X3_wayIn : GoodIn wsX3_fits (wsV RX3 45 RX3 yX3_wayIn wsX3_wayIn) := goodIn_app (goodIn_q _ [7, 8, 9, 10] rfl (by decide +kernel)) ggX3_fits_X3_wayIn
def dsX3_fits_0 : ByteArray := ⟨#[43, 180, 0, 33, 42, 180, 0, 9, 160, 0, 54, 43, 180, 0, 36, 42, 180, 0, 15, 161, 0, 43, 42, 180, 0, 15, 4, 159, 0, 10, 43, 180, 0, 39, 155, 0, 28, 43, 180, 0, 42, 2, 159, 0, 16, 42, 182, 0, 45, 43, 180, 0, 42, 133, 148, 157, 0, 7, 4, 167, 0, 4, 3, 172]⟩
theorem daX3_fits_0 : agB cX3_fits dsX3_fits_0 0 := agB_of (n := 64) (by decide +kernel)
def dlX3_fits_0 : List (Nat × Instr × Nat) := [(0, .aload_n 1, 1), (1, .getfield 33, 3), (4, .aload_n 0, 1), (5, .getfield 9, 3), (8, .if_icmp .ne 54, 3), (11, .aload_n 1, 1), (12, .getfield 36, 3), (15, .aload_n 0, 1), (16, .getfield 15, 3), (19, .if_icmp .lt 43, 3), (22, .aload_n 0, 1), (23, .getfield 15, 3), (26, .iconst 1, 1), (27, .if_icmp .eq 10, 3), (30, .aload_n 1, 1), (31, .getfield 39, 3), (34, .ifCond .lt 28, 3), (37, .aload_n 1, 1), (38, .getfield 42, 3), (41, .iconst (-1), 1), (42, .if_icmp .eq 16, 3), (45, .aload_n 0, 1), (46, .invokevirtual 45, 3), (49, .aload_n 1, 1), (50, .getfield 42, 3), (53, .i2l, 1), (54, .lcmp, 1), (55, .ifCond .gt 7, 3), (58, .iconst 1, 1), (59, .goto 4, 3), (62, .iconst 0, 1), (63, .ireturn, 1)]
theorem dbX3_fits_0 : ∀ z ∈ dlX3_fits_0, decode dsX3_fits_0 z.1 = Except.ok z.2 ∧ okop dsX3_fits_0 z.1 = true := by decide +kernel
theorem dX3_fits_0 : decode cX3_fits 0 = .ok (.aload_n 1, 1) := dgs daX3_fits_0 dbX3_fits_0 0 0 rfl
theorem dX3_fits_1 : decode cX3_fits 1 = .ok (.getfield 33, 3) := dgs daX3_fits_0 dbX3_fits_0 1 1 rfl
theorem dX3_fits_4 : decode cX3_fits 4 = .ok (.aload_n 0, 1) := dgs daX3_fits_0 dbX3_fits_0 2 4 rfl
theorem dX3_fits_5 : decode cX3_fits 5 = .ok (.getfield 9, 3) := dgs daX3_fits_0 dbX3_fits_0 3 5 rfl
theorem dX3_fits_8 : decode cX3_fits 8 = .ok (.if_icmp .ne 54, 3) := dgs daX3_fits_0 dbX3_fits_0 4 8 rfl
theorem dX3_fits_11 : decode cX3_fits 11 = .ok (.aload_n 1, 1) := dgs daX3_fits_0 dbX3_fits_0 5 11 rfl
theorem dX3_fits_12 : decode cX3_fits 12 = .ok (.getfield 36, 3) := dgs daX3_fits_0 dbX3_fits_0 6 12 rfl
theorem dX3_fits_15 : decode cX3_fits 15 = .ok (.aload_n 0, 1) := dgs daX3_fits_0 dbX3_fits_0 7 15 rfl
theorem dX3_fits_16 : decode cX3_fits 16 = .ok (.getfield 15, 3) := dgs daX3_fits_0 dbX3_fits_0 8 16 rfl
theorem dX3_fits_19 : decode cX3_fits 19 = .ok (.if_icmp .lt 43, 3) := dgs daX3_fits_0 dbX3_fits_0 9 19 rfl
theorem dX3_fits_22 : decode cX3_fits 22 = .ok (.aload_n 0, 1) := dgs daX3_fits_0 dbX3_fits_0 10 22 rfl
theorem dX3_fits_23 : decode cX3_fits 23 = .ok (.getfield 15, 3) := dgs daX3_fits_0 dbX3_fits_0 11 23 rfl
theorem dX3_fits_26 : decode cX3_fits 26 = .ok (.iconst 1, 1) := dgs daX3_fits_0 dbX3_fits_0 12 26 rfl
theorem dX3_fits_27 : decode cX3_fits 27 = .ok (.if_icmp .eq 10, 3) := dgs daX3_fits_0 dbX3_fits_0 13 27 rfl
theorem dX3_fits_30 : decode cX3_fits 30 = .ok (.aload_n 1, 1) := dgs daX3_fits_0 dbX3_fits_0 14 30 rfl
theorem dX3_fits_31 : decode cX3_fits 31 = .ok (.getfield 39, 3) := dgs daX3_fits_0 dbX3_fits_0 15 31 rfl
theorem dX3_fits_34 : decode cX3_fits 34 = .ok (.ifCond .lt 28, 3) := dgs daX3_fits_0 dbX3_fits_0 16 34 rfl
theorem dX3_fits_37 : decode cX3_fits 37 = .ok (.aload_n 1, 1) := dgs daX3_fits_0 dbX3_fits_0 17 37 rfl
theorem dX3_fits_38 : decode cX3_fits 38 = .ok (.getfield 42, 3) := dgs daX3_fits_0 dbX3_fits_0 18 38 rfl
theorem dX3_fits_41 : decode cX3_fits 41 = .ok (.iconst (-1), 1) := dgs daX3_fits_0 dbX3_fits_0 19 41 rfl
theorem dX3_fits_42 : decode cX3_fits 42 = .ok (.if_icmp .eq 16, 3) := dgs daX3_fits_0 dbX3_fits_0 20 42 rfl
theorem dX3_fits_45 : decode cX3_fits 45 = .ok (.aload_n 0, 1) := dgs daX3_fits_0 dbX3_fits_0 21 45 rfl
theorem dX3_fits_46 : decode cX3_fits 46 = .ok (.invokevirtual 45, 3) := dgs daX3_fits_0 dbX3_fits_0 22 46 rfl
theorem dX3_fits_49 : decode cX3_fits 49 = .ok (.aload_n 1, 1) := dgs daX3_fits_0 dbX3_fits_0 23 49 rfl
theorem dX3_fits_50 : decode cX3_fits 50 = .ok (.getfield 42, 3) := dgs daX3_fits_0 dbX3_fits_0 24 50 rfl
theorem dX3_fits_53 : decode cX3_fits 53 = .ok (.i2l, 1) := dgs daX3_fits_0 dbX3_fits_0 25 53 rfl
theorem dX3_fits_54 : decode cX3_fits 54 = .ok (.lcmp, 1) := dgs daX3_fits_0 dbX3_fits_0 26 54 rfl
theorem dX3_fits_55 : decode cX3_fits 55 = .ok (.ifCond .gt 7, 3) := dgs daX3_fits_0 dbX3_fits_0 27 55 rfl
theorem dX3_fits_58 : decode cX3_fits 58 = .ok (.iconst 1, 1) := dgs daX3_fits_0 dbX3_fits_0 28 58 rfl
theorem dX3_fits_59 : decode cX3_fits 59 = .ok (.goto 4, 3) := dgs daX3_fits_0 dbX3_fits_0 29 59 rfl
theorem dX3_fits_62 : decode cX3_fits 62 = .ok (.iconst 0, 1) := dgs daX3_fits_0 dbX3_fits_0 30 62 rfl
theorem dX3_fits_63 : decode cX3_fits 63 = .ok (.ireturn, 1) := dgs daX3_fits_0 dbX3_fits_0 31 63 rfl
def dsX3_isBlunt_0 : ByteArray := ⟨#[42, 180, 0, 49, 42, 180, 0, 21, 190, 162, 0, 18, 42, 180, 0, 21, 42, 180, 0, 49, 46, 17, 0, 200, 161, 0, 7, 4, 167, 0, 4, 3, 172]⟩
theorem daX3_isBlunt_0 : agB cX3_isBlunt dsX3_isBlunt_0 0 := agB_of (n := 33) (by decide +kernel)
def dlX3_isBlunt_0 : List (Nat × Instr × Nat) := [(0, .aload_n 0, 1), (1, .getfield 49, 3), (4, .aload_n 0, 1), (5, .getfield 21, 3), (8, .arraylength, 1), (9, .if_icmp .ge 18, 3), (12, .aload_n 0, 1), (13, .getfield 21, 3), (16, .aload_n 0, 1), (17, .getfield 49, 3), (20, .iaload, 1), (21, .sipush 200, 3), (24, .if_icmp .lt 7, 3), (27, .iconst 1, 1), (28, .goto 4, 3), (31, .iconst 0, 1), (32, .ireturn, 1)]
theorem dbX3_isBlunt_0 : ∀ z ∈ dlX3_isBlunt_0, decode dsX3_isBlunt_0 z.1 = Except.ok z.2 ∧ okop dsX3_isBlunt_0 z.1 = true := by decide +kernel
theorem dX3_isBlunt_0 : decode cX3_isBlunt 0 = .ok (.aload_n 0, 1) := dgs daX3_isBlunt_0 dbX3_isBlunt_0 0 0 rfl
theorem dX3_isBlunt_1 : decode cX3_isBlunt 1 = .ok (.getfield 49, 3) := dgs daX3_isBlunt_0 dbX3_isBlunt_0 1 1 rfl
theorem dX3_isBlunt_4 : decode cX3_isBlunt 4 = .ok (.aload_n 0, 1) := dgs daX3_isBlunt_0 dbX3_isBlunt_0 2 4 rfl
theorem dX3_isBlunt_5 : decode cX3_isBlunt 5 = .ok (.getfield 21, 3) := dgs daX3_isBlunt_0 dbX3_isBlunt_0 3 5 rfl
theorem dX3_isBlunt_8 : decode cX3_isBlunt 8 = .ok (.arraylength, 1) := dgs daX3_isBlunt_0 dbX3_isBlunt_0 4 8 rfl
theorem dX3_isBlunt_9 : decode cX3_isBlunt 9 = .ok (.if_icmp .ge 18, 3) := dgs daX3_isBlunt_0 dbX3_isBlunt_0 5 9 rfl
theorem dX3_isBlunt_12 : decode cX3_isBlunt 12 = .ok (.aload_n 0, 1) := dgs daX3_isBlunt_0 dbX3_isBlunt_0 6 12 rfl
theorem dX3_isBlunt_13 : decode cX3_isBlunt 13 = .ok (.getfield 21, 3) := dgs daX3_isBlunt_0 dbX3_isBlunt_0 7 13 rfl
theorem dX3_isBlunt_16 : decode cX3_isBlunt 16 = .ok (.aload_n 0, 1) := dgs daX3_isBlunt_0 dbX3_isBlunt_0 8 16 rfl
theorem dX3_isBlunt_17 : decode cX3_isBlunt 17 = .ok (.getfield 49, 3) := dgs daX3_isBlunt_0 dbX3_isBlunt_0 9 17 rfl
theorem dX3_isBlunt_20 : decode cX3_isBlunt 20 = .ok (.iaload, 1) := dgs daX3_isBlunt_0 dbX3_isBlunt_0 10 20 rfl
theorem dX3_isBlunt_21 : decode cX3_isBlunt 21 = .ok (.sipush 200, 3) := dgs daX3_isBlunt_0 dbX3_isBlunt_0 11 21 rfl
theorem dX3_isBlunt_24 : decode cX3_isBlunt 24 = .ok (.if_icmp .lt 7, 3) := dgs daX3_isBlunt_0 dbX3_isBlunt_0 12 24 rfl
theorem dX3_isBlunt_27 : decode cX3_isBlunt 27 = .ok (.iconst 1, 1) := dgs daX3_isBlunt_0 dbX3_isBlunt_0 13 27 rfl
theorem dX3_isBlunt_28 : decode cX3_isBlunt 28 = .ok (.goto 4, 3) := dgs daX3_isBlunt_0 dbX3_isBlunt_0 14 28 rfl
theorem dX3_isBlunt_31 : decode cX3_isBlunt 31 = .ok (.iconst 0, 1) := dgs daX3_isBlunt_0 dbX3_isBlunt_0 15 31 rfl
theorem dX3_isBlunt_32 : decode cX3_isBlunt 32 = .ok (.ireturn, 1) := dgs daX3_isBlunt_0 dbX3_isBlunt_0 16 32 rfl
def dsX3_turnToNext_0 : ByteArray := ⟨#[42, 180, 0, 49, 61, 28, 42, 180, 0, 21, 190, 162, 0, 47, 42, 180, 0, 15, 158, 0, 40, 42, 180, 0, 21, 28, 92, 46, 27, 42, 180, 0, 15, 108, 96, 79, 42, 28, 4, 96, 42, 180, 0, 21, 190, 162, 0, 9, 28, 4, 96, 167, 0, 4, 3, 181, 0, 49, 28, 172]⟩
theorem daX3_turnToNext_0 : agB cX3_turnToNext dsX3_turnToNext_0 0 := agB_of (n := 60) (by decide +kernel)
def dlX3_turnToNext_0 : List (Nat × Instr × Nat) := [(0, .aload_n 0, 1), (1, .getfield 49, 3), (4, .istore_n 2, 1), (5, .iload_n 2, 1), (6, .aload_n 0, 1), (7, .getfield 21, 3), (10, .arraylength, 1), (11, .if_icmp .ge 47, 3), (14, .aload_n 0, 1), (15, .getfield 15, 3), (18, .ifCond .le 40, 3), (21, .aload_n 0, 1), (22, .getfield 21, 3), (25, .iload_n 2, 1), (26, .dup2, 1), (27, .iaload, 1), (28, .iload_n 1, 1), (29, .aload_n 0, 1), (30, .getfield 15, 3), (33, .idiv, 1), (34, .iadd, 1), (35, .iastore, 1), (36, .aload_n 0, 1), (37, .iload_n 2, 1), (38, .iconst 1, 1), (39, .iadd, 1), (40, .aload_n 0, 1), (41, .getfield 21, 3), (44, .arraylength, 1), (45, .if_icmp .ge 9, 3), (48, .iload_n 2, 1), (49, .iconst 1, 1), (50, .iadd, 1), (51, .goto 4, 3), (54, .iconst 0, 1), (55, .putfield 49, 3), (58, .iload_n 2, 1), (59, .ireturn, 1)]
theorem dbX3_turnToNext_0 : ∀ z ∈ dlX3_turnToNext_0, decode dsX3_turnToNext_0 z.1 = Except.ok z.2 ∧ okop dsX3_turnToNext_0 z.1 = true := by decide +kernel
theorem dX3_turnToNext_0 : decode cX3_turnToNext 0 = .ok (.aload_n 0, 1) := dgs daX3_turnToNext_0 dbX3_turnToNext_0 0 0 rfl
theorem dX3_turnToNext_1 : decode cX3_turnToNext 1 = .ok (.getfield 49, 3) := dgs daX3_turnToNext_0 dbX3_turnToNext_0 1 1 rfl
theorem dX3_turnToNext_4 : decode cX3_turnToNext 4 = .ok (.istore_n 2, 1) := dgs daX3_turnToNext_0 dbX3_turnToNext_0 2 4 rfl
theorem dX3_turnToNext_5 : decode cX3_turnToNext 5 = .ok (.iload_n 2, 1) := dgs daX3_turnToNext_0 dbX3_turnToNext_0 3 5 rfl
theorem dX3_turnToNext_6 : decode cX3_turnToNext 6 = .ok (.aload_n 0, 1) := dgs daX3_turnToNext_0 dbX3_turnToNext_0 4 6 rfl
theorem dX3_turnToNext_7 : decode cX3_turnToNext 7 = .ok (.getfield 21, 3) := dgs daX3_turnToNext_0 dbX3_turnToNext_0 5 7 rfl
theorem dX3_turnToNext_10 : decode cX3_turnToNext 10 = .ok (.arraylength, 1) := dgs daX3_turnToNext_0 dbX3_turnToNext_0 6 10 rfl
theorem dX3_turnToNext_11 : decode cX3_turnToNext 11 = .ok (.if_icmp .ge 47, 3) := dgs daX3_turnToNext_0 dbX3_turnToNext_0 7 11 rfl
theorem dX3_turnToNext_14 : decode cX3_turnToNext 14 = .ok (.aload_n 0, 1) := dgs daX3_turnToNext_0 dbX3_turnToNext_0 8 14 rfl
theorem dX3_turnToNext_15 : decode cX3_turnToNext 15 = .ok (.getfield 15, 3) := dgs daX3_turnToNext_0 dbX3_turnToNext_0 9 15 rfl
theorem dX3_turnToNext_18 : decode cX3_turnToNext 18 = .ok (.ifCond .le 40, 3) := dgs daX3_turnToNext_0 dbX3_turnToNext_0 10 18 rfl
theorem dX3_turnToNext_21 : decode cX3_turnToNext 21 = .ok (.aload_n 0, 1) := dgs daX3_turnToNext_0 dbX3_turnToNext_0 11 21 rfl
theorem dX3_turnToNext_22 : decode cX3_turnToNext 22 = .ok (.getfield 21, 3) := dgs daX3_turnToNext_0 dbX3_turnToNext_0 12 22 rfl
theorem dX3_turnToNext_25 : decode cX3_turnToNext 25 = .ok (.iload_n 2, 1) := dgs daX3_turnToNext_0 dbX3_turnToNext_0 13 25 rfl
theorem dX3_turnToNext_26 : decode cX3_turnToNext 26 = .ok (.dup2, 1) := dgs daX3_turnToNext_0 dbX3_turnToNext_0 14 26 rfl
theorem dX3_turnToNext_27 : decode cX3_turnToNext 27 = .ok (.iaload, 1) := dgs daX3_turnToNext_0 dbX3_turnToNext_0 15 27 rfl
theorem dX3_turnToNext_28 : decode cX3_turnToNext 28 = .ok (.iload_n 1, 1) := dgs daX3_turnToNext_0 dbX3_turnToNext_0 16 28 rfl
theorem dX3_turnToNext_29 : decode cX3_turnToNext 29 = .ok (.aload_n 0, 1) := dgs daX3_turnToNext_0 dbX3_turnToNext_0 17 29 rfl
theorem dX3_turnToNext_30 : decode cX3_turnToNext 30 = .ok (.getfield 15, 3) := dgs daX3_turnToNext_0 dbX3_turnToNext_0 18 30 rfl
theorem dX3_turnToNext_33 : decode cX3_turnToNext 33 = .ok (.idiv, 1) := dgs daX3_turnToNext_0 dbX3_turnToNext_0 19 33 rfl
theorem dX3_turnToNext_34 : decode cX3_turnToNext 34 = .ok (.iadd, 1) := dgs daX3_turnToNext_0 dbX3_turnToNext_0 20 34 rfl
theorem dX3_turnToNext_35 : decode cX3_turnToNext 35 = .ok (.iastore, 1) := dgs daX3_turnToNext_0 dbX3_turnToNext_0 21 35 rfl
theorem dX3_turnToNext_36 : decode cX3_turnToNext 36 = .ok (.aload_n 0, 1) := dgs daX3_turnToNext_0 dbX3_turnToNext_0 22 36 rfl
theorem dX3_turnToNext_37 : decode cX3_turnToNext 37 = .ok (.iload_n 2, 1) := dgs daX3_turnToNext_0 dbX3_turnToNext_0 23 37 rfl
theorem dX3_turnToNext_38 : decode cX3_turnToNext 38 = .ok (.iconst 1, 1) := dgs daX3_turnToNext_0 dbX3_turnToNext_0 24 38 rfl
theorem dX3_turnToNext_39 : decode cX3_turnToNext 39 = .ok (.iadd, 1) := dgs daX3_turnToNext_0 dbX3_turnToNext_0 25 39 rfl
theorem dX3_turnToNext_40 : decode cX3_turnToNext 40 = .ok (.aload_n 0, 1) := dgs daX3_turnToNext_0 dbX3_turnToNext_0 26 40 rfl
theorem dX3_turnToNext_41 : decode cX3_turnToNext 41 = .ok (.getfield 21, 3) := dgs daX3_turnToNext_0 dbX3_turnToNext_0 27 41 rfl
theorem dX3_turnToNext_44 : decode cX3_turnToNext 44 = .ok (.arraylength, 1) := dgs daX3_turnToNext_0 dbX3_turnToNext_0 28 44 rfl
theorem dX3_turnToNext_45 : decode cX3_turnToNext 45 = .ok (.if_icmp .ge 9, 3) := dgs daX3_turnToNext_0 dbX3_turnToNext_0 29 45 rfl
theorem dX3_turnToNext_48 : decode cX3_turnToNext 48 = .ok (.iload_n 2, 1) := dgs daX3_turnToNext_0 dbX3_turnToNext_0 30 48 rfl
theorem dX3_turnToNext_49 : decode cX3_turnToNext 49 = .ok (.iconst 1, 1) := dgs daX3_turnToNext_0 dbX3_turnToNext_0 31 49 rfl
theorem dX3_turnToNext_50 : decode cX3_turnToNext 50 = .ok (.iadd, 1) := dgs daX3_turnToNext_0 dbX3_turnToNext_0 32 50 rfl
theorem dX3_turnToNext_51 : decode cX3_turnToNext 51 = .ok (.goto 4, 3) := dgs daX3_turnToNext_0 dbX3_turnToNext_0 33 51 rfl
theorem dX3_turnToNext_54 : decode cX3_turnToNext 54 = .ok (.iconst 0, 1) := dgs daX3_turnToNext_0 dbX3_turnToNext_0 34 54 rfl
theorem dX3_turnToNext_55 : decode cX3_turnToNext 55 = .ok (.putfield 49, 3) := dgs daX3_turnToNext_0 dbX3_turnToNext_0 35 55 rfl
theorem dX3_turnToNext_58 : decode cX3_turnToNext 58 = .ok (.iload_n 2, 1) := dgs daX3_turnToNext_0 dbX3_turnToNext_0 36 58 rfl
theorem dX3_turnToNext_59 : decode cX3_turnToNext 59 = .ok (.ireturn, 1) := dgs daX3_turnToNext_0 dbX3_turnToNext_0 37 59 rfl
def dsX3_sharpen_0 : ByteArray := ⟨#[42, 89, 180, 0, 18, 16, 100, 100, 181, 0, 18, 42, 89, 180, 0, 52, 4, 96, 181, 0, 52, 3, 60, 27, 42, 180, 0, 21, 190, 162, 0, 16, 42, 180, 0, 21, 27, 3, 79, 132, 1, 1, 167, 255, 237, 177]⟩
theorem daX3_sharpen_0 : agB cX3_sharpen dsX3_sharpen_0 0 := agB_of (n := 46) (by decide +kernel)
def dlX3_sharpen_0 : List (Nat × Instr × Nat) := [(0, .aload_n 0, 1), (1, .dup, 1), (2, .getfield 18, 3), (5, .bipush 100, 2), (7, .isub, 1), (8, .putfield 18, 3), (11, .aload_n 0, 1), (12, .dup, 1), (13, .getfield 52, 3), (16, .iconst 1, 1), (17, .iadd, 1), (18, .putfield 52, 3), (21, .iconst 0, 1), (22, .istore_n 1, 1), (23, .iload_n 1, 1), (24, .aload_n 0, 1), (25, .getfield 21, 3), (28, .arraylength, 1), (29, .if_icmp .ge 16, 3), (32, .aload_n 0, 1), (33, .getfield 21, 3), (36, .iload_n 1, 1), (37, .iconst 0, 1), (38, .iastore, 1), (39, .iinc 1 1, 3), (42, .goto (-19), 3), (45, .return_, 1)]
theorem dbX3_sharpen_0 : ∀ z ∈ dlX3_sharpen_0, decode dsX3_sharpen_0 z.1 = Except.ok z.2 ∧ okop dsX3_sharpen_0 z.1 = true := by decide +kernel
theorem dX3_sharpen_0 : decode cX3_sharpen 0 = .ok (.aload_n 0, 1) := dgs daX3_sharpen_0 dbX3_sharpen_0 0 0 rfl
theorem dX3_sharpen_1 : decode cX3_sharpen 1 = .ok (.dup, 1) := dgs daX3_sharpen_0 dbX3_sharpen_0 1 1 rfl
theorem dX3_sharpen_2 : decode cX3_sharpen 2 = .ok (.getfield 18, 3) := dgs daX3_sharpen_0 dbX3_sharpen_0 2 2 rfl
theorem dX3_sharpen_5 : decode cX3_sharpen 5 = .ok (.bipush 100, 2) := dgs daX3_sharpen_0 dbX3_sharpen_0 3 5 rfl
theorem dX3_sharpen_7 : decode cX3_sharpen 7 = .ok (.isub, 1) := dgs daX3_sharpen_0 dbX3_sharpen_0 4 7 rfl
theorem dX3_sharpen_8 : decode cX3_sharpen 8 = .ok (.putfield 18, 3) := dgs daX3_sharpen_0 dbX3_sharpen_0 5 8 rfl
theorem dX3_sharpen_11 : decode cX3_sharpen 11 = .ok (.aload_n 0, 1) := dgs daX3_sharpen_0 dbX3_sharpen_0 6 11 rfl
theorem dX3_sharpen_12 : decode cX3_sharpen 12 = .ok (.dup, 1) := dgs daX3_sharpen_0 dbX3_sharpen_0 7 12 rfl
theorem dX3_sharpen_13 : decode cX3_sharpen 13 = .ok (.getfield 52, 3) := dgs daX3_sharpen_0 dbX3_sharpen_0 8 13 rfl
theorem dX3_sharpen_16 : decode cX3_sharpen 16 = .ok (.iconst 1, 1) := dgs daX3_sharpen_0 dbX3_sharpen_0 9 16 rfl
theorem dX3_sharpen_17 : decode cX3_sharpen 17 = .ok (.iadd, 1) := dgs daX3_sharpen_0 dbX3_sharpen_0 10 17 rfl
theorem dX3_sharpen_18 : decode cX3_sharpen 18 = .ok (.putfield 52, 3) := dgs daX3_sharpen_0 dbX3_sharpen_0 11 18 rfl
theorem dX3_sharpen_21 : decode cX3_sharpen 21 = .ok (.iconst 0, 1) := dgs daX3_sharpen_0 dbX3_sharpen_0 12 21 rfl
theorem dX3_sharpen_22 : decode cX3_sharpen 22 = .ok (.istore_n 1, 1) := dgs daX3_sharpen_0 dbX3_sharpen_0 13 22 rfl
theorem dX3_sharpen_23 : decode cX3_sharpen 23 = .ok (.iload_n 1, 1) := dgs daX3_sharpen_0 dbX3_sharpen_0 14 23 rfl
theorem dX3_sharpen_24 : decode cX3_sharpen 24 = .ok (.aload_n 0, 1) := dgs daX3_sharpen_0 dbX3_sharpen_0 15 24 rfl
theorem dX3_sharpen_25 : decode cX3_sharpen 25 = .ok (.getfield 21, 3) := dgs daX3_sharpen_0 dbX3_sharpen_0 16 25 rfl
theorem dX3_sharpen_28 : decode cX3_sharpen 28 = .ok (.arraylength, 1) := dgs daX3_sharpen_0 dbX3_sharpen_0 17 28 rfl
theorem dX3_sharpen_29 : decode cX3_sharpen 29 = .ok (.if_icmp .ge 16, 3) := dgs daX3_sharpen_0 dbX3_sharpen_0 18 29 rfl
theorem dX3_sharpen_32 : decode cX3_sharpen 32 = .ok (.aload_n 0, 1) := dgs daX3_sharpen_0 dbX3_sharpen_0 19 32 rfl
theorem dX3_sharpen_33 : decode cX3_sharpen 33 = .ok (.getfield 21, 3) := dgs daX3_sharpen_0 dbX3_sharpen_0 20 33 rfl
theorem dX3_sharpen_36 : decode cX3_sharpen 36 = .ok (.iload_n 1, 1) := dgs daX3_sharpen_0 dbX3_sharpen_0 21 36 rfl
theorem dX3_sharpen_37 : decode cX3_sharpen 37 = .ok (.iconst 0, 1) := dgs daX3_sharpen_0 dbX3_sharpen_0 22 37 rfl
theorem dX3_sharpen_38 : decode cX3_sharpen 38 = .ok (.iastore, 1) := dgs daX3_sharpen_0 dbX3_sharpen_0 23 38 rfl
theorem dX3_sharpen_39 : decode cX3_sharpen 39 = .ok (.iinc 1 1, 3) := dgs daX3_sharpen_0 dbX3_sharpen_0 24 39 rfl
theorem dX3_sharpen_42 : decode cX3_sharpen 42 = .ok (.goto (-19), 3) := dgs daX3_sharpen_0 dbX3_sharpen_0 25 42 rfl
theorem dX3_sharpen_45 : decode cX3_sharpen 45 = .ok (.return_, 1) := dgs daX3_sharpen_0 dbX3_sharpen_0 26 45 rfl
theorem dX4_init_23 : decode cX4_init 23 = .ok (.newarray .int, 2) := by decide +kernel
theorem dX4_init_30 : decode cX4_init 30 = .ok (.newarray .boolean, 2) := by decide +kernel
theorem dX4_init_37 : decode cX4_init 37 = .ok (.newarray .int, 2) := by decide +kernel
theorem dX4_init_44 : decode cX4_init 44 = .ok (.newarray .int, 2) := by decide +kernel
def dsX4_init_0 : ByteArray := ⟨#[42, 183, 0, 3, 42, 8, 189, 0, 9, 181, 0, 11, 42, 8, 189, 0, 9, 181, 0, 17, 42, 16, 25, 188, 10, 181, 0, 20, 42, 8, 188, 4, 181, 0, 24, 42, 8, 188, 10, 181, 0, 28, 42, 8, 188, 10, 181, 0, 31, 177]⟩
theorem daX4_init_0 : agB cX4_init dsX4_init_0 0 := agB_of (n := 50) (by decide +kernel)
def dlX4_init_0 : List (Nat × Instr × Nat) := [(0, .aload_n 0, 1), (1, .invokespecial 3, 3), (4, .aload_n 0, 1), (5, .iconst 5, 1), (6, .anewarray 9, 3), (9, .putfield 11, 3), (12, .aload_n 0, 1), (13, .iconst 5, 1), (14, .anewarray 9, 3), (17, .putfield 17, 3), (20, .aload_n 0, 1), (21, .bipush 25, 2), (25, .putfield 20, 3), (28, .aload_n 0, 1), (29, .iconst 5, 1), (32, .putfield 24, 3), (35, .aload_n 0, 1), (36, .iconst 5, 1), (39, .putfield 28, 3), (42, .aload_n 0, 1), (43, .iconst 5, 1), (46, .putfield 31, 3), (49, .return_, 1)]
theorem dbX4_init_0 : ∀ z ∈ dlX4_init_0, decode dsX4_init_0 z.1 = Except.ok z.2 ∧ okop dsX4_init_0 z.1 = true := by decide +kernel
theorem dX4_init_0 : decode cX4_init 0 = .ok (.aload_n 0, 1) := dgs daX4_init_0 dbX4_init_0 0 0 rfl
theorem dX4_init_1 : decode cX4_init 1 = .ok (.invokespecial 3, 3) := dgs daX4_init_0 dbX4_init_0 1 1 rfl
theorem dX4_init_4 : decode cX4_init 4 = .ok (.aload_n 0, 1) := dgs daX4_init_0 dbX4_init_0 2 4 rfl
theorem dX4_init_5 : decode cX4_init 5 = .ok (.iconst 5, 1) := dgs daX4_init_0 dbX4_init_0 3 5 rfl
theorem dX4_init_6 : decode cX4_init 6 = .ok (.anewarray 9, 3) := dgs daX4_init_0 dbX4_init_0 4 6 rfl
theorem dX4_init_9 : decode cX4_init 9 = .ok (.putfield 11, 3) := dgs daX4_init_0 dbX4_init_0 5 9 rfl
theorem dX4_init_12 : decode cX4_init 12 = .ok (.aload_n 0, 1) := dgs daX4_init_0 dbX4_init_0 6 12 rfl
theorem dX4_init_13 : decode cX4_init 13 = .ok (.iconst 5, 1) := dgs daX4_init_0 dbX4_init_0 7 13 rfl
theorem dX4_init_14 : decode cX4_init 14 = .ok (.anewarray 9, 3) := dgs daX4_init_0 dbX4_init_0 8 14 rfl
theorem dX4_init_17 : decode cX4_init 17 = .ok (.putfield 17, 3) := dgs daX4_init_0 dbX4_init_0 9 17 rfl
theorem dX4_init_20 : decode cX4_init 20 = .ok (.aload_n 0, 1) := dgs daX4_init_0 dbX4_init_0 10 20 rfl
theorem dX4_init_21 : decode cX4_init 21 = .ok (.bipush 25, 2) := dgs daX4_init_0 dbX4_init_0 11 21 rfl
theorem dX4_init_25 : decode cX4_init 25 = .ok (.putfield 20, 3) := dgs daX4_init_0 dbX4_init_0 12 25 rfl
theorem dX4_init_28 : decode cX4_init 28 = .ok (.aload_n 0, 1) := dgs daX4_init_0 dbX4_init_0 13 28 rfl
theorem dX4_init_29 : decode cX4_init 29 = .ok (.iconst 5, 1) := dgs daX4_init_0 dbX4_init_0 14 29 rfl
theorem dX4_init_32 : decode cX4_init 32 = .ok (.putfield 24, 3) := dgs daX4_init_0 dbX4_init_0 15 32 rfl
theorem dX4_init_35 : decode cX4_init 35 = .ok (.aload_n 0, 1) := dgs daX4_init_0 dbX4_init_0 16 35 rfl
theorem dX4_init_36 : decode cX4_init 36 = .ok (.iconst 5, 1) := dgs daX4_init_0 dbX4_init_0 17 36 rfl
theorem dX4_init_39 : decode cX4_init 39 = .ok (.putfield 28, 3) := dgs daX4_init_0 dbX4_init_0 18 39 rfl
theorem dX4_init_42 : decode cX4_init 42 = .ok (.aload_n 0, 1) := dgs daX4_init_0 dbX4_init_0 19 42 rfl
theorem dX4_init_43 : decode cX4_init 43 = .ok (.iconst 5, 1) := dgs daX4_init_0 dbX4_init_0 20 43 rfl
theorem dX4_init_46 : decode cX4_init 46 = .ok (.putfield 31, 3) := dgs daX4_init_0 dbX4_init_0 21 46 rfl
theorem dX4_init_49 : decode cX4_init 49 = .ok (.return_, 1) := dgs daX4_init_0 dbX4_init_0 22 49 rfl
def dsX4_begin_0 : ByteArray := ⟨#[42, 3, 181, 0, 34, 42, 3, 181, 0, 38, 177]⟩
theorem daX4_begin_0 : agB cX4_begin dsX4_begin_0 0 := agB_of (n := 11) (by decide +kernel)
def dlX4_begin_0 : List (Nat × Instr × Nat) := [(0, .aload_n 0, 1), (1, .iconst 0, 1), (2, .putfield 34, 3), (5, .aload_n 0, 1), (6, .iconst 0, 1), (7, .putfield 38, 3), (10, .return_, 1)]
theorem dbX4_begin_0 : ∀ z ∈ dlX4_begin_0, decode dsX4_begin_0 z.1 = Except.ok z.2 ∧ okop dsX4_begin_0 z.1 = true := by decide +kernel
theorem dX4_begin_0 : decode cX4_begin 0 = .ok (.aload_n 0, 1) := dgs daX4_begin_0 dbX4_begin_0 0 0 rfl
theorem dX4_begin_1 : decode cX4_begin 1 = .ok (.iconst 0, 1) := dgs daX4_begin_0 dbX4_begin_0 1 1 rfl
theorem dX4_begin_2 : decode cX4_begin 2 = .ok (.putfield 34, 3) := dgs daX4_begin_0 dbX4_begin_0 2 2 rfl
theorem dX4_begin_5 : decode cX4_begin 5 = .ok (.aload_n 0, 1) := dgs daX4_begin_0 dbX4_begin_0 3 5 rfl
theorem dX4_begin_6 : decode cX4_begin 6 = .ok (.iconst 0, 1) := dgs daX4_begin_0 dbX4_begin_0 4 6 rfl
theorem dX4_begin_7 : decode cX4_begin 7 = .ok (.putfield 38, 3) := dgs daX4_begin_0 dbX4_begin_0 5 7 rfl
theorem dX4_begin_10 : decode cX4_begin 10 = .ok (.return_, 1) := dgs daX4_begin_0 dbX4_begin_0 6 10 rfl
def dsX4_offer_0 : ByteArray := ⟨#[43, 180, 0, 41, 28, 160, 0, 31, 42, 180, 0, 34, 8, 162, 0, 23, 42, 180, 0, 11, 42, 180, 0, 34, 43, 83, 42, 89, 180, 0, 34, 4, 96, 181, 0, 34, 43, 180, 0, 41, 29, 160, 0, 31, 42, 180, 0, 38, 8, 162, 0, 23, 42, 180, 0, 17, 42, 180, 0, 38, 43, 83, 42, 89, 180, 0, 38, 4, 96, 181, 0, 38, 177]⟩
theorem daX4_offer_0 : agB cX4_offer dsX4_offer_0 0 := agB_of (n := 73) (by decide +kernel)
def dlX4_offer_0 : List (Nat × Instr × Nat) := [(0, .aload_n 1, 1), (1, .getfield 41, 3), (4, .iload_n 2, 1), (5, .if_icmp .ne 31, 3), (8, .aload_n 0, 1), (9, .getfield 34, 3), (12, .iconst 5, 1), (13, .if_icmp .ge 23, 3), (16, .aload_n 0, 1), (17, .getfield 11, 3), (20, .aload_n 0, 1), (21, .getfield 34, 3), (24, .aload_n 1, 1), (25, .aastore, 1), (26, .aload_n 0, 1), (27, .dup, 1), (28, .getfield 34, 3), (31, .iconst 1, 1), (32, .iadd, 1), (33, .putfield 34, 3), (36, .aload_n 1, 1), (37, .getfield 41, 3), (40, .iload_n 3, 1), (41, .if_icmp .ne 31, 3), (44, .aload_n 0, 1), (45, .getfield 38, 3), (48, .iconst 5, 1), (49, .if_icmp .ge 23, 3), (52, .aload_n 0, 1), (53, .getfield 17, 3), (56, .aload_n 0, 1), (57, .getfield 38, 3), (60, .aload_n 1, 1), (61, .aastore, 1), (62, .aload_n 0, 1), (63, .dup, 1), (64, .getfield 38, 3), (67, .iconst 1, 1), (68, .iadd, 1), (69, .putfield 38, 3), (72, .return_, 1)]
theorem dbX4_offer_0 : ∀ z ∈ dlX4_offer_0, decode dsX4_offer_0 z.1 = Except.ok z.2 ∧ okop dsX4_offer_0 z.1 = true := by decide +kernel
theorem dX4_offer_0 : decode cX4_offer 0 = .ok (.aload_n 1, 1) := dgs daX4_offer_0 dbX4_offer_0 0 0 rfl
theorem dX4_offer_1 : decode cX4_offer 1 = .ok (.getfield 41, 3) := dgs daX4_offer_0 dbX4_offer_0 1 1 rfl
theorem dX4_offer_4 : decode cX4_offer 4 = .ok (.iload_n 2, 1) := dgs daX4_offer_0 dbX4_offer_0 2 4 rfl
theorem dX4_offer_5 : decode cX4_offer 5 = .ok (.if_icmp .ne 31, 3) := dgs daX4_offer_0 dbX4_offer_0 3 5 rfl
theorem dX4_offer_8 : decode cX4_offer 8 = .ok (.aload_n 0, 1) := dgs daX4_offer_0 dbX4_offer_0 4 8 rfl
theorem dX4_offer_9 : decode cX4_offer 9 = .ok (.getfield 34, 3) := dgs daX4_offer_0 dbX4_offer_0 5 9 rfl
theorem dX4_offer_12 : decode cX4_offer 12 = .ok (.iconst 5, 1) := dgs daX4_offer_0 dbX4_offer_0 6 12 rfl
theorem dX4_offer_13 : decode cX4_offer 13 = .ok (.if_icmp .ge 23, 3) := dgs daX4_offer_0 dbX4_offer_0 7 13 rfl
theorem dX4_offer_16 : decode cX4_offer 16 = .ok (.aload_n 0, 1) := dgs daX4_offer_0 dbX4_offer_0 8 16 rfl
theorem dX4_offer_17 : decode cX4_offer 17 = .ok (.getfield 11, 3) := dgs daX4_offer_0 dbX4_offer_0 9 17 rfl
theorem dX4_offer_20 : decode cX4_offer 20 = .ok (.aload_n 0, 1) := dgs daX4_offer_0 dbX4_offer_0 10 20 rfl
theorem dX4_offer_21 : decode cX4_offer 21 = .ok (.getfield 34, 3) := dgs daX4_offer_0 dbX4_offer_0 11 21 rfl
theorem dX4_offer_24 : decode cX4_offer 24 = .ok (.aload_n 1, 1) := dgs daX4_offer_0 dbX4_offer_0 12 24 rfl
theorem dX4_offer_25 : decode cX4_offer 25 = .ok (.aastore, 1) := dgs daX4_offer_0 dbX4_offer_0 13 25 rfl
theorem dX4_offer_26 : decode cX4_offer 26 = .ok (.aload_n 0, 1) := dgs daX4_offer_0 dbX4_offer_0 14 26 rfl
theorem dX4_offer_27 : decode cX4_offer 27 = .ok (.dup, 1) := dgs daX4_offer_0 dbX4_offer_0 15 27 rfl
theorem dX4_offer_28 : decode cX4_offer 28 = .ok (.getfield 34, 3) := dgs daX4_offer_0 dbX4_offer_0 16 28 rfl
theorem dX4_offer_31 : decode cX4_offer 31 = .ok (.iconst 1, 1) := dgs daX4_offer_0 dbX4_offer_0 17 31 rfl
theorem dX4_offer_32 : decode cX4_offer 32 = .ok (.iadd, 1) := dgs daX4_offer_0 dbX4_offer_0 18 32 rfl
theorem dX4_offer_33 : decode cX4_offer 33 = .ok (.putfield 34, 3) := dgs daX4_offer_0 dbX4_offer_0 19 33 rfl
theorem dX4_offer_36 : decode cX4_offer 36 = .ok (.aload_n 1, 1) := dgs daX4_offer_0 dbX4_offer_0 20 36 rfl
theorem dX4_offer_37 : decode cX4_offer 37 = .ok (.getfield 41, 3) := dgs daX4_offer_0 dbX4_offer_0 21 37 rfl
theorem dX4_offer_40 : decode cX4_offer 40 = .ok (.iload_n 3, 1) := dgs daX4_offer_0 dbX4_offer_0 22 40 rfl
theorem dX4_offer_41 : decode cX4_offer 41 = .ok (.if_icmp .ne 31, 3) := dgs daX4_offer_0 dbX4_offer_0 23 41 rfl
theorem dX4_offer_44 : decode cX4_offer 44 = .ok (.aload_n 0, 1) := dgs daX4_offer_0 dbX4_offer_0 24 44 rfl
theorem dX4_offer_45 : decode cX4_offer 45 = .ok (.getfield 38, 3) := dgs daX4_offer_0 dbX4_offer_0 25 45 rfl
theorem dX4_offer_48 : decode cX4_offer 48 = .ok (.iconst 5, 1) := dgs daX4_offer_0 dbX4_offer_0 26 48 rfl
theorem dX4_offer_49 : decode cX4_offer 49 = .ok (.if_icmp .ge 23, 3) := dgs daX4_offer_0 dbX4_offer_0 27 49 rfl
theorem dX4_offer_52 : decode cX4_offer 52 = .ok (.aload_n 0, 1) := dgs daX4_offer_0 dbX4_offer_0 28 52 rfl
theorem dX4_offer_53 : decode cX4_offer 53 = .ok (.getfield 17, 3) := dgs daX4_offer_0 dbX4_offer_0 29 53 rfl
theorem dX4_offer_56 : decode cX4_offer 56 = .ok (.aload_n 0, 1) := dgs daX4_offer_0 dbX4_offer_0 30 56 rfl
theorem dX4_offer_57 : decode cX4_offer 57 = .ok (.getfield 38, 3) := dgs daX4_offer_0 dbX4_offer_0 31 57 rfl
theorem dX4_offer_60 : decode cX4_offer 60 = .ok (.aload_n 1, 1) := dgs daX4_offer_0 dbX4_offer_0 32 60 rfl
theorem dX4_offer_61 : decode cX4_offer 61 = .ok (.aastore, 1) := dgs daX4_offer_0 dbX4_offer_0 33 61 rfl
theorem dX4_offer_62 : decode cX4_offer 62 = .ok (.aload_n 0, 1) := dgs daX4_offer_0 dbX4_offer_0 34 62 rfl
theorem dX4_offer_63 : decode cX4_offer 63 = .ok (.dup, 1) := dgs daX4_offer_0 dbX4_offer_0 35 63 rfl
theorem dX4_offer_64 : decode cX4_offer 64 = .ok (.getfield 38, 3) := dgs daX4_offer_0 dbX4_offer_0 36 64 rfl
theorem dX4_offer_67 : decode cX4_offer 67 = .ok (.iconst 1, 1) := dgs daX4_offer_0 dbX4_offer_0 37 67 rfl
theorem dX4_offer_68 : decode cX4_offer 68 = .ok (.iadd, 1) := dgs daX4_offer_0 dbX4_offer_0 38 68 rfl
theorem dX4_offer_69 : decode cX4_offer 69 = .ok (.putfield 38, 3) := dgs daX4_offer_0 dbX4_offer_0 39 69 rfl
theorem dX4_offer_72 : decode cX4_offer 72 = .ok (.return_, 1) := dgs daX4_offer_0 dbX4_offer_0 40 72 rfl
set_option maxRecDepth 20000 in
theorem ggX4_rollAll_X2_pairsWith : GoodIn wsX4_rollAll wsX2_pairsWith := goodIn_q _ [11, 12, 13, 64, 65, 66, 67, 68, 69, 70, 71, 72, 73, 74, 75, 76, 77, 78, 79, 80, 81, 82, 83] rfl (by decide +kernel)
set_option maxRecDepth 20000 in
theorem gX4_rollAll_X2_pairsWith : GoodIn wsX4_rollAll (wsV RX4 44 RX2 yX2_pairsWith wsX2_pairsWith) := goodIn_app (goodIn_q _ [7, 8, 9, 10] rfl (by decide +kernel)) ggX4_rollAll_X2_pairsWith
set_option maxRecDepth 20000 in
theorem ggX4_rollAll_X6_take : GoodIn wsX4_rollAll wsX6_take := goodIn_ca (goodIn_ca (goodIn_q _ [18, 19, 20, 21, 22, 23, 24, 25, 26, 27, 28, 29, 30, 31, 32, 33, 34, 35, 36, 37, 38, 17, 39, 84, 85, 86, 87, 88, 89, 90, 91] rfl (by decide +kernel)) (goodIn_sub (fun _ h => List.mem_cons_of_mem _ (List.mem_append_right _ h)) (by decide +kernel))) (goodIn_sub (fun _ h => List.mem_cons_of_mem _ (List.mem_append_left _ (List.mem_append_right _ h))) (by decide +kernel))
set_option maxRecDepth 20000 in
theorem gX4_rollAll_X6_take : GoodIn wsX4_rollAll (wsV RX4 52 RX6 yX6_take wsX6_take) := goodIn_app (goodIn_q _ [14, 15, 16, 17] rfl (by decide +kernel)) ggX4_rollAll_X6_take
set_option maxRecDepth 20000 in
theorem ggX4_rollAll_X6_quietStart : GoodIn wsX4_rollAll wsX6_quietStart := goodIn_ca (goodIn_q _ [43, 27, 44, 45, 46, 17, 47, 48, 49, 28, 30, 24, 25, 22, 26, 29, 31, 20, 21, 23, 50, 51, 52, 53, 87, 88, 89, 90, 91] rfl (by decide +kernel)) (goodIn_sub (fun _ h => List.mem_cons_of_mem _ (List.mem_append_left _ (List.mem_append_right _ h))) (by decide +kernel))
set_option maxRecDepth 20000 in
theorem gX4_rollAll_X6_quietStart : GoodIn wsX4_rollAll (wsV RX4 58 RX6 yX6_quietStart wsX6_quietStart) := goodIn_app (goodIn_q _ [40, 41, 42, 17] rfl (by decide +kernel)) ggX4_rollAll_X6_quietStart
set_option maxRecDepth 20000 in
theorem ggX4_rollAll_X6_peakFrom : GoodIn wsX4_rollAll wsX6_peakFrom := goodIn_ca (goodIn_q _ [47, 48, 49, 27, 28, 30, 24, 25, 22, 26, 29, 31, 20, 21, 23, 50, 51, 52, 53, 87, 88, 89, 90, 91] rfl (by decide +kernel)) (goodIn_sub (fun _ h => List.mem_cons_of_mem _ (List.mem_append_left _ (List.mem_append_right _ h))) (by decide +kernel))
set_option maxRecDepth 20000 in
theorem gX4_rollAll_X6_peakFrom : GoodIn wsX4_rollAll (wsV RX4 62 RX6 yX6_peakFrom wsX6_peakFrom) := goodIn_app (goodIn_q _ [54, 45, 46, 17] rfl (by decide +kernel)) ggX4_rollAll_X6_peakFrom
def dsX4_rollAll_0 : ByteArray := ⟨#[3, 61, 28, 42, 180, 0, 34, 162, 0, 94, 3, 62, 29, 42, 180, 0, 38, 162, 0, 78, 42, 180, 0, 20, 28, 8, 104, 29, 96, 2, 79, 42, 180, 0, 11, 28, 50, 42, 180, 0, 17, 29, 50, 182, 0, 44, 153, 0, 43, 43, 42, 180, 0, 11, 28, 50, 180, 0, 48, 42, 180, 0, 17, 29, 50, 180, 0, 48, 182, 0, 52, 42, 180, 0, 20, 28, 8, 104, 29, 96, 43, 43, 182, 0, 58, 182, 0, 62, 79, 132, 3, 1, 167, 255, 176, 132, 2, 1, 167, 255, 160, 177]⟩
theorem daX4_rollAll_0 : agB cX4_rollAll dsX4_rollAll_0 0 := agB_of (n := 102) (by decide +kernel)
def dlX4_rollAll_0 : List (Nat × Instr × Nat) := [(0, .iconst 0, 1), (1, .istore_n 2, 1), (2, .iload_n 2, 1), (3, .aload_n 0, 1), (4, .getfield 34, 3), (7, .if_icmp .ge 94, 3), (10, .iconst 0, 1), (11, .istore_n 3, 1), (12, .iload_n 3, 1), (13, .aload_n 0, 1), (14, .getfield 38, 3), (17, .if_icmp .ge 78, 3), (20, .aload_n 0, 1), (21, .getfield 20, 3), (24, .iload_n 2, 1), (25, .iconst 5, 1), (26, .imul, 1), (27, .iload_n 3, 1), (28, .iadd, 1), (29, .iconst (-1), 1), (30, .iastore, 1), (31, .aload_n 0, 1), (32, .getfield 11, 3), (35, .iload_n 2, 1), (36, .aaload, 1), (37, .aload_n 0, 1), (38, .getfield 17, 3), (41, .iload_n 3, 1), (42, .aaload, 1), (43, .invokevirtual 44, 3), (46, .ifCond .eq 43, 3), (49, .aload_n 1, 1), (50, .aload_n 0, 1), (51, .getfield 11, 3), (54, .iload_n 2, 1), (55, .aaload, 1), (56, .getfield 48, 3), (59, .aload_n 0, 1), (60, .getfield 17, 3), (63, .iload_n 3, 1), (64, .aaload, 1), (65, .getfield 48, 3), (68, .invokevirtual 52, 3), (71, .aload_n 0, 1), (72, .getfield 20, 3), (75, .iload_n 2, 1), (76, .iconst 5, 1), (77, .imul, 1), (78, .iload_n 3, 1), (79, .iadd, 1), (80, .aload_n 1, 1), (81, .aload_n 1, 1), (82, .invokevirtual 58, 3), (85, .invokevirtual 62, 3), (88, .iastore, 1), (89, .iinc 3 1, 3), (92, .goto (-80), 3), (95, .iinc 2 1, 3), (98, .goto (-96), 3), (101, .return_, 1)]
theorem dbX4_rollAll_0 : ∀ z ∈ dlX4_rollAll_0, decode dsX4_rollAll_0 z.1 = Except.ok z.2 ∧ okop dsX4_rollAll_0 z.1 = true := by decide +kernel
theorem dX4_rollAll_0 : decode cX4_rollAll 0 = .ok (.iconst 0, 1) := dgs daX4_rollAll_0 dbX4_rollAll_0 0 0 rfl
theorem dX4_rollAll_1 : decode cX4_rollAll 1 = .ok (.istore_n 2, 1) := dgs daX4_rollAll_0 dbX4_rollAll_0 1 1 rfl
theorem dX4_rollAll_2 : decode cX4_rollAll 2 = .ok (.iload_n 2, 1) := dgs daX4_rollAll_0 dbX4_rollAll_0 2 2 rfl
theorem dX4_rollAll_3 : decode cX4_rollAll 3 = .ok (.aload_n 0, 1) := dgs daX4_rollAll_0 dbX4_rollAll_0 3 3 rfl
theorem dX4_rollAll_4 : decode cX4_rollAll 4 = .ok (.getfield 34, 3) := dgs daX4_rollAll_0 dbX4_rollAll_0 4 4 rfl
theorem dX4_rollAll_7 : decode cX4_rollAll 7 = .ok (.if_icmp .ge 94, 3) := dgs daX4_rollAll_0 dbX4_rollAll_0 5 7 rfl
theorem dX4_rollAll_10 : decode cX4_rollAll 10 = .ok (.iconst 0, 1) := dgs daX4_rollAll_0 dbX4_rollAll_0 6 10 rfl
theorem dX4_rollAll_11 : decode cX4_rollAll 11 = .ok (.istore_n 3, 1) := dgs daX4_rollAll_0 dbX4_rollAll_0 7 11 rfl
theorem dX4_rollAll_12 : decode cX4_rollAll 12 = .ok (.iload_n 3, 1) := dgs daX4_rollAll_0 dbX4_rollAll_0 8 12 rfl
theorem dX4_rollAll_13 : decode cX4_rollAll 13 = .ok (.aload_n 0, 1) := dgs daX4_rollAll_0 dbX4_rollAll_0 9 13 rfl
theorem dX4_rollAll_14 : decode cX4_rollAll 14 = .ok (.getfield 38, 3) := dgs daX4_rollAll_0 dbX4_rollAll_0 10 14 rfl
theorem dX4_rollAll_17 : decode cX4_rollAll 17 = .ok (.if_icmp .ge 78, 3) := dgs daX4_rollAll_0 dbX4_rollAll_0 11 17 rfl
theorem dX4_rollAll_20 : decode cX4_rollAll 20 = .ok (.aload_n 0, 1) := dgs daX4_rollAll_0 dbX4_rollAll_0 12 20 rfl
theorem dX4_rollAll_21 : decode cX4_rollAll 21 = .ok (.getfield 20, 3) := dgs daX4_rollAll_0 dbX4_rollAll_0 13 21 rfl
theorem dX4_rollAll_24 : decode cX4_rollAll 24 = .ok (.iload_n 2, 1) := dgs daX4_rollAll_0 dbX4_rollAll_0 14 24 rfl
theorem dX4_rollAll_25 : decode cX4_rollAll 25 = .ok (.iconst 5, 1) := dgs daX4_rollAll_0 dbX4_rollAll_0 15 25 rfl
theorem dX4_rollAll_26 : decode cX4_rollAll 26 = .ok (.imul, 1) := dgs daX4_rollAll_0 dbX4_rollAll_0 16 26 rfl
theorem dX4_rollAll_27 : decode cX4_rollAll 27 = .ok (.iload_n 3, 1) := dgs daX4_rollAll_0 dbX4_rollAll_0 17 27 rfl
theorem dX4_rollAll_28 : decode cX4_rollAll 28 = .ok (.iadd, 1) := dgs daX4_rollAll_0 dbX4_rollAll_0 18 28 rfl
theorem dX4_rollAll_29 : decode cX4_rollAll 29 = .ok (.iconst (-1), 1) := dgs daX4_rollAll_0 dbX4_rollAll_0 19 29 rfl
theorem dX4_rollAll_30 : decode cX4_rollAll 30 = .ok (.iastore, 1) := dgs daX4_rollAll_0 dbX4_rollAll_0 20 30 rfl
theorem dX4_rollAll_31 : decode cX4_rollAll 31 = .ok (.aload_n 0, 1) := dgs daX4_rollAll_0 dbX4_rollAll_0 21 31 rfl
theorem dX4_rollAll_32 : decode cX4_rollAll 32 = .ok (.getfield 11, 3) := dgs daX4_rollAll_0 dbX4_rollAll_0 22 32 rfl
theorem dX4_rollAll_35 : decode cX4_rollAll 35 = .ok (.iload_n 2, 1) := dgs daX4_rollAll_0 dbX4_rollAll_0 23 35 rfl
theorem dX4_rollAll_36 : decode cX4_rollAll 36 = .ok (.aaload, 1) := dgs daX4_rollAll_0 dbX4_rollAll_0 24 36 rfl
theorem dX4_rollAll_37 : decode cX4_rollAll 37 = .ok (.aload_n 0, 1) := dgs daX4_rollAll_0 dbX4_rollAll_0 25 37 rfl
theorem dX4_rollAll_38 : decode cX4_rollAll 38 = .ok (.getfield 17, 3) := dgs daX4_rollAll_0 dbX4_rollAll_0 26 38 rfl
theorem dX4_rollAll_41 : decode cX4_rollAll 41 = .ok (.iload_n 3, 1) := dgs daX4_rollAll_0 dbX4_rollAll_0 27 41 rfl
theorem dX4_rollAll_42 : decode cX4_rollAll 42 = .ok (.aaload, 1) := dgs daX4_rollAll_0 dbX4_rollAll_0 28 42 rfl
theorem dX4_rollAll_43 : decode cX4_rollAll 43 = .ok (.invokevirtual 44, 3) := dgs daX4_rollAll_0 dbX4_rollAll_0 29 43 rfl
theorem dX4_rollAll_46 : decode cX4_rollAll 46 = .ok (.ifCond .eq 43, 3) := dgs daX4_rollAll_0 dbX4_rollAll_0 30 46 rfl
theorem dX4_rollAll_49 : decode cX4_rollAll 49 = .ok (.aload_n 1, 1) := dgs daX4_rollAll_0 dbX4_rollAll_0 31 49 rfl
theorem dX4_rollAll_50 : decode cX4_rollAll 50 = .ok (.aload_n 0, 1) := dgs daX4_rollAll_0 dbX4_rollAll_0 32 50 rfl
theorem dX4_rollAll_51 : decode cX4_rollAll 51 = .ok (.getfield 11, 3) := dgs daX4_rollAll_0 dbX4_rollAll_0 33 51 rfl
theorem dX4_rollAll_54 : decode cX4_rollAll 54 = .ok (.iload_n 2, 1) := dgs daX4_rollAll_0 dbX4_rollAll_0 34 54 rfl
theorem dX4_rollAll_55 : decode cX4_rollAll 55 = .ok (.aaload, 1) := dgs daX4_rollAll_0 dbX4_rollAll_0 35 55 rfl
theorem dX4_rollAll_56 : decode cX4_rollAll 56 = .ok (.getfield 48, 3) := dgs daX4_rollAll_0 dbX4_rollAll_0 36 56 rfl
theorem dX4_rollAll_59 : decode cX4_rollAll 59 = .ok (.aload_n 0, 1) := dgs daX4_rollAll_0 dbX4_rollAll_0 37 59 rfl
theorem dX4_rollAll_60 : decode cX4_rollAll 60 = .ok (.getfield 17, 3) := dgs daX4_rollAll_0 dbX4_rollAll_0 38 60 rfl
theorem dX4_rollAll_63 : decode cX4_rollAll 63 = .ok (.iload_n 3, 1) := dgs daX4_rollAll_0 dbX4_rollAll_0 39 63 rfl
theorem dX4_rollAll_64 : decode cX4_rollAll 64 = .ok (.aaload, 1) := dgs daX4_rollAll_0 dbX4_rollAll_0 40 64 rfl
theorem dX4_rollAll_65 : decode cX4_rollAll 65 = .ok (.getfield 48, 3) := dgs daX4_rollAll_0 dbX4_rollAll_0 41 65 rfl
theorem dX4_rollAll_68 : decode cX4_rollAll 68 = .ok (.invokevirtual 52, 3) := dgs daX4_rollAll_0 dbX4_rollAll_0 42 68 rfl
theorem dX4_rollAll_71 : decode cX4_rollAll 71 = .ok (.aload_n 0, 1) := dgs daX4_rollAll_0 dbX4_rollAll_0 43 71 rfl
theorem dX4_rollAll_72 : decode cX4_rollAll 72 = .ok (.getfield 20, 3) := dgs daX4_rollAll_0 dbX4_rollAll_0 44 72 rfl
theorem dX4_rollAll_75 : decode cX4_rollAll 75 = .ok (.iload_n 2, 1) := dgs daX4_rollAll_0 dbX4_rollAll_0 45 75 rfl
theorem dX4_rollAll_76 : decode cX4_rollAll 76 = .ok (.iconst 5, 1) := dgs daX4_rollAll_0 dbX4_rollAll_0 46 76 rfl
theorem dX4_rollAll_77 : decode cX4_rollAll 77 = .ok (.imul, 1) := dgs daX4_rollAll_0 dbX4_rollAll_0 47 77 rfl
theorem dX4_rollAll_78 : decode cX4_rollAll 78 = .ok (.iload_n 3, 1) := dgs daX4_rollAll_0 dbX4_rollAll_0 48 78 rfl
theorem dX4_rollAll_79 : decode cX4_rollAll 79 = .ok (.iadd, 1) := dgs daX4_rollAll_0 dbX4_rollAll_0 49 79 rfl
theorem dX4_rollAll_80 : decode cX4_rollAll 80 = .ok (.aload_n 1, 1) := dgs daX4_rollAll_0 dbX4_rollAll_0 50 80 rfl
theorem dX4_rollAll_81 : decode cX4_rollAll 81 = .ok (.aload_n 1, 1) := dgs daX4_rollAll_0 dbX4_rollAll_0 51 81 rfl
theorem dX4_rollAll_82 : decode cX4_rollAll 82 = .ok (.invokevirtual 58, 3) := dgs daX4_rollAll_0 dbX4_rollAll_0 52 82 rfl
theorem dX4_rollAll_85 : decode cX4_rollAll 85 = .ok (.invokevirtual 62, 3) := dgs daX4_rollAll_0 dbX4_rollAll_0 53 85 rfl
theorem dX4_rollAll_88 : decode cX4_rollAll 88 = .ok (.iastore, 1) := dgs daX4_rollAll_0 dbX4_rollAll_0 54 88 rfl
theorem dX4_rollAll_89 : decode cX4_rollAll 89 = .ok (.iinc 3 1, 3) := dgs daX4_rollAll_0 dbX4_rollAll_0 55 89 rfl
theorem dX4_rollAll_92 : decode cX4_rollAll 92 = .ok (.goto (-80), 3) := dgs daX4_rollAll_0 dbX4_rollAll_0 56 92 rfl
theorem dX4_rollAll_95 : decode cX4_rollAll 95 = .ok (.iinc 2 1, 3) := dgs daX4_rollAll_0 dbX4_rollAll_0 57 95 rfl
theorem dX4_rollAll_98 : decode cX4_rollAll 98 = .ok (.goto (-96), 3) := dgs daX4_rollAll_0 dbX4_rollAll_0 58 98 rfl
theorem dX4_rollAll_101 : decode cX4_rollAll 101 = .ok (.return_, 1) := dgs daX4_rollAll_0 dbX4_rollAll_0 59 101 rfl
set_option maxRecDepth 20000 in
theorem ggX4_search_X4_choose : GoodIn wsX4_search wsX4_choose := goodIn_ca (goodIn_q _ [9, 10, 11, 12, 3, 4, 13, 14, 15, 8, 16, 2, 5, 17, 18, 19, 20, 6, 7, 21, 22, 23, 24, 25, 26, 27, 28, 29] rfl (by decide +kernel)) (goodIn_sub (fun _ h => List.mem_cons_of_mem _ (List.mem_append_right _ h)) (by decide +kernel))
set_option maxRecDepth 20000 in
theorem gX4_search_X4_choose : GoodIn wsX4_search (va_wsS RX4 70 yX4_choose wsX4_choose) := goodIn_app (goodIn_q _ [6, 7, 8] rfl (by decide +kernel)) ggX4_search_X4_choose
def dsX4_search_0 : ByteArray := ⟨#[42, 18, 66, 181, 0, 67, 3, 61, 28, 8, 162, 0, 30, 42, 180, 0, 24, 28, 3, 84, 42, 180, 0, 28, 28, 2, 79, 42, 180, 0, 31, 28, 2, 79, 132, 2, 1, 167, 255, 227, 42, 3, 27, 3, 184, 0, 70, 42, 180, 0, 67, 18, 66, 162, 0, 7, 4, 167, 0, 4, 3, 172]⟩
theorem daX4_search_0 : agB cX4_search dsX4_search_0 0 := agB_of (n := 62) (by decide +kernel)
def dlX4_search_0 : List (Nat × Instr × Nat) := [(0, .aload_n 0, 1), (1, .ldc 66, 2), (3, .putfield 67, 3), (6, .iconst 0, 1), (7, .istore_n 2, 1), (8, .iload_n 2, 1), (9, .iconst 5, 1), (10, .if_icmp .ge 30, 3), (13, .aload_n 0, 1), (14, .getfield 24, 3), (17, .iload_n 2, 1), (18, .iconst 0, 1), (19, .bastore, 1), (20, .aload_n 0, 1), (21, .getfield 28, 3), (24, .iload_n 2, 1), (25, .iconst (-1), 1), (26, .iastore, 1), (27, .aload_n 0, 1), (28, .getfield 31, 3), (31, .iload_n 2, 1), (32, .iconst (-1), 1), (33, .iastore, 1), (34, .iinc 2 1, 3), (37, .goto (-29), 3), (40, .aload_n 0, 1), (41, .iconst 0, 1), (42, .iload_n 1, 1), (43, .iconst 0, 1), (44, .invokestatic 70, 3), (47, .aload_n 0, 1), (48, .getfield 67, 3), (51, .ldc 66, 2), (53, .if_icmp .ge 7, 3), (56, .iconst 1, 1), (57, .goto 4, 3), (60, .iconst 0, 1), (61, .ireturn, 1)]
theorem dbX4_search_0 : ∀ z ∈ dlX4_search_0, decode dsX4_search_0 z.1 = Except.ok z.2 ∧ okop dsX4_search_0 z.1 = true := by decide +kernel
theorem dX4_search_0 : decode cX4_search 0 = .ok (.aload_n 0, 1) := dgs daX4_search_0 dbX4_search_0 0 0 rfl
theorem dX4_search_1 : decode cX4_search 1 = .ok (.ldc 66, 2) := dgs daX4_search_0 dbX4_search_0 1 1 rfl
theorem dX4_search_3 : decode cX4_search 3 = .ok (.putfield 67, 3) := dgs daX4_search_0 dbX4_search_0 2 3 rfl
theorem dX4_search_6 : decode cX4_search 6 = .ok (.iconst 0, 1) := dgs daX4_search_0 dbX4_search_0 3 6 rfl
theorem dX4_search_7 : decode cX4_search 7 = .ok (.istore_n 2, 1) := dgs daX4_search_0 dbX4_search_0 4 7 rfl
theorem dX4_search_8 : decode cX4_search 8 = .ok (.iload_n 2, 1) := dgs daX4_search_0 dbX4_search_0 5 8 rfl
theorem dX4_search_9 : decode cX4_search 9 = .ok (.iconst 5, 1) := dgs daX4_search_0 dbX4_search_0 6 9 rfl
theorem dX4_search_10 : decode cX4_search 10 = .ok (.if_icmp .ge 30, 3) := dgs daX4_search_0 dbX4_search_0 7 10 rfl
theorem dX4_search_13 : decode cX4_search 13 = .ok (.aload_n 0, 1) := dgs daX4_search_0 dbX4_search_0 8 13 rfl
theorem dX4_search_14 : decode cX4_search 14 = .ok (.getfield 24, 3) := dgs daX4_search_0 dbX4_search_0 9 14 rfl
theorem dX4_search_17 : decode cX4_search 17 = .ok (.iload_n 2, 1) := dgs daX4_search_0 dbX4_search_0 10 17 rfl
theorem dX4_search_18 : decode cX4_search 18 = .ok (.iconst 0, 1) := dgs daX4_search_0 dbX4_search_0 11 18 rfl
theorem dX4_search_19 : decode cX4_search 19 = .ok (.bastore, 1) := dgs daX4_search_0 dbX4_search_0 12 19 rfl
theorem dX4_search_20 : decode cX4_search 20 = .ok (.aload_n 0, 1) := dgs daX4_search_0 dbX4_search_0 13 20 rfl
theorem dX4_search_21 : decode cX4_search 21 = .ok (.getfield 28, 3) := dgs daX4_search_0 dbX4_search_0 14 21 rfl
theorem dX4_search_24 : decode cX4_search 24 = .ok (.iload_n 2, 1) := dgs daX4_search_0 dbX4_search_0 15 24 rfl
theorem dX4_search_25 : decode cX4_search 25 = .ok (.iconst (-1), 1) := dgs daX4_search_0 dbX4_search_0 16 25 rfl
theorem dX4_search_26 : decode cX4_search 26 = .ok (.iastore, 1) := dgs daX4_search_0 dbX4_search_0 17 26 rfl
theorem dX4_search_27 : decode cX4_search 27 = .ok (.aload_n 0, 1) := dgs daX4_search_0 dbX4_search_0 18 27 rfl
theorem dX4_search_28 : decode cX4_search 28 = .ok (.getfield 31, 3) := dgs daX4_search_0 dbX4_search_0 19 28 rfl
theorem dX4_search_31 : decode cX4_search 31 = .ok (.iload_n 2, 1) := dgs daX4_search_0 dbX4_search_0 20 31 rfl
theorem dX4_search_32 : decode cX4_search 32 = .ok (.iconst (-1), 1) := dgs daX4_search_0 dbX4_search_0 21 32 rfl
theorem dX4_search_33 : decode cX4_search 33 = .ok (.iastore, 1) := dgs daX4_search_0 dbX4_search_0 22 33 rfl
theorem dX4_search_34 : decode cX4_search 34 = .ok (.iinc 2 1, 3) := dgs daX4_search_0 dbX4_search_0 23 34 rfl
theorem dX4_search_37 : decode cX4_search 37 = .ok (.goto (-29), 3) := dgs daX4_search_0 dbX4_search_0 24 37 rfl
theorem dX4_search_40 : decode cX4_search 40 = .ok (.aload_n 0, 1) := dgs daX4_search_0 dbX4_search_0 25 40 rfl
theorem dX4_search_41 : decode cX4_search 41 = .ok (.iconst 0, 1) := dgs daX4_search_0 dbX4_search_0 26 41 rfl
theorem dX4_search_42 : decode cX4_search 42 = .ok (.iload_n 1, 1) := dgs daX4_search_0 dbX4_search_0 27 42 rfl
theorem dX4_search_43 : decode cX4_search 43 = .ok (.iconst 0, 1) := dgs daX4_search_0 dbX4_search_0 28 43 rfl
theorem dX4_search_44 : decode cX4_search 44 = .ok (.invokestatic 70, 3) := dgs daX4_search_0 dbX4_search_0 29 44 rfl
theorem dX4_search_47 : decode cX4_search 47 = .ok (.aload_n 0, 1) := dgs daX4_search_0 dbX4_search_0 30 47 rfl
theorem dX4_search_48 : decode cX4_search 48 = .ok (.getfield 67, 3) := dgs daX4_search_0 dbX4_search_0 31 48 rfl
theorem dX4_search_51 : decode cX4_search 51 = .ok (.ldc 66, 2) := dgs daX4_search_0 dbX4_search_0 32 51 rfl
theorem dX4_search_53 : decode cX4_search 53 = .ok (.if_icmp .ge 7, 3) := dgs daX4_search_0 dbX4_search_0 33 53 rfl
theorem dX4_search_56 : decode cX4_search 56 = .ok (.iconst 1, 1) := dgs daX4_search_0 dbX4_search_0 34 56 rfl
theorem dX4_search_57 : decode cX4_search 57 = .ok (.goto 4, 3) := dgs daX4_search_0 dbX4_search_0 35 57 rfl
theorem dX4_search_60 : decode cX4_search 60 = .ok (.iconst 0, 1) := dgs daX4_search_0 dbX4_search_0 36 60 rfl
theorem dX4_search_61 : decode cX4_search 61 = .ok (.ireturn, 1) := dgs daX4_search_0 dbX4_search_0 37 61 rfl
set_option maxRecDepth 20000 in
theorem ggX4_choose_X4_keepIfLess : GoodIn wsX4_choose wsX4_keepIfLess := goodIn_q _ [10, 11, 5, 12, 13, 14, 15, 16, 19, 20, 21, 22, 23, 24, 25, 26, 27] rfl (by decide +kernel)
set_option maxRecDepth 20000 in
theorem gX4_choose_X4_keepIfLess : GoodIn wsX4_choose (wsV RX4 74 RX4 yX4_keepIfLess wsX4_keepIfLess) := goodIn_app (goodIn_q _ [6, 7, 8, 9] rfl (by decide +kernel)) ggX4_choose_X4_keepIfLess
set_option maxRecDepth 20000 in
theorem ggX4_choose_X4_choose : GoodIn wsX4_choose wsX4_choose := goodIn_ca (goodIn_q _ [0, 1, 2, 3, 4, 5, 6, 7, 8, 9, 10, 11, 12, 13, 14, 15, 16, 17, 18, 19, 20, 21, 22, 23, 24, 25, 26, 27] rfl (by decide +kernel)) (goodIn_sub (fun _ h => List.mem_cons_of_mem _ (List.mem_append_right _ h)) (by decide +kernel))
set_option maxRecDepth 20000 in
theorem gX4_choose_X4_choose : GoodIn wsX4_choose (va_wsS RX4 70 yX4_choose wsX4_choose) := goodIn_app (goodIn_q _ [17, 18, 9] rfl (by decide +kernel)) ggX4_choose_X4_choose
def dsX4_choose_0 : ByteArray := ⟨#[28, 154, 0, 9, 42, 29, 182, 0, 74, 177, 27, 42, 180, 0, 34, 162, 0, 8, 27, 8, 161, 0, 4, 177, 3, 54, 4, 21, 4, 42, 180, 0, 38, 162, 0, 83, 42, 180, 0, 20, 27, 8, 104, 21, 4, 96, 46, 54, 5, 21, 5, 2, 159, 0, 58, 42, 180, 0, 24, 21, 4, 51, 154, 0, 48, 42, 180, 0, 24, 21, 4, 4, 84, 42, 180, 0, 28, 27, 21, 4, 79, 42, 27, 4, 96, 28, 4, 100, 29, 21, 5, 96, 184, 0, 70, 42, 180, 0, 28, 27, 2, 79, 42, 180, 0, 24, 21, 4, 3, 84, 132, 4, 1, 167, 255, 170, 42, 27, 4, 96, 28]⟩
theorem daX4_choose_0 : agB cX4_choose dsX4_choose_0 0 := agB_of (n := 121) (by decide +kernel)
def dlX4_choose_0 : List (Nat × Instr × Nat) := [(0, .iload_n 2, 1), (1, .ifCond .ne 9, 3), (4, .aload_n 0, 1), (5, .iload_n 3, 1), (6, .invokevirtual 74, 3), (9, .return_, 1), (10, .iload_n 1, 1), (11, .aload_n 0, 1), (12, .getfield 34, 3), (15, .if_icmp .ge 8, 3), (18, .iload_n 1, 1), (19, .iconst 5, 1), (20, .if_icmp .lt 4, 3), (23, .return_, 1), (24, .iconst 0, 1), (25, .istore 4, 2), (27, .iload 4, 2), (29, .aload_n 0, 1), (30, .getfield 38, 3), (33, .if_icmp .ge 83, 3), (36, .aload_n 0, 1), (37, .getfield 20, 3), (40, .iload_n 1, 1), (41, .iconst 5, 1), (42, .imul, 1), (43, .iload 4, 2), (45, .iadd, 1), (46, .iaload, 1), (47, .istore 5, 2), (49, .iload 5, 2), (51, .iconst (-1), 1), (52, .if_icmp .eq 58, 3), (55, .aload_n 0, 1), (56, .getfield 24, 3), (59, .iload 4, 2), (61, .baload, 1), (62, .ifCond .ne 48, 3), (65, .aload_n 0, 1), (66, .getfield 24, 3), (69, .iload 4, 2), (71, .iconst 1, 1), (72, .bastore, 1), (73, .aload_n 0, 1), (74, .getfield 28, 3), (77, .iload_n 1, 1), (78, .iload 4, 2), (80, .iastore, 1), (81, .aload_n 0, 1), (82, .iload_n 1, 1), (83, .iconst 1, 1), (84, .iadd, 1), (85, .iload_n 2, 1), (86, .iconst 1, 1), (87, .isub, 1), (88, .iload_n 3, 1), (89, .iload 5, 2), (91, .iadd, 1), (92, .invokestatic 70, 3), (95, .aload_n 0, 1), (96, .getfield 28, 3), (99, .iload_n 1, 1), (100, .iconst (-1), 1), (101, .iastore, 1), (102, .aload_n 0, 1), (103, .getfield 24, 3), (106, .iload 4, 2), (108, .iconst 0, 1), (109, .bastore, 1), (110, .iinc 4 1, 3), (113, .goto (-86), 3), (116, .aload_n 0, 1), (117, .iload_n 1, 1), (118, .iconst 1, 1), (119, .iadd, 1), (120, .iload_n 2, 1)]
theorem dbX4_choose_0 : ∀ z ∈ dlX4_choose_0, decode dsX4_choose_0 z.1 = Except.ok z.2 ∧ okop dsX4_choose_0 z.1 = true := by decide +kernel
theorem dX4_choose_0 : decode cX4_choose 0 = .ok (.iload_n 2, 1) := dgs daX4_choose_0 dbX4_choose_0 0 0 rfl
theorem dX4_choose_1 : decode cX4_choose 1 = .ok (.ifCond .ne 9, 3) := dgs daX4_choose_0 dbX4_choose_0 1 1 rfl
theorem dX4_choose_4 : decode cX4_choose 4 = .ok (.aload_n 0, 1) := dgs daX4_choose_0 dbX4_choose_0 2 4 rfl
theorem dX4_choose_5 : decode cX4_choose 5 = .ok (.iload_n 3, 1) := dgs daX4_choose_0 dbX4_choose_0 3 5 rfl
theorem dX4_choose_6 : decode cX4_choose 6 = .ok (.invokevirtual 74, 3) := dgs daX4_choose_0 dbX4_choose_0 4 6 rfl
theorem dX4_choose_9 : decode cX4_choose 9 = .ok (.return_, 1) := dgs daX4_choose_0 dbX4_choose_0 5 9 rfl
theorem dX4_choose_10 : decode cX4_choose 10 = .ok (.iload_n 1, 1) := dgs daX4_choose_0 dbX4_choose_0 6 10 rfl
theorem dX4_choose_11 : decode cX4_choose 11 = .ok (.aload_n 0, 1) := dgs daX4_choose_0 dbX4_choose_0 7 11 rfl
theorem dX4_choose_12 : decode cX4_choose 12 = .ok (.getfield 34, 3) := dgs daX4_choose_0 dbX4_choose_0 8 12 rfl
theorem dX4_choose_15 : decode cX4_choose 15 = .ok (.if_icmp .ge 8, 3) := dgs daX4_choose_0 dbX4_choose_0 9 15 rfl
theorem dX4_choose_18 : decode cX4_choose 18 = .ok (.iload_n 1, 1) := dgs daX4_choose_0 dbX4_choose_0 10 18 rfl
theorem dX4_choose_19 : decode cX4_choose 19 = .ok (.iconst 5, 1) := dgs daX4_choose_0 dbX4_choose_0 11 19 rfl
theorem dX4_choose_20 : decode cX4_choose 20 = .ok (.if_icmp .lt 4, 3) := dgs daX4_choose_0 dbX4_choose_0 12 20 rfl
theorem dX4_choose_23 : decode cX4_choose 23 = .ok (.return_, 1) := dgs daX4_choose_0 dbX4_choose_0 13 23 rfl
theorem dX4_choose_24 : decode cX4_choose 24 = .ok (.iconst 0, 1) := dgs daX4_choose_0 dbX4_choose_0 14 24 rfl
theorem dX4_choose_25 : decode cX4_choose 25 = .ok (.istore 4, 2) := dgs daX4_choose_0 dbX4_choose_0 15 25 rfl
theorem dX4_choose_27 : decode cX4_choose 27 = .ok (.iload 4, 2) := dgs daX4_choose_0 dbX4_choose_0 16 27 rfl
theorem dX4_choose_29 : decode cX4_choose 29 = .ok (.aload_n 0, 1) := dgs daX4_choose_0 dbX4_choose_0 17 29 rfl
theorem dX4_choose_30 : decode cX4_choose 30 = .ok (.getfield 38, 3) := dgs daX4_choose_0 dbX4_choose_0 18 30 rfl
theorem dX4_choose_33 : decode cX4_choose 33 = .ok (.if_icmp .ge 83, 3) := dgs daX4_choose_0 dbX4_choose_0 19 33 rfl
theorem dX4_choose_36 : decode cX4_choose 36 = .ok (.aload_n 0, 1) := dgs daX4_choose_0 dbX4_choose_0 20 36 rfl
theorem dX4_choose_37 : decode cX4_choose 37 = .ok (.getfield 20, 3) := dgs daX4_choose_0 dbX4_choose_0 21 37 rfl
theorem dX4_choose_40 : decode cX4_choose 40 = .ok (.iload_n 1, 1) := dgs daX4_choose_0 dbX4_choose_0 22 40 rfl
theorem dX4_choose_41 : decode cX4_choose 41 = .ok (.iconst 5, 1) := dgs daX4_choose_0 dbX4_choose_0 23 41 rfl
theorem dX4_choose_42 : decode cX4_choose 42 = .ok (.imul, 1) := dgs daX4_choose_0 dbX4_choose_0 24 42 rfl
theorem dX4_choose_43 : decode cX4_choose 43 = .ok (.iload 4, 2) := dgs daX4_choose_0 dbX4_choose_0 25 43 rfl
theorem dX4_choose_45 : decode cX4_choose 45 = .ok (.iadd, 1) := dgs daX4_choose_0 dbX4_choose_0 26 45 rfl
theorem dX4_choose_46 : decode cX4_choose 46 = .ok (.iaload, 1) := dgs daX4_choose_0 dbX4_choose_0 27 46 rfl
theorem dX4_choose_47 : decode cX4_choose 47 = .ok (.istore 5, 2) := dgs daX4_choose_0 dbX4_choose_0 28 47 rfl
theorem dX4_choose_49 : decode cX4_choose 49 = .ok (.iload 5, 2) := dgs daX4_choose_0 dbX4_choose_0 29 49 rfl
theorem dX4_choose_51 : decode cX4_choose 51 = .ok (.iconst (-1), 1) := dgs daX4_choose_0 dbX4_choose_0 30 51 rfl
theorem dX4_choose_52 : decode cX4_choose 52 = .ok (.if_icmp .eq 58, 3) := dgs daX4_choose_0 dbX4_choose_0 31 52 rfl
theorem dX4_choose_55 : decode cX4_choose 55 = .ok (.aload_n 0, 1) := dgs daX4_choose_0 dbX4_choose_0 32 55 rfl
theorem dX4_choose_56 : decode cX4_choose 56 = .ok (.getfield 24, 3) := dgs daX4_choose_0 dbX4_choose_0 33 56 rfl
theorem dX4_choose_59 : decode cX4_choose 59 = .ok (.iload 4, 2) := dgs daX4_choose_0 dbX4_choose_0 34 59 rfl
theorem dX4_choose_61 : decode cX4_choose 61 = .ok (.baload, 1) := dgs daX4_choose_0 dbX4_choose_0 35 61 rfl
theorem dX4_choose_62 : decode cX4_choose 62 = .ok (.ifCond .ne 48, 3) := dgs daX4_choose_0 dbX4_choose_0 36 62 rfl
theorem dX4_choose_65 : decode cX4_choose 65 = .ok (.aload_n 0, 1) := dgs daX4_choose_0 dbX4_choose_0 37 65 rfl
theorem dX4_choose_66 : decode cX4_choose 66 = .ok (.getfield 24, 3) := dgs daX4_choose_0 dbX4_choose_0 38 66 rfl
theorem dX4_choose_69 : decode cX4_choose 69 = .ok (.iload 4, 2) := dgs daX4_choose_0 dbX4_choose_0 39 69 rfl
theorem dX4_choose_71 : decode cX4_choose 71 = .ok (.iconst 1, 1) := dgs daX4_choose_0 dbX4_choose_0 40 71 rfl
theorem dX4_choose_72 : decode cX4_choose 72 = .ok (.bastore, 1) := dgs daX4_choose_0 dbX4_choose_0 41 72 rfl
theorem dX4_choose_73 : decode cX4_choose 73 = .ok (.aload_n 0, 1) := dgs daX4_choose_0 dbX4_choose_0 42 73 rfl
theorem dX4_choose_74 : decode cX4_choose 74 = .ok (.getfield 28, 3) := dgs daX4_choose_0 dbX4_choose_0 43 74 rfl
theorem dX4_choose_77 : decode cX4_choose 77 = .ok (.iload_n 1, 1) := dgs daX4_choose_0 dbX4_choose_0 44 77 rfl
theorem dX4_choose_78 : decode cX4_choose 78 = .ok (.iload 4, 2) := dgs daX4_choose_0 dbX4_choose_0 45 78 rfl
theorem dX4_choose_80 : decode cX4_choose 80 = .ok (.iastore, 1) := dgs daX4_choose_0 dbX4_choose_0 46 80 rfl
theorem dX4_choose_81 : decode cX4_choose 81 = .ok (.aload_n 0, 1) := dgs daX4_choose_0 dbX4_choose_0 47 81 rfl
theorem dX4_choose_82 : decode cX4_choose 82 = .ok (.iload_n 1, 1) := dgs daX4_choose_0 dbX4_choose_0 48 82 rfl
theorem dX4_choose_83 : decode cX4_choose 83 = .ok (.iconst 1, 1) := dgs daX4_choose_0 dbX4_choose_0 49 83 rfl
theorem dX4_choose_84 : decode cX4_choose 84 = .ok (.iadd, 1) := dgs daX4_choose_0 dbX4_choose_0 50 84 rfl
theorem dX4_choose_85 : decode cX4_choose 85 = .ok (.iload_n 2, 1) := dgs daX4_choose_0 dbX4_choose_0 51 85 rfl
theorem dX4_choose_86 : decode cX4_choose 86 = .ok (.iconst 1, 1) := dgs daX4_choose_0 dbX4_choose_0 52 86 rfl
theorem dX4_choose_87 : decode cX4_choose 87 = .ok (.isub, 1) := dgs daX4_choose_0 dbX4_choose_0 53 87 rfl
theorem dX4_choose_88 : decode cX4_choose 88 = .ok (.iload_n 3, 1) := dgs daX4_choose_0 dbX4_choose_0 54 88 rfl
theorem dX4_choose_89 : decode cX4_choose 89 = .ok (.iload 5, 2) := dgs daX4_choose_0 dbX4_choose_0 55 89 rfl
theorem dX4_choose_91 : decode cX4_choose 91 = .ok (.iadd, 1) := dgs daX4_choose_0 dbX4_choose_0 56 91 rfl
theorem dX4_choose_92 : decode cX4_choose 92 = .ok (.invokestatic 70, 3) := dgs daX4_choose_0 dbX4_choose_0 57 92 rfl
theorem dX4_choose_95 : decode cX4_choose 95 = .ok (.aload_n 0, 1) := dgs daX4_choose_0 dbX4_choose_0 58 95 rfl
theorem dX4_choose_96 : decode cX4_choose 96 = .ok (.getfield 28, 3) := dgs daX4_choose_0 dbX4_choose_0 59 96 rfl
theorem dX4_choose_99 : decode cX4_choose 99 = .ok (.iload_n 1, 1) := dgs daX4_choose_0 dbX4_choose_0 60 99 rfl
theorem dX4_choose_100 : decode cX4_choose 100 = .ok (.iconst (-1), 1) := dgs daX4_choose_0 dbX4_choose_0 61 100 rfl
theorem dX4_choose_101 : decode cX4_choose 101 = .ok (.iastore, 1) := dgs daX4_choose_0 dbX4_choose_0 62 101 rfl
theorem dX4_choose_102 : decode cX4_choose 102 = .ok (.aload_n 0, 1) := dgs daX4_choose_0 dbX4_choose_0 63 102 rfl
theorem dX4_choose_103 : decode cX4_choose 103 = .ok (.getfield 24, 3) := dgs daX4_choose_0 dbX4_choose_0 64 103 rfl
theorem dX4_choose_106 : decode cX4_choose 106 = .ok (.iload 4, 2) := dgs daX4_choose_0 dbX4_choose_0 65 106 rfl
theorem dX4_choose_108 : decode cX4_choose 108 = .ok (.iconst 0, 1) := dgs daX4_choose_0 dbX4_choose_0 66 108 rfl
theorem dX4_choose_109 : decode cX4_choose 109 = .ok (.bastore, 1) := dgs daX4_choose_0 dbX4_choose_0 67 109 rfl
theorem dX4_choose_110 : decode cX4_choose 110 = .ok (.iinc 4 1, 3) := dgs daX4_choose_0 dbX4_choose_0 68 110 rfl
theorem dX4_choose_113 : decode cX4_choose 113 = .ok (.goto (-86), 3) := dgs daX4_choose_0 dbX4_choose_0 69 113 rfl
theorem dX4_choose_116 : decode cX4_choose 116 = .ok (.aload_n 0, 1) := dgs daX4_choose_0 dbX4_choose_0 70 116 rfl
theorem dX4_choose_117 : decode cX4_choose 117 = .ok (.iload_n 1, 1) := dgs daX4_choose_0 dbX4_choose_0 71 117 rfl
theorem dX4_choose_118 : decode cX4_choose 118 = .ok (.iconst 1, 1) := dgs daX4_choose_0 dbX4_choose_0 72 118 rfl
theorem dX4_choose_119 : decode cX4_choose 119 = .ok (.iadd, 1) := dgs daX4_choose_0 dbX4_choose_0 73 119 rfl
theorem dX4_choose_120 : decode cX4_choose 120 = .ok (.iload_n 2, 1) := dgs daX4_choose_0 dbX4_choose_0 74 120 rfl
def dsX4_choose_121 : ByteArray := ⟨#[29, 184, 0, 70, 177]⟩
theorem daX4_choose_121 : agB cX4_choose dsX4_choose_121 121 := agB_of (n := 5) (by decide +kernel)
def dlX4_choose_121 : List (Nat × Instr × Nat) := [(0, .iload_n 3, 1), (1, .invokestatic 70, 3), (4, .return_, 1)]
theorem dbX4_choose_121 : ∀ z ∈ dlX4_choose_121, decode dsX4_choose_121 z.1 = Except.ok z.2 ∧ okop dsX4_choose_121 z.1 = true := by decide +kernel
theorem dX4_choose_121 : decode cX4_choose 121 = .ok (.iload_n 3, 1) := dgs daX4_choose_121 dbX4_choose_121 0 0 rfl
theorem dX4_choose_122 : decode cX4_choose 122 = .ok (.invokestatic 70, 3) := dgs daX4_choose_121 dbX4_choose_121 1 1 rfl
theorem dX4_choose_125 : decode cX4_choose 125 = .ok (.return_, 1) := dgs daX4_choose_121 dbX4_choose_121 2 4 rfl
def dsX4_keepIfLess_0 : ByteArray := ⟨#[27, 42, 180, 0, 67, 162, 0, 22, 42, 27, 181, 0, 67, 42, 180, 0, 28, 3, 42, 180, 0, 31, 3, 8, 184, 0, 78, 177]⟩
theorem daX4_keepIfLess_0 : agB cX4_keepIfLess dsX4_keepIfLess_0 0 := agB_of (n := 28) (by decide +kernel)
def dlX4_keepIfLess_0 : List (Nat × Instr × Nat) := [(0, .iload_n 1, 1), (1, .aload_n 0, 1), (2, .getfield 67, 3), (5, .if_icmp .ge 22, 3), (8, .aload_n 0, 1), (9, .iload_n 1, 1), (10, .putfield 67, 3), (13, .aload_n 0, 1), (14, .getfield 28, 3), (17, .iconst 0, 1), (18, .aload_n 0, 1), (19, .getfield 31, 3), (22, .iconst 0, 1), (23, .iconst 5, 1), (24, .invokestatic 78, 3), (27, .return_, 1)]
theorem dbX4_keepIfLess_0 : ∀ z ∈ dlX4_keepIfLess_0, decode dsX4_keepIfLess_0 z.1 = Except.ok z.2 ∧ okop dsX4_keepIfLess_0 z.1 = true := by decide +kernel
theorem dX4_keepIfLess_0 : decode cX4_keepIfLess 0 = .ok (.iload_n 1, 1) := dgs daX4_keepIfLess_0 dbX4_keepIfLess_0 0 0 rfl
theorem dX4_keepIfLess_1 : decode cX4_keepIfLess 1 = .ok (.aload_n 0, 1) := dgs daX4_keepIfLess_0 dbX4_keepIfLess_0 1 1 rfl
theorem dX4_keepIfLess_2 : decode cX4_keepIfLess 2 = .ok (.getfield 67, 3) := dgs daX4_keepIfLess_0 dbX4_keepIfLess_0 2 2 rfl
theorem dX4_keepIfLess_5 : decode cX4_keepIfLess 5 = .ok (.if_icmp .ge 22, 3) := dgs daX4_keepIfLess_0 dbX4_keepIfLess_0 3 5 rfl
theorem dX4_keepIfLess_8 : decode cX4_keepIfLess 8 = .ok (.aload_n 0, 1) := dgs daX4_keepIfLess_0 dbX4_keepIfLess_0 4 8 rfl
theorem dX4_keepIfLess_9 : decode cX4_keepIfLess 9 = .ok (.iload_n 1, 1) := dgs daX4_keepIfLess_0 dbX4_keepIfLess_0 5 9 rfl
theorem dX4_keepIfLess_10 : decode cX4_keepIfLess 10 = .ok (.putfield 67, 3) := dgs daX4_keepIfLess_0 dbX4_keepIfLess_0 6 10 rfl
theorem dX4_keepIfLess_13 : decode cX4_keepIfLess 13 = .ok (.aload_n 0, 1) := dgs daX4_keepIfLess_0 dbX4_keepIfLess_0 7 13 rfl
theorem dX4_keepIfLess_14 : decode cX4_keepIfLess 14 = .ok (.getfield 28, 3) := dgs daX4_keepIfLess_0 dbX4_keepIfLess_0 8 14 rfl
theorem dX4_keepIfLess_17 : decode cX4_keepIfLess 17 = .ok (.iconst 0, 1) := dgs daX4_keepIfLess_0 dbX4_keepIfLess_0 9 17 rfl
theorem dX4_keepIfLess_18 : decode cX4_keepIfLess 18 = .ok (.aload_n 0, 1) := dgs daX4_keepIfLess_0 dbX4_keepIfLess_0 10 18 rfl
theorem dX4_keepIfLess_19 : decode cX4_keepIfLess 19 = .ok (.getfield 31, 3) := dgs daX4_keepIfLess_0 dbX4_keepIfLess_0 11 19 rfl
theorem dX4_keepIfLess_22 : decode cX4_keepIfLess 22 = .ok (.iconst 0, 1) := dgs daX4_keepIfLess_0 dbX4_keepIfLess_0 12 22 rfl
theorem dX4_keepIfLess_23 : decode cX4_keepIfLess 23 = .ok (.iconst 5, 1) := dgs daX4_keepIfLess_0 dbX4_keepIfLess_0 13 23 rfl
theorem dX4_keepIfLess_24 : decode cX4_keepIfLess 24 = .ok (.invokestatic 78, 3) := dgs daX4_keepIfLess_0 dbX4_keepIfLess_0 14 24 rfl
theorem dX4_keepIfLess_27 : decode cX4_keepIfLess 27 = .ok (.return_, 1) := dgs daX4_keepIfLess_0 dbX4_keepIfLess_0 15 27 rfl
def dsX4_bind_0 : ByteArray := ⟨#[3, 60, 27, 42, 180, 0, 34, 162, 0, 64, 42, 180, 0, 31, 27, 46, 61, 28, 155, 0, 47, 28, 42, 180, 0, 38, 162, 0, 39, 42, 180, 0, 11, 27, 50, 42, 180, 0, 17, 28, 50, 180, 0, 84, 181, 0, 87, 42, 180, 0, 17, 28, 50, 42, 180, 0, 11, 27, 50, 180, 0, 84, 181, 0, 87, 132, 1, 1, 167, 255, 190, 177]⟩
theorem daX4_bind_0 : agB cX4_bind dsX4_bind_0 0 := agB_of (n := 72) (by decide +kernel)
def dlX4_bind_0 : List (Nat × Instr × Nat) := [(0, .iconst 0, 1), (1, .istore_n 1, 1), (2, .iload_n 1, 1), (3, .aload_n 0, 1), (4, .getfield 34, 3), (7, .if_icmp .ge 64, 3), (10, .aload_n 0, 1), (11, .getfield 31, 3), (14, .iload_n 1, 1), (15, .iaload, 1), (16, .istore_n 2, 1), (17, .iload_n 2, 1), (18, .ifCond .lt 47, 3), (21, .iload_n 2, 1), (22, .aload_n 0, 1), (23, .getfield 38, 3), (26, .if_icmp .ge 39, 3), (29, .aload_n 0, 1), (30, .getfield 11, 3), (33, .iload_n 1, 1), (34, .aaload, 1), (35, .aload_n 0, 1), (36, .getfield 17, 3), (39, .iload_n 2, 1), (40, .aaload, 1), (41, .getfield 84, 3), (44, .putfield 87, 3), (47, .aload_n 0, 1), (48, .getfield 17, 3), (51, .iload_n 2, 1), (52, .aaload, 1), (53, .aload_n 0, 1), (54, .getfield 11, 3), (57, .iload_n 1, 1), (58, .aaload, 1), (59, .getfield 84, 3), (62, .putfield 87, 3), (65, .iinc 1 1, 3), (68, .goto (-66), 3), (71, .return_, 1)]
theorem dbX4_bind_0 : ∀ z ∈ dlX4_bind_0, decode dsX4_bind_0 z.1 = Except.ok z.2 ∧ okop dsX4_bind_0 z.1 = true := by decide +kernel
theorem dX4_bind_0 : decode cX4_bind 0 = .ok (.iconst 0, 1) := dgs daX4_bind_0 dbX4_bind_0 0 0 rfl
theorem dX4_bind_1 : decode cX4_bind 1 = .ok (.istore_n 1, 1) := dgs daX4_bind_0 dbX4_bind_0 1 1 rfl
theorem dX4_bind_2 : decode cX4_bind 2 = .ok (.iload_n 1, 1) := dgs daX4_bind_0 dbX4_bind_0 2 2 rfl
theorem dX4_bind_3 : decode cX4_bind 3 = .ok (.aload_n 0, 1) := dgs daX4_bind_0 dbX4_bind_0 3 3 rfl
theorem dX4_bind_4 : decode cX4_bind 4 = .ok (.getfield 34, 3) := dgs daX4_bind_0 dbX4_bind_0 4 4 rfl
theorem dX4_bind_7 : decode cX4_bind 7 = .ok (.if_icmp .ge 64, 3) := dgs daX4_bind_0 dbX4_bind_0 5 7 rfl
theorem dX4_bind_10 : decode cX4_bind 10 = .ok (.aload_n 0, 1) := dgs daX4_bind_0 dbX4_bind_0 6 10 rfl
theorem dX4_bind_11 : decode cX4_bind 11 = .ok (.getfield 31, 3) := dgs daX4_bind_0 dbX4_bind_0 7 11 rfl
theorem dX4_bind_14 : decode cX4_bind 14 = .ok (.iload_n 1, 1) := dgs daX4_bind_0 dbX4_bind_0 8 14 rfl
theorem dX4_bind_15 : decode cX4_bind 15 = .ok (.iaload, 1) := dgs daX4_bind_0 dbX4_bind_0 9 15 rfl
theorem dX4_bind_16 : decode cX4_bind 16 = .ok (.istore_n 2, 1) := dgs daX4_bind_0 dbX4_bind_0 10 16 rfl
theorem dX4_bind_17 : decode cX4_bind 17 = .ok (.iload_n 2, 1) := dgs daX4_bind_0 dbX4_bind_0 11 17 rfl
theorem dX4_bind_18 : decode cX4_bind 18 = .ok (.ifCond .lt 47, 3) := dgs daX4_bind_0 dbX4_bind_0 12 18 rfl
theorem dX4_bind_21 : decode cX4_bind 21 = .ok (.iload_n 2, 1) := dgs daX4_bind_0 dbX4_bind_0 13 21 rfl
theorem dX4_bind_22 : decode cX4_bind 22 = .ok (.aload_n 0, 1) := dgs daX4_bind_0 dbX4_bind_0 14 22 rfl
theorem dX4_bind_23 : decode cX4_bind 23 = .ok (.getfield 38, 3) := dgs daX4_bind_0 dbX4_bind_0 15 23 rfl
theorem dX4_bind_26 : decode cX4_bind 26 = .ok (.if_icmp .ge 39, 3) := dgs daX4_bind_0 dbX4_bind_0 16 26 rfl
theorem dX4_bind_29 : decode cX4_bind 29 = .ok (.aload_n 0, 1) := dgs daX4_bind_0 dbX4_bind_0 17 29 rfl
theorem dX4_bind_30 : decode cX4_bind 30 = .ok (.getfield 11, 3) := dgs daX4_bind_0 dbX4_bind_0 18 30 rfl
theorem dX4_bind_33 : decode cX4_bind 33 = .ok (.iload_n 1, 1) := dgs daX4_bind_0 dbX4_bind_0 19 33 rfl
theorem dX4_bind_34 : decode cX4_bind 34 = .ok (.aaload, 1) := dgs daX4_bind_0 dbX4_bind_0 20 34 rfl
theorem dX4_bind_35 : decode cX4_bind 35 = .ok (.aload_n 0, 1) := dgs daX4_bind_0 dbX4_bind_0 21 35 rfl
theorem dX4_bind_36 : decode cX4_bind 36 = .ok (.getfield 17, 3) := dgs daX4_bind_0 dbX4_bind_0 22 36 rfl
theorem dX4_bind_39 : decode cX4_bind 39 = .ok (.iload_n 2, 1) := dgs daX4_bind_0 dbX4_bind_0 23 39 rfl
theorem dX4_bind_40 : decode cX4_bind 40 = .ok (.aaload, 1) := dgs daX4_bind_0 dbX4_bind_0 24 40 rfl
theorem dX4_bind_41 : decode cX4_bind 41 = .ok (.getfield 84, 3) := dgs daX4_bind_0 dbX4_bind_0 25 41 rfl
theorem dX4_bind_44 : decode cX4_bind 44 = .ok (.putfield 87, 3) := dgs daX4_bind_0 dbX4_bind_0 26 44 rfl
theorem dX4_bind_47 : decode cX4_bind 47 = .ok (.aload_n 0, 1) := dgs daX4_bind_0 dbX4_bind_0 27 47 rfl
theorem dX4_bind_48 : decode cX4_bind 48 = .ok (.getfield 17, 3) := dgs daX4_bind_0 dbX4_bind_0 28 48 rfl
theorem dX4_bind_51 : decode cX4_bind 51 = .ok (.iload_n 2, 1) := dgs daX4_bind_0 dbX4_bind_0 29 51 rfl
theorem dX4_bind_52 : decode cX4_bind 52 = .ok (.aaload, 1) := dgs daX4_bind_0 dbX4_bind_0 30 52 rfl
theorem dX4_bind_53 : decode cX4_bind 53 = .ok (.aload_n 0, 1) := dgs daX4_bind_0 dbX4_bind_0 31 53 rfl
theorem dX4_bind_54 : decode cX4_bind 54 = .ok (.getfield 11, 3) := dgs daX4_bind_0 dbX4_bind_0 32 54 rfl
theorem dX4_bind_57 : decode cX4_bind 57 = .ok (.iload_n 1, 1) := dgs daX4_bind_0 dbX4_bind_0 33 57 rfl
theorem dX4_bind_58 : decode cX4_bind 58 = .ok (.aaload, 1) := dgs daX4_bind_0 dbX4_bind_0 34 58 rfl
theorem dX4_bind_59 : decode cX4_bind 59 = .ok (.getfield 84, 3) := dgs daX4_bind_0 dbX4_bind_0 35 59 rfl
theorem dX4_bind_62 : decode cX4_bind 62 = .ok (.putfield 87, 3) := dgs daX4_bind_0 dbX4_bind_0 36 62 rfl
theorem dX4_bind_65 : decode cX4_bind 65 = .ok (.iinc 1 1, 3) := dgs daX4_bind_0 dbX4_bind_0 37 65 rfl
theorem dX4_bind_68 : decode cX4_bind 68 = .ok (.goto (-66), 3) := dgs daX4_bind_0 dbX4_bind_0 38 68 rfl
theorem dX4_bind_71 : decode cX4_bind 71 = .ok (.return_, 1) := dgs daX4_bind_0 dbX4_bind_0 39 71 rfl
def dsX5_init_0 : ByteArray := ⟨#[42, 183, 0, 3, 42, 18, 9, 181, 0, 10, 42, 27, 181, 0, 16, 42, 28, 181, 0, 19, 42, 29, 181, 0, 22, 177]⟩
theorem daX5_init_0 : agB cX5_init dsX5_init_0 0 := agB_of (n := 26) (by decide +kernel)
def dlX5_init_0 : List (Nat × Instr × Nat) := [(0, .aload_n 0, 1), (1, .invokespecial 3, 3), (4, .aload_n 0, 1), (5, .ldc 9, 2), (7, .putfield 10, 3), (10, .aload_n 0, 1), (11, .iload_n 1, 1), (12, .putfield 16, 3), (15, .aload_n 0, 1), (16, .iload_n 2, 1), (17, .putfield 19, 3), (20, .aload_n 0, 1), (21, .iload_n 3, 1), (22, .putfield 22, 3), (25, .return_, 1)]
theorem dbX5_init_0 : ∀ z ∈ dlX5_init_0, decode dsX5_init_0 z.1 = Except.ok z.2 ∧ okop dsX5_init_0 z.1 = true := by decide +kernel
theorem dX5_init_0 : decode cX5_init 0 = .ok (.aload_n 0, 1) := dgs daX5_init_0 dbX5_init_0 0 0 rfl
theorem dX5_init_1 : decode cX5_init 1 = .ok (.invokespecial 3, 3) := dgs daX5_init_0 dbX5_init_0 1 1 rfl
theorem dX5_init_4 : decode cX5_init 4 = .ok (.aload_n 0, 1) := dgs daX5_init_0 dbX5_init_0 2 4 rfl
theorem dX5_init_5 : decode cX5_init 5 = .ok (.ldc 9, 2) := dgs daX5_init_0 dbX5_init_0 3 5 rfl
theorem dX5_init_7 : decode cX5_init 7 = .ok (.putfield 10, 3) := dgs daX5_init_0 dbX5_init_0 4 7 rfl
theorem dX5_init_10 : decode cX5_init 10 = .ok (.aload_n 0, 1) := dgs daX5_init_0 dbX5_init_0 5 10 rfl
theorem dX5_init_11 : decode cX5_init 11 = .ok (.iload_n 1, 1) := dgs daX5_init_0 dbX5_init_0 6 11 rfl
theorem dX5_init_12 : decode cX5_init 12 = .ok (.putfield 16, 3) := dgs daX5_init_0 dbX5_init_0 7 12 rfl
theorem dX5_init_15 : decode cX5_init 15 = .ok (.aload_n 0, 1) := dgs daX5_init_0 dbX5_init_0 8 15 rfl
theorem dX5_init_16 : decode cX5_init 16 = .ok (.iload_n 2, 1) := dgs daX5_init_0 dbX5_init_0 9 16 rfl
theorem dX5_init_17 : decode cX5_init 17 = .ok (.putfield 19, 3) := dgs daX5_init_0 dbX5_init_0 10 17 rfl
theorem dX5_init_20 : decode cX5_init 20 = .ok (.aload_n 0, 1) := dgs daX5_init_0 dbX5_init_0 11 20 rfl
theorem dX5_init_21 : decode cX5_init 21 = .ok (.iload_n 3, 1) := dgs daX5_init_0 dbX5_init_0 12 21 rfl
theorem dX5_init_22 : decode cX5_init 22 = .ok (.putfield 22, 3) := dgs daX5_init_0 dbX5_init_0 13 22 rfl
theorem dX5_init_25 : decode cX5_init 25 = .ok (.return_, 1) := dgs daX5_init_0 dbX5_init_0 14 25 rfl
def dsX5_isFound_0 : ByteArray := ⟨#[42, 180, 0, 10, 18, 9, 162, 0, 7, 4, 167, 0, 4, 3, 172]⟩
theorem daX5_isFound_0 : agB cX5_isFound dsX5_isFound_0 0 := agB_of (n := 15) (by decide +kernel)
def dlX5_isFound_0 : List (Nat × Instr × Nat) := [(0, .aload_n 0, 1), (1, .getfield 10, 3), (4, .ldc 9, 2), (6, .if_icmp .ge 7, 3), (9, .iconst 1, 1), (10, .goto 4, 3), (13, .iconst 0, 1), (14, .ireturn, 1)]
theorem dbX5_isFound_0 : ∀ z ∈ dlX5_isFound_0, decode dsX5_isFound_0 z.1 = Except.ok z.2 ∧ okop dsX5_isFound_0 z.1 = true := by decide +kernel
theorem dX5_isFound_0 : decode cX5_isFound 0 = .ok (.aload_n 0, 1) := dgs daX5_isFound_0 dbX5_isFound_0 0 0 rfl
theorem dX5_isFound_1 : decode cX5_isFound 1 = .ok (.getfield 10, 3) := dgs daX5_isFound_0 dbX5_isFound_0 1 1 rfl
theorem dX5_isFound_4 : decode cX5_isFound 4 = .ok (.ldc 9, 2) := dgs daX5_isFound_0 dbX5_isFound_0 2 4 rfl
theorem dX5_isFound_6 : decode cX5_isFound 6 = .ok (.if_icmp .ge 7, 3) := dgs daX5_isFound_0 dbX5_isFound_0 3 6 rfl
theorem dX5_isFound_9 : decode cX5_isFound 9 = .ok (.iconst 1, 1) := dgs daX5_isFound_0 dbX5_isFound_0 4 9 rfl
theorem dX5_isFound_10 : decode cX5_isFound 10 = .ok (.goto 4, 3) := dgs daX5_isFound_0 dbX5_isFound_0 5 10 rfl
theorem dX5_isFound_13 : decode cX5_isFound 13 = .ok (.iconst 0, 1) := dgs daX5_isFound_0 dbX5_isFound_0 6 13 rfl
theorem dX5_isFound_14 : decode cX5_isFound 14 = .ok (.ireturn, 1) := dgs daX5_isFound_0 dbX5_isFound_0 7 14 rfl
set_option maxRecDepth 20000 in
theorem ggX5_search_X5_isFound : GoodIn wsX5_search wsX5_isFound := goodIn_q _ [5, 6, 7, 20, 21, 22, 23, 24, 25] rfl (by decide +kernel)
set_option maxRecDepth 20000 in
theorem gX5_search_X5_isFound : GoodIn wsX5_search (wsV RX5 25 RX5 yX5_isFound wsX5_isFound) := goodIn_app (goodIn_q _ [1, 2, 3, 4] rfl (by decide +kernel)) ggX5_search_X5_isFound
set_option maxRecDepth 20000 in
theorem ggX5_search_X5_compare : GoodIn wsX5_search wsX5_compare := goodIn_q _ [11, 12, 13, 14, 6, 15, 16, 17, 18, 19, 20, 21, 22, 23, 24, 25] rfl (by decide +kernel)
set_option maxRecDepth 20000 in
theorem gX5_search_X5_compare : GoodIn wsX5_search (wsV RX5 29 RX5 yX5_compare wsX5_compare) := goodIn_app (goodIn_q _ [8, 9, 10, 4] rfl (by decide +kernel)) ggX5_search_X5_compare
theorem dX5_search_39 : decode cX5_search 39 = .ok (.iinc 2 250, 6) := by decide +kernel
def dsX5_search_0 : ByteArray := ⟨#[3, 60, 27, 16, 50, 163, 0, 49, 42, 182, 0, 25, 154, 0, 42, 17, 1, 244, 61, 28, 17, 39, 16, 163, 0, 25, 42, 28, 27, 182, 0, 29, 42, 28, 27, 116, 182, 0, 29, 196, 132, 0, 2, 0, 250, 167, 255, 230, 132, 1, 1, 167, 255, 207, 177]⟩
theorem daX5_search_0 : agB cX5_search dsX5_search_0 0 := agB_of (n := 55) (by decide +kernel)
def dlX5_search_0 : List (Nat × Instr × Nat) := [(0, .iconst 0, 1), (1, .istore_n 1, 1), (2, .iload_n 1, 1), (3, .bipush 50, 2), (5, .if_icmp .gt 49, 3), (8, .aload_n 0, 1), (9, .invokevirtual 25, 3), (12, .ifCond .ne 42, 3), (15, .sipush 500, 3), (18, .istore_n 2, 1), (19, .iload_n 2, 1), (20, .sipush 10000, 3), (23, .if_icmp .gt 25, 3), (26, .aload_n 0, 1), (27, .iload_n 2, 1), (28, .iload_n 1, 1), (29, .invokevirtual 29, 3), (32, .aload_n 0, 1), (33, .iload_n 2, 1), (34, .iload_n 1, 1), (35, .ineg, 1), (36, .invokevirtual 29, 3), (45, .goto (-26), 3), (48, .iinc 1 1, 3), (51, .goto (-49), 3), (54, .return_, 1)]
theorem dbX5_search_0 : ∀ z ∈ dlX5_search_0, decode dsX5_search_0 z.1 = Except.ok z.2 ∧ okop dsX5_search_0 z.1 = true := by decide +kernel
theorem dX5_search_0 : decode cX5_search 0 = .ok (.iconst 0, 1) := dgs daX5_search_0 dbX5_search_0 0 0 rfl
theorem dX5_search_1 : decode cX5_search 1 = .ok (.istore_n 1, 1) := dgs daX5_search_0 dbX5_search_0 1 1 rfl
theorem dX5_search_2 : decode cX5_search 2 = .ok (.iload_n 1, 1) := dgs daX5_search_0 dbX5_search_0 2 2 rfl
theorem dX5_search_3 : decode cX5_search 3 = .ok (.bipush 50, 2) := dgs daX5_search_0 dbX5_search_0 3 3 rfl
theorem dX5_search_5 : decode cX5_search 5 = .ok (.if_icmp .gt 49, 3) := dgs daX5_search_0 dbX5_search_0 4 5 rfl
theorem dX5_search_8 : decode cX5_search 8 = .ok (.aload_n 0, 1) := dgs daX5_search_0 dbX5_search_0 5 8 rfl
theorem dX5_search_9 : decode cX5_search 9 = .ok (.invokevirtual 25, 3) := dgs daX5_search_0 dbX5_search_0 6 9 rfl
theorem dX5_search_12 : decode cX5_search 12 = .ok (.ifCond .ne 42, 3) := dgs daX5_search_0 dbX5_search_0 7 12 rfl
theorem dX5_search_15 : decode cX5_search 15 = .ok (.sipush 500, 3) := dgs daX5_search_0 dbX5_search_0 8 15 rfl
theorem dX5_search_18 : decode cX5_search 18 = .ok (.istore_n 2, 1) := dgs daX5_search_0 dbX5_search_0 9 18 rfl
theorem dX5_search_19 : decode cX5_search 19 = .ok (.iload_n 2, 1) := dgs daX5_search_0 dbX5_search_0 10 19 rfl
theorem dX5_search_20 : decode cX5_search 20 = .ok (.sipush 10000, 3) := dgs daX5_search_0 dbX5_search_0 11 20 rfl
theorem dX5_search_23 : decode cX5_search 23 = .ok (.if_icmp .gt 25, 3) := dgs daX5_search_0 dbX5_search_0 12 23 rfl
theorem dX5_search_26 : decode cX5_search 26 = .ok (.aload_n 0, 1) := dgs daX5_search_0 dbX5_search_0 13 26 rfl
theorem dX5_search_27 : decode cX5_search 27 = .ok (.iload_n 2, 1) := dgs daX5_search_0 dbX5_search_0 14 27 rfl
theorem dX5_search_28 : decode cX5_search 28 = .ok (.iload_n 1, 1) := dgs daX5_search_0 dbX5_search_0 15 28 rfl
theorem dX5_search_29 : decode cX5_search 29 = .ok (.invokevirtual 29, 3) := dgs daX5_search_0 dbX5_search_0 16 29 rfl
theorem dX5_search_32 : decode cX5_search 32 = .ok (.aload_n 0, 1) := dgs daX5_search_0 dbX5_search_0 17 32 rfl
theorem dX5_search_33 : decode cX5_search 33 = .ok (.iload_n 2, 1) := dgs daX5_search_0 dbX5_search_0 18 33 rfl
theorem dX5_search_34 : decode cX5_search 34 = .ok (.iload_n 1, 1) := dgs daX5_search_0 dbX5_search_0 19 34 rfl
theorem dX5_search_35 : decode cX5_search 35 = .ok (.ineg, 1) := dgs daX5_search_0 dbX5_search_0 20 35 rfl
theorem dX5_search_36 : decode cX5_search 36 = .ok (.invokevirtual 29, 3) := dgs daX5_search_0 dbX5_search_0 21 36 rfl
theorem dX5_search_45 : decode cX5_search 45 = .ok (.goto (-26), 3) := dgs daX5_search_0 dbX5_search_0 22 45 rfl
theorem dX5_search_48 : decode cX5_search 48 = .ok (.iinc 1 1, 3) := dgs daX5_search_0 dbX5_search_0 23 48 rfl
theorem dX5_search_51 : decode cX5_search 51 = .ok (.goto (-49), 3) := dgs daX5_search_0 dbX5_search_0 24 51 rfl
theorem dX5_search_54 : decode cX5_search 54 = .ok (.return_, 1) := dgs daX5_search_0 dbX5_search_0 25 54 rfl
set_option maxRecDepth 20000 in
theorem ggX5_compare_X9_tipOf : GoodIn wsX5_compare wsX9_tipOf := goodIn_q _ [9] rfl (by decide +kernel)
set_option maxRecDepth 20000 in
theorem gX5_compare_X9_tipOf_n33 : GoodIn wsX5_compare (wsX9_tipOf) := ggX5_compare_X9_tipOf
def dsX5_compare_0 : ByteArray := ⟨#[42, 180, 0, 16, 27, 28, 184, 0, 33, 62, 29, 42, 180, 0, 19, 161, 0, 20, 29, 42, 180, 0, 19, 100, 42, 180, 0, 22, 163, 0, 7, 4, 167, 0, 4, 3, 54, 4, 21, 4, 153, 0, 26, 29, 42, 180, 0, 10, 162, 0, 18, 42, 29, 181, 0, 10, 42, 27, 181, 0, 37, 42, 28, 181, 0, 40, 177]⟩
theorem daX5_compare_0 : agB cX5_compare dsX5_compare_0 0 := agB_of (n := 67) (by decide +kernel)
def dlX5_compare_0 : List (Nat × Instr × Nat) := [(0, .aload_n 0, 1), (1, .getfield 16, 3), (4, .iload_n 1, 1), (5, .iload_n 2, 1), (6, .invokestatic 33, 3), (9, .istore_n 3, 1), (10, .iload_n 3, 1), (11, .aload_n 0, 1), (12, .getfield 19, 3), (15, .if_icmp .lt 20, 3), (18, .iload_n 3, 1), (19, .aload_n 0, 1), (20, .getfield 19, 3), (23, .isub, 1), (24, .aload_n 0, 1), (25, .getfield 22, 3), (28, .if_icmp .gt 7, 3), (31, .iconst 1, 1), (32, .goto 4, 3), (35, .iconst 0, 1), (36, .istore 4, 2), (38, .iload 4, 2), (40, .ifCond .eq 26, 3), (43, .iload_n 3, 1), (44, .aload_n 0, 1), (45, .getfield 10, 3), (48, .if_icmp .ge 18, 3), (51, .aload_n 0, 1), (52, .iload_n 3, 1), (53, .putfield 10, 3), (56, .aload_n 0, 1), (57, .iload_n 1, 1), (58, .putfield 37, 3), (61, .aload_n 0, 1), (62, .iload_n 2, 1), (63, .putfield 40, 3), (66, .return_, 1)]
theorem dbX5_compare_0 : ∀ z ∈ dlX5_compare_0, decode dsX5_compare_0 z.1 = Except.ok z.2 ∧ okop dsX5_compare_0 z.1 = true := by decide +kernel
theorem dX5_compare_0 : decode cX5_compare 0 = .ok (.aload_n 0, 1) := dgs daX5_compare_0 dbX5_compare_0 0 0 rfl
theorem dX5_compare_1 : decode cX5_compare 1 = .ok (.getfield 16, 3) := dgs daX5_compare_0 dbX5_compare_0 1 1 rfl
theorem dX5_compare_4 : decode cX5_compare 4 = .ok (.iload_n 1, 1) := dgs daX5_compare_0 dbX5_compare_0 2 4 rfl
theorem dX5_compare_5 : decode cX5_compare 5 = .ok (.iload_n 2, 1) := dgs daX5_compare_0 dbX5_compare_0 3 5 rfl
theorem dX5_compare_6 : decode cX5_compare 6 = .ok (.invokestatic 33, 3) := dgs daX5_compare_0 dbX5_compare_0 4 6 rfl
theorem dX5_compare_9 : decode cX5_compare 9 = .ok (.istore_n 3, 1) := dgs daX5_compare_0 dbX5_compare_0 5 9 rfl
theorem dX5_compare_10 : decode cX5_compare 10 = .ok (.iload_n 3, 1) := dgs daX5_compare_0 dbX5_compare_0 6 10 rfl
theorem dX5_compare_11 : decode cX5_compare 11 = .ok (.aload_n 0, 1) := dgs daX5_compare_0 dbX5_compare_0 7 11 rfl
theorem dX5_compare_12 : decode cX5_compare 12 = .ok (.getfield 19, 3) := dgs daX5_compare_0 dbX5_compare_0 8 12 rfl
theorem dX5_compare_15 : decode cX5_compare 15 = .ok (.if_icmp .lt 20, 3) := dgs daX5_compare_0 dbX5_compare_0 9 15 rfl
theorem dX5_compare_18 : decode cX5_compare 18 = .ok (.iload_n 3, 1) := dgs daX5_compare_0 dbX5_compare_0 10 18 rfl
theorem dX5_compare_19 : decode cX5_compare 19 = .ok (.aload_n 0, 1) := dgs daX5_compare_0 dbX5_compare_0 11 19 rfl
theorem dX5_compare_20 : decode cX5_compare 20 = .ok (.getfield 19, 3) := dgs daX5_compare_0 dbX5_compare_0 12 20 rfl
theorem dX5_compare_23 : decode cX5_compare 23 = .ok (.isub, 1) := dgs daX5_compare_0 dbX5_compare_0 13 23 rfl
theorem dX5_compare_24 : decode cX5_compare 24 = .ok (.aload_n 0, 1) := dgs daX5_compare_0 dbX5_compare_0 14 24 rfl
theorem dX5_compare_25 : decode cX5_compare 25 = .ok (.getfield 22, 3) := dgs daX5_compare_0 dbX5_compare_0 15 25 rfl
theorem dX5_compare_28 : decode cX5_compare 28 = .ok (.if_icmp .gt 7, 3) := dgs daX5_compare_0 dbX5_compare_0 16 28 rfl
theorem dX5_compare_31 : decode cX5_compare 31 = .ok (.iconst 1, 1) := dgs daX5_compare_0 dbX5_compare_0 17 31 rfl
theorem dX5_compare_32 : decode cX5_compare 32 = .ok (.goto 4, 3) := dgs daX5_compare_0 dbX5_compare_0 18 32 rfl
theorem dX5_compare_35 : decode cX5_compare 35 = .ok (.iconst 0, 1) := dgs daX5_compare_0 dbX5_compare_0 19 35 rfl
theorem dX5_compare_36 : decode cX5_compare 36 = .ok (.istore 4, 2) := dgs daX5_compare_0 dbX5_compare_0 20 36 rfl
theorem dX5_compare_38 : decode cX5_compare 38 = .ok (.iload 4, 2) := dgs daX5_compare_0 dbX5_compare_0 21 38 rfl
theorem dX5_compare_40 : decode cX5_compare 40 = .ok (.ifCond .eq 26, 3) := dgs daX5_compare_0 dbX5_compare_0 22 40 rfl
theorem dX5_compare_43 : decode cX5_compare 43 = .ok (.iload_n 3, 1) := dgs daX5_compare_0 dbX5_compare_0 23 43 rfl
theorem dX5_compare_44 : decode cX5_compare 44 = .ok (.aload_n 0, 1) := dgs daX5_compare_0 dbX5_compare_0 24 44 rfl
theorem dX5_compare_45 : decode cX5_compare 45 = .ok (.getfield 10, 3) := dgs daX5_compare_0 dbX5_compare_0 25 45 rfl
theorem dX5_compare_48 : decode cX5_compare 48 = .ok (.if_icmp .ge 18, 3) := dgs daX5_compare_0 dbX5_compare_0 26 48 rfl
theorem dX5_compare_51 : decode cX5_compare 51 = .ok (.aload_n 0, 1) := dgs daX5_compare_0 dbX5_compare_0 27 51 rfl
theorem dX5_compare_52 : decode cX5_compare 52 = .ok (.iload_n 3, 1) := dgs daX5_compare_0 dbX5_compare_0 28 52 rfl
theorem dX5_compare_53 : decode cX5_compare 53 = .ok (.putfield 10, 3) := dgs daX5_compare_0 dbX5_compare_0 29 53 rfl
theorem dX5_compare_56 : decode cX5_compare 56 = .ok (.aload_n 0, 1) := dgs daX5_compare_0 dbX5_compare_0 30 56 rfl
theorem dX5_compare_57 : decode cX5_compare 57 = .ok (.iload_n 1, 1) := dgs daX5_compare_0 dbX5_compare_0 31 57 rfl
theorem dX5_compare_58 : decode cX5_compare 58 = .ok (.putfield 37, 3) := dgs daX5_compare_0 dbX5_compare_0 32 58 rfl
theorem dX5_compare_61 : decode cX5_compare 61 = .ok (.aload_n 0, 1) := dgs daX5_compare_0 dbX5_compare_0 33 61 rfl
theorem dX5_compare_62 : decode cX5_compare 62 = .ok (.iload_n 2, 1) := dgs daX5_compare_0 dbX5_compare_0 34 62 rfl
theorem dX5_compare_63 : decode cX5_compare 63 = .ok (.putfield 40, 3) := dgs daX5_compare_0 dbX5_compare_0 35 63 rfl
theorem dX5_compare_66 : decode cX5_compare 66 = .ok (.return_, 1) := dgs daX5_compare_0 dbX5_compare_0 36 66 rfl
theorem dX6_init_8 : decode cX6_init 8 = .ok (.newarray .int, 2) := by decide +kernel
theorem dX6_init_17 : decode cX6_init 17 = .ok (.newarray .int, 2) := by decide +kernel
theorem dX6_init_26 : decode cX6_init 26 = .ok (.newarray .int, 2) := by decide +kernel
theorem dX6_init_35 : decode cX6_init 35 = .ok (.newarray .int, 2) := by decide +kernel
def dsX6_init_0 : ByteArray := ⟨#[42, 183, 0, 3, 42, 17, 0, 200, 188, 10, 181, 0, 9, 42, 17, 0, 200, 188, 10, 181, 0, 15, 42, 17, 0, 200, 188, 10, 181, 0, 18, 42, 17, 0, 200, 188, 10, 181, 0, 21, 42, 4, 181, 0, 24, 177]⟩
theorem daX6_init_0 : agB cX6_init dsX6_init_0 0 := agB_of (n := 46) (by decide +kernel)
def dlX6_init_0 : List (Nat × Instr × Nat) := [(0, .aload_n 0, 1), (1, .invokespecial 3, 3), (4, .aload_n 0, 1), (5, .sipush 200, 3), (10, .putfield 9, 3), (13, .aload_n 0, 1), (14, .sipush 200, 3), (19, .putfield 15, 3), (22, .aload_n 0, 1), (23, .sipush 200, 3), (28, .putfield 18, 3), (31, .aload_n 0, 1), (32, .sipush 200, 3), (37, .putfield 21, 3), (40, .aload_n 0, 1), (41, .iconst 1, 1), (42, .putfield 24, 3), (45, .return_, 1)]
theorem dbX6_init_0 : ∀ z ∈ dlX6_init_0, decode dsX6_init_0 z.1 = Except.ok z.2 ∧ okop dsX6_init_0 z.1 = true := by decide +kernel
theorem dX6_init_0 : decode cX6_init 0 = .ok (.aload_n 0, 1) := dgs daX6_init_0 dbX6_init_0 0 0 rfl
theorem dX6_init_1 : decode cX6_init 1 = .ok (.invokespecial 3, 3) := dgs daX6_init_0 dbX6_init_0 1 1 rfl
theorem dX6_init_4 : decode cX6_init 4 = .ok (.aload_n 0, 1) := dgs daX6_init_0 dbX6_init_0 2 4 rfl
theorem dX6_init_5 : decode cX6_init 5 = .ok (.sipush 200, 3) := dgs daX6_init_0 dbX6_init_0 3 5 rfl
theorem dX6_init_10 : decode cX6_init 10 = .ok (.putfield 9, 3) := dgs daX6_init_0 dbX6_init_0 4 10 rfl
theorem dX6_init_13 : decode cX6_init 13 = .ok (.aload_n 0, 1) := dgs daX6_init_0 dbX6_init_0 5 13 rfl
theorem dX6_init_14 : decode cX6_init 14 = .ok (.sipush 200, 3) := dgs daX6_init_0 dbX6_init_0 6 14 rfl
theorem dX6_init_19 : decode cX6_init 19 = .ok (.putfield 15, 3) := dgs daX6_init_0 dbX6_init_0 7 19 rfl
theorem dX6_init_22 : decode cX6_init 22 = .ok (.aload_n 0, 1) := dgs daX6_init_0 dbX6_init_0 8 22 rfl
theorem dX6_init_23 : decode cX6_init 23 = .ok (.sipush 200, 3) := dgs daX6_init_0 dbX6_init_0 9 23 rfl
theorem dX6_init_28 : decode cX6_init 28 = .ok (.putfield 18, 3) := dgs daX6_init_0 dbX6_init_0 10 28 rfl
theorem dX6_init_31 : decode cX6_init 31 = .ok (.aload_n 0, 1) := dgs daX6_init_0 dbX6_init_0 11 31 rfl
theorem dX6_init_32 : decode cX6_init 32 = .ok (.sipush 200, 3) := dgs daX6_init_0 dbX6_init_0 12 32 rfl
theorem dX6_init_37 : decode cX6_init 37 = .ok (.putfield 21, 3) := dgs daX6_init_0 dbX6_init_0 13 37 rfl
theorem dX6_init_40 : decode cX6_init 40 = .ok (.aload_n 0, 1) := dgs daX6_init_0 dbX6_init_0 14 40 rfl
theorem dX6_init_41 : decode cX6_init 41 = .ok (.iconst 1, 1) := dgs daX6_init_0 dbX6_init_0 15 41 rfl
theorem dX6_init_42 : decode cX6_init 42 = .ok (.putfield 24, 3) := dgs daX6_init_0 dbX6_init_0 16 42 rfl
theorem dX6_init_45 : decode cX6_init 45 = .ok (.return_, 1) := dgs daX6_init_0 dbX6_init_0 17 45 rfl
set_option maxRecDepth 20000 in
theorem ggX6_take_X9_commonDivisor : GoodIn wsX6_take wsX9_commonDivisor := goodIn_ca (goodIn_q _ [16, 17, 7, 4, 8] rfl (by decide +kernel)) (goodIn_sub (fun _ h => List.mem_cons_of_mem _ (List.mem_append_left _ (List.mem_append_right _ h))) (by decide +kernel))
set_option maxRecDepth 20000 in
theorem gX6_take_X9_commonDivisor_n33 : GoodIn wsX6_take (wsX9_commonDivisor) := ggX6_take_X9_commonDivisor
set_option maxRecDepth 20000 in
theorem ggX6_take_X6_sortOut : GoodIn wsX6_take wsX6_sortOut := goodIn_ca (goodIn_ca (goodIn_q _ [22, 9, 6, 7, 4, 8, 2, 3, 5, 26, 27, 28, 29, 30] rfl (by decide +kernel)) (goodIn_sub (fun _ h => List.mem_cons_of_mem _ (List.mem_append_left _ (List.mem_append_right _ h))) (by decide +kernel))) (goodIn_sub (fun _ h => List.mem_cons_of_mem _ (List.mem_append_right _ h)) (by decide +kernel))
set_option maxRecDepth 20000 in
theorem gX6_take_X6_sortOut : GoodIn wsX6_take (wsV RX6 45 RX6 yX6_sortOut wsX6_sortOut) := goodIn_app (goodIn_q _ [18, 19, 20, 21] rfl (by decide +kernel)) ggX6_take_X6_sortOut
def dsX6_take_0 : ByteArray := ⟨#[43, 180, 0, 28, 190, 44, 180, 0, 28, 190, 184, 0, 33, 62, 42, 4, 29, 17, 0, 200, 184, 0, 37, 184, 0, 42, 181, 0, 24, 42, 43, 180, 0, 28, 42, 180, 0, 9, 42, 180, 0, 15, 182, 0, 45, 42, 44, 180, 0, 28, 42, 180, 0, 18, 42, 180, 0, 21, 182, 0, 45, 177]⟩
theorem daX6_take_0 : agB cX6_take dsX6_take_0 0 := agB_of (n := 62) (by decide +kernel)
def dlX6_take_0 : List (Nat × Instr × Nat) := [(0, .aload_n 1, 1), (1, .getfield 28, 3), (4, .arraylength, 1), (5, .aload_n 2, 1), (6, .getfield 28, 3), (9, .arraylength, 1), (10, .invokestatic 33, 3), (13, .istore_n 3, 1), (14, .aload_n 0, 1), (15, .iconst 1, 1), (16, .iload_n 3, 1), (17, .sipush 200, 3), (20, .invokestatic 37, 3), (23, .invokestatic 42, 3), (26, .putfield 24, 3), (29, .aload_n 0, 1), (30, .aload_n 1, 1), (31, .getfield 28, 3), (34, .aload_n 0, 1), (35, .getfield 9, 3), (38, .aload_n 0, 1), (39, .getfield 15, 3), (42, .invokevirtual 45, 3), (45, .aload_n 0, 1), (46, .aload_n 2, 1), (47, .getfield 28, 3), (50, .aload_n 0, 1), (51, .getfield 18, 3), (54, .aload_n 0, 1), (55, .getfield 21, 3), (58, .invokevirtual 45, 3), (61, .return_, 1)]
theorem dbX6_take_0 : ∀ z ∈ dlX6_take_0, decode dsX6_take_0 z.1 = Except.ok z.2 ∧ okop dsX6_take_0 z.1 = true := by decide +kernel
theorem dX6_take_0 : decode cX6_take 0 = .ok (.aload_n 1, 1) := dgs daX6_take_0 dbX6_take_0 0 0 rfl
theorem dX6_take_1 : decode cX6_take 1 = .ok (.getfield 28, 3) := dgs daX6_take_0 dbX6_take_0 1 1 rfl
theorem dX6_take_4 : decode cX6_take 4 = .ok (.arraylength, 1) := dgs daX6_take_0 dbX6_take_0 2 4 rfl
theorem dX6_take_5 : decode cX6_take 5 = .ok (.aload_n 2, 1) := dgs daX6_take_0 dbX6_take_0 3 5 rfl
theorem dX6_take_6 : decode cX6_take 6 = .ok (.getfield 28, 3) := dgs daX6_take_0 dbX6_take_0 4 6 rfl
theorem dX6_take_9 : decode cX6_take 9 = .ok (.arraylength, 1) := dgs daX6_take_0 dbX6_take_0 5 9 rfl
theorem dX6_take_10 : decode cX6_take 10 = .ok (.invokestatic 33, 3) := dgs daX6_take_0 dbX6_take_0 6 10 rfl
theorem dX6_take_13 : decode cX6_take 13 = .ok (.istore_n 3, 1) := dgs daX6_take_0 dbX6_take_0 7 13 rfl
theorem dX6_take_14 : decode cX6_take 14 = .ok (.aload_n 0, 1) := dgs daX6_take_0 dbX6_take_0 8 14 rfl
theorem dX6_take_15 : decode cX6_take 15 = .ok (.iconst 1, 1) := dgs daX6_take_0 dbX6_take_0 9 15 rfl
theorem dX6_take_16 : decode cX6_take 16 = .ok (.iload_n 3, 1) := dgs daX6_take_0 dbX6_take_0 10 16 rfl
theorem dX6_take_17 : decode cX6_take 17 = .ok (.sipush 200, 3) := dgs daX6_take_0 dbX6_take_0 11 17 rfl
theorem dX6_take_20 : decode cX6_take 20 = .ok (.invokestatic 37, 3) := dgs daX6_take_0 dbX6_take_0 12 20 rfl
theorem dX6_take_23 : decode cX6_take 23 = .ok (.invokestatic 42, 3) := dgs daX6_take_0 dbX6_take_0 13 23 rfl
theorem dX6_take_26 : decode cX6_take 26 = .ok (.putfield 24, 3) := dgs daX6_take_0 dbX6_take_0 14 26 rfl
theorem dX6_take_29 : decode cX6_take 29 = .ok (.aload_n 0, 1) := dgs daX6_take_0 dbX6_take_0 15 29 rfl
theorem dX6_take_30 : decode cX6_take 30 = .ok (.aload_n 1, 1) := dgs daX6_take_0 dbX6_take_0 16 30 rfl
theorem dX6_take_31 : decode cX6_take 31 = .ok (.getfield 28, 3) := dgs daX6_take_0 dbX6_take_0 17 31 rfl
theorem dX6_take_34 : decode cX6_take 34 = .ok (.aload_n 0, 1) := dgs daX6_take_0 dbX6_take_0 18 34 rfl
theorem dX6_take_35 : decode cX6_take 35 = .ok (.getfield 9, 3) := dgs daX6_take_0 dbX6_take_0 19 35 rfl
theorem dX6_take_38 : decode cX6_take 38 = .ok (.aload_n 0, 1) := dgs daX6_take_0 dbX6_take_0 20 38 rfl
theorem dX6_take_39 : decode cX6_take 39 = .ok (.getfield 15, 3) := dgs daX6_take_0 dbX6_take_0 21 39 rfl
theorem dX6_take_42 : decode cX6_take 42 = .ok (.invokevirtual 45, 3) := dgs daX6_take_0 dbX6_take_0 22 42 rfl
theorem dX6_take_45 : decode cX6_take 45 = .ok (.aload_n 0, 1) := dgs daX6_take_0 dbX6_take_0 23 45 rfl
theorem dX6_take_46 : decode cX6_take 46 = .ok (.aload_n 2, 1) := dgs daX6_take_0 dbX6_take_0 24 46 rfl
theorem dX6_take_47 : decode cX6_take 47 = .ok (.getfield 28, 3) := dgs daX6_take_0 dbX6_take_0 25 47 rfl
theorem dX6_take_50 : decode cX6_take 50 = .ok (.aload_n 0, 1) := dgs daX6_take_0 dbX6_take_0 26 50 rfl
theorem dX6_take_51 : decode cX6_take 51 = .ok (.getfield 18, 3) := dgs daX6_take_0 dbX6_take_0 27 51 rfl
theorem dX6_take_54 : decode cX6_take 54 = .ok (.aload_n 0, 1) := dgs daX6_take_0 dbX6_take_0 28 54 rfl
theorem dX6_take_55 : decode cX6_take 55 = .ok (.getfield 21, 3) := dgs daX6_take_0 dbX6_take_0 29 55 rfl
theorem dX6_take_58 : decode cX6_take 58 = .ok (.invokevirtual 45, 3) := dgs daX6_take_0 dbX6_take_0 30 58 rfl
theorem dX6_take_61 : decode cX6_take 61 = .ok (.return_, 1) := dgs daX6_take_0 dbX6_take_0 31 61 rfl
def dsX6_sortOut_0 : ByteArray := ⟨#[3, 54, 4, 21, 4, 43, 190, 162, 0, 88, 21, 4, 42, 180, 0, 24, 112, 54, 5, 21, 4, 42, 180, 0, 24, 162, 0, 7, 4, 167, 0, 4, 3, 54, 6, 44, 21, 5, 21, 6, 153, 0, 10, 43, 21, 4, 46, 167, 0, 14, 44, 21, 5, 46, 43, 21, 4, 46, 184, 0, 42, 79, 45, 21, 5, 21, 6, 153, 0, 10, 43, 21, 4, 46, 167, 0, 14, 45, 21, 5, 46, 43, 21, 4, 46, 184, 0, 37, 79, 132, 4, 1, 167, 255, 167, 177]⟩
theorem daX6_sortOut_0 : agB cX6_sortOut dsX6_sortOut_0 0 := agB_of (n := 96) (by decide +kernel)
def dlX6_sortOut_0 : List (Nat × Instr × Nat) := [(0, .iconst 0, 1), (1, .istore 4, 2), (3, .iload 4, 2), (5, .aload_n 1, 1), (6, .arraylength, 1), (7, .if_icmp .ge 88, 3), (10, .iload 4, 2), (12, .aload_n 0, 1), (13, .getfield 24, 3), (16, .irem, 1), (17, .istore 5, 2), (19, .iload 4, 2), (21, .aload_n 0, 1), (22, .getfield 24, 3), (25, .if_icmp .ge 7, 3), (28, .iconst 1, 1), (29, .goto 4, 3), (32, .iconst 0, 1), (33, .istore 6, 2), (35, .aload_n 2, 1), (36, .iload 5, 2), (38, .iload 6, 2), (40, .ifCond .eq 10, 3), (43, .aload_n 1, 1), (44, .iload 4, 2), (46, .iaload, 1), (47, .goto 14, 3), (50, .aload_n 2, 1), (51, .iload 5, 2), (53, .iaload, 1), (54, .aload_n 1, 1), (55, .iload 4, 2), (57, .iaload, 1), (58, .invokestatic 42, 3), (61, .iastore, 1), (62, .aload_n 3, 1), (63, .iload 5, 2), (65, .iload 6, 2), (67, .ifCond .eq 10, 3), (70, .aload_n 1, 1), (71, .iload 4, 2), (73, .iaload, 1), (74, .goto 14, 3), (77, .aload_n 3, 1), (78, .iload 5, 2), (80, .iaload, 1), (81, .aload_n 1, 1), (82, .iload 4, 2), (84, .iaload, 1), (85, .invokestatic 37, 3), (88, .iastore, 1), (89, .iinc 4 1, 3), (92, .goto (-89), 3), (95, .return_, 1)]
theorem dbX6_sortOut_0 : ∀ z ∈ dlX6_sortOut_0, decode dsX6_sortOut_0 z.1 = Except.ok z.2 ∧ okop dsX6_sortOut_0 z.1 = true := by decide +kernel
theorem dX6_sortOut_0 : decode cX6_sortOut 0 = .ok (.iconst 0, 1) := dgs daX6_sortOut_0 dbX6_sortOut_0 0 0 rfl
theorem dX6_sortOut_1 : decode cX6_sortOut 1 = .ok (.istore 4, 2) := dgs daX6_sortOut_0 dbX6_sortOut_0 1 1 rfl
theorem dX6_sortOut_3 : decode cX6_sortOut 3 = .ok (.iload 4, 2) := dgs daX6_sortOut_0 dbX6_sortOut_0 2 3 rfl
theorem dX6_sortOut_5 : decode cX6_sortOut 5 = .ok (.aload_n 1, 1) := dgs daX6_sortOut_0 dbX6_sortOut_0 3 5 rfl
theorem dX6_sortOut_6 : decode cX6_sortOut 6 = .ok (.arraylength, 1) := dgs daX6_sortOut_0 dbX6_sortOut_0 4 6 rfl
theorem dX6_sortOut_7 : decode cX6_sortOut 7 = .ok (.if_icmp .ge 88, 3) := dgs daX6_sortOut_0 dbX6_sortOut_0 5 7 rfl
theorem dX6_sortOut_10 : decode cX6_sortOut 10 = .ok (.iload 4, 2) := dgs daX6_sortOut_0 dbX6_sortOut_0 6 10 rfl
theorem dX6_sortOut_12 : decode cX6_sortOut 12 = .ok (.aload_n 0, 1) := dgs daX6_sortOut_0 dbX6_sortOut_0 7 12 rfl
theorem dX6_sortOut_13 : decode cX6_sortOut 13 = .ok (.getfield 24, 3) := dgs daX6_sortOut_0 dbX6_sortOut_0 8 13 rfl
theorem dX6_sortOut_16 : decode cX6_sortOut 16 = .ok (.irem, 1) := dgs daX6_sortOut_0 dbX6_sortOut_0 9 16 rfl
theorem dX6_sortOut_17 : decode cX6_sortOut 17 = .ok (.istore 5, 2) := dgs daX6_sortOut_0 dbX6_sortOut_0 10 17 rfl
theorem dX6_sortOut_19 : decode cX6_sortOut 19 = .ok (.iload 4, 2) := dgs daX6_sortOut_0 dbX6_sortOut_0 11 19 rfl
theorem dX6_sortOut_21 : decode cX6_sortOut 21 = .ok (.aload_n 0, 1) := dgs daX6_sortOut_0 dbX6_sortOut_0 12 21 rfl
theorem dX6_sortOut_22 : decode cX6_sortOut 22 = .ok (.getfield 24, 3) := dgs daX6_sortOut_0 dbX6_sortOut_0 13 22 rfl
theorem dX6_sortOut_25 : decode cX6_sortOut 25 = .ok (.if_icmp .ge 7, 3) := dgs daX6_sortOut_0 dbX6_sortOut_0 14 25 rfl
theorem dX6_sortOut_28 : decode cX6_sortOut 28 = .ok (.iconst 1, 1) := dgs daX6_sortOut_0 dbX6_sortOut_0 15 28 rfl
theorem dX6_sortOut_29 : decode cX6_sortOut 29 = .ok (.goto 4, 3) := dgs daX6_sortOut_0 dbX6_sortOut_0 16 29 rfl
theorem dX6_sortOut_32 : decode cX6_sortOut 32 = .ok (.iconst 0, 1) := dgs daX6_sortOut_0 dbX6_sortOut_0 17 32 rfl
theorem dX6_sortOut_33 : decode cX6_sortOut 33 = .ok (.istore 6, 2) := dgs daX6_sortOut_0 dbX6_sortOut_0 18 33 rfl
theorem dX6_sortOut_35 : decode cX6_sortOut 35 = .ok (.aload_n 2, 1) := dgs daX6_sortOut_0 dbX6_sortOut_0 19 35 rfl
theorem dX6_sortOut_36 : decode cX6_sortOut 36 = .ok (.iload 5, 2) := dgs daX6_sortOut_0 dbX6_sortOut_0 20 36 rfl
theorem dX6_sortOut_38 : decode cX6_sortOut 38 = .ok (.iload 6, 2) := dgs daX6_sortOut_0 dbX6_sortOut_0 21 38 rfl
theorem dX6_sortOut_40 : decode cX6_sortOut 40 = .ok (.ifCond .eq 10, 3) := dgs daX6_sortOut_0 dbX6_sortOut_0 22 40 rfl
theorem dX6_sortOut_43 : decode cX6_sortOut 43 = .ok (.aload_n 1, 1) := dgs daX6_sortOut_0 dbX6_sortOut_0 23 43 rfl
theorem dX6_sortOut_44 : decode cX6_sortOut 44 = .ok (.iload 4, 2) := dgs daX6_sortOut_0 dbX6_sortOut_0 24 44 rfl
theorem dX6_sortOut_46 : decode cX6_sortOut 46 = .ok (.iaload, 1) := dgs daX6_sortOut_0 dbX6_sortOut_0 25 46 rfl
theorem dX6_sortOut_47 : decode cX6_sortOut 47 = .ok (.goto 14, 3) := dgs daX6_sortOut_0 dbX6_sortOut_0 26 47 rfl
theorem dX6_sortOut_50 : decode cX6_sortOut 50 = .ok (.aload_n 2, 1) := dgs daX6_sortOut_0 dbX6_sortOut_0 27 50 rfl
theorem dX6_sortOut_51 : decode cX6_sortOut 51 = .ok (.iload 5, 2) := dgs daX6_sortOut_0 dbX6_sortOut_0 28 51 rfl
theorem dX6_sortOut_53 : decode cX6_sortOut 53 = .ok (.iaload, 1) := dgs daX6_sortOut_0 dbX6_sortOut_0 29 53 rfl
theorem dX6_sortOut_54 : decode cX6_sortOut 54 = .ok (.aload_n 1, 1) := dgs daX6_sortOut_0 dbX6_sortOut_0 30 54 rfl
theorem dX6_sortOut_55 : decode cX6_sortOut 55 = .ok (.iload 4, 2) := dgs daX6_sortOut_0 dbX6_sortOut_0 31 55 rfl
theorem dX6_sortOut_57 : decode cX6_sortOut 57 = .ok (.iaload, 1) := dgs daX6_sortOut_0 dbX6_sortOut_0 32 57 rfl
theorem dX6_sortOut_58 : decode cX6_sortOut 58 = .ok (.invokestatic 42, 3) := dgs daX6_sortOut_0 dbX6_sortOut_0 33 58 rfl
theorem dX6_sortOut_61 : decode cX6_sortOut 61 = .ok (.iastore, 1) := dgs daX6_sortOut_0 dbX6_sortOut_0 34 61 rfl
theorem dX6_sortOut_62 : decode cX6_sortOut 62 = .ok (.aload_n 3, 1) := dgs daX6_sortOut_0 dbX6_sortOut_0 35 62 rfl
theorem dX6_sortOut_63 : decode cX6_sortOut 63 = .ok (.iload 5, 2) := dgs daX6_sortOut_0 dbX6_sortOut_0 36 63 rfl
theorem dX6_sortOut_65 : decode cX6_sortOut 65 = .ok (.iload 6, 2) := dgs daX6_sortOut_0 dbX6_sortOut_0 37 65 rfl
theorem dX6_sortOut_67 : decode cX6_sortOut 67 = .ok (.ifCond .eq 10, 3) := dgs daX6_sortOut_0 dbX6_sortOut_0 38 67 rfl
theorem dX6_sortOut_70 : decode cX6_sortOut 70 = .ok (.aload_n 1, 1) := dgs daX6_sortOut_0 dbX6_sortOut_0 39 70 rfl
theorem dX6_sortOut_71 : decode cX6_sortOut 71 = .ok (.iload 4, 2) := dgs daX6_sortOut_0 dbX6_sortOut_0 40 71 rfl
theorem dX6_sortOut_73 : decode cX6_sortOut 73 = .ok (.iaload, 1) := dgs daX6_sortOut_0 dbX6_sortOut_0 41 73 rfl
theorem dX6_sortOut_74 : decode cX6_sortOut 74 = .ok (.goto 14, 3) := dgs daX6_sortOut_0 dbX6_sortOut_0 42 74 rfl
theorem dX6_sortOut_77 : decode cX6_sortOut 77 = .ok (.aload_n 3, 1) := dgs daX6_sortOut_0 dbX6_sortOut_0 43 77 rfl
theorem dX6_sortOut_78 : decode cX6_sortOut 78 = .ok (.iload 5, 2) := dgs daX6_sortOut_0 dbX6_sortOut_0 44 78 rfl
theorem dX6_sortOut_80 : decode cX6_sortOut 80 = .ok (.iaload, 1) := dgs daX6_sortOut_0 dbX6_sortOut_0 45 80 rfl
theorem dX6_sortOut_81 : decode cX6_sortOut 81 = .ok (.aload_n 1, 1) := dgs daX6_sortOut_0 dbX6_sortOut_0 46 81 rfl
theorem dX6_sortOut_82 : decode cX6_sortOut 82 = .ok (.iload 4, 2) := dgs daX6_sortOut_0 dbX6_sortOut_0 47 82 rfl
theorem dX6_sortOut_84 : decode cX6_sortOut 84 = .ok (.iaload, 1) := dgs daX6_sortOut_0 dbX6_sortOut_0 48 84 rfl
theorem dX6_sortOut_85 : decode cX6_sortOut 85 = .ok (.invokestatic 37, 3) := dgs daX6_sortOut_0 dbX6_sortOut_0 49 85 rfl
theorem dX6_sortOut_88 : decode cX6_sortOut 88 = .ok (.iastore, 1) := dgs daX6_sortOut_0 dbX6_sortOut_0 50 88 rfl
theorem dX6_sortOut_89 : decode cX6_sortOut 89 = .ok (.iinc 4 1, 3) := dgs daX6_sortOut_0 dbX6_sortOut_0 51 89 rfl
theorem dX6_sortOut_92 : decode cX6_sortOut 92 = .ok (.goto (-89), 3) := dgs daX6_sortOut_0 dbX6_sortOut_0 52 92 rfl
theorem dX6_sortOut_95 : decode cX6_sortOut 95 = .ok (.return_, 1) := dgs daX6_sortOut_0 dbX6_sortOut_0 53 95 rfl
set_option maxRecDepth 20000 in
theorem ggX6_peakFrom_J9_floorMod_7cf53 : GoodIn wsX6_peakFrom wsJ9_floorMod_7cf53 := goodIn_q _ [18] rfl (by decide +kernel)
set_option maxRecDepth 20000 in
theorem gX6_peakFrom_J9_floorMod_7cf53 : GoodIn wsX6_peakFrom (va_wsS RX6 51 yJ9_floorMod_7cf53 wsJ9_floorMod_7cf53) := goodIn_app (goodIn_q _ [15, 16, 17] rfl (by decide +kernel)) ggX6_peakFrom_J9_floorMod_7cf53
def dsX6_peakFrom_0 : ByteArray := ⟨#[18, 49, 61, 18, 50, 62, 27, 42, 180, 0, 24, 184, 0, 51, 54, 4, 3, 54, 5, 21, 5, 42, 180, 0, 24, 162, 0, 70, 28, 42, 180, 0, 9, 21, 5, 46, 42, 180, 0, 18, 21, 4, 46, 96, 184, 0, 42, 61, 29, 42, 180, 0, 15, 21, 5, 46, 42, 180, 0, 21, 21, 4, 46, 96, 184, 0, 37, 62, 21, 4, 4, 96, 42, 180, 0, 24, 162, 0, 10, 21, 4, 4, 96, 167, 0, 4, 3, 54, 4, 132, 5, 1, 167, 255, 183, 28, 29, 100, 172]⟩
theorem daX6_peakFrom_0 : agB cX6_peakFrom dsX6_peakFrom_0 0 := agB_of (n := 99) (by decide +kernel)
def dlX6_peakFrom_0 : List (Nat × Instr × Nat) := [(0, .ldc 49, 2), (2, .istore_n 2, 1), (3, .ldc 50, 2), (5, .istore_n 3, 1), (6, .iload_n 1, 1), (7, .aload_n 0, 1), (8, .getfield 24, 3), (11, .invokestatic 51, 3), (14, .istore 4, 2), (16, .iconst 0, 1), (17, .istore 5, 2), (19, .iload 5, 2), (21, .aload_n 0, 1), (22, .getfield 24, 3), (25, .if_icmp .ge 70, 3), (28, .iload_n 2, 1), (29, .aload_n 0, 1), (30, .getfield 9, 3), (33, .iload 5, 2), (35, .iaload, 1), (36, .aload_n 0, 1), (37, .getfield 18, 3), (40, .iload 4, 2), (42, .iaload, 1), (43, .iadd, 1), (44, .invokestatic 42, 3), (47, .istore_n 2, 1), (48, .iload_n 3, 1), (49, .aload_n 0, 1), (50, .getfield 15, 3), (53, .iload 5, 2), (55, .iaload, 1), (56, .aload_n 0, 1), (57, .getfield 21, 3), (60, .iload 4, 2), (62, .iaload, 1), (63, .iadd, 1), (64, .invokestatic 37, 3), (67, .istore_n 3, 1), (68, .iload 4, 2), (70, .iconst 1, 1), (71, .iadd, 1), (72, .aload_n 0, 1), (73, .getfield 24, 3), (76, .if_icmp .ge 10, 3), (79, .iload 4, 2), (81, .iconst 1, 1), (82, .iadd, 1), (83, .goto 4, 3), (86, .iconst 0, 1), (87, .istore 4, 2), (89, .iinc 5 1, 3), (92, .goto (-73), 3), (95, .iload_n 2, 1), (96, .iload_n 3, 1), (97, .isub, 1), (98, .ireturn, 1)]
theorem dbX6_peakFrom_0 : ∀ z ∈ dlX6_peakFrom_0, decode dsX6_peakFrom_0 z.1 = Except.ok z.2 ∧ okop dsX6_peakFrom_0 z.1 = true := by decide +kernel
theorem dX6_peakFrom_0 : decode cX6_peakFrom 0 = .ok (.ldc 49, 2) := dgs daX6_peakFrom_0 dbX6_peakFrom_0 0 0 rfl
theorem dX6_peakFrom_2 : decode cX6_peakFrom 2 = .ok (.istore_n 2, 1) := dgs daX6_peakFrom_0 dbX6_peakFrom_0 1 2 rfl
theorem dX6_peakFrom_3 : decode cX6_peakFrom 3 = .ok (.ldc 50, 2) := dgs daX6_peakFrom_0 dbX6_peakFrom_0 2 3 rfl
theorem dX6_peakFrom_5 : decode cX6_peakFrom 5 = .ok (.istore_n 3, 1) := dgs daX6_peakFrom_0 dbX6_peakFrom_0 3 5 rfl
theorem dX6_peakFrom_6 : decode cX6_peakFrom 6 = .ok (.iload_n 1, 1) := dgs daX6_peakFrom_0 dbX6_peakFrom_0 4 6 rfl
theorem dX6_peakFrom_7 : decode cX6_peakFrom 7 = .ok (.aload_n 0, 1) := dgs daX6_peakFrom_0 dbX6_peakFrom_0 5 7 rfl
theorem dX6_peakFrom_8 : decode cX6_peakFrom 8 = .ok (.getfield 24, 3) := dgs daX6_peakFrom_0 dbX6_peakFrom_0 6 8 rfl
theorem dX6_peakFrom_11 : decode cX6_peakFrom 11 = .ok (.invokestatic 51, 3) := dgs daX6_peakFrom_0 dbX6_peakFrom_0 7 11 rfl
theorem dX6_peakFrom_14 : decode cX6_peakFrom 14 = .ok (.istore 4, 2) := dgs daX6_peakFrom_0 dbX6_peakFrom_0 8 14 rfl
theorem dX6_peakFrom_16 : decode cX6_peakFrom 16 = .ok (.iconst 0, 1) := dgs daX6_peakFrom_0 dbX6_peakFrom_0 9 16 rfl
theorem dX6_peakFrom_17 : decode cX6_peakFrom 17 = .ok (.istore 5, 2) := dgs daX6_peakFrom_0 dbX6_peakFrom_0 10 17 rfl
theorem dX6_peakFrom_19 : decode cX6_peakFrom 19 = .ok (.iload 5, 2) := dgs daX6_peakFrom_0 dbX6_peakFrom_0 11 19 rfl
theorem dX6_peakFrom_21 : decode cX6_peakFrom 21 = .ok (.aload_n 0, 1) := dgs daX6_peakFrom_0 dbX6_peakFrom_0 12 21 rfl
theorem dX6_peakFrom_22 : decode cX6_peakFrom 22 = .ok (.getfield 24, 3) := dgs daX6_peakFrom_0 dbX6_peakFrom_0 13 22 rfl
theorem dX6_peakFrom_25 : decode cX6_peakFrom 25 = .ok (.if_icmp .ge 70, 3) := dgs daX6_peakFrom_0 dbX6_peakFrom_0 14 25 rfl
theorem dX6_peakFrom_28 : decode cX6_peakFrom 28 = .ok (.iload_n 2, 1) := dgs daX6_peakFrom_0 dbX6_peakFrom_0 15 28 rfl
theorem dX6_peakFrom_29 : decode cX6_peakFrom 29 = .ok (.aload_n 0, 1) := dgs daX6_peakFrom_0 dbX6_peakFrom_0 16 29 rfl
theorem dX6_peakFrom_30 : decode cX6_peakFrom 30 = .ok (.getfield 9, 3) := dgs daX6_peakFrom_0 dbX6_peakFrom_0 17 30 rfl
theorem dX6_peakFrom_33 : decode cX6_peakFrom 33 = .ok (.iload 5, 2) := dgs daX6_peakFrom_0 dbX6_peakFrom_0 18 33 rfl
theorem dX6_peakFrom_35 : decode cX6_peakFrom 35 = .ok (.iaload, 1) := dgs daX6_peakFrom_0 dbX6_peakFrom_0 19 35 rfl
theorem dX6_peakFrom_36 : decode cX6_peakFrom 36 = .ok (.aload_n 0, 1) := dgs daX6_peakFrom_0 dbX6_peakFrom_0 20 36 rfl
theorem dX6_peakFrom_37 : decode cX6_peakFrom 37 = .ok (.getfield 18, 3) := dgs daX6_peakFrom_0 dbX6_peakFrom_0 21 37 rfl
theorem dX6_peakFrom_40 : decode cX6_peakFrom 40 = .ok (.iload 4, 2) := dgs daX6_peakFrom_0 dbX6_peakFrom_0 22 40 rfl
theorem dX6_peakFrom_42 : decode cX6_peakFrom 42 = .ok (.iaload, 1) := dgs daX6_peakFrom_0 dbX6_peakFrom_0 23 42 rfl
theorem dX6_peakFrom_43 : decode cX6_peakFrom 43 = .ok (.iadd, 1) := dgs daX6_peakFrom_0 dbX6_peakFrom_0 24 43 rfl
theorem dX6_peakFrom_44 : decode cX6_peakFrom 44 = .ok (.invokestatic 42, 3) := dgs daX6_peakFrom_0 dbX6_peakFrom_0 25 44 rfl
theorem dX6_peakFrom_47 : decode cX6_peakFrom 47 = .ok (.istore_n 2, 1) := dgs daX6_peakFrom_0 dbX6_peakFrom_0 26 47 rfl
theorem dX6_peakFrom_48 : decode cX6_peakFrom 48 = .ok (.iload_n 3, 1) := dgs daX6_peakFrom_0 dbX6_peakFrom_0 27 48 rfl
theorem dX6_peakFrom_49 : decode cX6_peakFrom 49 = .ok (.aload_n 0, 1) := dgs daX6_peakFrom_0 dbX6_peakFrom_0 28 49 rfl
theorem dX6_peakFrom_50 : decode cX6_peakFrom 50 = .ok (.getfield 15, 3) := dgs daX6_peakFrom_0 dbX6_peakFrom_0 29 50 rfl
theorem dX6_peakFrom_53 : decode cX6_peakFrom 53 = .ok (.iload 5, 2) := dgs daX6_peakFrom_0 dbX6_peakFrom_0 30 53 rfl
theorem dX6_peakFrom_55 : decode cX6_peakFrom 55 = .ok (.iaload, 1) := dgs daX6_peakFrom_0 dbX6_peakFrom_0 31 55 rfl
theorem dX6_peakFrom_56 : decode cX6_peakFrom 56 = .ok (.aload_n 0, 1) := dgs daX6_peakFrom_0 dbX6_peakFrom_0 32 56 rfl
theorem dX6_peakFrom_57 : decode cX6_peakFrom 57 = .ok (.getfield 21, 3) := dgs daX6_peakFrom_0 dbX6_peakFrom_0 33 57 rfl
theorem dX6_peakFrom_60 : decode cX6_peakFrom 60 = .ok (.iload 4, 2) := dgs daX6_peakFrom_0 dbX6_peakFrom_0 34 60 rfl
theorem dX6_peakFrom_62 : decode cX6_peakFrom 62 = .ok (.iaload, 1) := dgs daX6_peakFrom_0 dbX6_peakFrom_0 35 62 rfl
theorem dX6_peakFrom_63 : decode cX6_peakFrom 63 = .ok (.iadd, 1) := dgs daX6_peakFrom_0 dbX6_peakFrom_0 36 63 rfl
theorem dX6_peakFrom_64 : decode cX6_peakFrom 64 = .ok (.invokestatic 37, 3) := dgs daX6_peakFrom_0 dbX6_peakFrom_0 37 64 rfl
theorem dX6_peakFrom_67 : decode cX6_peakFrom 67 = .ok (.istore_n 3, 1) := dgs daX6_peakFrom_0 dbX6_peakFrom_0 38 67 rfl
theorem dX6_peakFrom_68 : decode cX6_peakFrom 68 = .ok (.iload 4, 2) := dgs daX6_peakFrom_0 dbX6_peakFrom_0 39 68 rfl
theorem dX6_peakFrom_70 : decode cX6_peakFrom 70 = .ok (.iconst 1, 1) := dgs daX6_peakFrom_0 dbX6_peakFrom_0 40 70 rfl
theorem dX6_peakFrom_71 : decode cX6_peakFrom 71 = .ok (.iadd, 1) := dgs daX6_peakFrom_0 dbX6_peakFrom_0 41 71 rfl
theorem dX6_peakFrom_72 : decode cX6_peakFrom 72 = .ok (.aload_n 0, 1) := dgs daX6_peakFrom_0 dbX6_peakFrom_0 42 72 rfl
theorem dX6_peakFrom_73 : decode cX6_peakFrom 73 = .ok (.getfield 24, 3) := dgs daX6_peakFrom_0 dbX6_peakFrom_0 43 73 rfl
theorem dX6_peakFrom_76 : decode cX6_peakFrom 76 = .ok (.if_icmp .ge 10, 3) := dgs daX6_peakFrom_0 dbX6_peakFrom_0 44 76 rfl
theorem dX6_peakFrom_79 : decode cX6_peakFrom 79 = .ok (.iload 4, 2) := dgs daX6_peakFrom_0 dbX6_peakFrom_0 45 79 rfl
theorem dX6_peakFrom_81 : decode cX6_peakFrom 81 = .ok (.iconst 1, 1) := dgs daX6_peakFrom_0 dbX6_peakFrom_0 46 81 rfl
theorem dX6_peakFrom_82 : decode cX6_peakFrom 82 = .ok (.iadd, 1) := dgs daX6_peakFrom_0 dbX6_peakFrom_0 47 82 rfl
theorem dX6_peakFrom_83 : decode cX6_peakFrom 83 = .ok (.goto 4, 3) := dgs daX6_peakFrom_0 dbX6_peakFrom_0 48 83 rfl
theorem dX6_peakFrom_86 : decode cX6_peakFrom 86 = .ok (.iconst 0, 1) := dgs daX6_peakFrom_0 dbX6_peakFrom_0 49 86 rfl
theorem dX6_peakFrom_87 : decode cX6_peakFrom 87 = .ok (.istore 4, 2) := dgs daX6_peakFrom_0 dbX6_peakFrom_0 50 87 rfl
theorem dX6_peakFrom_89 : decode cX6_peakFrom 89 = .ok (.iinc 5 1, 3) := dgs daX6_peakFrom_0 dbX6_peakFrom_0 51 89 rfl
theorem dX6_peakFrom_92 : decode cX6_peakFrom 92 = .ok (.goto (-73), 3) := dgs daX6_peakFrom_0 dbX6_peakFrom_0 52 92 rfl
theorem dX6_peakFrom_95 : decode cX6_peakFrom 95 = .ok (.iload_n 2, 1) := dgs daX6_peakFrom_0 dbX6_peakFrom_0 53 95 rfl
theorem dX6_peakFrom_96 : decode cX6_peakFrom 96 = .ok (.iload_n 3, 1) := dgs daX6_peakFrom_0 dbX6_peakFrom_0 54 96 rfl
theorem dX6_peakFrom_97 : decode cX6_peakFrom 97 = .ok (.isub, 1) := dgs daX6_peakFrom_0 dbX6_peakFrom_0 55 97 rfl
theorem dX6_peakFrom_98 : decode cX6_peakFrom 98 = .ok (.ireturn, 1) := dgs daX6_peakFrom_0 dbX6_peakFrom_0 56 98 rfl
set_option maxRecDepth 20000 in
theorem ggX6_quietStart_X6_peakFrom : GoodIn wsX6_quietStart wsX6_peakFrom := goodIn_ca (goodIn_q _ [6, 7, 8, 1, 9, 10, 11, 12, 13, 14, 15, 16, 17, 18, 19, 20, 21, 22, 23, 24, 25, 26, 27, 28] rfl (by decide +kernel)) (goodIn_sub (fun _ h => List.mem_cons_of_mem _ (List.mem_append_right _ h)) (by decide +kernel))
set_option maxRecDepth 20000 in
theorem gX6_quietStart_X6_peakFrom : GoodIn wsX6_quietStart (wsV RX6 54 RX6 yX6_peakFrom wsX6_peakFrom) := goodIn_app (goodIn_q _ [2, 3, 4, 5] rfl (by decide +kernel)) ggX6_quietStart_X6_peakFrom
def dsX6_quietStart_0 : ByteArray := ⟨#[3, 60, 42, 3, 182, 0, 54, 61, 4, 62, 29, 42, 180, 0, 24, 162, 0, 27, 42, 29, 182, 0, 54, 54, 4]⟩
theorem daX6_quietStart_0 : agB cX6_quietStart dsX6_quietStart_0 0 := agB_of (n := 25) (by decide +kernel)
def dlX6_quietStart_0 : List (Nat × Instr × Nat) := [(0, .iconst 0, 1), (1, .istore_n 1, 1), (2, .aload_n 0, 1), (3, .iconst 0, 1), (4, .invokevirtual 54, 3), (7, .istore_n 2, 1), (8, .iconst 1, 1), (9, .istore_n 3, 1), (10, .iload_n 3, 1), (11, .aload_n 0, 1), (12, .getfield 24, 3), (15, .if_icmp .ge 27, 3), (18, .aload_n 0, 1), (19, .iload_n 3, 1), (20, .invokevirtual 54, 3), (23, .istore 4, 2)]
theorem dbX6_quietStart_0 : ∀ z ∈ dlX6_quietStart_0, decode dsX6_quietStart_0 z.1 = Except.ok z.2 ∧ okop dsX6_quietStart_0 z.1 = true := by decide +kernel
theorem dX6_quietStart_0 : decode cX6_quietStart 0 = .ok (.iconst 0, 1) := dgs daX6_quietStart_0 dbX6_quietStart_0 0 0 rfl
theorem dX6_quietStart_1 : decode cX6_quietStart 1 = .ok (.istore_n 1, 1) := dgs daX6_quietStart_0 dbX6_quietStart_0 1 1 rfl
theorem dX6_quietStart_2 : decode cX6_quietStart 2 = .ok (.aload_n 0, 1) := dgs daX6_quietStart_0 dbX6_quietStart_0 2 2 rfl
theorem dX6_quietStart_3 : decode cX6_quietStart 3 = .ok (.iconst 0, 1) := dgs daX6_quietStart_0 dbX6_quietStart_0 3 3 rfl
theorem dX6_quietStart_4 : decode cX6_quietStart 4 = .ok (.invokevirtual 54, 3) := dgs daX6_quietStart_0 dbX6_quietStart_0 4 4 rfl
theorem dX6_quietStart_7 : decode cX6_quietStart 7 = .ok (.istore_n 2, 1) := dgs daX6_quietStart_0 dbX6_quietStart_0 5 7 rfl
theorem dX6_quietStart_8 : decode cX6_quietStart 8 = .ok (.iconst 1, 1) := dgs daX6_quietStart_0 dbX6_quietStart_0 6 8 rfl
theorem dX6_quietStart_9 : decode cX6_quietStart 9 = .ok (.istore_n 3, 1) := dgs daX6_quietStart_0 dbX6_quietStart_0 7 9 rfl
theorem dX6_quietStart_10 : decode cX6_quietStart 10 = .ok (.iload_n 3, 1) := dgs daX6_quietStart_0 dbX6_quietStart_0 8 10 rfl
theorem dX6_quietStart_11 : decode cX6_quietStart 11 = .ok (.aload_n 0, 1) := dgs daX6_quietStart_0 dbX6_quietStart_0 9 11 rfl
theorem dX6_quietStart_12 : decode cX6_quietStart 12 = .ok (.getfield 24, 3) := dgs daX6_quietStart_0 dbX6_quietStart_0 10 12 rfl
theorem dX6_quietStart_15 : decode cX6_quietStart 15 = .ok (.if_icmp .ge 27, 3) := dgs daX6_quietStart_0 dbX6_quietStart_0 11 15 rfl
theorem dX6_quietStart_18 : decode cX6_quietStart 18 = .ok (.aload_n 0, 1) := dgs daX6_quietStart_0 dbX6_quietStart_0 12 18 rfl
theorem dX6_quietStart_19 : decode cX6_quietStart 19 = .ok (.iload_n 3, 1) := dgs daX6_quietStart_0 dbX6_quietStart_0 13 19 rfl
theorem dX6_quietStart_20 : decode cX6_quietStart 20 = .ok (.invokevirtual 54, 3) := dgs daX6_quietStart_0 dbX6_quietStart_0 14 20 rfl
theorem dX6_quietStart_23 : decode cX6_quietStart 23 = .ok (.istore 4, 2) := dgs daX6_quietStart_0 dbX6_quietStart_0 15 23 rfl
