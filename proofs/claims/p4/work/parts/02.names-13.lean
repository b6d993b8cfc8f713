def dsX12_balance_61 : ByteArray := ⟨#[182, 0, 111, 78, 42, 28, 182, 0, 111, 58, 4, 16, 99, 54, 5, 3, 54, 6, 21, 6, 16, 50, 163, 0, 91, 4, 54, 7, 21, 7, 2, 161, 0, 76, 21, 7, 21, 6, 104, 54, 8, 45, 21, 8, 182, 0, 231, 153, 0, 54, 25, 4, 21, 8, 116, 182, 0, 231, 154, 0, 6, 167, 0, 40, 21, 5, 16, 99, 159, 0, 29, 45, 25, 4, 21, 8, 21, 8, 116, 184, 0, 241, 45, 25, 4, 21, 5, 21, 5, 116, 184, 0, 241, 148, 156, 0, 7, 21, 8, 54, 5, 132, 7, 254, 167, 255, 180, 132, 6, 1, 167, 255, 164, 21, 5, 16, 99, 160, 0, 9, 42]⟩
theorem daX12_balance_61 : agB cX12_balance dsX12_balance_61 61 := agB_of (n := 121) (by decide +kernel)
def dlX12_balance_61 : List (Nat × Instr × Nat) := [(0, .invokevirtual 111, 3), (3, .astore_n 3, 1), (4, .aload_n 0, 1), (5, .iload_n 2, 1), (6, .invokevirtual 111, 3), (9, .astore 4, 2), (11, .bipush 99, 2), (13, .istore 5, 2), (15, .iconst 0, 1), (16, .istore 6, 2), (18, .iload 6, 2), (20, .bipush 50, 2), (22, .if_icmp .gt 91, 3), (25, .iconst 1, 1), (26, .istore 7, 2), (28, .iload 7, 2), (30, .iconst (-1), 1), (31, .if_icmp .lt 76, 3), (34, .iload 7, 2), (36, .iload 6, 2), (38, .imul, 1), (39, .istore 8, 2), (41, .aload_n 3, 1), (42, .iload 8, 2), (44, .invokevirtual 231, 3), (47, .ifCond .eq 54, 3), (50, .aload 4, 2), (52, .iload 8, 2), (54, .ineg, 1), (55, .invokevirtual 231, 3), (58, .ifCond .ne 6, 3), (61, .goto 40, 3), (64, .iload 5, 2), (66, .bipush 99, 2), (68, .if_icmp .eq 29, 3), (71, .aload_n 3, 1), (72, .aload 4, 2), (74, .iload 8, 2), (76, .iload 8, 2), (78, .ineg, 1), (79, .invokestatic 241, 3), (82, .aload_n 3, 1), (83, .aload 4, 2), (85, .iload 5, 2), (87, .iload 5, 2), (89, .ineg, 1), (90, .invokestatic 241, 3), (93, .lcmp, 1), (94, .ifCond .ge 7, 3), (97, .iload 8, 2), (99, .istore 5, 2), (101, .iinc 7 (-2), 3), (104, .goto (-76), 3), (107, .iinc 6 1, 3), (110, .goto (-92), 3), (113, .iload 5, 2), (115, .bipush 99, 2), (117, .if_icmp .ne 9, 3), (120, .aload_n 0, 1)]
theorem dbX12_balance_61 : ∀ z ∈ dlX12_balance_61, decode dsX12_balance_61 z.1 = Except.ok z.2 ∧ okop dsX12_balance_61 z.1 = true := by decide +kernel
theorem dX12_balance_61 : decode cX12_balance 61 = .ok (.invokevirtual 111, 3) := dgs daX12_balance_61 dbX12_balance_61 0 0 rfl
theorem dX12_balance_64 : decode cX12_balance 64 = .ok (.astore_n 3, 1) := dgs daX12_balance_61 dbX12_balance_61 1 3 rfl
theorem dX12_balance_65 : decode cX12_balance 65 = .ok (.aload_n 0, 1) := dgs daX12_balance_61 dbX12_balance_61 2 4 rfl
theorem dX12_balance_66 : decode cX12_balance 66 = .ok (.iload_n 2, 1) := dgs daX12_balance_61 dbX12_balance_61 3 5 rfl
theorem dX12_balance_67 : decode cX12_balance 67 = .ok (.invokevirtual 111, 3) := dgs daX12_balance_61 dbX12_balance_61 4 6 rfl
theorem dX12_balance_70 : decode cX12_balance 70 = .ok (.astore 4, 2) := dgs daX12_balance_61 dbX12_balance_61 5 9 rfl
theorem dX12_balance_72 : decode cX12_balance 72 = .ok (.bipush 99, 2) := dgs daX12_balance_61 dbX12_balance_61 6 11 rfl
theorem dX12_balance_74 : decode cX12_balance 74 = .ok (.istore 5, 2) := dgs daX12_balance_61 dbX12_balance_61 7 13 rfl
theorem dX12_balance_76 : decode cX12_balance 76 = .ok (.iconst 0, 1) := dgs daX12_balance_61 dbX12_balance_61 8 15 rfl
theorem dX12_balance_77 : decode cX12_balance 77 = .ok (.istore 6, 2) := dgs daX12_balance_61 dbX12_balance_61 9 16 rfl
theorem dX12_balance_79 : decode cX12_balance 79 = .ok (.iload 6, 2) := dgs daX12_balance_61 dbX12_balance_61 10 18 rfl
theorem dX12_balance_81 : decode cX12_balance 81 = .ok (.bipush 50, 2) := dgs daX12_balance_61 dbX12_balance_61 11 20 rfl
theorem dX12_balance_83 : decode cX12_balance 83 = .ok (.if_icmp .gt 91, 3) := dgs daX12_balance_61 dbX12_balance_61 12 22 rfl
theorem dX12_balance_86 : decode cX12_balance 86 = .ok (.iconst 1, 1) := dgs daX12_balance_61 dbX12_balance_61 13 25 rfl
theorem dX12_balance_87 : decode cX12_balance 87 = .ok (.istore 7, 2) := dgs daX12_balance_61 dbX12_balance_61 14 26 rfl
theorem dX12_balance_89 : decode cX12_balance 89 = .ok (.iload 7, 2) := dgs daX12_balance_61 dbX12_balance_61 15 28 rfl
theorem dX12_balance_91 : decode cX12_balance 91 = .ok (.iconst (-1), 1) := dgs daX12_balance_61 dbX12_balance_61 16 30 rfl
theorem dX12_balance_92 : decode cX12_balance 92 = .ok (.if_icmp .lt 76, 3) := dgs daX12_balance_61 dbX12_balance_61 17 31 rfl
theorem dX12_balance_95 : decode cX12_balance 95 = .ok (.iload 7, 2) := dgs daX12_balance_61 dbX12_balance_61 18 34 rfl
theorem dX12_balance_97 : decode cX12_balance 97 = .ok (.iload 6, 2) := dgs daX12_balance_61 dbX12_balance_61 19 36 rfl
theorem dX12_balance_99 : decode cX12_balance 99 = .ok (.imul, 1) := dgs daX12_balance_61 dbX12_balance_61 20 38 rfl
theorem dX12_balance_100 : decode cX12_balance 100 = .ok (.istore 8, 2) := dgs daX12_balance_61 dbX12_balance_61 21 39 rfl
theorem dX12_balance_102 : decode cX12_balance 102 = .ok (.aload_n 3, 1) := dgs daX12_balance_61 dbX12_balance_61 22 41 rfl
theorem dX12_balance_103 : decode cX12_balance 103 = .ok (.iload 8, 2) := dgs daX12_balance_61 dbX12_balance_61 23 42 rfl
theorem dX12_balance_105 : decode cX12_balance 105 = .ok (.invokevirtual 231, 3) := dgs daX12_balance_61 dbX12_balance_61 24 44 rfl
theorem dX12_balance_108 : decode cX12_balance 108 = .ok (.ifCond .eq 54, 3) := dgs daX12_balance_61 dbX12_balance_61 25 47 rfl
theorem dX12_balance_111 : decode cX12_balance 111 = .ok (.aload 4, 2) := dgs daX12_balance_61 dbX12_balance_61 26 50 rfl
theorem dX12_balance_113 : decode cX12_balance 113 = .ok (.iload 8, 2) := dgs daX12_balance_61 dbX12_balance_61 27 52 rfl
theorem dX12_balance_115 : decode cX12_balance 115 = .ok (.ineg, 1) := dgs daX12_balance_61 dbX12_balance_61 28 54 rfl
theorem dX12_balance_116 : decode cX12_balance 116 = .ok (.invokevirtual 231, 3) := dgs daX12_balance_61 dbX12_balance_61 29 55 rfl
theorem dX12_balance_119 : decode cX12_balance 119 = .ok (.ifCond .ne 6, 3) := dgs daX12_balance_61 dbX12_balance_61 30 58 rfl
theorem dX12_balance_122 : decode cX12_balance 122 = .ok (.goto 40, 3) := dgs daX12_balance_61 dbX12_balance_61 31 61 rfl
theorem dX12_balance_125 : decode cX12_balance 125 = .ok (.iload 5, 2) := dgs daX12_balance_61 dbX12_balance_61 32 64 rfl
theorem dX12_balance_127 : decode cX12_balance 127 = .ok (.bipush 99, 2) := dgs daX12_balance_61 dbX12_balance_61 33 66 rfl
theorem dX12_balance_129 : decode cX12_balance 129 = .ok (.if_icmp .eq 29, 3) := dgs daX12_balance_61 dbX12_balance_61 34 68 rfl
theorem dX12_balance_132 : decode cX12_balance 132 = .ok (.aload_n 3, 1) := dgs daX12_balance_61 dbX12_balance_61 35 71 rfl
theorem dX12_balance_133 : decode cX12_balance 133 = .ok (.aload 4, 2) := dgs daX12_balance_61 dbX12_balance_61 36 72 rfl
theorem dX12_balance_135 : decode cX12_balance 135 = .ok (.iload 8, 2) := dgs daX12_balance_61 dbX12_balance_61 37 74 rfl
theorem dX12_balance_137 : decode cX12_balance 137 = .ok (.iload 8, 2) := dgs daX12_balance_61 dbX12_balance_61 38 76 rfl
theorem dX12_balance_139 : decode cX12_balance 139 = .ok (.ineg, 1) := dgs daX12_balance_61 dbX12_balance_61 39 78 rfl
theorem dX12_balance_140 : decode cX12_balance 140 = .ok (.invokestatic 241, 3) := dgs daX12_balance_61 dbX12_balance_61 40 79 rfl
theorem dX12_balance_143 : decode cX12_balance 143 = .ok (.aload_n 3, 1) := dgs daX12_balance_61 dbX12_balance_61 41 82 rfl
theorem dX12_balance_144 : decode cX12_balance 144 = .ok (.aload 4, 2) := dgs daX12_balance_61 dbX12_balance_61 42 83 rfl
theorem dX12_balance_146 : decode cX12_balance 146 = .ok (.iload 5, 2) := dgs daX12_balance_61 dbX12_balance_61 43 85 rfl
theorem dX12_balance_148 : decode cX12_balance 148 = .ok (.iload 5, 2) := dgs daX12_balance_61 dbX12_balance_61 44 87 rfl
theorem dX12_balance_150 : decode cX12_balance 150 = .ok (.ineg, 1) := dgs daX12_balance_61 dbX12_balance_61 45 89 rfl
theorem dX12_balance_151 : decode cX12_balance 151 = .ok (.invokestatic 241, 3) := dgs daX12_balance_61 dbX12_balance_61 46 90 rfl
theorem dX12_balance_154 : decode cX12_balance 154 = .ok (.lcmp, 1) := dgs daX12_balance_61 dbX12_balance_61 47 93 rfl
theorem dX12_balance_155 : decode cX12_balance 155 = .ok (.ifCond .ge 7, 3) := dgs daX12_balance_61 dbX12_balance_61 48 94 rfl
theorem dX12_balance_158 : decode cX12_balance 158 = .ok (.iload 8, 2) := dgs daX12_balance_61 dbX12_balance_61 49 97 rfl
theorem dX12_balance_160 : decode cX12_balance 160 = .ok (.istore 5, 2) := dgs daX12_balance_61 dbX12_balance_61 50 99 rfl
theorem dX12_balance_162 : decode cX12_balance 162 = .ok (.iinc 7 (-2), 3) := dgs daX12_balance_61 dbX12_balance_61 51 101 rfl
theorem dX12_balance_165 : decode cX12_balance 165 = .ok (.goto (-76), 3) := dgs daX12_balance_61 dbX12_balance_61 52 104 rfl
theorem dX12_balance_168 : decode cX12_balance 168 = .ok (.iinc 6 1, 3) := dgs daX12_balance_61 dbX12_balance_61 53 107 rfl
theorem dX12_balance_171 : decode cX12_balance 171 = .ok (.goto (-92), 3) := dgs daX12_balance_61 dbX12_balance_61 54 110 rfl
theorem dX12_balance_174 : decode cX12_balance 174 = .ok (.iload 5, 2) := dgs daX12_balance_61 dbX12_balance_61 55 113 rfl
theorem dX12_balance_176 : decode cX12_balance 176 = .ok (.bipush 99, 2) := dgs daX12_balance_61 dbX12_balance_61 56 115 rfl
theorem dX12_balance_178 : decode cX12_balance 178 = .ok (.if_icmp .ne 9, 3) := dgs daX12_balance_61 dbX12_balance_61 57 117 rfl
theorem dX12_balance_181 : decode cX12_balance 181 = .ok (.aload_n 0, 1) := dgs daX12_balance_61 dbX12_balance_61 58 120 rfl
def dsX12_balance_182 : ByteArray := ⟨#[6, 182, 0, 143, 172, 45, 21, 5, 181, 0, 164, 25, 4, 21, 5, 116, 181, 0, 164, 42, 21, 5, 182, 0, 153, 172]⟩
theorem daX12_balance_182 : agB cX12_balance dsX12_balance_182 182 := agB_of (n := 26) (by decide +kernel)
def dlX12_balance_182 : List (Nat × Instr × Nat) := [(0, .iconst 3, 1), (1, .invokevirtual 143, 3), (4, .ireturn, 1), (5, .aload_n 3, 1), (6, .iload 5, 2), (8, .putfield 164, 3), (11, .aload 4, 2), (13, .iload 5, 2), (15, .ineg, 1), (16, .putfield 164, 3), (19, .aload_n 0, 1), (20, .iload 5, 2), (22, .invokevirtual 153, 3), (25, .ireturn, 1)]
theorem dbX12_balance_182 : ∀ z ∈ dlX12_balance_182, decode dsX12_balance_182 z.1 = Except.ok z.2 ∧ okop dsX12_balance_182 z.1 = true := by decide +kernel
theorem dX12_balance_182 : decode cX12_balance 182 = .ok (.iconst 3, 1) := dgs daX12_balance_182 dbX12_balance_182 0 0 rfl
theorem dX12_balance_183 : decode cX12_balance 183 = .ok (.invokevirtual 143, 3) := dgs daX12_balance_182 dbX12_balance_182 1 1 rfl
theorem dX12_balance_186 : decode cX12_balance 186 = .ok (.ireturn, 1) := dgs daX12_balance_182 dbX12_balance_182 2 4 rfl
theorem dX12_balance_187 : decode cX12_balance 187 = .ok (.aload_n 3, 1) := dgs daX12_balance_182 dbX12_balance_182 3 5 rfl
theorem dX12_balance_188 : decode cX12_balance 188 = .ok (.iload 5, 2) := dgs daX12_balance_182 dbX12_balance_182 4 6 rfl
theorem dX12_balance_190 : decode cX12_balance 190 = .ok (.putfield 164, 3) := dgs daX12_balance_182 dbX12_balance_182 5 8 rfl
theorem dX12_balance_193 : decode cX12_balance 193 = .ok (.aload 4, 2) := dgs daX12_balance_182 dbX12_balance_182 6 11 rfl
theorem dX12_balance_195 : decode cX12_balance 195 = .ok (.iload 5, 2) := dgs daX12_balance_182 dbX12_balance_182 7 13 rfl
theorem dX12_balance_197 : decode cX12_balance 197 = .ok (.ineg, 1) := dgs daX12_balance_182 dbX12_balance_182 8 15 rfl
theorem dX12_balance_198 : decode cX12_balance 198 = .ok (.putfield 164, 3) := dgs daX12_balance_182 dbX12_balance_182 9 16 rfl
theorem dX12_balance_201 : decode cX12_balance 201 = .ok (.aload_n 0, 1) := dgs daX12_balance_182 dbX12_balance_182 10 19 rfl
theorem dX12_balance_202 : decode cX12_balance 202 = .ok (.iload 5, 2) := dgs daX12_balance_182 dbX12_balance_182 11 20 rfl
theorem dX12_balance_204 : decode cX12_balance 204 = .ok (.invokevirtual 153, 3) := dgs daX12_balance_182 dbX12_balance_182 12 22 rfl
theorem dX12_balance_207 : decode cX12_balance 207 = .ok (.ireturn, 1) := dgs daX12_balance_182 dbX12_balance_182 13 25 rfl
set_option maxRecDepth 20000 in
theorem ggX12_section_X12_isGear : GoodIn wsX12_section wsX12_isGear := goodIn_q _ [8, 9, 10, 11, 12, 13, 14, 15, 16, 17, 7, 18, 84, 85, 86, 87, 88, 89, 90, 91, 92, 93, 94, 95, 96, 97, 98, 99, 100, 101, 102, 103, 104, 105, 106, 107, 108, 109, 110, 111, 112, 113, 114, 115, 116, 117, 118, 119, 120] rfl (by decide +kernel)
set_option maxRecDepth 20000 in
theorem gX12_section_X12_isGear : GoodIn wsX12_section (wsV RX12 121 RX12 yX12_isGear wsX12_isGear) := goodIn_app (goodIn_q _ [4, 5, 6, 7] rfl (by decide +kernel)) ggX12_section_X12_isGear
set_option maxRecDepth 20000 in
theorem ggX12_section_X12_fails : GoodIn wsX12_section wsX12_fails := goodIn_q _ [22, 23, 84, 85, 86, 87, 88, 89, 90, 91, 92, 93, 94, 95, 96, 97, 98, 99, 100, 101, 102, 103, 104, 105, 106, 107, 108, 109, 110, 111, 112, 113, 114, 115, 116, 117] rfl (by decide +kernel)
set_option maxRecDepth 20000 in
theorem gX12_section_X12_fails : GoodIn wsX12_section (wsV RX12 143 RX12 yX12_fails wsX12_fails) := goodIn_app (goodIn_q _ [19, 20, 21, 7] rfl (by decide +kernel)) ggX12_section_X12_fails
set_option maxRecDepth 20000 in
theorem ggX12_section_X12_in : GoodIn wsX12_section wsX12_in := goodIn_q _ [18] rfl (by decide +kernel)
set_option maxRecDepth 20000 in
theorem gX12_section_X12_in : GoodIn wsX12_section (va_wsS RX12 101 yX12_in wsX12_in) := goodIn_app (goodIn_q _ [16, 17, 7] rfl (by decide +kernel)) ggX12_section_X12_in
set_option maxRecDepth 20000 in
theorem ggX12_section_X12_gearAt : GoodIn wsX12_section wsX12_gearAt := goodIn_q _ [27, 9, 28, 29, 30, 31, 13, 32, 15, 33, 34, 35, 36, 37, 38, 39, 40, 41, 42, 43, 44, 45, 84, 85, 86, 87, 88, 89, 90, 91, 92, 93, 94, 95, 96, 97, 98, 99, 100, 101, 102, 103, 104, 105, 106, 107, 108, 109, 110, 111, 112, 113, 114, 115, 116, 117, 118, 119, 120] rfl (by decide +kernel)
set_option maxRecDepth 20000 in
theorem gX12_section_X12_gearAt : GoodIn wsX12_section (wsV RX12 111 RX12 yX12_gearAt wsX12_gearAt) := goodIn_app (goodIn_q _ [24, 25, 26, 7] rfl (by decide +kernel)) ggX12_section_X12_gearAt
set_option maxRecDepth 20000 in
theorem ggX12_section_X10_across : GoodIn wsX12_section wsX10_across := goodIn_q _ [50, 51, 52, 61, 62, 63, 64, 65, 66, 67, 68, 69, 70, 71, 72, 73, 74, 75, 76, 77, 78, 79, 80, 81, 82, 83] rfl (by decide +kernel)
set_option maxRecDepth 20000 in
theorem gX12_section_X10_across : GoodIn wsX12_section (wsV RX12 167 RX10 yX10_across wsX10_across) := goodIn_app (goodIn_q _ [46, 47, 48, 49] rfl (by decide +kernel)) ggX12_section_X10_across
set_option maxRecDepth 20000 in
theorem ggX12_section_X12_root : GoodIn wsX12_section wsX12_root := goodIn_q _ [55, 56, 2] rfl (by decide +kernel)
set_option maxRecDepth 20000 in
theorem gX12_section_X12_root : GoodIn wsX12_section (va_wsS RX12 195 yX12_root wsX12_root) := goodIn_app (goodIn_q _ [53, 54, 7] rfl (by decide +kernel)) ggX12_section_X12_root
set_option maxRecDepth 20000 in
theorem ggX12_section_X12_answer : GoodIn wsX12_section wsX12_answer := goodIn_q _ [60, 23, 84, 85, 86, 87, 88, 89, 90, 91, 92, 93, 94, 95, 96, 97, 98, 99, 100, 101, 102, 103, 104, 105, 106, 107, 108, 109, 110, 111, 112, 113, 114, 115, 116, 117] rfl (by decide +kernel)
set_option maxRecDepth 20000 in
theorem gX12_section_X12_answer : GoodIn wsX12_section (wsV RX12 153 RX12 yX12_answer wsX12_answer) := goodIn_app (goodIn_q _ [57, 58, 59, 7] rfl (by decide +kernel)) ggX12_section_X12_answer
def dsX12_section_0 : ByteArray := ⟨#[42, 27, 182, 0, 121, 153, 0, 11, 42, 28, 182, 0, 121, 154, 0, 9, 42, 4, 182, 0, 143, 172, 21, 4, 133, 10, 20, 0, 245, 184, 0, 101, 153, 0, 17, 29, 133, 9, 21, 4, 4, 100, 133, 184, 0, 101, 154, 0, 9, 42, 5, 182, 0, 143, 172, 42, 27, 182, 0, 111, 58, 5, 42, 28, 182, 0, 111, 58, 6, 25, 5, 182, 0, 167, 25, 5, 182, 0, 167, 105, 25, 6, 182, 0, 167, 25, 6, 182, 0, 167, 105, 97, 184, 0, 195, 20, 0, 3, 109, 55, 7, 25, 5, 180, 0, 115, 25, 6, 180, 0, 115, 160, 0, 19, 20, 0, 247, 25, 5, 180, 0, 209]⟩
theorem daX12_section_0 : agB cX12_section dsX12_section_0 0 := agB_of (n := 122) (by decide +kernel)
def dlX12_section_0 : List (Nat × Instr × Nat) := [(0, .aload_n 0, 1), (1, .iload_n 1, 1), (2, .invokevirtual 121, 3), (5, .ifCond .eq 11, 3), (8, .aload_n 0, 1), (9, .iload_n 2, 1), (10, .invokevirtual 121, 3), (13, .ifCond .ne 9, 3), (16, .aload_n 0, 1), (17, .iconst 1, 1), (18, .invokevirtual 143, 3), (21, .ireturn, 1), (22, .iload 4, 2), (24, .i2l, 1), (25, .lconst 1, 1), (26, .ldc2_w 245, 3), (29, .invokestatic 101, 3), (32, .ifCond .eq 17, 3), (35, .iload_n 3, 1), (36, .i2l, 1), (37, .lconst 0, 1), (38, .iload 4, 2), (40, .iconst 1, 1), (41, .isub, 1), (42, .i2l, 1), (43, .invokestatic 101, 3), (46, .ifCond .ne 9, 3), (49, .aload_n 0, 1), (50, .iconst 2, 1), (51, .invokevirtual 143, 3), (54, .ireturn, 1), (55, .aload_n 0, 1), (56, .iload_n 1, 1), (57, .invokevirtual 111, 3), (60, .astore 5, 2), (62, .aload_n 0, 1), (63, .iload_n 2, 1), (64, .invokevirtual 111, 3), (67, .astore 6, 2), (69, .aload 5, 2), (71, .invokevirtual 167, 3), (74, .aload 5, 2), (76, .invokevirtual 167, 3), (79, .lmul, 1), (80, .aload 6, 2), (82, .invokevirtual 167, 3), (85, .aload 6, 2), (87, .invokevirtual 167, 3), (90, .lmul, 1), (91, .ladd, 1), (92, .invokestatic 195, 3), (95, .ldc2_w 3, 3), (98, .ldiv, 1), (99, .lstore 7, 2), (101, .aload 5, 2), (103, .getfield 115, 3), (106, .aload 6, 2), (108, .getfield 115, 3), (111, .if_icmp .ne 19, 3), (114, .ldc2_w 247, 3), (117, .aload 5, 2), (119, .getfield 209, 3)]
theorem dbX12_section_0 : ∀ z ∈ dlX12_section_0, decode dsX12_section_0 z.1 = Except.ok z.2 ∧ okop dsX12_section_0 z.1 = true := by decide +kernel
theorem dX12_section_0 : decode cX12_section 0 = .ok (.aload_n 0, 1) := dgs daX12_section_0 dbX12_section_0 0 0 rfl
theorem dX12_section_1 : decode cX12_section 1 = .ok (.iload_n 1, 1) := dgs daX12_section_0 dbX12_section_0 1 1 rfl
theorem dX12_section_2 : decode cX12_section 2 = .ok (.invokevirtual 121, 3) := dgs daX12_section_0 dbX12_section_0 2 2 rfl
theorem dX12_section_5 : decode cX12_section 5 = .ok (.ifCond .eq 11, 3) := dgs daX12_section_0 dbX12_section_0 3 5 rfl
theorem dX12_section_8 : decode cX12_section 8 = .ok (.aload_n 0, 1) := dgs daX12_section_0 dbX12_section_0 4 8 rfl
theorem dX12_section_9 : decode cX12_section 9 = .ok (.iload_n 2, 1) := dgs daX12_section_0 dbX12_section_0 5 9 rfl
theorem dX12_section_10 : decode cX12_section 10 = .ok (.invokevirtual 121, 3) := dgs daX12_section_0 dbX12_section_0 6 10 rfl
theorem dX12_section_13 : decode cX12_section 13 = .ok (.ifCond .ne 9, 3) := dgs daX12_section_0 dbX12_section_0 7 13 rfl
theorem dX12_section_16 : decode cX12_section 16 = .ok (.aload_n 0, 1) := dgs daX12_section_0 dbX12_section_0 8 16 rfl
theorem dX12_section_17 : decode cX12_section 17 = .ok (.iconst 1, 1) := dgs daX12_section_0 dbX12_section_0 9 17 rfl
theorem dX12_section_18 : decode cX12_section 18 = .ok (.invokevirtual 143, 3) := dgs daX12_section_0 dbX12_section_0 10 18 rfl
theorem dX12_section_21 : decode cX12_section 21 = .ok (.ireturn, 1) := dgs daX12_section_0 dbX12_section_0 11 21 rfl
theorem dX12_section_22 : decode cX12_section 22 = .ok (.iload 4, 2) := dgs daX12_section_0 dbX12_section_0 12 22 rfl
theorem dX12_section_24 : decode cX12_section 24 = .ok (.i2l, 1) := dgs daX12_section_0 dbX12_section_0 13 24 rfl
theorem dX12_section_25 : decode cX12_section 25 = .ok (.lconst 1, 1) := dgs daX12_section_0 dbX12_section_0 14 25 rfl
theorem dX12_section_26 : decode cX12_section 26 = .ok (.ldc2_w 245, 3) := dgs daX12_section_0 dbX12_section_0 15 26 rfl
theorem dX12_section_29 : decode cX12_section 29 = .ok (.invokestatic 101, 3) := dgs daX12_section_0 dbX12_section_0 16 29 rfl
theorem dX12_section_32 : decode cX12_section 32 = .ok (.ifCond .eq 17, 3) := dgs daX12_section_0 dbX12_section_0 17 32 rfl
theorem dX12_section_35 : decode cX12_section 35 = .ok (.iload_n 3, 1) := dgs daX12_section_0 dbX12_section_0 18 35 rfl
theorem dX12_section_36 : decode cX12_section 36 = .ok (.i2l, 1) := dgs daX12_section_0 dbX12_section_0 19 36 rfl
theorem dX12_section_37 : decode cX12_section 37 = .ok (.lconst 0, 1) := dgs daX12_section_0 dbX12_section_0 20 37 rfl
theorem dX12_section_38 : decode cX12_section 38 = .ok (.iload 4, 2) := dgs daX12_section_0 dbX12_section_0 21 38 rfl
theorem dX12_section_40 : decode cX12_section 40 = .ok (.iconst 1, 1) := dgs daX12_section_0 dbX12_section_0 22 40 rfl
theorem dX12_section_41 : decode cX12_section 41 = .ok (.isub, 1) := dgs daX12_section_0 dbX12_section_0 23 41 rfl
theorem dX12_section_42 : decode cX12_section 42 = .ok (.i2l, 1) := dgs daX12_section_0 dbX12_section_0 24 42 rfl
theorem dX12_section_43 : decode cX12_section 43 = .ok (.invokestatic 101, 3) := dgs daX12_section_0 dbX12_section_0 25 43 rfl
theorem dX12_section_46 : decode cX12_section 46 = .ok (.ifCond .ne 9, 3) := dgs daX12_section_0 dbX12_section_0 26 46 rfl
theorem dX12_section_49 : decode cX12_section 49 = .ok (.aload_n 0, 1) := dgs daX12_section_0 dbX12_section_0 27 49 rfl
theorem dX12_section_50 : decode cX12_section 50 = .ok (.iconst 2, 1) := dgs daX12_section_0 dbX12_section_0 28 50 rfl
theorem dX12_section_51 : decode cX12_section 51 = .ok (.invokevirtual 143, 3) := dgs daX12_section_0 dbX12_section_0 29 51 rfl
theorem dX12_section_54 : decode cX12_section 54 = .ok (.ireturn, 1) := dgs daX12_section_0 dbX12_section_0 30 54 rfl
theorem dX12_section_55 : decode cX12_section 55 = .ok (.aload_n 0, 1) := dgs daX12_section_0 dbX12_section_0 31 55 rfl
theorem dX12_section_56 : decode cX12_section 56 = .ok (.iload_n 1, 1) := dgs daX12_section_0 dbX12_section_0 32 56 rfl
theorem dX12_section_57 : decode cX12_section 57 = .ok (.invokevirtual 111, 3) := dgs daX12_section_0 dbX12_section_0 33 57 rfl
theorem dX12_section_60 : decode cX12_section 60 = .ok (.astore 5, 2) := dgs daX12_section_0 dbX12_section_0 34 60 rfl
theorem dX12_section_62 : decode cX12_section 62 = .ok (.aload_n 0, 1) := dgs daX12_section_0 dbX12_section_0 35 62 rfl
theorem dX12_section_63 : decode cX12_section 63 = .ok (.iload_n 2, 1) := dgs daX12_section_0 dbX12_section_0 36 63 rfl
theorem dX12_section_64 : decode cX12_section 64 = .ok (.invokevirtual 111, 3) := dgs daX12_section_0 dbX12_section_0 37 64 rfl
theorem dX12_section_67 : decode cX12_section 67 = .ok (.astore 6, 2) := dgs daX12_section_0 dbX12_section_0 38 67 rfl
theorem dX12_section_69 : decode cX12_section 69 = .ok (.aload 5, 2) := dgs daX12_section_0 dbX12_section_0 39 69 rfl
theorem dX12_section_71 : decode cX12_section 71 = .ok (.invokevirtual 167, 3) := dgs daX12_section_0 dbX12_section_0 40 71 rfl
theorem dX12_section_74 : decode cX12_section 74 = .ok (.aload 5, 2) := dgs daX12_section_0 dbX12_section_0 41 74 rfl
theorem dX12_section_76 : decode cX12_section 76 = .ok (.invokevirtual 167, 3) := dgs daX12_section_0 dbX12_section_0 42 76 rfl
theorem dX12_section_79 : decode cX12_section 79 = .ok (.lmul, 1) := dgs daX12_section_0 dbX12_section_0 43 79 rfl
theorem dX12_section_80 : decode cX12_section 80 = .ok (.aload 6, 2) := dgs daX12_section_0 dbX12_section_0 44 80 rfl
theorem dX12_section_82 : decode cX12_section 82 = .ok (.invokevirtual 167, 3) := dgs daX12_section_0 dbX12_section_0 45 82 rfl
theorem dX12_section_85 : decode cX12_section 85 = .ok (.aload 6, 2) := dgs daX12_section_0 dbX12_section_0 46 85 rfl
theorem dX12_section_87 : decode cX12_section 87 = .ok (.invokevirtual 167, 3) := dgs daX12_section_0 dbX12_section_0 47 87 rfl
theorem dX12_section_90 : decode cX12_section 90 = .ok (.lmul, 1) := dgs daX12_section_0 dbX12_section_0 48 90 rfl
theorem dX12_section_91 : decode cX12_section 91 = .ok (.ladd, 1) := dgs daX12_section_0 dbX12_section_0 49 91 rfl
theorem dX12_section_92 : decode cX12_section 92 = .ok (.invokestatic 195, 3) := dgs daX12_section_0 dbX12_section_0 50 92 rfl
theorem dX12_section_95 : decode cX12_section 95 = .ok (.ldc2_w 3, 3) := dgs daX12_section_0 dbX12_section_0 51 95 rfl
theorem dX12_section_98 : decode cX12_section 98 = .ok (.ldiv, 1) := dgs daX12_section_0 dbX12_section_0 52 98 rfl
theorem dX12_section_99 : decode cX12_section 99 = .ok (.lstore 7, 2) := dgs daX12_section_0 dbX12_section_0 53 99 rfl
theorem dX12_section_101 : decode cX12_section 101 = .ok (.aload 5, 2) := dgs daX12_section_0 dbX12_section_0 54 101 rfl
theorem dX12_section_103 : decode cX12_section 103 = .ok (.getfield 115, 3) := dgs daX12_section_0 dbX12_section_0 55 103 rfl
theorem dX12_section_106 : decode cX12_section 106 = .ok (.aload 6, 2) := dgs daX12_section_0 dbX12_section_0 56 106 rfl
theorem dX12_section_108 : decode cX12_section 108 = .ok (.getfield 115, 3) := dgs daX12_section_0 dbX12_section_0 57 108 rfl
theorem dX12_section_111 : decode cX12_section 111 = .ok (.if_icmp .ne 19, 3) := dgs daX12_section_0 dbX12_section_0 58 111 rfl
theorem dX12_section_114 : decode cX12_section 114 = .ok (.ldc2_w 247, 3) := dgs daX12_section_0 dbX12_section_0 59 114 rfl
theorem dX12_section_117 : decode cX12_section 117 = .ok (.aload 5, 2) := dgs daX12_section_0 dbX12_section_0 60 117 rfl
theorem dX12_section_119 : decode cX12_section 119 = .ok (.getfield 209, 3) := dgs daX12_section_0 dbX12_section_0 61 119 rfl
def dsX12_section_122 : ByteArray := ⟨#[133, 105, 22, 7, 148, 158, 0, 9, 42, 6, 182, 0, 143, 172, 22, 7, 25, 5, 180, 0, 209, 133, 29, 133, 105, 21, 4, 133, 109, 101, 55, 9, 42, 25, 5, 180, 0, 115, 133, 22, 9, 105, 22, 7, 109, 136, 182, 0, 153, 172]⟩
theorem daX12_section_122 : agB cX12_section dsX12_section_122 122 := agB_of (n := 50) (by decide +kernel)
def dlX12_section_122 : List (Nat × Instr × Nat) := [(0, .i2l, 1), (1, .lmul, 1), (2, .lload 7, 2), (4, .lcmp, 1), (5, .ifCond .le 9, 3), (8, .aload_n 0, 1), (9, .iconst 3, 1), (10, .invokevirtual 143, 3), (13, .ireturn, 1), (14, .lload 7, 2), (16, .aload 5, 2), (18, .getfield 209, 3), (21, .i2l, 1), (22, .iload_n 3, 1), (23, .i2l, 1), (24, .lmul, 1), (25, .iload 4, 2), (27, .i2l, 1), (28, .ldiv, 1), (29, .lsub, 1), (30, .lstore 9, 2), (32, .aload_n 0, 1), (33, .aload 5, 2), (35, .getfield 115, 3), (38, .i2l, 1), (39, .lload 9, 2), (41, .lmul, 1), (42, .lload 7, 2), (44, .ldiv, 1), (45, .l2i, 1), (46, .invokevirtual 153, 3), (49, .ireturn, 1)]
theorem dbX12_section_122 : ∀ z ∈ dlX12_section_122, decode dsX12_section_122 z.1 = Except.ok z.2 ∧ okop dsX12_section_122 z.1 = true := by decide +kernel
theorem dX12_section_122 : decode cX12_section 122 = .ok (.i2l, 1) := dgs daX12_section_122 dbX12_section_122 0 0 rfl
theorem dX12_section_123 : decode cX12_section 123 = .ok (.lmul, 1) := dgs daX12_section_122 dbX12_section_122 1 1 rfl
theorem dX12_section_124 : decode cX12_section 124 = .ok (.lload 7, 2) := dgs daX12_section_122 dbX12_section_122 2 2 rfl
theorem dX12_section_126 : decode cX12_section 126 = .ok (.lcmp, 1) := dgs daX12_section_122 dbX12_section_122 3 4 rfl
theorem dX12_section_127 : decode cX12_section 127 = .ok (.ifCond .le 9, 3) := dgs daX12_section_122 dbX12_section_122 4 5 rfl
theorem dX12_section_130 : decode cX12_section 130 = .ok (.aload_n 0, 1) := dgs daX12_section_122 dbX12_section_122 5 8 rfl
theorem dX12_section_131 : decode cX12_section 131 = .ok (.iconst 3, 1) := dgs daX12_section_122 dbX12_section_122 6 9 rfl
theorem dX12_section_132 : decode cX12_section 132 = .ok (.invokevirtual 143, 3) := dgs daX12_section_122 dbX12_section_122 7 10 rfl
theorem dX12_section_135 : decode cX12_section 135 = .ok (.ireturn, 1) := dgs daX12_section_122 dbX12_section_122 8 13 rfl
theorem dX12_section_136 : decode cX12_section 136 = .ok (.lload 7, 2) := dgs daX12_section_122 dbX12_section_122 9 14 rfl
theorem dX12_section_138 : decode cX12_section 138 = .ok (.aload 5, 2) := dgs daX12_section_122 dbX12_section_122 10 16 rfl
theorem dX12_section_140 : decode cX12_section 140 = .ok (.getfield 209, 3) := dgs daX12_section_122 dbX12_section_122 11 18 rfl
theorem dX12_section_143 : decode cX12_section 143 = .ok (.i2l, 1) := dgs daX12_section_122 dbX12_section_122 12 21 rfl
theorem dX12_section_144 : decode cX12_section 144 = .ok (.iload_n 3, 1) := dgs daX12_section_122 dbX12_section_122 13 22 rfl
theorem dX12_section_145 : decode cX12_section 145 = .ok (.i2l, 1) := dgs daX12_section_122 dbX12_section_122 14 23 rfl
theorem dX12_section_146 : decode cX12_section 146 = .ok (.lmul, 1) := dgs daX12_section_122 dbX12_section_122 15 24 rfl
theorem dX12_section_147 : decode cX12_section 147 = .ok (.iload 4, 2) := dgs daX12_section_122 dbX12_section_122 16 25 rfl
theorem dX12_section_149 : decode cX12_section 149 = .ok (.i2l, 1) := dgs daX12_section_122 dbX12_section_122 17 27 rfl
theorem dX12_section_150 : decode cX12_section 150 = .ok (.ldiv, 1) := dgs daX12_section_122 dbX12_section_122 18 28 rfl
theorem dX12_section_151 : decode cX12_section 151 = .ok (.lsub, 1) := dgs daX12_section_122 dbX12_section_122 19 29 rfl
theorem dX12_section_152 : decode cX12_section 152 = .ok (.lstore 9, 2) := dgs daX12_section_122 dbX12_section_122 20 30 rfl
theorem dX12_section_154 : decode cX12_section 154 = .ok (.aload_n 0, 1) := dgs daX12_section_122 dbX12_section_122 21 32 rfl
theorem dX12_section_155 : decode cX12_section 155 = .ok (.aload 5, 2) := dgs daX12_section_122 dbX12_section_122 22 33 rfl
theorem dX12_section_157 : decode cX12_section 157 = .ok (.getfield 115, 3) := dgs daX12_section_122 dbX12_section_122 23 35 rfl
theorem dX12_section_160 : decode cX12_section 160 = .ok (.i2l, 1) := dgs daX12_section_122 dbX12_section_122 24 38 rfl
theorem dX12_section_161 : decode cX12_section 161 = .ok (.lload 9, 2) := dgs daX12_section_122 dbX12_section_122 25 39 rfl
theorem dX12_section_163 : decode cX12_section 163 = .ok (.lmul, 1) := dgs daX12_section_122 dbX12_section_122 26 41 rfl
theorem dX12_section_164 : decode cX12_section 164 = .ok (.lload 7, 2) := dgs daX12_section_122 dbX12_section_122 27 42 rfl
theorem dX12_section_166 : decode cX12_section 166 = .ok (.ldiv, 1) := dgs daX12_section_122 dbX12_section_122 28 44 rfl
theorem dX12_section_167 : decode cX12_section 167 = .ok (.l2i, 1) := dgs daX12_section_122 dbX12_section_122 29 45 rfl
theorem dX12_section_168 : decode cX12_section 168 = .ok (.invokevirtual 153, 3) := dgs daX12_section_122 dbX12_section_122 30 46 rfl
theorem dX12_section_171 : decode cX12_section 171 = .ok (.ireturn, 1) := dgs daX12_section_122 dbX12_section_122 31 49 rfl
set_option maxRecDepth 20000 in
theorem ggX12_isBounds_X12_in : GoodIn wsX12_isBounds wsX12_in := goodIn_q _ [6] rfl (by decide +kernel)
set_option maxRecDepth 20000 in
theorem gX12_isBounds_X12_in : GoodIn wsX12_isBounds (va_wsS RX12 101 yX12_in wsX12_in) := goodIn_app (goodIn_q _ [3, 4, 5] rfl (by decide +kernel)) ggX12_isBounds_X12_in
def dsX12_isBounds_0 : ByteArray := ⟨#[27, 133, 10, 20, 0, 249, 184, 0, 101, 153, 0, 41, 28, 133, 10, 20, 0, 249, 184, 0, 101, 153, 0, 29, 29, 133, 20, 0, 129, 21, 4, 133, 184, 0, 101, 153, 0, 15, 21, 4, 17, 0, 200, 163, 0, 7, 4, 167, 0, 4, 3, 172]⟩
theorem daX12_isBounds_0 : agB cX12_isBounds dsX12_isBounds_0 0 := agB_of (n := 52) (by decide +kernel)
def dlX12_isBounds_0 : List (Nat × Instr × Nat) := [(0, .iload_n 1, 1), (1, .i2l, 1), (2, .lconst 1, 1), (3, .ldc2_w 249, 3), (6, .invokestatic 101, 3), (9, .ifCond .eq 41, 3), (12, .iload_n 2, 1), (13, .i2l, 1), (14, .lconst 1, 1), (15, .ldc2_w 249, 3), (18, .invokestatic 101, 3), (21, .ifCond .eq 29, 3), (24, .iload_n 3, 1), (25, .i2l, 1), (26, .ldc2_w 129, 3), (29, .iload 4, 2), (31, .i2l, 1), (32, .invokestatic 101, 3), (35, .ifCond .eq 15, 3), (38, .iload 4, 2), (40, .sipush 200, 3), (43, .if_icmp .gt 7, 3), (46, .iconst 1, 1), (47, .goto 4, 3), (50, .iconst 0, 1), (51, .ireturn, 1)]
theorem dbX12_isBounds_0 : ∀ z ∈ dlX12_isBounds_0, decode dsX12_isBounds_0 z.1 = Except.ok z.2 ∧ okop dsX12_isBounds_0 z.1 = true := by decide +kernel
theorem dX12_isBounds_0 : decode cX12_isBounds 0 = .ok (.iload_n 1, 1) := dgs daX12_isBounds_0 dbX12_isBounds_0 0 0 rfl
theorem dX12_isBounds_1 : decode cX12_isBounds 1 = .ok (.i2l, 1) := dgs daX12_isBounds_0 dbX12_isBounds_0 1 1 rfl
theorem dX12_isBounds_2 : decode cX12_isBounds 2 = .ok (.lconst 1, 1) := dgs daX12_isBounds_0 dbX12_isBounds_0 2 2 rfl
theorem dX12_isBounds_3 : decode cX12_isBounds 3 = .ok (.ldc2_w 249, 3) := dgs daX12_isBounds_0 dbX12_isBounds_0 3 3 rfl
theorem dX12_isBounds_6 : decode cX12_isBounds 6 = .ok (.invokestatic 101, 3) := dgs daX12_isBounds_0 dbX12_isBounds_0 4 6 rfl
theorem dX12_isBounds_9 : decode cX12_isBounds 9 = .ok (.ifCond .eq 41, 3) := dgs daX12_isBounds_0 dbX12_isBounds_0 5 9 rfl
theorem dX12_isBounds_12 : decode cX12_isBounds 12 = .ok (.iload_n 2, 1) := dgs daX12_isBounds_0 dbX12_isBounds_0 6 12 rfl
theorem dX12_isBounds_13 : decode cX12_isBounds 13 = .ok (.i2l, 1) := dgs daX12_isBounds_0 dbX12_isBounds_0 7 13 rfl
theorem dX12_isBounds_14 : decode cX12_isBounds 14 = .ok (.lconst 1, 1) := dgs daX12_isBounds_0 dbX12_isBounds_0 8 14 rfl
theorem dX12_isBounds_15 : decode cX12_isBounds 15 = .ok (.ldc2_w 249, 3) := dgs daX12_isBounds_0 dbX12_isBounds_0 9 15 rfl
theorem dX12_isBounds_18 : decode cX12_isBounds 18 = .ok (.invokestatic 101, 3) := dgs daX12_isBounds_0 dbX12_isBounds_0 10 18 rfl
theorem dX12_isBounds_21 : decode cX12_isBounds 21 = .ok (.ifCond .eq 29, 3) := dgs daX12_isBounds_0 dbX12_isBounds_0 11 21 rfl
theorem dX12_isBounds_24 : decode cX12_isBounds 24 = .ok (.iload_n 3, 1) := dgs daX12_isBounds_0 dbX12_isBounds_0 12 24 rfl
theorem dX12_isBounds_25 : decode cX12_isBounds 25 = .ok (.i2l, 1) := dgs daX12_isBounds_0 dbX12_isBounds_0 13 25 rfl
theorem dX12_isBounds_26 : decode cX12_isBounds 26 = .ok (.ldc2_w 129, 3) := dgs daX12_isBounds_0 dbX12_isBounds_0 14 26 rfl
theorem dX12_isBounds_29 : decode cX12_isBounds 29 = .ok (.iload 4, 2) := dgs daX12_isBounds_0 dbX12_isBounds_0 15 29 rfl
theorem dX12_isBounds_31 : decode cX12_isBounds 31 = .ok (.i2l, 1) := dgs daX12_isBounds_0 dbX12_isBounds_0 16 31 rfl
theorem dX12_isBounds_32 : decode cX12_isBounds 32 = .ok (.invokestatic 101, 3) := dgs daX12_isBounds_0 dbX12_isBounds_0 17 32 rfl
theorem dX12_isBounds_35 : decode cX12_isBounds 35 = .ok (.ifCond .eq 15, 3) := dgs daX12_isBounds_0 dbX12_isBounds_0 18 35 rfl
theorem dX12_isBounds_38 : decode cX12_isBounds 38 = .ok (.iload 4, 2) := dgs daX12_isBounds_0 dbX12_isBounds_0 19 38 rfl
theorem dX12_isBounds_40 : decode cX12_isBounds 40 = .ok (.sipush 200, 3) := dgs daX12_isBounds_0 dbX12_isBounds_0 20 40 rfl
theorem dX12_isBounds_43 : decode cX12_isBounds 43 = .ok (.if_icmp .gt 7, 3) := dgs daX12_isBounds_0 dbX12_isBounds_0 21 43 rfl
theorem dX12_isBounds_46 : decode cX12_isBounds 46 = .ok (.iconst 1, 1) := dgs daX12_isBounds_0 dbX12_isBounds_0 22 46 rfl
theorem dX12_isBounds_47 : decode cX12_isBounds 47 = .ok (.goto 4, 3) := dgs daX12_isBounds_0 dbX12_isBounds_0 23 47 rfl
theorem dX12_isBounds_50 : decode cX12_isBounds 50 = .ok (.iconst 0, 1) := dgs daX12_isBounds_0 dbX12_isBounds_0 24 50 rfl
theorem dX12_isBounds_51 : decode cX12_isBounds 51 = .ok (.ireturn, 1) := dgs daX12_isBounds_0 dbX12_isBounds_0 25 51 rfl
set_option maxRecDepth 20000 in
theorem ggX12_isBetter_X12_divisor : GoodIn wsX12_isBetter wsX12_divisor := goodIn_ca (goodIn_q _ [7, 4, 5, 6] rfl (by decide +kernel)) (goodIn_sub (fun _ h => List.mem_cons_of_mem _ (List.mem_append_right _ h)) (by decide +kernel))
set_option maxRecDepth 20000 in
theorem gX12_isBetter_X12_divisor : GoodIn wsX12_isBetter (va_wsS RX12 5 yX12_divisor wsX12_divisor) := goodIn_app (goodIn_q _ [4, 5, 6] rfl (by decide +kernel)) ggX12_isBetter_X12_divisor
def dsX12_isBetter_0 : ByteArray := ⟨#[33, 42, 180, 0, 251, 133, 105, 55, 5, 42, 180, 0, 254, 28, 133, 105, 55, 7, 22, 5, 22, 7, 148, 153, 0, 17, 22, 5, 22, 7, 148, 156, 0, 7, 4, 167, 0, 4, 3, 172, 27, 28, 184, 0, 5, 4, 160, 0, 7, 4, 167, 0, 4, 3, 54, 9, 42, 180, 1, 2, 42, 180, 0, 251, 184, 0, 5, 4, 160, 0, 7, 4, 167, 0, 4, 3, 54, 10, 21, 9, 21, 10, 159, 0, 6, 21, 9, 172, 27, 28, 96, 42, 180, 1, 2, 42, 180, 0, 251, 96, 159, 0, 26, 27, 28, 96, 42, 180, 1, 2, 42, 180, 0, 251, 96, 162, 0, 7, 4, 167, 0, 20]⟩
theorem daX12_isBetter_0 : agB cX12_isBetter dsX12_isBetter_0 0 := agB_of (n := 122) (by decide +kernel)
def dlX12_isBetter_0 : List (Nat × Instr × Nat) := [(0, .lload_n 3, 1), (1, .aload_n 0, 1), (2, .getfield 251, 3), (5, .i2l, 1), (6, .lmul, 1), (7, .lstore 5, 2), (9, .aload_n 0, 1), (10, .getfield 254, 3), (13, .iload_n 2, 1), (14, .i2l, 1), (15, .lmul, 1), (16, .lstore 7, 2), (18, .lload 5, 2), (20, .lload 7, 2), (22, .lcmp, 1), (23, .ifCond .eq 17, 3), (26, .lload 5, 2), (28, .lload 7, 2), (30, .lcmp, 1), (31, .ifCond .ge 7, 3), (34, .iconst 1, 1), (35, .goto 4, 3), (38, .iconst 0, 1), (39, .ireturn, 1), (40, .iload_n 1, 1), (41, .iload_n 2, 1), (42, .invokestatic 5, 3), (45, .iconst 1, 1), (46, .if_icmp .ne 7, 3), (49, .iconst 1, 1), (50, .goto 4, 3), (53, .iconst 0, 1), (54, .istore 9, 2), (56, .aload_n 0, 1), (57, .getfield 258, 3), (60, .aload_n 0, 1), (61, .getfield 251, 3), (64, .invokestatic 5, 3), (67, .iconst 1, 1), (68, .if_icmp .ne 7, 3), (71, .iconst 1, 1), (72, .goto 4, 3), (75, .iconst 0, 1), (76, .istore 10, 2), (78, .iload 9, 2), (80, .iload 10, 2), (82, .if_icmp .eq 6, 3), (85, .iload 9, 2), (87, .ireturn, 1), (88, .iload_n 1, 1), (89, .iload_n 2, 1), (90, .iadd, 1), (91, .aload_n 0, 1), (92, .getfield 258, 3), (95, .aload_n 0, 1), (96, .getfield 251, 3), (99, .iadd, 1), (100, .if_icmp .eq 26, 3), (103, .iload_n 1, 1), (104, .iload_n 2, 1), (105, .iadd, 1), (106, .aload_n 0, 1), (107, .getfield 258, 3), (110, .aload_n 0, 1), (111, .getfield 251, 3), (114, .iadd, 1), (115, .if_icmp .ge 7, 3), (118, .iconst 1, 1), (119, .goto 20, 3)]
theorem dbX12_isBetter_0 : ∀ z ∈ dlX12_isBetter_0, decode dsX12_isBetter_0 z.1 = Except.ok z.2 ∧ okop dsX12_isBetter_0 z.1 = true := by decide +kernel
theorem dX12_isBetter_0 : decode cX12_isBetter 0 = .ok (.lload_n 3, 1) := dgs daX12_isBetter_0 dbX12_isBetter_0 0 0 rfl
theorem dX12_isBetter_1 : decode cX12_isBetter 1 = .ok (.aload_n 0, 1) := dgs daX12_isBetter_0 dbX12_isBetter_0 1 1 rfl
theorem dX12_isBetter_2 : decode cX12_isBetter 2 = .ok (.getfield 251, 3) := dgs daX12_isBetter_0 dbX12_isBetter_0 2 2 rfl
theorem dX12_isBetter_5 : decode cX12_isBetter 5 = .ok (.i2l, 1) := dgs daX12_isBetter_0 dbX12_isBetter_0 3 5 rfl
theorem dX12_isBetter_6 : decode cX12_isBetter 6 = .ok (.lmul, 1) := dgs daX12_isBetter_0 dbX12_isBetter_0 4 6 rfl
theorem dX12_isBetter_7 : decode cX12_isBetter 7 = .ok (.lstore 5, 2) := dgs daX12_isBetter_0 dbX12_isBetter_0 5 7 rfl
theorem dX12_isBetter_9 : decode cX12_isBetter 9 = .ok (.aload_n 0, 1) := dgs daX12_isBetter_0 dbX12_isBetter_0 6 9 rfl
theorem dX12_isBetter_10 : decode cX12_isBetter 10 = .ok (.getfield 254, 3) := dgs daX12_isBetter_0 dbX12_isBetter_0 7 10 rfl
theorem dX12_isBetter_13 : decode cX12_isBetter 13 = .ok (.iload_n 2, 1) := dgs daX12_isBetter_0 dbX12_isBetter_0 8 13 rfl
theorem dX12_isBetter_14 : decode cX12_isBetter 14 = .ok (.i2l, 1) := dgs daX12_isBetter_0 dbX12_isBetter_0 9 14 rfl
theorem dX12_isBetter_15 : decode cX12_isBetter 15 = .ok (.lmul, 1) := dgs daX12_isBetter_0 dbX12_isBetter_0 10 15 rfl
theorem dX12_isBetter_16 : decode cX12_isBetter 16 = .ok (.lstore 7, 2) := dgs daX12_isBetter_0 dbX12_isBetter_0 11 16 rfl
theorem dX12_isBetter_18 : decode cX12_isBetter 18 = .ok (.lload 5, 2) := dgs daX12_isBetter_0 dbX12_isBetter_0 12 18 rfl
theorem dX12_isBetter_20 : decode cX12_isBetter 20 = .ok (.lload 7, 2) := dgs daX12_isBetter_0 dbX12_isBetter_0 13 20 rfl
theorem dX12_isBetter_22 : decode cX12_isBetter 22 = .ok (.lcmp, 1) := dgs daX12_isBetter_0 dbX12_isBetter_0 14 22 rfl
theorem dX12_isBetter_23 : decode cX12_isBetter 23 = .ok (.ifCond .eq 17, 3) := dgs daX12_isBetter_0 dbX12_isBetter_0 15 23 rfl
theorem dX12_isBetter_26 : decode cX12_isBetter 26 = .ok (.lload 5, 2) := dgs daX12_isBetter_0 dbX12_isBetter_0 16 26 rfl
theorem dX12_isBetter_28 : decode cX12_isBetter 28 = .ok (.lload 7, 2) := dgs daX12_isBetter_0 dbX12_isBetter_0 17 28 rfl
theorem dX12_isBetter_30 : decode cX12_isBetter 30 = .ok (.lcmp, 1) := dgs daX12_isBetter_0 dbX12_isBetter_0 18 30 rfl
theorem dX12_isBetter_31 : decode cX12_isBetter 31 = .ok (.ifCond .ge 7, 3) := dgs daX12_isBetter_0 dbX12_isBetter_0 19 31 rfl
theorem dX12_isBetter_34 : decode cX12_isBetter 34 = .ok (.iconst 1, 1) := dgs daX12_isBetter_0 dbX12_isBetter_0 20 34 rfl
theorem dX12_isBetter_35 : decode cX12_isBetter 35 = .ok (.goto 4, 3) := dgs daX12_isBetter_0 dbX12_isBetter_0 21 35 rfl
theorem dX12_isBetter_38 : decode cX12_isBetter 38 = .ok (.iconst 0, 1) := dgs daX12_isBetter_0 dbX12_isBetter_0 22 38 rfl
theorem dX12_isBetter_39 : decode cX12_isBetter 39 = .ok (.ireturn, 1) := dgs daX12_isBetter_0 dbX12_isBetter_0 23 39 rfl
theorem dX12_isBetter_40 : decode cX12_isBetter 40 = .ok (.iload_n 1, 1) := dgs daX12_isBetter_0 dbX12_isBetter_0 24 40 rfl
theorem dX12_isBetter_41 : decode cX12_isBetter 41 = .ok (.iload_n 2, 1) := dgs daX12_isBetter_0 dbX12_isBetter_0 25 41 rfl
theorem dX12_isBetter_42 : decode cX12_isBetter 42 = .ok (.invokestatic 5, 3) := dgs daX12_isBetter_0 dbX12_isBetter_0 26 42 rfl
theorem dX12_isBetter_45 : decode cX12_isBetter 45 = .ok (.iconst 1, 1) := dgs daX12_isBetter_0 dbX12_isBetter_0 27 45 rfl
theorem dX12_isBetter_46 : decode cX12_isBetter 46 = .ok (.if_icmp .ne 7, 3) := dgs daX12_isBetter_0 dbX12_isBetter_0 28 46 rfl
theorem dX12_isBetter_49 : decode cX12_isBetter 49 = .ok (.iconst 1, 1) := dgs daX12_isBetter_0 dbX12_isBetter_0 29 49 rfl
theorem dX12_isBetter_50 : decode cX12_isBetter 50 = .ok (.goto 4, 3) := dgs daX12_isBetter_0 dbX12_isBetter_0 30 50 rfl
theorem dX12_isBetter_53 : decode cX12_isBetter 53 = .ok (.iconst 0, 1) := dgs daX12_isBetter_0 dbX12_isBetter_0 31 53 rfl
theorem dX12_isBetter_54 : decode cX12_isBetter 54 = .ok (.istore 9, 2) := dgs daX12_isBetter_0 dbX12_isBetter_0 32 54 rfl
theorem dX12_isBetter_56 : decode cX12_isBetter 56 = .ok (.aload_n 0, 1) := dgs daX12_isBetter_0 dbX12_isBetter_0 33 56 rfl
theorem dX12_isBetter_57 : decode cX12_isBetter 57 = .ok (.getfield 258, 3) := dgs daX12_isBetter_0 dbX12_isBetter_0 34 57 rfl
theorem dX12_isBetter_60 : decode cX12_isBetter 60 = .ok (.aload_n 0, 1) := dgs daX12_isBetter_0 dbX12_isBetter_0 35 60 rfl
theorem dX12_isBetter_61 : decode cX12_isBetter 61 = .ok (.getfield 251, 3) := dgs daX12_isBetter_0 dbX12_isBetter_0 36 61 rfl
theorem dX12_isBetter_64 : decode cX12_isBetter 64 = .ok (.invokestatic 5, 3) := dgs daX12_isBetter_0 dbX12_isBetter_0 37 64 rfl
theorem dX12_isBetter_67 : decode cX12_isBetter 67 = .ok (.iconst 1, 1) := dgs daX12_isBetter_0 dbX12_isBetter_0 38 67 rfl
theorem dX12_isBetter_68 : decode cX12_isBetter 68 = .ok (.if_icmp .ne 7, 3) := dgs daX12_isBetter_0 dbX12_isBetter_0 39 68 rfl
theorem dX12_isBetter_71 : decode cX12_isBetter 71 = .ok (.iconst 1, 1) := dgs daX12_isBetter_0 dbX12_isBetter_0 40 71 rfl
theorem dX12_isBetter_72 : decode cX12_isBetter 72 = .ok (.goto 4, 3) := dgs daX12_isBetter_0 dbX12_isBetter_0 41 72 rfl
theorem dX12_isBetter_75 : decode cX12_isBetter 75 = .ok (.iconst 0, 1) := dgs daX12_isBetter_0 dbX12_isBetter_0 42 75 rfl
theorem dX12_isBetter_76 : decode cX12_isBetter 76 = .ok (.istore 10, 2) := dgs daX12_isBetter_0 dbX12_isBetter_0 43 76 rfl
theorem dX12_isBetter_78 : decode cX12_isBetter 78 = .ok (.iload 9, 2) := dgs daX12_isBetter_0 dbX12_isBetter_0 44 78 rfl
theorem dX12_isBetter_80 : decode cX12_isBetter 80 = .ok (.iload 10, 2) := dgs daX12_isBetter_0 dbX12_isBetter_0 45 80 rfl
theorem dX12_isBetter_82 : decode cX12_isBetter 82 = .ok (.if_icmp .eq 6, 3) := dgs daX12_isBetter_0 dbX12_isBetter_0 46 82 rfl
theorem dX12_isBetter_85 : decode cX12_isBetter 85 = .ok (.iload 9, 2) := dgs daX12_isBetter_0 dbX12_isBetter_0 47 85 rfl
theorem dX12_isBetter_87 : decode cX12_isBetter 87 = .ok (.ireturn, 1) := dgs daX12_isBetter_0 dbX12_isBetter_0 48 87 rfl
theorem dX12_isBetter_88 : decode cX12_isBetter 88 = .ok (.iload_n 1, 1) := dgs daX12_isBetter_0 dbX12_isBetter_0 49 88 rfl
theorem dX12_isBetter_89 : decode cX12_isBetter 89 = .ok (.iload_n 2, 1) := dgs daX12_isBetter_0 dbX12_isBetter_0 50 89 rfl
theorem dX12_isBetter_90 : decode cX12_isBetter 90 = .ok (.iadd, 1) := dgs daX12_isBetter_0 dbX12_isBetter_0 51 90 rfl
theorem dX12_isBetter_91 : decode cX12_isBetter 91 = .ok (.aload_n 0, 1) := dgs daX12_isBetter_0 dbX12_isBetter_0 52 91 rfl
theorem dX12_isBetter_92 : decode cX12_isBetter 92 = .ok (.getfield 258, 3) := dgs daX12_isBetter_0 dbX12_isBetter_0 53 92 rfl
theorem dX12_isBetter_95 : decode cX12_isBetter 95 = .ok (.aload_n 0, 1) := dgs daX12_isBetter_0 dbX12_isBetter_0 54 95 rfl
theorem dX12_isBetter_96 : decode cX12_isBetter 96 = .ok (.getfield 251, 3) := dgs daX12_isBetter_0 dbX12_isBetter_0 55 96 rfl
theorem dX12_isBetter_99 : decode cX12_isBetter 99 = .ok (.iadd, 1) := dgs daX12_isBetter_0 dbX12_isBetter_0 56 99 rfl
theorem dX12_isBetter_100 : decode cX12_isBetter 100 = .ok (.if_icmp .eq 26, 3) := dgs daX12_isBetter_0 dbX12_isBetter_0 57 100 rfl
theorem dX12_isBetter_103 : decode cX12_isBetter 103 = .ok (.iload_n 1, 1) := dgs daX12_isBetter_0 dbX12_isBetter_0 58 103 rfl
theorem dX12_isBetter_104 : decode cX12_isBetter 104 = .ok (.iload_n 2, 1) := dgs daX12_isBetter_0 dbX12_isBetter_0 59 104 rfl
theorem dX12_isBetter_105 : decode cX12_isBetter 105 = .ok (.iadd, 1) := dgs daX12_isBetter_0 dbX12_isBetter_0 60 105 rfl
theorem dX12_isBetter_106 : decode cX12_isBetter 106 = .ok (.aload_n 0, 1) := dgs daX12_isBetter_0 dbX12_isBetter_0 61 106 rfl
theorem dX12_isBetter_107 : decode cX12_isBetter 107 = .ok (.getfield 258, 3) := dgs daX12_isBetter_0 dbX12_isBetter_0 62 107 rfl
theorem dX12_isBetter_110 : decode cX12_isBetter 110 = .ok (.aload_n 0, 1) := dgs daX12_isBetter_0 dbX12_isBetter_0 63 110 rfl
theorem dX12_isBetter_111 : decode cX12_isBetter 111 = .ok (.getfield 251, 3) := dgs daX12_isBetter_0 dbX12_isBetter_0 64 111 rfl
theorem dX12_isBetter_114 : decode cX12_isBetter 114 = .ok (.iadd, 1) := dgs daX12_isBetter_0 dbX12_isBetter_0 65 114 rfl
theorem dX12_isBetter_115 : decode cX12_isBetter 115 = .ok (.if_icmp .ge 7, 3) := dgs daX12_isBetter_0 dbX12_isBetter_0 66 115 rfl
theorem dX12_isBetter_118 : decode cX12_isBetter 118 = .ok (.iconst 1, 1) := dgs daX12_isBetter_0 dbX12_isBetter_0 67 118 rfl
theorem dX12_isBetter_119 : decode cX12_isBetter 119 = .ok (.goto 20, 3) := dgs daX12_isBetter_0 dbX12_isBetter_0 68 119 rfl
def dsX12_isBetter_122 : ByteArray := ⟨#[3, 167, 0, 16, 27, 42, 180, 1, 2, 162, 0, 7, 4, 167, 0, 4, 3, 172]⟩
theorem daX12_isBetter_122 : agB cX12_isBetter dsX12_isBetter_122 122 := agB_of (n := 18) (by decide +kernel)
def dlX12_isBetter_122 : List (Nat × Instr × Nat) := [(0, .iconst 0, 1), (1, .goto 16, 3), (4, .iload_n 1, 1), (5, .aload_n 0, 1), (6, .getfield 258, 3), (9, .if_icmp .ge 7, 3), (12, .iconst 1, 1), (13, .goto 4, 3), (16, .iconst 0, 1), (17, .ireturn, 1)]
theorem dbX12_isBetter_122 : ∀ z ∈ dlX12_isBetter_122, decode dsX12_isBetter_122 z.1 = Except.ok z.2 ∧ okop dsX12_isBetter_122 z.1 = true := by decide +kernel
theorem dX12_isBetter_122 : decode cX12_isBetter 122 = .ok (.iconst 0, 1) := dgs daX12_isBetter_122 dbX12_isBetter_122 0 0 rfl
theorem dX12_isBetter_123 : decode cX12_isBetter 123 = .ok (.goto 16, 3) := dgs daX12_isBetter_122 dbX12_isBetter_122 1 1 rfl
theorem dX12_isBetter_126 : decode cX12_isBetter 126 = .ok (.iload_n 1, 1) := dgs daX12_isBetter_122 dbX12_isBetter_122 2 4 rfl
theorem dX12_isBetter_127 : decode cX12_isBetter 127 = .ok (.aload_n 0, 1) := dgs daX12_isBetter_122 dbX12_isBetter_122 3 5 rfl
theorem dX12_isBetter_128 : decode cX12_isBetter 128 = .ok (.getfield 258, 3) := dgs daX12_isBetter_122 dbX12_isBetter_122 4 6 rfl
theorem dX12_isBetter_131 : decode cX12_isBetter 131 = .ok (.if_icmp .ge 7, 3) := dgs daX12_isBetter_122 dbX12_isBetter_122 5 9 rfl
theorem dX12_isBetter_134 : decode cX12_isBetter 134 = .ok (.iconst 1, 1) := dgs daX12_isBetter_122 dbX12_isBetter_122 6 12 rfl
theorem dX12_isBetter_135 : decode cX12_isBetter 135 = .ok (.goto 4, 3) := dgs daX12_isBetter_122 dbX12_isBetter_122 7 13 rfl
theorem dX12_isBetter_138 : decode cX12_isBetter 138 = .ok (.iconst 0, 1) := dgs daX12_isBetter_122 dbX12_isBetter_122 8 16 rfl
theorem dX12_isBetter_139 : decode cX12_isBetter 139 = .ok (.ireturn, 1) := dgs daX12_isBetter_122 dbX12_isBetter_122 9 17 rfl
set_option maxRecDepth 20000 in
theorem ggX12_looks_X12_isBetter : GoodIn wsX12_looks wsX12_isBetter := goodIn_ca (goodIn_q _ [12, 6, 7, 1, 13, 14, 11, 15, 16, 17, 18, 19, 20, 21, 22, 23, 24, 25, 26, 27, 28, 29, 30, 31, 32, 33, 34, 35, 36, 37, 38, 39, 40, 41, 42, 43, 44, 45, 46, 47, 48, 49] rfl (by decide +kernel)) (goodIn_sub (fun _ h => List.mem_cons_of_mem _ (List.mem_append_right _ h)) (by decide +kernel))
set_option maxRecDepth 20000 in
theorem gX12_looks_X12_isBetter : GoodIn wsX12_looks (wsV RX12 261 RX12 yX12_isBetter wsX12_isBetter) := goodIn_app (goodIn_q _ [8, 9, 10, 11] rfl (by decide +kernel)) ggX12_looks_X12_isBetter
def dsX12_looks_0 : ByteArray := ⟨#[42, 3, 181, 1, 2, 29, 54, 5, 21, 5, 21, 4, 163, 0, 84, 29, 54, 6, 21, 6, 21, 4, 163, 0, 68, 21, 5, 133, 28, 133, 105, 27, 133, 21, 6, 133, 105, 101, 184, 0, 239, 55, 7, 42, 180, 1, 2, 158, 0, 19, 42, 21, 5, 21, 6, 22, 7, 182, 1, 5, 154, 0, 6, 167, 0, 21, 42, 21, 5, 181, 1, 2, 42, 21, 6, 181, 0, 251, 42, 22, 7, 181, 0, 254, 132, 6, 1, 167, 255, 187, 132, 5, 1, 167, 255, 171, 177]⟩
theorem daX12_looks_0 : agB cX12_looks dsX12_looks_0 0 := agB_of (n := 97) (by decide +kernel)
def dlX12_looks_0 : List (Nat × Instr × Nat) := [(0, .aload_n 0, 1), (1, .iconst 0, 1), (2, .putfield 258, 3), (5, .iload_n 3, 1), (6, .istore 5, 2), (8, .iload 5, 2), (10, .iload 4, 2), (12, .if_icmp .gt 84, 3), (15, .iload_n 3, 1), (16, .istore 6, 2), (18, .iload 6, 2), (20, .iload 4, 2), (22, .if_icmp .gt 68, 3), (25, .iload 5, 2), (27, .i2l, 1), (28, .iload_n 2, 1), (29, .i2l, 1), (30, .lmul, 1), (31, .iload_n 1, 1), (32, .i2l, 1), (33, .iload 6, 2), (35, .i2l, 1), (36, .lmul, 1), (37, .lsub, 1), (38, .invokestatic 239, 3), (41, .lstore 7, 2), (43, .aload_n 0, 1), (44, .getfield 258, 3), (47, .ifCond .le 19, 3), (50, .aload_n 0, 1), (51, .iload 5, 2), (53, .iload 6, 2), (55, .lload 7, 2), (57, .invokevirtual 261, 3), (60, .ifCond .ne 6, 3), (63, .goto 21, 3), (66, .aload_n 0, 1), (67, .iload 5, 2), (69, .putfield 258, 3), (72, .aload_n 0, 1), (73, .iload 6, 2), (75, .putfield 251, 3), (78, .aload_n 0, 1), (79, .lload 7, 2), (81, .putfield 254, 3), (84, .iinc 6 1, 3), (87, .goto (-69), 3), (90, .iinc 5 1, 3), (93, .goto (-85), 3), (96, .return_, 1)]
theorem dbX12_looks_0 : ∀ z ∈ dlX12_looks_0, decode dsX12_looks_0 z.1 = Except.ok z.2 ∧ okop dsX12_looks_0 z.1 = true := by decide +kernel
theorem dX12_looks_0 : decode cX12_looks 0 = .ok (.aload_n 0, 1) := dgs daX12_looks_0 dbX12_looks_0 0 0 rfl
theorem dX12_looks_1 : decode cX12_looks 1 = .ok (.iconst 0, 1) := dgs daX12_looks_0 dbX12_looks_0 1 1 rfl
theorem dX12_looks_2 : decode cX12_looks 2 = .ok (.putfield 258, 3) := dgs daX12_looks_0 dbX12_looks_0 2 2 rfl
theorem dX12_looks_5 : decode cX12_looks 5 = .ok (.iload_n 3, 1) := dgs daX12_looks_0 dbX12_looks_0 3 5 rfl
theorem dX12_looks_6 : decode cX12_looks 6 = .ok (.istore 5, 2) := dgs daX12_looks_0 dbX12_looks_0 4 6 rfl
theorem dX12_looks_8 : decode cX12_looks 8 = .ok (.iload 5, 2) := dgs daX12_looks_0 dbX12_looks_0 5 8 rfl
theorem dX12_looks_10 : decode cX12_looks 10 = .ok (.iload 4, 2) := dgs daX12_looks_0 dbX12_looks_0 6 10 rfl
theorem dX12_looks_12 : decode cX12_looks 12 = .ok (.if_icmp .gt 84, 3) := dgs daX12_looks_0 dbX12_looks_0 7 12 rfl
theorem dX12_looks_15 : decode cX12_looks 15 = .ok (.iload_n 3, 1) := dgs daX12_looks_0 dbX12_looks_0 8 15 rfl
theorem dX12_looks_16 : decode cX12_looks 16 = .ok (.istore 6, 2) := dgs daX12_looks_0 dbX12_looks_0 9 16 rfl
theorem dX12_looks_18 : decode cX12_looks 18 = .ok (.iload 6, 2) := dgs daX12_looks_0 dbX12_looks_0 10 18 rfl
theorem dX12_looks_20 : decode cX12_looks 20 = .ok (.iload 4, 2) := dgs daX12_looks_0 dbX12_looks_0 11 20 rfl
theorem dX12_looks_22 : decode cX12_looks 22 = .ok (.if_icmp .gt 68, 3) := dgs daX12_looks_0 dbX12_looks_0 12 22 rfl
theorem dX12_looks_25 : decode cX12_looks 25 = .ok (.iload 5, 2) := dgs daX12_looks_0 dbX12_looks_0 13 25 rfl
theorem dX12_looks_27 : decode cX12_looks 27 = .ok (.i2l, 1) := dgs daX12_looks_0 dbX12_looks_0 14 27 rfl
theorem dX12_looks_28 : decode cX12_looks 28 = .ok (.iload_n 2, 1) := dgs daX12_looks_0 dbX12_looks_0 15 28 rfl
theorem dX12_looks_29 : decode cX12_looks 29 = .ok (.i2l, 1) := dgs daX12_looks_0 dbX12_looks_0 16 29 rfl
theorem dX12_looks_30 : decode cX12_looks 30 = .ok (.lmul, 1) := dgs daX12_looks_0 dbX12_looks_0 17 30 rfl
theorem dX12_looks_31 : decode cX12_looks 31 = .ok (.iload_n 1, 1) := dgs daX12_looks_0 dbX12_looks_0 18 31 rfl
theorem dX12_looks_32 : decode cX12_looks 32 = .ok (.i2l, 1) := dgs daX12_looks_0 dbX12_looks_0 19 32 rfl
theorem dX12_looks_33 : decode cX12_looks 33 = .ok (.iload 6, 2) := dgs daX12_looks_0 dbX12_looks_0 20 33 rfl
theorem dX12_looks_35 : decode cX12_looks 35 = .ok (.i2l, 1) := dgs daX12_looks_0 dbX12_looks_0 21 35 rfl
theorem dX12_looks_36 : decode cX12_looks 36 = .ok (.lmul, 1) := dgs daX12_looks_0 dbX12_looks_0 22 36 rfl
theorem dX12_looks_37 : decode cX12_looks 37 = .ok (.lsub, 1) := dgs daX12_looks_0 dbX12_looks_0 23 37 rfl
theorem dX12_looks_38 : decode cX12_looks 38 = .ok (.invokestatic 239, 3) := dgs daX12_looks_0 dbX12_looks_0 24 38 rfl
theorem dX12_looks_41 : decode cX12_looks 41 = .ok (.lstore 7, 2) := dgs daX12_looks_0 dbX12_looks_0 25 41 rfl
theorem dX12_looks_43 : decode cX12_looks 43 = .ok (.aload_n 0, 1) := dgs daX12_looks_0 dbX12_looks_0 26 43 rfl
theorem dX12_looks_44 : decode cX12_looks 44 = .ok (.getfield 258, 3) := dgs daX12_looks_0 dbX12_looks_0 27 44 rfl
theorem dX12_looks_47 : decode cX12_looks 47 = .ok (.ifCond .le 19, 3) := dgs daX12_looks_0 dbX12_looks_0 28 47 rfl
theorem dX12_looks_50 : decode cX12_looks 50 = .ok (.aload_n 0, 1) := dgs daX12_looks_0 dbX12_looks_0 29 50 rfl
theorem dX12_looks_51 : decode cX12_looks 51 = .ok (.iload 5, 2) := dgs daX12_looks_0 dbX12_looks_0 30 51 rfl
theorem dX12_looks_53 : decode cX12_looks 53 = .ok (.iload 6, 2) := dgs daX12_looks_0 dbX12_looks_0 31 53 rfl
theorem dX12_looks_55 : decode cX12_looks 55 = .ok (.lload 7, 2) := dgs daX12_looks_0 dbX12_looks_0 32 55 rfl
theorem dX12_looks_57 : decode cX12_looks 57 = .ok (.invokevirtual 261, 3) := dgs daX12_looks_0 dbX12_looks_0 33 57 rfl
theorem dX12_looks_60 : decode cX12_looks 60 = .ok (.ifCond .ne 6, 3) := dgs daX12_looks_0 dbX12_looks_0 34 60 rfl
theorem dX12_looks_63 : decode cX12_looks 63 = .ok (.goto 21, 3) := dgs daX12_looks_0 dbX12_looks_0 35 63 rfl
theorem dX12_looks_66 : decode cX12_looks 66 = .ok (.aload_n 0, 1) := dgs daX12_looks_0 dbX12_looks_0 36 66 rfl
theorem dX12_looks_67 : decode cX12_looks 67 = .ok (.iload 5, 2) := dgs daX12_looks_0 dbX12_looks_0 37 67 rfl
theorem dX12_looks_69 : decode cX12_looks 69 = .ok (.putfield 258, 3) := dgs daX12_looks_0 dbX12_looks_0 38 69 rfl
theorem dX12_looks_72 : decode cX12_looks 72 = .ok (.aload_n 0, 1) := dgs daX12_looks_0 dbX12_looks_0 39 72 rfl
theorem dX12_looks_73 : decode cX12_looks 73 = .ok (.iload 6, 2) := dgs daX12_looks_0 dbX12_looks_0 40 73 rfl
theorem dX12_looks_75 : decode cX12_looks 75 = .ok (.putfield 251, 3) := dgs daX12_looks_0 dbX12_looks_0 41 75 rfl
theorem dX12_looks_78 : decode cX12_looks 78 = .ok (.aload_n 0, 1) := dgs daX12_looks_0 dbX12_looks_0 42 78 rfl
theorem dX12_looks_79 : decode cX12_looks 79 = .ok (.lload 7, 2) := dgs daX12_looks_0 dbX12_looks_0 43 79 rfl
theorem dX12_looks_81 : decode cX12_looks 81 = .ok (.putfield 254, 3) := dgs daX12_looks_0 dbX12_looks_0 44 81 rfl
theorem dX12_looks_84 : decode cX12_looks 84 = .ok (.iinc 6 1, 3) := dgs daX12_looks_0 dbX12_looks_0 45 84 rfl
theorem dX12_looks_87 : decode cX12_looks 87 = .ok (.goto (-69), 3) := dgs daX12_looks_0 dbX12_looks_0 46 87 rfl
theorem dX12_looks_90 : decode cX12_looks 90 = .ok (.iinc 5 1, 3) := dgs daX12_looks_0 dbX12_looks_0 47 90 rfl
theorem dX12_looks_93 : decode cX12_looks 93 = .ok (.goto (-85), 3) := dgs daX12_looks_0 dbX12_looks_0 48 93 rfl
theorem dX12_looks_96 : decode cX12_looks 96 = .ok (.return_, 1) := dgs daX12_looks_0 dbX12_looks_0 49 96 rfl
set_option maxRecDepth 20000 in
theorem ggX12_bestPair_X12_isBounds : GoodIn wsX12_bestPair wsX12_isBounds := goodIn_q _ [6, 7, 8, 9, 10, 5, 11] rfl (by decide +kernel)
set_option maxRecDepth 20000 in
theorem gX12_bestPair_X12_isBounds : GoodIn wsX12_bestPair (wsV RX12 265 RX12 yX12_isBounds wsX12_isBounds) := goodIn_app (goodIn_q _ [2, 3, 4, 5] rfl (by decide +kernel)) ggX12_bestPair_X12_isBounds
set_option maxRecDepth 20000 in
theorem ggX12_bestPair_X12_fails : GoodIn wsX12_bestPair wsX12_fails := goodIn_q _ [15, 16, 38, 39, 40, 41, 42, 43, 44, 45, 46, 47, 48, 49, 50, 51, 52, 53, 54, 55, 56, 57, 58, 59, 60, 61, 62, 63, 64, 65, 66, 67, 68, 69, 70, 71] rfl (by decide +kernel)
set_option maxRecDepth 20000 in
theorem gX12_bestPair_X12_fails : GoodIn wsX12_bestPair (wsV RX12 143 RX12 yX12_fails wsX12_fails) := goodIn_app (goodIn_q _ [12, 13, 14, 5] rfl (by decide +kernel)) ggX12_bestPair_X12_fails
set_option maxRecDepth 20000 in
theorem ggX12_bestPair_X12_looks : GoodIn wsX12_bestPair wsX12_looks := goodIn_ca (goodIn_q _ [20, 1, 21, 22, 23, 24, 25, 26, 27, 28, 29, 5, 30, 31, 32, 33, 38, 39, 40, 41, 42, 43, 44, 45, 46, 47, 48, 49, 50, 51, 52, 53, 54, 55, 56, 57, 58, 59, 60, 61, 62, 63, 64, 65, 66, 67, 68, 69, 70, 71] rfl (by decide +kernel)) (goodIn_sub (fun _ h => List.mem_cons_of_mem _ (List.mem_append_right _ h)) (by decide +kernel))
set_option maxRecDepth 20000 in
theorem gX12_bestPair_X12_looks : GoodIn wsX12_bestPair (wsV RX12 268 RX12 yX12_looks wsX12_looks) := goodIn_app (goodIn_q _ [17, 18, 19, 5] rfl (by decide +kernel)) ggX12_bestPair_X12_looks
set_option maxRecDepth 20000 in
theorem ggX12_bestPair_X12_answer : GoodIn wsX12_bestPair wsX12_answer := goodIn_q _ [37, 16, 38, 39, 40, 41, 42, 43, 44, 45, 46, 47, 48, 49, 50, 51, 52, 53, 54, 55, 56, 57, 58, 59, 60, 61, 62, 63, 64, 65, 66, 67, 68, 69, 70, 71] rfl (by decide +kernel)
set_option maxRecDepth 20000 in
theorem gX12_bestPair_X12_answer : GoodIn wsX12_bestPair (wsV RX12 153 RX12 yX12_answer wsX12_answer) := goodIn_app (goodIn_q _ [34, 35, 36, 5] rfl (by decide +kernel)) ggX12_bestPair_X12_answer
def dsX12_bestPair_0 : ByteArray := ⟨#[42, 27, 28, 29, 21, 4, 182, 1, 9, 154, 0, 9, 42, 4, 182, 0, 143, 172, 42, 27, 28, 29, 21, 4, 182, 1, 12, 42, 42, 180, 1, 2, 182, 0, 153, 172]⟩
theorem daX12_bestPair_0 : agB cX12_bestPair dsX12_bestPair_0 0 := agB_of (n := 36) (by decide +kernel)
def dlX12_bestPair_0 : List (Nat × Instr × Nat) := [(0, .aload_n 0, 1), (1, .iload_n 1, 1), (2, .iload_n 2, 1), (3, .iload_n 3, 1), (4, .iload 4, 2), (6, .invokevirtual 265, 3), (9, .ifCond .ne 9, 3), (12, .aload_n 0, 1), (13, .iconst 1, 1), (14, .invokevirtual 143, 3), (17, .ireturn, 1), (18, .aload_n 0, 1), (19, .iload_n 1, 1), (20, .iload_n 2, 1), (21, .iload_n 3, 1), (22, .iload 4, 2), (24, .invokevirtual 268, 3), (27, .aload_n 0, 1), (28, .aload_n 0, 1), (29, .getfield 258, 3), (32, .invokevirtual 153, 3), (35, .ireturn, 1)]
theorem dbX12_bestPair_0 : ∀ z ∈ dlX12_bestPair_0, decode dsX12_bestPair_0 z.1 = Except.ok z.2 ∧ okop dsX12_bestPair_0 z.1 = true := by decide +kernel
theorem dX12_bestPair_0 : decode cX12_bestPair 0 = .ok (.aload_n 0, 1) := dgs daX12_bestPair_0 dbX12_bestPair_0 0 0 rfl
theorem dX12_bestPair_1 : decode cX12_bestPair 1 = .ok (.iload_n 1, 1) := dgs daX12_bestPair_0 dbX12_bestPair_0 1 1 rfl
theorem dX12_bestPair_2 : decode cX12_bestPair 2 = .ok (.iload_n 2, 1) := dgs daX12_bestPair_0 dbX12_bestPair_0 2 2 rfl
theorem dX12_bestPair_3 : decode cX12_bestPair 3 = .ok (.iload_n 3, 1) := dgs daX12_bestPair_0 dbX12_bestPair_0 3 3 rfl
theorem dX12_bestPair_4 : decode cX12_bestPair 4 = .ok (.iload 4, 2) := dgs daX12_bestPair_0 dbX12_bestPair_0 4 4 rfl
theorem dX12_bestPair_6 : decode cX12_bestPair 6 = .ok (.invokevirtual 265, 3) := dgs daX12_bestPair_0 dbX12_bestPair_0 5 6 rfl
theorem dX12_bestPair_9 : decode cX12_bestPair 9 = .ok (.ifCond .ne 9, 3) := dgs daX12_bestPair_0 dbX12_bestPair_0 6 9 rfl
theorem dX12_bestPair_12 : decode cX12_bestPair 12 = .ok (.aload_n 0, 1) := dgs daX12_bestPair_0 dbX12_bestPair_0 7 12 rfl
theorem dX12_bestPair_13 : decode cX12_bestPair 13 = .ok (.iconst 1, 1) := dgs daX12_bestPair_0 dbX12_bestPair_0 8 13 rfl
theorem dX12_bestPair_14 : decode cX12_bestPair 14 = .ok (.invokevirtual 143, 3) := dgs daX12_bestPair_0 dbX12_bestPair_0 9 14 rfl
theorem dX12_bestPair_17 : decode cX12_bestPair 17 = .ok (.ireturn, 1) := dgs daX12_bestPair_0 dbX12_bestPair_0 10 17 rfl
theorem dX12_bestPair_18 : decode cX12_bestPair 18 = .ok (.aload_n 0, 1) := dgs daX12_bestPair_0 dbX12_bestPair_0 11 18 rfl
theorem dX12_bestPair_19 : decode cX12_bestPair 19 = .ok (.iload_n 1, 1) := dgs daX12_bestPair_0 dbX12_bestPair_0 12 19 rfl
theorem dX12_bestPair_20 : decode cX12_bestPair 20 = .ok (.iload_n 2, 1) := dgs daX12_bestPair_0 dbX12_bestPair_0 13 20 rfl
theorem dX12_bestPair_21 : decode cX12_bestPair 21 = .ok (.iload_n 3, 1) := dgs daX12_bestPair_0 dbX12_bestPair_0 14 21 rfl
theorem dX12_bestPair_22 : decode cX12_bestPair 22 = .ok (.iload 4, 2) := dgs daX12_bestPair_0 dbX12_bestPair_0 15 22 rfl
theorem dX12_bestPair_24 : decode cX12_bestPair 24 = .ok (.invokevirtual 268, 3) := dgs daX12_bestPair_0 dbX12_bestPair_0 16 24 rfl
theorem dX12_bestPair_27 : decode cX12_bestPair 27 = .ok (.aload_n 0, 1) := dgs daX12_bestPair_0 dbX12_bestPair_0 17 27 rfl
theorem dX12_bestPair_28 : decode cX12_bestPair 28 = .ok (.aload_n 0, 1) := dgs daX12_bestPair_0 dbX12_bestPair_0 18 28 rfl
theorem dX12_bestPair_29 : decode cX12_bestPair 29 = .ok (.getfield 258, 3) := dgs daX12_bestPair_0 dbX12_bestPair_0 19 29 rfl
theorem dX12_bestPair_32 : decode cX12_bestPair 32 = .ok (.invokevirtual 153, 3) := dgs daX12_bestPair_0 dbX12_bestPair_0 20 32 rfl
theorem dX12_bestPair_35 : decode cX12_bestPair 35 = .ok (.ireturn, 1) := dgs daX12_bestPair_0 dbX12_bestPair_0 21 35 rfl
set_option maxRecDepth 20000 in
theorem ggX12_bestMate_X12_isBounds : GoodIn wsX12_bestMate wsX12_isBounds := goodIn_q _ [6, 7, 8, 9, 10, 5, 11] rfl (by decide +kernel)
set_option maxRecDepth 20000 in
theorem gX12_bestMate_X12_isBounds : GoodIn wsX12_bestMate (wsV RX12 265 RX12 yX12_isBounds wsX12_isBounds) := goodIn_app (goodIn_q _ [2, 3, 4, 5] rfl (by decide +kernel)) ggX12_bestMate_X12_isBounds
set_option maxRecDepth 20000 in
theorem ggX12_bestMate_X12_fails : GoodIn wsX12_bestMate wsX12_fails := goodIn_q _ [15, 16, 38, 39, 40, 41, 42, 43, 44, 45, 46, 47, 48, 49, 50, 51, 52, 53, 54, 55, 56, 57, 58, 59, 60, 61, 62, 63, 64, 65, 66, 67, 68, 69, 70, 71] rfl (by decide +kernel)
set_option maxRecDepth 20000 in
theorem gX12_bestMate_X12_fails : GoodIn wsX12_bestMate (wsV RX12 143 RX12 yX12_fails wsX12_fails) := goodIn_app (goodIn_q _ [12, 13, 14, 5] rfl (by decide +kernel)) ggX12_bestMate_X12_fails
set_option maxRecDepth 20000 in
theorem ggX12_bestMate_X12_looks : GoodIn wsX12_bestMate wsX12_looks := goodIn_ca (goodIn_q _ [20, 21, 22, 23, 24, 25, 1, 26, 27, 28, 29, 5, 30, 31, 32, 33, 38, 39, 40, 41, 42, 43, 44, 45, 46, 47, 48, 49, 50, 51, 52, 53, 54, 55, 56, 57, 58, 59, 60, 61, 62, 63, 64, 65, 66, 67, 68, 69, 70, 71] rfl (by decide +kernel)) (goodIn_sub (fun _ h => List.mem_cons_of_mem _ (List.mem_append_right _ h)) (by decide +kernel))
set_option maxRecDepth 20000 in
theorem gX12_bestMate_X12_looks : GoodIn wsX12_bestMate (wsV RX12 268 RX12 yX12_looks wsX12_looks) := goodIn_app (goodIn_q _ [17, 18, 19, 5] rfl (by decide +kernel)) ggX12_bestMate_X12_looks
set_option maxRecDepth 20000 in
theorem ggX12_bestMate_X12_answer : GoodIn wsX12_bestMate wsX12_answer := goodIn_q _ [37, 16, 38, 39, 40, 41, 42, 43, 44, 45, 46, 47, 48, 49, 50, 51, 52, 53, 54, 55, 56, 57, 58, 59, 60, 61, 62, 63, 64, 65, 66, 67, 68, 69, 70, 71] rfl (by decide +kernel)
set_option maxRecDepth 20000 in
theorem gX12_bestMate_X12_answer : GoodIn wsX12_bestMate (wsV RX12 153 RX12 yX12_answer wsX12_answer) := goodIn_app (goodIn_q _ [34, 35, 36, 5] rfl (by decide +kernel)) ggX12_bestMate_X12_answer
def dsX12_bestMate_0 : ByteArray := ⟨#[42, 27, 28, 29, 21, 4, 182, 1, 9, 154, 0, 9, 42, 4, 182, 0, 143, 172, 42, 27, 28, 29, 21, 4, 182, 1, 12, 42, 42, 180, 0, 251, 182, 0, 153, 172]⟩
theorem daX12_bestMate_0 : agB cX12_bestMate dsX12_bestMate_0 0 := agB_of (n := 36) (by decide +kernel)
def dlX12_bestMate_0 : List (Nat × Instr × Nat) := [(0, .aload_n 0, 1), (1, .iload_n 1, 1), (2, .iload_n 2, 1), (3, .iload_n 3, 1), (4, .iload 4, 2), (6, .invokevirtual 265, 3), (9, .ifCond .ne 9, 3), (12, .aload_n 0, 1), (13, .iconst 1, 1), (14, .invokevirtual 143, 3), (17, .ireturn, 1), (18, .aload_n 0, 1), (19, .iload_n 1, 1), (20, .iload_n 2, 1), (21, .iload_n 3, 1), (22, .iload 4, 2), (24, .invokevirtual 268, 3), (27, .aload_n 0, 1), (28, .aload_n 0, 1), (29, .getfield 251, 3), (32, .invokevirtual 153, 3), (35, .ireturn, 1)]
theorem dbX12_bestMate_0 : ∀ z ∈ dlX12_bestMate_0, decode dsX12_bestMate_0 z.1 = Except.ok z.2 ∧ okop dsX12_bestMate_0 z.1 = true := by decide +kernel
theorem dX12_bestMate_0 : decode cX12_bestMate 0 = .ok (.aload_n 0, 1) := dgs daX12_bestMate_0 dbX12_bestMate_0 0 0 rfl
theorem dX12_bestMate_1 : decode cX12_bestMate 1 = .ok (.iload_n 1, 1) := dgs daX12_bestMate_0 dbX12_bestMate_0 1 1 rfl
theorem dX12_bestMate_2 : decode cX12_bestMate 2 = .ok (.iload_n 2, 1) := dgs daX12_bestMate_0 dbX12_bestMate_0 2 2 rfl
theorem dX12_bestMate_3 : decode cX12_bestMate 3 = .ok (.iload_n 3, 1) := dgs daX12_bestMate_0 dbX12_bestMate_0 3 3 rfl
theorem dX12_bestMate_4 : decode cX12_bestMate 4 = .ok (.iload 4, 2) := dgs daX12_bestMate_0 dbX12_bestMate_0 4 4 rfl
theorem dX12_bestMate_6 : decode cX12_bestMate 6 = .ok (.invokevirtual 265, 3) := dgs daX12_bestMate_0 dbX12_bestMate_0 5 6 rfl
theorem dX12_bestMate_9 : decode cX12_bestMate 9 = .ok (.ifCond .ne 9, 3) := dgs daX12_bestMate_0 dbX12_bestMate_0 6 9 rfl
theorem dX12_bestMate_12 : decode cX12_bestMate 12 = .ok (.aload_n 0, 1) := dgs daX12_bestMate_0 dbX12_bestMate_0 7 12 rfl
theorem dX12_bestMate_13 : decode cX12_bestMate 13 = .ok (.iconst 1, 1) := dgs daX12_bestMate_0 dbX12_bestMate_0 8 13 rfl
theorem dX12_bestMate_14 : decode cX12_bestMate 14 = .ok (.invokevirtual 143, 3) := dgs daX12_bestMate_0 dbX12_bestMate_0 9 14 rfl
theorem dX12_bestMate_17 : decode cX12_bestMate 17 = .ok (.ireturn, 1) := dgs daX12_bestMate_0 dbX12_bestMate_0 10 17 rfl
theorem dX12_bestMate_18 : decode cX12_bestMate 18 = .ok (.aload_n 0, 1) := dgs daX12_bestMate_0 dbX12_bestMate_0 11 18 rfl
theorem dX12_bestMate_19 : decode cX12_bestMate 19 = .ok (.iload_n 1, 1) := dgs daX12_bestMate_0 dbX12_bestMate_0 12 19 rfl
theorem dX12_bestMate_20 : decode cX12_bestMate 20 = .ok (.iload_n 2, 1) := dgs daX12_bestMate_0 dbX12_bestMate_0 13 20 rfl
theorem dX12_bestMate_21 : decode cX12_bestMate 21 = .ok (.iload_n 3, 1) := dgs daX12_bestMate_0 dbX12_bestMate_0 14 21 rfl
theorem dX12_bestMate_22 : decode cX12_bestMate 22 = .ok (.iload 4, 2) := dgs daX12_bestMate_0 dbX12_bestMate_0 15 22 rfl
theorem dX12_bestMate_24 : decode cX12_bestMate 24 = .ok (.invokevirtual 268, 3) := dgs daX12_bestMate_0 dbX12_bestMate_0 16 24 rfl
theorem dX12_bestMate_27 : decode cX12_bestMate 27 = .ok (.aload_n 0, 1) := dgs daX12_bestMate_0 dbX12_bestMate_0 17 27 rfl
theorem dX12_bestMate_28 : decode cX12_bestMate 28 = .ok (.aload_n 0, 1) := dgs daX12_bestMate_0 dbX12_bestMate_0 18 28 rfl
theorem dX12_bestMate_29 : decode cX12_bestMate 29 = .ok (.getfield 251, 3) := dgs daX12_bestMate_0 dbX12_bestMate_0 19 29 rfl
theorem dX12_bestMate_32 : decode cX12_bestMate 32 = .ok (.invokevirtual 153, 3) := dgs daX12_bestMate_0 dbX12_bestMate_0 20 32 rfl
theorem dX12_bestMate_35 : decode cX12_bestMate 35 = .ok (.ireturn, 1) := dgs daX12_bestMate_0 dbX12_bestMate_0 21 35 rfl
def dsX12_goes_0 : ByteArray := ⟨#[27, 26, 100, 5, 108, 62, 27, 26, 100, 5, 112, 154, 0, 9, 29, 16, 6, 162, 0, 6, 16, 119, 172, 26, 27, 96, 28, 112, 153, 0, 6, 16, 97, 172, 28, 6, 160, 0, 9, 17, 3, 98, 167, 0, 28, 28, 7, 160, 0, 9, 17, 2, 195, 167, 0, 17, 28, 8, 160, 0, 9, 17, 2, 76, 167, 0, 6, 17, 1, 244, 54, 4, 26, 29, 96, 21, 4, 104, 17, 3, 232, 29, 5, 96, 104, 164, 0, 8, 16, 103, 167, 0, 5, 16, 114, 172]⟩
theorem daX12_goes_0 : agB cX12_goes dsX12_goes_0 0 := agB_of (n := 96) (by decide +kernel)
def dlX12_goes_0 : List (Nat × Instr × Nat) := [(0, .iload_n 1, 1), (1, .iload_n 0, 1), (2, .isub, 1), (3, .iconst 2, 1), (4, .idiv, 1), (5, .istore_n 3, 1), (6, .iload_n 1, 1), (7, .iload_n 0, 1), (8, .isub, 1), (9, .iconst 2, 1), (10, .irem, 1), (11, .ifCond .ne 9, 3), (14, .iload_n 3, 1), (15, .bipush 6, 2), (17, .if_icmp .ge 6, 3), (20, .bipush 119, 2), (22, .ireturn, 1), (23, .iload_n 0, 1), (24, .iload_n 1, 1), (25, .iadd, 1), (26, .iload_n 2, 1), (27, .irem, 1), (28, .ifCond .eq 6, 3), (31, .bipush 97, 2), (33, .ireturn, 1), (34, .iload_n 2, 1), (35, .iconst 3, 1), (36, .if_icmp .ne 9, 3), (39, .sipush 866, 3), (42, .goto 28, 3), (45, .iload_n 2, 1), (46, .iconst 4, 1), (47, .if_icmp .ne 9, 3), (50, .sipush 707, 3), (53, .goto 17, 3), (56, .iload_n 2, 1), (57, .iconst 5, 1), (58, .if_icmp .ne 9, 3), (61, .sipush 588, 3), (64, .goto 6, 3), (67, .sipush 500, 3), (70, .istore 4, 2), (72, .iload_n 0, 1), (73, .iload_n 3, 1), (74, .iadd, 1), (75, .iload 4, 2), (77, .imul, 1), (78, .sipush 1000, 3), (81, .iload_n 3, 1), (82, .iconst 2, 1), (83, .iadd, 1), (84, .imul, 1), (85, .if_icmp .le 8, 3), (88, .bipush 103, 2), (90, .goto 5, 3), (93, .bipush 114, 2), (95, .ireturn, 1)]
theorem dbX12_goes_0 : ∀ z ∈ dlX12_goes_0, decode dsX12_goes_0 z.1 = Except.ok z.2 ∧ okop dsX12_goes_0 z.1 = true := by decide +kernel
theorem dX12_goes_0 : decode cX12_goes 0 = .ok (.iload_n 1, 1) := dgs daX12_goes_0 dbX12_goes_0 0 0 rfl
theorem dX12_goes_1 : decode cX12_goes 1 = .ok (.iload_n 0, 1) := dgs daX12_goes_0 dbX12_goes_0 1 1 rfl
theorem dX12_goes_2 : decode cX12_goes 2 = .ok (.isub, 1) := dgs daX12_goes_0 dbX12_goes_0 2 2 rfl
theorem dX12_goes_3 : decode cX12_goes 3 = .ok (.iconst 2, 1) := dgs daX12_goes_0 dbX12_goes_0 3 3 rfl
theorem dX12_goes_4 : decode cX12_goes 4 = .ok (.idiv, 1) := dgs daX12_goes_0 dbX12_goes_0 4 4 rfl
theorem dX12_goes_5 : decode cX12_goes 5 = .ok (.istore_n 3, 1) := dgs daX12_goes_0 dbX12_goes_0 5 5 rfl
theorem dX12_goes_6 : decode cX12_goes 6 = .ok (.iload_n 1, 1) := dgs daX12_goes_0 dbX12_goes_0 6 6 rfl
theorem dX12_goes_7 : decode cX12_goes 7 = .ok (.iload_n 0, 1) := dgs daX12_goes_0 dbX12_goes_0 7 7 rfl
theorem dX12_goes_8 : decode cX12_goes 8 = .ok (.isub, 1) := dgs daX12_goes_0 dbX12_goes_0 8 8 rfl
theorem dX12_goes_9 : decode cX12_goes 9 = .ok (.iconst 2, 1) := dgs daX12_goes_0 dbX12_goes_0 9 9 rfl
theorem dX12_goes_10 : decode cX12_goes 10 = .ok (.irem, 1) := dgs daX12_goes_0 dbX12_goes_0 10 10 rfl
theorem dX12_goes_11 : decode cX12_goes 11 = .ok (.ifCond .ne 9, 3) := dgs daX12_goes_0 dbX12_goes_0 11 11 rfl
theorem dX12_goes_14 : decode cX12_goes 14 = .ok (.iload_n 3, 1) := dgs daX12_goes_0 dbX12_goes_0 12 14 rfl
theorem dX12_goes_15 : decode cX12_goes 15 = .ok (.bipush 6, 2) := dgs daX12_goes_0 dbX12_goes_0 13 15 rfl
theorem dX12_goes_17 : decode cX12_goes 17 = .ok (.if_icmp .ge 6, 3) := dgs daX12_goes_0 dbX12_goes_0 14 17 rfl
theorem dX12_goes_20 : decode cX12_goes 20 = .ok (.bipush 119, 2) := dgs daX12_goes_0 dbX12_goes_0 15 20 rfl
theorem dX12_goes_22 : decode cX12_goes 22 = .ok (.ireturn, 1) := dgs daX12_goes_0 dbX12_goes_0 16 22 rfl
theorem dX12_goes_23 : decode cX12_goes 23 = .ok (.iload_n 0, 1) := dgs daX12_goes_0 dbX12_goes_0 17 23 rfl
theorem dX12_goes_24 : decode cX12_goes 24 = .ok (.iload_n 1, 1) := dgs daX12_goes_0 dbX12_goes_0 18 24 rfl
theorem dX12_goes_25 : decode cX12_goes 25 = .ok (.iadd, 1) := dgs daX12_goes_0 dbX12_goes_0 19 25 rfl
theorem dX12_goes_26 : decode cX12_goes 26 = .ok (.iload_n 2, 1) := dgs daX12_goes_0 dbX12_goes_0 20 26 rfl
theorem dX12_goes_27 : decode cX12_goes 27 = .ok (.irem, 1) := dgs daX12_goes_0 dbX12_goes_0 21 27 rfl
theorem dX12_goes_28 : decode cX12_goes 28 = .ok (.ifCond .eq 6, 3) := dgs daX12_goes_0 dbX12_goes_0 22 28 rfl
theorem dX12_goes_31 : decode cX12_goes 31 = .ok (.bipush 97, 2) := dgs daX12_goes_0 dbX12_goes_0 23 31 rfl
theorem dX12_goes_33 : decode cX12_goes 33 = .ok (.ireturn, 1) := dgs daX12_goes_0 dbX12_goes_0 24 33 rfl
theorem dX12_goes_34 : decode cX12_goes 34 = .ok (.iload_n 2, 1) := dgs daX12_goes_0 dbX12_goes_0 25 34 rfl
theorem dX12_goes_35 : decode cX12_goes 35 = .ok (.iconst 3, 1) := dgs daX12_goes_0 dbX12_goes_0 26 35 rfl
theorem dX12_goes_36 : decode cX12_goes 36 = .ok (.if_icmp .ne 9, 3) := dgs daX12_goes_0 dbX12_goes_0 27 36 rfl
theorem dX12_goes_39 : decode cX12_goes 39 = .ok (.sipush 866, 3) := dgs daX12_goes_0 dbX12_goes_0 28 39 rfl
theorem dX12_goes_42 : decode cX12_goes 42 = .ok (.goto 28, 3) := dgs daX12_goes_0 dbX12_goes_0 29 42 rfl
theorem dX12_goes_45 : decode cX12_goes 45 = .ok (.iload_n 2, 1) := dgs daX12_goes_0 dbX12_goes_0 30 45 rfl
theorem dX12_goes_46 : decode cX12_goes 46 = .ok (.iconst 4, 1) := dgs daX12_goes_0 dbX12_goes_0 31 46 rfl
theorem dX12_goes_47 : decode cX12_goes 47 = .ok (.if_icmp .ne 9, 3) := dgs daX12_goes_0 dbX12_goes_0 32 47 rfl
theorem dX12_goes_50 : decode cX12_goes 50 = .ok (.sipush 707, 3) := dgs daX12_goes_0 dbX12_goes_0 33 50 rfl
theorem dX12_goes_53 : decode cX12_goes 53 = .ok (.goto 17, 3) := dgs daX12_goes_0 dbX12_goes_0 34 53 rfl
theorem dX12_goes_56 : decode cX12_goes 56 = .ok (.iload_n 2, 1) := dgs daX12_goes_0 dbX12_goes_0 35 56 rfl
theorem dX12_goes_57 : decode cX12_goes 57 = .ok (.iconst 5, 1) := dgs daX12_goes_0 dbX12_goes_0 36 57 rfl
theorem dX12_goes_58 : decode cX12_goes 58 = .ok (.if_icmp .ne 9, 3) := dgs daX12_goes_0 dbX12_goes_0 37 58 rfl
theorem dX12_goes_61 : decode cX12_goes 61 = .ok (.sipush 588, 3) := dgs daX12_goes_0 dbX12_goes_0 38 61 rfl
theorem dX12_goes_64 : decode cX12_goes 64 = .ok (.goto 6, 3) := dgs daX12_goes_0 dbX12_goes_0 39 64 rfl
theorem dX12_goes_67 : decode cX12_goes 67 = .ok (.sipush 500, 3) := dgs daX12_goes_0 dbX12_goes_0 40 67 rfl
theorem dX12_goes_70 : decode cX12_goes 70 = .ok (.istore 4, 2) := dgs daX12_goes_0 dbX12_goes_0 41 70 rfl
theorem dX12_goes_72 : decode cX12_goes 72 = .ok (.iload_n 0, 1) := dgs daX12_goes_0 dbX12_goes_0 42 72 rfl
theorem dX12_goes_73 : decode cX12_goes 73 = .ok (.iload_n 3, 1) := dgs daX12_goes_0 dbX12_goes_0 43 73 rfl
theorem dX12_goes_74 : decode cX12_goes 74 = .ok (.iadd, 1) := dgs daX12_goes_0 dbX12_goes_0 44 74 rfl
theorem dX12_goes_75 : decode cX12_goes 75 = .ok (.iload 4, 2) := dgs daX12_goes_0 dbX12_goes_0 45 75 rfl
theorem dX12_goes_77 : decode cX12_goes 77 = .ok (.imul, 1) := dgs daX12_goes_0 dbX12_goes_0 46 77 rfl
theorem dX12_goes_78 : decode cX12_goes 78 = .ok (.sipush 1000, 3) := dgs daX12_goes_0 dbX12_goes_0 47 78 rfl
theorem dX12_goes_81 : decode cX12_goes 81 = .ok (.iload_n 3, 1) := dgs daX12_goes_0 dbX12_goes_0 48 81 rfl
theorem dX12_goes_82 : decode cX12_goes 82 = .ok (.iconst 2, 1) := dgs daX12_goes_0 dbX12_goes_0 49 82 rfl
theorem dX12_goes_83 : decode cX12_goes 83 = .ok (.iadd, 1) := dgs daX12_goes_0 dbX12_goes_0 50 83 rfl
theorem dX12_goes_84 : decode cX12_goes 84 = .ok (.imul, 1) := dgs daX12_goes_0 dbX12_goes_0 51 84 rfl
theorem dX12_goes_85 : decode cX12_goes 85 = .ok (.if_icmp .le 8, 3) := dgs daX12_goes_0 dbX12_goes_0 52 85 rfl
theorem dX12_goes_88 : decode cX12_goes 88 = .ok (.bipush 103, 2) := dgs daX12_goes_0 dbX12_goes_0 53 88 rfl
theorem dX12_goes_90 : decode cX12_goes 90 = .ok (.goto 5, 3) := dgs daX12_goes_0 dbX12_goes_0 54 90 rfl
theorem dX12_goes_93 : decode cX12_goes 93 = .ok (.bipush 114, 2) := dgs daX12_goes_0 dbX12_goes_0 55 93 rfl
theorem dX12_goes_95 : decode cX12_goes 95 = .ok (.ireturn, 1) := dgs daX12_goes_0 dbX12_goes_0 56 95 rfl
set_option maxRecDepth 20000 in
theorem ggX12_planets_X12_in : GoodIn wsX12_planets wsX12_in := goodIn_q _ [9] rfl (by decide +kernel)
set_option maxRecDepth 20000 in
theorem gX12_planets_X12_in : GoodIn wsX12_planets (va_wsS RX12 101 yX12_in wsX12_in) := goodIn_app (goodIn_q _ [6, 7, 8] rfl (by decide +kernel)) ggX12_planets_X12_in
set_option maxRecDepth 20000 in
theorem ggX12_planets_X12_goes : GoodIn wsX12_planets wsX12_goes := goodIn_ca (goodIn_q _ [12] rfl (by decide +kernel)) (goodIn_sub (fun _ h => List.mem_cons_of_mem _ (List.mem_append_right _ h)) (by decide +kernel))
set_option maxRecDepth 20000 in
theorem gX12_planets_X12_goes : GoodIn wsX12_planets (va_wsS RX12 274 yX12_goes wsX12_goes) := goodIn_app (goodIn_q _ [10, 11, 8] rfl (by decide +kernel)) ggX12_planets_X12_goes
def dsX12_planets_0 : ByteArray := ⟨#[42, 27, 133, 20, 0, 129, 20, 0, 131, 184, 0, 101, 153, 0, 36, 28, 133, 27, 4, 96, 133, 20, 1, 16, 184, 0, 101, 153, 0, 21, 29, 133, 20, 0, 247, 20, 0, 129, 184, 0, 101, 153, 0, 7, 3, 167, 0, 4, 4, 181, 0, 94, 42, 180, 0, 94, 154, 0, 12, 27, 28, 29, 184, 1, 18, 167, 0, 4, 3, 172]⟩
theorem daX12_planets_0 : agB cX12_planets dsX12_planets_0 0 := agB_of (n := 70) (by decide +kernel)
def dlX12_planets_0 : List (Nat × Instr × Nat) := [(0, .aload_n 0, 1), (1, .iload_n 1, 1), (2, .i2l, 1), (3, .ldc2_w 129, 3), (6, .ldc2_w 131, 3), (9, .invokestatic 101, 3), (12, .ifCond .eq 36, 3), (15, .iload_n 2, 1), (16, .i2l, 1), (17, .iload_n 1, 1), (18, .iconst 1, 1), (19, .iadd, 1), (20, .i2l, 1), (21, .ldc2_w 272, 3), (24, .invokestatic 101, 3), (27, .ifCond .eq 21, 3), (30, .iload_n 3, 1), (31, .i2l, 1), (32, .ldc2_w 247, 3), (35, .ldc2_w 129, 3), (38, .invokestatic 101, 3), (41, .ifCond .eq 7, 3), (44, .iconst 0, 1), (45, .goto 4, 3), (48, .iconst 1, 1), (49, .putfield 94, 3), (52, .aload_n 0, 1), (53, .getfield 94, 3), (56, .ifCond .ne 12, 3), (59, .iload_n 1, 1), (60, .iload_n 2, 1), (61, .iload_n 3, 1), (62, .invokestatic 274, 3), (65, .goto 4, 3), (68, .iconst 0, 1), (69, .ireturn, 1)]
theorem dbX12_planets_0 : ∀ z ∈ dlX12_planets_0, decode dsX12_planets_0 z.1 = Except.ok z.2 ∧ okop dsX12_planets_0 z.1 = true := by decide +kernel
theorem dX12_planets_0 : decode cX12_planets 0 = .ok (.aload_n 0, 1) := dgs daX12_planets_0 dbX12_planets_0 0 0 rfl
theorem dX12_planets_1 : decode cX12_planets 1 = .ok (.iload_n 1, 1) := dgs daX12_planets_0 dbX12_planets_0 1 1 rfl
theorem dX12_planets_2 : decode cX12_planets 2 = .ok (.i2l, 1) := dgs daX12_planets_0 dbX12_planets_0 2 2 rfl
theorem dX12_planets_3 : decode cX12_planets 3 = .ok (.ldc2_w 129, 3) := dgs daX12_planets_0 dbX12_planets_0 3 3 rfl
theorem dX12_planets_6 : decode cX12_planets 6 = .ok (.ldc2_w 131, 3) := dgs daX12_planets_0 dbX12_planets_0 4 6 rfl
theorem dX12_planets_9 : decode cX12_planets 9 = .ok (.invokestatic 101, 3) := dgs daX12_planets_0 dbX12_planets_0 5 9 rfl
theorem dX12_planets_12 : decode cX12_planets 12 = .ok (.ifCond .eq 36, 3) := dgs daX12_planets_0 dbX12_planets_0 6 12 rfl
theorem dX12_planets_15 : decode cX12_planets 15 = .ok (.iload_n 2, 1) := dgs daX12_planets_0 dbX12_planets_0 7 15 rfl
theorem dX12_planets_16 : decode cX12_planets 16 = .ok (.i2l, 1) := dgs daX12_planets_0 dbX12_planets_0 8 16 rfl
theorem dX12_planets_17 : decode cX12_planets 17 = .ok (.iload_n 1, 1) := dgs daX12_planets_0 dbX12_planets_0 9 17 rfl
theorem dX12_planets_18 : decode cX12_planets 18 = .ok (.iconst 1, 1) := dgs daX12_planets_0 dbX12_planets_0 10 18 rfl
theorem dX12_planets_19 : decode cX12_planets 19 = .ok (.iadd, 1) := dgs daX12_planets_0 dbX12_planets_0 11 19 rfl
theorem dX12_planets_20 : decode cX12_planets 20 = .ok (.i2l, 1) := dgs daX12_planets_0 dbX12_planets_0 12 20 rfl
theorem dX12_planets_21 : decode cX12_planets 21 = .ok (.ldc2_w 272, 3) := dgs daX12_planets_0 dbX12_planets_0 13 21 rfl
theorem dX12_planets_24 : decode cX12_planets 24 = .ok (.invokestatic 101, 3) := dgs daX12_planets_0 dbX12_planets_0 14 24 rfl
theorem dX12_planets_27 : decode cX12_planets 27 = .ok (.ifCond .eq 21, 3) := dgs daX12_planets_0 dbX12_planets_0 15 27 rfl
theorem dX12_planets_30 : decode cX12_planets 30 = .ok (.iload_n 3, 1) := dgs daX12_planets_0 dbX12_planets_0 16 30 rfl
theorem dX12_planets_31 : decode cX12_planets 31 = .ok (.i2l, 1) := dgs daX12_planets_0 dbX12_planets_0 17 31 rfl
theorem dX12_planets_32 : decode cX12_planets 32 = .ok (.ldc2_w 247, 3) := dgs daX12_planets_0 dbX12_planets_0 18 32 rfl
theorem dX12_planets_35 : decode cX12_planets 35 = .ok (.ldc2_w 129, 3) := dgs daX12_planets_0 dbX12_planets_0 19 35 rfl
theorem dX12_planets_38 : decode cX12_planets 38 = .ok (.invokestatic 101, 3) := dgs daX12_planets_0 dbX12_planets_0 20 38 rfl
theorem dX12_planets_41 : decode cX12_planets 41 = .ok (.ifCond .eq 7, 3) := dgs daX12_planets_0 dbX12_planets_0 21 41 rfl
theorem dX12_planets_44 : decode cX12_planets 44 = .ok (.iconst 0, 1) := dgs daX12_planets_0 dbX12_planets_0 22 44 rfl
theorem dX12_planets_45 : decode cX12_planets 45 = .ok (.goto 4, 3) := dgs daX12_planets_0 dbX12_planets_0 23 45 rfl
theorem dX12_planets_48 : decode cX12_planets 48 = .ok (.iconst 1, 1) := dgs daX12_planets_0 dbX12_planets_0 24 48 rfl
theorem dX12_planets_49 : decode cX12_planets 49 = .ok (.putfield 94, 3) := dgs daX12_planets_0 dbX12_planets_0 25 49 rfl
theorem dX12_planets_52 : decode cX12_planets 52 = .ok (.aload_n 0, 1) := dgs daX12_planets_0 dbX12_planets_0 26 52 rfl
theorem dX12_planets_53 : decode cX12_planets 53 = .ok (.getfield 94, 3) := dgs daX12_planets_0 dbX12_planets_0 27 53 rfl
theorem dX12_planets_56 : decode cX12_planets 56 = .ok (.ifCond .ne 12, 3) := dgs daX12_planets_0 dbX12_planets_0 28 56 rfl
theorem dX12_planets_59 : decode cX12_planets 59 = .ok (.iload_n 1, 1) := dgs daX12_planets_0 dbX12_planets_0 29 59 rfl
theorem dX12_planets_60 : decode cX12_planets 60 = .ok (.iload_n 2, 1) := dgs daX12_planets_0 dbX12_planets_0 30 60 rfl
theorem dX12_planets_61 : decode cX12_planets 61 = .ok (.iload_n 3, 1) := dgs daX12_planets_0 dbX12_planets_0 31 61 rfl
theorem dX12_planets_62 : decode cX12_planets 62 = .ok (.invokestatic 274, 3) := dgs daX12_planets_0 dbX12_planets_0 32 62 rfl
theorem dX12_planets_65 : decode cX12_planets 65 = .ok (.goto 4, 3) := dgs daX12_planets_0 dbX12_planets_0 33 65 rfl
theorem dX12_planets_68 : decode cX12_planets 68 = .ok (.iconst 0, 1) := dgs daX12_planets_0 dbX12_planets_0 34 68 rfl
theorem dX12_planets_69 : decode cX12_planets 69 = .ok (.ireturn, 1) := dgs daX12_planets_0 dbX12_planets_0 35 69 rfl
set_option maxRecDepth 20000 in
theorem ggX12_rings_X12_in : GoodIn wsX12_rings wsX12_in := goodIn_q _ [8] rfl (by decide +kernel)
set_option maxRecDepth 20000 in
theorem gX12_rings_X12_in : GoodIn wsX12_rings (va_wsS RX12 101 yX12_in wsX12_in) := goodIn_app (goodIn_q _ [5, 6, 7] rfl (by decide +kernel)) ggX12_rings_X12_in
set_option maxRecDepth 20000 in
theorem ggX12_rings_X12_fails : GoodIn wsX12_rings wsX12_fails := goodIn_q _ [12, 13, 21, 22, 23, 24, 25, 26, 27, 28, 29, 30, 31, 32, 33, 34, 35, 36, 37, 38, 39, 40, 41, 42, 43, 44, 45, 46, 47, 48, 49, 50, 51, 52, 53, 54] rfl (by decide +kernel)
set_option maxRecDepth 20000 in
theorem gX12_rings_X12_fails : GoodIn wsX12_rings (wsV RX12 143 RX12 yX12_fails wsX12_fails) := goodIn_app (goodIn_q _ [9, 10, 11, 7] rfl (by decide +kernel)) ggX12_rings_X12_fails
set_option maxRecDepth 20000 in
theorem ggX12_rings_X12_goes : GoodIn wsX12_rings wsX12_goes := goodIn_ca (goodIn_q _ [16] rfl (by decide +kernel)) (goodIn_sub (fun _ h => List.mem_cons_of_mem _ (List.mem_append_right _ h)) (by decide +kernel))
set_option maxRecDepth 20000 in
theorem gX12_rings_X12_goes : GoodIn wsX12_rings (va_wsS RX12 274 yX12_goes wsX12_goes) := goodIn_app (goodIn_q _ [14, 15, 7] rfl (by decide +kernel)) ggX12_rings_X12_goes
set_option maxRecDepth 20000 in
theorem ggX12_rings_X12_answer : GoodIn wsX12_rings wsX12_answer := goodIn_q _ [20, 13, 21, 22, 23, 24, 25, 26, 27, 28, 29, 30, 31, 32, 33, 34, 35, 36, 37, 38, 39, 40, 41, 42, 43, 44, 45, 46, 47, 48, 49, 50, 51, 52, 53, 54] rfl (by decide +kernel)
set_option maxRecDepth 20000 in
theorem gX12_rings_X12_answer : GoodIn wsX12_rings (wsV RX12 153 RX12 yX12_answer wsX12_answer) := goodIn_app (goodIn_q _ [17, 18, 19, 7] rfl (by decide +kernel)) ggX12_rings_X12_answer
def dsX12_rings_0 : ByteArray := ⟨#[27, 133, 20, 0, 129, 20, 0, 131, 184, 0, 101, 153, 0, 45, 28, 133, 20, 0, 247, 20, 0, 129, 184, 0, 101, 153, 0, 31, 29, 133, 20, 0, 131, 20, 0, 249, 184, 0, 101, 153, 0, 17, 21, 4, 133, 29, 133, 20, 0, 249, 184, 0, 101, 154, 0, 9, 42, 4, 182, 0, 143, 172, 3, 54, 5, 27, 4, 96, 54, 6, 21, 6, 17, 2, 88, 163, 0, 57, 16, 100, 27, 21, 6, 96, 104, 54, 7, 21, 5, 27, 21, 6, 28, 184, 1, 18, 16, 103, 160, 0, 24, 21, 7, 29, 27, 104, 161, 0, 16, 21, 7, 21, 4, 27, 104, 163, 0, 7, 4, 167, 0, 4]⟩
theorem daX12_rings_0 : agB cX12_rings dsX12_rings_0 0 := agB_of (n := 122) (by decide +kernel)
def dlX12_rings_0 : List (Nat × Instr × Nat) := [(0, .iload_n 1, 1), (1, .i2l, 1), (2, .ldc2_w 129, 3), (5, .ldc2_w 131, 3), (8, .invokestatic 101, 3), (11, .ifCond .eq 45, 3), (14, .iload_n 2, 1), (15, .i2l, 1), (16, .ldc2_w 247, 3), (19, .ldc2_w 129, 3), (22, .invokestatic 101, 3), (25, .ifCond .eq 31, 3), (28, .iload_n 3, 1), (29, .i2l, 1), (30, .ldc2_w 131, 3), (33, .ldc2_w 249, 3), (36, .invokestatic 101, 3), (39, .ifCond .eq 17, 3), (42, .iload 4, 2), (44, .i2l, 1), (45, .iload_n 3, 1), (46, .i2l, 1), (47, .ldc2_w 249, 3), (50, .invokestatic 101, 3), (53, .ifCond .ne 9, 3), (56, .aload_n 0, 1), (57, .iconst 1, 1), (58, .invokevirtual 143, 3), (61, .ireturn, 1), (62, .iconst 0, 1), (63, .istore 5, 2), (65, .iload_n 1, 1), (66, .iconst 1, 1), (67, .iadd, 1), (68, .istore 6, 2), (70, .iload 6, 2), (72, .sipush 600, 3), (75, .if_icmp .gt 57, 3), (78, .bipush 100, 2), (80, .iload_n 1, 1), (81, .iload 6, 2), (83, .iadd, 1), (84, .imul, 1), (85, .istore 7, 2), (87, .iload 5, 2), (89, .iload_n 1, 1), (90, .iload 6, 2), (92, .iload_n 2, 1), (93, .invokestatic 274, 3), (96, .bipush 103, 2), (98, .if_icmp .ne 24, 3), (101, .iload 7, 2), (103, .iload_n 3, 1), (104, .iload_n 1, 1), (105, .imul, 1), (106, .if_icmp .lt 16, 3), (109, .iload 7, 2), (111, .iload 4, 2), (113, .iload_n 1, 1), (114, .imul, 1), (115, .if_icmp .gt 7, 3), (118, .iconst 1, 1), (119, .goto 4, 3)]
theorem dbX12_rings_0 : ∀ z ∈ dlX12_rings_0, decode dsX12_rings_0 z.1 = Except.ok z.2 ∧ okop dsX12_rings_0 z.1 = true := by decide +kernel
theorem dX12_rings_0 : decode cX12_rings 0 = .ok (.iload_n 1, 1) := dgs daX12_rings_0 dbX12_rings_0 0 0 rfl
theorem dX12_rings_1 : decode cX12_rings 1 = .ok (.i2l, 1) := dgs daX12_rings_0 dbX12_rings_0 1 1 rfl
theorem dX12_rings_2 : decode cX12_rings 2 = .ok (.ldc2_w 129, 3) := dgs daX12_rings_0 dbX12_rings_0 2 2 rfl
theorem dX12_rings_5 : decode cX12_rings 5 = .ok (.ldc2_w 131, 3) := dgs daX12_rings_0 dbX12_rings_0 3 5 rfl
theorem dX12_rings_8 : decode cX12_rings 8 = .ok (.invokestatic 101, 3) := dgs daX12_rings_0 dbX12_rings_0 4 8 rfl
theorem dX12_rings_11 : decode cX12_rings 11 = .ok (.ifCond .eq 45, 3) := dgs daX12_rings_0 dbX12_rings_0 5 11 rfl
theorem dX12_rings_14 : decode cX12_rings 14 = .ok (.iload_n 2, 1) := dgs daX12_rings_0 dbX12_rings_0 6 14 rfl
theorem dX12_rings_15 : decode cX12_rings 15 = .ok (.i2l, 1) := dgs daX12_rings_0 dbX12_rings_0 7 15 rfl
theorem dX12_rings_16 : decode cX12_rings 16 = .ok (.ldc2_w 247, 3) := dgs daX12_rings_0 dbX12_rings_0 8 16 rfl
theorem dX12_rings_19 : decode cX12_rings 19 = .ok (.ldc2_w 129, 3) := dgs daX12_rings_0 dbX12_rings_0 9 19 rfl
theorem dX12_rings_22 : decode cX12_rings 22 = .ok (.invokestatic 101, 3) := dgs daX12_rings_0 dbX12_rings_0 10 22 rfl
theorem dX12_rings_25 : decode cX12_rings 25 = .ok (.ifCond .eq 31, 3) := dgs daX12_rings_0 dbX12_rings_0 11 25 rfl
theorem dX12_rings_28 : decode cX12_rings 28 = .ok (.iload_n 3, 1) := dgs daX12_rings_0 dbX12_rings_0 12 28 rfl
theorem dX12_rings_29 : decode cX12_rings 29 = .ok (.i2l, 1) := dgs daX12_rings_0 dbX12_rings_0 13 29 rfl
theorem dX12_rings_30 : decode cX12_rings 30 = .ok (.ldc2_w 131, 3) := dgs daX12_rings_0 dbX12_rings_0 14 30 rfl
theorem dX12_rings_33 : decode cX12_rings 33 = .ok (.ldc2_w 249, 3) := dgs daX12_rings_0 dbX12_rings_0 15 33 rfl
theorem dX12_rings_36 : decode cX12_rings 36 = .ok (.invokestatic 101, 3) := dgs daX12_rings_0 dbX12_rings_0 16 36 rfl
theorem dX12_rings_39 : decode cX12_rings 39 = .ok (.ifCond .eq 17, 3) := dgs daX12_rings_0 dbX12_rings_0 17 39 rfl
theorem dX12_rings_42 : decode cX12_rings 42 = .ok (.iload 4, 2) := dgs daX12_rings_0 dbX12_rings_0 18 42 rfl
theorem dX12_rings_44 : decode cX12_rings 44 = .ok (.i2l, 1) := dgs daX12_rings_0 dbX12_rings_0 19 44 rfl
theorem dX12_rings_45 : decode cX12_rings 45 = .ok (.iload_n 3, 1) := dgs daX12_rings_0 dbX12_rings_0 20 45 rfl
theorem dX12_rings_46 : decode cX12_rings 46 = .ok (.i2l, 1) := dgs daX12_rings_0 dbX12_rings_0 21 46 rfl
theorem dX12_rings_47 : decode cX12_rings 47 = .ok (.ldc2_w 249, 3) := dgs daX12_rings_0 dbX12_rings_0 22 47 rfl
theorem dX12_rings_50 : decode cX12_rings 50 = .ok (.invokestatic 101, 3) := dgs daX12_rings_0 dbX12_rings_0 23 50 rfl
theorem dX12_rings_53 : decode cX12_rings 53 = .ok (.ifCond .ne 9, 3) := dgs daX12_rings_0 dbX12_rings_0 24 53 rfl
theorem dX12_rings_56 : decode cX12_rings 56 = .ok (.aload_n 0, 1) := dgs daX12_rings_0 dbX12_rings_0 25 56 rfl
theorem dX12_rings_57 : decode cX12_rings 57 = .ok (.iconst 1, 1) := dgs daX12_rings_0 dbX12_rings_0 26 57 rfl
theorem dX12_rings_58 : decode cX12_rings 58 = .ok (.invokevirtual 143, 3) := dgs daX12_rings_0 dbX12_rings_0 27 58 rfl
theorem dX12_rings_61 : decode cX12_rings 61 = .ok (.ireturn, 1) := dgs daX12_rings_0 dbX12_rings_0 28 61 rfl
theorem dX12_rings_62 : decode cX12_rings 62 = .ok (.iconst 0, 1) := dgs daX12_rings_0 dbX12_rings_0 29 62 rfl
theorem dX12_rings_63 : decode cX12_rings 63 = .ok (.istore 5, 2) := dgs daX12_rings_0 dbX12_rings_0 30 63 rfl
theorem dX12_rings_65 : decode cX12_rings 65 = .ok (.iload_n 1, 1) := dgs daX12_rings_0 dbX12_rings_0 31 65 rfl
theorem dX12_rings_66 : decode cX12_rings 66 = .ok (.iconst 1, 1) := dgs daX12_rings_0 dbX12_rings_0 32 66 rfl
theorem dX12_rings_67 : decode cX12_rings 67 = .ok (.iadd, 1) := dgs daX12_rings_0 dbX12_rings_0 33 67 rfl
theorem dX12_rings_68 : decode cX12_rings 68 = .ok (.istore 6, 2) := dgs daX12_rings_0 dbX12_rings_0 34 68 rfl
theorem dX12_rings_70 : decode cX12_rings 70 = .ok (.iload 6, 2) := dgs daX12_rings_0 dbX12_rings_0 35 70 rfl
theorem dX12_rings_72 : decode cX12_rings 72 = .ok (.sipush 600, 3) := dgs daX12_rings_0 dbX12_rings_0 36 72 rfl
theorem dX12_rings_75 : decode cX12_rings 75 = .ok (.if_icmp .gt 57, 3) := dgs daX12_rings_0 dbX12_rings_0 37 75 rfl
theorem dX12_rings_78 : decode cX12_rings 78 = .ok (.bipush 100, 2) := dgs daX12_rings_0 dbX12_rings_0 38 78 rfl
theorem dX12_rings_80 : decode cX12_rings 80 = .ok (.iload_n 1, 1) := dgs daX12_rings_0 dbX12_rings_0 39 80 rfl
theorem dX12_rings_81 : decode cX12_rings 81 = .ok (.iload 6, 2) := dgs daX12_rings_0 dbX12_rings_0 40 81 rfl
theorem dX12_rings_83 : decode cX12_rings 83 = .ok (.iadd, 1) := dgs daX12_rings_0 dbX12_rings_0 41 83 rfl
theorem dX12_rings_84 : decode cX12_rings 84 = .ok (.imul, 1) := dgs daX12_rings_0 dbX12_rings_0 42 84 rfl
theorem dX12_rings_85 : decode cX12_rings 85 = .ok (.istore 7, 2) := dgs daX12_rings_0 dbX12_rings_0 43 85 rfl
theorem dX12_rings_87 : decode cX12_rings 87 = .ok (.iload 5, 2) := dgs daX12_rings_0 dbX12_rings_0 44 87 rfl
theorem dX12_rings_89 : decode cX12_rings 89 = .ok (.iload_n 1, 1) := dgs daX12_rings_0 dbX12_rings_0 45 89 rfl
theorem dX12_rings_90 : decode cX12_rings 90 = .ok (.iload 6, 2) := dgs daX12_rings_0 dbX12_rings_0 46 90 rfl
theorem dX12_rings_92 : decode cX12_rings 92 = .ok (.iload_n 2, 1) := dgs daX12_rings_0 dbX12_rings_0 47 92 rfl
theorem dX12_rings_93 : decode cX12_rings 93 = .ok (.invokestatic 274, 3) := dgs daX12_rings_0 dbX12_rings_0 48 93 rfl
theorem dX12_rings_96 : decode cX12_rings 96 = .ok (.bipush 103, 2) := dgs daX12_rings_0 dbX12_rings_0 49 96 rfl
theorem dX12_rings_98 : decode cX12_rings 98 = .ok (.if_icmp .ne 24, 3) := dgs daX12_rings_0 dbX12_rings_0 50 98 rfl
theorem dX12_rings_101 : decode cX12_rings 101 = .ok (.iload 7, 2) := dgs daX12_rings_0 dbX12_rings_0 51 101 rfl
theorem dX12_rings_103 : decode cX12_rings 103 = .ok (.iload_n 3, 1) := dgs daX12_rings_0 dbX12_rings_0 52 103 rfl
theorem dX12_rings_104 : decode cX12_rings 104 = .ok (.iload_n 1, 1) := dgs daX12_rings_0 dbX12_rings_0 53 104 rfl
theorem dX12_rings_105 : decode cX12_rings 105 = .ok (.imul, 1) := dgs daX12_rings_0 dbX12_rings_0 54 105 rfl
theorem dX12_rings_106 : decode cX12_rings 106 = .ok (.if_icmp .lt 16, 3) := dgs daX12_rings_0 dbX12_rings_0 55 106 rfl
theorem dX12_rings_109 : decode cX12_rings 109 = .ok (.iload 7, 2) := dgs daX12_rings_0 dbX12_rings_0 56 109 rfl
theorem dX12_rings_111 : decode cX12_rings 111 = .ok (.iload 4, 2) := dgs daX12_rings_0 dbX12_rings_0 57 111 rfl
theorem dX12_rings_113 : decode cX12_rings 113 = .ok (.iload_n 1, 1) := dgs daX12_rings_0 dbX12_rings_0 58 113 rfl
theorem dX12_rings_114 : decode cX12_rings 114 = .ok (.imul, 1) := dgs daX12_rings_0 dbX12_rings_0 59 114 rfl
theorem dX12_rings_115 : decode cX12_rings 115 = .ok (.if_icmp .gt 7, 3) := dgs daX12_rings_0 dbX12_rings_0 60 115 rfl
theorem dX12_rings_118 : decode cX12_rings 118 = .ok (.iconst 1, 1) := dgs daX12_rings_0 dbX12_rings_0 61 118 rfl
theorem dX12_rings_119 : decode cX12_rings 119 = .ok (.goto 4, 3) := dgs daX12_rings_0 dbX12_rings_0 62 119 rfl
def dsX12_rings_122 : ByteArray := ⟨#[3, 96, 54, 5, 132, 6, 1, 167, 255, 197, 42, 21, 5, 182, 0, 153, 172]⟩
theorem daX12_rings_122 : agB cX12_rings dsX12_rings_122 122 := agB_of (n := 17) (by decide +kernel)
def dlX12_rings_122 : List (Nat × Instr × Nat) := [(0, .iconst 0, 1), (1, .iadd, 1), (2, .istore 5, 2), (4, .iinc 6 1, 3), (7, .goto (-59), 3), (10, .aload_n 0, 1), (11, .iload 5, 2), (13, .invokevirtual 153, 3), (16, .ireturn, 1)]
theorem dbX12_rings_122 : ∀ z ∈ dlX12_rings_122, decode dsX12_rings_122 z.1 = Except.ok z.2 ∧ okop dsX12_rings_122 z.1 = true := by decide +kernel
theorem dX12_rings_122 : decode cX12_rings 122 = .ok (.iconst 0, 1) := dgs daX12_rings_122 dbX12_rings_122 0 0 rfl
theorem dX12_rings_123 : decode cX12_rings 123 = .ok (.iadd, 1) := dgs daX12_rings_122 dbX12_rings_122 1 1 rfl
theorem dX12_rings_124 : decode cX12_rings 124 = .ok (.istore 5, 2) := dgs daX12_rings_122 dbX12_rings_122 2 2 rfl
theorem dX12_rings_126 : decode cX12_rings 126 = .ok (.iinc 6 1, 3) := dgs daX12_rings_122 dbX12_rings_122 3 4 rfl
theorem dX12_rings_129 : decode cX12_rings 129 = .ok (.goto (-59), 3) := dgs daX12_rings_122 dbX12_rings_122 4 7 rfl
theorem dX12_rings_132 : decode cX12_rings 132 = .ok (.aload_n 0, 1) := dgs daX12_rings_122 dbX12_rings_122 5 10 rfl
theorem dX12_rings_133 : decode cX12_rings 133 = .ok (.iload 5, 2) := dgs daX12_rings_122 dbX12_rings_122 6 11 rfl
theorem dX12_rings_135 : decode cX12_rings 135 = .ok (.invokevirtual 153, 3) := dgs daX12_rings_122 dbX12_rings_122 7 13 rfl
theorem dX12_rings_138 : decode cX12_rings 138 = .ok (.ireturn, 1) := dgs daX12_rings_122 dbX12_rings_122 8 16 rfl
set_option maxRecDepth 20000 in
theorem ggX12_wheel_X12_in : GoodIn wsX12_wheel wsX12_in := goodIn_q _ [8] rfl (by decide +kernel)
set_option maxRecDepth 20000 in
theorem gX12_wheel_X12_in : GoodIn wsX12_wheel (va_wsS RX12 101 yX12_in wsX12_in) := goodIn_app (goodIn_q _ [5, 6, 7] rfl (by decide +kernel)) ggX12_wheel_X12_in
set_option maxRecDepth 20000 in
theorem ggX12_wheel_X12_fails : GoodIn wsX12_wheel wsX12_fails := goodIn_q _ [12, 13, 18, 19, 20, 21, 22, 23, 24, 25, 26, 27, 28, 29, 30, 31, 32, 33, 34, 35, 36, 37, 38, 39, 40, 41, 42, 43, 44, 45, 46, 47, 48, 49, 50, 51] rfl (by decide +kernel)
set_option maxRecDepth 20000 in
theorem gX12_wheel_X12_fails : GoodIn wsX12_wheel (wsV RX12 143 RX12 yX12_fails wsX12_fails) := goodIn_app (goodIn_q _ [9, 10, 11, 7] rfl (by decide +kernel)) ggX12_wheel_X12_fails
set_option maxRecDepth 20000 in
theorem ggX12_wheel_X12_answer : GoodIn wsX12_wheel wsX12_answer := goodIn_q _ [17, 13, 18, 19, 20, 21, 22, 23, 24, 25, 26, 27, 28, 29, 30, 31, 32, 33, 34, 35, 36, 37, 38, 39, 40, 41, 42, 43, 44, 45, 46, 47, 48, 49, 50, 51] rfl (by decide +kernel)
set_option maxRecDepth 20000 in
theorem gX12_wheel_X12_answer : GoodIn wsX12_wheel (wsV RX12 153 RX12 yX12_answer wsX12_answer) := goodIn_app (goodIn_q _ [14, 15, 16, 7] rfl (by decide +kernel)) ggX12_wheel_X12_answer
def dsX12_wheel_0 : ByteArray := ⟨#[27, 133, 20, 1, 22, 20, 1, 24, 184, 0, 101, 154, 0, 9, 42, 4, 182, 0, 143, 172, 42, 180, 1, 26, 16, 16, 160, 0, 9, 42, 5, 182, 0, 143, 172, 42, 180, 0, 31, 42, 180, 1, 26, 27, 79, 42, 89, 180, 1, 26, 4, 96, 181, 1, 26, 42, 42, 180, 1, 26, 182, 0, 153, 172]⟩
theorem daX12_wheel_0 : agB cX12_wheel dsX12_wheel_0 0 := agB_of (n := 64) (by decide +kernel)
def dlX12_wheel_0 : List (Nat × Instr × Nat) := [(0, .iload_n 1, 1), (1, .i2l, 1), (2, .ldc2_w 278, 3), (5, .ldc2_w 280, 3), (8, .invokestatic 101, 3), (11, .ifCond .ne 9, 3), (14, .aload_n 0, 1), (15, .iconst 1, 1), (16, .invokevirtual 143, 3), (19, .ireturn, 1), (20, .aload_n 0, 1), (21, .getfield 282, 3), (24, .bipush 16, 2), (26, .if_icmp .ne 9, 3), (29, .aload_n 0, 1), (30, .iconst 2, 1), (31, .invokevirtual 143, 3), (34, .ireturn, 1), (35, .aload_n 0, 1), (36, .getfield 31, 3), (39, .aload_n 0, 1), (40, .getfield 282, 3), (43, .iload_n 1, 1), (44, .iastore, 1), (45, .aload_n 0, 1), (46, .dup, 1), (47, .getfield 282, 3), (50, .iconst 1, 1), (51, .iadd, 1), (52, .putfield 282, 3), (55, .aload_n 0, 1), (56, .aload_n 0, 1), (57, .getfield 282, 3), (60, .invokevirtual 153, 3), (63, .ireturn, 1)]
theorem dbX12_wheel_0 : ∀ z ∈ dlX12_wheel_0, decode dsX12_wheel_0 z.1 = Except.ok z.2 ∧ okop dsX12_wheel_0 z.1 = true := by decide +kernel
theorem dX12_wheel_0 : decode cX12_wheel 0 = .ok (.iload_n 1, 1) := dgs daX12_wheel_0 dbX12_wheel_0 0 0 rfl
theorem dX12_wheel_1 : decode cX12_wheel 1 = .ok (.i2l, 1) := dgs daX12_wheel_0 dbX12_wheel_0 1 1 rfl
theorem dX12_wheel_2 : decode cX12_wheel 2 = .ok (.ldc2_w 278, 3) := dgs daX12_wheel_0 dbX12_wheel_0 2 2 rfl
theorem dX12_wheel_5 : decode cX12_wheel 5 = .ok (.ldc2_w 280, 3) := dgs daX12_wheel_0 dbX12_wheel_0 3 5 rfl
theorem dX12_wheel_8 : decode cX12_wheel 8 = .ok (.invokestatic 101, 3) := dgs daX12_wheel_0 dbX12_wheel_0 4 8 rfl
theorem dX12_wheel_11 : decode cX12_wheel 11 = .ok (.ifCond .ne 9, 3) := dgs daX12_wheel_0 dbX12_wheel_0 5 11 rfl
theorem dX12_wheel_14 : decode cX12_wheel 14 = .ok (.aload_n 0, 1) := dgs daX12_wheel_0 dbX12_wheel_0 6 14 rfl
theorem dX12_wheel_15 : decode cX12_wheel 15 = .ok (.iconst 1, 1) := dgs daX12_wheel_0 dbX12_wheel_0 7 15 rfl
theorem dX12_wheel_16 : decode cX12_wheel 16 = .ok (.invokevirtual 143, 3) := dgs daX12_wheel_0 dbX12_wheel_0 8 16 rfl
theorem dX12_wheel_19 : decode cX12_wheel 19 = .ok (.ireturn, 1) := dgs daX12_wheel_0 dbX12_wheel_0 9 19 rfl
theorem dX12_wheel_20 : decode cX12_wheel 20 = .ok (.aload_n 0, 1) := dgs daX12_wheel_0 dbX12_wheel_0 10 20 rfl
theorem dX12_wheel_21 : decode cX12_wheel 21 = .ok (.getfield 282, 3) := dgs daX12_wheel_0 dbX12_wheel_0 11 21 rfl
theorem dX12_wheel_24 : decode cX12_wheel 24 = .ok (.bipush 16, 2) := dgs daX12_wheel_0 dbX12_wheel_0 12 24 rfl
theorem dX12_wheel_26 : decode cX12_wheel 26 = .ok (.if_icmp .ne 9, 3) := dgs daX12_wheel_0 dbX12_wheel_0 13 26 rfl
theorem dX12_wheel_29 : decode cX12_wheel 29 = .ok (.aload_n 0, 1) := dgs daX12_wheel_0 dbX12_wheel_0 14 29 rfl
theorem dX12_wheel_30 : decode cX12_wheel 30 = .ok (.iconst 2, 1) := dgs daX12_wheel_0 dbX12_wheel_0 15 30 rfl
theorem dX12_wheel_31 : decode cX12_wheel 31 = .ok (.invokevirtual 143, 3) := dgs daX12_wheel_0 dbX12_wheel_0 16 31 rfl
theorem dX12_wheel_34 : decode cX12_wheel 34 = .ok (.ireturn, 1) := dgs daX12_wheel_0 dbX12_wheel_0 17 34 rfl
theorem dX12_wheel_35 : decode cX12_wheel 35 = .ok (.aload_n 0, 1) := dgs daX12_wheel_0 dbX12_wheel_0 18 35 rfl
theorem dX12_wheel_36 : decode cX12_wheel 36 = .ok (.getfield 31, 3) := dgs daX12_wheel_0 dbX12_wheel_0 19 36 rfl
theorem dX12_wheel_39 : decode cX12_wheel 39 = .ok (.aload_n 0, 1) := dgs daX12_wheel_0 dbX12_wheel_0 20 39 rfl
theorem dX12_wheel_40 : decode cX12_wheel 40 = .ok (.getfield 282, 3) := dgs daX12_wheel_0 dbX12_wheel_0 21 40 rfl
theorem dX12_wheel_43 : decode cX12_wheel 43 = .ok (.iload_n 1, 1) := dgs daX12_wheel_0 dbX12_wheel_0 22 43 rfl
theorem dX12_wheel_44 : decode cX12_wheel 44 = .ok (.iastore, 1) := dgs daX12_wheel_0 dbX12_wheel_0 23 44 rfl
theorem dX12_wheel_45 : decode cX12_wheel 45 = .ok (.aload_n 0, 1) := dgs daX12_wheel_0 dbX12_wheel_0 24 45 rfl
theorem dX12_wheel_46 : decode cX12_wheel 46 = .ok (.dup, 1) := dgs daX12_wheel_0 dbX12_wheel_0 25 46 rfl
theorem dX12_wheel_47 : decode cX12_wheel 47 = .ok (.getfield 282, 3) := dgs daX12_wheel_0 dbX12_wheel_0 26 47 rfl
theorem dX12_wheel_50 : decode cX12_wheel 50 = .ok (.iconst 1, 1) := dgs daX12_wheel_0 dbX12_wheel_0 27 50 rfl
theorem dX12_wheel_51 : decode cX12_wheel 51 = .ok (.iadd, 1) := dgs daX12_wheel_0 dbX12_wheel_0 28 51 rfl
theorem dX12_wheel_52 : decode cX12_wheel 52 = .ok (.putfield 282, 3) := dgs daX12_wheel_0 dbX12_wheel_0 29 52 rfl
theorem dX12_wheel_55 : decode cX12_wheel 55 = .ok (.aload_n 0, 1) := dgs daX12_wheel_0 dbX12_wheel_0 30 55 rfl
theorem dX12_wheel_56 : decode cX12_wheel 56 = .ok (.aload_n 0, 1) := dgs daX12_wheel_0 dbX12_wheel_0 31 56 rfl
theorem dX12_wheel_57 : decode cX12_wheel 57 = .ok (.getfield 282, 3) := dgs daX12_wheel_0 dbX12_wheel_0 32 57 rfl
theorem dX12_wheel_60 : decode cX12_wheel 60 = .ok (.invokevirtual 153, 3) := dgs daX12_wheel_0 dbX12_wheel_0 33 60 rfl
theorem dX12_wheel_63 : decode cX12_wheel 63 = .ok (.ireturn, 1) := dgs daX12_wheel_0 dbX12_wheel_0 34 63 rfl
def dsX12_offOf_0 : ByteArray := ⟨#[42, 3, 46, 133, 42, 5, 46, 133, 105, 33, 105, 31, 42, 4, 46, 133, 105, 42, 6, 46, 133, 105, 101, 184, 0, 239, 173]⟩
theorem daX12_offOf_0 : agB cX12_offOf dsX12_offOf_0 0 := agB_of (n := 27) (by decide +kernel)
def dlX12_offOf_0 : List (Nat × Instr × Nat) := [(0, .aload_n 0, 1), (1, .iconst 0, 1), (2, .iaload, 1), (3, .i2l, 1), (4, .aload_n 0, 1), (5, .iconst 2, 1), (6, .iaload, 1), (7, .i2l, 1), (8, .lmul, 1), (9, .lload_n 3, 1), (10, .lmul, 1), (11, .lload_n 1, 1), (12, .aload_n 0, 1), (13, .iconst 1, 1), (14, .iaload, 1), (15, .i2l, 1), (16, .lmul, 1), (17, .aload_n 0, 1), (18, .iconst 3, 1), (19, .iaload, 1), (20, .i2l, 1), (21, .lmul, 1), (22, .lsub, 1), (23, .invokestatic 239, 3), (26, .lreturn, 1)]
theorem dbX12_offOf_0 : ∀ z ∈ dlX12_offOf_0, decode dsX12_offOf_0 z.1 = Except.ok z.2 ∧ okop dsX12_offOf_0 z.1 = true := by decide +kernel
theorem dX12_offOf_0 : decode cX12_offOf 0 = .ok (.aload_n 0, 1) := dgs daX12_offOf_0 dbX12_offOf_0 0 0 rfl
theorem dX12_offOf_1 : decode cX12_offOf 1 = .ok (.iconst 0, 1) := dgs daX12_offOf_0 dbX12_offOf_0 1 1 rfl
theorem dX12_offOf_2 : decode cX12_offOf 2 = .ok (.iaload, 1) := dgs daX12_offOf_0 dbX12_offOf_0 2 2 rfl
theorem dX12_offOf_3 : decode cX12_offOf 3 = .ok (.i2l, 1) := dgs daX12_offOf_0 dbX12_offOf_0 3 3 rfl
theorem dX12_offOf_4 : decode cX12_offOf 4 = .ok (.aload_n 0, 1) := dgs daX12_offOf_0 dbX12_offOf_0 4 4 rfl
theorem dX12_offOf_5 : decode cX12_offOf 5 = .ok (.iconst 2, 1) := dgs daX12_offOf_0 dbX12_offOf_0 5 5 rfl
theorem dX12_offOf_6 : decode cX12_offOf 6 = .ok (.iaload, 1) := dgs daX12_offOf_0 dbX12_offOf_0 6 6 rfl
theorem dX12_offOf_7 : decode cX12_offOf 7 = .ok (.i2l, 1) := dgs daX12_offOf_0 dbX12_offOf_0 7 7 rfl
theorem dX12_offOf_8 : decode cX12_offOf 8 = .ok (.lmul, 1) := dgs daX12_offOf_0 dbX12_offOf_0 8 8 rfl
theorem dX12_offOf_9 : decode cX12_offOf 9 = .ok (.lload_n 3, 1) := dgs daX12_offOf_0 dbX12_offOf_0 9 9 rfl
theorem dX12_offOf_10 : decode cX12_offOf 10 = .ok (.lmul, 1) := dgs daX12_offOf_0 dbX12_offOf_0 10 10 rfl
theorem dX12_offOf_11 : decode cX12_offOf 11 = .ok (.lload_n 1, 1) := dgs daX12_offOf_0 dbX12_offOf_0 11 11 rfl
theorem dX12_offOf_12 : decode cX12_offOf 12 = .ok (.aload_n 0, 1) := dgs daX12_offOf_0 dbX12_offOf_0 12 12 rfl
theorem dX12_offOf_13 : decode cX12_offOf 13 = .ok (.iconst 1, 1) := dgs daX12_offOf_0 dbX12_offOf_0 13 13 rfl
theorem dX12_offOf_14 : decode cX12_offOf 14 = .ok (.iaload, 1) := dgs daX12_offOf_0 dbX12_offOf_0 14 14 rfl
theorem dX12_offOf_15 : decode cX12_offOf 15 = .ok (.i2l, 1) := dgs daX12_offOf_0 dbX12_offOf_0 15 15 rfl
theorem dX12_offOf_16 : decode cX12_offOf 16 = .ok (.lmul, 1) := dgs daX12_offOf_0 dbX12_offOf_0 16 16 rfl
theorem dX12_offOf_17 : decode cX12_offOf 17 = .ok (.aload_n 0, 1) := dgs daX12_offOf_0 dbX12_offOf_0 17 17 rfl
theorem dX12_offOf_18 : decode cX12_offOf 18 = .ok (.iconst 3, 1) := dgs daX12_offOf_0 dbX12_offOf_0 18 18 rfl
theorem dX12_offOf_19 : decode cX12_offOf 19 = .ok (.iaload, 1) := dgs daX12_offOf_0 dbX12_offOf_0 19 19 rfl
theorem dX12_offOf_20 : decode cX12_offOf 20 = .ok (.i2l, 1) := dgs daX12_offOf_0 dbX12_offOf_0 20 20 rfl
theorem dX12_offOf_21 : decode cX12_offOf 21 = .ok (.lmul, 1) := dgs daX12_offOf_0 dbX12_offOf_0 21 21 rfl
theorem dX12_offOf_22 : decode cX12_offOf 22 = .ok (.lsub, 1) := dgs daX12_offOf_0 dbX12_offOf_0 22 22 rfl
theorem dX12_offOf_23 : decode cX12_offOf 23 = .ok (.invokestatic 239, 3) := dgs daX12_offOf_0 dbX12_offOf_0 23 23 rfl
theorem dX12_offOf_26 : decode cX12_offOf 26 = .ok (.lreturn, 1) := dgs daX12_offOf_0 dbX12_offOf_0 24 26 rfl
set_option maxRecDepth 20000 in
theorem ggX12_isBetterFour_X12_offOf : GoodIn wsX12_isBetterFour wsX12_offOf := goodIn_ca (goodIn_q _ [6, 7, 8, 9, 10] rfl (by decide +kernel)) (goodIn_sub (fun _ h => List.mem_cons_of_mem _ (List.mem_append_right _ h)) (by decide +kernel))
set_option maxRecDepth 20000 in
theorem gX12_isBetterFour_X12_offOf : GoodIn wsX12_isBetterFour (va_wsS RX12 285 yX12_offOf wsX12_offOf) := goodIn_app (goodIn_q _ [3, 4, 5] rfl (by decide +kernel)) ggX12_isBetterFour_X12_offOf
def dsX12_isBetterFour_0 : ByteArray := ⟨#[42, 180, 0, 38, 31, 33, 184, 1, 29, 42, 180, 0, 35, 4, 46, 133, 105, 42, 180, 0, 35, 6, 46, 133, 105, 55, 5, 42, 180, 0, 35, 31, 33, 184, 1, 29, 42, 180, 0, 38, 4, 46, 133, 105, 42, 180, 0, 38, 6, 46, 133, 105, 55, 7, 22, 5, 22, 7, 148, 153, 0, 17, 22, 5, 22, 7, 148, 156, 0, 7, 4, 167, 0, 4, 3, 172, 3, 54, 9, 21, 9, 7, 162, 0, 49, 42, 180, 0, 38, 21, 9, 46, 42, 180, 0, 35, 21, 9, 46, 159, 0, 26, 42, 180, 0, 38, 21, 9, 46, 42, 180, 0, 35, 21, 9, 46, 162, 0, 7, 4, 167, 0, 4]⟩
theorem daX12_isBetterFour_0 : agB cX12_isBetterFour dsX12_isBetterFour_0 0 := agB_of (n := 123) (by decide +kernel)
def dlX12_isBetterFour_0 : List (Nat × Instr × Nat) := [(0, .aload_n 0, 1), (1, .getfield 38, 3), (4, .lload_n 1, 1), (5, .lload_n 3, 1), (6, .invokestatic 285, 3), (9, .aload_n 0, 1), (10, .getfield 35, 3), (13, .iconst 1, 1), (14, .iaload, 1), (15, .i2l, 1), (16, .lmul, 1), (17, .aload_n 0, 1), (18, .getfield 35, 3), (21, .iconst 3, 1), (22, .iaload, 1), (23, .i2l, 1), (24, .lmul, 1), (25, .lstore 5, 2), (27, .aload_n 0, 1), (28, .getfield 35, 3), (31, .lload_n 1, 1), (32, .lload_n 3, 1), (33, .invokestatic 285, 3), (36, .aload_n 0, 1), (37, .getfield 38, 3), (40, .iconst 1, 1), (41, .iaload, 1), (42, .i2l, 1), (43, .lmul, 1), (44, .aload_n 0, 1), (45, .getfield 38, 3), (48, .iconst 3, 1), (49, .iaload, 1), (50, .i2l, 1), (51, .lmul, 1), (52, .lstore 7, 2), (54, .lload 5, 2), (56, .lload 7, 2), (58, .lcmp, 1), (59, .ifCond .eq 17, 3), (62, .lload 5, 2), (64, .lload 7, 2), (66, .lcmp, 1), (67, .ifCond .ge 7, 3), (70, .iconst 1, 1), (71, .goto 4, 3), (74, .iconst 0, 1), (75, .ireturn, 1), (76, .iconst 0, 1), (77, .istore 9, 2), (79, .iload 9, 2), (81, .iconst 4, 1), (82, .if_icmp .ge 49, 3), (85, .aload_n 0, 1), (86, .getfield 38, 3), (89, .iload 9, 2), (91, .iaload, 1), (92, .aload_n 0, 1), (93, .getfield 35, 3), (96, .iload 9, 2), (98, .iaload, 1), (99, .if_icmp .eq 26, 3), (102, .aload_n 0, 1), (103, .getfield 38, 3), (106, .iload 9, 2), (108, .iaload, 1), (109, .aload_n 0, 1), (110, .getfield 35, 3), (113, .iload 9, 2), (115, .iaload, 1), (116, .if_icmp .ge 7, 3), (119, .iconst 1, 1), (120, .goto 4, 3)]
theorem dbX12_isBetterFour_0 : ∀ z ∈ dlX12_isBetterFour_0, decode dsX12_isBetterFour_0 z.1 = Except.ok z.2 ∧ okop dsX12_isBetterFour_0 z.1 = true := by decide +kernel
theorem dX12_isBetterFour_0 : decode cX12_isBetterFour 0 = .ok (.aload_n 0, 1) := dgs daX12_isBetterFour_0 dbX12_isBetterFour_0 0 0 rfl
theorem dX12_isBetterFour_1 : decode cX12_isBetterFour 1 = .ok (.getfield 38, 3) := dgs daX12_isBetterFour_0 dbX12_isBetterFour_0 1 1 rfl
theorem dX12_isBetterFour_4 : decode cX12_isBetterFour 4 = .ok (.lload_n 1, 1) := dgs daX12_isBetterFour_0 dbX12_isBetterFour_0 2 4 rfl
theorem dX12_isBetterFour_5 : decode cX12_isBetterFour 5 = .ok (.lload_n 3, 1) := dgs daX12_isBetterFour_0 dbX12_isBetterFour_0 3 5 rfl
theorem dX12_isBetterFour_6 : decode cX12_isBetterFour 6 = .ok (.invokestatic 285, 3) := dgs daX12_isBetterFour_0 dbX12_isBetterFour_0 4 6 rfl
theorem dX12_isBetterFour_9 : decode cX12_isBetterFour 9 = .ok (.aload_n 0, 1) := dgs daX12_isBetterFour_0 dbX12_isBetterFour_0 5 9 rfl
theorem dX12_isBetterFour_10 : decode cX12_isBetterFour 10 = .ok (.getfield 35, 3) := dgs daX12_isBetterFour_0 dbX12_isBetterFour_0 6 10 rfl
theorem dX12_isBetterFour_13 : decode cX12_isBetterFour 13 = .ok (.iconst 1, 1) := dgs daX12_isBetterFour_0 dbX12_isBetterFour_0 7 13 rfl
theorem dX12_isBetterFour_14 : decode cX12_isBetterFour 14 = .ok (.iaload, 1) := dgs daX12_isBetterFour_0 dbX12_isBetterFour_0 8 14 rfl
theorem dX12_isBetterFour_15 : decode cX12_isBetterFour 15 = .ok (.i2l, 1) := dgs daX12_isBetterFour_0 dbX12_isBetterFour_0 9 15 rfl
theorem dX12_isBetterFour_16 : decode cX12_isBetterFour 16 = .ok (.lmul, 1) := dgs daX12_isBetterFour_0 dbX12_isBetterFour_0 10 16 rfl
theorem dX12_isBetterFour_17 : decode cX12_isBetterFour 17 = .ok (.aload_n 0, 1) := dgs daX12_isBetterFour_0 dbX12_isBetterFour_0 11 17 rfl
theorem dX12_isBetterFour_18 : decode cX12_isBetterFour 18 = .ok (.getfield 35, 3) := dgs daX12_isBetterFour_0 dbX12_isBetterFour_0 12 18 rfl
theorem dX12_isBetterFour_21 : decode cX12_isBetterFour 21 = .ok (.iconst 3, 1) := dgs daX12_isBetterFour_0 dbX12_isBetterFour_0 13 21 rfl
theorem dX12_isBetterFour_22 : decode cX12_isBetterFour 22 = .ok (.iaload, 1) := dgs daX12_isBetterFour_0 dbX12_isBetterFour_0 14 22 rfl
theorem dX12_isBetterFour_23 : decode cX12_isBetterFour 23 = .ok (.i2l, 1) := dgs daX12_isBetterFour_0 dbX12_isBetterFour_0 15 23 rfl
theorem dX12_isBetterFour_24 : decode cX12_isBetterFour 24 = .ok (.lmul, 1) := dgs daX12_isBetterFour_0 dbX12_isBetterFour_0 16 24 rfl
theorem dX12_isBetterFour_25 : decode cX12_isBetterFour 25 = .ok (.lstore 5, 2) := dgs daX12_isBetterFour_0 dbX12_isBetterFour_0 17 25 rfl
theorem dX12_isBetterFour_27 : decode cX12_isBetterFour 27 = .ok (.aload_n 0, 1) := dgs daX12_isBetterFour_0 dbX12_isBetterFour_0 18 27 rfl
theorem dX12_isBetterFour_28 : decode cX12_isBetterFour 28 = .ok (.getfield 35, 3) := dgs daX12_isBetterFour_0 dbX12_isBetterFour_0 19 28 rfl
theorem dX12_isBetterFour_31 : decode cX12_isBetterFour 31 = .ok (.lload_n 1, 1) := dgs daX12_isBetterFour_0 dbX12_isBetterFour_0 20 31 rfl
theorem dX12_isBetterFour_32 : decode cX12_isBetterFour 32 = .ok (.lload_n 3, 1) := dgs daX12_isBetterFour_0 dbX12_isBetterFour_0 21 32 rfl
theorem dX12_isBetterFour_33 : decode cX12_isBetterFour 33 = .ok (.invokestatic 285, 3) := dgs daX12_isBetterFour_0 dbX12_isBetterFour_0 22 33 rfl
theorem dX12_isBetterFour_36 : decode cX12_isBetterFour 36 = .ok (.aload_n 0, 1) := dgs daX12_isBetterFour_0 dbX12_isBetterFour_0 23 36 rfl
theorem dX12_isBetterFour_37 : decode cX12_isBetterFour 37 = .ok (.getfield 38, 3) := dgs daX12_isBetterFour_0 dbX12_isBetterFour_0 24 37 rfl
theorem dX12_isBetterFour_40 : decode cX12_isBetterFour 40 = .ok (.iconst 1, 1) := dgs daX12_isBetterFour_0 dbX12_isBetterFour_0 25 40 rfl
theorem dX12_isBetterFour_41 : decode cX12_isBetterFour 41 = .ok (.iaload, 1) := dgs daX12_isBetterFour_0 dbX12_isBetterFour_0 26 41 rfl
theorem dX12_isBetterFour_42 : decode cX12_isBetterFour 42 = .ok (.i2l, 1) := dgs daX12_isBetterFour_0 dbX12_isBetterFour_0 27 42 rfl
theorem dX12_isBetterFour_43 : decode cX12_isBetterFour 43 = .ok (.lmul, 1) := dgs daX12_isBetterFour_0 dbX12_isBetterFour_0 28 43 rfl
theorem dX12_isBetterFour_44 : decode cX12_isBetterFour 44 = .ok (.aload_n 0, 1) := dgs daX12_isBetterFour_0 dbX12_isBetterFour_0 29 44 rfl
theorem dX12_isBetterFour_45 : decode cX12_isBetterFour 45 = .ok (.getfield 38, 3) := dgs daX12_isBetterFour_0 dbX12_isBetterFour_0 30 45 rfl
theorem dX12_isBetterFour_48 : decode cX12_isBetterFour 48 = .ok (.iconst 3, 1) := dgs daX12_isBetterFour_0 dbX12_isBetterFour_0 31 48 rfl
theorem dX12_isBetterFour_49 : decode cX12_isBetterFour 49 = .ok (.iaload, 1) := dgs daX12_isBetterFour_0 dbX12_isBetterFour_0 32 49 rfl
theorem dX12_isBetterFour_50 : decode cX12_isBetterFour 50 = .ok (.i2l, 1) := dgs daX12_isBetterFour_0 dbX12_isBetterFour_0 33 50 rfl
theorem dX12_isBetterFour_51 : decode cX12_isBetterFour 51 = .ok (.lmul, 1) := dgs daX12_isBetterFour_0 dbX12_isBetterFour_0 34 51 rfl
theorem dX12_isBetterFour_52 : decode cX12_isBetterFour 52 = .ok (.lstore 7, 2) := dgs daX12_isBetterFour_0 dbX12_isBetterFour_0 35 52 rfl
theorem dX12_isBetterFour_54 : decode cX12_isBetterFour 54 = .ok (.lload 5, 2) := dgs daX12_isBetterFour_0 dbX12_isBetterFour_0 36 54 rfl
theorem dX12_isBetterFour_56 : decode cX12_isBetterFour 56 = .ok (.lload 7, 2) := dgs daX12_isBetterFour_0 dbX12_isBetterFour_0 37 56 rfl
theorem dX12_isBetterFour_58 : decode cX12_isBetterFour 58 = .ok (.lcmp, 1) := dgs daX12_isBetterFour_0 dbX12_isBetterFour_0 38 58 rfl
theorem dX12_isBetterFour_59 : decode cX12_isBetterFour 59 = .ok (.ifCond .eq 17, 3) := dgs daX12_isBetterFour_0 dbX12_isBetterFour_0 39 59 rfl
theorem dX12_isBetterFour_62 : decode cX12_isBetterFour 62 = .ok (.lload 5, 2) := dgs daX12_isBetterFour_0 dbX12_isBetterFour_0 40 62 rfl
theorem dX12_isBetterFour_64 : decode cX12_isBetterFour 64 = .ok (.lload 7, 2) := dgs daX12_isBetterFour_0 dbX12_isBetterFour_0 41 64 rfl
theorem dX12_isBetterFour_66 : decode cX12_isBetterFour 66 = .ok (.lcmp, 1) := dgs daX12_isBetterFour_0 dbX12_isBetterFour_0 42 66 rfl
theorem dX12_isBetterFour_67 : decode cX12_isBetterFour 67 = .ok (.ifCond .ge 7, 3) := dgs daX12_isBetterFour_0 dbX12_isBetterFour_0 43 67 rfl
theorem dX12_isBetterFour_70 : decode cX12_isBetterFour 70 = .ok (.iconst 1, 1) := dgs daX12_isBetterFour_0 dbX12_isBetterFour_0 44 70 rfl
theorem dX12_isBetterFour_71 : decode cX12_isBetterFour 71 = .ok (.goto 4, 3) := dgs daX12_isBetterFour_0 dbX12_isBetterFour_0 45 71 rfl
theorem dX12_isBetterFour_74 : decode cX12_isBetterFour 74 = .ok (.iconst 0, 1) := dgs daX12_isBetterFour_0 dbX12_isBetterFour_0 46 74 rfl
theorem dX12_isBetterFour_75 : decode cX12_isBetterFour 75 = .ok (.ireturn, 1) := dgs daX12_isBetterFour_0 dbX12_isBetterFour_0 47 75 rfl
theorem dX12_isBetterFour_76 : decode cX12_isBetterFour 76 = .ok (.iconst 0, 1) := dgs daX12_isBetterFour_0 dbX12_isBetterFour_0 48 76 rfl
theorem dX12_isBetterFour_77 : decode cX12_isBetterFour 77 = .ok (.istore 9, 2) := dgs daX12_isBetterFour_0 dbX12_isBetterFour_0 49 77 rfl
theorem dX12_isBetterFour_79 : decode cX12_isBetterFour 79 = .ok (.iload 9, 2) := dgs daX12_isBetterFour_0 dbX12_isBetterFour_0 50 79 rfl
theorem dX12_isBetterFour_81 : decode cX12_isBetterFour 81 = .ok (.iconst 4, 1) := dgs daX12_isBetterFour_0 dbX12_isBetterFour_0 51 81 rfl
theorem dX12_isBetterFour_82 : decode cX12_isBetterFour 82 = .ok (.if_icmp .ge 49, 3) := dgs daX12_isBetterFour_0 dbX12_isBetterFour_0 52 82 rfl
theorem dX12_isBetterFour_85 : decode cX12_isBetterFour 85 = .ok (.aload_n 0, 1) := dgs daX12_isBetterFour_0 dbX12_isBetterFour_0 53 85 rfl
theorem dX12_isBetterFour_86 : decode cX12_isBetterFour 86 = .ok (.getfield 38, 3) := dgs daX12_isBetterFour_0 dbX12_isBetterFour_0 54 86 rfl
theorem dX12_isBetterFour_89 : decode cX12_isBetterFour 89 = .ok (.iload 9, 2) := dgs daX12_isBetterFour_0 dbX12_isBetterFour_0 55 89 rfl
theorem dX12_isBetterFour_91 : decode cX12_isBetterFour 91 = .ok (.iaload, 1) := dgs daX12_isBetterFour_0 dbX12_isBetterFour_0 56 91 rfl
theorem dX12_isBetterFour_92 : decode cX12_isBetterFour 92 = .ok (.aload_n 0, 1) := dgs daX12_isBetterFour_0 dbX12_isBetterFour_0 57 92 rfl
theorem dX12_isBetterFour_93 : decode cX12_isBetterFour 93 = .ok (.getfield 35, 3) := dgs daX12_isBetterFour_0 dbX12_isBetterFour_0 58 93 rfl
theorem dX12_isBetterFour_96 : decode cX12_isBetterFour 96 = .ok (.iload 9, 2) := dgs daX12_isBetterFour_0 dbX12_isBetterFour_0 59 96 rfl
theorem dX12_isBetterFour_98 : decode cX12_isBetterFour 98 = .ok (.iaload, 1) := dgs daX12_isBetterFour_0 dbX12_isBetterFour_0 60 98 rfl
theorem dX12_isBetterFour_99 : decode cX12_isBetterFour 99 = .ok (.if_icmp .eq 26, 3) := dgs daX12_isBetterFour_0 dbX12_isBetterFour_0 61 99 rfl
theorem dX12_isBetterFour_102 : decode cX12_isBetterFour 102 = .ok (.aload_n 0, 1) := dgs daX12_isBetterFour_0 dbX12_isBetterFour_0 62 102 rfl
theorem dX12_isBetterFour_103 : decode cX12_isBetterFour 103 = .ok (.getfield 38, 3) := dgs daX12_isBetterFour_0 dbX12_isBetterFour_0 63 103 rfl
theorem dX12_isBetterFour_106 : decode cX12_isBetterFour 106 = .ok (.iload 9, 2) := dgs daX12_isBetterFour_0 dbX12_isBetterFour_0 64 106 rfl
theorem dX12_isBetterFour_108 : decode cX12_isBetterFour 108 = .ok (.iaload, 1) := dgs daX12_isBetterFour_0 dbX12_isBetterFour_0 65 108 rfl
theorem dX12_isBetterFour_109 : decode cX12_isBetterFour 109 = .ok (.aload_n 0, 1) := dgs daX12_isBetterFour_0 dbX12_isBetterFour_0 66 109 rfl
theorem dX12_isBetterFour_110 : decode cX12_isBetterFour 110 = .ok (.getfield 35, 3) := dgs daX12_isBetterFour_0 dbX12_isBetterFour_0 67 110 rfl
theorem dX12_isBetterFour_113 : decode cX12_isBetterFour 113 = .ok (.iload 9, 2) := dgs daX12_isBetterFour_0 dbX12_isBetterFour_0 68 113 rfl
theorem dX12_isBetterFour_115 : decode cX12_isBetterFour 115 = .ok (.iaload, 1) := dgs daX12_isBetterFour_0 dbX12_isBetterFour_0 69 115 rfl
theorem dX12_isBetterFour_116 : decode cX12_isBetterFour 116 = .ok (.if_icmp .ge 7, 3) := dgs daX12_isBetterFour_0 dbX12_isBetterFour_0 70 116 rfl
theorem dX12_isBetterFour_119 : decode cX12_isBetterFour 119 = .ok (.iconst 1, 1) := dgs daX12_isBetterFour_0 dbX12_isBetterFour_0 71 119 rfl
theorem dX12_isBetterFour_120 : decode cX12_isBetterFour 120 = .ok (.goto 4, 3) := dgs daX12_isBetterFour_0 dbX12_isBetterFour_0 72 120 rfl
def dsX12_isBetterFour_123 : ByteArray := ⟨#[3, 172, 132, 9, 1, 167, 255, 207, 3, 172]⟩
theorem daX12_isBetterFour_123 : agB cX12_isBetterFour dsX12_isBetterFour_123 123 := agB_of (n := 10) (by decide +kernel)
def dlX12_isBetterFour_123 : List (Nat × Instr × Nat) := [(0, .iconst 0, 1), (1, .ireturn, 1), (2, .iinc 9 1, 3), (5, .goto (-49), 3), (8, .iconst 0, 1), (9, .ireturn, 1)]
theorem dbX12_isBetterFour_123 : ∀ z ∈ dlX12_isBetterFour_123, decode dsX12_isBetterFour_123 z.1 = Except.ok z.2 ∧ okop dsX12_isBetterFour_123 z.1 = true := by decide +kernel
theorem dX12_isBetterFour_123 : decode cX12_isBetterFour 123 = .ok (.iconst 0, 1) := dgs daX12_isBetterFour_123 dbX12_isBetterFour_123 0 0 rfl
theorem dX12_isBetterFour_124 : decode cX12_isBetterFour 124 = .ok (.ireturn, 1) := dgs daX12_isBetterFour_123 dbX12_isBetterFour_123 1 1 rfl
theorem dX12_isBetterFour_125 : decode cX12_isBetterFour 125 = .ok (.iinc 9 1, 3) := dgs daX12_isBetterFour_123 dbX12_isBetterFour_123 2 2 rfl
theorem dX12_isBetterFour_128 : decode cX12_isBetterFour 128 = .ok (.goto (-49), 3) := dgs daX12_isBetterFour_123 dbX12_isBetterFour_123 3 5 rfl
theorem dX12_isBetterFour_131 : decode cX12_isBetterFour 131 = .ok (.iconst 0, 1) := dgs daX12_isBetterFour_123 dbX12_isBetterFour_123 4 8 rfl
theorem dX12_isBetterFour_132 : decode cX12_isBetterFour 132 = .ok (.ireturn, 1) := dgs daX12_isBetterFour_123 dbX12_isBetterFour_123 5 9 rfl
set_option maxRecDepth 20000 in
theorem ggX12_tries_X12_isBetterFour : GoodIn wsX12_tries wsX12_isBetterFour := goodIn_ca (goodIn_q _ [9, 2, 1, 10, 11, 8, 12, 13, 14, 15, 16, 20, 21, 22, 23, 24, 25, 26, 27, 28, 29, 30, 31, 32, 33, 34, 35, 36, 37, 38, 39, 40, 41, 42, 43, 44, 45, 46, 47, 48, 49, 50, 51, 52, 53] rfl (by decide +kernel)) (goodIn_sub (fun _ h => List.mem_cons_of_mem _ (List.mem_append_right _ h)) (by decide +kernel))
set_option maxRecDepth 20000 in
theorem gX12_tries_X12_isBetterFour : GoodIn wsX12_tries (wsV RX12 289 RX12 yX12_isBetterFour wsX12_isBetterFour) := goodIn_app (goodIn_q _ [5, 6, 7, 8] rfl (by decide +kernel)) ggX12_tries_X12_isBetterFour
set_option maxRecDepth 20000 in
theorem ggX12_tries_X12_tries : GoodIn wsX12_tries wsX12_tries := goodIn_ca (goodIn_q _ [0, 1, 2, 3, 4, 5, 6, 7, 8, 9, 10, 11, 12, 13, 14, 15, 16, 17, 18, 19, 20, 21, 22, 23, 24, 25, 26, 27, 28, 29, 30, 31, 32, 33, 34, 35, 36, 37, 38, 39, 40, 41, 42, 43, 44, 45, 46, 47, 48, 49, 50, 51, 52, 53] rfl (by decide +kernel)) (goodIn_sub (fun _ h => List.mem_cons_of_mem _ (List.mem_append_right _ h)) (by decide +kernel))
set_option maxRecDepth 20000 in
theorem gX12_tries_X12_tries : GoodIn wsX12_tries (wsV RX12 293 RX12 yX12_tries wsX12_tries) := goodIn_app (goodIn_q _ [17, 18, 19, 8] rfl (by decide +kernel)) ggX12_tries_X12_tries
def dsX12_tries_0 : ByteArray := ⟨#[27, 7, 160, 0, 53, 42, 180, 0, 35, 3, 46, 158, 0, 14, 42, 33, 22, 5, 182, 1, 33, 154, 0, 4, 177, 3, 54, 7, 21, 7, 7, 162, 0, 23, 42, 180, 0, 35, 21, 7, 42, 180, 0, 38, 21, 7, 46, 79, 132, 7, 1, 167, 255, 233, 177, 3, 54, 7, 21, 7, 42, 180, 1, 26, 162, 0, 51, 28, 21, 7, 122, 4, 126, 4, 160, 0, 6, 167, 0, 32, 42, 180, 0, 38, 27, 42, 180, 0, 31, 21, 7, 46, 79, 42, 27, 4, 96, 28, 4, 21, 7, 120, 128, 33, 22, 5, 182, 1, 37, 132, 7, 1, 167, 255, 202, 177]⟩
theorem daX12_tries_0 : agB cX12_tries dsX12_tries_0 0 := agB_of (n := 116) (by decide +kernel)
def dlX12_tries_0 : List (Nat × Instr × Nat) := [(0, .iload_n 1, 1), (1, .iconst 4, 1), (2, .if_icmp .ne 53, 3), (5, .aload_n 0, 1), (6, .getfield 35, 3), (9, .iconst 0, 1), (10, .iaload, 1), (11, .ifCond .le 14, 3), (14, .aload_n 0, 1), (15, .lload_n 3, 1), (16, .lload 5, 2), (18, .invokevirtual 289, 3), (21, .ifCond .ne 4, 3), (24, .return_, 1), (25, .iconst 0, 1), (26, .istore 7, 2), (28, .iload 7, 2), (30, .iconst 4, 1), (31, .if_icmp .ge 23, 3), (34, .aload_n 0, 1), (35, .getfield 35, 3), (38, .iload 7, 2), (40, .aload_n 0, 1), (41, .getfield 38, 3), (44, .iload 7, 2), (46, .iaload, 1), (47, .iastore, 1), (48, .iinc 7 1, 3), (51, .goto (-23), 3), (54, .return_, 1), (55, .iconst 0, 1), (56, .istore 7, 2), (58, .iload 7, 2), (60, .aload_n 0, 1), (61, .getfield 282, 3), (64, .if_icmp .ge 51, 3), (67, .iload_n 2, 1), (68, .iload 7, 2), (70, .ishr, 1), (71, .iconst 1, 1), (72, .iand, 1), (73, .iconst 1, 1), (74, .if_icmp .ne 6, 3), (77, .goto 32, 3), (80, .aload_n 0, 1), (81, .getfield 38, 3), (84, .iload_n 1, 1), (85, .aload_n 0, 1), (86, .getfield 31, 3), (89, .iload 7, 2), (91, .iaload, 1), (92, .iastore, 1), (93, .aload_n 0, 1), (94, .iload_n 1, 1), (95, .iconst 1, 1), (96, .iadd, 1), (97, .iload_n 2, 1), (98, .iconst 1, 1), (99, .iload 7, 2), (101, .ishl, 1), (102, .ior, 1), (103, .lload_n 3, 1), (104, .lload 5, 2), (106, .invokevirtual 293, 3), (109, .iinc 7 1, 3), (112, .goto (-54), 3), (115, .return_, 1)]
theorem dbX12_tries_0 : ∀ z ∈ dlX12_tries_0, decode dsX12_tries_0 z.1 = Except.ok z.2 ∧ okop dsX12_tries_0 z.1 = true := by decide +kernel
theorem dX12_tries_0 : decode cX12_tries 0 = .ok (.iload_n 1, 1) := dgs daX12_tries_0 dbX12_tries_0 0 0 rfl
theorem dX12_tries_1 : decode cX12_tries 1 = .ok (.iconst 4, 1) := dgs daX12_tries_0 dbX12_tries_0 1 1 rfl
theorem dX12_tries_2 : decode cX12_tries 2 = .ok (.if_icmp .ne 53, 3) := dgs daX12_tries_0 dbX12_tries_0 2 2 rfl
theorem dX12_tries_5 : decode cX12_tries 5 = .ok (.aload_n 0, 1) := dgs daX12_tries_0 dbX12_tries_0 3 5 rfl
theorem dX12_tries_6 : decode cX12_tries 6 = .ok (.getfield 35, 3) := dgs daX12_tries_0 dbX12_tries_0 4 6 rfl
theorem dX12_tries_9 : decode cX12_tries 9 = .ok (.iconst 0, 1) := dgs daX12_tries_0 dbX12_tries_0 5 9 rfl
theorem dX12_tries_10 : decode cX12_tries 10 = .ok (.iaload, 1) := dgs daX12_tries_0 dbX12_tries_0 6 10 rfl
theorem dX12_tries_11 : decode cX12_tries 11 = .ok (.ifCond .le 14, 3) := dgs daX12_tries_0 dbX12_tries_0 7 11 rfl
theorem dX12_tries_14 : decode cX12_tries 14 = .ok (.aload_n 0, 1) := dgs daX12_tries_0 dbX12_tries_0 8 14 rfl
theorem dX12_tries_15 : decode cX12_tries 15 = .ok (.lload_n 3, 1) := dgs daX12_tries_0 dbX12_tries_0 9 15 rfl
theorem dX12_tries_16 : decode cX12_tries 16 = .ok (.lload 5, 2) := dgs daX12_tries_0 dbX12_tries_0 10 16 rfl
theorem dX12_tries_18 : decode cX12_tries 18 = .ok (.invokevirtual 289, 3) := dgs daX12_tries_0 dbX12_tries_0 11 18 rfl
theorem dX12_tries_21 : decode cX12_tries 21 = .ok (.ifCond .ne 4, 3) := dgs daX12_tries_0 dbX12_tries_0 12 21 rfl
theorem dX12_tries_24 : decode cX12_tries 24 = .ok (.return_, 1) := dgs daX12_tries_0 dbX12_tries_0 13 24 rfl
theorem dX12_tries_25 : decode cX12_tries 25 = .ok (.iconst 0, 1) := dgs daX12_tries_0 dbX12_tries_0 14 25 rfl
theorem dX12_tries_26 : decode cX12_tries 26 = .ok (.istore 7, 2) := dgs daX12_tries_0 dbX12_tries_0 15 26 rfl
theorem dX12_tries_28 : decode cX12_tries 28 = .ok (.iload 7, 2) := dgs daX12_tries_0 dbX12_tries_0 16 28 rfl
theorem dX12_tries_30 : decode cX12_tries 30 = .ok (.iconst 4, 1) := dgs daX12_tries_0 dbX12_tries_0 17 30 rfl
theorem dX12_tries_31 : decode cX12_tries 31 = .ok (.if_icmp .ge 23, 3) := dgs daX12_tries_0 dbX12_tries_0 18 31 rfl
theorem dX12_tries_34 : decode cX12_tries 34 = .ok (.aload_n 0, 1) := dgs daX12_tries_0 dbX12_tries_0 19 34 rfl
theorem dX12_tries_35 : decode cX12_tries 35 = .ok (.getfield 35, 3) := dgs daX12_tries_0 dbX12_tries_0 20 35 rfl
theorem dX12_tries_38 : decode cX12_tries 38 = .ok (.iload 7, 2) := dgs daX12_tries_0 dbX12_tries_0 21 38 rfl
theorem dX12_tries_40 : decode cX12_tries 40 = .ok (.aload_n 0, 1) := dgs daX12_tries_0 dbX12_tries_0 22 40 rfl
theorem dX12_tries_41 : decode cX12_tries 41 = .ok (.getfield 38, 3) := dgs daX12_tries_0 dbX12_tries_0 23 41 rfl
theorem dX12_tries_44 : decode cX12_tries 44 = .ok (.iload 7, 2) := dgs daX12_tries_0 dbX12_tries_0 24 44 rfl
theorem dX12_tries_46 : decode cX12_tries 46 = .ok (.iaload, 1) := dgs daX12_tries_0 dbX12_tries_0 25 46 rfl
theorem dX12_tries_47 : decode cX12_tries 47 = .ok (.iastore, 1) := dgs daX12_tries_0 dbX12_tries_0 26 47 rfl
theorem dX12_tries_48 : decode cX12_tries 48 = .ok (.iinc 7 1, 3) := dgs daX12_tries_0 dbX12_tries_0 27 48 rfl
theorem dX12_tries_51 : decode cX12_tries 51 = .ok (.goto (-23), 3) := dgs daX12_tries_0 dbX12_tries_0 28 51 rfl
theorem dX12_tries_54 : decode cX12_tries 54 = .ok (.return_, 1) := dgs daX12_tries_0 dbX12_tries_0 29 54 rfl
theorem dX12_tries_55 : decode cX12_tries 55 = .ok (.iconst 0, 1) := dgs daX12_tries_0 dbX12_tries_0 30 55 rfl
theorem dX12_tries_56 : decode cX12_tries 56 = .ok (.istore 7, 2) := dgs daX12_tries_0 dbX12_tries_0 31 56 rfl
theorem dX12_tries_58 : decode cX12_tries 58 = .ok (.iload 7, 2) := dgs daX12_tries_0 dbX12_tries_0 32 58 rfl
theorem dX12_tries_60 : decode cX12_tries 60 = .ok (.aload_n 0, 1) := dgs daX12_tries_0 dbX12_tries_0 33 60 rfl
theorem dX12_tries_61 : decode cX12_tries 61 = .ok (.getfield 282, 3) := dgs daX12_tries_0 dbX12_tries_0 34 61 rfl
theorem dX12_tries_64 : decode cX12_tries 64 = .ok (.if_icmp .ge 51, 3) := dgs daX12_tries_0 dbX12_tries_0 35 64 rfl
theorem dX12_tries_67 : decode cX12_tries 67 = .ok (.iload_n 2, 1) := dgs daX12_tries_0 dbX12_tries_0 36 67 rfl
theorem dX12_tries_68 : decode cX12_tries 68 = .ok (.iload 7, 2) := dgs daX12_tries_0 dbX12_tries_0 37 68 rfl
theorem dX12_tries_70 : decode cX12_tries 70 = .ok (.ishr, 1) := dgs daX12_tries_0 dbX12_tries_0 38 70 rfl
theorem dX12_tries_71 : decode cX12_tries 71 = .ok (.iconst 1, 1) := dgs daX12_tries_0 dbX12_tries_0 39 71 rfl
theorem dX12_tries_72 : decode cX12_tries 72 = .ok (.iand, 1) := dgs daX12_tries_0 dbX12_tries_0 40 72 rfl
theorem dX12_tries_73 : decode cX12_tries 73 = .ok (.iconst 1, 1) := dgs daX12_tries_0 dbX12_tries_0 41 73 rfl
theorem dX12_tries_74 : decode cX12_tries 74 = .ok (.if_icmp .ne 6, 3) := dgs daX12_tries_0 dbX12_tries_0 42 74 rfl
theorem dX12_tries_77 : decode cX12_tries 77 = .ok (.goto 32, 3) := dgs daX12_tries_0 dbX12_tries_0 43 77 rfl
theorem dX12_tries_80 : decode cX12_tries 80 = .ok (.aload_n 0, 1) := dgs daX12_tries_0 dbX12_tries_0 44 80 rfl
theorem dX12_tries_81 : decode cX12_tries 81 = .ok (.getfield 38, 3) := dgs daX12_tries_0 dbX12_tries_0 45 81 rfl
theorem dX12_tries_84 : decode cX12_tries 84 = .ok (.iload_n 1, 1) := dgs daX12_tries_0 dbX12_tries_0 46 84 rfl
theorem dX12_tries_85 : decode cX12_tries 85 = .ok (.aload_n 0, 1) := dgs daX12_tries_0 dbX12_tries_0 47 85 rfl
theorem dX12_tries_86 : decode cX12_tries 86 = .ok (.getfield 31, 3) := dgs daX12_tries_0 dbX12_tries_0 48 86 rfl
theorem dX12_tries_89 : decode cX12_tries 89 = .ok (.iload 7, 2) := dgs daX12_tries_0 dbX12_tries_0 49 89 rfl
theorem dX12_tries_91 : decode cX12_tries 91 = .ok (.iaload, 1) := dgs daX12_tries_0 dbX12_tries_0 50 91 rfl
theorem dX12_tries_92 : decode cX12_tries 92 = .ok (.iastore, 1) := dgs daX12_tries_0 dbX12_tries_0 51 92 rfl
theorem dX12_tries_93 : decode cX12_tries 93 = .ok (.aload_n 0, 1) := dgs daX12_tries_0 dbX12_tries_0 52 93 rfl
theorem dX12_tries_94 : decode cX12_tries 94 = .ok (.iload_n 1, 1) := dgs daX12_tries_0 dbX12_tries_0 53 94 rfl
theorem dX12_tries_95 : decode cX12_tries 95 = .ok (.iconst 1, 1) := dgs daX12_tries_0 dbX12_tries_0 54 95 rfl
theorem dX12_tries_96 : decode cX12_tries 96 = .ok (.iadd, 1) := dgs daX12_tries_0 dbX12_tries_0 55 96 rfl
theorem dX12_tries_97 : decode cX12_tries 97 = .ok (.iload_n 2, 1) := dgs daX12_tries_0 dbX12_tries_0 56 97 rfl
theorem dX12_tries_98 : decode cX12_tries 98 = .ok (.iconst 1, 1) := dgs daX12_tries_0 dbX12_tries_0 57 98 rfl
theorem dX12_tries_99 : decode cX12_tries 99 = .ok (.iload 7, 2) := dgs daX12_tries_0 dbX12_tries_0 58 99 rfl
theorem dX12_tries_101 : decode cX12_tries 101 = .ok (.ishl, 1) := dgs daX12_tries_0 dbX12_tries_0 59 101 rfl
theorem dX12_tries_102 : decode cX12_tries 102 = .ok (.ior, 1) := dgs daX12_tries_0 dbX12_tries_0 60 102 rfl
theorem dX12_tries_103 : decode cX12_tries 103 = .ok (.lload_n 3, 1) := dgs daX12_tries_0 dbX12_tries_0 61 103 rfl
theorem dX12_tries_104 : decode cX12_tries 104 = .ok (.lload 5, 2) := dgs daX12_tries_0 dbX12_tries_0 62 104 rfl
theorem dX12_tries_106 : decode cX12_tries 106 = .ok (.invokevirtual 293, 3) := dgs daX12_tries_0 dbX12_tries_0 63 106 rfl
theorem dX12_tries_109 : decode cX12_tries 109 = .ok (.iinc 7 1, 3) := dgs daX12_tries_0 dbX12_tries_0 64 109 rfl
theorem dX12_tries_112 : decode cX12_tries 112 = .ok (.goto (-54), 3) := dgs daX12_tries_0 dbX12_tries_0 65 112 rfl
theorem dX12_tries_115 : decode cX12_tries 115 = .ok (.return_, 1) := dgs daX12_tries_0 dbX12_tries_0 66 115 rfl
set_option maxRecDepth 20000 in
theorem ggX12_finds_X12_tries : GoodIn wsX12_finds wsX12_tries := goodIn_ca (goodIn_q _ [6, 1, 7, 8, 9, 10, 11, 12, 5, 13, 14, 15, 16, 17, 18, 19, 20, 2, 3, 4, 21, 22, 23, 24, 25, 26, 27, 28, 29, 30, 31, 32, 33, 34, 35, 36, 37, 38, 39, 40, 41, 42, 43, 44, 45, 46, 47, 48, 49, 50, 51, 52, 53, 54] rfl (by decide +kernel)) (goodIn_sub (fun _ h => List.mem_cons_of_mem _ (List.mem_append_right _ h)) (by decide +kernel))
set_option maxRecDepth 20000 in
theorem gX12_finds_X12_tries : GoodIn wsX12_finds (wsV RX12 293 RX12 yX12_tries wsX12_tries) := goodIn_app (goodIn_q _ [2, 3, 4, 5] rfl (by decide +kernel)) ggX12_finds_X12_tries
def dsX12_finds_0 : ByteArray := ⟨#[42, 180, 0, 35, 3, 3, 79, 42, 3, 3, 31, 33, 182, 1, 37, 177]⟩
theorem daX12_finds_0 : agB cX12_finds dsX12_finds_0 0 := agB_of (n := 16) (by decide +kernel)
def dlX12_finds_0 : List (Nat × Instr × Nat) := [(0, .aload_n 0, 1), (1, .getfield 35, 3), (4, .iconst 0, 1), (5, .iconst 0, 1), (6, .iastore, 1), (7, .aload_n 0, 1), (8, .iconst 0, 1), (9, .iconst 0, 1), (10, .lload_n 1, 1), (11, .lload_n 3, 1), (12, .invokevirtual 293, 3), (15, .return_, 1)]
theorem dbX12_finds_0 : ∀ z ∈ dlX12_finds_0, decode dsX12_finds_0 z.1 = Except.ok z.2 ∧ okop dsX12_finds_0 z.1 = true := by decide +kernel
theorem dX12_finds_0 : decode cX12_finds 0 = .ok (.aload_n 0, 1) := dgs daX12_finds_0 dbX12_finds_0 0 0 rfl
theorem dX12_finds_1 : decode cX12_finds 1 = .ok (.getfield 35, 3) := dgs daX12_finds_0 dbX12_finds_0 1 1 rfl
theorem dX12_finds_4 : decode cX12_finds 4 = .ok (.iconst 0, 1) := dgs daX12_finds_0 dbX12_finds_0 2 4 rfl
theorem dX12_finds_5 : decode cX12_finds 5 = .ok (.iconst 0, 1) := dgs daX12_finds_0 dbX12_finds_0 3 5 rfl
theorem dX12_finds_6 : decode cX12_finds 6 = .ok (.iastore, 1) := dgs daX12_finds_0 dbX12_finds_0 4 6 rfl
theorem dX12_finds_7 : decode cX12_finds 7 = .ok (.aload_n 0, 1) := dgs daX12_finds_0 dbX12_finds_0 5 7 rfl
theorem dX12_finds_8 : decode cX12_finds 8 = .ok (.iconst 0, 1) := dgs daX12_finds_0 dbX12_finds_0 6 8 rfl
theorem dX12_finds_9 : decode cX12_finds 9 = .ok (.iconst 0, 1) := dgs daX12_finds_0 dbX12_finds_0 7 9 rfl
theorem dX12_finds_10 : decode cX12_finds 10 = .ok (.lload_n 1, 1) := dgs daX12_finds_0 dbX12_finds_0 8 10 rfl
theorem dX12_finds_11 : decode cX12_finds 11 = .ok (.lload_n 3, 1) := dgs daX12_finds_0 dbX12_finds_0 9 11 rfl
theorem dX12_finds_12 : decode cX12_finds 12 = .ok (.invokevirtual 293, 3) := dgs daX12_finds_0 dbX12_finds_0 10 12 rfl
theorem dX12_finds_15 : decode cX12_finds 15 = .ok (.return_, 1) := dgs daX12_finds_0 dbX12_finds_0 11 15 rfl
set_option maxRecDepth 20000 in
theorem ggX12_isMet_X12_finds : GoodIn wsX12_isMet wsX12_finds := goodIn_ca (goodIn_q _ [7, 2, 8, 9, 10, 6, 11, 12, 13, 14, 15, 16, 17, 18, 19, 20, 21, 22, 23, 24, 25, 26, 27, 28, 29, 30, 31, 32, 33, 34, 35, 36, 37, 38, 39, 40, 41, 42, 43, 44, 45, 46, 47, 48, 49, 50, 51, 52, 53, 54, 55, 56, 57, 58, 59] rfl (by decide +kernel)) (goodIn_sub (fun _ h => List.mem_cons_of_mem _ (List.mem_append_right _ h)) (by decide +kernel))
set_option maxRecDepth 20000 in
theorem gX12_isMet_X12_finds : GoodIn wsX12_isMet (wsV RX12 297 RX12 yX12_finds wsX12_finds) := goodIn_app (goodIn_q _ [3, 4, 5, 6] rfl (by decide +kernel)) ggX12_isMet_X12_finds
set_option maxRecDepth 20000 in
theorem ggX12_isMet_X12_offOf : GoodIn wsX12_isMet wsX12_offOf := goodIn_ca (goodIn_q _ [21, 22, 23, 24, 25] rfl (by decide +kernel)) (goodIn_sub (fun _ h => List.mem_cons_of_mem _ (List.mem_append_right _ h)) (by decide +kernel))
set_option maxRecDepth 20000 in
theorem gX12_isMet_X12_offOf : GoodIn wsX12_isMet (va_wsS RX12 285 yX12_offOf wsX12_offOf) := goodIn_app (goodIn_q _ [19, 20, 6] rfl (by decide +kernel)) ggX12_isMet_X12_offOf
def dsX12_isMet_0 : ByteArray := ⟨#[42, 31, 33, 182, 1, 41, 20, 1, 45, 42, 180, 0, 35, 31, 33, 184, 1, 29, 105, 21, 5, 133, 31, 105, 42, 180, 0, 35, 4, 46]⟩
theorem daX12_isMet_0 : agB cX12_isMet dsX12_isMet_0 0 := agB_of (n := 30) (by decide +kernel)
def dlX12_isMet_0 : List (Nat × Instr × Nat) := [(0, .aload_n 0, 1), (1, .lload_n 1, 1), (2, .lload_n 3, 1), (3, .invokevirtual 297, 3), (6, .ldc2_w 301, 3), (9, .aload_n 0, 1), (10, .getfield 35, 3), (13, .lload_n 1, 1), (14, .lload_n 3, 1), (15, .invokestatic 285, 3), (18, .lmul, 1), (19, .iload 5, 2), (21, .i2l, 1), (22, .lload_n 1, 1), (23, .lmul, 1), (24, .aload_n 0, 1), (25, .getfield 35, 3), (28, .iconst 1, 1), (29, .iaload, 1)]
theorem dbX12_isMet_0 : ∀ z ∈ dlX12_isMet_0, decode dsX12_isMet_0 z.1 = Except.ok z.2 ∧ okop dsX12_isMet_0 z.1 = true := by decide +kernel
theorem dX12_isMet_0 : decode cX12_isMet 0 = .ok (.aload_n 0, 1) := dgs daX12_isMet_0 dbX12_isMet_0 0 0 rfl
theorem dX12_isMet_1 : decode cX12_isMet 1 = .ok (.lload_n 1, 1) := dgs daX12_isMet_0 dbX12_isMet_0 1 1 rfl
theorem dX12_isMet_2 : decode cX12_isMet 2 = .ok (.lload_n 3, 1) := dgs daX12_isMet_0 dbX12_isMet_0 2 2 rfl
theorem dX12_isMet_3 : decode cX12_isMet 3 = .ok (.invokevirtual 297, 3) := dgs daX12_isMet_0 dbX12_isMet_0 3 3 rfl
theorem dX12_isMet_6 : decode cX12_isMet 6 = .ok (.ldc2_w 301, 3) := dgs daX12_isMet_0 dbX12_isMet_0 4 6 rfl
theorem dX12_isMet_9 : decode cX12_isMet 9 = .ok (.aload_n 0, 1) := dgs daX12_isMet_0 dbX12_isMet_0 5 9 rfl
theorem dX12_isMet_10 : decode cX12_isMet 10 = .ok (.getfield 35, 3) := dgs daX12_isMet_0 dbX12_isMet_0 6 10 rfl
theorem dX12_isMet_13 : decode cX12_isMet 13 = .ok (.lload_n 1, 1) := dgs daX12_isMet_0 dbX12_isMet_0 7 13 rfl
theorem dX12_isMet_14 : decode cX12_isMet 14 = .ok (.lload_n 3, 1) := dgs daX12_isMet_0 dbX12_isMet_0 8 14 rfl
theorem dX12_isMet_15 : decode cX12_isMet 15 = .ok (.invokestatic 285, 3) := dgs daX12_isMet_0 dbX12_isMet_0 9 15 rfl
theorem dX12_isMet_18 : decode cX12_isMet 18 = .ok (.lmul, 1) := dgs daX12_isMet_0 dbX12_isMet_0 10 18 rfl
theorem dX12_isMet_19 : decode cX12_isMet 19 = .ok (.iload 5, 2) := dgs daX12_isMet_0 dbX12_isMet_0 11 19 rfl
theorem dX12_isMet_21 : decode cX12_isMet 21 = .ok (.i2l, 1) := dgs daX12_isMet_0 dbX12_isMet_0 12 21 rfl
theorem dX12_isMet_22 : decode cX12_isMet 22 = .ok (.lload_n 1, 1) := dgs daX12_isMet_0 dbX12_isMet_0 13 22 rfl
theorem dX12_isMet_23 : decode cX12_isMet 23 = .ok (.lmul, 1) := dgs daX12_isMet_0 dbX12_isMet_0 14 23 rfl
theorem dX12_isMet_24 : decode cX12_isMet 24 = .ok (.aload_n 0, 1) := dgs daX12_isMet_0 dbX12_isMet_0 15 24 rfl
theorem dX12_isMet_25 : decode cX12_isMet 25 = .ok (.getfield 35, 3) := dgs daX12_isMet_0 dbX12_isMet_0 16 25 rfl
theorem dX12_isMet_28 : decode cX12_isMet 28 = .ok (.iconst 1, 1) := dgs daX12_isMet_0 dbX12_isMet_0 17 28 rfl
theorem dX12_isMet_29 : decode cX12_isMet 29 = .ok (.iaload, 1) := dgs daX12_isMet_0 dbX12_isMet_0 18 29 rfl
