def dsX12_balance_61 : ByteArray := ⟨#[182, 0, 111, 78, 42, 28, 182, 0, 111, 58, 4, 16, 99, 54, 5, 3, 54, 6]⟩
theorem daX12_balance_61 : agB cX12_balance dsX12_balance_61 61 := agB_of (n := 18) (by decide +kernel)
theorem dbX12_balance_61 : (decode dsX12_balance_61 0 = .ok (.invokevirtual 111, 3) ∧ okop dsX12_balance_61 0 = true) ∧ (decode dsX12_balance_61 3 = .ok (.astore_n 3, 1) ∧ okop dsX12_balance_61 3 = true) ∧ (decode dsX12_balance_61 4 = .ok (.aload_n 0, 1) ∧ okop dsX12_balance_61 4 = true) ∧ (decode dsX12_balance_61 5 = .ok (.iload_n 2, 1) ∧ okop dsX12_balance_61 5 = true) ∧ (decode dsX12_balance_61 6 = .ok (.invokevirtual 111, 3) ∧ okop dsX12_balance_61 6 = true) ∧ (decode dsX12_balance_61 9 = .ok (.astore 4, 2) ∧ okop dsX12_balance_61 9 = true) ∧ (decode dsX12_balance_61 11 = .ok (.bipush 99, 2) ∧ okop dsX12_balance_61 11 = true) ∧ (decode dsX12_balance_61 13 = .ok (.istore 5, 2) ∧ okop dsX12_balance_61 13 = true) ∧ (decode dsX12_balance_61 15 = .ok (.iconst 0, 1) ∧ okop dsX12_balance_61 15 = true) ∧ (decode dsX12_balance_61 16 = .ok (.istore 6, 2) ∧ okop dsX12_balance_61 16 = true) := by decide +kernel
theorem dX12_balance_61 : decode cX12_balance 61 = .ok (.invokevirtual 111, 3) := dgq (p := 0) daX12_balance_61 dbX12_balance_61.1
theorem dX12_balance_64 : decode cX12_balance 64 = .ok (.astore_n 3, 1) := dgq (p := 3) daX12_balance_61 dbX12_balance_61.2.1
theorem dX12_balance_65 : decode cX12_balance 65 = .ok (.aload_n 0, 1) := dgq (p := 4) daX12_balance_61 dbX12_balance_61.2.2.1
theorem dX12_balance_66 : decode cX12_balance 66 = .ok (.iload_n 2, 1) := dgq (p := 5) daX12_balance_61 dbX12_balance_61.2.2.2.1
theorem dX12_balance_67 : decode cX12_balance 67 = .ok (.invokevirtual 111, 3) := dgq (p := 6) daX12_balance_61 dbX12_balance_61.2.2.2.2.1
theorem dX12_balance_70 : decode cX12_balance 70 = .ok (.astore 4, 2) := dgq (p := 9) daX12_balance_61 dbX12_balance_61.2.2.2.2.2.1
theorem dX12_balance_72 : decode cX12_balance 72 = .ok (.bipush 99, 2) := dgq (p := 11) daX12_balance_61 dbX12_balance_61.2.2.2.2.2.2.1
theorem dX12_balance_74 : decode cX12_balance 74 = .ok (.istore 5, 2) := dgq (p := 13) daX12_balance_61 dbX12_balance_61.2.2.2.2.2.2.2.1
theorem dX12_balance_76 : decode cX12_balance 76 = .ok (.iconst 0, 1) := dgq (p := 15) daX12_balance_61 dbX12_balance_61.2.2.2.2.2.2.2.2.1
theorem dX12_balance_77 : decode cX12_balance 77 = .ok (.istore 6, 2) := dgq (p := 16) daX12_balance_61 dbX12_balance_61.2.2.2.2.2.2.2.2.2
def dsX12_balance_79 : ByteArray := ⟨#[21, 6, 16, 50, 163, 0, 91, 4, 54, 7, 21, 7, 2, 161, 0, 76, 21, 7, 21, 6]⟩
theorem daX12_balance_79 : agB cX12_balance dsX12_balance_79 79 := agB_of (n := 20) (by decide +kernel)
theorem dbX12_balance_79 : (decode dsX12_balance_79 0 = .ok (.iload 6, 2) ∧ okop dsX12_balance_79 0 = true) ∧ (decode dsX12_balance_79 2 = .ok (.bipush 50, 2) ∧ okop dsX12_balance_79 2 = true) ∧ (decode dsX12_balance_79 4 = .ok (.if_icmp .gt 91, 3) ∧ okop dsX12_balance_79 4 = true) ∧ (decode dsX12_balance_79 7 = .ok (.iconst 1, 1) ∧ okop dsX12_balance_79 7 = true) ∧ (decode dsX12_balance_79 8 = .ok (.istore 7, 2) ∧ okop dsX12_balance_79 8 = true) ∧ (decode dsX12_balance_79 10 = .ok (.iload 7, 2) ∧ okop dsX12_balance_79 10 = true) ∧ (decode dsX12_balance_79 12 = .ok (.iconst (-1), 1) ∧ okop dsX12_balance_79 12 = true) ∧ (decode dsX12_balance_79 13 = .ok (.if_icmp .lt 76, 3) ∧ okop dsX12_balance_79 13 = true) ∧ (decode dsX12_balance_79 16 = .ok (.iload 7, 2) ∧ okop dsX12_balance_79 16 = true) ∧ (decode dsX12_balance_79 18 = .ok (.iload 6, 2) ∧ okop dsX12_balance_79 18 = true) := by decide +kernel
theorem dX12_balance_79 : decode cX12_balance 79 = .ok (.iload 6, 2) := dgq (p := 0) daX12_balance_79 dbX12_balance_79.1
theorem dX12_balance_81 : decode cX12_balance 81 = .ok (.bipush 50, 2) := dgq (p := 2) daX12_balance_79 dbX12_balance_79.2.1
theorem dX12_balance_83 : decode cX12_balance 83 = .ok (.if_icmp .gt 91, 3) := dgq (p := 4) daX12_balance_79 dbX12_balance_79.2.2.1
theorem dX12_balance_86 : decode cX12_balance 86 = .ok (.iconst 1, 1) := dgq (p := 7) daX12_balance_79 dbX12_balance_79.2.2.2.1
theorem dX12_balance_87 : decode cX12_balance 87 = .ok (.istore 7, 2) := dgq (p := 8) daX12_balance_79 dbX12_balance_79.2.2.2.2.1
theorem dX12_balance_89 : decode cX12_balance 89 = .ok (.iload 7, 2) := dgq (p := 10) daX12_balance_79 dbX12_balance_79.2.2.2.2.2.1
theorem dX12_balance_91 : decode cX12_balance 91 = .ok (.iconst (-1), 1) := dgq (p := 12) daX12_balance_79 dbX12_balance_79.2.2.2.2.2.2.1
theorem dX12_balance_92 : decode cX12_balance 92 = .ok (.if_icmp .lt 76, 3) := dgq (p := 13) daX12_balance_79 dbX12_balance_79.2.2.2.2.2.2.2.1
theorem dX12_balance_95 : decode cX12_balance 95 = .ok (.iload 7, 2) := dgq (p := 16) daX12_balance_79 dbX12_balance_79.2.2.2.2.2.2.2.2.1
theorem dX12_balance_97 : decode cX12_balance 97 = .ok (.iload 6, 2) := dgq (p := 18) daX12_balance_79 dbX12_balance_79.2.2.2.2.2.2.2.2.2
def dsX12_balance_99 : ByteArray := ⟨#[104, 54, 8, 45, 21, 8, 182, 0, 231, 153, 0, 54, 25, 4, 21, 8, 116, 182, 0, 231]⟩
theorem daX12_balance_99 : agB cX12_balance dsX12_balance_99 99 := agB_of (n := 20) (by decide +kernel)
theorem dbX12_balance_99 : (decode dsX12_balance_99 0 = .ok (.imul, 1) ∧ okop dsX12_balance_99 0 = true) ∧ (decode dsX12_balance_99 1 = .ok (.istore 8, 2) ∧ okop dsX12_balance_99 1 = true) ∧ (decode dsX12_balance_99 3 = .ok (.aload_n 3, 1) ∧ okop dsX12_balance_99 3 = true) ∧ (decode dsX12_balance_99 4 = .ok (.iload 8, 2) ∧ okop dsX12_balance_99 4 = true) ∧ (decode dsX12_balance_99 6 = .ok (.invokevirtual 231, 3) ∧ okop dsX12_balance_99 6 = true) ∧ (decode dsX12_balance_99 9 = .ok (.ifCond .eq 54, 3) ∧ okop dsX12_balance_99 9 = true) ∧ (decode dsX12_balance_99 12 = .ok (.aload 4, 2) ∧ okop dsX12_balance_99 12 = true) ∧ (decode dsX12_balance_99 14 = .ok (.iload 8, 2) ∧ okop dsX12_balance_99 14 = true) ∧ (decode dsX12_balance_99 16 = .ok (.ineg, 1) ∧ okop dsX12_balance_99 16 = true) ∧ (decode dsX12_balance_99 17 = .ok (.invokevirtual 231, 3) ∧ okop dsX12_balance_99 17 = true) := by decide +kernel
theorem dX12_balance_99 : decode cX12_balance 99 = .ok (.imul, 1) := dgq (p := 0) daX12_balance_99 dbX12_balance_99.1
theorem dX12_balance_100 : decode cX12_balance 100 = .ok (.istore 8, 2) := dgq (p := 1) daX12_balance_99 dbX12_balance_99.2.1
theorem dX12_balance_102 : decode cX12_balance 102 = .ok (.aload_n 3, 1) := dgq (p := 3) daX12_balance_99 dbX12_balance_99.2.2.1
theorem dX12_balance_103 : decode cX12_balance 103 = .ok (.iload 8, 2) := dgq (p := 4) daX12_balance_99 dbX12_balance_99.2.2.2.1
theorem dX12_balance_105 : decode cX12_balance 105 = .ok (.invokevirtual 231, 3) := dgq (p := 6) daX12_balance_99 dbX12_balance_99.2.2.2.2.1
theorem dX12_balance_108 : decode cX12_balance 108 = .ok (.ifCond .eq 54, 3) := dgq (p := 9) daX12_balance_99 dbX12_balance_99.2.2.2.2.2.1
theorem dX12_balance_111 : decode cX12_balance 111 = .ok (.aload 4, 2) := dgq (p := 12) daX12_balance_99 dbX12_balance_99.2.2.2.2.2.2.1
theorem dX12_balance_113 : decode cX12_balance 113 = .ok (.iload 8, 2) := dgq (p := 14) daX12_balance_99 dbX12_balance_99.2.2.2.2.2.2.2.1
theorem dX12_balance_115 : decode cX12_balance 115 = .ok (.ineg, 1) := dgq (p := 16) daX12_balance_99 dbX12_balance_99.2.2.2.2.2.2.2.2.1
theorem dX12_balance_116 : decode cX12_balance 116 = .ok (.invokevirtual 231, 3) := dgq (p := 17) daX12_balance_99 dbX12_balance_99.2.2.2.2.2.2.2.2.2
def dsX12_balance_119 : ByteArray := ⟨#[154, 0, 6, 167, 0, 40, 21, 5, 16, 99, 159, 0, 29, 45, 25, 4, 21, 8, 21, 8, 116]⟩
theorem daX12_balance_119 : agB cX12_balance dsX12_balance_119 119 := agB_of (n := 21) (by decide +kernel)
theorem dbX12_balance_119 : (decode dsX12_balance_119 0 = .ok (.ifCond .ne 6, 3) ∧ okop dsX12_balance_119 0 = true) ∧ (decode dsX12_balance_119 3 = .ok (.goto 40, 3) ∧ okop dsX12_balance_119 3 = true) ∧ (decode dsX12_balance_119 6 = .ok (.iload 5, 2) ∧ okop dsX12_balance_119 6 = true) ∧ (decode dsX12_balance_119 8 = .ok (.bipush 99, 2) ∧ okop dsX12_balance_119 8 = true) ∧ (decode dsX12_balance_119 10 = .ok (.if_icmp .eq 29, 3) ∧ okop dsX12_balance_119 10 = true) ∧ (decode dsX12_balance_119 13 = .ok (.aload_n 3, 1) ∧ okop dsX12_balance_119 13 = true) ∧ (decode dsX12_balance_119 14 = .ok (.aload 4, 2) ∧ okop dsX12_balance_119 14 = true) ∧ (decode dsX12_balance_119 16 = .ok (.iload 8, 2) ∧ okop dsX12_balance_119 16 = true) ∧ (decode dsX12_balance_119 18 = .ok (.iload 8, 2) ∧ okop dsX12_balance_119 18 = true) ∧ (decode dsX12_balance_119 20 = .ok (.ineg, 1) ∧ okop dsX12_balance_119 20 = true) := by decide +kernel
theorem dX12_balance_119 : decode cX12_balance 119 = .ok (.ifCond .ne 6, 3) := dgq (p := 0) daX12_balance_119 dbX12_balance_119.1
theorem dX12_balance_122 : decode cX12_balance 122 = .ok (.goto 40, 3) := dgq (p := 3) daX12_balance_119 dbX12_balance_119.2.1
theorem dX12_balance_125 : decode cX12_balance 125 = .ok (.iload 5, 2) := dgq (p := 6) daX12_balance_119 dbX12_balance_119.2.2.1
theorem dX12_balance_127 : decode cX12_balance 127 = .ok (.bipush 99, 2) := dgq (p := 8) daX12_balance_119 dbX12_balance_119.2.2.2.1
theorem dX12_balance_129 : decode cX12_balance 129 = .ok (.if_icmp .eq 29, 3) := dgq (p := 10) daX12_balance_119 dbX12_balance_119.2.2.2.2.1
theorem dX12_balance_132 : decode cX12_balance 132 = .ok (.aload_n 3, 1) := dgq (p := 13) daX12_balance_119 dbX12_balance_119.2.2.2.2.2.1
theorem dX12_balance_133 : decode cX12_balance 133 = .ok (.aload 4, 2) := dgq (p := 14) daX12_balance_119 dbX12_balance_119.2.2.2.2.2.2.1
theorem dX12_balance_135 : decode cX12_balance 135 = .ok (.iload 8, 2) := dgq (p := 16) daX12_balance_119 dbX12_balance_119.2.2.2.2.2.2.2.1
theorem dX12_balance_137 : decode cX12_balance 137 = .ok (.iload 8, 2) := dgq (p := 18) daX12_balance_119 dbX12_balance_119.2.2.2.2.2.2.2.2.1
theorem dX12_balance_139 : decode cX12_balance 139 = .ok (.ineg, 1) := dgq (p := 20) daX12_balance_119 dbX12_balance_119.2.2.2.2.2.2.2.2.2
def dsX12_balance_140 : ByteArray := ⟨#[184, 0, 241, 45, 25, 4, 21, 5, 21, 5, 116, 184, 0, 241, 148, 156, 0, 7, 21, 8]⟩
theorem daX12_balance_140 : agB cX12_balance dsX12_balance_140 140 := agB_of (n := 20) (by decide +kernel)
theorem dbX12_balance_140 : (decode dsX12_balance_140 0 = .ok (.invokestatic 241, 3) ∧ okop dsX12_balance_140 0 = true) ∧ (decode dsX12_balance_140 3 = .ok (.aload_n 3, 1) ∧ okop dsX12_balance_140 3 = true) ∧ (decode dsX12_balance_140 4 = .ok (.aload 4, 2) ∧ okop dsX12_balance_140 4 = true) ∧ (decode dsX12_balance_140 6 = .ok (.iload 5, 2) ∧ okop dsX12_balance_140 6 = true) ∧ (decode dsX12_balance_140 8 = .ok (.iload 5, 2) ∧ okop dsX12_balance_140 8 = true) ∧ (decode dsX12_balance_140 10 = .ok (.ineg, 1) ∧ okop dsX12_balance_140 10 = true) ∧ (decode dsX12_balance_140 11 = .ok (.invokestatic 241, 3) ∧ okop dsX12_balance_140 11 = true) ∧ (decode dsX12_balance_140 14 = .ok (.lcmp, 1) ∧ okop dsX12_balance_140 14 = true) ∧ (decode dsX12_balance_140 15 = .ok (.ifCond .ge 7, 3) ∧ okop dsX12_balance_140 15 = true) ∧ (decode dsX12_balance_140 18 = .ok (.iload 8, 2) ∧ okop dsX12_balance_140 18 = true) := by decide +kernel
theorem dX12_balance_140 : decode cX12_balance 140 = .ok (.invokestatic 241, 3) := dgq (p := 0) daX12_balance_140 dbX12_balance_140.1
theorem dX12_balance_143 : decode cX12_balance 143 = .ok (.aload_n 3, 1) := dgq (p := 3) daX12_balance_140 dbX12_balance_140.2.1
theorem dX12_balance_144 : decode cX12_balance 144 = .ok (.aload 4, 2) := dgq (p := 4) daX12_balance_140 dbX12_balance_140.2.2.1
theorem dX12_balance_146 : decode cX12_balance 146 = .ok (.iload 5, 2) := dgq (p := 6) daX12_balance_140 dbX12_balance_140.2.2.2.1
theorem dX12_balance_148 : decode cX12_balance 148 = .ok (.iload 5, 2) := dgq (p := 8) daX12_balance_140 dbX12_balance_140.2.2.2.2.1
theorem dX12_balance_150 : decode cX12_balance 150 = .ok (.ineg, 1) := dgq (p := 10) daX12_balance_140 dbX12_balance_140.2.2.2.2.2.1
theorem dX12_balance_151 : decode cX12_balance 151 = .ok (.invokestatic 241, 3) := dgq (p := 11) daX12_balance_140 dbX12_balance_140.2.2.2.2.2.2.1
theorem dX12_balance_154 : decode cX12_balance 154 = .ok (.lcmp, 1) := dgq (p := 14) daX12_balance_140 dbX12_balance_140.2.2.2.2.2.2.2.1
theorem dX12_balance_155 : decode cX12_balance 155 = .ok (.ifCond .ge 7, 3) := dgq (p := 15) daX12_balance_140 dbX12_balance_140.2.2.2.2.2.2.2.2.1
theorem dX12_balance_158 : decode cX12_balance 158 = .ok (.iload 8, 2) := dgq (p := 18) daX12_balance_140 dbX12_balance_140.2.2.2.2.2.2.2.2.2
def dsX12_balance_160 : ByteArray := ⟨#[54, 5, 132, 7, 254, 167, 255, 180, 132, 6, 1, 167, 255, 164, 21, 5, 16, 99, 160, 0, 9, 42, 6]⟩
theorem daX12_balance_160 : agB cX12_balance dsX12_balance_160 160 := agB_of (n := 23) (by decide +kernel)
theorem dbX12_balance_160 : (decode dsX12_balance_160 0 = .ok (.istore 5, 2) ∧ okop dsX12_balance_160 0 = true) ∧ (decode dsX12_balance_160 2 = .ok (.iinc 7 (-2), 3) ∧ okop dsX12_balance_160 2 = true) ∧ (decode dsX12_balance_160 5 = .ok (.goto (-76), 3) ∧ okop dsX12_balance_160 5 = true) ∧ (decode dsX12_balance_160 8 = .ok (.iinc 6 1, 3) ∧ okop dsX12_balance_160 8 = true) ∧ (decode dsX12_balance_160 11 = .ok (.goto (-92), 3) ∧ okop dsX12_balance_160 11 = true) ∧ (decode dsX12_balance_160 14 = .ok (.iload 5, 2) ∧ okop dsX12_balance_160 14 = true) ∧ (decode dsX12_balance_160 16 = .ok (.bipush 99, 2) ∧ okop dsX12_balance_160 16 = true) ∧ (decode dsX12_balance_160 18 = .ok (.if_icmp .ne 9, 3) ∧ okop dsX12_balance_160 18 = true) ∧ (decode dsX12_balance_160 21 = .ok (.aload_n 0, 1) ∧ okop dsX12_balance_160 21 = true) ∧ (decode dsX12_balance_160 22 = .ok (.iconst 3, 1) ∧ okop dsX12_balance_160 22 = true) := by decide +kernel
theorem dX12_balance_160 : decode cX12_balance 160 = .ok (.istore 5, 2) := dgq (p := 0) daX12_balance_160 dbX12_balance_160.1
theorem dX12_balance_162 : decode cX12_balance 162 = .ok (.iinc 7 (-2), 3) := dgq (p := 2) daX12_balance_160 dbX12_balance_160.2.1
theorem dX12_balance_165 : decode cX12_balance 165 = .ok (.goto (-76), 3) := dgq (p := 5) daX12_balance_160 dbX12_balance_160.2.2.1
theorem dX12_balance_168 : decode cX12_balance 168 = .ok (.iinc 6 1, 3) := dgq (p := 8) daX12_balance_160 dbX12_balance_160.2.2.2.1
theorem dX12_balance_171 : decode cX12_balance 171 = .ok (.goto (-92), 3) := dgq (p := 11) daX12_balance_160 dbX12_balance_160.2.2.2.2.1
theorem dX12_balance_174 : decode cX12_balance 174 = .ok (.iload 5, 2) := dgq (p := 14) daX12_balance_160 dbX12_balance_160.2.2.2.2.2.1
theorem dX12_balance_176 : decode cX12_balance 176 = .ok (.bipush 99, 2) := dgq (p := 16) daX12_balance_160 dbX12_balance_160.2.2.2.2.2.2.1
theorem dX12_balance_178 : decode cX12_balance 178 = .ok (.if_icmp .ne 9, 3) := dgq (p := 18) daX12_balance_160 dbX12_balance_160.2.2.2.2.2.2.2.1
theorem dX12_balance_181 : decode cX12_balance 181 = .ok (.aload_n 0, 1) := dgq (p := 21) daX12_balance_160 dbX12_balance_160.2.2.2.2.2.2.2.2.1
theorem dX12_balance_182 : decode cX12_balance 182 = .ok (.iconst 3, 1) := dgq (p := 22) daX12_balance_160 dbX12_balance_160.2.2.2.2.2.2.2.2.2
def dsX12_balance_183 : ByteArray := ⟨#[182, 0, 143, 172, 45, 21, 5, 181, 0, 164, 25, 4, 21, 5, 116, 181, 0, 164, 42]⟩
theorem daX12_balance_183 : agB cX12_balance dsX12_balance_183 183 := agB_of (n := 19) (by decide +kernel)
theorem dbX12_balance_183 : (decode dsX12_balance_183 0 = .ok (.invokevirtual 143, 3) ∧ okop dsX12_balance_183 0 = true) ∧ (decode dsX12_balance_183 3 = .ok (.ireturn, 1) ∧ okop dsX12_balance_183 3 = true) ∧ (decode dsX12_balance_183 4 = .ok (.aload_n 3, 1) ∧ okop dsX12_balance_183 4 = true) ∧ (decode dsX12_balance_183 5 = .ok (.iload 5, 2) ∧ okop dsX12_balance_183 5 = true) ∧ (decode dsX12_balance_183 7 = .ok (.putfield 164, 3) ∧ okop dsX12_balance_183 7 = true) ∧ (decode dsX12_balance_183 10 = .ok (.aload 4, 2) ∧ okop dsX12_balance_183 10 = true) ∧ (decode dsX12_balance_183 12 = .ok (.iload 5, 2) ∧ okop dsX12_balance_183 12 = true) ∧ (decode dsX12_balance_183 14 = .ok (.ineg, 1) ∧ okop dsX12_balance_183 14 = true) ∧ (decode dsX12_balance_183 15 = .ok (.putfield 164, 3) ∧ okop dsX12_balance_183 15 = true) ∧ (decode dsX12_balance_183 18 = .ok (.aload_n 0, 1) ∧ okop dsX12_balance_183 18 = true) := by decide +kernel
theorem dX12_balance_183 : decode cX12_balance 183 = .ok (.invokevirtual 143, 3) := dgq (p := 0) daX12_balance_183 dbX12_balance_183.1
theorem dX12_balance_186 : decode cX12_balance 186 = .ok (.ireturn, 1) := dgq (p := 3) daX12_balance_183 dbX12_balance_183.2.1
theorem dX12_balance_187 : decode cX12_balance 187 = .ok (.aload_n 3, 1) := dgq (p := 4) daX12_balance_183 dbX12_balance_183.2.2.1
theorem dX12_balance_188 : decode cX12_balance 188 = .ok (.iload 5, 2) := dgq (p := 5) daX12_balance_183 dbX12_balance_183.2.2.2.1
theorem dX12_balance_190 : decode cX12_balance 190 = .ok (.putfield 164, 3) := dgq (p := 7) daX12_balance_183 dbX12_balance_183.2.2.2.2.1
theorem dX12_balance_193 : decode cX12_balance 193 = .ok (.aload 4, 2) := dgq (p := 10) daX12_balance_183 dbX12_balance_183.2.2.2.2.2.1
theorem dX12_balance_195 : decode cX12_balance 195 = .ok (.iload 5, 2) := dgq (p := 12) daX12_balance_183 dbX12_balance_183.2.2.2.2.2.2.1
theorem dX12_balance_197 : decode cX12_balance 197 = .ok (.ineg, 1) := dgq (p := 14) daX12_balance_183 dbX12_balance_183.2.2.2.2.2.2.2.1
theorem dX12_balance_198 : decode cX12_balance 198 = .ok (.putfield 164, 3) := dgq (p := 15) daX12_balance_183 dbX12_balance_183.2.2.2.2.2.2.2.2.1
theorem dX12_balance_201 : decode cX12_balance 201 = .ok (.aload_n 0, 1) := dgq (p := 18) daX12_balance_183 dbX12_balance_183.2.2.2.2.2.2.2.2.2
def dsX12_balance_202 : ByteArray := ⟨#[21, 5, 182, 0, 153, 172]⟩
theorem daX12_balance_202 : agB cX12_balance dsX12_balance_202 202 := agB_of (n := 6) (by decide +kernel)
theorem dbX12_balance_202 : (decode dsX12_balance_202 0 = .ok (.iload 5, 2) ∧ okop dsX12_balance_202 0 = true) ∧ (decode dsX12_balance_202 2 = .ok (.invokevirtual 153, 3) ∧ okop dsX12_balance_202 2 = true) ∧ (decode dsX12_balance_202 5 = .ok (.ireturn, 1) ∧ okop dsX12_balance_202 5 = true) := by decide +kernel
theorem dX12_balance_202 : decode cX12_balance 202 = .ok (.iload 5, 2) := dgq (p := 0) daX12_balance_202 dbX12_balance_202.1
theorem dX12_balance_204 : decode cX12_balance 204 = .ok (.invokevirtual 153, 3) := dgq (p := 2) daX12_balance_202 dbX12_balance_202.2.1
theorem dX12_balance_207 : decode cX12_balance 207 = .ok (.ireturn, 1) := dgq (p := 5) daX12_balance_202 dbX12_balance_202.2.2
set_option maxRecDepth 20000 in
theorem ggX12_section_X12_isGear : GoodIn wsX12_section wsX12_isGear := goodIn_ca (goodIn_ca (goodIn_q _ [8, 9, 10, 11, 12, 13, 14, 15, 16, 17, 7, 18] rfl (by decide +kernel)) (goodIn_sub (fun _ h => (List.mem_cons_of_mem _ (List.mem_append_left _ (List.mem_append_left _ (List.mem_append_right _ h))))) tg_wsX120)) (goodIn_sub (fun _ h => (List.mem_cons_of_mem _ (List.mem_append_left _ (List.mem_append_right _ h)))) tg_wsJx4a65c0)
set_option maxRecDepth 20000 in
theorem gX12_section_X12_isGear : GoodIn wsX12_section (wsV RX12 121 RX12 yX12_isGear wsX12_isGear) := goodIn_app (goodIn_q _ [4, 5, 6, 7] rfl (by decide +kernel)) ggX12_section_X12_isGear
set_option maxRecDepth 20000 in
theorem ggX12_section_X12_fails : GoodIn wsX12_section wsX12_fails := goodIn_ca (goodIn_q _ [22, 23] rfl (by decide +kernel)) (goodIn_sub (fun _ h => (List.mem_cons_of_mem _ (List.mem_append_left _ (List.mem_append_left _ (List.mem_append_right _ h))))) tg_wsX120)
set_option maxRecDepth 20000 in
theorem gX12_section_X12_fails : GoodIn wsX12_section (wsV RX12 143 RX12 yX12_fails wsX12_fails) := goodIn_app (goodIn_q _ [19, 20, 21, 7] rfl (by decide +kernel)) ggX12_section_X12_fails
set_option maxRecDepth 20000 in
theorem ggX12_section_X12_in : GoodIn wsX12_section wsX12_in := goodIn_q _ [18] rfl (by decide +kernel)
set_option maxRecDepth 20000 in
theorem gX12_section_X12_in : GoodIn wsX12_section (va_wsS RX12 101 yX12_in wsX12_in) := goodIn_app (goodIn_q _ [16, 17, 7] rfl (by decide +kernel)) ggX12_section_X12_in
set_option maxRecDepth 20000 in
theorem ggX12_section_X12_gearAt : GoodIn wsX12_section wsX12_gearAt := goodIn_ca (goodIn_ca (goodIn_q _ [27, 9, 28, 29, 30, 31, 13, 32, 15, 33, 34, 35, 36, 37, 38, 39, 40, 41, 42, 43, 44, 45] rfl (by decide +kernel)) (goodIn_sub (fun _ h => (List.mem_cons_of_mem _ (List.mem_append_left _ (List.mem_append_left _ (List.mem_append_right _ h))))) tg_wsX120)) (goodIn_sub (fun _ h => (List.mem_cons_of_mem _ (List.mem_append_left _ (List.mem_append_right _ h)))) tg_wsJx4a65c0)
set_option maxRecDepth 20000 in
theorem gX12_section_X12_gearAt : GoodIn wsX12_section (wsV RX12 111 RX12 yX12_gearAt wsX12_gearAt) := goodIn_app (goodIn_q _ [24, 25, 26, 7] rfl (by decide +kernel)) ggX12_section_X12_gearAt
set_option maxRecDepth 20000 in
theorem ggX12_section_X10_across : GoodIn wsX12_section wsX10_across := goodIn_ca (goodIn_q _ [50, 51, 52] rfl (by decide +kernel)) (goodIn_sub (fun _ h => (List.mem_cons_of_mem _ (List.mem_append_left _ (List.mem_append_left _ (List.mem_append_left _ (List.mem_append_right _ h)))))) tg_wsX100)
set_option maxRecDepth 20000 in
theorem gX12_section_X10_across : GoodIn wsX12_section (wsV RX12 167 RX10 yX10_across wsX10_across) := goodIn_app (goodIn_q _ [46, 47, 48, 49] rfl (by decide +kernel)) ggX12_section_X10_across
set_option maxRecDepth 20000 in
theorem ggX12_section_X12_root : GoodIn wsX12_section wsX12_root := goodIn_q _ [55, 56, 2] rfl (by decide +kernel)
set_option maxRecDepth 20000 in
theorem gX12_section_X12_root : GoodIn wsX12_section (va_wsS RX12 195 yX12_root wsX12_root) := goodIn_app (goodIn_q _ [53, 54, 7] rfl (by decide +kernel)) ggX12_section_X12_root
set_option maxRecDepth 20000 in
theorem ggX12_section_X12_answer : GoodIn wsX12_section wsX12_answer := goodIn_ca (goodIn_q _ [60, 23] rfl (by decide +kernel)) (goodIn_sub (fun _ h => (List.mem_cons_of_mem _ (List.mem_append_left _ (List.mem_append_left _ (List.mem_append_right _ h))))) tg_wsX120)
set_option maxRecDepth 20000 in
theorem gX12_section_X12_answer : GoodIn wsX12_section (wsV RX12 153 RX12 yX12_answer wsX12_answer) := goodIn_app (goodIn_q _ [57, 58, 59, 7] rfl (by decide +kernel)) ggX12_section_X12_answer
def dsX12_section_0 : ByteArray := ⟨#[42, 27, 182, 0, 121, 153, 0, 11, 42, 28, 182, 0, 121, 154, 0, 9, 42, 4]⟩
theorem daX12_section_0 : agB cX12_section dsX12_section_0 0 := agB_of (n := 18) (by decide +kernel)
theorem dbX12_section_0 : (decode dsX12_section_0 0 = .ok (.aload_n 0, 1) ∧ okop dsX12_section_0 0 = true) ∧ (decode dsX12_section_0 1 = .ok (.iload_n 1, 1) ∧ okop dsX12_section_0 1 = true) ∧ (decode dsX12_section_0 2 = .ok (.invokevirtual 121, 3) ∧ okop dsX12_section_0 2 = true) ∧ (decode dsX12_section_0 5 = .ok (.ifCond .eq 11, 3) ∧ okop dsX12_section_0 5 = true) ∧ (decode dsX12_section_0 8 = .ok (.aload_n 0, 1) ∧ okop dsX12_section_0 8 = true) ∧ (decode dsX12_section_0 9 = .ok (.iload_n 2, 1) ∧ okop dsX12_section_0 9 = true) ∧ (decode dsX12_section_0 10 = .ok (.invokevirtual 121, 3) ∧ okop dsX12_section_0 10 = true) ∧ (decode dsX12_section_0 13 = .ok (.ifCond .ne 9, 3) ∧ okop dsX12_section_0 13 = true) ∧ (decode dsX12_section_0 16 = .ok (.aload_n 0, 1) ∧ okop dsX12_section_0 16 = true) ∧ (decode dsX12_section_0 17 = .ok (.iconst 1, 1) ∧ okop dsX12_section_0 17 = true) := by decide +kernel
theorem dX12_section_0 : decode cX12_section 0 = .ok (.aload_n 0, 1) := dgq (p := 0) daX12_section_0 dbX12_section_0.1
theorem dX12_section_1 : decode cX12_section 1 = .ok (.iload_n 1, 1) := dgq (p := 1) daX12_section_0 dbX12_section_0.2.1
theorem dX12_section_2 : decode cX12_section 2 = .ok (.invokevirtual 121, 3) := dgq (p := 2) daX12_section_0 dbX12_section_0.2.2.1
theorem dX12_section_5 : decode cX12_section 5 = .ok (.ifCond .eq 11, 3) := dgq (p := 5) daX12_section_0 dbX12_section_0.2.2.2.1
theorem dX12_section_8 : decode cX12_section 8 = .ok (.aload_n 0, 1) := dgq (p := 8) daX12_section_0 dbX12_section_0.2.2.2.2.1
theorem dX12_section_9 : decode cX12_section 9 = .ok (.iload_n 2, 1) := dgq (p := 9) daX12_section_0 dbX12_section_0.2.2.2.2.2.1
theorem dX12_section_10 : decode cX12_section 10 = .ok (.invokevirtual 121, 3) := dgq (p := 10) daX12_section_0 dbX12_section_0.2.2.2.2.2.2.1
theorem dX12_section_13 : decode cX12_section 13 = .ok (.ifCond .ne 9, 3) := dgq (p := 13) daX12_section_0 dbX12_section_0.2.2.2.2.2.2.2.1
theorem dX12_section_16 : decode cX12_section 16 = .ok (.aload_n 0, 1) := dgq (p := 16) daX12_section_0 dbX12_section_0.2.2.2.2.2.2.2.2.1
theorem dX12_section_17 : decode cX12_section 17 = .ok (.iconst 1, 1) := dgq (p := 17) daX12_section_0 dbX12_section_0.2.2.2.2.2.2.2.2.2
def dsX12_section_18 : ByteArray := ⟨#[182, 0, 143, 172, 21, 4, 133, 10, 20, 0, 245, 184, 0, 101, 153, 0, 17, 29, 133]⟩
theorem daX12_section_18 : agB cX12_section dsX12_section_18 18 := agB_of (n := 19) (by decide +kernel)
theorem dbX12_section_18 : (decode dsX12_section_18 0 = .ok (.invokevirtual 143, 3) ∧ okop dsX12_section_18 0 = true) ∧ (decode dsX12_section_18 3 = .ok (.ireturn, 1) ∧ okop dsX12_section_18 3 = true) ∧ (decode dsX12_section_18 4 = .ok (.iload 4, 2) ∧ okop dsX12_section_18 4 = true) ∧ (decode dsX12_section_18 6 = .ok (.i2l, 1) ∧ okop dsX12_section_18 6 = true) ∧ (decode dsX12_section_18 7 = .ok (.lconst 1, 1) ∧ okop dsX12_section_18 7 = true) ∧ (decode dsX12_section_18 8 = .ok (.ldc2_w 245, 3) ∧ okop dsX12_section_18 8 = true) ∧ (decode dsX12_section_18 11 = .ok (.invokestatic 101, 3) ∧ okop dsX12_section_18 11 = true) ∧ (decode dsX12_section_18 14 = .ok (.ifCond .eq 17, 3) ∧ okop dsX12_section_18 14 = true) ∧ (decode dsX12_section_18 17 = .ok (.iload_n 3, 1) ∧ okop dsX12_section_18 17 = true) ∧ (decode dsX12_section_18 18 = .ok (.i2l, 1) ∧ okop dsX12_section_18 18 = true) := by decide +kernel
theorem dX12_section_18 : decode cX12_section 18 = .ok (.invokevirtual 143, 3) := dgq (p := 0) daX12_section_18 dbX12_section_18.1
theorem dX12_section_21 : decode cX12_section 21 = .ok (.ireturn, 1) := dgq (p := 3) daX12_section_18 dbX12_section_18.2.1
theorem dX12_section_22 : decode cX12_section 22 = .ok (.iload 4, 2) := dgq (p := 4) daX12_section_18 dbX12_section_18.2.2.1
theorem dX12_section_24 : decode cX12_section 24 = .ok (.i2l, 1) := dgq (p := 6) daX12_section_18 dbX12_section_18.2.2.2.1
theorem dX12_section_25 : decode cX12_section 25 = .ok (.lconst 1, 1) := dgq (p := 7) daX12_section_18 dbX12_section_18.2.2.2.2.1
theorem dX12_section_26 : decode cX12_section 26 = .ok (.ldc2_w 245, 3) := dgq (p := 8) daX12_section_18 dbX12_section_18.2.2.2.2.2.1
theorem dX12_section_29 : decode cX12_section 29 = .ok (.invokestatic 101, 3) := dgq (p := 11) daX12_section_18 dbX12_section_18.2.2.2.2.2.2.1
theorem dX12_section_32 : decode cX12_section 32 = .ok (.ifCond .eq 17, 3) := dgq (p := 14) daX12_section_18 dbX12_section_18.2.2.2.2.2.2.2.1
theorem dX12_section_35 : decode cX12_section 35 = .ok (.iload_n 3, 1) := dgq (p := 17) daX12_section_18 dbX12_section_18.2.2.2.2.2.2.2.2.1
theorem dX12_section_36 : decode cX12_section 36 = .ok (.i2l, 1) := dgq (p := 18) daX12_section_18 dbX12_section_18.2.2.2.2.2.2.2.2.2
def dsX12_section_37 : ByteArray := ⟨#[9, 21, 4, 4, 100, 133, 184, 0, 101, 154, 0, 9, 42, 5, 182, 0, 143]⟩
theorem daX12_section_37 : agB cX12_section dsX12_section_37 37 := agB_of (n := 17) (by decide +kernel)
theorem dbX12_section_37 : (decode dsX12_section_37 0 = .ok (.lconst 0, 1) ∧ okop dsX12_section_37 0 = true) ∧ (decode dsX12_section_37 1 = .ok (.iload 4, 2) ∧ okop dsX12_section_37 1 = true) ∧ (decode dsX12_section_37 3 = .ok (.iconst 1, 1) ∧ okop dsX12_section_37 3 = true) ∧ (decode dsX12_section_37 4 = .ok (.isub, 1) ∧ okop dsX12_section_37 4 = true) ∧ (decode dsX12_section_37 5 = .ok (.i2l, 1) ∧ okop dsX12_section_37 5 = true) ∧ (decode dsX12_section_37 6 = .ok (.invokestatic 101, 3) ∧ okop dsX12_section_37 6 = true) ∧ (decode dsX12_section_37 9 = .ok (.ifCond .ne 9, 3) ∧ okop dsX12_section_37 9 = true) ∧ (decode dsX12_section_37 12 = .ok (.aload_n 0, 1) ∧ okop dsX12_section_37 12 = true) ∧ (decode dsX12_section_37 13 = .ok (.iconst 2, 1) ∧ okop dsX12_section_37 13 = true) ∧ (decode dsX12_section_37 14 = .ok (.invokevirtual 143, 3) ∧ okop dsX12_section_37 14 = true) := by decide +kernel
theorem dX12_section_37 : decode cX12_section 37 = .ok (.lconst 0, 1) := dgq (p := 0) daX12_section_37 dbX12_section_37.1
theorem dX12_section_38 : decode cX12_section 38 = .ok (.iload 4, 2) := dgq (p := 1) daX12_section_37 dbX12_section_37.2.1
theorem dX12_section_40 : decode cX12_section 40 = .ok (.iconst 1, 1) := dgq (p := 3) daX12_section_37 dbX12_section_37.2.2.1
theorem dX12_section_41 : decode cX12_section 41 = .ok (.isub, 1) := dgq (p := 4) daX12_section_37 dbX12_section_37.2.2.2.1
theorem dX12_section_42 : decode cX12_section 42 = .ok (.i2l, 1) := dgq (p := 5) daX12_section_37 dbX12_section_37.2.2.2.2.1
theorem dX12_section_43 : decode cX12_section 43 = .ok (.invokestatic 101, 3) := dgq (p := 6) daX12_section_37 dbX12_section_37.2.2.2.2.2.1
theorem dX12_section_46 : decode cX12_section 46 = .ok (.ifCond .ne 9, 3) := dgq (p := 9) daX12_section_37 dbX12_section_37.2.2.2.2.2.2.1
theorem dX12_section_49 : decode cX12_section 49 = .ok (.aload_n 0, 1) := dgq (p := 12) daX12_section_37 dbX12_section_37.2.2.2.2.2.2.2.1
theorem dX12_section_50 : decode cX12_section 50 = .ok (.iconst 2, 1) := dgq (p := 13) daX12_section_37 dbX12_section_37.2.2.2.2.2.2.2.2.1
theorem dX12_section_51 : decode cX12_section 51 = .ok (.invokevirtual 143, 3) := dgq (p := 14) daX12_section_37 dbX12_section_37.2.2.2.2.2.2.2.2.2
def dsX12_section_54 : ByteArray := ⟨#[172, 42, 27, 182, 0, 111, 58, 5, 42, 28, 182, 0, 111, 58, 6, 25, 5]⟩
theorem daX12_section_54 : agB cX12_section dsX12_section_54 54 := agB_of (n := 17) (by decide +kernel)
theorem dbX12_section_54 : (decode dsX12_section_54 0 = .ok (.ireturn, 1) ∧ okop dsX12_section_54 0 = true) ∧ (decode dsX12_section_54 1 = .ok (.aload_n 0, 1) ∧ okop dsX12_section_54 1 = true) ∧ (decode dsX12_section_54 2 = .ok (.iload_n 1, 1) ∧ okop dsX12_section_54 2 = true) ∧ (decode dsX12_section_54 3 = .ok (.invokevirtual 111, 3) ∧ okop dsX12_section_54 3 = true) ∧ (decode dsX12_section_54 6 = .ok (.astore 5, 2) ∧ okop dsX12_section_54 6 = true) ∧ (decode dsX12_section_54 8 = .ok (.aload_n 0, 1) ∧ okop dsX12_section_54 8 = true) ∧ (decode dsX12_section_54 9 = .ok (.iload_n 2, 1) ∧ okop dsX12_section_54 9 = true) ∧ (decode dsX12_section_54 10 = .ok (.invokevirtual 111, 3) ∧ okop dsX12_section_54 10 = true) ∧ (decode dsX12_section_54 13 = .ok (.astore 6, 2) ∧ okop dsX12_section_54 13 = true) ∧ (decode dsX12_section_54 15 = .ok (.aload 5, 2) ∧ okop dsX12_section_54 15 = true) := by decide +kernel
theorem dX12_section_54 : decode cX12_section 54 = .ok (.ireturn, 1) := dgq (p := 0) daX12_section_54 dbX12_section_54.1
theorem dX12_section_55 : decode cX12_section 55 = .ok (.aload_n 0, 1) := dgq (p := 1) daX12_section_54 dbX12_section_54.2.1
theorem dX12_section_56 : decode cX12_section 56 = .ok (.iload_n 1, 1) := dgq (p := 2) daX12_section_54 dbX12_section_54.2.2.1
theorem dX12_section_57 : decode cX12_section 57 = .ok (.invokevirtual 111, 3) := dgq (p := 3) daX12_section_54 dbX12_section_54.2.2.2.1
theorem dX12_section_60 : decode cX12_section 60 = .ok (.astore 5, 2) := dgq (p := 6) daX12_section_54 dbX12_section_54.2.2.2.2.1
theorem dX12_section_62 : decode cX12_section 62 = .ok (.aload_n 0, 1) := dgq (p := 8) daX12_section_54 dbX12_section_54.2.2.2.2.2.1
theorem dX12_section_63 : decode cX12_section 63 = .ok (.iload_n 2, 1) := dgq (p := 9) daX12_section_54 dbX12_section_54.2.2.2.2.2.2.1
theorem dX12_section_64 : decode cX12_section 64 = .ok (.invokevirtual 111, 3) := dgq (p := 10) daX12_section_54 dbX12_section_54.2.2.2.2.2.2.2.1
theorem dX12_section_67 : decode cX12_section 67 = .ok (.astore 6, 2) := dgq (p := 13) daX12_section_54 dbX12_section_54.2.2.2.2.2.2.2.2.1
theorem dX12_section_69 : decode cX12_section 69 = .ok (.aload 5, 2) := dgq (p := 15) daX12_section_54 dbX12_section_54.2.2.2.2.2.2.2.2.2
def dsX12_section_71 : ByteArray := ⟨#[182, 0, 167, 25, 5, 182, 0, 167, 105, 25, 6, 182, 0, 167, 25, 6, 182, 0, 167, 105, 97]⟩
theorem daX12_section_71 : agB cX12_section dsX12_section_71 71 := agB_of (n := 21) (by decide +kernel)
theorem dbX12_section_71 : (decode dsX12_section_71 0 = .ok (.invokevirtual 167, 3) ∧ okop dsX12_section_71 0 = true) ∧ (decode dsX12_section_71 3 = .ok (.aload 5, 2) ∧ okop dsX12_section_71 3 = true) ∧ (decode dsX12_section_71 5 = .ok (.invokevirtual 167, 3) ∧ okop dsX12_section_71 5 = true) ∧ (decode dsX12_section_71 8 = .ok (.lmul, 1) ∧ okop dsX12_section_71 8 = true) ∧ (decode dsX12_section_71 9 = .ok (.aload 6, 2) ∧ okop dsX12_section_71 9 = true) ∧ (decode dsX12_section_71 11 = .ok (.invokevirtual 167, 3) ∧ okop dsX12_section_71 11 = true) ∧ (decode dsX12_section_71 14 = .ok (.aload 6, 2) ∧ okop dsX12_section_71 14 = true) ∧ (decode dsX12_section_71 16 = .ok (.invokevirtual 167, 3) ∧ okop dsX12_section_71 16 = true) ∧ (decode dsX12_section_71 19 = .ok (.lmul, 1) ∧ okop dsX12_section_71 19 = true) ∧ (decode dsX12_section_71 20 = .ok (.ladd, 1) ∧ okop dsX12_section_71 20 = true) := by decide +kernel
theorem dX12_section_71 : decode cX12_section 71 = .ok (.invokevirtual 167, 3) := dgq (p := 0) daX12_section_71 dbX12_section_71.1
theorem dX12_section_74 : decode cX12_section 74 = .ok (.aload 5, 2) := dgq (p := 3) daX12_section_71 dbX12_section_71.2.1
theorem dX12_section_76 : decode cX12_section 76 = .ok (.invokevirtual 167, 3) := dgq (p := 5) daX12_section_71 dbX12_section_71.2.2.1
theorem dX12_section_79 : decode cX12_section 79 = .ok (.lmul, 1) := dgq (p := 8) daX12_section_71 dbX12_section_71.2.2.2.1
theorem dX12_section_80 : decode cX12_section 80 = .ok (.aload 6, 2) := dgq (p := 9) daX12_section_71 dbX12_section_71.2.2.2.2.1
theorem dX12_section_82 : decode cX12_section 82 = .ok (.invokevirtual 167, 3) := dgq (p := 11) daX12_section_71 dbX12_section_71.2.2.2.2.2.1
theorem dX12_section_85 : decode cX12_section 85 = .ok (.aload 6, 2) := dgq (p := 14) daX12_section_71 dbX12_section_71.2.2.2.2.2.2.1
theorem dX12_section_87 : decode cX12_section 87 = .ok (.invokevirtual 167, 3) := dgq (p := 16) daX12_section_71 dbX12_section_71.2.2.2.2.2.2.2.1
theorem dX12_section_90 : decode cX12_section 90 = .ok (.lmul, 1) := dgq (p := 19) daX12_section_71 dbX12_section_71.2.2.2.2.2.2.2.2.1
theorem dX12_section_91 : decode cX12_section 91 = .ok (.ladd, 1) := dgq (p := 20) daX12_section_71 dbX12_section_71.2.2.2.2.2.2.2.2.2
def dsX12_section_92 : ByteArray := ⟨#[184, 0, 195, 20, 0, 3, 109, 55, 7, 25, 5, 180, 0, 115, 25, 6, 180, 0, 115, 160, 0, 19, 20, 0, 247]⟩
theorem daX12_section_92 : agB cX12_section dsX12_section_92 92 := agB_of (n := 25) (by decide +kernel)
theorem dbX12_section_92 : (decode dsX12_section_92 0 = .ok (.invokestatic 195, 3) ∧ okop dsX12_section_92 0 = true) ∧ (decode dsX12_section_92 3 = .ok (.ldc2_w 3, 3) ∧ okop dsX12_section_92 3 = true) ∧ (decode dsX12_section_92 6 = .ok (.ldiv, 1) ∧ okop dsX12_section_92 6 = true) ∧ (decode dsX12_section_92 7 = .ok (.lstore 7, 2) ∧ okop dsX12_section_92 7 = true) ∧ (decode dsX12_section_92 9 = .ok (.aload 5, 2) ∧ okop dsX12_section_92 9 = true) ∧ (decode dsX12_section_92 11 = .ok (.getfield 115, 3) ∧ okop dsX12_section_92 11 = true) ∧ (decode dsX12_section_92 14 = .ok (.aload 6, 2) ∧ okop dsX12_section_92 14 = true) ∧ (decode dsX12_section_92 16 = .ok (.getfield 115, 3) ∧ okop dsX12_section_92 16 = true) ∧ (decode dsX12_section_92 19 = .ok (.if_icmp .ne 19, 3) ∧ okop dsX12_section_92 19 = true) ∧ (decode dsX12_section_92 22 = .ok (.ldc2_w 247, 3) ∧ okop dsX12_section_92 22 = true) := by decide +kernel
theorem dX12_section_92 : decode cX12_section 92 = .ok (.invokestatic 195, 3) := dgq (p := 0) daX12_section_92 dbX12_section_92.1
theorem dX12_section_95 : decode cX12_section 95 = .ok (.ldc2_w 3, 3) := dgq (p := 3) daX12_section_92 dbX12_section_92.2.1
theorem dX12_section_98 : decode cX12_section 98 = .ok (.ldiv, 1) := dgq (p := 6) daX12_section_92 dbX12_section_92.2.2.1
theorem dX12_section_99 : decode cX12_section 99 = .ok (.lstore 7, 2) := dgq (p := 7) daX12_section_92 dbX12_section_92.2.2.2.1
theorem dX12_section_101 : decode cX12_section 101 = .ok (.aload 5, 2) := dgq (p := 9) daX12_section_92 dbX12_section_92.2.2.2.2.1
theorem dX12_section_103 : decode cX12_section 103 = .ok (.getfield 115, 3) := dgq (p := 11) daX12_section_92 dbX12_section_92.2.2.2.2.2.1
theorem dX12_section_106 : decode cX12_section 106 = .ok (.aload 6, 2) := dgq (p := 14) daX12_section_92 dbX12_section_92.2.2.2.2.2.2.1
theorem dX12_section_108 : decode cX12_section 108 = .ok (.getfield 115, 3) := dgq (p := 16) daX12_section_92 dbX12_section_92.2.2.2.2.2.2.2.1
theorem dX12_section_111 : decode cX12_section 111 = .ok (.if_icmp .ne 19, 3) := dgq (p := 19) daX12_section_92 dbX12_section_92.2.2.2.2.2.2.2.2.1
theorem dX12_section_114 : decode cX12_section 114 = .ok (.ldc2_w 247, 3) := dgq (p := 22) daX12_section_92 dbX12_section_92.2.2.2.2.2.2.2.2.2
def dsX12_section_117 : ByteArray := ⟨#[25, 5, 180, 0, 209, 133, 105, 22, 7, 148, 158, 0, 9, 42, 6, 182, 0, 143]⟩
theorem daX12_section_117 : agB cX12_section dsX12_section_117 117 := agB_of (n := 18) (by decide +kernel)
theorem dbX12_section_117 : (decode dsX12_section_117 0 = .ok (.aload 5, 2) ∧ okop dsX12_section_117 0 = true) ∧ (decode dsX12_section_117 2 = .ok (.getfield 209, 3) ∧ okop dsX12_section_117 2 = true) ∧ (decode dsX12_section_117 5 = .ok (.i2l, 1) ∧ okop dsX12_section_117 5 = true) ∧ (decode dsX12_section_117 6 = .ok (.lmul, 1) ∧ okop dsX12_section_117 6 = true) ∧ (decode dsX12_section_117 7 = .ok (.lload 7, 2) ∧ okop dsX12_section_117 7 = true) ∧ (decode dsX12_section_117 9 = .ok (.lcmp, 1) ∧ okop dsX12_section_117 9 = true) ∧ (decode dsX12_section_117 10 = .ok (.ifCond .le 9, 3) ∧ okop dsX12_section_117 10 = true) ∧ (decode dsX12_section_117 13 = .ok (.aload_n 0, 1) ∧ okop dsX12_section_117 13 = true) ∧ (decode dsX12_section_117 14 = .ok (.iconst 3, 1) ∧ okop dsX12_section_117 14 = true) ∧ (decode dsX12_section_117 15 = .ok (.invokevirtual 143, 3) ∧ okop dsX12_section_117 15 = true) := by decide +kernel
theorem dX12_section_117 : decode cX12_section 117 = .ok (.aload 5, 2) := dgq (p := 0) daX12_section_117 dbX12_section_117.1
theorem dX12_section_119 : decode cX12_section 119 = .ok (.getfield 209, 3) := dgq (p := 2) daX12_section_117 dbX12_section_117.2.1
theorem dX12_section_122 : decode cX12_section 122 = .ok (.i2l, 1) := dgq (p := 5) daX12_section_117 dbX12_section_117.2.2.1
theorem dX12_section_123 : decode cX12_section 123 = .ok (.lmul, 1) := dgq (p := 6) daX12_section_117 dbX12_section_117.2.2.2.1
theorem dX12_section_124 : decode cX12_section 124 = .ok (.lload 7, 2) := dgq (p := 7) daX12_section_117 dbX12_section_117.2.2.2.2.1
theorem dX12_section_126 : decode cX12_section 126 = .ok (.lcmp, 1) := dgq (p := 9) daX12_section_117 dbX12_section_117.2.2.2.2.2.1
theorem dX12_section_127 : decode cX12_section 127 = .ok (.ifCond .le 9, 3) := dgq (p := 10) daX12_section_117 dbX12_section_117.2.2.2.2.2.2.1
theorem dX12_section_130 : decode cX12_section 130 = .ok (.aload_n 0, 1) := dgq (p := 13) daX12_section_117 dbX12_section_117.2.2.2.2.2.2.2.1
theorem dX12_section_131 : decode cX12_section 131 = .ok (.iconst 3, 1) := dgq (p := 14) daX12_section_117 dbX12_section_117.2.2.2.2.2.2.2.2.1
theorem dX12_section_132 : decode cX12_section 132 = .ok (.invokevirtual 143, 3) := dgq (p := 15) daX12_section_117 dbX12_section_117.2.2.2.2.2.2.2.2.2
def dsX12_section_135 : ByteArray := ⟨#[172, 22, 7, 25, 5, 180, 0, 209, 133, 29, 133, 105, 21, 4, 133]⟩
theorem daX12_section_135 : agB cX12_section dsX12_section_135 135 := agB_of (n := 15) (by decide +kernel)
theorem dbX12_section_135 : (decode dsX12_section_135 0 = .ok (.ireturn, 1) ∧ okop dsX12_section_135 0 = true) ∧ (decode dsX12_section_135 1 = .ok (.lload 7, 2) ∧ okop dsX12_section_135 1 = true) ∧ (decode dsX12_section_135 3 = .ok (.aload 5, 2) ∧ okop dsX12_section_135 3 = true) ∧ (decode dsX12_section_135 5 = .ok (.getfield 209, 3) ∧ okop dsX12_section_135 5 = true) ∧ (decode dsX12_section_135 8 = .ok (.i2l, 1) ∧ okop dsX12_section_135 8 = true) ∧ (decode dsX12_section_135 9 = .ok (.iload_n 3, 1) ∧ okop dsX12_section_135 9 = true) ∧ (decode dsX12_section_135 10 = .ok (.i2l, 1) ∧ okop dsX12_section_135 10 = true) ∧ (decode dsX12_section_135 11 = .ok (.lmul, 1) ∧ okop dsX12_section_135 11 = true) ∧ (decode dsX12_section_135 12 = .ok (.iload 4, 2) ∧ okop dsX12_section_135 12 = true) ∧ (decode dsX12_section_135 14 = .ok (.i2l, 1) ∧ okop dsX12_section_135 14 = true) := by decide +kernel
theorem dX12_section_135 : decode cX12_section 135 = .ok (.ireturn, 1) := dgq (p := 0) daX12_section_135 dbX12_section_135.1
theorem dX12_section_136 : decode cX12_section 136 = .ok (.lload 7, 2) := dgq (p := 1) daX12_section_135 dbX12_section_135.2.1
theorem dX12_section_138 : decode cX12_section 138 = .ok (.aload 5, 2) := dgq (p := 3) daX12_section_135 dbX12_section_135.2.2.1
theorem dX12_section_140 : decode cX12_section 140 = .ok (.getfield 209, 3) := dgq (p := 5) daX12_section_135 dbX12_section_135.2.2.2.1
theorem dX12_section_143 : decode cX12_section 143 = .ok (.i2l, 1) := dgq (p := 8) daX12_section_135 dbX12_section_135.2.2.2.2.1
theorem dX12_section_144 : decode cX12_section 144 = .ok (.iload_n 3, 1) := dgq (p := 9) daX12_section_135 dbX12_section_135.2.2.2.2.2.1
theorem dX12_section_145 : decode cX12_section 145 = .ok (.i2l, 1) := dgq (p := 10) daX12_section_135 dbX12_section_135.2.2.2.2.2.2.1
theorem dX12_section_146 : decode cX12_section 146 = .ok (.lmul, 1) := dgq (p := 11) daX12_section_135 dbX12_section_135.2.2.2.2.2.2.2.1
theorem dX12_section_147 : decode cX12_section 147 = .ok (.iload 4, 2) := dgq (p := 12) daX12_section_135 dbX12_section_135.2.2.2.2.2.2.2.2.1
theorem dX12_section_149 : decode cX12_section 149 = .ok (.i2l, 1) := dgq (p := 14) daX12_section_135 dbX12_section_135.2.2.2.2.2.2.2.2.2
def dsX12_section_150 : ByteArray := ⟨#[109, 101, 55, 9, 42, 25, 5, 180, 0, 115, 133, 22, 9, 105, 22, 7]⟩
theorem daX12_section_150 : agB cX12_section dsX12_section_150 150 := agB_of (n := 16) (by decide +kernel)
theorem dbX12_section_150 : (decode dsX12_section_150 0 = .ok (.ldiv, 1) ∧ okop dsX12_section_150 0 = true) ∧ (decode dsX12_section_150 1 = .ok (.lsub, 1) ∧ okop dsX12_section_150 1 = true) ∧ (decode dsX12_section_150 2 = .ok (.lstore 9, 2) ∧ okop dsX12_section_150 2 = true) ∧ (decode dsX12_section_150 4 = .ok (.aload_n 0, 1) ∧ okop dsX12_section_150 4 = true) ∧ (decode dsX12_section_150 5 = .ok (.aload 5, 2) ∧ okop dsX12_section_150 5 = true) ∧ (decode dsX12_section_150 7 = .ok (.getfield 115, 3) ∧ okop dsX12_section_150 7 = true) ∧ (decode dsX12_section_150 10 = .ok (.i2l, 1) ∧ okop dsX12_section_150 10 = true) ∧ (decode dsX12_section_150 11 = .ok (.lload 9, 2) ∧ okop dsX12_section_150 11 = true) ∧ (decode dsX12_section_150 13 = .ok (.lmul, 1) ∧ okop dsX12_section_150 13 = true) ∧ (decode dsX12_section_150 14 = .ok (.lload 7, 2) ∧ okop dsX12_section_150 14 = true) := by decide +kernel
theorem dX12_section_150 : decode cX12_section 150 = .ok (.ldiv, 1) := dgq (p := 0) daX12_section_150 dbX12_section_150.1
theorem dX12_section_151 : decode cX12_section 151 = .ok (.lsub, 1) := dgq (p := 1) daX12_section_150 dbX12_section_150.2.1
theorem dX12_section_152 : decode cX12_section 152 = .ok (.lstore 9, 2) := dgq (p := 2) daX12_section_150 dbX12_section_150.2.2.1
theorem dX12_section_154 : decode cX12_section 154 = .ok (.aload_n 0, 1) := dgq (p := 4) daX12_section_150 dbX12_section_150.2.2.2.1
theorem dX12_section_155 : decode cX12_section 155 = .ok (.aload 5, 2) := dgq (p := 5) daX12_section_150 dbX12_section_150.2.2.2.2.1
theorem dX12_section_157 : decode cX12_section 157 = .ok (.getfield 115, 3) := dgq (p := 7) daX12_section_150 dbX12_section_150.2.2.2.2.2.1
theorem dX12_section_160 : decode cX12_section 160 = .ok (.i2l, 1) := dgq (p := 10) daX12_section_150 dbX12_section_150.2.2.2.2.2.2.1
theorem dX12_section_161 : decode cX12_section 161 = .ok (.lload 9, 2) := dgq (p := 11) daX12_section_150 dbX12_section_150.2.2.2.2.2.2.2.1
theorem dX12_section_163 : decode cX12_section 163 = .ok (.lmul, 1) := dgq (p := 13) daX12_section_150 dbX12_section_150.2.2.2.2.2.2.2.2.1
theorem dX12_section_164 : decode cX12_section 164 = .ok (.lload 7, 2) := dgq (p := 14) daX12_section_150 dbX12_section_150.2.2.2.2.2.2.2.2.2
def dsX12_section_166 : ByteArray := ⟨#[109, 136, 182, 0, 153, 172]⟩
theorem daX12_section_166 : agB cX12_section dsX12_section_166 166 := agB_of (n := 6) (by decide +kernel)
theorem dbX12_section_166 : (decode dsX12_section_166 0 = .ok (.ldiv, 1) ∧ okop dsX12_section_166 0 = true) ∧ (decode dsX12_section_166 1 = .ok (.l2i, 1) ∧ okop dsX12_section_166 1 = true) ∧ (decode dsX12_section_166 2 = .ok (.invokevirtual 153, 3) ∧ okop dsX12_section_166 2 = true) ∧ (decode dsX12_section_166 5 = .ok (.ireturn, 1) ∧ okop dsX12_section_166 5 = true) := by decide +kernel
theorem dX12_section_166 : decode cX12_section 166 = .ok (.ldiv, 1) := dgq (p := 0) daX12_section_166 dbX12_section_166.1
theorem dX12_section_167 : decode cX12_section 167 = .ok (.l2i, 1) := dgq (p := 1) daX12_section_166 dbX12_section_166.2.1
theorem dX12_section_168 : decode cX12_section 168 = .ok (.invokevirtual 153, 3) := dgq (p := 2) daX12_section_166 dbX12_section_166.2.2.1
theorem dX12_section_171 : decode cX12_section 171 = .ok (.ireturn, 1) := dgq (p := 5) daX12_section_166 dbX12_section_166.2.2.2
set_option maxRecDepth 20000 in
theorem ggX12_isBounds_X12_in : GoodIn wsX12_isBounds wsX12_in := goodIn_q _ [6] rfl (by decide +kernel)
set_option maxRecDepth 20000 in
theorem gX12_isBounds_X12_in : GoodIn wsX12_isBounds (va_wsS RX12 101 yX12_in wsX12_in) := goodIn_app (goodIn_q _ [3, 4, 5] rfl (by decide +kernel)) ggX12_isBounds_X12_in
def dsX12_isBounds_0 : ByteArray := ⟨#[27, 133, 10, 20, 0, 249, 184, 0, 101, 153, 0, 41, 28, 133, 10, 20, 0, 249]⟩
theorem daX12_isBounds_0 : agB cX12_isBounds dsX12_isBounds_0 0 := agB_of (n := 18) (by decide +kernel)
theorem dbX12_isBounds_0 : (decode dsX12_isBounds_0 0 = .ok (.iload_n 1, 1) ∧ okop dsX12_isBounds_0 0 = true) ∧ (decode dsX12_isBounds_0 1 = .ok (.i2l, 1) ∧ okop dsX12_isBounds_0 1 = true) ∧ (decode dsX12_isBounds_0 2 = .ok (.lconst 1, 1) ∧ okop dsX12_isBounds_0 2 = true) ∧ (decode dsX12_isBounds_0 3 = .ok (.ldc2_w 249, 3) ∧ okop dsX12_isBounds_0 3 = true) ∧ (decode dsX12_isBounds_0 6 = .ok (.invokestatic 101, 3) ∧ okop dsX12_isBounds_0 6 = true) ∧ (decode dsX12_isBounds_0 9 = .ok (.ifCond .eq 41, 3) ∧ okop dsX12_isBounds_0 9 = true) ∧ (decode dsX12_isBounds_0 12 = .ok (.iload_n 2, 1) ∧ okop dsX12_isBounds_0 12 = true) ∧ (decode dsX12_isBounds_0 13 = .ok (.i2l, 1) ∧ okop dsX12_isBounds_0 13 = true) ∧ (decode dsX12_isBounds_0 14 = .ok (.lconst 1, 1) ∧ okop dsX12_isBounds_0 14 = true) ∧ (decode dsX12_isBounds_0 15 = .ok (.ldc2_w 249, 3) ∧ okop dsX12_isBounds_0 15 = true) := by decide +kernel
theorem dX12_isBounds_0 : decode cX12_isBounds 0 = .ok (.iload_n 1, 1) := dgq (p := 0) daX12_isBounds_0 dbX12_isBounds_0.1
theorem dX12_isBounds_1 : decode cX12_isBounds 1 = .ok (.i2l, 1) := dgq (p := 1) daX12_isBounds_0 dbX12_isBounds_0.2.1
theorem dX12_isBounds_2 : decode cX12_isBounds 2 = .ok (.lconst 1, 1) := dgq (p := 2) daX12_isBounds_0 dbX12_isBounds_0.2.2.1
theorem dX12_isBounds_3 : decode cX12_isBounds 3 = .ok (.ldc2_w 249, 3) := dgq (p := 3) daX12_isBounds_0 dbX12_isBounds_0.2.2.2.1
theorem dX12_isBounds_6 : decode cX12_isBounds 6 = .ok (.invokestatic 101, 3) := dgq (p := 6) daX12_isBounds_0 dbX12_isBounds_0.2.2.2.2.1
theorem dX12_isBounds_9 : decode cX12_isBounds 9 = .ok (.ifCond .eq 41, 3) := dgq (p := 9) daX12_isBounds_0 dbX12_isBounds_0.2.2.2.2.2.1
theorem dX12_isBounds_12 : decode cX12_isBounds 12 = .ok (.iload_n 2, 1) := dgq (p := 12) daX12_isBounds_0 dbX12_isBounds_0.2.2.2.2.2.2.1
theorem dX12_isBounds_13 : decode cX12_isBounds 13 = .ok (.i2l, 1) := dgq (p := 13) daX12_isBounds_0 dbX12_isBounds_0.2.2.2.2.2.2.2.1
theorem dX12_isBounds_14 : decode cX12_isBounds 14 = .ok (.lconst 1, 1) := dgq (p := 14) daX12_isBounds_0 dbX12_isBounds_0.2.2.2.2.2.2.2.2.1
theorem dX12_isBounds_15 : decode cX12_isBounds 15 = .ok (.ldc2_w 249, 3) := dgq (p := 15) daX12_isBounds_0 dbX12_isBounds_0.2.2.2.2.2.2.2.2.2
def dsX12_isBounds_18 : ByteArray := ⟨#[184, 0, 101, 153, 0, 29, 29, 133, 20, 0, 129, 21, 4, 133, 184, 0, 101, 153, 0, 15, 21, 4]⟩
theorem daX12_isBounds_18 : agB cX12_isBounds dsX12_isBounds_18 18 := agB_of (n := 22) (by decide +kernel)
theorem dbX12_isBounds_18 : (decode dsX12_isBounds_18 0 = .ok (.invokestatic 101, 3) ∧ okop dsX12_isBounds_18 0 = true) ∧ (decode dsX12_isBounds_18 3 = .ok (.ifCond .eq 29, 3) ∧ okop dsX12_isBounds_18 3 = true) ∧ (decode dsX12_isBounds_18 6 = .ok (.iload_n 3, 1) ∧ okop dsX12_isBounds_18 6 = true) ∧ (decode dsX12_isBounds_18 7 = .ok (.i2l, 1) ∧ okop dsX12_isBounds_18 7 = true) ∧ (decode dsX12_isBounds_18 8 = .ok (.ldc2_w 129, 3) ∧ okop dsX12_isBounds_18 8 = true) ∧ (decode dsX12_isBounds_18 11 = .ok (.iload 4, 2) ∧ okop dsX12_isBounds_18 11 = true) ∧ (decode dsX12_isBounds_18 13 = .ok (.i2l, 1) ∧ okop dsX12_isBounds_18 13 = true) ∧ (decode dsX12_isBounds_18 14 = .ok (.invokestatic 101, 3) ∧ okop dsX12_isBounds_18 14 = true) ∧ (decode dsX12_isBounds_18 17 = .ok (.ifCond .eq 15, 3) ∧ okop dsX12_isBounds_18 17 = true) ∧ (decode dsX12_isBounds_18 20 = .ok (.iload 4, 2) ∧ okop dsX12_isBounds_18 20 = true) := by decide +kernel
theorem dX12_isBounds_18 : decode cX12_isBounds 18 = .ok (.invokestatic 101, 3) := dgq (p := 0) daX12_isBounds_18 dbX12_isBounds_18.1
theorem dX12_isBounds_21 : decode cX12_isBounds 21 = .ok (.ifCond .eq 29, 3) := dgq (p := 3) daX12_isBounds_18 dbX12_isBounds_18.2.1
theorem dX12_isBounds_24 : decode cX12_isBounds 24 = .ok (.iload_n 3, 1) := dgq (p := 6) daX12_isBounds_18 dbX12_isBounds_18.2.2.1
theorem dX12_isBounds_25 : decode cX12_isBounds 25 = .ok (.i2l, 1) := dgq (p := 7) daX12_isBounds_18 dbX12_isBounds_18.2.2.2.1
theorem dX12_isBounds_26 : decode cX12_isBounds 26 = .ok (.ldc2_w 129, 3) := dgq (p := 8) daX12_isBounds_18 dbX12_isBounds_18.2.2.2.2.1
theorem dX12_isBounds_29 : decode cX12_isBounds 29 = .ok (.iload 4, 2) := dgq (p := 11) daX12_isBounds_18 dbX12_isBounds_18.2.2.2.2.2.1
theorem dX12_isBounds_31 : decode cX12_isBounds 31 = .ok (.i2l, 1) := dgq (p := 13) daX12_isBounds_18 dbX12_isBounds_18.2.2.2.2.2.2.1
theorem dX12_isBounds_32 : decode cX12_isBounds 32 = .ok (.invokestatic 101, 3) := dgq (p := 14) daX12_isBounds_18 dbX12_isBounds_18.2.2.2.2.2.2.2.1
theorem dX12_isBounds_35 : decode cX12_isBounds 35 = .ok (.ifCond .eq 15, 3) := dgq (p := 17) daX12_isBounds_18 dbX12_isBounds_18.2.2.2.2.2.2.2.2.1
theorem dX12_isBounds_38 : decode cX12_isBounds 38 = .ok (.iload 4, 2) := dgq (p := 20) daX12_isBounds_18 dbX12_isBounds_18.2.2.2.2.2.2.2.2.2
def dsX12_isBounds_40 : ByteArray := ⟨#[17, 0, 200, 163, 0, 7, 4, 167, 0, 4, 3, 172]⟩
theorem daX12_isBounds_40 : agB cX12_isBounds dsX12_isBounds_40 40 := agB_of (n := 12) (by decide +kernel)
theorem dbX12_isBounds_40 : (decode dsX12_isBounds_40 0 = .ok (.sipush 200, 3) ∧ okop dsX12_isBounds_40 0 = true) ∧ (decode dsX12_isBounds_40 3 = .ok (.if_icmp .gt 7, 3) ∧ okop dsX12_isBounds_40 3 = true) ∧ (decode dsX12_isBounds_40 6 = .ok (.iconst 1, 1) ∧ okop dsX12_isBounds_40 6 = true) ∧ (decode dsX12_isBounds_40 7 = .ok (.goto 4, 3) ∧ okop dsX12_isBounds_40 7 = true) ∧ (decode dsX12_isBounds_40 10 = .ok (.iconst 0, 1) ∧ okop dsX12_isBounds_40 10 = true) ∧ (decode dsX12_isBounds_40 11 = .ok (.ireturn, 1) ∧ okop dsX12_isBounds_40 11 = true) := by decide +kernel
theorem dX12_isBounds_40 : decode cX12_isBounds 40 = .ok (.sipush 200, 3) := dgq (p := 0) daX12_isBounds_40 dbX12_isBounds_40.1
theorem dX12_isBounds_43 : decode cX12_isBounds 43 = .ok (.if_icmp .gt 7, 3) := dgq (p := 3) daX12_isBounds_40 dbX12_isBounds_40.2.1
theorem dX12_isBounds_46 : decode cX12_isBounds 46 = .ok (.iconst 1, 1) := dgq (p := 6) daX12_isBounds_40 dbX12_isBounds_40.2.2.1
theorem dX12_isBounds_47 : decode cX12_isBounds 47 = .ok (.goto 4, 3) := dgq (p := 7) daX12_isBounds_40 dbX12_isBounds_40.2.2.2.1
theorem dX12_isBounds_50 : decode cX12_isBounds 50 = .ok (.iconst 0, 1) := dgq (p := 10) daX12_isBounds_40 dbX12_isBounds_40.2.2.2.2.1
theorem dX12_isBounds_51 : decode cX12_isBounds 51 = .ok (.ireturn, 1) := dgq (p := 11) daX12_isBounds_40 dbX12_isBounds_40.2.2.2.2.2
set_option maxRecDepth 20000 in
theorem ggX12_isBetter_X12_divisor : GoodIn wsX12_isBetter wsX12_divisor := goodIn_ca (goodIn_q _ [7, 4, 5, 6] rfl (by decide +kernel)) (goodIn_sub (fun _ h => List.mem_cons_of_mem _ (List.mem_append_right _ h)) (by decide +kernel))
set_option maxRecDepth 20000 in
theorem gX12_isBetter_X12_divisor : GoodIn wsX12_isBetter (va_wsS RX12 5 yX12_divisor wsX12_divisor) := goodIn_app (goodIn_q _ [4, 5, 6] rfl (by decide +kernel)) ggX12_isBetter_X12_divisor
def dsX12_isBetter_0 : ByteArray := ⟨#[33, 42, 180, 0, 251, 133, 105, 55, 5, 42, 180, 0, 254, 28, 133]⟩
theorem daX12_isBetter_0 : agB cX12_isBetter dsX12_isBetter_0 0 := agB_of (n := 15) (by decide +kernel)
theorem dbX12_isBetter_0 : (decode dsX12_isBetter_0 0 = .ok (.lload_n 3, 1) ∧ okop dsX12_isBetter_0 0 = true) ∧ (decode dsX12_isBetter_0 1 = .ok (.aload_n 0, 1) ∧ okop dsX12_isBetter_0 1 = true) ∧ (decode dsX12_isBetter_0 2 = .ok (.getfield 251, 3) ∧ okop dsX12_isBetter_0 2 = true) ∧ (decode dsX12_isBetter_0 5 = .ok (.i2l, 1) ∧ okop dsX12_isBetter_0 5 = true) ∧ (decode dsX12_isBetter_0 6 = .ok (.lmul, 1) ∧ okop dsX12_isBetter_0 6 = true) ∧ (decode dsX12_isBetter_0 7 = .ok (.lstore 5, 2) ∧ okop dsX12_isBetter_0 7 = true) ∧ (decode dsX12_isBetter_0 9 = .ok (.aload_n 0, 1) ∧ okop dsX12_isBetter_0 9 = true) ∧ (decode dsX12_isBetter_0 10 = .ok (.getfield 254, 3) ∧ okop dsX12_isBetter_0 10 = true) ∧ (decode dsX12_isBetter_0 13 = .ok (.iload_n 2, 1) ∧ okop dsX12_isBetter_0 13 = true) ∧ (decode dsX12_isBetter_0 14 = .ok (.i2l, 1) ∧ okop dsX12_isBetter_0 14 = true) := by decide +kernel
theorem dX12_isBetter_0 : decode cX12_isBetter 0 = .ok (.lload_n 3, 1) := dgq (p := 0) daX12_isBetter_0 dbX12_isBetter_0.1
theorem dX12_isBetter_1 : decode cX12_isBetter 1 = .ok (.aload_n 0, 1) := dgq (p := 1) daX12_isBetter_0 dbX12_isBetter_0.2.1
theorem dX12_isBetter_2 : decode cX12_isBetter 2 = .ok (.getfield 251, 3) := dgq (p := 2) daX12_isBetter_0 dbX12_isBetter_0.2.2.1
theorem dX12_isBetter_5 : decode cX12_isBetter 5 = .ok (.i2l, 1) := dgq (p := 5) daX12_isBetter_0 dbX12_isBetter_0.2.2.2.1
theorem dX12_isBetter_6 : decode cX12_isBetter 6 = .ok (.lmul, 1) := dgq (p := 6) daX12_isBetter_0 dbX12_isBetter_0.2.2.2.2.1
theorem dX12_isBetter_7 : decode cX12_isBetter 7 = .ok (.lstore 5, 2) := dgq (p := 7) daX12_isBetter_0 dbX12_isBetter_0.2.2.2.2.2.1
theorem dX12_isBetter_9 : decode cX12_isBetter 9 = .ok (.aload_n 0, 1) := dgq (p := 9) daX12_isBetter_0 dbX12_isBetter_0.2.2.2.2.2.2.1
theorem dX12_isBetter_10 : decode cX12_isBetter 10 = .ok (.getfield 254, 3) := dgq (p := 10) daX12_isBetter_0 dbX12_isBetter_0.2.2.2.2.2.2.2.1
theorem dX12_isBetter_13 : decode cX12_isBetter 13 = .ok (.iload_n 2, 1) := dgq (p := 13) daX12_isBetter_0 dbX12_isBetter_0.2.2.2.2.2.2.2.2.1
theorem dX12_isBetter_14 : decode cX12_isBetter 14 = .ok (.i2l, 1) := dgq (p := 14) daX12_isBetter_0 dbX12_isBetter_0.2.2.2.2.2.2.2.2.2
def dsX12_isBetter_15 : ByteArray := ⟨#[105, 55, 7, 22, 5, 22, 7, 148, 153, 0, 17, 22, 5, 22, 7, 148, 156, 0, 7]⟩
theorem daX12_isBetter_15 : agB cX12_isBetter dsX12_isBetter_15 15 := agB_of (n := 19) (by decide +kernel)
theorem dbX12_isBetter_15 : (decode dsX12_isBetter_15 0 = .ok (.lmul, 1) ∧ okop dsX12_isBetter_15 0 = true) ∧ (decode dsX12_isBetter_15 1 = .ok (.lstore 7, 2) ∧ okop dsX12_isBetter_15 1 = true) ∧ (decode dsX12_isBetter_15 3 = .ok (.lload 5, 2) ∧ okop dsX12_isBetter_15 3 = true) ∧ (decode dsX12_isBetter_15 5 = .ok (.lload 7, 2) ∧ okop dsX12_isBetter_15 5 = true) ∧ (decode dsX12_isBetter_15 7 = .ok (.lcmp, 1) ∧ okop dsX12_isBetter_15 7 = true) ∧ (decode dsX12_isBetter_15 8 = .ok (.ifCond .eq 17, 3) ∧ okop dsX12_isBetter_15 8 = true) ∧ (decode dsX12_isBetter_15 11 = .ok (.lload 5, 2) ∧ okop dsX12_isBetter_15 11 = true) ∧ (decode dsX12_isBetter_15 13 = .ok (.lload 7, 2) ∧ okop dsX12_isBetter_15 13 = true) ∧ (decode dsX12_isBetter_15 15 = .ok (.lcmp, 1) ∧ okop dsX12_isBetter_15 15 = true) ∧ (decode dsX12_isBetter_15 16 = .ok (.ifCond .ge 7, 3) ∧ okop dsX12_isBetter_15 16 = true) := by decide +kernel
theorem dX12_isBetter_15 : decode cX12_isBetter 15 = .ok (.lmul, 1) := dgq (p := 0) daX12_isBetter_15 dbX12_isBetter_15.1
theorem dX12_isBetter_16 : decode cX12_isBetter 16 = .ok (.lstore 7, 2) := dgq (p := 1) daX12_isBetter_15 dbX12_isBetter_15.2.1
theorem dX12_isBetter_18 : decode cX12_isBetter 18 = .ok (.lload 5, 2) := dgq (p := 3) daX12_isBetter_15 dbX12_isBetter_15.2.2.1
theorem dX12_isBetter_20 : decode cX12_isBetter 20 = .ok (.lload 7, 2) := dgq (p := 5) daX12_isBetter_15 dbX12_isBetter_15.2.2.2.1
theorem dX12_isBetter_22 : decode cX12_isBetter 22 = .ok (.lcmp, 1) := dgq (p := 7) daX12_isBetter_15 dbX12_isBetter_15.2.2.2.2.1
theorem dX12_isBetter_23 : decode cX12_isBetter 23 = .ok (.ifCond .eq 17, 3) := dgq (p := 8) daX12_isBetter_15 dbX12_isBetter_15.2.2.2.2.2.1
theorem dX12_isBetter_26 : decode cX12_isBetter 26 = .ok (.lload 5, 2) := dgq (p := 11) daX12_isBetter_15 dbX12_isBetter_15.2.2.2.2.2.2.1
theorem dX12_isBetter_28 : decode cX12_isBetter 28 = .ok (.lload 7, 2) := dgq (p := 13) daX12_isBetter_15 dbX12_isBetter_15.2.2.2.2.2.2.2.1
theorem dX12_isBetter_30 : decode cX12_isBetter 30 = .ok (.lcmp, 1) := dgq (p := 15) daX12_isBetter_15 dbX12_isBetter_15.2.2.2.2.2.2.2.2.1
theorem dX12_isBetter_31 : decode cX12_isBetter 31 = .ok (.ifCond .ge 7, 3) := dgq (p := 16) daX12_isBetter_15 dbX12_isBetter_15.2.2.2.2.2.2.2.2.2
def dsX12_isBetter_34 : ByteArray := ⟨#[4, 167, 0, 4, 3, 172, 27, 28, 184, 0, 5, 4, 160, 0, 7, 4]⟩
theorem daX12_isBetter_34 : agB cX12_isBetter dsX12_isBetter_34 34 := agB_of (n := 16) (by decide +kernel)
theorem dbX12_isBetter_34 : (decode dsX12_isBetter_34 0 = .ok (.iconst 1, 1) ∧ okop dsX12_isBetter_34 0 = true) ∧ (decode dsX12_isBetter_34 1 = .ok (.goto 4, 3) ∧ okop dsX12_isBetter_34 1 = true) ∧ (decode dsX12_isBetter_34 4 = .ok (.iconst 0, 1) ∧ okop dsX12_isBetter_34 4 = true) ∧ (decode dsX12_isBetter_34 5 = .ok (.ireturn, 1) ∧ okop dsX12_isBetter_34 5 = true) ∧ (decode dsX12_isBetter_34 6 = .ok (.iload_n 1, 1) ∧ okop dsX12_isBetter_34 6 = true) ∧ (decode dsX12_isBetter_34 7 = .ok (.iload_n 2, 1) ∧ okop dsX12_isBetter_34 7 = true) ∧ (decode dsX12_isBetter_34 8 = .ok (.invokestatic 5, 3) ∧ okop dsX12_isBetter_34 8 = true) ∧ (decode dsX12_isBetter_34 11 = .ok (.iconst 1, 1) ∧ okop dsX12_isBetter_34 11 = true) ∧ (decode dsX12_isBetter_34 12 = .ok (.if_icmp .ne 7, 3) ∧ okop dsX12_isBetter_34 12 = true) ∧ (decode dsX12_isBetter_34 15 = .ok (.iconst 1, 1) ∧ okop dsX12_isBetter_34 15 = true) := by decide +kernel
theorem dX12_isBetter_34 : decode cX12_isBetter 34 = .ok (.iconst 1, 1) := dgq (p := 0) daX12_isBetter_34 dbX12_isBetter_34.1
theorem dX12_isBetter_35 : decode cX12_isBetter 35 = .ok (.goto 4, 3) := dgq (p := 1) daX12_isBetter_34 dbX12_isBetter_34.2.1
theorem dX12_isBetter_38 : decode cX12_isBetter 38 = .ok (.iconst 0, 1) := dgq (p := 4) daX12_isBetter_34 dbX12_isBetter_34.2.2.1
theorem dX12_isBetter_39 : decode cX12_isBetter 39 = .ok (.ireturn, 1) := dgq (p := 5) daX12_isBetter_34 dbX12_isBetter_34.2.2.2.1
theorem dX12_isBetter_40 : decode cX12_isBetter 40 = .ok (.iload_n 1, 1) := dgq (p := 6) daX12_isBetter_34 dbX12_isBetter_34.2.2.2.2.1
theorem dX12_isBetter_41 : decode cX12_isBetter 41 = .ok (.iload_n 2, 1) := dgq (p := 7) daX12_isBetter_34 dbX12_isBetter_34.2.2.2.2.2.1
theorem dX12_isBetter_42 : decode cX12_isBetter 42 = .ok (.invokestatic 5, 3) := dgq (p := 8) daX12_isBetter_34 dbX12_isBetter_34.2.2.2.2.2.2.1
theorem dX12_isBetter_45 : decode cX12_isBetter 45 = .ok (.iconst 1, 1) := dgq (p := 11) daX12_isBetter_34 dbX12_isBetter_34.2.2.2.2.2.2.2.1
theorem dX12_isBetter_46 : decode cX12_isBetter 46 = .ok (.if_icmp .ne 7, 3) := dgq (p := 12) daX12_isBetter_34 dbX12_isBetter_34.2.2.2.2.2.2.2.2.1
theorem dX12_isBetter_49 : decode cX12_isBetter 49 = .ok (.iconst 1, 1) := dgq (p := 15) daX12_isBetter_34 dbX12_isBetter_34.2.2.2.2.2.2.2.2.2
def dsX12_isBetter_50 : ByteArray := ⟨#[167, 0, 4, 3, 54, 9, 42, 180, 1, 2, 42, 180, 0, 251, 184, 0, 5, 4, 160, 0, 7]⟩
theorem daX12_isBetter_50 : agB cX12_isBetter dsX12_isBetter_50 50 := agB_of (n := 21) (by decide +kernel)
theorem dbX12_isBetter_50 : (decode dsX12_isBetter_50 0 = .ok (.goto 4, 3) ∧ okop dsX12_isBetter_50 0 = true) ∧ (decode dsX12_isBetter_50 3 = .ok (.iconst 0, 1) ∧ okop dsX12_isBetter_50 3 = true) ∧ (decode dsX12_isBetter_50 4 = .ok (.istore 9, 2) ∧ okop dsX12_isBetter_50 4 = true) ∧ (decode dsX12_isBetter_50 6 = .ok (.aload_n 0, 1) ∧ okop dsX12_isBetter_50 6 = true) ∧ (decode dsX12_isBetter_50 7 = .ok (.getfield 258, 3) ∧ okop dsX12_isBetter_50 7 = true) ∧ (decode dsX12_isBetter_50 10 = .ok (.aload_n 0, 1) ∧ okop dsX12_isBetter_50 10 = true) ∧ (decode dsX12_isBetter_50 11 = .ok (.getfield 251, 3) ∧ okop dsX12_isBetter_50 11 = true) ∧ (decode dsX12_isBetter_50 14 = .ok (.invokestatic 5, 3) ∧ okop dsX12_isBetter_50 14 = true) ∧ (decode dsX12_isBetter_50 17 = .ok (.iconst 1, 1) ∧ okop dsX12_isBetter_50 17 = true) ∧ (decode dsX12_isBetter_50 18 = .ok (.if_icmp .ne 7, 3) ∧ okop dsX12_isBetter_50 18 = true) := by decide +kernel
theorem dX12_isBetter_50 : decode cX12_isBetter 50 = .ok (.goto 4, 3) := dgq (p := 0) daX12_isBetter_50 dbX12_isBetter_50.1
theorem dX12_isBetter_53 : decode cX12_isBetter 53 = .ok (.iconst 0, 1) := dgq (p := 3) daX12_isBetter_50 dbX12_isBetter_50.2.1
theorem dX12_isBetter_54 : decode cX12_isBetter 54 = .ok (.istore 9, 2) := dgq (p := 4) daX12_isBetter_50 dbX12_isBetter_50.2.2.1
theorem dX12_isBetter_56 : decode cX12_isBetter 56 = .ok (.aload_n 0, 1) := dgq (p := 6) daX12_isBetter_50 dbX12_isBetter_50.2.2.2.1
theorem dX12_isBetter_57 : decode cX12_isBetter 57 = .ok (.getfield 258, 3) := dgq (p := 7) daX12_isBetter_50 dbX12_isBetter_50.2.2.2.2.1
theorem dX12_isBetter_60 : decode cX12_isBetter 60 = .ok (.aload_n 0, 1) := dgq (p := 10) daX12_isBetter_50 dbX12_isBetter_50.2.2.2.2.2.1
theorem dX12_isBetter_61 : decode cX12_isBetter 61 = .ok (.getfield 251, 3) := dgq (p := 11) daX12_isBetter_50 dbX12_isBetter_50.2.2.2.2.2.2.1
theorem dX12_isBetter_64 : decode cX12_isBetter 64 = .ok (.invokestatic 5, 3) := dgq (p := 14) daX12_isBetter_50 dbX12_isBetter_50.2.2.2.2.2.2.2.1
theorem dX12_isBetter_67 : decode cX12_isBetter 67 = .ok (.iconst 1, 1) := dgq (p := 17) daX12_isBetter_50 dbX12_isBetter_50.2.2.2.2.2.2.2.2.1
theorem dX12_isBetter_68 : decode cX12_isBetter 68 = .ok (.if_icmp .ne 7, 3) := dgq (p := 18) daX12_isBetter_50 dbX12_isBetter_50.2.2.2.2.2.2.2.2.2
def dsX12_isBetter_71 : ByteArray := ⟨#[4, 167, 0, 4, 3, 54, 10, 21, 9, 21, 10, 159, 0, 6, 21, 9, 172, 27]⟩
theorem daX12_isBetter_71 : agB cX12_isBetter dsX12_isBetter_71 71 := agB_of (n := 18) (by decide +kernel)
theorem dbX12_isBetter_71 : (decode dsX12_isBetter_71 0 = .ok (.iconst 1, 1) ∧ okop dsX12_isBetter_71 0 = true) ∧ (decode dsX12_isBetter_71 1 = .ok (.goto 4, 3) ∧ okop dsX12_isBetter_71 1 = true) ∧ (decode dsX12_isBetter_71 4 = .ok (.iconst 0, 1) ∧ okop dsX12_isBetter_71 4 = true) ∧ (decode dsX12_isBetter_71 5 = .ok (.istore 10, 2) ∧ okop dsX12_isBetter_71 5 = true) ∧ (decode dsX12_isBetter_71 7 = .ok (.iload 9, 2) ∧ okop dsX12_isBetter_71 7 = true) ∧ (decode dsX12_isBetter_71 9 = .ok (.iload 10, 2) ∧ okop dsX12_isBetter_71 9 = true) ∧ (decode dsX12_isBetter_71 11 = .ok (.if_icmp .eq 6, 3) ∧ okop dsX12_isBetter_71 11 = true) ∧ (decode dsX12_isBetter_71 14 = .ok (.iload 9, 2) ∧ okop dsX12_isBetter_71 14 = true) ∧ (decode dsX12_isBetter_71 16 = .ok (.ireturn, 1) ∧ okop dsX12_isBetter_71 16 = true) ∧ (decode dsX12_isBetter_71 17 = .ok (.iload_n 1, 1) ∧ okop dsX12_isBetter_71 17 = true) := by decide +kernel
theorem dX12_isBetter_71 : decode cX12_isBetter 71 = .ok (.iconst 1, 1) := dgq (p := 0) daX12_isBetter_71 dbX12_isBetter_71.1
theorem dX12_isBetter_72 : decode cX12_isBetter 72 = .ok (.goto 4, 3) := dgq (p := 1) daX12_isBetter_71 dbX12_isBetter_71.2.1
theorem dX12_isBetter_75 : decode cX12_isBetter 75 = .ok (.iconst 0, 1) := dgq (p := 4) daX12_isBetter_71 dbX12_isBetter_71.2.2.1
theorem dX12_isBetter_76 : decode cX12_isBetter 76 = .ok (.istore 10, 2) := dgq (p := 5) daX12_isBetter_71 dbX12_isBetter_71.2.2.2.1
theorem dX12_isBetter_78 : decode cX12_isBetter 78 = .ok (.iload 9, 2) := dgq (p := 7) daX12_isBetter_71 dbX12_isBetter_71.2.2.2.2.1
theorem dX12_isBetter_80 : decode cX12_isBetter 80 = .ok (.iload 10, 2) := dgq (p := 9) daX12_isBetter_71 dbX12_isBetter_71.2.2.2.2.2.1
theorem dX12_isBetter_82 : decode cX12_isBetter 82 = .ok (.if_icmp .eq 6, 3) := dgq (p := 11) daX12_isBetter_71 dbX12_isBetter_71.2.2.2.2.2.2.1
theorem dX12_isBetter_85 : decode cX12_isBetter 85 = .ok (.iload 9, 2) := dgq (p := 14) daX12_isBetter_71 dbX12_isBetter_71.2.2.2.2.2.2.2.1
theorem dX12_isBetter_87 : decode cX12_isBetter 87 = .ok (.ireturn, 1) := dgq (p := 16) daX12_isBetter_71 dbX12_isBetter_71.2.2.2.2.2.2.2.2.1
theorem dX12_isBetter_88 : decode cX12_isBetter 88 = .ok (.iload_n 1, 1) := dgq (p := 17) daX12_isBetter_71 dbX12_isBetter_71.2.2.2.2.2.2.2.2.2
def dsX12_isBetter_89 : ByteArray := ⟨#[28, 96, 42, 180, 1, 2, 42, 180, 0, 251, 96, 159, 0, 26, 27, 28]⟩
theorem daX12_isBetter_89 : agB cX12_isBetter dsX12_isBetter_89 89 := agB_of (n := 16) (by decide +kernel)
theorem dbX12_isBetter_89 : (decode dsX12_isBetter_89 0 = .ok (.iload_n 2, 1) ∧ okop dsX12_isBetter_89 0 = true) ∧ (decode dsX12_isBetter_89 1 = .ok (.iadd, 1) ∧ okop dsX12_isBetter_89 1 = true) ∧ (decode dsX12_isBetter_89 2 = .ok (.aload_n 0, 1) ∧ okop dsX12_isBetter_89 2 = true) ∧ (decode dsX12_isBetter_89 3 = .ok (.getfield 258, 3) ∧ okop dsX12_isBetter_89 3 = true) ∧ (decode dsX12_isBetter_89 6 = .ok (.aload_n 0, 1) ∧ okop dsX12_isBetter_89 6 = true) ∧ (decode dsX12_isBetter_89 7 = .ok (.getfield 251, 3) ∧ okop dsX12_isBetter_89 7 = true) ∧ (decode dsX12_isBetter_89 10 = .ok (.iadd, 1) ∧ okop dsX12_isBetter_89 10 = true) ∧ (decode dsX12_isBetter_89 11 = .ok (.if_icmp .eq 26, 3) ∧ okop dsX12_isBetter_89 11 = true) ∧ (decode dsX12_isBetter_89 14 = .ok (.iload_n 1, 1) ∧ okop dsX12_isBetter_89 14 = true) ∧ (decode dsX12_isBetter_89 15 = .ok (.iload_n 2, 1) ∧ okop dsX12_isBetter_89 15 = true) := by decide +kernel
theorem dX12_isBetter_89 : decode cX12_isBetter 89 = .ok (.iload_n 2, 1) := dgq (p := 0) daX12_isBetter_89 dbX12_isBetter_89.1
theorem dX12_isBetter_90 : decode cX12_isBetter 90 = .ok (.iadd, 1) := dgq (p := 1) daX12_isBetter_89 dbX12_isBetter_89.2.1
theorem dX12_isBetter_91 : decode cX12_isBetter 91 = .ok (.aload_n 0, 1) := dgq (p := 2) daX12_isBetter_89 dbX12_isBetter_89.2.2.1
theorem dX12_isBetter_92 : decode cX12_isBetter 92 = .ok (.getfield 258, 3) := dgq (p := 3) daX12_isBetter_89 dbX12_isBetter_89.2.2.2.1
theorem dX12_isBetter_95 : decode cX12_isBetter 95 = .ok (.aload_n 0, 1) := dgq (p := 6) daX12_isBetter_89 dbX12_isBetter_89.2.2.2.2.1
theorem dX12_isBetter_96 : decode cX12_isBetter 96 = .ok (.getfield 251, 3) := dgq (p := 7) daX12_isBetter_89 dbX12_isBetter_89.2.2.2.2.2.1
theorem dX12_isBetter_99 : decode cX12_isBetter 99 = .ok (.iadd, 1) := dgq (p := 10) daX12_isBetter_89 dbX12_isBetter_89.2.2.2.2.2.2.1
theorem dX12_isBetter_100 : decode cX12_isBetter 100 = .ok (.if_icmp .eq 26, 3) := dgq (p := 11) daX12_isBetter_89 dbX12_isBetter_89.2.2.2.2.2.2.2.1
theorem dX12_isBetter_103 : decode cX12_isBetter 103 = .ok (.iload_n 1, 1) := dgq (p := 14) daX12_isBetter_89 dbX12_isBetter_89.2.2.2.2.2.2.2.2.1
theorem dX12_isBetter_104 : decode cX12_isBetter 104 = .ok (.iload_n 2, 1) := dgq (p := 15) daX12_isBetter_89 dbX12_isBetter_89.2.2.2.2.2.2.2.2.2
def dsX12_isBetter_105 : ByteArray := ⟨#[96, 42, 180, 1, 2, 42, 180, 0, 251, 96, 162, 0, 7, 4, 167, 0, 20, 3]⟩
theorem daX12_isBetter_105 : agB cX12_isBetter dsX12_isBetter_105 105 := agB_of (n := 18) (by decide +kernel)
theorem dbX12_isBetter_105 : (decode dsX12_isBetter_105 0 = .ok (.iadd, 1) ∧ okop dsX12_isBetter_105 0 = true) ∧ (decode dsX12_isBetter_105 1 = .ok (.aload_n 0, 1) ∧ okop dsX12_isBetter_105 1 = true) ∧ (decode dsX12_isBetter_105 2 = .ok (.getfield 258, 3) ∧ okop dsX12_isBetter_105 2 = true) ∧ (decode dsX12_isBetter_105 5 = .ok (.aload_n 0, 1) ∧ okop dsX12_isBetter_105 5 = true) ∧ (decode dsX12_isBetter_105 6 = .ok (.getfield 251, 3) ∧ okop dsX12_isBetter_105 6 = true) ∧ (decode dsX12_isBetter_105 9 = .ok (.iadd, 1) ∧ okop dsX12_isBetter_105 9 = true) ∧ (decode dsX12_isBetter_105 10 = .ok (.if_icmp .ge 7, 3) ∧ okop dsX12_isBetter_105 10 = true) ∧ (decode dsX12_isBetter_105 13 = .ok (.iconst 1, 1) ∧ okop dsX12_isBetter_105 13 = true) ∧ (decode dsX12_isBetter_105 14 = .ok (.goto 20, 3) ∧ okop dsX12_isBetter_105 14 = true) ∧ (decode dsX12_isBetter_105 17 = .ok (.iconst 0, 1) ∧ okop dsX12_isBetter_105 17 = true) := by decide +kernel
theorem dX12_isBetter_105 : decode cX12_isBetter 105 = .ok (.iadd, 1) := dgq (p := 0) daX12_isBetter_105 dbX12_isBetter_105.1
theorem dX12_isBetter_106 : decode cX12_isBetter 106 = .ok (.aload_n 0, 1) := dgq (p := 1) daX12_isBetter_105 dbX12_isBetter_105.2.1
theorem dX12_isBetter_107 : decode cX12_isBetter 107 = .ok (.getfield 258, 3) := dgq (p := 2) daX12_isBetter_105 dbX12_isBetter_105.2.2.1
theorem dX12_isBetter_110 : decode cX12_isBetter 110 = .ok (.aload_n 0, 1) := dgq (p := 5) daX12_isBetter_105 dbX12_isBetter_105.2.2.2.1
theorem dX12_isBetter_111 : decode cX12_isBetter 111 = .ok (.getfield 251, 3) := dgq (p := 6) daX12_isBetter_105 dbX12_isBetter_105.2.2.2.2.1
theorem dX12_isBetter_114 : decode cX12_isBetter 114 = .ok (.iadd, 1) := dgq (p := 9) daX12_isBetter_105 dbX12_isBetter_105.2.2.2.2.2.1
theorem dX12_isBetter_115 : decode cX12_isBetter 115 = .ok (.if_icmp .ge 7, 3) := dgq (p := 10) daX12_isBetter_105 dbX12_isBetter_105.2.2.2.2.2.2.1
theorem dX12_isBetter_118 : decode cX12_isBetter 118 = .ok (.iconst 1, 1) := dgq (p := 13) daX12_isBetter_105 dbX12_isBetter_105.2.2.2.2.2.2.2.1
theorem dX12_isBetter_119 : decode cX12_isBetter 119 = .ok (.goto 20, 3) := dgq (p := 14) daX12_isBetter_105 dbX12_isBetter_105.2.2.2.2.2.2.2.2.1
theorem dX12_isBetter_122 : decode cX12_isBetter 122 = .ok (.iconst 0, 1) := dgq (p := 17) daX12_isBetter_105 dbX12_isBetter_105.2.2.2.2.2.2.2.2.2
def dsX12_isBetter_123 : ByteArray := ⟨#[167, 0, 16, 27, 42, 180, 1, 2, 162, 0, 7, 4, 167, 0, 4, 3, 172]⟩
theorem daX12_isBetter_123 : agB cX12_isBetter dsX12_isBetter_123 123 := agB_of (n := 17) (by decide +kernel)
theorem dbX12_isBetter_123 : (decode dsX12_isBetter_123 0 = .ok (.goto 16, 3) ∧ okop dsX12_isBetter_123 0 = true) ∧ (decode dsX12_isBetter_123 3 = .ok (.iload_n 1, 1) ∧ okop dsX12_isBetter_123 3 = true) ∧ (decode dsX12_isBetter_123 4 = .ok (.aload_n 0, 1) ∧ okop dsX12_isBetter_123 4 = true) ∧ (decode dsX12_isBetter_123 5 = .ok (.getfield 258, 3) ∧ okop dsX12_isBetter_123 5 = true) ∧ (decode dsX12_isBetter_123 8 = .ok (.if_icmp .ge 7, 3) ∧ okop dsX12_isBetter_123 8 = true) ∧ (decode dsX12_isBetter_123 11 = .ok (.iconst 1, 1) ∧ okop dsX12_isBetter_123 11 = true) ∧ (decode dsX12_isBetter_123 12 = .ok (.goto 4, 3) ∧ okop dsX12_isBetter_123 12 = true) ∧ (decode dsX12_isBetter_123 15 = .ok (.iconst 0, 1) ∧ okop dsX12_isBetter_123 15 = true) ∧ (decode dsX12_isBetter_123 16 = .ok (.ireturn, 1) ∧ okop dsX12_isBetter_123 16 = true) := by decide +kernel
theorem dX12_isBetter_123 : decode cX12_isBetter 123 = .ok (.goto 16, 3) := dgq (p := 0) daX12_isBetter_123 dbX12_isBetter_123.1
theorem dX12_isBetter_126 : decode cX12_isBetter 126 = .ok (.iload_n 1, 1) := dgq (p := 3) daX12_isBetter_123 dbX12_isBetter_123.2.1
theorem dX12_isBetter_127 : decode cX12_isBetter 127 = .ok (.aload_n 0, 1) := dgq (p := 4) daX12_isBetter_123 dbX12_isBetter_123.2.2.1
theorem dX12_isBetter_128 : decode cX12_isBetter 128 = .ok (.getfield 258, 3) := dgq (p := 5) daX12_isBetter_123 dbX12_isBetter_123.2.2.2.1
theorem dX12_isBetter_131 : decode cX12_isBetter 131 = .ok (.if_icmp .ge 7, 3) := dgq (p := 8) daX12_isBetter_123 dbX12_isBetter_123.2.2.2.2.1
theorem dX12_isBetter_134 : decode cX12_isBetter 134 = .ok (.iconst 1, 1) := dgq (p := 11) daX12_isBetter_123 dbX12_isBetter_123.2.2.2.2.2.1
theorem dX12_isBetter_135 : decode cX12_isBetter 135 = .ok (.goto 4, 3) := dgq (p := 12) daX12_isBetter_123 dbX12_isBetter_123.2.2.2.2.2.2.1
theorem dX12_isBetter_138 : decode cX12_isBetter 138 = .ok (.iconst 0, 1) := dgq (p := 15) daX12_isBetter_123 dbX12_isBetter_123.2.2.2.2.2.2.2.1
theorem dX12_isBetter_139 : decode cX12_isBetter 139 = .ok (.ireturn, 1) := dgq (p := 16) daX12_isBetter_123 dbX12_isBetter_123.2.2.2.2.2.2.2.2
set_option maxRecDepth 20000 in
theorem ggX12_looks_X12_isBetter : GoodIn wsX12_looks wsX12_isBetter := goodIn_ca (goodIn_ca (goodIn_q _ [12, 6, 7, 1, 13, 14, 11, 15] rfl (by decide +kernel)) (goodIn_sub (fun _ h => (List.mem_cons_of_mem _ (List.mem_append_left _ (List.mem_append_right _ h)))) tg_wsX120)) (goodIn_sub (fun _ h => List.mem_cons_of_mem _ (List.mem_append_right _ h)) (by decide +kernel))
set_option maxRecDepth 20000 in
theorem gX12_looks_X12_isBetter : GoodIn wsX12_looks (wsV RX12 261 RX12 yX12_isBetter wsX12_isBetter) := goodIn_app (goodIn_q _ [8, 9, 10, 11] rfl (by decide +kernel)) ggX12_looks_X12_isBetter
def dsX12_looks_0 : ByteArray := ⟨#[42, 3, 181, 1, 2, 29, 54, 5, 21, 5, 21, 4, 163, 0, 84, 29, 54, 6]⟩
theorem daX12_looks_0 : agB cX12_looks dsX12_looks_0 0 := agB_of (n := 18) (by decide +kernel)
theorem dbX12_looks_0 : (decode dsX12_looks_0 0 = .ok (.aload_n 0, 1) ∧ okop dsX12_looks_0 0 = true) ∧ (decode dsX12_looks_0 1 = .ok (.iconst 0, 1) ∧ okop dsX12_looks_0 1 = true) ∧ (decode dsX12_looks_0 2 = .ok (.putfield 258, 3) ∧ okop dsX12_looks_0 2 = true) ∧ (decode dsX12_looks_0 5 = .ok (.iload_n 3, 1) ∧ okop dsX12_looks_0 5 = true) ∧ (decode dsX12_looks_0 6 = .ok (.istore 5, 2) ∧ okop dsX12_looks_0 6 = true) ∧ (decode dsX12_looks_0 8 = .ok (.iload 5, 2) ∧ okop dsX12_looks_0 8 = true) ∧ (decode dsX12_looks_0 10 = .ok (.iload 4, 2) ∧ okop dsX12_looks_0 10 = true) ∧ (decode dsX12_looks_0 12 = .ok (.if_icmp .gt 84, 3) ∧ okop dsX12_looks_0 12 = true) ∧ (decode dsX12_looks_0 15 = .ok (.iload_n 3, 1) ∧ okop dsX12_looks_0 15 = true) ∧ (decode dsX12_looks_0 16 = .ok (.istore 6, 2) ∧ okop dsX12_looks_0 16 = true) := by decide +kernel
theorem dX12_looks_0 : decode cX12_looks 0 = .ok (.aload_n 0, 1) := dgq (p := 0) daX12_looks_0 dbX12_looks_0.1
theorem dX12_looks_1 : decode cX12_looks 1 = .ok (.iconst 0, 1) := dgq (p := 1) daX12_looks_0 dbX12_looks_0.2.1
theorem dX12_looks_2 : decode cX12_looks 2 = .ok (.putfield 258, 3) := dgq (p := 2) daX12_looks_0 dbX12_looks_0.2.2.1
theorem dX12_looks_5 : decode cX12_looks 5 = .ok (.iload_n 3, 1) := dgq (p := 5) daX12_looks_0 dbX12_looks_0.2.2.2.1
theorem dX12_looks_6 : decode cX12_looks 6 = .ok (.istore 5, 2) := dgq (p := 6) daX12_looks_0 dbX12_looks_0.2.2.2.2.1
theorem dX12_looks_8 : decode cX12_looks 8 = .ok (.iload 5, 2) := dgq (p := 8) daX12_looks_0 dbX12_looks_0.2.2.2.2.2.1
theorem dX12_looks_10 : decode cX12_looks 10 = .ok (.iload 4, 2) := dgq (p := 10) daX12_looks_0 dbX12_looks_0.2.2.2.2.2.2.1
theorem dX12_looks_12 : decode cX12_looks 12 = .ok (.if_icmp .gt 84, 3) := dgq (p := 12) daX12_looks_0 dbX12_looks_0.2.2.2.2.2.2.2.1
theorem dX12_looks_15 : decode cX12_looks 15 = .ok (.iload_n 3, 1) := dgq (p := 15) daX12_looks_0 dbX12_looks_0.2.2.2.2.2.2.2.2.1
theorem dX12_looks_16 : decode cX12_looks 16 = .ok (.istore 6, 2) := dgq (p := 16) daX12_looks_0 dbX12_looks_0.2.2.2.2.2.2.2.2.2
def dsX12_looks_18 : ByteArray := ⟨#[21, 6, 21, 4, 163, 0, 68, 21, 5, 133, 28, 133, 105, 27, 133]⟩
theorem daX12_looks_18 : agB cX12_looks dsX12_looks_18 18 := agB_of (n := 15) (by decide +kernel)
theorem dbX12_looks_18 : (decode dsX12_looks_18 0 = .ok (.iload 6, 2) ∧ okop dsX12_looks_18 0 = true) ∧ (decode dsX12_looks_18 2 = .ok (.iload 4, 2) ∧ okop dsX12_looks_18 2 = true) ∧ (decode dsX12_looks_18 4 = .ok (.if_icmp .gt 68, 3) ∧ okop dsX12_looks_18 4 = true) ∧ (decode dsX12_looks_18 7 = .ok (.iload 5, 2) ∧ okop dsX12_looks_18 7 = true) ∧ (decode dsX12_looks_18 9 = .ok (.i2l, 1) ∧ okop dsX12_looks_18 9 = true) ∧ (decode dsX12_looks_18 10 = .ok (.iload_n 2, 1) ∧ okop dsX12_looks_18 10 = true) ∧ (decode dsX12_looks_18 11 = .ok (.i2l, 1) ∧ okop dsX12_looks_18 11 = true) ∧ (decode dsX12_looks_18 12 = .ok (.lmul, 1) ∧ okop dsX12_looks_18 12 = true) ∧ (decode dsX12_looks_18 13 = .ok (.iload_n 1, 1) ∧ okop dsX12_looks_18 13 = true) ∧ (decode dsX12_looks_18 14 = .ok (.i2l, 1) ∧ okop dsX12_looks_18 14 = true) := by decide +kernel
theorem dX12_looks_18 : decode cX12_looks 18 = .ok (.iload 6, 2) := dgq (p := 0) daX12_looks_18 dbX12_looks_18.1
theorem dX12_looks_20 : decode cX12_looks 20 = .ok (.iload 4, 2) := dgq (p := 2) daX12_looks_18 dbX12_looks_18.2.1
theorem dX12_looks_22 : decode cX12_looks 22 = .ok (.if_icmp .gt 68, 3) := dgq (p := 4) daX12_looks_18 dbX12_looks_18.2.2.1
theorem dX12_looks_25 : decode cX12_looks 25 = .ok (.iload 5, 2) := dgq (p := 7) daX12_looks_18 dbX12_looks_18.2.2.2.1
theorem dX12_looks_27 : decode cX12_looks 27 = .ok (.i2l, 1) := dgq (p := 9) daX12_looks_18 dbX12_looks_18.2.2.2.2.1
theorem dX12_looks_28 : decode cX12_looks 28 = .ok (.iload_n 2, 1) := dgq (p := 10) daX12_looks_18 dbX12_looks_18.2.2.2.2.2.1
theorem dX12_looks_29 : decode cX12_looks 29 = .ok (.i2l, 1) := dgq (p := 11) daX12_looks_18 dbX12_looks_18.2.2.2.2.2.2.1
theorem dX12_looks_30 : decode cX12_looks 30 = .ok (.lmul, 1) := dgq (p := 12) daX12_looks_18 dbX12_looks_18.2.2.2.2.2.2.2.1
theorem dX12_looks_31 : decode cX12_looks 31 = .ok (.iload_n 1, 1) := dgq (p := 13) daX12_looks_18 dbX12_looks_18.2.2.2.2.2.2.2.2.1
theorem dX12_looks_32 : decode cX12_looks 32 = .ok (.i2l, 1) := dgq (p := 14) daX12_looks_18 dbX12_looks_18.2.2.2.2.2.2.2.2.2
def dsX12_looks_33 : ByteArray := ⟨#[21, 6, 133, 105, 101, 184, 0, 239, 55, 7, 42, 180, 1, 2, 158, 0, 19, 42]⟩
theorem daX12_looks_33 : agB cX12_looks dsX12_looks_33 33 := agB_of (n := 18) (by decide +kernel)
theorem dbX12_looks_33 : (decode dsX12_looks_33 0 = .ok (.iload 6, 2) ∧ okop dsX12_looks_33 0 = true) ∧ (decode dsX12_looks_33 2 = .ok (.i2l, 1) ∧ okop dsX12_looks_33 2 = true) ∧ (decode dsX12_looks_33 3 = .ok (.lmul, 1) ∧ okop dsX12_looks_33 3 = true) ∧ (decode dsX12_looks_33 4 = .ok (.lsub, 1) ∧ okop dsX12_looks_33 4 = true) ∧ (decode dsX12_looks_33 5 = .ok (.invokestatic 239, 3) ∧ okop dsX12_looks_33 5 = true) ∧ (decode dsX12_looks_33 8 = .ok (.lstore 7, 2) ∧ okop dsX12_looks_33 8 = true) ∧ (decode dsX12_looks_33 10 = .ok (.aload_n 0, 1) ∧ okop dsX12_looks_33 10 = true) ∧ (decode dsX12_looks_33 11 = .ok (.getfield 258, 3) ∧ okop dsX12_looks_33 11 = true) ∧ (decode dsX12_looks_33 14 = .ok (.ifCond .le 19, 3) ∧ okop dsX12_looks_33 14 = true) ∧ (decode dsX12_looks_33 17 = .ok (.aload_n 0, 1) ∧ okop dsX12_looks_33 17 = true) := by decide +kernel
theorem dX12_looks_33 : decode cX12_looks 33 = .ok (.iload 6, 2) := dgq (p := 0) daX12_looks_33 dbX12_looks_33.1
theorem dX12_looks_35 : decode cX12_looks 35 = .ok (.i2l, 1) := dgq (p := 2) daX12_looks_33 dbX12_looks_33.2.1
theorem dX12_looks_36 : decode cX12_looks 36 = .ok (.lmul, 1) := dgq (p := 3) daX12_looks_33 dbX12_looks_33.2.2.1
theorem dX12_looks_37 : decode cX12_looks 37 = .ok (.lsub, 1) := dgq (p := 4) daX12_looks_33 dbX12_looks_33.2.2.2.1
theorem dX12_looks_38 : decode cX12_looks 38 = .ok (.invokestatic 239, 3) := dgq (p := 5) daX12_looks_33 dbX12_looks_33.2.2.2.2.1
theorem dX12_looks_41 : decode cX12_looks 41 = .ok (.lstore 7, 2) := dgq (p := 8) daX12_looks_33 dbX12_looks_33.2.2.2.2.2.1
theorem dX12_looks_43 : decode cX12_looks 43 = .ok (.aload_n 0, 1) := dgq (p := 10) daX12_looks_33 dbX12_looks_33.2.2.2.2.2.2.1
theorem dX12_looks_44 : decode cX12_looks 44 = .ok (.getfield 258, 3) := dgq (p := 11) daX12_looks_33 dbX12_looks_33.2.2.2.2.2.2.2.1
theorem dX12_looks_47 : decode cX12_looks 47 = .ok (.ifCond .le 19, 3) := dgq (p := 14) daX12_looks_33 dbX12_looks_33.2.2.2.2.2.2.2.2.1
theorem dX12_looks_50 : decode cX12_looks 50 = .ok (.aload_n 0, 1) := dgq (p := 17) daX12_looks_33 dbX12_looks_33.2.2.2.2.2.2.2.2.2
def dsX12_looks_51 : ByteArray := ⟨#[21, 5, 21, 6, 22, 7, 182, 1, 5, 154, 0, 6, 167, 0, 21, 42, 21, 5, 181, 1, 2, 42]⟩
theorem daX12_looks_51 : agB cX12_looks dsX12_looks_51 51 := agB_of (n := 22) (by decide +kernel)
theorem dbX12_looks_51 : (decode dsX12_looks_51 0 = .ok (.iload 5, 2) ∧ okop dsX12_looks_51 0 = true) ∧ (decode dsX12_looks_51 2 = .ok (.iload 6, 2) ∧ okop dsX12_looks_51 2 = true) ∧ (decode dsX12_looks_51 4 = .ok (.lload 7, 2) ∧ okop dsX12_looks_51 4 = true) ∧ (decode dsX12_looks_51 6 = .ok (.invokevirtual 261, 3) ∧ okop dsX12_looks_51 6 = true) ∧ (decode dsX12_looks_51 9 = .ok (.ifCond .ne 6, 3) ∧ okop dsX12_looks_51 9 = true) ∧ (decode dsX12_looks_51 12 = .ok (.goto 21, 3) ∧ okop dsX12_looks_51 12 = true) ∧ (decode dsX12_looks_51 15 = .ok (.aload_n 0, 1) ∧ okop dsX12_looks_51 15 = true) ∧ (decode dsX12_looks_51 16 = .ok (.iload 5, 2) ∧ okop dsX12_looks_51 16 = true) ∧ (decode dsX12_looks_51 18 = .ok (.putfield 258, 3) ∧ okop dsX12_looks_51 18 = true) ∧ (decode dsX12_looks_51 21 = .ok (.aload_n 0, 1) ∧ okop dsX12_looks_51 21 = true) := by decide +kernel
theorem dX12_looks_51 : decode cX12_looks 51 = .ok (.iload 5, 2) := dgq (p := 0) daX12_looks_51 dbX12_looks_51.1
theorem dX12_looks_53 : decode cX12_looks 53 = .ok (.iload 6, 2) := dgq (p := 2) daX12_looks_51 dbX12_looks_51.2.1
theorem dX12_looks_55 : decode cX12_looks 55 = .ok (.lload 7, 2) := dgq (p := 4) daX12_looks_51 dbX12_looks_51.2.2.1
theorem dX12_looks_57 : decode cX12_looks 57 = .ok (.invokevirtual 261, 3) := dgq (p := 6) daX12_looks_51 dbX12_looks_51.2.2.2.1
theorem dX12_looks_60 : decode cX12_looks 60 = .ok (.ifCond .ne 6, 3) := dgq (p := 9) daX12_looks_51 dbX12_looks_51.2.2.2.2.1
theorem dX12_looks_63 : decode cX12_looks 63 = .ok (.goto 21, 3) := dgq (p := 12) daX12_looks_51 dbX12_looks_51.2.2.2.2.2.1
theorem dX12_looks_66 : decode cX12_looks 66 = .ok (.aload_n 0, 1) := dgq (p := 15) daX12_looks_51 dbX12_looks_51.2.2.2.2.2.2.1
theorem dX12_looks_67 : decode cX12_looks 67 = .ok (.iload 5, 2) := dgq (p := 16) daX12_looks_51 dbX12_looks_51.2.2.2.2.2.2.2.1
theorem dX12_looks_69 : decode cX12_looks 69 = .ok (.putfield 258, 3) := dgq (p := 18) daX12_looks_51 dbX12_looks_51.2.2.2.2.2.2.2.2.1
theorem dX12_looks_72 : decode cX12_looks 72 = .ok (.aload_n 0, 1) := dgq (p := 21) daX12_looks_51 dbX12_looks_51.2.2.2.2.2.2.2.2.2
def dsX12_looks_73 : ByteArray := ⟨#[21, 6, 181, 0, 251, 42, 22, 7, 181, 0, 254, 132, 6, 1, 167, 255, 187, 132, 5, 1, 167, 255, 171, 177]⟩
theorem daX12_looks_73 : agB cX12_looks dsX12_looks_73 73 := agB_of (n := 24) (by decide +kernel)
theorem dbX12_looks_73 : (decode dsX12_looks_73 0 = .ok (.iload 6, 2) ∧ okop dsX12_looks_73 0 = true) ∧ (decode dsX12_looks_73 2 = .ok (.putfield 251, 3) ∧ okop dsX12_looks_73 2 = true) ∧ (decode dsX12_looks_73 5 = .ok (.aload_n 0, 1) ∧ okop dsX12_looks_73 5 = true) ∧ (decode dsX12_looks_73 6 = .ok (.lload 7, 2) ∧ okop dsX12_looks_73 6 = true) ∧ (decode dsX12_looks_73 8 = .ok (.putfield 254, 3) ∧ okop dsX12_looks_73 8 = true) ∧ (decode dsX12_looks_73 11 = .ok (.iinc 6 1, 3) ∧ okop dsX12_looks_73 11 = true) ∧ (decode dsX12_looks_73 14 = .ok (.goto (-69), 3) ∧ okop dsX12_looks_73 14 = true) ∧ (decode dsX12_looks_73 17 = .ok (.iinc 5 1, 3) ∧ okop dsX12_looks_73 17 = true) ∧ (decode dsX12_looks_73 20 = .ok (.goto (-85), 3) ∧ okop dsX12_looks_73 20 = true) ∧ (decode dsX12_looks_73 23 = .ok (.return_, 1) ∧ okop dsX12_looks_73 23 = true) := by decide +kernel
theorem dX12_looks_73 : decode cX12_looks 73 = .ok (.iload 6, 2) := dgq (p := 0) daX12_looks_73 dbX12_looks_73.1
theorem dX12_looks_75 : decode cX12_looks 75 = .ok (.putfield 251, 3) := dgq (p := 2) daX12_looks_73 dbX12_looks_73.2.1
theorem dX12_looks_78 : decode cX12_looks 78 = .ok (.aload_n 0, 1) := dgq (p := 5) daX12_looks_73 dbX12_looks_73.2.2.1
theorem dX12_looks_79 : decode cX12_looks 79 = .ok (.lload 7, 2) := dgq (p := 6) daX12_looks_73 dbX12_looks_73.2.2.2.1
theorem dX12_looks_81 : decode cX12_looks 81 = .ok (.putfield 254, 3) := dgq (p := 8) daX12_looks_73 dbX12_looks_73.2.2.2.2.1
theorem dX12_looks_84 : decode cX12_looks 84 = .ok (.iinc 6 1, 3) := dgq (p := 11) daX12_looks_73 dbX12_looks_73.2.2.2.2.2.1
theorem dX12_looks_87 : decode cX12_looks 87 = .ok (.goto (-69), 3) := dgq (p := 14) daX12_looks_73 dbX12_looks_73.2.2.2.2.2.2.1
theorem dX12_looks_90 : decode cX12_looks 90 = .ok (.iinc 5 1, 3) := dgq (p := 17) daX12_looks_73 dbX12_looks_73.2.2.2.2.2.2.2.1
theorem dX12_looks_93 : decode cX12_looks 93 = .ok (.goto (-85), 3) := dgq (p := 20) daX12_looks_73 dbX12_looks_73.2.2.2.2.2.2.2.2.1
theorem dX12_looks_96 : decode cX12_looks 96 = .ok (.return_, 1) := dgq (p := 23) daX12_looks_73 dbX12_looks_73.2.2.2.2.2.2.2.2.2
set_option maxRecDepth 20000 in
theorem ggX12_bestPair_X12_isBounds : GoodIn wsX12_bestPair wsX12_isBounds := goodIn_q _ [6, 7, 8, 9, 10, 5, 11] rfl (by decide +kernel)
set_option maxRecDepth 20000 in
theorem gX12_bestPair_X12_isBounds : GoodIn wsX12_bestPair (wsV RX12 265 RX12 yX12_isBounds wsX12_isBounds) := goodIn_app (goodIn_q _ [2, 3, 4, 5] rfl (by decide +kernel)) ggX12_bestPair_X12_isBounds
set_option maxRecDepth 20000 in
theorem ggX12_bestPair_X12_fails : GoodIn wsX12_bestPair wsX12_fails := goodIn_ca (goodIn_q _ [15, 16] rfl (by decide +kernel)) (goodIn_sub (fun _ h => (List.mem_cons_of_mem _ (List.mem_append_left _ (List.mem_append_right _ h)))) tg_wsX120)
set_option maxRecDepth 20000 in
theorem gX12_bestPair_X12_fails : GoodIn wsX12_bestPair (wsV RX12 143 RX12 yX12_fails wsX12_fails) := goodIn_app (goodIn_q _ [12, 13, 14, 5] rfl (by decide +kernel)) ggX12_bestPair_X12_fails
set_option maxRecDepth 20000 in
theorem ggX12_bestPair_X12_looks : GoodIn wsX12_bestPair wsX12_looks := goodIn_ca (goodIn_ca (goodIn_q _ [20, 1, 21, 22, 23, 24, 25, 26, 27, 28, 29, 5, 30, 31, 32, 33] rfl (by decide +kernel)) (goodIn_sub (fun _ h => (List.mem_cons_of_mem _ (List.mem_append_left _ (List.mem_append_right _ h)))) tg_wsX120)) (goodIn_sub (fun _ h => List.mem_cons_of_mem _ (List.mem_append_right _ h)) (by decide +kernel))
set_option maxRecDepth 20000 in
theorem gX12_bestPair_X12_looks : GoodIn wsX12_bestPair (wsV RX12 268 RX12 yX12_looks wsX12_looks) := goodIn_app (goodIn_q _ [17, 18, 19, 5] rfl (by decide +kernel)) ggX12_bestPair_X12_looks
set_option maxRecDepth 20000 in
theorem ggX12_bestPair_X12_answer : GoodIn wsX12_bestPair wsX12_answer := goodIn_ca (goodIn_q _ [37, 16] rfl (by decide +kernel)) (goodIn_sub (fun _ h => (List.mem_cons_of_mem _ (List.mem_append_left _ (List.mem_append_right _ h)))) tg_wsX120)
set_option maxRecDepth 20000 in
theorem gX12_bestPair_X12_answer : GoodIn wsX12_bestPair (wsV RX12 153 RX12 yX12_answer wsX12_answer) := goodIn_app (goodIn_q _ [34, 35, 36, 5] rfl (by decide +kernel)) ggX12_bestPair_X12_answer
def dsX12_bestPair_0 : ByteArray := ⟨#[42, 27, 28, 29, 21, 4, 182, 1, 9, 154, 0, 9, 42, 4, 182, 0, 143]⟩
theorem daX12_bestPair_0 : agB cX12_bestPair dsX12_bestPair_0 0 := agB_of (n := 17) (by decide +kernel)
theorem dbX12_bestPair_0 : (decode dsX12_bestPair_0 0 = .ok (.aload_n 0, 1) ∧ okop dsX12_bestPair_0 0 = true) ∧ (decode dsX12_bestPair_0 1 = .ok (.iload_n 1, 1) ∧ okop dsX12_bestPair_0 1 = true) ∧ (decode dsX12_bestPair_0 2 = .ok (.iload_n 2, 1) ∧ okop dsX12_bestPair_0 2 = true) ∧ (decode dsX12_bestPair_0 3 = .ok (.iload_n 3, 1) ∧ okop dsX12_bestPair_0 3 = true) ∧ (decode dsX12_bestPair_0 4 = .ok (.iload 4, 2) ∧ okop dsX12_bestPair_0 4 = true) ∧ (decode dsX12_bestPair_0 6 = .ok (.invokevirtual 265, 3) ∧ okop dsX12_bestPair_0 6 = true) ∧ (decode dsX12_bestPair_0 9 = .ok (.ifCond .ne 9, 3) ∧ okop dsX12_bestPair_0 9 = true) ∧ (decode dsX12_bestPair_0 12 = .ok (.aload_n 0, 1) ∧ okop dsX12_bestPair_0 12 = true) ∧ (decode dsX12_bestPair_0 13 = .ok (.iconst 1, 1) ∧ okop dsX12_bestPair_0 13 = true) ∧ (decode dsX12_bestPair_0 14 = .ok (.invokevirtual 143, 3) ∧ okop dsX12_bestPair_0 14 = true) := by decide +kernel
theorem dX12_bestPair_0 : decode cX12_bestPair 0 = .ok (.aload_n 0, 1) := dgq (p := 0) daX12_bestPair_0 dbX12_bestPair_0.1
theorem dX12_bestPair_1 : decode cX12_bestPair 1 = .ok (.iload_n 1, 1) := dgq (p := 1) daX12_bestPair_0 dbX12_bestPair_0.2.1
theorem dX12_bestPair_2 : decode cX12_bestPair 2 = .ok (.iload_n 2, 1) := dgq (p := 2) daX12_bestPair_0 dbX12_bestPair_0.2.2.1
theorem dX12_bestPair_3 : decode cX12_bestPair 3 = .ok (.iload_n 3, 1) := dgq (p := 3) daX12_bestPair_0 dbX12_bestPair_0.2.2.2.1
theorem dX12_bestPair_4 : decode cX12_bestPair 4 = .ok (.iload 4, 2) := dgq (p := 4) daX12_bestPair_0 dbX12_bestPair_0.2.2.2.2.1
theorem dX12_bestPair_6 : decode cX12_bestPair 6 = .ok (.invokevirtual 265, 3) := dgq (p := 6) daX12_bestPair_0 dbX12_bestPair_0.2.2.2.2.2.1
theorem dX12_bestPair_9 : decode cX12_bestPair 9 = .ok (.ifCond .ne 9, 3) := dgq (p := 9) daX12_bestPair_0 dbX12_bestPair_0.2.2.2.2.2.2.1
theorem dX12_bestPair_12 : decode cX12_bestPair 12 = .ok (.aload_n 0, 1) := dgq (p := 12) daX12_bestPair_0 dbX12_bestPair_0.2.2.2.2.2.2.2.1
theorem dX12_bestPair_13 : decode cX12_bestPair 13 = .ok (.iconst 1, 1) := dgq (p := 13) daX12_bestPair_0 dbX12_bestPair_0.2.2.2.2.2.2.2.2.1
theorem dX12_bestPair_14 : decode cX12_bestPair 14 = .ok (.invokevirtual 143, 3) := dgq (p := 14) daX12_bestPair_0 dbX12_bestPair_0.2.2.2.2.2.2.2.2.2
def dsX12_bestPair_17 : ByteArray := ⟨#[172, 42, 27, 28, 29, 21, 4, 182, 1, 12, 42, 42, 180, 1, 2]⟩
theorem daX12_bestPair_17 : agB cX12_bestPair dsX12_bestPair_17 17 := agB_of (n := 15) (by decide +kernel)
theorem dbX12_bestPair_17 : (decode dsX12_bestPair_17 0 = .ok (.ireturn, 1) ∧ okop dsX12_bestPair_17 0 = true) ∧ (decode dsX12_bestPair_17 1 = .ok (.aload_n 0, 1) ∧ okop dsX12_bestPair_17 1 = true) ∧ (decode dsX12_bestPair_17 2 = .ok (.iload_n 1, 1) ∧ okop dsX12_bestPair_17 2 = true) ∧ (decode dsX12_bestPair_17 3 = .ok (.iload_n 2, 1) ∧ okop dsX12_bestPair_17 3 = true) ∧ (decode dsX12_bestPair_17 4 = .ok (.iload_n 3, 1) ∧ okop dsX12_bestPair_17 4 = true) ∧ (decode dsX12_bestPair_17 5 = .ok (.iload 4, 2) ∧ okop dsX12_bestPair_17 5 = true) ∧ (decode dsX12_bestPair_17 7 = .ok (.invokevirtual 268, 3) ∧ okop dsX12_bestPair_17 7 = true) ∧ (decode dsX12_bestPair_17 10 = .ok (.aload_n 0, 1) ∧ okop dsX12_bestPair_17 10 = true) ∧ (decode dsX12_bestPair_17 11 = .ok (.aload_n 0, 1) ∧ okop dsX12_bestPair_17 11 = true) ∧ (decode dsX12_bestPair_17 12 = .ok (.getfield 258, 3) ∧ okop dsX12_bestPair_17 12 = true) := by decide +kernel
theorem dX12_bestPair_17 : decode cX12_bestPair 17 = .ok (.ireturn, 1) := dgq (p := 0) daX12_bestPair_17 dbX12_bestPair_17.1
theorem dX12_bestPair_18 : decode cX12_bestPair 18 = .ok (.aload_n 0, 1) := dgq (p := 1) daX12_bestPair_17 dbX12_bestPair_17.2.1
theorem dX12_bestPair_19 : decode cX12_bestPair 19 = .ok (.iload_n 1, 1) := dgq (p := 2) daX12_bestPair_17 dbX12_bestPair_17.2.2.1
theorem dX12_bestPair_20 : decode cX12_bestPair 20 = .ok (.iload_n 2, 1) := dgq (p := 3) daX12_bestPair_17 dbX12_bestPair_17.2.2.2.1
theorem dX12_bestPair_21 : decode cX12_bestPair 21 = .ok (.iload_n 3, 1) := dgq (p := 4) daX12_bestPair_17 dbX12_bestPair_17.2.2.2.2.1
theorem dX12_bestPair_22 : decode cX12_bestPair 22 = .ok (.iload 4, 2) := dgq (p := 5) daX12_bestPair_17 dbX12_bestPair_17.2.2.2.2.2.1
theorem dX12_bestPair_24 : decode cX12_bestPair 24 = .ok (.invokevirtual 268, 3) := dgq (p := 7) daX12_bestPair_17 dbX12_bestPair_17.2.2.2.2.2.2.1
theorem dX12_bestPair_27 : decode cX12_bestPair 27 = .ok (.aload_n 0, 1) := dgq (p := 10) daX12_bestPair_17 dbX12_bestPair_17.2.2.2.2.2.2.2.1
theorem dX12_bestPair_28 : decode cX12_bestPair 28 = .ok (.aload_n 0, 1) := dgq (p := 11) daX12_bestPair_17 dbX12_bestPair_17.2.2.2.2.2.2.2.2.1
theorem dX12_bestPair_29 : decode cX12_bestPair 29 = .ok (.getfield 258, 3) := dgq (p := 12) daX12_bestPair_17 dbX12_bestPair_17.2.2.2.2.2.2.2.2.2
theorem dX12_bestPair_32 : decode cX12_bestPair 32 = .ok (.invokevirtual 153, 3) := by decide +kernel
theorem dX12_bestPair_35 : decode cX12_bestPair 35 = .ok (.ireturn, 1) := by decide +kernel
set_option maxRecDepth 20000 in
theorem ggX12_bestMate_X12_isBounds : GoodIn wsX12_bestMate wsX12_isBounds := goodIn_q _ [6, 7, 8, 9, 10, 5, 11] rfl (by decide +kernel)
set_option maxRecDepth 20000 in
theorem gX12_bestMate_X12_isBounds : GoodIn wsX12_bestMate (wsV RX12 265 RX12 yX12_isBounds wsX12_isBounds) := goodIn_app (goodIn_q _ [2, 3, 4, 5] rfl (by decide +kernel)) ggX12_bestMate_X12_isBounds
set_option maxRecDepth 20000 in
theorem ggX12_bestMate_X12_fails : GoodIn wsX12_bestMate wsX12_fails := goodIn_ca (goodIn_q _ [15, 16] rfl (by decide +kernel)) (goodIn_sub (fun _ h => (List.mem_cons_of_mem _ (List.mem_append_left _ (List.mem_append_right _ h)))) tg_wsX120)
set_option maxRecDepth 20000 in
theorem gX12_bestMate_X12_fails : GoodIn wsX12_bestMate (wsV RX12 143 RX12 yX12_fails wsX12_fails) := goodIn_app (goodIn_q _ [12, 13, 14, 5] rfl (by decide +kernel)) ggX12_bestMate_X12_fails
set_option maxRecDepth 20000 in
theorem ggX12_bestMate_X12_looks : GoodIn wsX12_bestMate wsX12_looks := goodIn_ca (goodIn_ca (goodIn_q _ [20, 21, 22, 23, 24, 25, 1, 26, 27, 28, 29, 5, 30, 31, 32, 33] rfl (by decide +kernel)) (goodIn_sub (fun _ h => (List.mem_cons_of_mem _ (List.mem_append_left _ (List.mem_append_right _ h)))) tg_wsX120)) (goodIn_sub (fun _ h => List.mem_cons_of_mem _ (List.mem_append_right _ h)) (by decide +kernel))
set_option maxRecDepth 20000 in
theorem gX12_bestMate_X12_looks : GoodIn wsX12_bestMate (wsV RX12 268 RX12 yX12_looks wsX12_looks) := goodIn_app (goodIn_q _ [17, 18, 19, 5] rfl (by decide +kernel)) ggX12_bestMate_X12_looks
set_option maxRecDepth 20000 in
theorem ggX12_bestMate_X12_answer : GoodIn wsX12_bestMate wsX12_answer := goodIn_ca (goodIn_q _ [37, 16] rfl (by decide +kernel)) (goodIn_sub (fun _ h => (List.mem_cons_of_mem _ (List.mem_append_left _ (List.mem_append_right _ h)))) tg_wsX120)
set_option maxRecDepth 20000 in
theorem gX12_bestMate_X12_answer : GoodIn wsX12_bestMate (wsV RX12 153 RX12 yX12_answer wsX12_answer) := goodIn_app (goodIn_q _ [34, 35, 36, 5] rfl (by decide +kernel)) ggX12_bestMate_X12_answer
def dsX12_bestMate_0 : ByteArray := ⟨#[42, 27, 28, 29, 21, 4, 182, 1, 9, 154, 0, 9, 42, 4, 182, 0, 143]⟩
theorem daX12_bestMate_0 : agB cX12_bestMate dsX12_bestMate_0 0 := agB_of (n := 17) (by decide +kernel)
theorem dbX12_bestMate_0 : (decode dsX12_bestMate_0 0 = .ok (.aload_n 0, 1) ∧ okop dsX12_bestMate_0 0 = true) ∧ (decode dsX12_bestMate_0 1 = .ok (.iload_n 1, 1) ∧ okop dsX12_bestMate_0 1 = true) ∧ (decode dsX12_bestMate_0 2 = .ok (.iload_n 2, 1) ∧ okop dsX12_bestMate_0 2 = true) ∧ (decode dsX12_bestMate_0 3 = .ok (.iload_n 3, 1) ∧ okop dsX12_bestMate_0 3 = true) ∧ (decode dsX12_bestMate_0 4 = .ok (.iload 4, 2) ∧ okop dsX12_bestMate_0 4 = true) ∧ (decode dsX12_bestMate_0 6 = .ok (.invokevirtual 265, 3) ∧ okop dsX12_bestMate_0 6 = true) ∧ (decode dsX12_bestMate_0 9 = .ok (.ifCond .ne 9, 3) ∧ okop dsX12_bestMate_0 9 = true) ∧ (decode dsX12_bestMate_0 12 = .ok (.aload_n 0, 1) ∧ okop dsX12_bestMate_0 12 = true) ∧ (decode dsX12_bestMate_0 13 = .ok (.iconst 1, 1) ∧ okop dsX12_bestMate_0 13 = true) ∧ (decode dsX12_bestMate_0 14 = .ok (.invokevirtual 143, 3) ∧ okop dsX12_bestMate_0 14 = true) := by decide +kernel
theorem dX12_bestMate_0 : decode cX12_bestMate 0 = .ok (.aload_n 0, 1) := dgq (p := 0) daX12_bestMate_0 dbX12_bestMate_0.1
theorem dX12_bestMate_1 : decode cX12_bestMate 1 = .ok (.iload_n 1, 1) := dgq (p := 1) daX12_bestMate_0 dbX12_bestMate_0.2.1
theorem dX12_bestMate_2 : decode cX12_bestMate 2 = .ok (.iload_n 2, 1) := dgq (p := 2) daX12_bestMate_0 dbX12_bestMate_0.2.2.1
theorem dX12_bestMate_3 : decode cX12_bestMate 3 = .ok (.iload_n 3, 1) := dgq (p := 3) daX12_bestMate_0 dbX12_bestMate_0.2.2.2.1
theorem dX12_bestMate_4 : decode cX12_bestMate 4 = .ok (.iload 4, 2) := dgq (p := 4) daX12_bestMate_0 dbX12_bestMate_0.2.2.2.2.1
theorem dX12_bestMate_6 : decode cX12_bestMate 6 = .ok (.invokevirtual 265, 3) := dgq (p := 6) daX12_bestMate_0 dbX12_bestMate_0.2.2.2.2.2.1
theorem dX12_bestMate_9 : decode cX12_bestMate 9 = .ok (.ifCond .ne 9, 3) := dgq (p := 9) daX12_bestMate_0 dbX12_bestMate_0.2.2.2.2.2.2.1
theorem dX12_bestMate_12 : decode cX12_bestMate 12 = .ok (.aload_n 0, 1) := dgq (p := 12) daX12_bestMate_0 dbX12_bestMate_0.2.2.2.2.2.2.2.1
theorem dX12_bestMate_13 : decode cX12_bestMate 13 = .ok (.iconst 1, 1) := dgq (p := 13) daX12_bestMate_0 dbX12_bestMate_0.2.2.2.2.2.2.2.2.1
theorem dX12_bestMate_14 : decode cX12_bestMate 14 = .ok (.invokevirtual 143, 3) := dgq (p := 14) daX12_bestMate_0 dbX12_bestMate_0.2.2.2.2.2.2.2.2.2
def dsX12_bestMate_17 : ByteArray := ⟨#[172, 42, 27, 28, 29, 21, 4, 182, 1, 12, 42, 42, 180, 0, 251]⟩
theorem daX12_bestMate_17 : agB cX12_bestMate dsX12_bestMate_17 17 := agB_of (n := 15) (by decide +kernel)
theorem dbX12_bestMate_17 : (decode dsX12_bestMate_17 0 = .ok (.ireturn, 1) ∧ okop dsX12_bestMate_17 0 = true) ∧ (decode dsX12_bestMate_17 1 = .ok (.aload_n 0, 1) ∧ okop dsX12_bestMate_17 1 = true) ∧ (decode dsX12_bestMate_17 2 = .ok (.iload_n 1, 1) ∧ okop dsX12_bestMate_17 2 = true) ∧ (decode dsX12_bestMate_17 3 = .ok (.iload_n 2, 1) ∧ okop dsX12_bestMate_17 3 = true) ∧ (decode dsX12_bestMate_17 4 = .ok (.iload_n 3, 1) ∧ okop dsX12_bestMate_17 4 = true) ∧ (decode dsX12_bestMate_17 5 = .ok (.iload 4, 2) ∧ okop dsX12_bestMate_17 5 = true) ∧ (decode dsX12_bestMate_17 7 = .ok (.invokevirtual 268, 3) ∧ okop dsX12_bestMate_17 7 = true) ∧ (decode dsX12_bestMate_17 10 = .ok (.aload_n 0, 1) ∧ okop dsX12_bestMate_17 10 = true) ∧ (decode dsX12_bestMate_17 11 = .ok (.aload_n 0, 1) ∧ okop dsX12_bestMate_17 11 = true) ∧ (decode dsX12_bestMate_17 12 = .ok (.getfield 251, 3) ∧ okop dsX12_bestMate_17 12 = true) := by decide +kernel
theorem dX12_bestMate_17 : decode cX12_bestMate 17 = .ok (.ireturn, 1) := dgq (p := 0) daX12_bestMate_17 dbX12_bestMate_17.1
theorem dX12_bestMate_18 : decode cX12_bestMate 18 = .ok (.aload_n 0, 1) := dgq (p := 1) daX12_bestMate_17 dbX12_bestMate_17.2.1
theorem dX12_bestMate_19 : decode cX12_bestMate 19 = .ok (.iload_n 1, 1) := dgq (p := 2) daX12_bestMate_17 dbX12_bestMate_17.2.2.1
theorem dX12_bestMate_20 : decode cX12_bestMate 20 = .ok (.iload_n 2, 1) := dgq (p := 3) daX12_bestMate_17 dbX12_bestMate_17.2.2.2.1
theorem dX12_bestMate_21 : decode cX12_bestMate 21 = .ok (.iload_n 3, 1) := dgq (p := 4) daX12_bestMate_17 dbX12_bestMate_17.2.2.2.2.1
theorem dX12_bestMate_22 : decode cX12_bestMate 22 = .ok (.iload 4, 2) := dgq (p := 5) daX12_bestMate_17 dbX12_bestMate_17.2.2.2.2.2.1
theorem dX12_bestMate_24 : decode cX12_bestMate 24 = .ok (.invokevirtual 268, 3) := dgq (p := 7) daX12_bestMate_17 dbX12_bestMate_17.2.2.2.2.2.2.1
theorem dX12_bestMate_27 : decode cX12_bestMate 27 = .ok (.aload_n 0, 1) := dgq (p := 10) daX12_bestMate_17 dbX12_bestMate_17.2.2.2.2.2.2.2.1
theorem dX12_bestMate_28 : decode cX12_bestMate 28 = .ok (.aload_n 0, 1) := dgq (p := 11) daX12_bestMate_17 dbX12_bestMate_17.2.2.2.2.2.2.2.2.1
theorem dX12_bestMate_29 : decode cX12_bestMate 29 = .ok (.getfield 251, 3) := dgq (p := 12) daX12_bestMate_17 dbX12_bestMate_17.2.2.2.2.2.2.2.2.2
theorem dX12_bestMate_32 : decode cX12_bestMate 32 = .ok (.invokevirtual 153, 3) := by decide +kernel
theorem dX12_bestMate_35 : decode cX12_bestMate 35 = .ok (.ireturn, 1) := by decide +kernel
def dsX12_goes_0 : ByteArray := ⟨#[27, 26, 100, 5, 108, 62, 27, 26, 100, 5]⟩
theorem daX12_goes_0 : agB cX12_goes dsX12_goes_0 0 := agB_of (n := 10) (by decide +kernel)
theorem dbX12_goes_0 : (decode dsX12_goes_0 0 = .ok (.iload_n 1, 1) ∧ okop dsX12_goes_0 0 = true) ∧ (decode dsX12_goes_0 1 = .ok (.iload_n 0, 1) ∧ okop dsX12_goes_0 1 = true) ∧ (decode dsX12_goes_0 2 = .ok (.isub, 1) ∧ okop dsX12_goes_0 2 = true) ∧ (decode dsX12_goes_0 3 = .ok (.iconst 2, 1) ∧ okop dsX12_goes_0 3 = true) ∧ (decode dsX12_goes_0 4 = .ok (.idiv, 1) ∧ okop dsX12_goes_0 4 = true) ∧ (decode dsX12_goes_0 5 = .ok (.istore_n 3, 1) ∧ okop dsX12_goes_0 5 = true) ∧ (decode dsX12_goes_0 6 = .ok (.iload_n 1, 1) ∧ okop dsX12_goes_0 6 = true) ∧ (decode dsX12_goes_0 7 = .ok (.iload_n 0, 1) ∧ okop dsX12_goes_0 7 = true) ∧ (decode dsX12_goes_0 8 = .ok (.isub, 1) ∧ okop dsX12_goes_0 8 = true) ∧ (decode dsX12_goes_0 9 = .ok (.iconst 2, 1) ∧ okop dsX12_goes_0 9 = true) := by decide +kernel
theorem dX12_goes_0 : decode cX12_goes 0 = .ok (.iload_n 1, 1) := dgq (p := 0) daX12_goes_0 dbX12_goes_0.1
theorem dX12_goes_1 : decode cX12_goes 1 = .ok (.iload_n 0, 1) := dgq (p := 1) daX12_goes_0 dbX12_goes_0.2.1
theorem dX12_goes_2 : decode cX12_goes 2 = .ok (.isub, 1) := dgq (p := 2) daX12_goes_0 dbX12_goes_0.2.2.1
theorem dX12_goes_3 : decode cX12_goes 3 = .ok (.iconst 2, 1) := dgq (p := 3) daX12_goes_0 dbX12_goes_0.2.2.2.1
theorem dX12_goes_4 : decode cX12_goes 4 = .ok (.idiv, 1) := dgq (p := 4) daX12_goes_0 dbX12_goes_0.2.2.2.2.1
theorem dX12_goes_5 : decode cX12_goes 5 = .ok (.istore_n 3, 1) := dgq (p := 5) daX12_goes_0 dbX12_goes_0.2.2.2.2.2.1
theorem dX12_goes_6 : decode cX12_goes 6 = .ok (.iload_n 1, 1) := dgq (p := 6) daX12_goes_0 dbX12_goes_0.2.2.2.2.2.2.1
theorem dX12_goes_7 : decode cX12_goes 7 = .ok (.iload_n 0, 1) := dgq (p := 7) daX12_goes_0 dbX12_goes_0.2.2.2.2.2.2.2.1
theorem dX12_goes_8 : decode cX12_goes 8 = .ok (.isub, 1) := dgq (p := 8) daX12_goes_0 dbX12_goes_0.2.2.2.2.2.2.2.2.1
theorem dX12_goes_9 : decode cX12_goes 9 = .ok (.iconst 2, 1) := dgq (p := 9) daX12_goes_0 dbX12_goes_0.2.2.2.2.2.2.2.2.2
def dsX12_goes_10 : ByteArray := ⟨#[112, 154, 0, 9, 29, 16, 6, 162, 0, 6, 16, 119, 172, 26, 27, 96]⟩
theorem daX12_goes_10 : agB cX12_goes dsX12_goes_10 10 := agB_of (n := 16) (by decide +kernel)
theorem dbX12_goes_10 : (decode dsX12_goes_10 0 = .ok (.irem, 1) ∧ okop dsX12_goes_10 0 = true) ∧ (decode dsX12_goes_10 1 = .ok (.ifCond .ne 9, 3) ∧ okop dsX12_goes_10 1 = true) ∧ (decode dsX12_goes_10 4 = .ok (.iload_n 3, 1) ∧ okop dsX12_goes_10 4 = true) ∧ (decode dsX12_goes_10 5 = .ok (.bipush 6, 2) ∧ okop dsX12_goes_10 5 = true) ∧ (decode dsX12_goes_10 7 = .ok (.if_icmp .ge 6, 3) ∧ okop dsX12_goes_10 7 = true) ∧ (decode dsX12_goes_10 10 = .ok (.bipush 119, 2) ∧ okop dsX12_goes_10 10 = true) ∧ (decode dsX12_goes_10 12 = .ok (.ireturn, 1) ∧ okop dsX12_goes_10 12 = true) ∧ (decode dsX12_goes_10 13 = .ok (.iload_n 0, 1) ∧ okop dsX12_goes_10 13 = true) ∧ (decode dsX12_goes_10 14 = .ok (.iload_n 1, 1) ∧ okop dsX12_goes_10 14 = true) ∧ (decode dsX12_goes_10 15 = .ok (.iadd, 1) ∧ okop dsX12_goes_10 15 = true) := by decide +kernel
theorem dX12_goes_10 : decode cX12_goes 10 = .ok (.irem, 1) := dgq (p := 0) daX12_goes_10 dbX12_goes_10.1
theorem dX12_goes_11 : decode cX12_goes 11 = .ok (.ifCond .ne 9, 3) := dgq (p := 1) daX12_goes_10 dbX12_goes_10.2.1
theorem dX12_goes_14 : decode cX12_goes 14 = .ok (.iload_n 3, 1) := dgq (p := 4) daX12_goes_10 dbX12_goes_10.2.2.1
theorem dX12_goes_15 : decode cX12_goes 15 = .ok (.bipush 6, 2) := dgq (p := 5) daX12_goes_10 dbX12_goes_10.2.2.2.1
theorem dX12_goes_17 : decode cX12_goes 17 = .ok (.if_icmp .ge 6, 3) := dgq (p := 7) daX12_goes_10 dbX12_goes_10.2.2.2.2.1
theorem dX12_goes_20 : decode cX12_goes 20 = .ok (.bipush 119, 2) := dgq (p := 10) daX12_goes_10 dbX12_goes_10.2.2.2.2.2.1
theorem dX12_goes_22 : decode cX12_goes 22 = .ok (.ireturn, 1) := dgq (p := 12) daX12_goes_10 dbX12_goes_10.2.2.2.2.2.2.1
theorem dX12_goes_23 : decode cX12_goes 23 = .ok (.iload_n 0, 1) := dgq (p := 13) daX12_goes_10 dbX12_goes_10.2.2.2.2.2.2.2.1
theorem dX12_goes_24 : decode cX12_goes 24 = .ok (.iload_n 1, 1) := dgq (p := 14) daX12_goes_10 dbX12_goes_10.2.2.2.2.2.2.2.2.1
theorem dX12_goes_25 : decode cX12_goes 25 = .ok (.iadd, 1) := dgq (p := 15) daX12_goes_10 dbX12_goes_10.2.2.2.2.2.2.2.2.2
def dsX12_goes_26 : ByteArray := ⟨#[28, 112, 153, 0, 6, 16, 97, 172, 28, 6, 160, 0, 9, 17, 3, 98, 167, 0, 28]⟩
theorem daX12_goes_26 : agB cX12_goes dsX12_goes_26 26 := agB_of (n := 19) (by decide +kernel)
theorem dbX12_goes_26 : (decode dsX12_goes_26 0 = .ok (.iload_n 2, 1) ∧ okop dsX12_goes_26 0 = true) ∧ (decode dsX12_goes_26 1 = .ok (.irem, 1) ∧ okop dsX12_goes_26 1 = true) ∧ (decode dsX12_goes_26 2 = .ok (.ifCond .eq 6, 3) ∧ okop dsX12_goes_26 2 = true) ∧ (decode dsX12_goes_26 5 = .ok (.bipush 97, 2) ∧ okop dsX12_goes_26 5 = true) ∧ (decode dsX12_goes_26 7 = .ok (.ireturn, 1) ∧ okop dsX12_goes_26 7 = true) ∧ (decode dsX12_goes_26 8 = .ok (.iload_n 2, 1) ∧ okop dsX12_goes_26 8 = true) ∧ (decode dsX12_goes_26 9 = .ok (.iconst 3, 1) ∧ okop dsX12_goes_26 9 = true) ∧ (decode dsX12_goes_26 10 = .ok (.if_icmp .ne 9, 3) ∧ okop dsX12_goes_26 10 = true) ∧ (decode dsX12_goes_26 13 = .ok (.sipush 866, 3) ∧ okop dsX12_goes_26 13 = true) ∧ (decode dsX12_goes_26 16 = .ok (.goto 28, 3) ∧ okop dsX12_goes_26 16 = true) := by decide +kernel
theorem dX12_goes_26 : decode cX12_goes 26 = .ok (.iload_n 2, 1) := dgq (p := 0) daX12_goes_26 dbX12_goes_26.1
theorem dX12_goes_27 : decode cX12_goes 27 = .ok (.irem, 1) := dgq (p := 1) daX12_goes_26 dbX12_goes_26.2.1
theorem dX12_goes_28 : decode cX12_goes 28 = .ok (.ifCond .eq 6, 3) := dgq (p := 2) daX12_goes_26 dbX12_goes_26.2.2.1
theorem dX12_goes_31 : decode cX12_goes 31 = .ok (.bipush 97, 2) := dgq (p := 5) daX12_goes_26 dbX12_goes_26.2.2.2.1
theorem dX12_goes_33 : decode cX12_goes 33 = .ok (.ireturn, 1) := dgq (p := 7) daX12_goes_26 dbX12_goes_26.2.2.2.2.1
theorem dX12_goes_34 : decode cX12_goes 34 = .ok (.iload_n 2, 1) := dgq (p := 8) daX12_goes_26 dbX12_goes_26.2.2.2.2.2.1
theorem dX12_goes_35 : decode cX12_goes 35 = .ok (.iconst 3, 1) := dgq (p := 9) daX12_goes_26 dbX12_goes_26.2.2.2.2.2.2.1
theorem dX12_goes_36 : decode cX12_goes 36 = .ok (.if_icmp .ne 9, 3) := dgq (p := 10) daX12_goes_26 dbX12_goes_26.2.2.2.2.2.2.2.1
theorem dX12_goes_39 : decode cX12_goes 39 = .ok (.sipush 866, 3) := dgq (p := 13) daX12_goes_26 dbX12_goes_26.2.2.2.2.2.2.2.2.1
theorem dX12_goes_42 : decode cX12_goes 42 = .ok (.goto 28, 3) := dgq (p := 16) daX12_goes_26 dbX12_goes_26.2.2.2.2.2.2.2.2.2
def dsX12_goes_45 : ByteArray := ⟨#[28, 7, 160, 0, 9, 17, 2, 195, 167, 0, 17, 28, 8, 160, 0, 9, 17, 2, 76, 167, 0, 6]⟩
theorem daX12_goes_45 : agB cX12_goes dsX12_goes_45 45 := agB_of (n := 22) (by decide +kernel)
theorem dbX12_goes_45 : (decode dsX12_goes_45 0 = .ok (.iload_n 2, 1) ∧ okop dsX12_goes_45 0 = true) ∧ (decode dsX12_goes_45 1 = .ok (.iconst 4, 1) ∧ okop dsX12_goes_45 1 = true) ∧ (decode dsX12_goes_45 2 = .ok (.if_icmp .ne 9, 3) ∧ okop dsX12_goes_45 2 = true) ∧ (decode dsX12_goes_45 5 = .ok (.sipush 707, 3) ∧ okop dsX12_goes_45 5 = true) ∧ (decode dsX12_goes_45 8 = .ok (.goto 17, 3) ∧ okop dsX12_goes_45 8 = true) ∧ (decode dsX12_goes_45 11 = .ok (.iload_n 2, 1) ∧ okop dsX12_goes_45 11 = true) ∧ (decode dsX12_goes_45 12 = .ok (.iconst 5, 1) ∧ okop dsX12_goes_45 12 = true) ∧ (decode dsX12_goes_45 13 = .ok (.if_icmp .ne 9, 3) ∧ okop dsX12_goes_45 13 = true) ∧ (decode dsX12_goes_45 16 = .ok (.sipush 588, 3) ∧ okop dsX12_goes_45 16 = true) ∧ (decode dsX12_goes_45 19 = .ok (.goto 6, 3) ∧ okop dsX12_goes_45 19 = true) := by decide +kernel
theorem dX12_goes_45 : decode cX12_goes 45 = .ok (.iload_n 2, 1) := dgq (p := 0) daX12_goes_45 dbX12_goes_45.1
theorem dX12_goes_46 : decode cX12_goes 46 = .ok (.iconst 4, 1) := dgq (p := 1) daX12_goes_45 dbX12_goes_45.2.1
theorem dX12_goes_47 : decode cX12_goes 47 = .ok (.if_icmp .ne 9, 3) := dgq (p := 2) daX12_goes_45 dbX12_goes_45.2.2.1
theorem dX12_goes_50 : decode cX12_goes 50 = .ok (.sipush 707, 3) := dgq (p := 5) daX12_goes_45 dbX12_goes_45.2.2.2.1
theorem dX12_goes_53 : decode cX12_goes 53 = .ok (.goto 17, 3) := dgq (p := 8) daX12_goes_45 dbX12_goes_45.2.2.2.2.1
theorem dX12_goes_56 : decode cX12_goes 56 = .ok (.iload_n 2, 1) := dgq (p := 11) daX12_goes_45 dbX12_goes_45.2.2.2.2.2.1
theorem dX12_goes_57 : decode cX12_goes 57 = .ok (.iconst 5, 1) := dgq (p := 12) daX12_goes_45 dbX12_goes_45.2.2.2.2.2.2.1
theorem dX12_goes_58 : decode cX12_goes 58 = .ok (.if_icmp .ne 9, 3) := dgq (p := 13) daX12_goes_45 dbX12_goes_45.2.2.2.2.2.2.2.1
theorem dX12_goes_61 : decode cX12_goes 61 = .ok (.sipush 588, 3) := dgq (p := 16) daX12_goes_45 dbX12_goes_45.2.2.2.2.2.2.2.2.1
theorem dX12_goes_64 : decode cX12_goes 64 = .ok (.goto 6, 3) := dgq (p := 19) daX12_goes_45 dbX12_goes_45.2.2.2.2.2.2.2.2.2
def dsX12_goes_67 : ByteArray := ⟨#[17, 1, 244, 54, 4, 26, 29, 96, 21, 4, 104, 17, 3, 232, 29, 5]⟩
theorem daX12_goes_67 : agB cX12_goes dsX12_goes_67 67 := agB_of (n := 16) (by decide +kernel)
theorem dbX12_goes_67 : (decode dsX12_goes_67 0 = .ok (.sipush 500, 3) ∧ okop dsX12_goes_67 0 = true) ∧ (decode dsX12_goes_67 3 = .ok (.istore 4, 2) ∧ okop dsX12_goes_67 3 = true) ∧ (decode dsX12_goes_67 5 = .ok (.iload_n 0, 1) ∧ okop dsX12_goes_67 5 = true) ∧ (decode dsX12_goes_67 6 = .ok (.iload_n 3, 1) ∧ okop dsX12_goes_67 6 = true) ∧ (decode dsX12_goes_67 7 = .ok (.iadd, 1) ∧ okop dsX12_goes_67 7 = true) ∧ (decode dsX12_goes_67 8 = .ok (.iload 4, 2) ∧ okop dsX12_goes_67 8 = true) ∧ (decode dsX12_goes_67 10 = .ok (.imul, 1) ∧ okop dsX12_goes_67 10 = true) ∧ (decode dsX12_goes_67 11 = .ok (.sipush 1000, 3) ∧ okop dsX12_goes_67 11 = true) ∧ (decode dsX12_goes_67 14 = .ok (.iload_n 3, 1) ∧ okop dsX12_goes_67 14 = true) ∧ (decode dsX12_goes_67 15 = .ok (.iconst 2, 1) ∧ okop dsX12_goes_67 15 = true) := by decide +kernel
theorem dX12_goes_67 : decode cX12_goes 67 = .ok (.sipush 500, 3) := dgq (p := 0) daX12_goes_67 dbX12_goes_67.1
theorem dX12_goes_70 : decode cX12_goes 70 = .ok (.istore 4, 2) := dgq (p := 3) daX12_goes_67 dbX12_goes_67.2.1
theorem dX12_goes_72 : decode cX12_goes 72 = .ok (.iload_n 0, 1) := dgq (p := 5) daX12_goes_67 dbX12_goes_67.2.2.1
theorem dX12_goes_73 : decode cX12_goes 73 = .ok (.iload_n 3, 1) := dgq (p := 6) daX12_goes_67 dbX12_goes_67.2.2.2.1
theorem dX12_goes_74 : decode cX12_goes 74 = .ok (.iadd, 1) := dgq (p := 7) daX12_goes_67 dbX12_goes_67.2.2.2.2.1
theorem dX12_goes_75 : decode cX12_goes 75 = .ok (.iload 4, 2) := dgq (p := 8) daX12_goes_67 dbX12_goes_67.2.2.2.2.2.1
theorem dX12_goes_77 : decode cX12_goes 77 = .ok (.imul, 1) := dgq (p := 10) daX12_goes_67 dbX12_goes_67.2.2.2.2.2.2.1
theorem dX12_goes_78 : decode cX12_goes 78 = .ok (.sipush 1000, 3) := dgq (p := 11) daX12_goes_67 dbX12_goes_67.2.2.2.2.2.2.2.1
theorem dX12_goes_81 : decode cX12_goes 81 = .ok (.iload_n 3, 1) := dgq (p := 14) daX12_goes_67 dbX12_goes_67.2.2.2.2.2.2.2.2.1
theorem dX12_goes_82 : decode cX12_goes 82 = .ok (.iconst 2, 1) := dgq (p := 15) daX12_goes_67 dbX12_goes_67.2.2.2.2.2.2.2.2.2
def dsX12_goes_83 : ByteArray := ⟨#[96, 104, 164, 0, 8, 16, 103, 167, 0, 5, 16, 114, 172]⟩
theorem daX12_goes_83 : agB cX12_goes dsX12_goes_83 83 := agB_of (n := 13) (by decide +kernel)
theorem dbX12_goes_83 : (decode dsX12_goes_83 0 = .ok (.iadd, 1) ∧ okop dsX12_goes_83 0 = true) ∧ (decode dsX12_goes_83 1 = .ok (.imul, 1) ∧ okop dsX12_goes_83 1 = true) ∧ (decode dsX12_goes_83 2 = .ok (.if_icmp .le 8, 3) ∧ okop dsX12_goes_83 2 = true) ∧ (decode dsX12_goes_83 5 = .ok (.bipush 103, 2) ∧ okop dsX12_goes_83 5 = true) ∧ (decode dsX12_goes_83 7 = .ok (.goto 5, 3) ∧ okop dsX12_goes_83 7 = true) ∧ (decode dsX12_goes_83 10 = .ok (.bipush 114, 2) ∧ okop dsX12_goes_83 10 = true) ∧ (decode dsX12_goes_83 12 = .ok (.ireturn, 1) ∧ okop dsX12_goes_83 12 = true) := by decide +kernel
theorem dX12_goes_83 : decode cX12_goes 83 = .ok (.iadd, 1) := dgq (p := 0) daX12_goes_83 dbX12_goes_83.1
theorem dX12_goes_84 : decode cX12_goes 84 = .ok (.imul, 1) := dgq (p := 1) daX12_goes_83 dbX12_goes_83.2.1
theorem dX12_goes_85 : decode cX12_goes 85 = .ok (.if_icmp .le 8, 3) := dgq (p := 2) daX12_goes_83 dbX12_goes_83.2.2.1
theorem dX12_goes_88 : decode cX12_goes 88 = .ok (.bipush 103, 2) := dgq (p := 5) daX12_goes_83 dbX12_goes_83.2.2.2.1
theorem dX12_goes_90 : decode cX12_goes 90 = .ok (.goto 5, 3) := dgq (p := 7) daX12_goes_83 dbX12_goes_83.2.2.2.2.1
theorem dX12_goes_93 : decode cX12_goes 93 = .ok (.bipush 114, 2) := dgq (p := 10) daX12_goes_83 dbX12_goes_83.2.2.2.2.2.1
theorem dX12_goes_95 : decode cX12_goes 95 = .ok (.ireturn, 1) := dgq (p := 12) daX12_goes_83 dbX12_goes_83.2.2.2.2.2.2
set_option maxRecDepth 20000 in
theorem ggX12_planets_X12_in : GoodIn wsX12_planets wsX12_in := goodIn_q _ [9] rfl (by decide +kernel)
set_option maxRecDepth 20000 in
theorem gX12_planets_X12_in : GoodIn wsX12_planets (va_wsS RX12 101 yX12_in wsX12_in) := goodIn_app (goodIn_q _ [6, 7, 8] rfl (by decide +kernel)) ggX12_planets_X12_in
set_option maxRecDepth 20000 in
theorem ggX12_planets_X12_goes : GoodIn wsX12_planets wsX12_goes := goodIn_ca (goodIn_q _ [12] rfl (by decide +kernel)) (goodIn_sub (fun _ h => List.mem_cons_of_mem _ (List.mem_append_right _ h)) (by decide +kernel))
set_option maxRecDepth 20000 in
theorem gX12_planets_X12_goes : GoodIn wsX12_planets (va_wsS RX12 274 yX12_goes wsX12_goes) := goodIn_app (goodIn_q _ [10, 11, 8] rfl (by decide +kernel)) ggX12_planets_X12_goes
def dsX12_planets_0 : ByteArray := ⟨#[42, 27, 133, 20, 0, 129, 20, 0, 131, 184, 0, 101, 153, 0, 36, 28, 133, 27]⟩
theorem daX12_planets_0 : agB cX12_planets dsX12_planets_0 0 := agB_of (n := 18) (by decide +kernel)
theorem dbX12_planets_0 : (decode dsX12_planets_0 0 = .ok (.aload_n 0, 1) ∧ okop dsX12_planets_0 0 = true) ∧ (decode dsX12_planets_0 1 = .ok (.iload_n 1, 1) ∧ okop dsX12_planets_0 1 = true) ∧ (decode dsX12_planets_0 2 = .ok (.i2l, 1) ∧ okop dsX12_planets_0 2 = true) ∧ (decode dsX12_planets_0 3 = .ok (.ldc2_w 129, 3) ∧ okop dsX12_planets_0 3 = true) ∧ (decode dsX12_planets_0 6 = .ok (.ldc2_w 131, 3) ∧ okop dsX12_planets_0 6 = true) ∧ (decode dsX12_planets_0 9 = .ok (.invokestatic 101, 3) ∧ okop dsX12_planets_0 9 = true) ∧ (decode dsX12_planets_0 12 = .ok (.ifCond .eq 36, 3) ∧ okop dsX12_planets_0 12 = true) ∧ (decode dsX12_planets_0 15 = .ok (.iload_n 2, 1) ∧ okop dsX12_planets_0 15 = true) ∧ (decode dsX12_planets_0 16 = .ok (.i2l, 1) ∧ okop dsX12_planets_0 16 = true) ∧ (decode dsX12_planets_0 17 = .ok (.iload_n 1, 1) ∧ okop dsX12_planets_0 17 = true) := by decide +kernel
theorem dX12_planets_0 : decode cX12_planets 0 = .ok (.aload_n 0, 1) := dgq (p := 0) daX12_planets_0 dbX12_planets_0.1
theorem dX12_planets_1 : decode cX12_planets 1 = .ok (.iload_n 1, 1) := dgq (p := 1) daX12_planets_0 dbX12_planets_0.2.1
theorem dX12_planets_2 : decode cX12_planets 2 = .ok (.i2l, 1) := dgq (p := 2) daX12_planets_0 dbX12_planets_0.2.2.1
theorem dX12_planets_3 : decode cX12_planets 3 = .ok (.ldc2_w 129, 3) := dgq (p := 3) daX12_planets_0 dbX12_planets_0.2.2.2.1
theorem dX12_planets_6 : decode cX12_planets 6 = .ok (.ldc2_w 131, 3) := dgq (p := 6) daX12_planets_0 dbX12_planets_0.2.2.2.2.1
theorem dX12_planets_9 : decode cX12_planets 9 = .ok (.invokestatic 101, 3) := dgq (p := 9) daX12_planets_0 dbX12_planets_0.2.2.2.2.2.1
theorem dX12_planets_12 : decode cX12_planets 12 = .ok (.ifCond .eq 36, 3) := dgq (p := 12) daX12_planets_0 dbX12_planets_0.2.2.2.2.2.2.1
theorem dX12_planets_15 : decode cX12_planets 15 = .ok (.iload_n 2, 1) := dgq (p := 15) daX12_planets_0 dbX12_planets_0.2.2.2.2.2.2.2.1
theorem dX12_planets_16 : decode cX12_planets 16 = .ok (.i2l, 1) := dgq (p := 16) daX12_planets_0 dbX12_planets_0.2.2.2.2.2.2.2.2.1
theorem dX12_planets_17 : decode cX12_planets 17 = .ok (.iload_n 1, 1) := dgq (p := 17) daX12_planets_0 dbX12_planets_0.2.2.2.2.2.2.2.2.2
def dsX12_planets_18 : ByteArray := ⟨#[4, 96, 133, 20, 1, 16, 184, 0, 101, 153, 0, 21, 29, 133, 20, 0, 247, 20, 0, 129]⟩
theorem daX12_planets_18 : agB cX12_planets dsX12_planets_18 18 := agB_of (n := 20) (by decide +kernel)
theorem dbX12_planets_18 : (decode dsX12_planets_18 0 = .ok (.iconst 1, 1) ∧ okop dsX12_planets_18 0 = true) ∧ (decode dsX12_planets_18 1 = .ok (.iadd, 1) ∧ okop dsX12_planets_18 1 = true) ∧ (decode dsX12_planets_18 2 = .ok (.i2l, 1) ∧ okop dsX12_planets_18 2 = true) ∧ (decode dsX12_planets_18 3 = .ok (.ldc2_w 272, 3) ∧ okop dsX12_planets_18 3 = true) ∧ (decode dsX12_planets_18 6 = .ok (.invokestatic 101, 3) ∧ okop dsX12_planets_18 6 = true) ∧ (decode dsX12_planets_18 9 = .ok (.ifCond .eq 21, 3) ∧ okop dsX12_planets_18 9 = true) ∧ (decode dsX12_planets_18 12 = .ok (.iload_n 3, 1) ∧ okop dsX12_planets_18 12 = true) ∧ (decode dsX12_planets_18 13 = .ok (.i2l, 1) ∧ okop dsX12_planets_18 13 = true) ∧ (decode dsX12_planets_18 14 = .ok (.ldc2_w 247, 3) ∧ okop dsX12_planets_18 14 = true) ∧ (decode dsX12_planets_18 17 = .ok (.ldc2_w 129, 3) ∧ okop dsX12_planets_18 17 = true) := by decide +kernel
theorem dX12_planets_18 : decode cX12_planets 18 = .ok (.iconst 1, 1) := dgq (p := 0) daX12_planets_18 dbX12_planets_18.1
theorem dX12_planets_19 : decode cX12_planets 19 = .ok (.iadd, 1) := dgq (p := 1) daX12_planets_18 dbX12_planets_18.2.1
theorem dX12_planets_20 : decode cX12_planets 20 = .ok (.i2l, 1) := dgq (p := 2) daX12_planets_18 dbX12_planets_18.2.2.1
theorem dX12_planets_21 : decode cX12_planets 21 = .ok (.ldc2_w 272, 3) := dgq (p := 3) daX12_planets_18 dbX12_planets_18.2.2.2.1
theorem dX12_planets_24 : decode cX12_planets 24 = .ok (.invokestatic 101, 3) := dgq (p := 6) daX12_planets_18 dbX12_planets_18.2.2.2.2.1
theorem dX12_planets_27 : decode cX12_planets 27 = .ok (.ifCond .eq 21, 3) := dgq (p := 9) daX12_planets_18 dbX12_planets_18.2.2.2.2.2.1
theorem dX12_planets_30 : decode cX12_planets 30 = .ok (.iload_n 3, 1) := dgq (p := 12) daX12_planets_18 dbX12_planets_18.2.2.2.2.2.2.1
theorem dX12_planets_31 : decode cX12_planets 31 = .ok (.i2l, 1) := dgq (p := 13) daX12_planets_18 dbX12_planets_18.2.2.2.2.2.2.2.1
theorem dX12_planets_32 : decode cX12_planets 32 = .ok (.ldc2_w 247, 3) := dgq (p := 14) daX12_planets_18 dbX12_planets_18.2.2.2.2.2.2.2.2.1
theorem dX12_planets_35 : decode cX12_planets 35 = .ok (.ldc2_w 129, 3) := dgq (p := 17) daX12_planets_18 dbX12_planets_18.2.2.2.2.2.2.2.2.2
def dsX12_planets_38 : ByteArray := ⟨#[184, 0, 101, 153, 0, 7, 3, 167, 0, 4, 4, 181, 0, 94, 42, 180, 0, 94, 154, 0, 12, 27]⟩
theorem daX12_planets_38 : agB cX12_planets dsX12_planets_38 38 := agB_of (n := 22) (by decide +kernel)
theorem dbX12_planets_38 : (decode dsX12_planets_38 0 = .ok (.invokestatic 101, 3) ∧ okop dsX12_planets_38 0 = true) ∧ (decode dsX12_planets_38 3 = .ok (.ifCond .eq 7, 3) ∧ okop dsX12_planets_38 3 = true) ∧ (decode dsX12_planets_38 6 = .ok (.iconst 0, 1) ∧ okop dsX12_planets_38 6 = true) ∧ (decode dsX12_planets_38 7 = .ok (.goto 4, 3) ∧ okop dsX12_planets_38 7 = true) ∧ (decode dsX12_planets_38 10 = .ok (.iconst 1, 1) ∧ okop dsX12_planets_38 10 = true) ∧ (decode dsX12_planets_38 11 = .ok (.putfield 94, 3) ∧ okop dsX12_planets_38 11 = true) ∧ (decode dsX12_planets_38 14 = .ok (.aload_n 0, 1) ∧ okop dsX12_planets_38 14 = true) ∧ (decode dsX12_planets_38 15 = .ok (.getfield 94, 3) ∧ okop dsX12_planets_38 15 = true) ∧ (decode dsX12_planets_38 18 = .ok (.ifCond .ne 12, 3) ∧ okop dsX12_planets_38 18 = true) ∧ (decode dsX12_planets_38 21 = .ok (.iload_n 1, 1) ∧ okop dsX12_planets_38 21 = true) := by decide +kernel
theorem dX12_planets_38 : decode cX12_planets 38 = .ok (.invokestatic 101, 3) := dgq (p := 0) daX12_planets_38 dbX12_planets_38.1
theorem dX12_planets_41 : decode cX12_planets 41 = .ok (.ifCond .eq 7, 3) := dgq (p := 3) daX12_planets_38 dbX12_planets_38.2.1
theorem dX12_planets_44 : decode cX12_planets 44 = .ok (.iconst 0, 1) := dgq (p := 6) daX12_planets_38 dbX12_planets_38.2.2.1
theorem dX12_planets_45 : decode cX12_planets 45 = .ok (.goto 4, 3) := dgq (p := 7) daX12_planets_38 dbX12_planets_38.2.2.2.1
theorem dX12_planets_48 : decode cX12_planets 48 = .ok (.iconst 1, 1) := dgq (p := 10) daX12_planets_38 dbX12_planets_38.2.2.2.2.1
theorem dX12_planets_49 : decode cX12_planets 49 = .ok (.putfield 94, 3) := dgq (p := 11) daX12_planets_38 dbX12_planets_38.2.2.2.2.2.1
theorem dX12_planets_52 : decode cX12_planets 52 = .ok (.aload_n 0, 1) := dgq (p := 14) daX12_planets_38 dbX12_planets_38.2.2.2.2.2.2.1
theorem dX12_planets_53 : decode cX12_planets 53 = .ok (.getfield 94, 3) := dgq (p := 15) daX12_planets_38 dbX12_planets_38.2.2.2.2.2.2.2.1
theorem dX12_planets_56 : decode cX12_planets 56 = .ok (.ifCond .ne 12, 3) := dgq (p := 18) daX12_planets_38 dbX12_planets_38.2.2.2.2.2.2.2.2.1
theorem dX12_planets_59 : decode cX12_planets 59 = .ok (.iload_n 1, 1) := dgq (p := 21) daX12_planets_38 dbX12_planets_38.2.2.2.2.2.2.2.2.2
def dsX12_planets_60 : ByteArray := ⟨#[28, 29, 184, 1, 18, 167, 0, 4, 3, 172]⟩
theorem daX12_planets_60 : agB cX12_planets dsX12_planets_60 60 := agB_of (n := 10) (by decide +kernel)
theorem dbX12_planets_60 : (decode dsX12_planets_60 0 = .ok (.iload_n 2, 1) ∧ okop dsX12_planets_60 0 = true) ∧ (decode dsX12_planets_60 1 = .ok (.iload_n 3, 1) ∧ okop dsX12_planets_60 1 = true) ∧ (decode dsX12_planets_60 2 = .ok (.invokestatic 274, 3) ∧ okop dsX12_planets_60 2 = true) ∧ (decode dsX12_planets_60 5 = .ok (.goto 4, 3) ∧ okop dsX12_planets_60 5 = true) ∧ (decode dsX12_planets_60 8 = .ok (.iconst 0, 1) ∧ okop dsX12_planets_60 8 = true) ∧ (decode dsX12_planets_60 9 = .ok (.ireturn, 1) ∧ okop dsX12_planets_60 9 = true) := by decide +kernel
theorem dX12_planets_60 : decode cX12_planets 60 = .ok (.iload_n 2, 1) := dgq (p := 0) daX12_planets_60 dbX12_planets_60.1
theorem dX12_planets_61 : decode cX12_planets 61 = .ok (.iload_n 3, 1) := dgq (p := 1) daX12_planets_60 dbX12_planets_60.2.1
theorem dX12_planets_62 : decode cX12_planets 62 = .ok (.invokestatic 274, 3) := dgq (p := 2) daX12_planets_60 dbX12_planets_60.2.2.1
theorem dX12_planets_65 : decode cX12_planets 65 = .ok (.goto 4, 3) := dgq (p := 5) daX12_planets_60 dbX12_planets_60.2.2.2.1
theorem dX12_planets_68 : decode cX12_planets 68 = .ok (.iconst 0, 1) := dgq (p := 8) daX12_planets_60 dbX12_planets_60.2.2.2.2.1
theorem dX12_planets_69 : decode cX12_planets 69 = .ok (.ireturn, 1) := dgq (p := 9) daX12_planets_60 dbX12_planets_60.2.2.2.2.2
set_option maxRecDepth 20000 in
theorem ggX12_rings_X12_in : GoodIn wsX12_rings wsX12_in := goodIn_q _ [8] rfl (by decide +kernel)
set_option maxRecDepth 20000 in
theorem gX12_rings_X12_in : GoodIn wsX12_rings (va_wsS RX12 101 yX12_in wsX12_in) := goodIn_app (goodIn_q _ [5, 6, 7] rfl (by decide +kernel)) ggX12_rings_X12_in
set_option maxRecDepth 20000 in
theorem ggX12_rings_X12_fails : GoodIn wsX12_rings wsX12_fails := goodIn_ca (goodIn_q _ [12, 13] rfl (by decide +kernel)) (goodIn_sub (fun _ h => (List.mem_cons_of_mem _ (List.mem_append_left _ (List.mem_append_right _ h)))) tg_wsX120)
set_option maxRecDepth 20000 in
theorem gX12_rings_X12_fails : GoodIn wsX12_rings (wsV RX12 143 RX12 yX12_fails wsX12_fails) := goodIn_app (goodIn_q _ [9, 10, 11, 7] rfl (by decide +kernel)) ggX12_rings_X12_fails
set_option maxRecDepth 20000 in
theorem ggX12_rings_X12_goes : GoodIn wsX12_rings wsX12_goes := goodIn_ca (goodIn_q _ [16] rfl (by decide +kernel)) (goodIn_sub (fun _ h => List.mem_cons_of_mem _ (List.mem_append_right _ h)) (by decide +kernel))
set_option maxRecDepth 20000 in
theorem gX12_rings_X12_goes : GoodIn wsX12_rings (va_wsS RX12 274 yX12_goes wsX12_goes) := goodIn_app (goodIn_q _ [14, 15, 7] rfl (by decide +kernel)) ggX12_rings_X12_goes
set_option maxRecDepth 20000 in
theorem ggX12_rings_X12_answer : GoodIn wsX12_rings wsX12_answer := goodIn_ca (goodIn_q _ [20, 13] rfl (by decide +kernel)) (goodIn_sub (fun _ h => (List.mem_cons_of_mem _ (List.mem_append_left _ (List.mem_append_right _ h)))) tg_wsX120)
set_option maxRecDepth 20000 in
theorem gX12_rings_X12_answer : GoodIn wsX12_rings (wsV RX12 153 RX12 yX12_answer wsX12_answer) := goodIn_app (goodIn_q _ [17, 18, 19, 7] rfl (by decide +kernel)) ggX12_rings_X12_answer
def dsX12_rings_0 : ByteArray := ⟨#[27, 133, 20, 0, 129, 20, 0, 131, 184, 0, 101, 153, 0, 45, 28, 133, 20, 0, 247, 20, 0, 129]⟩
theorem daX12_rings_0 : agB cX12_rings dsX12_rings_0 0 := agB_of (n := 22) (by decide +kernel)
theorem dbX12_rings_0 : (decode dsX12_rings_0 0 = .ok (.iload_n 1, 1) ∧ okop dsX12_rings_0 0 = true) ∧ (decode dsX12_rings_0 1 = .ok (.i2l, 1) ∧ okop dsX12_rings_0 1 = true) ∧ (decode dsX12_rings_0 2 = .ok (.ldc2_w 129, 3) ∧ okop dsX12_rings_0 2 = true) ∧ (decode dsX12_rings_0 5 = .ok (.ldc2_w 131, 3) ∧ okop dsX12_rings_0 5 = true) ∧ (decode dsX12_rings_0 8 = .ok (.invokestatic 101, 3) ∧ okop dsX12_rings_0 8 = true) ∧ (decode dsX12_rings_0 11 = .ok (.ifCond .eq 45, 3) ∧ okop dsX12_rings_0 11 = true) ∧ (decode dsX12_rings_0 14 = .ok (.iload_n 2, 1) ∧ okop dsX12_rings_0 14 = true) ∧ (decode dsX12_rings_0 15 = .ok (.i2l, 1) ∧ okop dsX12_rings_0 15 = true) ∧ (decode dsX12_rings_0 16 = .ok (.ldc2_w 247, 3) ∧ okop dsX12_rings_0 16 = true) ∧ (decode dsX12_rings_0 19 = .ok (.ldc2_w 129, 3) ∧ okop dsX12_rings_0 19 = true) := by decide +kernel
theorem dX12_rings_0 : decode cX12_rings 0 = .ok (.iload_n 1, 1) := dgq (p := 0) daX12_rings_0 dbX12_rings_0.1
theorem dX12_rings_1 : decode cX12_rings 1 = .ok (.i2l, 1) := dgq (p := 1) daX12_rings_0 dbX12_rings_0.2.1
theorem dX12_rings_2 : decode cX12_rings 2 = .ok (.ldc2_w 129, 3) := dgq (p := 2) daX12_rings_0 dbX12_rings_0.2.2.1
theorem dX12_rings_5 : decode cX12_rings 5 = .ok (.ldc2_w 131, 3) := dgq (p := 5) daX12_rings_0 dbX12_rings_0.2.2.2.1
theorem dX12_rings_8 : decode cX12_rings 8 = .ok (.invokestatic 101, 3) := dgq (p := 8) daX12_rings_0 dbX12_rings_0.2.2.2.2.1
theorem dX12_rings_11 : decode cX12_rings 11 = .ok (.ifCond .eq 45, 3) := dgq (p := 11) daX12_rings_0 dbX12_rings_0.2.2.2.2.2.1
theorem dX12_rings_14 : decode cX12_rings 14 = .ok (.iload_n 2, 1) := dgq (p := 14) daX12_rings_0 dbX12_rings_0.2.2.2.2.2.2.1
theorem dX12_rings_15 : decode cX12_rings 15 = .ok (.i2l, 1) := dgq (p := 15) daX12_rings_0 dbX12_rings_0.2.2.2.2.2.2.2.1
theorem dX12_rings_16 : decode cX12_rings 16 = .ok (.ldc2_w 247, 3) := dgq (p := 16) daX12_rings_0 dbX12_rings_0.2.2.2.2.2.2.2.2.1
theorem dX12_rings_19 : decode cX12_rings 19 = .ok (.ldc2_w 129, 3) := dgq (p := 19) daX12_rings_0 dbX12_rings_0.2.2.2.2.2.2.2.2.2
def dsX12_rings_22 : ByteArray := ⟨#[184, 0, 101, 153, 0, 31, 29, 133, 20, 0, 131, 20, 0, 249, 184, 0, 101, 153, 0, 17, 21, 4, 133]⟩
theorem daX12_rings_22 : agB cX12_rings dsX12_rings_22 22 := agB_of (n := 23) (by decide +kernel)
theorem dbX12_rings_22 : (decode dsX12_rings_22 0 = .ok (.invokestatic 101, 3) ∧ okop dsX12_rings_22 0 = true) ∧ (decode dsX12_rings_22 3 = .ok (.ifCond .eq 31, 3) ∧ okop dsX12_rings_22 3 = true) ∧ (decode dsX12_rings_22 6 = .ok (.iload_n 3, 1) ∧ okop dsX12_rings_22 6 = true) ∧ (decode dsX12_rings_22 7 = .ok (.i2l, 1) ∧ okop dsX12_rings_22 7 = true) ∧ (decode dsX12_rings_22 8 = .ok (.ldc2_w 131, 3) ∧ okop dsX12_rings_22 8 = true) ∧ (decode dsX12_rings_22 11 = .ok (.ldc2_w 249, 3) ∧ okop dsX12_rings_22 11 = true) ∧ (decode dsX12_rings_22 14 = .ok (.invokestatic 101, 3) ∧ okop dsX12_rings_22 14 = true) ∧ (decode dsX12_rings_22 17 = .ok (.ifCond .eq 17, 3) ∧ okop dsX12_rings_22 17 = true) ∧ (decode dsX12_rings_22 20 = .ok (.iload 4, 2) ∧ okop dsX12_rings_22 20 = true) ∧ (decode dsX12_rings_22 22 = .ok (.i2l, 1) ∧ okop dsX12_rings_22 22 = true) := by decide +kernel
theorem dX12_rings_22 : decode cX12_rings 22 = .ok (.invokestatic 101, 3) := dgq (p := 0) daX12_rings_22 dbX12_rings_22.1
theorem dX12_rings_25 : decode cX12_rings 25 = .ok (.ifCond .eq 31, 3) := dgq (p := 3) daX12_rings_22 dbX12_rings_22.2.1
theorem dX12_rings_28 : decode cX12_rings 28 = .ok (.iload_n 3, 1) := dgq (p := 6) daX12_rings_22 dbX12_rings_22.2.2.1
theorem dX12_rings_29 : decode cX12_rings 29 = .ok (.i2l, 1) := dgq (p := 7) daX12_rings_22 dbX12_rings_22.2.2.2.1
theorem dX12_rings_30 : decode cX12_rings 30 = .ok (.ldc2_w 131, 3) := dgq (p := 8) daX12_rings_22 dbX12_rings_22.2.2.2.2.1
theorem dX12_rings_33 : decode cX12_rings 33 = .ok (.ldc2_w 249, 3) := dgq (p := 11) daX12_rings_22 dbX12_rings_22.2.2.2.2.2.1
theorem dX12_rings_36 : decode cX12_rings 36 = .ok (.invokestatic 101, 3) := dgq (p := 14) daX12_rings_22 dbX12_rings_22.2.2.2.2.2.2.1
theorem dX12_rings_39 : decode cX12_rings 39 = .ok (.ifCond .eq 17, 3) := dgq (p := 17) daX12_rings_22 dbX12_rings_22.2.2.2.2.2.2.2.1
theorem dX12_rings_42 : decode cX12_rings 42 = .ok (.iload 4, 2) := dgq (p := 20) daX12_rings_22 dbX12_rings_22.2.2.2.2.2.2.2.2.1
theorem dX12_rings_44 : decode cX12_rings 44 = .ok (.i2l, 1) := dgq (p := 22) daX12_rings_22 dbX12_rings_22.2.2.2.2.2.2.2.2.2
def dsX12_rings_45 : ByteArray := ⟨#[29, 133, 20, 0, 249, 184, 0, 101, 154, 0, 9, 42, 4, 182, 0, 143, 172, 3]⟩
theorem daX12_rings_45 : agB cX12_rings dsX12_rings_45 45 := agB_of (n := 18) (by decide +kernel)
theorem dbX12_rings_45 : (decode dsX12_rings_45 0 = .ok (.iload_n 3, 1) ∧ okop dsX12_rings_45 0 = true) ∧ (decode dsX12_rings_45 1 = .ok (.i2l, 1) ∧ okop dsX12_rings_45 1 = true) ∧ (decode dsX12_rings_45 2 = .ok (.ldc2_w 249, 3) ∧ okop dsX12_rings_45 2 = true) ∧ (decode dsX12_rings_45 5 = .ok (.invokestatic 101, 3) ∧ okop dsX12_rings_45 5 = true) ∧ (decode dsX12_rings_45 8 = .ok (.ifCond .ne 9, 3) ∧ okop dsX12_rings_45 8 = true) ∧ (decode dsX12_rings_45 11 = .ok (.aload_n 0, 1) ∧ okop dsX12_rings_45 11 = true) ∧ (decode dsX12_rings_45 12 = .ok (.iconst 1, 1) ∧ okop dsX12_rings_45 12 = true) ∧ (decode dsX12_rings_45 13 = .ok (.invokevirtual 143, 3) ∧ okop dsX12_rings_45 13 = true) ∧ (decode dsX12_rings_45 16 = .ok (.ireturn, 1) ∧ okop dsX12_rings_45 16 = true) ∧ (decode dsX12_rings_45 17 = .ok (.iconst 0, 1) ∧ okop dsX12_rings_45 17 = true) := by decide +kernel
theorem dX12_rings_45 : decode cX12_rings 45 = .ok (.iload_n 3, 1) := dgq (p := 0) daX12_rings_45 dbX12_rings_45.1
theorem dX12_rings_46 : decode cX12_rings 46 = .ok (.i2l, 1) := dgq (p := 1) daX12_rings_45 dbX12_rings_45.2.1
theorem dX12_rings_47 : decode cX12_rings 47 = .ok (.ldc2_w 249, 3) := dgq (p := 2) daX12_rings_45 dbX12_rings_45.2.2.1
theorem dX12_rings_50 : decode cX12_rings 50 = .ok (.invokestatic 101, 3) := dgq (p := 5) daX12_rings_45 dbX12_rings_45.2.2.2.1
theorem dX12_rings_53 : decode cX12_rings 53 = .ok (.ifCond .ne 9, 3) := dgq (p := 8) daX12_rings_45 dbX12_rings_45.2.2.2.2.1
theorem dX12_rings_56 : decode cX12_rings 56 = .ok (.aload_n 0, 1) := dgq (p := 11) daX12_rings_45 dbX12_rings_45.2.2.2.2.2.1
theorem dX12_rings_57 : decode cX12_rings 57 = .ok (.iconst 1, 1) := dgq (p := 12) daX12_rings_45 dbX12_rings_45.2.2.2.2.2.2.1
theorem dX12_rings_58 : decode cX12_rings 58 = .ok (.invokevirtual 143, 3) := dgq (p := 13) daX12_rings_45 dbX12_rings_45.2.2.2.2.2.2.2.1
theorem dX12_rings_61 : decode cX12_rings 61 = .ok (.ireturn, 1) := dgq (p := 16) daX12_rings_45 dbX12_rings_45.2.2.2.2.2.2.2.2.1
theorem dX12_rings_62 : decode cX12_rings 62 = .ok (.iconst 0, 1) := dgq (p := 17) daX12_rings_45 dbX12_rings_45.2.2.2.2.2.2.2.2.2
def dsX12_rings_63 : ByteArray := ⟨#[54, 5, 27, 4, 96, 54, 6, 21, 6, 17, 2, 88, 163, 0, 57, 16, 100, 27]⟩
theorem daX12_rings_63 : agB cX12_rings dsX12_rings_63 63 := agB_of (n := 18) (by decide +kernel)
theorem dbX12_rings_63 : (decode dsX12_rings_63 0 = .ok (.istore 5, 2) ∧ okop dsX12_rings_63 0 = true) ∧ (decode dsX12_rings_63 2 = .ok (.iload_n 1, 1) ∧ okop dsX12_rings_63 2 = true) ∧ (decode dsX12_rings_63 3 = .ok (.iconst 1, 1) ∧ okop dsX12_rings_63 3 = true) ∧ (decode dsX12_rings_63 4 = .ok (.iadd, 1) ∧ okop dsX12_rings_63 4 = true) ∧ (decode dsX12_rings_63 5 = .ok (.istore 6, 2) ∧ okop dsX12_rings_63 5 = true) ∧ (decode dsX12_rings_63 7 = .ok (.iload 6, 2) ∧ okop dsX12_rings_63 7 = true) ∧ (decode dsX12_rings_63 9 = .ok (.sipush 600, 3) ∧ okop dsX12_rings_63 9 = true) ∧ (decode dsX12_rings_63 12 = .ok (.if_icmp .gt 57, 3) ∧ okop dsX12_rings_63 12 = true) ∧ (decode dsX12_rings_63 15 = .ok (.bipush 100, 2) ∧ okop dsX12_rings_63 15 = true) ∧ (decode dsX12_rings_63 17 = .ok (.iload_n 1, 1) ∧ okop dsX12_rings_63 17 = true) := by decide +kernel
theorem dX12_rings_63 : decode cX12_rings 63 = .ok (.istore 5, 2) := dgq (p := 0) daX12_rings_63 dbX12_rings_63.1
theorem dX12_rings_65 : decode cX12_rings 65 = .ok (.iload_n 1, 1) := dgq (p := 2) daX12_rings_63 dbX12_rings_63.2.1
theorem dX12_rings_66 : decode cX12_rings 66 = .ok (.iconst 1, 1) := dgq (p := 3) daX12_rings_63 dbX12_rings_63.2.2.1
theorem dX12_rings_67 : decode cX12_rings 67 = .ok (.iadd, 1) := dgq (p := 4) daX12_rings_63 dbX12_rings_63.2.2.2.1
theorem dX12_rings_68 : decode cX12_rings 68 = .ok (.istore 6, 2) := dgq (p := 5) daX12_rings_63 dbX12_rings_63.2.2.2.2.1
theorem dX12_rings_70 : decode cX12_rings 70 = .ok (.iload 6, 2) := dgq (p := 7) daX12_rings_63 dbX12_rings_63.2.2.2.2.2.1
theorem dX12_rings_72 : decode cX12_rings 72 = .ok (.sipush 600, 3) := dgq (p := 9) daX12_rings_63 dbX12_rings_63.2.2.2.2.2.2.1
theorem dX12_rings_75 : decode cX12_rings 75 = .ok (.if_icmp .gt 57, 3) := dgq (p := 12) daX12_rings_63 dbX12_rings_63.2.2.2.2.2.2.2.1
theorem dX12_rings_78 : decode cX12_rings 78 = .ok (.bipush 100, 2) := dgq (p := 15) daX12_rings_63 dbX12_rings_63.2.2.2.2.2.2.2.2.1
theorem dX12_rings_80 : decode cX12_rings 80 = .ok (.iload_n 1, 1) := dgq (p := 17) daX12_rings_63 dbX12_rings_63.2.2.2.2.2.2.2.2.2
def dsX12_rings_81 : ByteArray := ⟨#[21, 6, 96, 104, 54, 7, 21, 5, 27, 21, 6, 28, 184, 1, 18, 16, 103]⟩
theorem daX12_rings_81 : agB cX12_rings dsX12_rings_81 81 := agB_of (n := 17) (by decide +kernel)
theorem dbX12_rings_81 : (decode dsX12_rings_81 0 = .ok (.iload 6, 2) ∧ okop dsX12_rings_81 0 = true) ∧ (decode dsX12_rings_81 2 = .ok (.iadd, 1) ∧ okop dsX12_rings_81 2 = true) ∧ (decode dsX12_rings_81 3 = .ok (.imul, 1) ∧ okop dsX12_rings_81 3 = true) ∧ (decode dsX12_rings_81 4 = .ok (.istore 7, 2) ∧ okop dsX12_rings_81 4 = true) ∧ (decode dsX12_rings_81 6 = .ok (.iload 5, 2) ∧ okop dsX12_rings_81 6 = true) ∧ (decode dsX12_rings_81 8 = .ok (.iload_n 1, 1) ∧ okop dsX12_rings_81 8 = true) ∧ (decode dsX12_rings_81 9 = .ok (.iload 6, 2) ∧ okop dsX12_rings_81 9 = true) ∧ (decode dsX12_rings_81 11 = .ok (.iload_n 2, 1) ∧ okop dsX12_rings_81 11 = true) ∧ (decode dsX12_rings_81 12 = .ok (.invokestatic 274, 3) ∧ okop dsX12_rings_81 12 = true) ∧ (decode dsX12_rings_81 15 = .ok (.bipush 103, 2) ∧ okop dsX12_rings_81 15 = true) := by decide +kernel
theorem dX12_rings_81 : decode cX12_rings 81 = .ok (.iload 6, 2) := dgq (p := 0) daX12_rings_81 dbX12_rings_81.1
theorem dX12_rings_83 : decode cX12_rings 83 = .ok (.iadd, 1) := dgq (p := 2) daX12_rings_81 dbX12_rings_81.2.1
theorem dX12_rings_84 : decode cX12_rings 84 = .ok (.imul, 1) := dgq (p := 3) daX12_rings_81 dbX12_rings_81.2.2.1
theorem dX12_rings_85 : decode cX12_rings 85 = .ok (.istore 7, 2) := dgq (p := 4) daX12_rings_81 dbX12_rings_81.2.2.2.1
theorem dX12_rings_87 : decode cX12_rings 87 = .ok (.iload 5, 2) := dgq (p := 6) daX12_rings_81 dbX12_rings_81.2.2.2.2.1
theorem dX12_rings_89 : decode cX12_rings 89 = .ok (.iload_n 1, 1) := dgq (p := 8) daX12_rings_81 dbX12_rings_81.2.2.2.2.2.1
theorem dX12_rings_90 : decode cX12_rings 90 = .ok (.iload 6, 2) := dgq (p := 9) daX12_rings_81 dbX12_rings_81.2.2.2.2.2.2.1
theorem dX12_rings_92 : decode cX12_rings 92 = .ok (.iload_n 2, 1) := dgq (p := 11) daX12_rings_81 dbX12_rings_81.2.2.2.2.2.2.2.1
theorem dX12_rings_93 : decode cX12_rings 93 = .ok (.invokestatic 274, 3) := dgq (p := 12) daX12_rings_81 dbX12_rings_81.2.2.2.2.2.2.2.2.1
theorem dX12_rings_96 : decode cX12_rings 96 = .ok (.bipush 103, 2) := dgq (p := 15) daX12_rings_81 dbX12_rings_81.2.2.2.2.2.2.2.2.2
def dsX12_rings_98 : ByteArray := ⟨#[160, 0, 24, 21, 7, 29, 27, 104, 161, 0, 16, 21, 7, 21, 4, 27, 104]⟩
theorem daX12_rings_98 : agB cX12_rings dsX12_rings_98 98 := agB_of (n := 17) (by decide +kernel)
theorem dbX12_rings_98 : (decode dsX12_rings_98 0 = .ok (.if_icmp .ne 24, 3) ∧ okop dsX12_rings_98 0 = true) ∧ (decode dsX12_rings_98 3 = .ok (.iload 7, 2) ∧ okop dsX12_rings_98 3 = true) ∧ (decode dsX12_rings_98 5 = .ok (.iload_n 3, 1) ∧ okop dsX12_rings_98 5 = true) ∧ (decode dsX12_rings_98 6 = .ok (.iload_n 1, 1) ∧ okop dsX12_rings_98 6 = true) ∧ (decode dsX12_rings_98 7 = .ok (.imul, 1) ∧ okop dsX12_rings_98 7 = true) ∧ (decode dsX12_rings_98 8 = .ok (.if_icmp .lt 16, 3) ∧ okop dsX12_rings_98 8 = true) ∧ (decode dsX12_rings_98 11 = .ok (.iload 7, 2) ∧ okop dsX12_rings_98 11 = true) ∧ (decode dsX12_rings_98 13 = .ok (.iload 4, 2) ∧ okop dsX12_rings_98 13 = true) ∧ (decode dsX12_rings_98 15 = .ok (.iload_n 1, 1) ∧ okop dsX12_rings_98 15 = true) ∧ (decode dsX12_rings_98 16 = .ok (.imul, 1) ∧ okop dsX12_rings_98 16 = true) := by decide +kernel
theorem dX12_rings_98 : decode cX12_rings 98 = .ok (.if_icmp .ne 24, 3) := dgq (p := 0) daX12_rings_98 dbX12_rings_98.1
theorem dX12_rings_101 : decode cX12_rings 101 = .ok (.iload 7, 2) := dgq (p := 3) daX12_rings_98 dbX12_rings_98.2.1
theorem dX12_rings_103 : decode cX12_rings 103 = .ok (.iload_n 3, 1) := dgq (p := 5) daX12_rings_98 dbX12_rings_98.2.2.1
theorem dX12_rings_104 : decode cX12_rings 104 = .ok (.iload_n 1, 1) := dgq (p := 6) daX12_rings_98 dbX12_rings_98.2.2.2.1
theorem dX12_rings_105 : decode cX12_rings 105 = .ok (.imul, 1) := dgq (p := 7) daX12_rings_98 dbX12_rings_98.2.2.2.2.1
theorem dX12_rings_106 : decode cX12_rings 106 = .ok (.if_icmp .lt 16, 3) := dgq (p := 8) daX12_rings_98 dbX12_rings_98.2.2.2.2.2.1
theorem dX12_rings_109 : decode cX12_rings 109 = .ok (.iload 7, 2) := dgq (p := 11) daX12_rings_98 dbX12_rings_98.2.2.2.2.2.2.1
theorem dX12_rings_111 : decode cX12_rings 111 = .ok (.iload 4, 2) := dgq (p := 13) daX12_rings_98 dbX12_rings_98.2.2.2.2.2.2.2.1
theorem dX12_rings_113 : decode cX12_rings 113 = .ok (.iload_n 1, 1) := dgq (p := 15) daX12_rings_98 dbX12_rings_98.2.2.2.2.2.2.2.2.1
theorem dX12_rings_114 : decode cX12_rings 114 = .ok (.imul, 1) := dgq (p := 16) daX12_rings_98 dbX12_rings_98.2.2.2.2.2.2.2.2.2
def dsX12_rings_115 : ByteArray := ⟨#[163, 0, 7, 4, 167, 0, 4, 3, 96, 54, 5, 132, 6, 1, 167, 255, 197, 42, 21, 5]⟩
theorem daX12_rings_115 : agB cX12_rings dsX12_rings_115 115 := agB_of (n := 20) (by decide +kernel)
theorem dbX12_rings_115 : (decode dsX12_rings_115 0 = .ok (.if_icmp .gt 7, 3) ∧ okop dsX12_rings_115 0 = true) ∧ (decode dsX12_rings_115 3 = .ok (.iconst 1, 1) ∧ okop dsX12_rings_115 3 = true) ∧ (decode dsX12_rings_115 4 = .ok (.goto 4, 3) ∧ okop dsX12_rings_115 4 = true) ∧ (decode dsX12_rings_115 7 = .ok (.iconst 0, 1) ∧ okop dsX12_rings_115 7 = true) ∧ (decode dsX12_rings_115 8 = .ok (.iadd, 1) ∧ okop dsX12_rings_115 8 = true) ∧ (decode dsX12_rings_115 9 = .ok (.istore 5, 2) ∧ okop dsX12_rings_115 9 = true) ∧ (decode dsX12_rings_115 11 = .ok (.iinc 6 1, 3) ∧ okop dsX12_rings_115 11 = true) ∧ (decode dsX12_rings_115 14 = .ok (.goto (-59), 3) ∧ okop dsX12_rings_115 14 = true) ∧ (decode dsX12_rings_115 17 = .ok (.aload_n 0, 1) ∧ okop dsX12_rings_115 17 = true) ∧ (decode dsX12_rings_115 18 = .ok (.iload 5, 2) ∧ okop dsX12_rings_115 18 = true) := by decide +kernel
theorem dX12_rings_115 : decode cX12_rings 115 = .ok (.if_icmp .gt 7, 3) := dgq (p := 0) daX12_rings_115 dbX12_rings_115.1
theorem dX12_rings_118 : decode cX12_rings 118 = .ok (.iconst 1, 1) := dgq (p := 3) daX12_rings_115 dbX12_rings_115.2.1
theorem dX12_rings_119 : decode cX12_rings 119 = .ok (.goto 4, 3) := dgq (p := 4) daX12_rings_115 dbX12_rings_115.2.2.1
theorem dX12_rings_122 : decode cX12_rings 122 = .ok (.iconst 0, 1) := dgq (p := 7) daX12_rings_115 dbX12_rings_115.2.2.2.1
theorem dX12_rings_123 : decode cX12_rings 123 = .ok (.iadd, 1) := dgq (p := 8) daX12_rings_115 dbX12_rings_115.2.2.2.2.1
theorem dX12_rings_124 : decode cX12_rings 124 = .ok (.istore 5, 2) := dgq (p := 9) daX12_rings_115 dbX12_rings_115.2.2.2.2.2.1
theorem dX12_rings_126 : decode cX12_rings 126 = .ok (.iinc 6 1, 3) := dgq (p := 11) daX12_rings_115 dbX12_rings_115.2.2.2.2.2.2.1
theorem dX12_rings_129 : decode cX12_rings 129 = .ok (.goto (-59), 3) := dgq (p := 14) daX12_rings_115 dbX12_rings_115.2.2.2.2.2.2.2.1
theorem dX12_rings_132 : decode cX12_rings 132 = .ok (.aload_n 0, 1) := dgq (p := 17) daX12_rings_115 dbX12_rings_115.2.2.2.2.2.2.2.2.1
theorem dX12_rings_133 : decode cX12_rings 133 = .ok (.iload 5, 2) := dgq (p := 18) daX12_rings_115 dbX12_rings_115.2.2.2.2.2.2.2.2.2
theorem dX12_rings_135 : decode cX12_rings 135 = .ok (.invokevirtual 153, 3) := by decide +kernel
theorem dX12_rings_138 : decode cX12_rings 138 = .ok (.ireturn, 1) := by decide +kernel
set_option maxRecDepth 20000 in
theorem ggX12_wheel_X12_in : GoodIn wsX12_wheel wsX12_in := goodIn_q _ [8] rfl (by decide +kernel)
set_option maxRecDepth 20000 in
theorem gX12_wheel_X12_in : GoodIn wsX12_wheel (va_wsS RX12 101 yX12_in wsX12_in) := goodIn_app (goodIn_q _ [5, 6, 7] rfl (by decide +kernel)) ggX12_wheel_X12_in
set_option maxRecDepth 20000 in
theorem ggX12_wheel_X12_fails : GoodIn wsX12_wheel wsX12_fails := goodIn_ca (goodIn_q _ [12, 13] rfl (by decide +kernel)) (goodIn_sub (fun _ h => (List.mem_cons_of_mem _ (List.mem_append_left _ (List.mem_append_right _ h)))) tg_wsX120)
set_option maxRecDepth 20000 in
theorem gX12_wheel_X12_fails : GoodIn wsX12_wheel (wsV RX12 143 RX12 yX12_fails wsX12_fails) := goodIn_app (goodIn_q _ [9, 10, 11, 7] rfl (by decide +kernel)) ggX12_wheel_X12_fails
set_option maxRecDepth 20000 in
theorem ggX12_wheel_X12_answer : GoodIn wsX12_wheel wsX12_answer := goodIn_ca (goodIn_q _ [17, 13] rfl (by decide +kernel)) (goodIn_sub (fun _ h => (List.mem_cons_of_mem _ (List.mem_append_left _ (List.mem_append_right _ h)))) tg_wsX120)
set_option maxRecDepth 20000 in
theorem gX12_wheel_X12_answer : GoodIn wsX12_wheel (wsV RX12 153 RX12 yX12_answer wsX12_answer) := goodIn_app (goodIn_q _ [14, 15, 16, 7] rfl (by decide +kernel)) ggX12_wheel_X12_answer
def dsX12_wheel_0 : ByteArray := ⟨#[27, 133, 20, 1, 22, 20, 1, 24, 184, 0, 101, 154, 0, 9, 42, 4, 182, 0, 143, 172]⟩
theorem daX12_wheel_0 : agB cX12_wheel dsX12_wheel_0 0 := agB_of (n := 20) (by decide +kernel)
theorem dbX12_wheel_0 : (decode dsX12_wheel_0 0 = .ok (.iload_n 1, 1) ∧ okop dsX12_wheel_0 0 = true) ∧ (decode dsX12_wheel_0 1 = .ok (.i2l, 1) ∧ okop dsX12_wheel_0 1 = true) ∧ (decode dsX12_wheel_0 2 = .ok (.ldc2_w 278, 3) ∧ okop dsX12_wheel_0 2 = true) ∧ (decode dsX12_wheel_0 5 = .ok (.ldc2_w 280, 3) ∧ okop dsX12_wheel_0 5 = true) ∧ (decode dsX12_wheel_0 8 = .ok (.invokestatic 101, 3) ∧ okop dsX12_wheel_0 8 = true) ∧ (decode dsX12_wheel_0 11 = .ok (.ifCond .ne 9, 3) ∧ okop dsX12_wheel_0 11 = true) ∧ (decode dsX12_wheel_0 14 = .ok (.aload_n 0, 1) ∧ okop dsX12_wheel_0 14 = true) ∧ (decode dsX12_wheel_0 15 = .ok (.iconst 1, 1) ∧ okop dsX12_wheel_0 15 = true) ∧ (decode dsX12_wheel_0 16 = .ok (.invokevirtual 143, 3) ∧ okop dsX12_wheel_0 16 = true) ∧ (decode dsX12_wheel_0 19 = .ok (.ireturn, 1) ∧ okop dsX12_wheel_0 19 = true) := by decide +kernel
theorem dX12_wheel_0 : decode cX12_wheel 0 = .ok (.iload_n 1, 1) := dgq (p := 0) daX12_wheel_0 dbX12_wheel_0.1
theorem dX12_wheel_1 : decode cX12_wheel 1 = .ok (.i2l, 1) := dgq (p := 1) daX12_wheel_0 dbX12_wheel_0.2.1
theorem dX12_wheel_2 : decode cX12_wheel 2 = .ok (.ldc2_w 278, 3) := dgq (p := 2) daX12_wheel_0 dbX12_wheel_0.2.2.1
theorem dX12_wheel_5 : decode cX12_wheel 5 = .ok (.ldc2_w 280, 3) := dgq (p := 5) daX12_wheel_0 dbX12_wheel_0.2.2.2.1
theorem dX12_wheel_8 : decode cX12_wheel 8 = .ok (.invokestatic 101, 3) := dgq (p := 8) daX12_wheel_0 dbX12_wheel_0.2.2.2.2.1
theorem dX12_wheel_11 : decode cX12_wheel 11 = .ok (.ifCond .ne 9, 3) := dgq (p := 11) daX12_wheel_0 dbX12_wheel_0.2.2.2.2.2.1
theorem dX12_wheel_14 : decode cX12_wheel 14 = .ok (.aload_n 0, 1) := dgq (p := 14) daX12_wheel_0 dbX12_wheel_0.2.2.2.2.2.2.1
theorem dX12_wheel_15 : decode cX12_wheel 15 = .ok (.iconst 1, 1) := dgq (p := 15) daX12_wheel_0 dbX12_wheel_0.2.2.2.2.2.2.2.1
theorem dX12_wheel_16 : decode cX12_wheel 16 = .ok (.invokevirtual 143, 3) := dgq (p := 16) daX12_wheel_0 dbX12_wheel_0.2.2.2.2.2.2.2.2.1
theorem dX12_wheel_19 : decode cX12_wheel 19 = .ok (.ireturn, 1) := dgq (p := 19) daX12_wheel_0 dbX12_wheel_0.2.2.2.2.2.2.2.2.2
def dsX12_wheel_20 : ByteArray := ⟨#[42, 180, 1, 26, 16, 16, 160, 0, 9, 42, 5, 182, 0, 143, 172, 42, 180, 0, 31]⟩
theorem daX12_wheel_20 : agB cX12_wheel dsX12_wheel_20 20 := agB_of (n := 19) (by decide +kernel)
theorem dbX12_wheel_20 : (decode dsX12_wheel_20 0 = .ok (.aload_n 0, 1) ∧ okop dsX12_wheel_20 0 = true) ∧ (decode dsX12_wheel_20 1 = .ok (.getfield 282, 3) ∧ okop dsX12_wheel_20 1 = true) ∧ (decode dsX12_wheel_20 4 = .ok (.bipush 16, 2) ∧ okop dsX12_wheel_20 4 = true) ∧ (decode dsX12_wheel_20 6 = .ok (.if_icmp .ne 9, 3) ∧ okop dsX12_wheel_20 6 = true) ∧ (decode dsX12_wheel_20 9 = .ok (.aload_n 0, 1) ∧ okop dsX12_wheel_20 9 = true) ∧ (decode dsX12_wheel_20 10 = .ok (.iconst 2, 1) ∧ okop dsX12_wheel_20 10 = true) ∧ (decode dsX12_wheel_20 11 = .ok (.invokevirtual 143, 3) ∧ okop dsX12_wheel_20 11 = true) ∧ (decode dsX12_wheel_20 14 = .ok (.ireturn, 1) ∧ okop dsX12_wheel_20 14 = true) ∧ (decode dsX12_wheel_20 15 = .ok (.aload_n 0, 1) ∧ okop dsX12_wheel_20 15 = true) ∧ (decode dsX12_wheel_20 16 = .ok (.getfield 31, 3) ∧ okop dsX12_wheel_20 16 = true) := by decide +kernel
theorem dX12_wheel_20 : decode cX12_wheel 20 = .ok (.aload_n 0, 1) := dgq (p := 0) daX12_wheel_20 dbX12_wheel_20.1
theorem dX12_wheel_21 : decode cX12_wheel 21 = .ok (.getfield 282, 3) := dgq (p := 1) daX12_wheel_20 dbX12_wheel_20.2.1
theorem dX12_wheel_24 : decode cX12_wheel 24 = .ok (.bipush 16, 2) := dgq (p := 4) daX12_wheel_20 dbX12_wheel_20.2.2.1
theorem dX12_wheel_26 : decode cX12_wheel 26 = .ok (.if_icmp .ne 9, 3) := dgq (p := 6) daX12_wheel_20 dbX12_wheel_20.2.2.2.1
theorem dX12_wheel_29 : decode cX12_wheel 29 = .ok (.aload_n 0, 1) := dgq (p := 9) daX12_wheel_20 dbX12_wheel_20.2.2.2.2.1
theorem dX12_wheel_30 : decode cX12_wheel 30 = .ok (.iconst 2, 1) := dgq (p := 10) daX12_wheel_20 dbX12_wheel_20.2.2.2.2.2.1
theorem dX12_wheel_31 : decode cX12_wheel 31 = .ok (.invokevirtual 143, 3) := dgq (p := 11) daX12_wheel_20 dbX12_wheel_20.2.2.2.2.2.2.1
theorem dX12_wheel_34 : decode cX12_wheel 34 = .ok (.ireturn, 1) := dgq (p := 14) daX12_wheel_20 dbX12_wheel_20.2.2.2.2.2.2.2.1
theorem dX12_wheel_35 : decode cX12_wheel 35 = .ok (.aload_n 0, 1) := dgq (p := 15) daX12_wheel_20 dbX12_wheel_20.2.2.2.2.2.2.2.2.1
theorem dX12_wheel_36 : decode cX12_wheel 36 = .ok (.getfield 31, 3) := dgq (p := 16) daX12_wheel_20 dbX12_wheel_20.2.2.2.2.2.2.2.2.2
def dsX12_wheel_39 : ByteArray := ⟨#[42, 180, 1, 26, 27, 79, 42, 89, 180, 1, 26, 4, 96, 181, 1, 26]⟩
theorem daX12_wheel_39 : agB cX12_wheel dsX12_wheel_39 39 := agB_of (n := 16) (by decide +kernel)
theorem dbX12_wheel_39 : (decode dsX12_wheel_39 0 = .ok (.aload_n 0, 1) ∧ okop dsX12_wheel_39 0 = true) ∧ (decode dsX12_wheel_39 1 = .ok (.getfield 282, 3) ∧ okop dsX12_wheel_39 1 = true) ∧ (decode dsX12_wheel_39 4 = .ok (.iload_n 1, 1) ∧ okop dsX12_wheel_39 4 = true) ∧ (decode dsX12_wheel_39 5 = .ok (.iastore, 1) ∧ okop dsX12_wheel_39 5 = true) ∧ (decode dsX12_wheel_39 6 = .ok (.aload_n 0, 1) ∧ okop dsX12_wheel_39 6 = true) ∧ (decode dsX12_wheel_39 7 = .ok (.dup, 1) ∧ okop dsX12_wheel_39 7 = true) ∧ (decode dsX12_wheel_39 8 = .ok (.getfield 282, 3) ∧ okop dsX12_wheel_39 8 = true) ∧ (decode dsX12_wheel_39 11 = .ok (.iconst 1, 1) ∧ okop dsX12_wheel_39 11 = true) ∧ (decode dsX12_wheel_39 12 = .ok (.iadd, 1) ∧ okop dsX12_wheel_39 12 = true) ∧ (decode dsX12_wheel_39 13 = .ok (.putfield 282, 3) ∧ okop dsX12_wheel_39 13 = true) := by decide +kernel
theorem dX12_wheel_39 : decode cX12_wheel 39 = .ok (.aload_n 0, 1) := dgq (p := 0) daX12_wheel_39 dbX12_wheel_39.1
theorem dX12_wheel_40 : decode cX12_wheel 40 = .ok (.getfield 282, 3) := dgq (p := 1) daX12_wheel_39 dbX12_wheel_39.2.1
theorem dX12_wheel_43 : decode cX12_wheel 43 = .ok (.iload_n 1, 1) := dgq (p := 4) daX12_wheel_39 dbX12_wheel_39.2.2.1
theorem dX12_wheel_44 : decode cX12_wheel 44 = .ok (.iastore, 1) := dgq (p := 5) daX12_wheel_39 dbX12_wheel_39.2.2.2.1
theorem dX12_wheel_45 : decode cX12_wheel 45 = .ok (.aload_n 0, 1) := dgq (p := 6) daX12_wheel_39 dbX12_wheel_39.2.2.2.2.1
theorem dX12_wheel_46 : decode cX12_wheel 46 = .ok (.dup, 1) := dgq (p := 7) daX12_wheel_39 dbX12_wheel_39.2.2.2.2.2.1
theorem dX12_wheel_47 : decode cX12_wheel 47 = .ok (.getfield 282, 3) := dgq (p := 8) daX12_wheel_39 dbX12_wheel_39.2.2.2.2.2.2.1
theorem dX12_wheel_50 : decode cX12_wheel 50 = .ok (.iconst 1, 1) := dgq (p := 11) daX12_wheel_39 dbX12_wheel_39.2.2.2.2.2.2.2.1
theorem dX12_wheel_51 : decode cX12_wheel 51 = .ok (.iadd, 1) := dgq (p := 12) daX12_wheel_39 dbX12_wheel_39.2.2.2.2.2.2.2.2.1
theorem dX12_wheel_52 : decode cX12_wheel 52 = .ok (.putfield 282, 3) := dgq (p := 13) daX12_wheel_39 dbX12_wheel_39.2.2.2.2.2.2.2.2.2
def dsX12_wheel_55 : ByteArray := ⟨#[42, 42, 180, 1, 26, 182, 0, 153, 172]⟩
theorem daX12_wheel_55 : agB cX12_wheel dsX12_wheel_55 55 := agB_of (n := 9) (by decide +kernel)
theorem dbX12_wheel_55 : (decode dsX12_wheel_55 0 = .ok (.aload_n 0, 1) ∧ okop dsX12_wheel_55 0 = true) ∧ (decode dsX12_wheel_55 1 = .ok (.aload_n 0, 1) ∧ okop dsX12_wheel_55 1 = true) ∧ (decode dsX12_wheel_55 2 = .ok (.getfield 282, 3) ∧ okop dsX12_wheel_55 2 = true) ∧ (decode dsX12_wheel_55 5 = .ok (.invokevirtual 153, 3) ∧ okop dsX12_wheel_55 5 = true) ∧ (decode dsX12_wheel_55 8 = .ok (.ireturn, 1) ∧ okop dsX12_wheel_55 8 = true) := by decide +kernel
theorem dX12_wheel_55 : decode cX12_wheel 55 = .ok (.aload_n 0, 1) := dgq (p := 0) daX12_wheel_55 dbX12_wheel_55.1
theorem dX12_wheel_56 : decode cX12_wheel 56 = .ok (.aload_n 0, 1) := dgq (p := 1) daX12_wheel_55 dbX12_wheel_55.2.1
theorem dX12_wheel_57 : decode cX12_wheel 57 = .ok (.getfield 282, 3) := dgq (p := 2) daX12_wheel_55 dbX12_wheel_55.2.2.1
theorem dX12_wheel_60 : decode cX12_wheel 60 = .ok (.invokevirtual 153, 3) := dgq (p := 5) daX12_wheel_55 dbX12_wheel_55.2.2.2.1
theorem dX12_wheel_63 : decode cX12_wheel 63 = .ok (.ireturn, 1) := dgq (p := 8) daX12_wheel_55 dbX12_wheel_55.2.2.2.2
def dsX12_offOf_0 : ByteArray := ⟨#[42, 3, 46, 133, 42, 5, 46, 133, 105, 33]⟩
theorem daX12_offOf_0 : agB cX12_offOf dsX12_offOf_0 0 := agB_of (n := 10) (by decide +kernel)
theorem dbX12_offOf_0 : (decode dsX12_offOf_0 0 = .ok (.aload_n 0, 1) ∧ okop dsX12_offOf_0 0 = true) ∧ (decode dsX12_offOf_0 1 = .ok (.iconst 0, 1) ∧ okop dsX12_offOf_0 1 = true) ∧ (decode dsX12_offOf_0 2 = .ok (.iaload, 1) ∧ okop dsX12_offOf_0 2 = true) ∧ (decode dsX12_offOf_0 3 = .ok (.i2l, 1) ∧ okop dsX12_offOf_0 3 = true) ∧ (decode dsX12_offOf_0 4 = .ok (.aload_n 0, 1) ∧ okop dsX12_offOf_0 4 = true) ∧ (decode dsX12_offOf_0 5 = .ok (.iconst 2, 1) ∧ okop dsX12_offOf_0 5 = true) ∧ (decode dsX12_offOf_0 6 = .ok (.iaload, 1) ∧ okop dsX12_offOf_0 6 = true) ∧ (decode dsX12_offOf_0 7 = .ok (.i2l, 1) ∧ okop dsX12_offOf_0 7 = true) ∧ (decode dsX12_offOf_0 8 = .ok (.lmul, 1) ∧ okop dsX12_offOf_0 8 = true) ∧ (decode dsX12_offOf_0 9 = .ok (.lload_n 3, 1) ∧ okop dsX12_offOf_0 9 = true) := by decide +kernel
theorem dX12_offOf_0 : decode cX12_offOf 0 = .ok (.aload_n 0, 1) := dgq (p := 0) daX12_offOf_0 dbX12_offOf_0.1
theorem dX12_offOf_1 : decode cX12_offOf 1 = .ok (.iconst 0, 1) := dgq (p := 1) daX12_offOf_0 dbX12_offOf_0.2.1
theorem dX12_offOf_2 : decode cX12_offOf 2 = .ok (.iaload, 1) := dgq (p := 2) daX12_offOf_0 dbX12_offOf_0.2.2.1
theorem dX12_offOf_3 : decode cX12_offOf 3 = .ok (.i2l, 1) := dgq (p := 3) daX12_offOf_0 dbX12_offOf_0.2.2.2.1
theorem dX12_offOf_4 : decode cX12_offOf 4 = .ok (.aload_n 0, 1) := dgq (p := 4) daX12_offOf_0 dbX12_offOf_0.2.2.2.2.1
theorem dX12_offOf_5 : decode cX12_offOf 5 = .ok (.iconst 2, 1) := dgq (p := 5) daX12_offOf_0 dbX12_offOf_0.2.2.2.2.2.1
theorem dX12_offOf_6 : decode cX12_offOf 6 = .ok (.iaload, 1) := dgq (p := 6) daX12_offOf_0 dbX12_offOf_0.2.2.2.2.2.2.1
theorem dX12_offOf_7 : decode cX12_offOf 7 = .ok (.i2l, 1) := dgq (p := 7) daX12_offOf_0 dbX12_offOf_0.2.2.2.2.2.2.2.1
theorem dX12_offOf_8 : decode cX12_offOf 8 = .ok (.lmul, 1) := dgq (p := 8) daX12_offOf_0 dbX12_offOf_0.2.2.2.2.2.2.2.2.1
theorem dX12_offOf_9 : decode cX12_offOf 9 = .ok (.lload_n 3, 1) := dgq (p := 9) daX12_offOf_0 dbX12_offOf_0.2.2.2.2.2.2.2.2.2
def dsX12_offOf_10 : ByteArray := ⟨#[105, 31, 42, 4, 46, 133, 105, 42, 6, 46]⟩
theorem daX12_offOf_10 : agB cX12_offOf dsX12_offOf_10 10 := agB_of (n := 10) (by decide +kernel)
theorem dbX12_offOf_10 : (decode dsX12_offOf_10 0 = .ok (.lmul, 1) ∧ okop dsX12_offOf_10 0 = true) ∧ (decode dsX12_offOf_10 1 = .ok (.lload_n 1, 1) ∧ okop dsX12_offOf_10 1 = true) ∧ (decode dsX12_offOf_10 2 = .ok (.aload_n 0, 1) ∧ okop dsX12_offOf_10 2 = true) ∧ (decode dsX12_offOf_10 3 = .ok (.iconst 1, 1) ∧ okop dsX12_offOf_10 3 = true) ∧ (decode dsX12_offOf_10 4 = .ok (.iaload, 1) ∧ okop dsX12_offOf_10 4 = true) ∧ (decode dsX12_offOf_10 5 = .ok (.i2l, 1) ∧ okop dsX12_offOf_10 5 = true) ∧ (decode dsX12_offOf_10 6 = .ok (.lmul, 1) ∧ okop dsX12_offOf_10 6 = true) ∧ (decode dsX12_offOf_10 7 = .ok (.aload_n 0, 1) ∧ okop dsX12_offOf_10 7 = true) ∧ (decode dsX12_offOf_10 8 = .ok (.iconst 3, 1) ∧ okop dsX12_offOf_10 8 = true) ∧ (decode dsX12_offOf_10 9 = .ok (.iaload, 1) ∧ okop dsX12_offOf_10 9 = true) := by decide +kernel
theorem dX12_offOf_10 : decode cX12_offOf 10 = .ok (.lmul, 1) := dgq (p := 0) daX12_offOf_10 dbX12_offOf_10.1
theorem dX12_offOf_11 : decode cX12_offOf 11 = .ok (.lload_n 1, 1) := dgq (p := 1) daX12_offOf_10 dbX12_offOf_10.2.1
theorem dX12_offOf_12 : decode cX12_offOf 12 = .ok (.aload_n 0, 1) := dgq (p := 2) daX12_offOf_10 dbX12_offOf_10.2.2.1
theorem dX12_offOf_13 : decode cX12_offOf 13 = .ok (.iconst 1, 1) := dgq (p := 3) daX12_offOf_10 dbX12_offOf_10.2.2.2.1
theorem dX12_offOf_14 : decode cX12_offOf 14 = .ok (.iaload, 1) := dgq (p := 4) daX12_offOf_10 dbX12_offOf_10.2.2.2.2.1
theorem dX12_offOf_15 : decode cX12_offOf 15 = .ok (.i2l, 1) := dgq (p := 5) daX12_offOf_10 dbX12_offOf_10.2.2.2.2.2.1
theorem dX12_offOf_16 : decode cX12_offOf 16 = .ok (.lmul, 1) := dgq (p := 6) daX12_offOf_10 dbX12_offOf_10.2.2.2.2.2.2.1
theorem dX12_offOf_17 : decode cX12_offOf 17 = .ok (.aload_n 0, 1) := dgq (p := 7) daX12_offOf_10 dbX12_offOf_10.2.2.2.2.2.2.2.1
theorem dX12_offOf_18 : decode cX12_offOf 18 = .ok (.iconst 3, 1) := dgq (p := 8) daX12_offOf_10 dbX12_offOf_10.2.2.2.2.2.2.2.2.1
theorem dX12_offOf_19 : decode cX12_offOf 19 = .ok (.iaload, 1) := dgq (p := 9) daX12_offOf_10 dbX12_offOf_10.2.2.2.2.2.2.2.2.2
def dsX12_offOf_20 : ByteArray := ⟨#[133, 105, 101, 184, 0, 239, 173]⟩
theorem daX12_offOf_20 : agB cX12_offOf dsX12_offOf_20 20 := agB_of (n := 7) (by decide +kernel)
theorem dbX12_offOf_20 : (decode dsX12_offOf_20 0 = .ok (.i2l, 1) ∧ okop dsX12_offOf_20 0 = true) ∧ (decode dsX12_offOf_20 1 = .ok (.lmul, 1) ∧ okop dsX12_offOf_20 1 = true) ∧ (decode dsX12_offOf_20 2 = .ok (.lsub, 1) ∧ okop dsX12_offOf_20 2 = true) ∧ (decode dsX12_offOf_20 3 = .ok (.invokestatic 239, 3) ∧ okop dsX12_offOf_20 3 = true) ∧ (decode dsX12_offOf_20 6 = .ok (.lreturn, 1) ∧ okop dsX12_offOf_20 6 = true) := by decide +kernel
theorem dX12_offOf_20 : decode cX12_offOf 20 = .ok (.i2l, 1) := dgq (p := 0) daX12_offOf_20 dbX12_offOf_20.1
theorem dX12_offOf_21 : decode cX12_offOf 21 = .ok (.lmul, 1) := dgq (p := 1) daX12_offOf_20 dbX12_offOf_20.2.1
theorem dX12_offOf_22 : decode cX12_offOf 22 = .ok (.lsub, 1) := dgq (p := 2) daX12_offOf_20 dbX12_offOf_20.2.2.1
theorem dX12_offOf_23 : decode cX12_offOf 23 = .ok (.invokestatic 239, 3) := dgq (p := 3) daX12_offOf_20 dbX12_offOf_20.2.2.2.1
theorem dX12_offOf_26 : decode cX12_offOf 26 = .ok (.lreturn, 1) := dgq (p := 6) daX12_offOf_20 dbX12_offOf_20.2.2.2.2
set_option maxRecDepth 20000 in
theorem ggX12_isBetterFour_X12_offOf : GoodIn wsX12_isBetterFour wsX12_offOf := goodIn_ca (goodIn_q _ [6, 7, 8, 9, 10] rfl (by decide +kernel)) (goodIn_sub (fun _ h => List.mem_cons_of_mem _ (List.mem_append_right _ h)) (by decide +kernel))
set_option maxRecDepth 20000 in
theorem gX12_isBetterFour_X12_offOf : GoodIn wsX12_isBetterFour (va_wsS RX12 285 yX12_offOf wsX12_offOf) := goodIn_app (goodIn_q _ [3, 4, 5] rfl (by decide +kernel)) ggX12_isBetterFour_X12_offOf
def dsX12_isBetterFour_0 : ByteArray := ⟨#[42, 180, 0, 38, 31, 33, 184, 1, 29, 42, 180, 0, 35, 4, 46, 133]⟩
theorem daX12_isBetterFour_0 : agB cX12_isBetterFour dsX12_isBetterFour_0 0 := agB_of (n := 16) (by decide +kernel)
theorem dbX12_isBetterFour_0 : (decode dsX12_isBetterFour_0 0 = .ok (.aload_n 0, 1) ∧ okop dsX12_isBetterFour_0 0 = true) ∧ (decode dsX12_isBetterFour_0 1 = .ok (.getfield 38, 3) ∧ okop dsX12_isBetterFour_0 1 = true) ∧ (decode dsX12_isBetterFour_0 4 = .ok (.lload_n 1, 1) ∧ okop dsX12_isBetterFour_0 4 = true) ∧ (decode dsX12_isBetterFour_0 5 = .ok (.lload_n 3, 1) ∧ okop dsX12_isBetterFour_0 5 = true) ∧ (decode dsX12_isBetterFour_0 6 = .ok (.invokestatic 285, 3) ∧ okop dsX12_isBetterFour_0 6 = true) ∧ (decode dsX12_isBetterFour_0 9 = .ok (.aload_n 0, 1) ∧ okop dsX12_isBetterFour_0 9 = true) ∧ (decode dsX12_isBetterFour_0 10 = .ok (.getfield 35, 3) ∧ okop dsX12_isBetterFour_0 10 = true) ∧ (decode dsX12_isBetterFour_0 13 = .ok (.iconst 1, 1) ∧ okop dsX12_isBetterFour_0 13 = true) ∧ (decode dsX12_isBetterFour_0 14 = .ok (.iaload, 1) ∧ okop dsX12_isBetterFour_0 14 = true) ∧ (decode dsX12_isBetterFour_0 15 = .ok (.i2l, 1) ∧ okop dsX12_isBetterFour_0 15 = true) := by decide +kernel
theorem dX12_isBetterFour_0 : decode cX12_isBetterFour 0 = .ok (.aload_n 0, 1) := dgq (p := 0) daX12_isBetterFour_0 dbX12_isBetterFour_0.1
theorem dX12_isBetterFour_1 : decode cX12_isBetterFour 1 = .ok (.getfield 38, 3) := dgq (p := 1) daX12_isBetterFour_0 dbX12_isBetterFour_0.2.1
theorem dX12_isBetterFour_4 : decode cX12_isBetterFour 4 = .ok (.lload_n 1, 1) := dgq (p := 4) daX12_isBetterFour_0 dbX12_isBetterFour_0.2.2.1
theorem dX12_isBetterFour_5 : decode cX12_isBetterFour 5 = .ok (.lload_n 3, 1) := dgq (p := 5) daX12_isBetterFour_0 dbX12_isBetterFour_0.2.2.2.1
theorem dX12_isBetterFour_6 : decode cX12_isBetterFour 6 = .ok (.invokestatic 285, 3) := dgq (p := 6) daX12_isBetterFour_0 dbX12_isBetterFour_0.2.2.2.2.1
theorem dX12_isBetterFour_9 : decode cX12_isBetterFour 9 = .ok (.aload_n 0, 1) := dgq (p := 9) daX12_isBetterFour_0 dbX12_isBetterFour_0.2.2.2.2.2.1
theorem dX12_isBetterFour_10 : decode cX12_isBetterFour 10 = .ok (.getfield 35, 3) := dgq (p := 10) daX12_isBetterFour_0 dbX12_isBetterFour_0.2.2.2.2.2.2.1
theorem dX12_isBetterFour_13 : decode cX12_isBetterFour 13 = .ok (.iconst 1, 1) := dgq (p := 13) daX12_isBetterFour_0 dbX12_isBetterFour_0.2.2.2.2.2.2.2.1
theorem dX12_isBetterFour_14 : decode cX12_isBetterFour 14 = .ok (.iaload, 1) := dgq (p := 14) daX12_isBetterFour_0 dbX12_isBetterFour_0.2.2.2.2.2.2.2.2.1
theorem dX12_isBetterFour_15 : decode cX12_isBetterFour 15 = .ok (.i2l, 1) := dgq (p := 15) daX12_isBetterFour_0 dbX12_isBetterFour_0.2.2.2.2.2.2.2.2.2
def dsX12_isBetterFour_16 : ByteArray := ⟨#[105, 42, 180, 0, 35, 6, 46, 133, 105, 55, 5, 42, 180, 0, 35]⟩
theorem daX12_isBetterFour_16 : agB cX12_isBetterFour dsX12_isBetterFour_16 16 := agB_of (n := 15) (by decide +kernel)
theorem dbX12_isBetterFour_16 : (decode dsX12_isBetterFour_16 0 = .ok (.lmul, 1) ∧ okop dsX12_isBetterFour_16 0 = true) ∧ (decode dsX12_isBetterFour_16 1 = .ok (.aload_n 0, 1) ∧ okop dsX12_isBetterFour_16 1 = true) ∧ (decode dsX12_isBetterFour_16 2 = .ok (.getfield 35, 3) ∧ okop dsX12_isBetterFour_16 2 = true) ∧ (decode dsX12_isBetterFour_16 5 = .ok (.iconst 3, 1) ∧ okop dsX12_isBetterFour_16 5 = true) ∧ (decode dsX12_isBetterFour_16 6 = .ok (.iaload, 1) ∧ okop dsX12_isBetterFour_16 6 = true) ∧ (decode dsX12_isBetterFour_16 7 = .ok (.i2l, 1) ∧ okop dsX12_isBetterFour_16 7 = true) ∧ (decode dsX12_isBetterFour_16 8 = .ok (.lmul, 1) ∧ okop dsX12_isBetterFour_16 8 = true) ∧ (decode dsX12_isBetterFour_16 9 = .ok (.lstore 5, 2) ∧ okop dsX12_isBetterFour_16 9 = true) ∧ (decode dsX12_isBetterFour_16 11 = .ok (.aload_n 0, 1) ∧ okop dsX12_isBetterFour_16 11 = true) ∧ (decode dsX12_isBetterFour_16 12 = .ok (.getfield 35, 3) ∧ okop dsX12_isBetterFour_16 12 = true) := by decide +kernel
theorem dX12_isBetterFour_16 : decode cX12_isBetterFour 16 = .ok (.lmul, 1) := dgq (p := 0) daX12_isBetterFour_16 dbX12_isBetterFour_16.1
theorem dX12_isBetterFour_17 : decode cX12_isBetterFour 17 = .ok (.aload_n 0, 1) := dgq (p := 1) daX12_isBetterFour_16 dbX12_isBetterFour_16.2.1
theorem dX12_isBetterFour_18 : decode cX12_isBetterFour 18 = .ok (.getfield 35, 3) := dgq (p := 2) daX12_isBetterFour_16 dbX12_isBetterFour_16.2.2.1
theorem dX12_isBetterFour_21 : decode cX12_isBetterFour 21 = .ok (.iconst 3, 1) := dgq (p := 5) daX12_isBetterFour_16 dbX12_isBetterFour_16.2.2.2.1
theorem dX12_isBetterFour_22 : decode cX12_isBetterFour 22 = .ok (.iaload, 1) := dgq (p := 6) daX12_isBetterFour_16 dbX12_isBetterFour_16.2.2.2.2.1
theorem dX12_isBetterFour_23 : decode cX12_isBetterFour 23 = .ok (.i2l, 1) := dgq (p := 7) daX12_isBetterFour_16 dbX12_isBetterFour_16.2.2.2.2.2.1
theorem dX12_isBetterFour_24 : decode cX12_isBetterFour 24 = .ok (.lmul, 1) := dgq (p := 8) daX12_isBetterFour_16 dbX12_isBetterFour_16.2.2.2.2.2.2.1
theorem dX12_isBetterFour_25 : decode cX12_isBetterFour 25 = .ok (.lstore 5, 2) := dgq (p := 9) daX12_isBetterFour_16 dbX12_isBetterFour_16.2.2.2.2.2.2.2.1
theorem dX12_isBetterFour_27 : decode cX12_isBetterFour 27 = .ok (.aload_n 0, 1) := dgq (p := 11) daX12_isBetterFour_16 dbX12_isBetterFour_16.2.2.2.2.2.2.2.2.1
theorem dX12_isBetterFour_28 : decode cX12_isBetterFour 28 = .ok (.getfield 35, 3) := dgq (p := 12) daX12_isBetterFour_16 dbX12_isBetterFour_16.2.2.2.2.2.2.2.2.2
def dsX12_isBetterFour_31 : ByteArray := ⟨#[31, 33, 184, 1, 29, 42, 180, 0, 38, 4, 46, 133, 105, 42]⟩
theorem daX12_isBetterFour_31 : agB cX12_isBetterFour dsX12_isBetterFour_31 31 := agB_of (n := 14) (by decide +kernel)
theorem dbX12_isBetterFour_31 : (decode dsX12_isBetterFour_31 0 = .ok (.lload_n 1, 1) ∧ okop dsX12_isBetterFour_31 0 = true) ∧ (decode dsX12_isBetterFour_31 1 = .ok (.lload_n 3, 1) ∧ okop dsX12_isBetterFour_31 1 = true) ∧ (decode dsX12_isBetterFour_31 2 = .ok (.invokestatic 285, 3) ∧ okop dsX12_isBetterFour_31 2 = true) ∧ (decode dsX12_isBetterFour_31 5 = .ok (.aload_n 0, 1) ∧ okop dsX12_isBetterFour_31 5 = true) ∧ (decode dsX12_isBetterFour_31 6 = .ok (.getfield 38, 3) ∧ okop dsX12_isBetterFour_31 6 = true) ∧ (decode dsX12_isBetterFour_31 9 = .ok (.iconst 1, 1) ∧ okop dsX12_isBetterFour_31 9 = true) ∧ (decode dsX12_isBetterFour_31 10 = .ok (.iaload, 1) ∧ okop dsX12_isBetterFour_31 10 = true) ∧ (decode dsX12_isBetterFour_31 11 = .ok (.i2l, 1) ∧ okop dsX12_isBetterFour_31 11 = true) ∧ (decode dsX12_isBetterFour_31 12 = .ok (.lmul, 1) ∧ okop dsX12_isBetterFour_31 12 = true) ∧ (decode dsX12_isBetterFour_31 13 = .ok (.aload_n 0, 1) ∧ okop dsX12_isBetterFour_31 13 = true) := by decide +kernel
theorem dX12_isBetterFour_31 : decode cX12_isBetterFour 31 = .ok (.lload_n 1, 1) := dgq (p := 0) daX12_isBetterFour_31 dbX12_isBetterFour_31.1
theorem dX12_isBetterFour_32 : decode cX12_isBetterFour 32 = .ok (.lload_n 3, 1) := dgq (p := 1) daX12_isBetterFour_31 dbX12_isBetterFour_31.2.1
theorem dX12_isBetterFour_33 : decode cX12_isBetterFour 33 = .ok (.invokestatic 285, 3) := dgq (p := 2) daX12_isBetterFour_31 dbX12_isBetterFour_31.2.2.1
theorem dX12_isBetterFour_36 : decode cX12_isBetterFour 36 = .ok (.aload_n 0, 1) := dgq (p := 5) daX12_isBetterFour_31 dbX12_isBetterFour_31.2.2.2.1
theorem dX12_isBetterFour_37 : decode cX12_isBetterFour 37 = .ok (.getfield 38, 3) := dgq (p := 6) daX12_isBetterFour_31 dbX12_isBetterFour_31.2.2.2.2.1
theorem dX12_isBetterFour_40 : decode cX12_isBetterFour 40 = .ok (.iconst 1, 1) := dgq (p := 9) daX12_isBetterFour_31 dbX12_isBetterFour_31.2.2.2.2.2.1
theorem dX12_isBetterFour_41 : decode cX12_isBetterFour 41 = .ok (.iaload, 1) := dgq (p := 10) daX12_isBetterFour_31 dbX12_isBetterFour_31.2.2.2.2.2.2.1
theorem dX12_isBetterFour_42 : decode cX12_isBetterFour 42 = .ok (.i2l, 1) := dgq (p := 11) daX12_isBetterFour_31 dbX12_isBetterFour_31.2.2.2.2.2.2.2.1
theorem dX12_isBetterFour_43 : decode cX12_isBetterFour 43 = .ok (.lmul, 1) := dgq (p := 12) daX12_isBetterFour_31 dbX12_isBetterFour_31.2.2.2.2.2.2.2.2.1
theorem dX12_isBetterFour_44 : decode cX12_isBetterFour 44 = .ok (.aload_n 0, 1) := dgq (p := 13) daX12_isBetterFour_31 dbX12_isBetterFour_31.2.2.2.2.2.2.2.2.2
def dsX12_isBetterFour_45 : ByteArray := ⟨#[180, 0, 38, 6, 46, 133, 105, 55, 7, 22, 5, 22, 7, 148, 153, 0, 17]⟩
theorem daX12_isBetterFour_45 : agB cX12_isBetterFour dsX12_isBetterFour_45 45 := agB_of (n := 17) (by decide +kernel)
theorem dbX12_isBetterFour_45 : (decode dsX12_isBetterFour_45 0 = .ok (.getfield 38, 3) ∧ okop dsX12_isBetterFour_45 0 = true) ∧ (decode dsX12_isBetterFour_45 3 = .ok (.iconst 3, 1) ∧ okop dsX12_isBetterFour_45 3 = true) ∧ (decode dsX12_isBetterFour_45 4 = .ok (.iaload, 1) ∧ okop dsX12_isBetterFour_45 4 = true) ∧ (decode dsX12_isBetterFour_45 5 = .ok (.i2l, 1) ∧ okop dsX12_isBetterFour_45 5 = true) ∧ (decode dsX12_isBetterFour_45 6 = .ok (.lmul, 1) ∧ okop dsX12_isBetterFour_45 6 = true) ∧ (decode dsX12_isBetterFour_45 7 = .ok (.lstore 7, 2) ∧ okop dsX12_isBetterFour_45 7 = true) ∧ (decode dsX12_isBetterFour_45 9 = .ok (.lload 5, 2) ∧ okop dsX12_isBetterFour_45 9 = true) ∧ (decode dsX12_isBetterFour_45 11 = .ok (.lload 7, 2) ∧ okop dsX12_isBetterFour_45 11 = true) ∧ (decode dsX12_isBetterFour_45 13 = .ok (.lcmp, 1) ∧ okop dsX12_isBetterFour_45 13 = true) ∧ (decode dsX12_isBetterFour_45 14 = .ok (.ifCond .eq 17, 3) ∧ okop dsX12_isBetterFour_45 14 = true) := by decide +kernel
theorem dX12_isBetterFour_45 : decode cX12_isBetterFour 45 = .ok (.getfield 38, 3) := dgq (p := 0) daX12_isBetterFour_45 dbX12_isBetterFour_45.1
theorem dX12_isBetterFour_48 : decode cX12_isBetterFour 48 = .ok (.iconst 3, 1) := dgq (p := 3) daX12_isBetterFour_45 dbX12_isBetterFour_45.2.1
theorem dX12_isBetterFour_49 : decode cX12_isBetterFour 49 = .ok (.iaload, 1) := dgq (p := 4) daX12_isBetterFour_45 dbX12_isBetterFour_45.2.2.1
theorem dX12_isBetterFour_50 : decode cX12_isBetterFour 50 = .ok (.i2l, 1) := dgq (p := 5) daX12_isBetterFour_45 dbX12_isBetterFour_45.2.2.2.1
theorem dX12_isBetterFour_51 : decode cX12_isBetterFour 51 = .ok (.lmul, 1) := dgq (p := 6) daX12_isBetterFour_45 dbX12_isBetterFour_45.2.2.2.2.1
theorem dX12_isBetterFour_52 : decode cX12_isBetterFour 52 = .ok (.lstore 7, 2) := dgq (p := 7) daX12_isBetterFour_45 dbX12_isBetterFour_45.2.2.2.2.2.1
theorem dX12_isBetterFour_54 : decode cX12_isBetterFour 54 = .ok (.lload 5, 2) := dgq (p := 9) daX12_isBetterFour_45 dbX12_isBetterFour_45.2.2.2.2.2.2.1
theorem dX12_isBetterFour_56 : decode cX12_isBetterFour 56 = .ok (.lload 7, 2) := dgq (p := 11) daX12_isBetterFour_45 dbX12_isBetterFour_45.2.2.2.2.2.2.2.1
theorem dX12_isBetterFour_58 : decode cX12_isBetterFour 58 = .ok (.lcmp, 1) := dgq (p := 13) daX12_isBetterFour_45 dbX12_isBetterFour_45.2.2.2.2.2.2.2.2.1
theorem dX12_isBetterFour_59 : decode cX12_isBetterFour 59 = .ok (.ifCond .eq 17, 3) := dgq (p := 14) daX12_isBetterFour_45 dbX12_isBetterFour_45.2.2.2.2.2.2.2.2.2
def dsX12_isBetterFour_62 : ByteArray := ⟨#[22, 5, 22, 7, 148, 156, 0, 7, 4, 167, 0, 4, 3, 172, 3, 54, 9]⟩
theorem daX12_isBetterFour_62 : agB cX12_isBetterFour dsX12_isBetterFour_62 62 := agB_of (n := 17) (by decide +kernel)
theorem dbX12_isBetterFour_62 : (decode dsX12_isBetterFour_62 0 = .ok (.lload 5, 2) ∧ okop dsX12_isBetterFour_62 0 = true) ∧ (decode dsX12_isBetterFour_62 2 = .ok (.lload 7, 2) ∧ okop dsX12_isBetterFour_62 2 = true) ∧ (decode dsX12_isBetterFour_62 4 = .ok (.lcmp, 1) ∧ okop dsX12_isBetterFour_62 4 = true) ∧ (decode dsX12_isBetterFour_62 5 = .ok (.ifCond .ge 7, 3) ∧ okop dsX12_isBetterFour_62 5 = true) ∧ (decode dsX12_isBetterFour_62 8 = .ok (.iconst 1, 1) ∧ okop dsX12_isBetterFour_62 8 = true) ∧ (decode dsX12_isBetterFour_62 9 = .ok (.goto 4, 3) ∧ okop dsX12_isBetterFour_62 9 = true) ∧ (decode dsX12_isBetterFour_62 12 = .ok (.iconst 0, 1) ∧ okop dsX12_isBetterFour_62 12 = true) ∧ (decode dsX12_isBetterFour_62 13 = .ok (.ireturn, 1) ∧ okop dsX12_isBetterFour_62 13 = true) ∧ (decode dsX12_isBetterFour_62 14 = .ok (.iconst 0, 1) ∧ okop dsX12_isBetterFour_62 14 = true) ∧ (decode dsX12_isBetterFour_62 15 = .ok (.istore 9, 2) ∧ okop dsX12_isBetterFour_62 15 = true) := by decide +kernel
theorem dX12_isBetterFour_62 : decode cX12_isBetterFour 62 = .ok (.lload 5, 2) := dgq (p := 0) daX12_isBetterFour_62 dbX12_isBetterFour_62.1
theorem dX12_isBetterFour_64 : decode cX12_isBetterFour 64 = .ok (.lload 7, 2) := dgq (p := 2) daX12_isBetterFour_62 dbX12_isBetterFour_62.2.1
theorem dX12_isBetterFour_66 : decode cX12_isBetterFour 66 = .ok (.lcmp, 1) := dgq (p := 4) daX12_isBetterFour_62 dbX12_isBetterFour_62.2.2.1
theorem dX12_isBetterFour_67 : decode cX12_isBetterFour 67 = .ok (.ifCond .ge 7, 3) := dgq (p := 5) daX12_isBetterFour_62 dbX12_isBetterFour_62.2.2.2.1
theorem dX12_isBetterFour_70 : decode cX12_isBetterFour 70 = .ok (.iconst 1, 1) := dgq (p := 8) daX12_isBetterFour_62 dbX12_isBetterFour_62.2.2.2.2.1
theorem dX12_isBetterFour_71 : decode cX12_isBetterFour 71 = .ok (.goto 4, 3) := dgq (p := 9) daX12_isBetterFour_62 dbX12_isBetterFour_62.2.2.2.2.2.1
theorem dX12_isBetterFour_74 : decode cX12_isBetterFour 74 = .ok (.iconst 0, 1) := dgq (p := 12) daX12_isBetterFour_62 dbX12_isBetterFour_62.2.2.2.2.2.2.1
theorem dX12_isBetterFour_75 : decode cX12_isBetterFour 75 = .ok (.ireturn, 1) := dgq (p := 13) daX12_isBetterFour_62 dbX12_isBetterFour_62.2.2.2.2.2.2.2.1
theorem dX12_isBetterFour_76 : decode cX12_isBetterFour 76 = .ok (.iconst 0, 1) := dgq (p := 14) daX12_isBetterFour_62 dbX12_isBetterFour_62.2.2.2.2.2.2.2.2.1
theorem dX12_isBetterFour_77 : decode cX12_isBetterFour 77 = .ok (.istore 9, 2) := dgq (p := 15) daX12_isBetterFour_62 dbX12_isBetterFour_62.2.2.2.2.2.2.2.2.2
def dsX12_isBetterFour_79 : ByteArray := ⟨#[21, 9, 7, 162, 0, 49, 42, 180, 0, 38, 21, 9, 46, 42, 180, 0, 35, 21, 9]⟩
theorem daX12_isBetterFour_79 : agB cX12_isBetterFour dsX12_isBetterFour_79 79 := agB_of (n := 19) (by decide +kernel)
theorem dbX12_isBetterFour_79 : (decode dsX12_isBetterFour_79 0 = .ok (.iload 9, 2) ∧ okop dsX12_isBetterFour_79 0 = true) ∧ (decode dsX12_isBetterFour_79 2 = .ok (.iconst 4, 1) ∧ okop dsX12_isBetterFour_79 2 = true) ∧ (decode dsX12_isBetterFour_79 3 = .ok (.if_icmp .ge 49, 3) ∧ okop dsX12_isBetterFour_79 3 = true) ∧ (decode dsX12_isBetterFour_79 6 = .ok (.aload_n 0, 1) ∧ okop dsX12_isBetterFour_79 6 = true) ∧ (decode dsX12_isBetterFour_79 7 = .ok (.getfield 38, 3) ∧ okop dsX12_isBetterFour_79 7 = true) ∧ (decode dsX12_isBetterFour_79 10 = .ok (.iload 9, 2) ∧ okop dsX12_isBetterFour_79 10 = true) ∧ (decode dsX12_isBetterFour_79 12 = .ok (.iaload, 1) ∧ okop dsX12_isBetterFour_79 12 = true) ∧ (decode dsX12_isBetterFour_79 13 = .ok (.aload_n 0, 1) ∧ okop dsX12_isBetterFour_79 13 = true) ∧ (decode dsX12_isBetterFour_79 14 = .ok (.getfield 35, 3) ∧ okop dsX12_isBetterFour_79 14 = true) ∧ (decode dsX12_isBetterFour_79 17 = .ok (.iload 9, 2) ∧ okop dsX12_isBetterFour_79 17 = true) := by decide +kernel
theorem dX12_isBetterFour_79 : decode cX12_isBetterFour 79 = .ok (.iload 9, 2) := dgq (p := 0) daX12_isBetterFour_79 dbX12_isBetterFour_79.1
theorem dX12_isBetterFour_81 : decode cX12_isBetterFour 81 = .ok (.iconst 4, 1) := dgq (p := 2) daX12_isBetterFour_79 dbX12_isBetterFour_79.2.1
theorem dX12_isBetterFour_82 : decode cX12_isBetterFour 82 = .ok (.if_icmp .ge 49, 3) := dgq (p := 3) daX12_isBetterFour_79 dbX12_isBetterFour_79.2.2.1
theorem dX12_isBetterFour_85 : decode cX12_isBetterFour 85 = .ok (.aload_n 0, 1) := dgq (p := 6) daX12_isBetterFour_79 dbX12_isBetterFour_79.2.2.2.1
theorem dX12_isBetterFour_86 : decode cX12_isBetterFour 86 = .ok (.getfield 38, 3) := dgq (p := 7) daX12_isBetterFour_79 dbX12_isBetterFour_79.2.2.2.2.1
theorem dX12_isBetterFour_89 : decode cX12_isBetterFour 89 = .ok (.iload 9, 2) := dgq (p := 10) daX12_isBetterFour_79 dbX12_isBetterFour_79.2.2.2.2.2.1
theorem dX12_isBetterFour_91 : decode cX12_isBetterFour 91 = .ok (.iaload, 1) := dgq (p := 12) daX12_isBetterFour_79 dbX12_isBetterFour_79.2.2.2.2.2.2.1
theorem dX12_isBetterFour_92 : decode cX12_isBetterFour 92 = .ok (.aload_n 0, 1) := dgq (p := 13) daX12_isBetterFour_79 dbX12_isBetterFour_79.2.2.2.2.2.2.2.1
theorem dX12_isBetterFour_93 : decode cX12_isBetterFour 93 = .ok (.getfield 35, 3) := dgq (p := 14) daX12_isBetterFour_79 dbX12_isBetterFour_79.2.2.2.2.2.2.2.2.1
theorem dX12_isBetterFour_96 : decode cX12_isBetterFour 96 = .ok (.iload 9, 2) := dgq (p := 17) daX12_isBetterFour_79 dbX12_isBetterFour_79.2.2.2.2.2.2.2.2.2
def dsX12_isBetterFour_98 : ByteArray := ⟨#[46, 159, 0, 26, 42, 180, 0, 38, 21, 9, 46, 42, 180, 0, 35, 21, 9, 46]⟩
theorem daX12_isBetterFour_98 : agB cX12_isBetterFour dsX12_isBetterFour_98 98 := agB_of (n := 18) (by decide +kernel)
theorem dbX12_isBetterFour_98 : (decode dsX12_isBetterFour_98 0 = .ok (.iaload, 1) ∧ okop dsX12_isBetterFour_98 0 = true) ∧ (decode dsX12_isBetterFour_98 1 = .ok (.if_icmp .eq 26, 3) ∧ okop dsX12_isBetterFour_98 1 = true) ∧ (decode dsX12_isBetterFour_98 4 = .ok (.aload_n 0, 1) ∧ okop dsX12_isBetterFour_98 4 = true) ∧ (decode dsX12_isBetterFour_98 5 = .ok (.getfield 38, 3) ∧ okop dsX12_isBetterFour_98 5 = true) ∧ (decode dsX12_isBetterFour_98 8 = .ok (.iload 9, 2) ∧ okop dsX12_isBetterFour_98 8 = true) ∧ (decode dsX12_isBetterFour_98 10 = .ok (.iaload, 1) ∧ okop dsX12_isBetterFour_98 10 = true) ∧ (decode dsX12_isBetterFour_98 11 = .ok (.aload_n 0, 1) ∧ okop dsX12_isBetterFour_98 11 = true) ∧ (decode dsX12_isBetterFour_98 12 = .ok (.getfield 35, 3) ∧ okop dsX12_isBetterFour_98 12 = true) ∧ (decode dsX12_isBetterFour_98 15 = .ok (.iload 9, 2) ∧ okop dsX12_isBetterFour_98 15 = true) ∧ (decode dsX12_isBetterFour_98 17 = .ok (.iaload, 1) ∧ okop dsX12_isBetterFour_98 17 = true) := by decide +kernel
theorem dX12_isBetterFour_98 : decode cX12_isBetterFour 98 = .ok (.iaload, 1) := dgq (p := 0) daX12_isBetterFour_98 dbX12_isBetterFour_98.1
theorem dX12_isBetterFour_99 : decode cX12_isBetterFour 99 = .ok (.if_icmp .eq 26, 3) := dgq (p := 1) daX12_isBetterFour_98 dbX12_isBetterFour_98.2.1
theorem dX12_isBetterFour_102 : decode cX12_isBetterFour 102 = .ok (.aload_n 0, 1) := dgq (p := 4) daX12_isBetterFour_98 dbX12_isBetterFour_98.2.2.1
theorem dX12_isBetterFour_103 : decode cX12_isBetterFour 103 = .ok (.getfield 38, 3) := dgq (p := 5) daX12_isBetterFour_98 dbX12_isBetterFour_98.2.2.2.1
theorem dX12_isBetterFour_106 : decode cX12_isBetterFour 106 = .ok (.iload 9, 2) := dgq (p := 8) daX12_isBetterFour_98 dbX12_isBetterFour_98.2.2.2.2.1
theorem dX12_isBetterFour_108 : decode cX12_isBetterFour 108 = .ok (.iaload, 1) := dgq (p := 10) daX12_isBetterFour_98 dbX12_isBetterFour_98.2.2.2.2.2.1
theorem dX12_isBetterFour_109 : decode cX12_isBetterFour 109 = .ok (.aload_n 0, 1) := dgq (p := 11) daX12_isBetterFour_98 dbX12_isBetterFour_98.2.2.2.2.2.2.1
theorem dX12_isBetterFour_110 : decode cX12_isBetterFour 110 = .ok (.getfield 35, 3) := dgq (p := 12) daX12_isBetterFour_98 dbX12_isBetterFour_98.2.2.2.2.2.2.2.1
theorem dX12_isBetterFour_113 : decode cX12_isBetterFour 113 = .ok (.iload 9, 2) := dgq (p := 15) daX12_isBetterFour_98 dbX12_isBetterFour_98.2.2.2.2.2.2.2.2.1
theorem dX12_isBetterFour_115 : decode cX12_isBetterFour 115 = .ok (.iaload, 1) := dgq (p := 17) daX12_isBetterFour_98 dbX12_isBetterFour_98.2.2.2.2.2.2.2.2.2
def dsX12_isBetterFour_116 : ByteArray := ⟨#[162, 0, 7, 4, 167, 0, 4, 3, 172, 132, 9, 1, 167, 255, 207, 3, 172]⟩
theorem daX12_isBetterFour_116 : agB cX12_isBetterFour dsX12_isBetterFour_116 116 := agB_of (n := 17) (by decide +kernel)
theorem dbX12_isBetterFour_116 : (decode dsX12_isBetterFour_116 0 = .ok (.if_icmp .ge 7, 3) ∧ okop dsX12_isBetterFour_116 0 = true) ∧ (decode dsX12_isBetterFour_116 3 = .ok (.iconst 1, 1) ∧ okop dsX12_isBetterFour_116 3 = true) ∧ (decode dsX12_isBetterFour_116 4 = .ok (.goto 4, 3) ∧ okop dsX12_isBetterFour_116 4 = true) ∧ (decode dsX12_isBetterFour_116 7 = .ok (.iconst 0, 1) ∧ okop dsX12_isBetterFour_116 7 = true) ∧ (decode dsX12_isBetterFour_116 8 = .ok (.ireturn, 1) ∧ okop dsX12_isBetterFour_116 8 = true) ∧ (decode dsX12_isBetterFour_116 9 = .ok (.iinc 9 1, 3) ∧ okop dsX12_isBetterFour_116 9 = true) ∧ (decode dsX12_isBetterFour_116 12 = .ok (.goto (-49), 3) ∧ okop dsX12_isBetterFour_116 12 = true) ∧ (decode dsX12_isBetterFour_116 15 = .ok (.iconst 0, 1) ∧ okop dsX12_isBetterFour_116 15 = true) ∧ (decode dsX12_isBetterFour_116 16 = .ok (.ireturn, 1) ∧ okop dsX12_isBetterFour_116 16 = true) := by decide +kernel
theorem dX12_isBetterFour_116 : decode cX12_isBetterFour 116 = .ok (.if_icmp .ge 7, 3) := dgq (p := 0) daX12_isBetterFour_116 dbX12_isBetterFour_116.1
theorem dX12_isBetterFour_119 : decode cX12_isBetterFour 119 = .ok (.iconst 1, 1) := dgq (p := 3) daX12_isBetterFour_116 dbX12_isBetterFour_116.2.1
theorem dX12_isBetterFour_120 : decode cX12_isBetterFour 120 = .ok (.goto 4, 3) := dgq (p := 4) daX12_isBetterFour_116 dbX12_isBetterFour_116.2.2.1
theorem dX12_isBetterFour_123 : decode cX12_isBetterFour 123 = .ok (.iconst 0, 1) := dgq (p := 7) daX12_isBetterFour_116 dbX12_isBetterFour_116.2.2.2.1
theorem dX12_isBetterFour_124 : decode cX12_isBetterFour 124 = .ok (.ireturn, 1) := dgq (p := 8) daX12_isBetterFour_116 dbX12_isBetterFour_116.2.2.2.2.1
theorem dX12_isBetterFour_125 : decode cX12_isBetterFour 125 = .ok (.iinc 9 1, 3) := dgq (p := 9) daX12_isBetterFour_116 dbX12_isBetterFour_116.2.2.2.2.2.1
theorem dX12_isBetterFour_128 : decode cX12_isBetterFour 128 = .ok (.goto (-49), 3) := dgq (p := 12) daX12_isBetterFour_116 dbX12_isBetterFour_116.2.2.2.2.2.2.1
theorem dX12_isBetterFour_131 : decode cX12_isBetterFour 131 = .ok (.iconst 0, 1) := dgq (p := 15) daX12_isBetterFour_116 dbX12_isBetterFour_116.2.2.2.2.2.2.2.1
theorem dX12_isBetterFour_132 : decode cX12_isBetterFour 132 = .ok (.ireturn, 1) := dgq (p := 16) daX12_isBetterFour_116 dbX12_isBetterFour_116.2.2.2.2.2.2.2.2
set_option maxRecDepth 20000 in
theorem ggX12_tries_X12_isBetterFour : GoodIn wsX12_tries wsX12_isBetterFour := goodIn_ca (goodIn_ca (goodIn_q _ [9, 2, 1, 10, 11, 8, 12, 13, 14, 15, 16] rfl (by decide +kernel)) (goodIn_sub (fun _ h => (List.mem_cons_of_mem _ (List.mem_append_left _ (List.mem_append_right _ h)))) tg_wsX120)) (goodIn_sub (fun _ h => List.mem_cons_of_mem _ (List.mem_append_right _ h)) (by decide +kernel))
set_option maxRecDepth 20000 in
theorem gX12_tries_X12_isBetterFour : GoodIn wsX12_tries (wsV RX12 289 RX12 yX12_isBetterFour wsX12_isBetterFour) := goodIn_app (goodIn_q _ [5, 6, 7, 8] rfl (by decide +kernel)) ggX12_tries_X12_isBetterFour
set_option maxRecDepth 20000 in
theorem ggX12_tries_X12_tries : GoodIn wsX12_tries wsX12_tries := goodIn_ca (goodIn_ca (goodIn_q _ [0, 1, 2, 3, 4, 5, 6, 7, 8, 9, 10, 11, 12, 13, 14, 15, 16, 17, 18, 19] rfl (by decide +kernel)) (goodIn_sub (fun _ h => (List.mem_cons_of_mem _ (List.mem_append_left _ (List.mem_append_right _ h)))) tg_wsX120)) (goodIn_sub (fun _ h => List.mem_cons_of_mem _ (List.mem_append_right _ h)) (by decide +kernel))
set_option maxRecDepth 20000 in
theorem gX12_tries_X12_tries : GoodIn wsX12_tries (wsV RX12 293 RX12 yX12_tries wsX12_tries) := goodIn_app (goodIn_q _ [17, 18, 19, 8] rfl (by decide +kernel)) ggX12_tries_X12_tries
def dsX12_tries_0 : ByteArray := ⟨#[27, 7, 160, 0, 53, 42, 180, 0, 35, 3, 46, 158, 0, 14, 42, 33]⟩
theorem daX12_tries_0 : agB cX12_tries dsX12_tries_0 0 := agB_of (n := 16) (by decide +kernel)
theorem dbX12_tries_0 : (decode dsX12_tries_0 0 = .ok (.iload_n 1, 1) ∧ okop dsX12_tries_0 0 = true) ∧ (decode dsX12_tries_0 1 = .ok (.iconst 4, 1) ∧ okop dsX12_tries_0 1 = true) ∧ (decode dsX12_tries_0 2 = .ok (.if_icmp .ne 53, 3) ∧ okop dsX12_tries_0 2 = true) ∧ (decode dsX12_tries_0 5 = .ok (.aload_n 0, 1) ∧ okop dsX12_tries_0 5 = true) ∧ (decode dsX12_tries_0 6 = .ok (.getfield 35, 3) ∧ okop dsX12_tries_0 6 = true) ∧ (decode dsX12_tries_0 9 = .ok (.iconst 0, 1) ∧ okop dsX12_tries_0 9 = true) ∧ (decode dsX12_tries_0 10 = .ok (.iaload, 1) ∧ okop dsX12_tries_0 10 = true) ∧ (decode dsX12_tries_0 11 = .ok (.ifCond .le 14, 3) ∧ okop dsX12_tries_0 11 = true) ∧ (decode dsX12_tries_0 14 = .ok (.aload_n 0, 1) ∧ okop dsX12_tries_0 14 = true) ∧ (decode dsX12_tries_0 15 = .ok (.lload_n 3, 1) ∧ okop dsX12_tries_0 15 = true) := by decide +kernel
theorem dX12_tries_0 : decode cX12_tries 0 = .ok (.iload_n 1, 1) := dgq (p := 0) daX12_tries_0 dbX12_tries_0.1
theorem dX12_tries_1 : decode cX12_tries 1 = .ok (.iconst 4, 1) := dgq (p := 1) daX12_tries_0 dbX12_tries_0.2.1
theorem dX12_tries_2 : decode cX12_tries 2 = .ok (.if_icmp .ne 53, 3) := dgq (p := 2) daX12_tries_0 dbX12_tries_0.2.2.1
theorem dX12_tries_5 : decode cX12_tries 5 = .ok (.aload_n 0, 1) := dgq (p := 5) daX12_tries_0 dbX12_tries_0.2.2.2.1
theorem dX12_tries_6 : decode cX12_tries 6 = .ok (.getfield 35, 3) := dgq (p := 6) daX12_tries_0 dbX12_tries_0.2.2.2.2.1
theorem dX12_tries_9 : decode cX12_tries 9 = .ok (.iconst 0, 1) := dgq (p := 9) daX12_tries_0 dbX12_tries_0.2.2.2.2.2.1
theorem dX12_tries_10 : decode cX12_tries 10 = .ok (.iaload, 1) := dgq (p := 10) daX12_tries_0 dbX12_tries_0.2.2.2.2.2.2.1
theorem dX12_tries_11 : decode cX12_tries 11 = .ok (.ifCond .le 14, 3) := dgq (p := 11) daX12_tries_0 dbX12_tries_0.2.2.2.2.2.2.2.1
theorem dX12_tries_14 : decode cX12_tries 14 = .ok (.aload_n 0, 1) := dgq (p := 14) daX12_tries_0 dbX12_tries_0.2.2.2.2.2.2.2.2.1
theorem dX12_tries_15 : decode cX12_tries 15 = .ok (.lload_n 3, 1) := dgq (p := 15) daX12_tries_0 dbX12_tries_0.2.2.2.2.2.2.2.2.2
def dsX12_tries_16 : ByteArray := ⟨#[22, 5, 182, 1, 33, 154, 0, 4, 177, 3, 54, 7, 21, 7, 7, 162, 0, 23, 42]⟩
theorem daX12_tries_16 : agB cX12_tries dsX12_tries_16 16 := agB_of (n := 19) (by decide +kernel)
theorem dbX12_tries_16 : (decode dsX12_tries_16 0 = .ok (.lload 5, 2) ∧ okop dsX12_tries_16 0 = true) ∧ (decode dsX12_tries_16 2 = .ok (.invokevirtual 289, 3) ∧ okop dsX12_tries_16 2 = true) ∧ (decode dsX12_tries_16 5 = .ok (.ifCond .ne 4, 3) ∧ okop dsX12_tries_16 5 = true) ∧ (decode dsX12_tries_16 8 = .ok (.return_, 1) ∧ okop dsX12_tries_16 8 = true) ∧ (decode dsX12_tries_16 9 = .ok (.iconst 0, 1) ∧ okop dsX12_tries_16 9 = true) ∧ (decode dsX12_tries_16 10 = .ok (.istore 7, 2) ∧ okop dsX12_tries_16 10 = true) ∧ (decode dsX12_tries_16 12 = .ok (.iload 7, 2) ∧ okop dsX12_tries_16 12 = true) ∧ (decode dsX12_tries_16 14 = .ok (.iconst 4, 1) ∧ okop dsX12_tries_16 14 = true) ∧ (decode dsX12_tries_16 15 = .ok (.if_icmp .ge 23, 3) ∧ okop dsX12_tries_16 15 = true) ∧ (decode dsX12_tries_16 18 = .ok (.aload_n 0, 1) ∧ okop dsX12_tries_16 18 = true) := by decide +kernel
theorem dX12_tries_16 : decode cX12_tries 16 = .ok (.lload 5, 2) := dgq (p := 0) daX12_tries_16 dbX12_tries_16.1
theorem dX12_tries_18 : decode cX12_tries 18 = .ok (.invokevirtual 289, 3) := dgq (p := 2) daX12_tries_16 dbX12_tries_16.2.1
theorem dX12_tries_21 : decode cX12_tries 21 = .ok (.ifCond .ne 4, 3) := dgq (p := 5) daX12_tries_16 dbX12_tries_16.2.2.1
theorem dX12_tries_24 : decode cX12_tries 24 = .ok (.return_, 1) := dgq (p := 8) daX12_tries_16 dbX12_tries_16.2.2.2.1
theorem dX12_tries_25 : decode cX12_tries 25 = .ok (.iconst 0, 1) := dgq (p := 9) daX12_tries_16 dbX12_tries_16.2.2.2.2.1
theorem dX12_tries_26 : decode cX12_tries 26 = .ok (.istore 7, 2) := dgq (p := 10) daX12_tries_16 dbX12_tries_16.2.2.2.2.2.1
theorem dX12_tries_28 : decode cX12_tries 28 = .ok (.iload 7, 2) := dgq (p := 12) daX12_tries_16 dbX12_tries_16.2.2.2.2.2.2.1
theorem dX12_tries_30 : decode cX12_tries 30 = .ok (.iconst 4, 1) := dgq (p := 14) daX12_tries_16 dbX12_tries_16.2.2.2.2.2.2.2.1
theorem dX12_tries_31 : decode cX12_tries 31 = .ok (.if_icmp .ge 23, 3) := dgq (p := 15) daX12_tries_16 dbX12_tries_16.2.2.2.2.2.2.2.2.1
theorem dX12_tries_34 : decode cX12_tries 34 = .ok (.aload_n 0, 1) := dgq (p := 18) daX12_tries_16 dbX12_tries_16.2.2.2.2.2.2.2.2.2
def dsX12_tries_35 : ByteArray := ⟨#[180, 0, 35, 21, 7, 42, 180, 0, 38, 21, 7, 46, 79, 132, 7, 1, 167, 255, 233, 177]⟩
theorem daX12_tries_35 : agB cX12_tries dsX12_tries_35 35 := agB_of (n := 20) (by decide +kernel)
theorem dbX12_tries_35 : (decode dsX12_tries_35 0 = .ok (.getfield 35, 3) ∧ okop dsX12_tries_35 0 = true) ∧ (decode dsX12_tries_35 3 = .ok (.iload 7, 2) ∧ okop dsX12_tries_35 3 = true) ∧ (decode dsX12_tries_35 5 = .ok (.aload_n 0, 1) ∧ okop dsX12_tries_35 5 = true) ∧ (decode dsX12_tries_35 6 = .ok (.getfield 38, 3) ∧ okop dsX12_tries_35 6 = true) ∧ (decode dsX12_tries_35 9 = .ok (.iload 7, 2) ∧ okop dsX12_tries_35 9 = true) ∧ (decode dsX12_tries_35 11 = .ok (.iaload, 1) ∧ okop dsX12_tries_35 11 = true) ∧ (decode dsX12_tries_35 12 = .ok (.iastore, 1) ∧ okop dsX12_tries_35 12 = true) ∧ (decode dsX12_tries_35 13 = .ok (.iinc 7 1, 3) ∧ okop dsX12_tries_35 13 = true) ∧ (decode dsX12_tries_35 16 = .ok (.goto (-23), 3) ∧ okop dsX12_tries_35 16 = true) ∧ (decode dsX12_tries_35 19 = .ok (.return_, 1) ∧ okop dsX12_tries_35 19 = true) := by decide +kernel
theorem dX12_tries_35 : decode cX12_tries 35 = .ok (.getfield 35, 3) := dgq (p := 0) daX12_tries_35 dbX12_tries_35.1
theorem dX12_tries_38 : decode cX12_tries 38 = .ok (.iload 7, 2) := dgq (p := 3) daX12_tries_35 dbX12_tries_35.2.1
theorem dX12_tries_40 : decode cX12_tries 40 = .ok (.aload_n 0, 1) := dgq (p := 5) daX12_tries_35 dbX12_tries_35.2.2.1
theorem dX12_tries_41 : decode cX12_tries 41 = .ok (.getfield 38, 3) := dgq (p := 6) daX12_tries_35 dbX12_tries_35.2.2.2.1
theorem dX12_tries_44 : decode cX12_tries 44 = .ok (.iload 7, 2) := dgq (p := 9) daX12_tries_35 dbX12_tries_35.2.2.2.2.1
theorem dX12_tries_46 : decode cX12_tries 46 = .ok (.iaload, 1) := dgq (p := 11) daX12_tries_35 dbX12_tries_35.2.2.2.2.2.1
theorem dX12_tries_47 : decode cX12_tries 47 = .ok (.iastore, 1) := dgq (p := 12) daX12_tries_35 dbX12_tries_35.2.2.2.2.2.2.1
theorem dX12_tries_48 : decode cX12_tries 48 = .ok (.iinc 7 1, 3) := dgq (p := 13) daX12_tries_35 dbX12_tries_35.2.2.2.2.2.2.2.1
theorem dX12_tries_51 : decode cX12_tries 51 = .ok (.goto (-23), 3) := dgq (p := 16) daX12_tries_35 dbX12_tries_35.2.2.2.2.2.2.2.2.1
theorem dX12_tries_54 : decode cX12_tries 54 = .ok (.return_, 1) := dgq (p := 19) daX12_tries_35 dbX12_tries_35.2.2.2.2.2.2.2.2.2
def dsX12_tries_55 : ByteArray := ⟨#[3, 54, 7, 21, 7, 42, 180, 1, 26, 162, 0, 51, 28, 21, 7, 122, 4]⟩
theorem daX12_tries_55 : agB cX12_tries dsX12_tries_55 55 := agB_of (n := 17) (by decide +kernel)
theorem dbX12_tries_55 : (decode dsX12_tries_55 0 = .ok (.iconst 0, 1) ∧ okop dsX12_tries_55 0 = true) ∧ (decode dsX12_tries_55 1 = .ok (.istore 7, 2) ∧ okop dsX12_tries_55 1 = true) ∧ (decode dsX12_tries_55 3 = .ok (.iload 7, 2) ∧ okop dsX12_tries_55 3 = true) ∧ (decode dsX12_tries_55 5 = .ok (.aload_n 0, 1) ∧ okop dsX12_tries_55 5 = true) ∧ (decode dsX12_tries_55 6 = .ok (.getfield 282, 3) ∧ okop dsX12_tries_55 6 = true) ∧ (decode dsX12_tries_55 9 = .ok (.if_icmp .ge 51, 3) ∧ okop dsX12_tries_55 9 = true) ∧ (decode dsX12_tries_55 12 = .ok (.iload_n 2, 1) ∧ okop dsX12_tries_55 12 = true) ∧ (decode dsX12_tries_55 13 = .ok (.iload 7, 2) ∧ okop dsX12_tries_55 13 = true) ∧ (decode dsX12_tries_55 15 = .ok (.ishr, 1) ∧ okop dsX12_tries_55 15 = true) ∧ (decode dsX12_tries_55 16 = .ok (.iconst 1, 1) ∧ okop dsX12_tries_55 16 = true) := by decide +kernel
theorem dX12_tries_55 : decode cX12_tries 55 = .ok (.iconst 0, 1) := dgq (p := 0) daX12_tries_55 dbX12_tries_55.1
theorem dX12_tries_56 : decode cX12_tries 56 = .ok (.istore 7, 2) := dgq (p := 1) daX12_tries_55 dbX12_tries_55.2.1
theorem dX12_tries_58 : decode cX12_tries 58 = .ok (.iload 7, 2) := dgq (p := 3) daX12_tries_55 dbX12_tries_55.2.2.1
theorem dX12_tries_60 : decode cX12_tries 60 = .ok (.aload_n 0, 1) := dgq (p := 5) daX12_tries_55 dbX12_tries_55.2.2.2.1
theorem dX12_tries_61 : decode cX12_tries 61 = .ok (.getfield 282, 3) := dgq (p := 6) daX12_tries_55 dbX12_tries_55.2.2.2.2.1
theorem dX12_tries_64 : decode cX12_tries 64 = .ok (.if_icmp .ge 51, 3) := dgq (p := 9) daX12_tries_55 dbX12_tries_55.2.2.2.2.2.1
theorem dX12_tries_67 : decode cX12_tries 67 = .ok (.iload_n 2, 1) := dgq (p := 12) daX12_tries_55 dbX12_tries_55.2.2.2.2.2.2.1
theorem dX12_tries_68 : decode cX12_tries 68 = .ok (.iload 7, 2) := dgq (p := 13) daX12_tries_55 dbX12_tries_55.2.2.2.2.2.2.2.1
theorem dX12_tries_70 : decode cX12_tries 70 = .ok (.ishr, 1) := dgq (p := 15) daX12_tries_55 dbX12_tries_55.2.2.2.2.2.2.2.2.1
theorem dX12_tries_71 : decode cX12_tries 71 = .ok (.iconst 1, 1) := dgq (p := 16) daX12_tries_55 dbX12_tries_55.2.2.2.2.2.2.2.2.2
def dsX12_tries_72 : ByteArray := ⟨#[126, 4, 160, 0, 6, 167, 0, 32, 42, 180, 0, 38, 27, 42, 180, 0, 31, 21, 7]⟩
theorem daX12_tries_72 : agB cX12_tries dsX12_tries_72 72 := agB_of (n := 19) (by decide +kernel)
theorem dbX12_tries_72 : (decode dsX12_tries_72 0 = .ok (.iand, 1) ∧ okop dsX12_tries_72 0 = true) ∧ (decode dsX12_tries_72 1 = .ok (.iconst 1, 1) ∧ okop dsX12_tries_72 1 = true) ∧ (decode dsX12_tries_72 2 = .ok (.if_icmp .ne 6, 3) ∧ okop dsX12_tries_72 2 = true) ∧ (decode dsX12_tries_72 5 = .ok (.goto 32, 3) ∧ okop dsX12_tries_72 5 = true) ∧ (decode dsX12_tries_72 8 = .ok (.aload_n 0, 1) ∧ okop dsX12_tries_72 8 = true) ∧ (decode dsX12_tries_72 9 = .ok (.getfield 38, 3) ∧ okop dsX12_tries_72 9 = true) ∧ (decode dsX12_tries_72 12 = .ok (.iload_n 1, 1) ∧ okop dsX12_tries_72 12 = true) ∧ (decode dsX12_tries_72 13 = .ok (.aload_n 0, 1) ∧ okop dsX12_tries_72 13 = true) ∧ (decode dsX12_tries_72 14 = .ok (.getfield 31, 3) ∧ okop dsX12_tries_72 14 = true) ∧ (decode dsX12_tries_72 17 = .ok (.iload 7, 2) ∧ okop dsX12_tries_72 17 = true) := by decide +kernel
theorem dX12_tries_72 : decode cX12_tries 72 = .ok (.iand, 1) := dgq (p := 0) daX12_tries_72 dbX12_tries_72.1
theorem dX12_tries_73 : decode cX12_tries 73 = .ok (.iconst 1, 1) := dgq (p := 1) daX12_tries_72 dbX12_tries_72.2.1
theorem dX12_tries_74 : decode cX12_tries 74 = .ok (.if_icmp .ne 6, 3) := dgq (p := 2) daX12_tries_72 dbX12_tries_72.2.2.1
theorem dX12_tries_77 : decode cX12_tries 77 = .ok (.goto 32, 3) := dgq (p := 5) daX12_tries_72 dbX12_tries_72.2.2.2.1
theorem dX12_tries_80 : decode cX12_tries 80 = .ok (.aload_n 0, 1) := dgq (p := 8) daX12_tries_72 dbX12_tries_72.2.2.2.2.1
theorem dX12_tries_81 : decode cX12_tries 81 = .ok (.getfield 38, 3) := dgq (p := 9) daX12_tries_72 dbX12_tries_72.2.2.2.2.2.1
theorem dX12_tries_84 : decode cX12_tries 84 = .ok (.iload_n 1, 1) := dgq (p := 12) daX12_tries_72 dbX12_tries_72.2.2.2.2.2.2.1
theorem dX12_tries_85 : decode cX12_tries 85 = .ok (.aload_n 0, 1) := dgq (p := 13) daX12_tries_72 dbX12_tries_72.2.2.2.2.2.2.2.1
theorem dX12_tries_86 : decode cX12_tries 86 = .ok (.getfield 31, 3) := dgq (p := 14) daX12_tries_72 dbX12_tries_72.2.2.2.2.2.2.2.2.1
theorem dX12_tries_89 : decode cX12_tries 89 = .ok (.iload 7, 2) := dgq (p := 17) daX12_tries_72 dbX12_tries_72.2.2.2.2.2.2.2.2.2
def dsX12_tries_91 : ByteArray := ⟨#[46, 79, 42, 27, 4, 96, 28, 4, 21, 7, 120]⟩
theorem daX12_tries_91 : agB cX12_tries dsX12_tries_91 91 := agB_of (n := 11) (by decide +kernel)
theorem dbX12_tries_91 : (decode dsX12_tries_91 0 = .ok (.iaload, 1) ∧ okop dsX12_tries_91 0 = true) ∧ (decode dsX12_tries_91 1 = .ok (.iastore, 1) ∧ okop dsX12_tries_91 1 = true) ∧ (decode dsX12_tries_91 2 = .ok (.aload_n 0, 1) ∧ okop dsX12_tries_91 2 = true) ∧ (decode dsX12_tries_91 3 = .ok (.iload_n 1, 1) ∧ okop dsX12_tries_91 3 = true) ∧ (decode dsX12_tries_91 4 = .ok (.iconst 1, 1) ∧ okop dsX12_tries_91 4 = true) ∧ (decode dsX12_tries_91 5 = .ok (.iadd, 1) ∧ okop dsX12_tries_91 5 = true) ∧ (decode dsX12_tries_91 6 = .ok (.iload_n 2, 1) ∧ okop dsX12_tries_91 6 = true) ∧ (decode dsX12_tries_91 7 = .ok (.iconst 1, 1) ∧ okop dsX12_tries_91 7 = true) ∧ (decode dsX12_tries_91 8 = .ok (.iload 7, 2) ∧ okop dsX12_tries_91 8 = true) ∧ (decode dsX12_tries_91 10 = .ok (.ishl, 1) ∧ okop dsX12_tries_91 10 = true) := by decide +kernel
theorem dX12_tries_91 : decode cX12_tries 91 = .ok (.iaload, 1) := dgq (p := 0) daX12_tries_91 dbX12_tries_91.1
theorem dX12_tries_92 : decode cX12_tries 92 = .ok (.iastore, 1) := dgq (p := 1) daX12_tries_91 dbX12_tries_91.2.1
theorem dX12_tries_93 : decode cX12_tries 93 = .ok (.aload_n 0, 1) := dgq (p := 2) daX12_tries_91 dbX12_tries_91.2.2.1
theorem dX12_tries_94 : decode cX12_tries 94 = .ok (.iload_n 1, 1) := dgq (p := 3) daX12_tries_91 dbX12_tries_91.2.2.2.1
theorem dX12_tries_95 : decode cX12_tries 95 = .ok (.iconst 1, 1) := dgq (p := 4) daX12_tries_91 dbX12_tries_91.2.2.2.2.1
theorem dX12_tries_96 : decode cX12_tries 96 = .ok (.iadd, 1) := dgq (p := 5) daX12_tries_91 dbX12_tries_91.2.2.2.2.2.1
theorem dX12_tries_97 : decode cX12_tries 97 = .ok (.iload_n 2, 1) := dgq (p := 6) daX12_tries_91 dbX12_tries_91.2.2.2.2.2.2.1
theorem dX12_tries_98 : decode cX12_tries 98 = .ok (.iconst 1, 1) := dgq (p := 7) daX12_tries_91 dbX12_tries_91.2.2.2.2.2.2.2.1
theorem dX12_tries_99 : decode cX12_tries 99 = .ok (.iload 7, 2) := dgq (p := 8) daX12_tries_91 dbX12_tries_91.2.2.2.2.2.2.2.2.1
theorem dX12_tries_101 : decode cX12_tries 101 = .ok (.ishl, 1) := dgq (p := 10) daX12_tries_91 dbX12_tries_91.2.2.2.2.2.2.2.2.2
def dsX12_tries_102 : ByteArray := ⟨#[128, 33, 22, 5, 182, 1, 37, 132, 7, 1, 167, 255, 202, 177]⟩
theorem daX12_tries_102 : agB cX12_tries dsX12_tries_102 102 := agB_of (n := 14) (by decide +kernel)
theorem dbX12_tries_102 : (decode dsX12_tries_102 0 = .ok (.ior, 1) ∧ okop dsX12_tries_102 0 = true) ∧ (decode dsX12_tries_102 1 = .ok (.lload_n 3, 1) ∧ okop dsX12_tries_102 1 = true) ∧ (decode dsX12_tries_102 2 = .ok (.lload 5, 2) ∧ okop dsX12_tries_102 2 = true) ∧ (decode dsX12_tries_102 4 = .ok (.invokevirtual 293, 3) ∧ okop dsX12_tries_102 4 = true) ∧ (decode dsX12_tries_102 7 = .ok (.iinc 7 1, 3) ∧ okop dsX12_tries_102 7 = true) ∧ (decode dsX12_tries_102 10 = .ok (.goto (-54), 3) ∧ okop dsX12_tries_102 10 = true) ∧ (decode dsX12_tries_102 13 = .ok (.return_, 1) ∧ okop dsX12_tries_102 13 = true) := by decide +kernel
theorem dX12_tries_102 : decode cX12_tries 102 = .ok (.ior, 1) := dgq (p := 0) daX12_tries_102 dbX12_tries_102.1
theorem dX12_tries_103 : decode cX12_tries 103 = .ok (.lload_n 3, 1) := dgq (p := 1) daX12_tries_102 dbX12_tries_102.2.1
theorem dX12_tries_104 : decode cX12_tries 104 = .ok (.lload 5, 2) := dgq (p := 2) daX12_tries_102 dbX12_tries_102.2.2.1
theorem dX12_tries_106 : decode cX12_tries 106 = .ok (.invokevirtual 293, 3) := dgq (p := 4) daX12_tries_102 dbX12_tries_102.2.2.2.1
theorem dX12_tries_109 : decode cX12_tries 109 = .ok (.iinc 7 1, 3) := dgq (p := 7) daX12_tries_102 dbX12_tries_102.2.2.2.2.1
theorem dX12_tries_112 : decode cX12_tries 112 = .ok (.goto (-54), 3) := dgq (p := 10) daX12_tries_102 dbX12_tries_102.2.2.2.2.2.1
theorem dX12_tries_115 : decode cX12_tries 115 = .ok (.return_, 1) := dgq (p := 13) daX12_tries_102 dbX12_tries_102.2.2.2.2.2.2
set_option maxRecDepth 20000 in
theorem ggX12_finds_X12_tries : GoodIn wsX12_finds wsX12_tries := goodIn_ca (goodIn_ca (goodIn_q _ [6, 1, 7, 8, 9, 10, 11, 12, 5, 13, 14, 15, 16, 17, 18, 19, 20, 2, 3, 4] rfl (by decide +kernel)) (goodIn_sub (fun _ h => (List.mem_cons_of_mem _ (List.mem_append_left _ (List.mem_append_right _ h)))) tg_wsX120)) (goodIn_sub (fun _ h => List.mem_cons_of_mem _ (List.mem_append_right _ h)) (by decide +kernel))
set_option maxRecDepth 20000 in
theorem gX12_finds_X12_tries : GoodIn wsX12_finds (wsV RX12 293 RX12 yX12_tries wsX12_tries) := goodIn_app (goodIn_q _ [2, 3, 4, 5] rfl (by decide +kernel)) ggX12_finds_X12_tries
def dsX12_finds_0 : ByteArray := ⟨#[42, 180, 0, 35, 3, 3, 79, 42, 3, 3, 31, 33]⟩
theorem daX12_finds_0 : agB cX12_finds dsX12_finds_0 0 := agB_of (n := 12) (by decide +kernel)
theorem dbX12_finds_0 : (decode dsX12_finds_0 0 = .ok (.aload_n 0, 1) ∧ okop dsX12_finds_0 0 = true) ∧ (decode dsX12_finds_0 1 = .ok (.getfield 35, 3) ∧ okop dsX12_finds_0 1 = true) ∧ (decode dsX12_finds_0 4 = .ok (.iconst 0, 1) ∧ okop dsX12_finds_0 4 = true) ∧ (decode dsX12_finds_0 5 = .ok (.iconst 0, 1) ∧ okop dsX12_finds_0 5 = true) ∧ (decode dsX12_finds_0 6 = .ok (.iastore, 1) ∧ okop dsX12_finds_0 6 = true) ∧ (decode dsX12_finds_0 7 = .ok (.aload_n 0, 1) ∧ okop dsX12_finds_0 7 = true) ∧ (decode dsX12_finds_0 8 = .ok (.iconst 0, 1) ∧ okop dsX12_finds_0 8 = true) ∧ (decode dsX12_finds_0 9 = .ok (.iconst 0, 1) ∧ okop dsX12_finds_0 9 = true) ∧ (decode dsX12_finds_0 10 = .ok (.lload_n 1, 1) ∧ okop dsX12_finds_0 10 = true) ∧ (decode dsX12_finds_0 11 = .ok (.lload_n 3, 1) ∧ okop dsX12_finds_0 11 = true) := by decide +kernel
theorem dX12_finds_0 : decode cX12_finds 0 = .ok (.aload_n 0, 1) := dgq (p := 0) daX12_finds_0 dbX12_finds_0.1
theorem dX12_finds_1 : decode cX12_finds 1 = .ok (.getfield 35, 3) := dgq (p := 1) daX12_finds_0 dbX12_finds_0.2.1
theorem dX12_finds_4 : decode cX12_finds 4 = .ok (.iconst 0, 1) := dgq (p := 4) daX12_finds_0 dbX12_finds_0.2.2.1
theorem dX12_finds_5 : decode cX12_finds 5 = .ok (.iconst 0, 1) := dgq (p := 5) daX12_finds_0 dbX12_finds_0.2.2.2.1
theorem dX12_finds_6 : decode cX12_finds 6 = .ok (.iastore, 1) := dgq (p := 6) daX12_finds_0 dbX12_finds_0.2.2.2.2.1
theorem dX12_finds_7 : decode cX12_finds 7 = .ok (.aload_n 0, 1) := dgq (p := 7) daX12_finds_0 dbX12_finds_0.2.2.2.2.2.1
theorem dX12_finds_8 : decode cX12_finds 8 = .ok (.iconst 0, 1) := dgq (p := 8) daX12_finds_0 dbX12_finds_0.2.2.2.2.2.2.1
theorem dX12_finds_9 : decode cX12_finds 9 = .ok (.iconst 0, 1) := dgq (p := 9) daX12_finds_0 dbX12_finds_0.2.2.2.2.2.2.2.1
theorem dX12_finds_10 : decode cX12_finds 10 = .ok (.lload_n 1, 1) := dgq (p := 10) daX12_finds_0 dbX12_finds_0.2.2.2.2.2.2.2.2.1
theorem dX12_finds_11 : decode cX12_finds 11 = .ok (.lload_n 3, 1) := dgq (p := 11) daX12_finds_0 dbX12_finds_0.2.2.2.2.2.2.2.2.2
theorem dX12_finds_12 : decode cX12_finds 12 = .ok (.invokevirtual 293, 3) := by decide +kernel
theorem dX12_finds_15 : decode cX12_finds 15 = .ok (.return_, 1) := by decide +kernel
set_option maxRecDepth 20000 in
theorem ggX12_isMet_X12_finds : GoodIn wsX12_isMet wsX12_finds := goodIn_ca (goodIn_ca (goodIn_q _ [7, 2, 8, 9, 10, 6, 11, 12, 13, 14, 15, 16, 17, 18, 19, 20, 21, 22, 23, 24, 25] rfl (by decide +kernel)) (goodIn_sub (fun _ h => (List.mem_cons_of_mem _ (List.mem_append_left _ (List.mem_append_right _ h)))) tg_wsX120)) (goodIn_sub (fun _ h => List.mem_cons_of_mem _ (List.mem_append_right _ h)) (by decide +kernel))
set_option maxRecDepth 20000 in
theorem gX12_isMet_X12_finds : GoodIn wsX12_isMet (wsV RX12 297 RX12 yX12_finds wsX12_finds) := goodIn_app (goodIn_q _ [3, 4, 5, 6] rfl (by decide +kernel)) ggX12_isMet_X12_finds
set_option maxRecDepth 20000 in
theorem ggX12_isMet_X12_offOf : GoodIn wsX12_isMet wsX12_offOf := goodIn_ca (goodIn_q _ [21, 22, 23, 24, 25] rfl (by decide +kernel)) (goodIn_sub (fun _ h => List.mem_cons_of_mem _ (List.mem_append_right _ h)) (by decide +kernel))
set_option maxRecDepth 20000 in
theorem gX12_isMet_X12_offOf : GoodIn wsX12_isMet (va_wsS RX12 285 yX12_offOf wsX12_offOf) := goodIn_app (goodIn_q _ [19, 20, 6] rfl (by decide +kernel)) ggX12_isMet_X12_offOf
def dsX12_isMet_0 : ByteArray := ⟨#[42, 31, 33, 182, 1, 41, 20, 1, 45, 42, 180, 0, 35, 31, 33, 184, 1, 29]⟩
theorem daX12_isMet_0 : agB cX12_isMet dsX12_isMet_0 0 := agB_of (n := 18) (by decide +kernel)
theorem dbX12_isMet_0 : (decode dsX12_isMet_0 0 = .ok (.aload_n 0, 1) ∧ okop dsX12_isMet_0 0 = true) ∧ (decode dsX12_isMet_0 1 = .ok (.lload_n 1, 1) ∧ okop dsX12_isMet_0 1 = true) ∧ (decode dsX12_isMet_0 2 = .ok (.lload_n 3, 1) ∧ okop dsX12_isMet_0 2 = true) ∧ (decode dsX12_isMet_0 3 = .ok (.invokevirtual 297, 3) ∧ okop dsX12_isMet_0 3 = true) ∧ (decode dsX12_isMet_0 6 = .ok (.ldc2_w 301, 3) ∧ okop dsX12_isMet_0 6 = true) ∧ (decode dsX12_isMet_0 9 = .ok (.aload_n 0, 1) ∧ okop dsX12_isMet_0 9 = true) ∧ (decode dsX12_isMet_0 10 = .ok (.getfield 35, 3) ∧ okop dsX12_isMet_0 10 = true) ∧ (decode dsX12_isMet_0 13 = .ok (.lload_n 1, 1) ∧ okop dsX12_isMet_0 13 = true) ∧ (decode dsX12_isMet_0 14 = .ok (.lload_n 3, 1) ∧ okop dsX12_isMet_0 14 = true) ∧ (decode dsX12_isMet_0 15 = .ok (.invokestatic 285, 3) ∧ okop dsX12_isMet_0 15 = true) := by decide +kernel
theorem dX12_isMet_0 : decode cX12_isMet 0 = .ok (.aload_n 0, 1) := dgq (p := 0) daX12_isMet_0 dbX12_isMet_0.1
theorem dX12_isMet_1 : decode cX12_isMet 1 = .ok (.lload_n 1, 1) := dgq (p := 1) daX12_isMet_0 dbX12_isMet_0.2.1
theorem dX12_isMet_2 : decode cX12_isMet 2 = .ok (.lload_n 3, 1) := dgq (p := 2) daX12_isMet_0 dbX12_isMet_0.2.2.1
theorem dX12_isMet_3 : decode cX12_isMet 3 = .ok (.invokevirtual 297, 3) := dgq (p := 3) daX12_isMet_0 dbX12_isMet_0.2.2.2.1
theorem dX12_isMet_6 : decode cX12_isMet 6 = .ok (.ldc2_w 301, 3) := dgq (p := 6) daX12_isMet_0 dbX12_isMet_0.2.2.2.2.1
theorem dX12_isMet_9 : decode cX12_isMet 9 = .ok (.aload_n 0, 1) := dgq (p := 9) daX12_isMet_0 dbX12_isMet_0.2.2.2.2.2.1
theorem dX12_isMet_10 : decode cX12_isMet 10 = .ok (.getfield 35, 3) := dgq (p := 10) daX12_isMet_0 dbX12_isMet_0.2.2.2.2.2.2.1
theorem dX12_isMet_13 : decode cX12_isMet 13 = .ok (.lload_n 1, 1) := dgq (p := 13) daX12_isMet_0 dbX12_isMet_0.2.2.2.2.2.2.2.1
theorem dX12_isMet_14 : decode cX12_isMet 14 = .ok (.lload_n 3, 1) := dgq (p := 14) daX12_isMet_0 dbX12_isMet_0.2.2.2.2.2.2.2.2.1
theorem dX12_isMet_15 : decode cX12_isMet 15 = .ok (.invokestatic 285, 3) := dgq (p := 15) daX12_isMet_0 dbX12_isMet_0.2.2.2.2.2.2.2.2.2
def dsX12_isMet_18 : ByteArray := ⟨#[105, 21, 5, 133, 31, 105, 42, 180, 0, 35, 4, 46]⟩
theorem daX12_isMet_18 : agB cX12_isMet dsX12_isMet_18 18 := agB_of (n := 12) (by decide +kernel)
theorem dbX12_isMet_18 : (decode dsX12_isMet_18 0 = .ok (.lmul, 1) ∧ okop dsX12_isMet_18 0 = true) ∧ (decode dsX12_isMet_18 1 = .ok (.iload 5, 2) ∧ okop dsX12_isMet_18 1 = true) ∧ (decode dsX12_isMet_18 3 = .ok (.i2l, 1) ∧ okop dsX12_isMet_18 3 = true) ∧ (decode dsX12_isMet_18 4 = .ok (.lload_n 1, 1) ∧ okop dsX12_isMet_18 4 = true) ∧ (decode dsX12_isMet_18 5 = .ok (.lmul, 1) ∧ okop dsX12_isMet_18 5 = true) ∧ (decode dsX12_isMet_18 6 = .ok (.aload_n 0, 1) ∧ okop dsX12_isMet_18 6 = true) ∧ (decode dsX12_isMet_18 7 = .ok (.getfield 35, 3) ∧ okop dsX12_isMet_18 7 = true) ∧ (decode dsX12_isMet_18 10 = .ok (.iconst 1, 1) ∧ okop dsX12_isMet_18 10 = true) ∧ (decode dsX12_isMet_18 11 = .ok (.iaload, 1) ∧ okop dsX12_isMet_18 11 = true) := by decide +kernel
theorem dX12_isMet_18 : decode cX12_isMet 18 = .ok (.lmul, 1) := dgq (p := 0) daX12_isMet_18 dbX12_isMet_18.1
theorem dX12_isMet_19 : decode cX12_isMet 19 = .ok (.iload 5, 2) := dgq (p := 1) daX12_isMet_18 dbX12_isMet_18.2.1
theorem dX12_isMet_21 : decode cX12_isMet 21 = .ok (.i2l, 1) := dgq (p := 3) daX12_isMet_18 dbX12_isMet_18.2.2.1
theorem dX12_isMet_22 : decode cX12_isMet 22 = .ok (.lload_n 1, 1) := dgq (p := 4) daX12_isMet_18 dbX12_isMet_18.2.2.2.1
theorem dX12_isMet_23 : decode cX12_isMet 23 = .ok (.lmul, 1) := dgq (p := 5) daX12_isMet_18 dbX12_isMet_18.2.2.2.2.1
theorem dX12_isMet_24 : decode cX12_isMet 24 = .ok (.aload_n 0, 1) := dgq (p := 6) daX12_isMet_18 dbX12_isMet_18.2.2.2.2.2.1
theorem dX12_isMet_25 : decode cX12_isMet 25 = .ok (.getfield 35, 3) := dgq (p := 7) daX12_isMet_18 dbX12_isMet_18.2.2.2.2.2.2.1
theorem dX12_isMet_28 : decode cX12_isMet 28 = .ok (.iconst 1, 1) := dgq (p := 10) daX12_isMet_18 dbX12_isMet_18.2.2.2.2.2.2.2.1
theorem dX12_isMet_29 : decode cX12_isMet 29 = .ok (.iaload, 1) := dgq (p := 11) daX12_isMet_18 dbX12_isMet_18.2.2.2.2.2.2.2.2
