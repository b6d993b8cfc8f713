theorem dX12_init_82 : decode cX12_init 82 = .ok (.newarray .int, 2) := by decide +kernel
theorem dX12_init_89 : decode cX12_init 89 = .ok (.newarray .int, 2) := by decide +kernel
theorem dX12_init_96 : decode cX12_init 96 = .ok (.newarray .int, 2) := by decide +kernel
def dsX12_init_77 : ByteArray := ⟨#[181, 0, 51, 42, 7, 188, 10, 181, 0, 54, 42, 7, 188, 10, 181, 0, 57, 42, 7, 188, 10, 181, 0, 60]⟩
theorem daX12_init_77 : agB cX12_init dsX12_init_77 77 := agB_of (n := 24) (by decide +kernel)
theorem dbX12_init_77 : (decode dsX12_init_77 0 = .ok (.putfield 51, 3) ∧ okop dsX12_init_77 0 = true) ∧ (decode dsX12_init_77 3 = .ok (.aload_n 0, 1) ∧ okop dsX12_init_77 3 = true) ∧ (decode dsX12_init_77 4 = .ok (.iconst 4, 1) ∧ okop dsX12_init_77 4 = true) ∧ (decode dsX12_init_77 7 = .ok (.putfield 54, 3) ∧ okop dsX12_init_77 7 = true) ∧ (decode dsX12_init_77 10 = .ok (.aload_n 0, 1) ∧ okop dsX12_init_77 10 = true) ∧ (decode dsX12_init_77 11 = .ok (.iconst 4, 1) ∧ okop dsX12_init_77 11 = true) ∧ (decode dsX12_init_77 14 = .ok (.putfield 57, 3) ∧ okop dsX12_init_77 14 = true) ∧ (decode dsX12_init_77 17 = .ok (.aload_n 0, 1) ∧ okop dsX12_init_77 17 = true) ∧ (decode dsX12_init_77 18 = .ok (.iconst 4, 1) ∧ okop dsX12_init_77 18 = true) ∧ (decode dsX12_init_77 21 = .ok (.putfield 60, 3) ∧ okop dsX12_init_77 21 = true) := by decide +kernel
theorem dX12_init_77 : decode cX12_init 77 = .ok (.putfield 51, 3) := dgq (p := 0) daX12_init_77 dbX12_init_77.1
theorem dX12_init_80 : decode cX12_init 80 = .ok (.aload_n 0, 1) := dgq (p := 3) daX12_init_77 dbX12_init_77.2.1
theorem dX12_init_81 : decode cX12_init 81 = .ok (.iconst 4, 1) := dgq (p := 4) daX12_init_77 dbX12_init_77.2.2.1
theorem dX12_init_84 : decode cX12_init 84 = .ok (.putfield 54, 3) := dgq (p := 7) daX12_init_77 dbX12_init_77.2.2.2.1
theorem dX12_init_87 : decode cX12_init 87 = .ok (.aload_n 0, 1) := dgq (p := 10) daX12_init_77 dbX12_init_77.2.2.2.2.1
theorem dX12_init_88 : decode cX12_init 88 = .ok (.iconst 4, 1) := dgq (p := 11) daX12_init_77 dbX12_init_77.2.2.2.2.2.1
theorem dX12_init_91 : decode cX12_init 91 = .ok (.putfield 57, 3) := dgq (p := 14) daX12_init_77 dbX12_init_77.2.2.2.2.2.2.1
theorem dX12_init_94 : decode cX12_init 94 = .ok (.aload_n 0, 1) := dgq (p := 17) daX12_init_77 dbX12_init_77.2.2.2.2.2.2.2.1
theorem dX12_init_95 : decode cX12_init 95 = .ok (.iconst 4, 1) := dgq (p := 18) daX12_init_77 dbX12_init_77.2.2.2.2.2.2.2.2.1
theorem dX12_init_98 : decode cX12_init 98 = .ok (.putfield 60, 3) := dgq (p := 21) daX12_init_77 dbX12_init_77.2.2.2.2.2.2.2.2.2
theorem dX12_init_103 : decode cX12_init 103 = .ok (.newarray .int, 2) := by decide +kernel
theorem dX12_init_110 : decode cX12_init 110 = .ok (.newarray .int, 2) := by decide +kernel
theorem dX12_init_117 : decode cX12_init 117 = .ok (.newarray .int, 2) := by decide +kernel
def dsX12_init_101 : ByteArray := ⟨#[42, 7, 188, 10, 181, 0, 63, 42, 8, 188, 10, 181, 0, 66, 42, 8, 188, 10, 181, 0, 69, 42]⟩
theorem daX12_init_101 : agB cX12_init dsX12_init_101 101 := agB_of (n := 22) (by decide +kernel)
theorem dbX12_init_101 : (decode dsX12_init_101 0 = .ok (.aload_n 0, 1) ∧ okop dsX12_init_101 0 = true) ∧ (decode dsX12_init_101 1 = .ok (.iconst 4, 1) ∧ okop dsX12_init_101 1 = true) ∧ (decode dsX12_init_101 4 = .ok (.putfield 63, 3) ∧ okop dsX12_init_101 4 = true) ∧ (decode dsX12_init_101 7 = .ok (.aload_n 0, 1) ∧ okop dsX12_init_101 7 = true) ∧ (decode dsX12_init_101 8 = .ok (.iconst 5, 1) ∧ okop dsX12_init_101 8 = true) ∧ (decode dsX12_init_101 11 = .ok (.putfield 66, 3) ∧ okop dsX12_init_101 11 = true) ∧ (decode dsX12_init_101 14 = .ok (.aload_n 0, 1) ∧ okop dsX12_init_101 14 = true) ∧ (decode dsX12_init_101 15 = .ok (.iconst 5, 1) ∧ okop dsX12_init_101 15 = true) ∧ (decode dsX12_init_101 18 = .ok (.putfield 69, 3) ∧ okop dsX12_init_101 18 = true) ∧ (decode dsX12_init_101 21 = .ok (.aload_n 0, 1) ∧ okop dsX12_init_101 21 = true) := by decide +kernel
theorem dX12_init_101 : decode cX12_init 101 = .ok (.aload_n 0, 1) := dgq (p := 0) daX12_init_101 dbX12_init_101.1
theorem dX12_init_102 : decode cX12_init 102 = .ok (.iconst 4, 1) := dgq (p := 1) daX12_init_101 dbX12_init_101.2.1
theorem dX12_init_105 : decode cX12_init 105 = .ok (.putfield 63, 3) := dgq (p := 4) daX12_init_101 dbX12_init_101.2.2.1
theorem dX12_init_108 : decode cX12_init 108 = .ok (.aload_n 0, 1) := dgq (p := 7) daX12_init_101 dbX12_init_101.2.2.2.1
theorem dX12_init_109 : decode cX12_init 109 = .ok (.iconst 5, 1) := dgq (p := 8) daX12_init_101 dbX12_init_101.2.2.2.2.1
theorem dX12_init_112 : decode cX12_init 112 = .ok (.putfield 66, 3) := dgq (p := 11) daX12_init_101 dbX12_init_101.2.2.2.2.2.1
theorem dX12_init_115 : decode cX12_init 115 = .ok (.aload_n 0, 1) := dgq (p := 14) daX12_init_101 dbX12_init_101.2.2.2.2.2.2.1
theorem dX12_init_116 : decode cX12_init 116 = .ok (.iconst 5, 1) := dgq (p := 15) daX12_init_101 dbX12_init_101.2.2.2.2.2.2.2.1
theorem dX12_init_119 : decode cX12_init 119 = .ok (.putfield 69, 3) := dgq (p := 18) daX12_init_101 dbX12_init_101.2.2.2.2.2.2.2.2.1
theorem dX12_init_122 : decode cX12_init 122 = .ok (.aload_n 0, 1) := dgq (p := 21) daX12_init_101 dbX12_init_101.2.2.2.2.2.2.2.2.2
theorem dX12_init_138 : decode cX12_init 138 = .ok (.newarray .int, 2) := by decide +kernel
def dsX12_init_123 : ByteArray := ⟨#[16, 24, 181, 0, 72, 42, 16, 60, 181, 0, 76, 42, 17, 0, 200, 188, 10, 181, 0, 79, 42, 17, 0, 200]⟩
theorem daX12_init_123 : agB cX12_init dsX12_init_123 123 := agB_of (n := 24) (by decide +kernel)
theorem dbX12_init_123 : (decode dsX12_init_123 0 = .ok (.bipush 24, 2) ∧ okop dsX12_init_123 0 = true) ∧ (decode dsX12_init_123 2 = .ok (.putfield 72, 3) ∧ okop dsX12_init_123 2 = true) ∧ (decode dsX12_init_123 5 = .ok (.aload_n 0, 1) ∧ okop dsX12_init_123 5 = true) ∧ (decode dsX12_init_123 6 = .ok (.bipush 60, 2) ∧ okop dsX12_init_123 6 = true) ∧ (decode dsX12_init_123 8 = .ok (.putfield 76, 3) ∧ okop dsX12_init_123 8 = true) ∧ (decode dsX12_init_123 11 = .ok (.aload_n 0, 1) ∧ okop dsX12_init_123 11 = true) ∧ (decode dsX12_init_123 12 = .ok (.sipush 200, 3) ∧ okop dsX12_init_123 12 = true) ∧ (decode dsX12_init_123 17 = .ok (.putfield 79, 3) ∧ okop dsX12_init_123 17 = true) ∧ (decode dsX12_init_123 20 = .ok (.aload_n 0, 1) ∧ okop dsX12_init_123 20 = true) ∧ (decode dsX12_init_123 21 = .ok (.sipush 200, 3) ∧ okop dsX12_init_123 21 = true) := by decide +kernel
theorem dX12_init_123 : decode cX12_init 123 = .ok (.bipush 24, 2) := dgq (p := 0) daX12_init_123 dbX12_init_123.1
theorem dX12_init_125 : decode cX12_init 125 = .ok (.putfield 72, 3) := dgq (p := 2) daX12_init_123 dbX12_init_123.2.1
theorem dX12_init_128 : decode cX12_init 128 = .ok (.aload_n 0, 1) := dgq (p := 5) daX12_init_123 dbX12_init_123.2.2.1
theorem dX12_init_129 : decode cX12_init 129 = .ok (.bipush 60, 2) := dgq (p := 6) daX12_init_123 dbX12_init_123.2.2.2.1
theorem dX12_init_131 : decode cX12_init 131 = .ok (.putfield 76, 3) := dgq (p := 8) daX12_init_123 dbX12_init_123.2.2.2.2.1
theorem dX12_init_134 : decode cX12_init 134 = .ok (.aload_n 0, 1) := dgq (p := 11) daX12_init_123 dbX12_init_123.2.2.2.2.2.1
theorem dX12_init_135 : decode cX12_init 135 = .ok (.sipush 200, 3) := dgq (p := 12) daX12_init_123 dbX12_init_123.2.2.2.2.2.2.1
theorem dX12_init_140 : decode cX12_init 140 = .ok (.putfield 79, 3) := dgq (p := 17) daX12_init_123 dbX12_init_123.2.2.2.2.2.2.2.1
theorem dX12_init_143 : decode cX12_init 143 = .ok (.aload_n 0, 1) := dgq (p := 20) daX12_init_123 dbX12_init_123.2.2.2.2.2.2.2.2.1
theorem dX12_init_144 : decode cX12_init 144 = .ok (.sipush 200, 3) := dgq (p := 21) daX12_init_123 dbX12_init_123.2.2.2.2.2.2.2.2.2
theorem dX12_init_147 : decode cX12_init 147 = .ok (.newarray .int, 2) := by decide +kernel
theorem dX12_init_156 : decode cX12_init 156 = .ok (.newarray .int, 2) := by decide +kernel
theorem dX12_init_165 : decode cX12_init 165 = .ok (.newarray .int, 2) := by decide +kernel
theorem dX12_init_173 : decode cX12_init 173 = .ok (.newarray .int, 2) := by decide +kernel
def dsX12_init_147 : ByteArray := ⟨#[188, 10, 181, 0, 82, 42, 17, 0, 200, 188, 10, 181, 0, 85, 42, 17, 0, 200, 188, 10, 181, 0, 88, 42, 16, 25, 188, 10, 181, 0, 91]⟩
theorem daX12_init_147 : agB cX12_init dsX12_init_147 147 := agB_of (n := 31) (by decide +kernel)
theorem dbX12_init_147 : (decode dsX12_init_147 2 = .ok (.putfield 82, 3) ∧ okop dsX12_init_147 2 = true) ∧ (decode dsX12_init_147 5 = .ok (.aload_n 0, 1) ∧ okop dsX12_init_147 5 = true) ∧ (decode dsX12_init_147 6 = .ok (.sipush 200, 3) ∧ okop dsX12_init_147 6 = true) ∧ (decode dsX12_init_147 11 = .ok (.putfield 85, 3) ∧ okop dsX12_init_147 11 = true) ∧ (decode dsX12_init_147 14 = .ok (.aload_n 0, 1) ∧ okop dsX12_init_147 14 = true) ∧ (decode dsX12_init_147 15 = .ok (.sipush 200, 3) ∧ okop dsX12_init_147 15 = true) ∧ (decode dsX12_init_147 20 = .ok (.putfield 88, 3) ∧ okop dsX12_init_147 20 = true) ∧ (decode dsX12_init_147 23 = .ok (.aload_n 0, 1) ∧ okop dsX12_init_147 23 = true) ∧ (decode dsX12_init_147 24 = .ok (.bipush 25, 2) ∧ okop dsX12_init_147 24 = true) ∧ (decode dsX12_init_147 28 = .ok (.putfield 91, 3) ∧ okop dsX12_init_147 28 = true) := by decide +kernel
theorem dX12_init_149 : decode cX12_init 149 = .ok (.putfield 82, 3) := dgq (p := 2) daX12_init_147 dbX12_init_147.1
theorem dX12_init_152 : decode cX12_init 152 = .ok (.aload_n 0, 1) := dgq (p := 5) daX12_init_147 dbX12_init_147.2.1
theorem dX12_init_153 : decode cX12_init 153 = .ok (.sipush 200, 3) := dgq (p := 6) daX12_init_147 dbX12_init_147.2.2.1
theorem dX12_init_158 : decode cX12_init 158 = .ok (.putfield 85, 3) := dgq (p := 11) daX12_init_147 dbX12_init_147.2.2.2.1
theorem dX12_init_161 : decode cX12_init 161 = .ok (.aload_n 0, 1) := dgq (p := 14) daX12_init_147 dbX12_init_147.2.2.2.2.1
theorem dX12_init_162 : decode cX12_init 162 = .ok (.sipush 200, 3) := dgq (p := 15) daX12_init_147 dbX12_init_147.2.2.2.2.2.1
theorem dX12_init_167 : decode cX12_init 167 = .ok (.putfield 88, 3) := dgq (p := 20) daX12_init_147 dbX12_init_147.2.2.2.2.2.2.1
theorem dX12_init_170 : decode cX12_init 170 = .ok (.aload_n 0, 1) := dgq (p := 23) daX12_init_147 dbX12_init_147.2.2.2.2.2.2.2.1
theorem dX12_init_171 : decode cX12_init 171 = .ok (.bipush 25, 2) := dgq (p := 24) daX12_init_147 dbX12_init_147.2.2.2.2.2.2.2.2.1
theorem dX12_init_175 : decode cX12_init 175 = .ok (.putfield 91, 3) := dgq (p := 28) daX12_init_147 dbX12_init_147.2.2.2.2.2.2.2.2.2
theorem dX12_init_178 : decode cX12_init 178 = .ok (.return_, 1) := by decide +kernel
def dsX12_thrown_0 : ByteArray := ⟨#[42, 180, 0, 94, 172]⟩
theorem daX12_thrown_0 : agB cX12_thrown dsX12_thrown_0 0 := agB_of (n := 5) (by decide +kernel)
theorem dbX12_thrown_0 : (decode dsX12_thrown_0 0 = .ok (.aload_n 0, 1) ∧ okop dsX12_thrown_0 0 = true) ∧ (decode dsX12_thrown_0 1 = .ok (.getfield 94, 3) ∧ okop dsX12_thrown_0 1 = true) ∧ (decode dsX12_thrown_0 4 = .ok (.ireturn, 1) ∧ okop dsX12_thrown_0 4 = true) := by decide +kernel
theorem dX12_thrown_0 : decode cX12_thrown 0 = .ok (.aload_n 0, 1) := dgq (p := 0) daX12_thrown_0 dbX12_thrown_0.1
theorem dX12_thrown_1 : decode cX12_thrown 1 = .ok (.getfield 94, 3) := dgq (p := 1) daX12_thrown_0 dbX12_thrown_0.2.1
theorem dX12_thrown_4 : decode cX12_thrown 4 = .ok (.ireturn, 1) := dgq (p := 4) daX12_thrown_0 dbX12_thrown_0.2.2
def dsX12_fails_0 : ByteArray := ⟨#[42, 27, 181, 0, 94, 3, 172]⟩
theorem daX12_fails_0 : agB cX12_fails dsX12_fails_0 0 := agB_of (n := 7) (by decide +kernel)
theorem dbX12_fails_0 : (decode dsX12_fails_0 0 = .ok (.aload_n 0, 1) ∧ okop dsX12_fails_0 0 = true) ∧ (decode dsX12_fails_0 1 = .ok (.iload_n 1, 1) ∧ okop dsX12_fails_0 1 = true) ∧ (decode dsX12_fails_0 2 = .ok (.putfield 94, 3) ∧ okop dsX12_fails_0 2 = true) ∧ (decode dsX12_fails_0 5 = .ok (.iconst 0, 1) ∧ okop dsX12_fails_0 5 = true) ∧ (decode dsX12_fails_0 6 = .ok (.ireturn, 1) ∧ okop dsX12_fails_0 6 = true) := by decide +kernel
theorem dX12_fails_0 : decode cX12_fails 0 = .ok (.aload_n 0, 1) := dgq (p := 0) daX12_fails_0 dbX12_fails_0.1
theorem dX12_fails_1 : decode cX12_fails 1 = .ok (.iload_n 1, 1) := dgq (p := 1) daX12_fails_0 dbX12_fails_0.2.1
theorem dX12_fails_2 : decode cX12_fails 2 = .ok (.putfield 94, 3) := dgq (p := 2) daX12_fails_0 dbX12_fails_0.2.2.1
theorem dX12_fails_5 : decode cX12_fails 5 = .ok (.iconst 0, 1) := dgq (p := 5) daX12_fails_0 dbX12_fails_0.2.2.2.1
theorem dX12_fails_6 : decode cX12_fails 6 = .ok (.ireturn, 1) := dgq (p := 6) daX12_fails_0 dbX12_fails_0.2.2.2.2
def dsX12_answer_0 : ByteArray := ⟨#[42, 3, 181, 0, 94, 27, 172]⟩
theorem daX12_answer_0 : agB cX12_answer dsX12_answer_0 0 := agB_of (n := 7) (by decide +kernel)
theorem dbX12_answer_0 : (decode dsX12_answer_0 0 = .ok (.aload_n 0, 1) ∧ okop dsX12_answer_0 0 = true) ∧ (decode dsX12_answer_0 1 = .ok (.iconst 0, 1) ∧ okop dsX12_answer_0 1 = true) ∧ (decode dsX12_answer_0 2 = .ok (.putfield 94, 3) ∧ okop dsX12_answer_0 2 = true) ∧ (decode dsX12_answer_0 5 = .ok (.iload_n 1, 1) ∧ okop dsX12_answer_0 5 = true) ∧ (decode dsX12_answer_0 6 = .ok (.ireturn, 1) ∧ okop dsX12_answer_0 6 = true) := by decide +kernel
theorem dX12_answer_0 : decode cX12_answer 0 = .ok (.aload_n 0, 1) := dgq (p := 0) daX12_answer_0 dbX12_answer_0.1
theorem dX12_answer_1 : decode cX12_answer 1 = .ok (.iconst 0, 1) := dgq (p := 1) daX12_answer_0 dbX12_answer_0.2.1
theorem dX12_answer_2 : decode cX12_answer 2 = .ok (.putfield 94, 3) := dgq (p := 2) daX12_answer_0 dbX12_answer_0.2.2.1
theorem dX12_answer_5 : decode cX12_answer 5 = .ok (.iload_n 1, 1) := dgq (p := 5) daX12_answer_0 dbX12_answer_0.2.2.2.1
theorem dX12_answer_6 : decode cX12_answer 6 = .ok (.ireturn, 1) := dgq (p := 6) daX12_answer_0 dbX12_answer_0.2.2.2.2
def dsX12_answerLong_0 : ByteArray := ⟨#[42, 3, 181, 0, 94, 31, 173]⟩
theorem daX12_answerLong_0 : agB cX12_answerLong dsX12_answerLong_0 0 := agB_of (n := 7) (by decide +kernel)
theorem dbX12_answerLong_0 : (decode dsX12_answerLong_0 0 = .ok (.aload_n 0, 1) ∧ okop dsX12_answerLong_0 0 = true) ∧ (decode dsX12_answerLong_0 1 = .ok (.iconst 0, 1) ∧ okop dsX12_answerLong_0 1 = true) ∧ (decode dsX12_answerLong_0 2 = .ok (.putfield 94, 3) ∧ okop dsX12_answerLong_0 2 = true) ∧ (decode dsX12_answerLong_0 5 = .ok (.lload_n 1, 1) ∧ okop dsX12_answerLong_0 5 = true) ∧ (decode dsX12_answerLong_0 6 = .ok (.lreturn, 1) ∧ okop dsX12_answerLong_0 6 = true) := by decide +kernel
theorem dX12_answerLong_0 : decode cX12_answerLong 0 = .ok (.aload_n 0, 1) := dgq (p := 0) daX12_answerLong_0 dbX12_answerLong_0.1
theorem dX12_answerLong_1 : decode cX12_answerLong 1 = .ok (.iconst 0, 1) := dgq (p := 1) daX12_answerLong_0 dbX12_answerLong_0.2.1
theorem dX12_answerLong_2 : decode cX12_answerLong 2 = .ok (.putfield 94, 3) := dgq (p := 2) daX12_answerLong_0 dbX12_answerLong_0.2.2.1
theorem dX12_answerLong_5 : decode cX12_answerLong 5 = .ok (.lload_n 1, 1) := dgq (p := 5) daX12_answerLong_0 dbX12_answerLong_0.2.2.2.1
theorem dX12_answerLong_6 : decode cX12_answerLong 6 = .ok (.lreturn, 1) := dgq (p := 6) daX12_answerLong_0 dbX12_answerLong_0.2.2.2.2
def dsX12_refuses_0 : ByteArray := ⟨#[42, 27, 181, 0, 94, 3, 172]⟩
theorem daX12_refuses_0 : agB cX12_refuses dsX12_refuses_0 0 := agB_of (n := 7) (by decide +kernel)
theorem dbX12_refuses_0 : (decode dsX12_refuses_0 0 = .ok (.aload_n 0, 1) ∧ okop dsX12_refuses_0 0 = true) ∧ (decode dsX12_refuses_0 1 = .ok (.iload_n 1, 1) ∧ okop dsX12_refuses_0 1 = true) ∧ (decode dsX12_refuses_0 2 = .ok (.putfield 94, 3) ∧ okop dsX12_refuses_0 2 = true) ∧ (decode dsX12_refuses_0 5 = .ok (.iconst 0, 1) ∧ okop dsX12_refuses_0 5 = true) ∧ (decode dsX12_refuses_0 6 = .ok (.ireturn, 1) ∧ okop dsX12_refuses_0 6 = true) := by decide +kernel
theorem dX12_refuses_0 : decode cX12_refuses 0 = .ok (.aload_n 0, 1) := dgq (p := 0) daX12_refuses_0 dbX12_refuses_0.1
theorem dX12_refuses_1 : decode cX12_refuses 1 = .ok (.iload_n 1, 1) := dgq (p := 1) daX12_refuses_0 dbX12_refuses_0.2.1
theorem dX12_refuses_2 : decode cX12_refuses 2 = .ok (.putfield 94, 3) := dgq (p := 2) daX12_refuses_0 dbX12_refuses_0.2.2.1
theorem dX12_refuses_5 : decode cX12_refuses 5 = .ok (.iconst 0, 1) := dgq (p := 5) daX12_refuses_0 dbX12_refuses_0.2.2.2.1
theorem dX12_refuses_6 : decode cX12_refuses 6 = .ok (.ireturn, 1) := dgq (p := 6) daX12_refuses_0 dbX12_refuses_0.2.2.2.2
def dsX12_says_0 : ByteArray := ⟨#[42, 3, 181, 0, 94, 27, 172]⟩
theorem daX12_says_0 : agB cX12_says dsX12_says_0 0 := agB_of (n := 7) (by decide +kernel)
theorem dbX12_says_0 : (decode dsX12_says_0 0 = .ok (.aload_n 0, 1) ∧ okop dsX12_says_0 0 = true) ∧ (decode dsX12_says_0 1 = .ok (.iconst 0, 1) ∧ okop dsX12_says_0 1 = true) ∧ (decode dsX12_says_0 2 = .ok (.putfield 94, 3) ∧ okop dsX12_says_0 2 = true) ∧ (decode dsX12_says_0 5 = .ok (.iload_n 1, 1) ∧ okop dsX12_says_0 5 = true) ∧ (decode dsX12_says_0 6 = .ok (.ireturn, 1) ∧ okop dsX12_says_0 6 = true) := by decide +kernel
theorem dX12_says_0 : decode cX12_says 0 = .ok (.aload_n 0, 1) := dgq (p := 0) daX12_says_0 dbX12_says_0.1
theorem dX12_says_1 : decode cX12_says 1 = .ok (.iconst 0, 1) := dgq (p := 1) daX12_says_0 dbX12_says_0.2.1
theorem dX12_says_2 : decode cX12_says 2 = .ok (.putfield 94, 3) := dgq (p := 2) daX12_says_0 dbX12_says_0.2.2.1
theorem dX12_says_5 : decode cX12_says 5 = .ok (.iload_n 1, 1) := dgq (p := 5) daX12_says_0 dbX12_says_0.2.2.2.1
theorem dX12_says_6 : decode cX12_says 6 = .ok (.ireturn, 1) := dgq (p := 6) daX12_says_0 dbX12_says_0.2.2.2.2
def dsX12_in_0 : ByteArray := ⟨#[30, 32, 148, 155, 0, 14, 30, 22, 4, 148, 157, 0, 7, 4, 167, 0, 4]⟩
theorem daX12_in_0 : agB cX12_in dsX12_in_0 0 := agB_of (n := 17) (by decide +kernel)
theorem dbX12_in_0 : (decode dsX12_in_0 0 = .ok (.lload_n 0, 1) ∧ okop dsX12_in_0 0 = true) ∧ (decode dsX12_in_0 1 = .ok (.lload_n 2, 1) ∧ okop dsX12_in_0 1 = true) ∧ (decode dsX12_in_0 2 = .ok (.lcmp, 1) ∧ okop dsX12_in_0 2 = true) ∧ (decode dsX12_in_0 3 = .ok (.ifCond .lt 14, 3) ∧ okop dsX12_in_0 3 = true) ∧ (decode dsX12_in_0 6 = .ok (.lload_n 0, 1) ∧ okop dsX12_in_0 6 = true) ∧ (decode dsX12_in_0 7 = .ok (.lload 4, 2) ∧ okop dsX12_in_0 7 = true) ∧ (decode dsX12_in_0 9 = .ok (.lcmp, 1) ∧ okop dsX12_in_0 9 = true) ∧ (decode dsX12_in_0 10 = .ok (.ifCond .gt 7, 3) ∧ okop dsX12_in_0 10 = true) ∧ (decode dsX12_in_0 13 = .ok (.iconst 1, 1) ∧ okop dsX12_in_0 13 = true) ∧ (decode dsX12_in_0 14 = .ok (.goto 4, 3) ∧ okop dsX12_in_0 14 = true) := by decide +kernel
theorem dX12_in_0 : decode cX12_in 0 = .ok (.lload_n 0, 1) := dgq (p := 0) daX12_in_0 dbX12_in_0.1
theorem dX12_in_1 : decode cX12_in 1 = .ok (.lload_n 2, 1) := dgq (p := 1) daX12_in_0 dbX12_in_0.2.1
theorem dX12_in_2 : decode cX12_in 2 = .ok (.lcmp, 1) := dgq (p := 2) daX12_in_0 dbX12_in_0.2.2.1
theorem dX12_in_3 : decode cX12_in 3 = .ok (.ifCond .lt 14, 3) := dgq (p := 3) daX12_in_0 dbX12_in_0.2.2.2.1
theorem dX12_in_6 : decode cX12_in 6 = .ok (.lload_n 0, 1) := dgq (p := 6) daX12_in_0 dbX12_in_0.2.2.2.2.1
theorem dX12_in_7 : decode cX12_in 7 = .ok (.lload 4, 2) := dgq (p := 7) daX12_in_0 dbX12_in_0.2.2.2.2.2.1
theorem dX12_in_9 : decode cX12_in 9 = .ok (.lcmp, 1) := dgq (p := 9) daX12_in_0 dbX12_in_0.2.2.2.2.2.2.1
theorem dX12_in_10 : decode cX12_in 10 = .ok (.ifCond .gt 7, 3) := dgq (p := 10) daX12_in_0 dbX12_in_0.2.2.2.2.2.2.2.1
theorem dX12_in_13 : decode cX12_in 13 = .ok (.iconst 1, 1) := dgq (p := 13) daX12_in_0 dbX12_in_0.2.2.2.2.2.2.2.2.1
theorem dX12_in_14 : decode cX12_in 14 = .ok (.goto 4, 3) := dgq (p := 14) daX12_in_0 dbX12_in_0.2.2.2.2.2.2.2.2.2
theorem dX12_in_17 : decode cX12_in 17 = .ok (.iconst 0, 1) := by decide +kernel
theorem dX12_in_18 : decode cX12_in 18 = .ok (.ireturn, 1) := by decide +kernel
set_option maxRecDepth 20000 in
theorem ggX12_isGear_Jx4a65c_size_8abf5 : GoodIn wsX12_isGear wsJx4a65c_size_8abf5 := goodIn_ca (goodIn_q _ [6, 7] rfl (by decide +kernel)) (goodIn_sub (fun _ h => (List.mem_cons_of_mem _ (List.mem_append_right _ h))) tg_wsJx4a65c0)
set_option maxRecDepth 20000 in
theorem gX12_isGear_Jx4a65c_size_8abf5 : GoodIn wsX12_isGear (wsV RX12 97 RJx4a65c yJx4a65c_size_8abf5 wsJx4a65c_size_8abf5) := goodIn_app (goodIn_q _ [2, 3, 4, 5] rfl (by decide +kernel)) ggX12_isGear_Jx4a65c_size_8abf5
set_option maxRecDepth 20000 in
theorem ggX12_isGear_X12_in : GoodIn wsX12_isGear wsX12_in := goodIn_q _ [11] rfl (by decide +kernel)
set_option maxRecDepth 20000 in
theorem gX12_isGear_X12_in : GoodIn wsX12_isGear (va_wsS RX12 101 yX12_in wsX12_in) := goodIn_app (goodIn_q _ [8, 9, 10] rfl (by decide +kernel)) ggX12_isGear_X12_in
def dsX12_isGear_0 : ByteArray := ⟨#[27, 133, 9, 42, 180, 0, 24, 182, 0, 97, 4, 100, 133, 184, 0, 101]⟩
theorem daX12_isGear_0 : agB cX12_isGear dsX12_isGear_0 0 := agB_of (n := 16) (by decide +kernel)
theorem dbX12_isGear_0 : (decode dsX12_isGear_0 0 = .ok (.iload_n 1, 1) ∧ okop dsX12_isGear_0 0 = true) ∧ (decode dsX12_isGear_0 1 = .ok (.i2l, 1) ∧ okop dsX12_isGear_0 1 = true) ∧ (decode dsX12_isGear_0 2 = .ok (.lconst 0, 1) ∧ okop dsX12_isGear_0 2 = true) ∧ (decode dsX12_isGear_0 3 = .ok (.aload_n 0, 1) ∧ okop dsX12_isGear_0 3 = true) ∧ (decode dsX12_isGear_0 4 = .ok (.getfield 24, 3) ∧ okop dsX12_isGear_0 4 = true) ∧ (decode dsX12_isGear_0 7 = .ok (.invokevirtual 97, 3) ∧ okop dsX12_isGear_0 7 = true) ∧ (decode dsX12_isGear_0 10 = .ok (.iconst 1, 1) ∧ okop dsX12_isGear_0 10 = true) ∧ (decode dsX12_isGear_0 11 = .ok (.isub, 1) ∧ okop dsX12_isGear_0 11 = true) ∧ (decode dsX12_isGear_0 12 = .ok (.i2l, 1) ∧ okop dsX12_isGear_0 12 = true) ∧ (decode dsX12_isGear_0 13 = .ok (.invokestatic 101, 3) ∧ okop dsX12_isGear_0 13 = true) := by decide +kernel
theorem dX12_isGear_0 : decode cX12_isGear 0 = .ok (.iload_n 1, 1) := dgq (p := 0) daX12_isGear_0 dbX12_isGear_0.1
theorem dX12_isGear_1 : decode cX12_isGear 1 = .ok (.i2l, 1) := dgq (p := 1) daX12_isGear_0 dbX12_isGear_0.2.1
theorem dX12_isGear_2 : decode cX12_isGear 2 = .ok (.lconst 0, 1) := dgq (p := 2) daX12_isGear_0 dbX12_isGear_0.2.2.1
theorem dX12_isGear_3 : decode cX12_isGear 3 = .ok (.aload_n 0, 1) := dgq (p := 3) daX12_isGear_0 dbX12_isGear_0.2.2.2.1
theorem dX12_isGear_4 : decode cX12_isGear 4 = .ok (.getfield 24, 3) := dgq (p := 4) daX12_isGear_0 dbX12_isGear_0.2.2.2.2.1
theorem dX12_isGear_7 : decode cX12_isGear 7 = .ok (.invokevirtual 97, 3) := dgq (p := 7) daX12_isGear_0 dbX12_isGear_0.2.2.2.2.2.1
theorem dX12_isGear_10 : decode cX12_isGear 10 = .ok (.iconst 1, 1) := dgq (p := 10) daX12_isGear_0 dbX12_isGear_0.2.2.2.2.2.2.1
theorem dX12_isGear_11 : decode cX12_isGear 11 = .ok (.isub, 1) := dgq (p := 11) daX12_isGear_0 dbX12_isGear_0.2.2.2.2.2.2.2.1
theorem dX12_isGear_12 : decode cX12_isGear 12 = .ok (.i2l, 1) := dgq (p := 12) daX12_isGear_0 dbX12_isGear_0.2.2.2.2.2.2.2.2.1
theorem dX12_isGear_13 : decode cX12_isGear 13 = .ok (.invokestatic 101, 3) := dgq (p := 13) daX12_isGear_0 dbX12_isGear_0.2.2.2.2.2.2.2.2.2
theorem dX12_isGear_16 : decode cX12_isGear 16 = .ok (.ireturn, 1) := by decide +kernel
set_option maxRecDepth 20000 in
theorem ggX12_isHob_Jx4a65c_size_8abf5 : GoodIn wsX12_isHob wsJx4a65c_size_8abf5 := goodIn_ca (goodIn_q _ [6, 7] rfl (by decide +kernel)) (goodIn_sub (fun _ h => (List.mem_cons_of_mem _ (List.mem_append_right _ h))) tg_wsJx4a65c0)
set_option maxRecDepth 20000 in
theorem gX12_isHob_Jx4a65c_size_8abf5 : GoodIn wsX12_isHob (wsV RX12 97 RJx4a65c yJx4a65c_size_8abf5 wsJx4a65c_size_8abf5) := goodIn_app (goodIn_q _ [2, 3, 4, 5] rfl (by decide +kernel)) ggX12_isHob_Jx4a65c_size_8abf5
set_option maxRecDepth 20000 in
theorem ggX12_isHob_X12_in : GoodIn wsX12_isHob wsX12_in := goodIn_q _ [11] rfl (by decide +kernel)
set_option maxRecDepth 20000 in
theorem gX12_isHob_X12_in : GoodIn wsX12_isHob (va_wsS RX12 101 yX12_in wsX12_in) := goodIn_app (goodIn_q _ [8, 9, 10] rfl (by decide +kernel)) ggX12_isHob_X12_in
def dsX12_isHob_0 : ByteArray := ⟨#[27, 133, 9, 42, 180, 0, 28, 182, 0, 97, 4, 100, 133, 184, 0, 101]⟩
theorem daX12_isHob_0 : agB cX12_isHob dsX12_isHob_0 0 := agB_of (n := 16) (by decide +kernel)
theorem dbX12_isHob_0 : (decode dsX12_isHob_0 0 = .ok (.iload_n 1, 1) ∧ okop dsX12_isHob_0 0 = true) ∧ (decode dsX12_isHob_0 1 = .ok (.i2l, 1) ∧ okop dsX12_isHob_0 1 = true) ∧ (decode dsX12_isHob_0 2 = .ok (.lconst 0, 1) ∧ okop dsX12_isHob_0 2 = true) ∧ (decode dsX12_isHob_0 3 = .ok (.aload_n 0, 1) ∧ okop dsX12_isHob_0 3 = true) ∧ (decode dsX12_isHob_0 4 = .ok (.getfield 28, 3) ∧ okop dsX12_isHob_0 4 = true) ∧ (decode dsX12_isHob_0 7 = .ok (.invokevirtual 97, 3) ∧ okop dsX12_isHob_0 7 = true) ∧ (decode dsX12_isHob_0 10 = .ok (.iconst 1, 1) ∧ okop dsX12_isHob_0 10 = true) ∧ (decode dsX12_isHob_0 11 = .ok (.isub, 1) ∧ okop dsX12_isHob_0 11 = true) ∧ (decode dsX12_isHob_0 12 = .ok (.i2l, 1) ∧ okop dsX12_isHob_0 12 = true) ∧ (decode dsX12_isHob_0 13 = .ok (.invokestatic 101, 3) ∧ okop dsX12_isHob_0 13 = true) := by decide +kernel
theorem dX12_isHob_0 : decode cX12_isHob 0 = .ok (.iload_n 1, 1) := dgq (p := 0) daX12_isHob_0 dbX12_isHob_0.1
theorem dX12_isHob_1 : decode cX12_isHob 1 = .ok (.i2l, 1) := dgq (p := 1) daX12_isHob_0 dbX12_isHob_0.2.1
theorem dX12_isHob_2 : decode cX12_isHob 2 = .ok (.lconst 0, 1) := dgq (p := 2) daX12_isHob_0 dbX12_isHob_0.2.2.1
theorem dX12_isHob_3 : decode cX12_isHob 3 = .ok (.aload_n 0, 1) := dgq (p := 3) daX12_isHob_0 dbX12_isHob_0.2.2.2.1
theorem dX12_isHob_4 : decode cX12_isHob 4 = .ok (.getfield 28, 3) := dgq (p := 4) daX12_isHob_0 dbX12_isHob_0.2.2.2.2.1
theorem dX12_isHob_7 : decode cX12_isHob 7 = .ok (.invokevirtual 97, 3) := dgq (p := 7) daX12_isHob_0 dbX12_isHob_0.2.2.2.2.2.1
theorem dX12_isHob_10 : decode cX12_isHob 10 = .ok (.iconst 1, 1) := dgq (p := 10) daX12_isHob_0 dbX12_isHob_0.2.2.2.2.2.2.1
theorem dX12_isHob_11 : decode cX12_isHob 11 = .ok (.isub, 1) := dgq (p := 11) daX12_isHob_0 dbX12_isHob_0.2.2.2.2.2.2.2.1
theorem dX12_isHob_12 : decode cX12_isHob 12 = .ok (.i2l, 1) := dgq (p := 12) daX12_isHob_0 dbX12_isHob_0.2.2.2.2.2.2.2.2.1
theorem dX12_isHob_13 : decode cX12_isHob 13 = .ok (.invokestatic 101, 3) := dgq (p := 13) daX12_isHob_0 dbX12_isHob_0.2.2.2.2.2.2.2.2.2
theorem dX12_isHob_16 : decode cX12_isHob 16 = .ok (.ireturn, 1) := by decide +kernel
set_option maxRecDepth 20000 in
theorem ggX12_gearAt_Jx4a65c_get_915e3 : GoodIn wsX12_gearAt wsJx4a65c_get_915e3 := goodIn_ca (goodIn_q _ [7, 8, 9, 10, 11, 12, 13, 14, 15, 16, 17, 18, 19, 6, 20, 21] rfl (by decide +kernel)) (goodIn_sub (fun _ h => (List.mem_cons_of_mem _ (List.mem_append_right _ h))) tg_wsJx4a65c0)
set_option maxRecDepth 20000 in
theorem gX12_gearAt_Jx4a65c_get_915e3 : GoodIn wsX12_gearAt (wsV RX12 105 RJx4a65c yJx4a65c_get_915e3 wsJx4a65c_get_915e3) := goodIn_app (goodIn_q _ [3, 4, 5, 6] rfl (by decide +kernel)) ggX12_gearAt_Jx4a65c_get_915e3
def dsX12_gearAt_0 : ByteArray := ⟨#[42, 180, 0, 24, 27, 182, 0, 105, 192, 0, 109, 176]⟩
theorem daX12_gearAt_0 : agB cX12_gearAt dsX12_gearAt_0 0 := agB_of (n := 12) (by decide +kernel)
theorem dbX12_gearAt_0 : (decode dsX12_gearAt_0 0 = .ok (.aload_n 0, 1) ∧ okop dsX12_gearAt_0 0 = true) ∧ (decode dsX12_gearAt_0 1 = .ok (.getfield 24, 3) ∧ okop dsX12_gearAt_0 1 = true) ∧ (decode dsX12_gearAt_0 4 = .ok (.iload_n 1, 1) ∧ okop dsX12_gearAt_0 4 = true) ∧ (decode dsX12_gearAt_0 5 = .ok (.invokevirtual 105, 3) ∧ okop dsX12_gearAt_0 5 = true) ∧ (decode dsX12_gearAt_0 8 = .ok (.checkcast 109, 3) ∧ okop dsX12_gearAt_0 8 = true) ∧ (decode dsX12_gearAt_0 11 = .ok (.areturn, 1) ∧ okop dsX12_gearAt_0 11 = true) := by decide +kernel
theorem dX12_gearAt_0 : decode cX12_gearAt 0 = .ok (.aload_n 0, 1) := dgq (p := 0) daX12_gearAt_0 dbX12_gearAt_0.1
theorem dX12_gearAt_1 : decode cX12_gearAt 1 = .ok (.getfield 24, 3) := dgq (p := 1) daX12_gearAt_0 dbX12_gearAt_0.2.1
theorem dX12_gearAt_4 : decode cX12_gearAt 4 = .ok (.iload_n 1, 1) := dgq (p := 4) daX12_gearAt_0 dbX12_gearAt_0.2.2.1
theorem dX12_gearAt_5 : decode cX12_gearAt 5 = .ok (.invokevirtual 105, 3) := dgq (p := 5) daX12_gearAt_0 dbX12_gearAt_0.2.2.2.1
theorem dX12_gearAt_8 : decode cX12_gearAt 8 = .ok (.checkcast 109, 3) := dgq (p := 8) daX12_gearAt_0 dbX12_gearAt_0.2.2.2.2.1
theorem dX12_gearAt_11 : decode cX12_gearAt 11 = .ok (.areturn, 1) := dgq (p := 11) daX12_gearAt_0 dbX12_gearAt_0.2.2.2.2.2
set_option maxRecDepth 20000 in
theorem ggX12_isPair_X12_gearAt : GoodIn wsX12_isPair wsX12_gearAt := goodIn_ca (goodIn_ca (goodIn_q _ [5, 6, 7, 8, 9, 10, 11, 12, 13, 14, 15, 16, 17, 18, 19, 20, 21, 22, 23, 24, 25, 26] rfl (by decide +kernel)) (goodIn_sub (fun _ h => (List.mem_cons_of_mem _ (List.mem_append_left _ (List.mem_append_right _ h)))) tg_wsX120)) (goodIn_sub (fun _ h => (List.mem_cons_of_mem _ (List.mem_append_right _ h))) tg_wsJx4a65c0)
set_option maxRecDepth 20000 in
theorem gX12_isPair_X12_gearAt : GoodIn wsX12_isPair (wsV RX12 111 RX12 yX12_gearAt wsX12_gearAt) := goodIn_app (goodIn_q _ [1, 2, 3, 4] rfl (by decide +kernel)) ggX12_isPair_X12_gearAt
def dsX12_isPair_0 : ByteArray := ⟨#[42, 27, 182, 0, 111, 78, 42, 28, 182, 0, 111, 58, 4, 27, 28]⟩
theorem daX12_isPair_0 : agB cX12_isPair dsX12_isPair_0 0 := agB_of (n := 15) (by decide +kernel)
theorem dbX12_isPair_0 : (decode dsX12_isPair_0 0 = .ok (.aload_n 0, 1) ∧ okop dsX12_isPair_0 0 = true) ∧ (decode dsX12_isPair_0 1 = .ok (.iload_n 1, 1) ∧ okop dsX12_isPair_0 1 = true) ∧ (decode dsX12_isPair_0 2 = .ok (.invokevirtual 111, 3) ∧ okop dsX12_isPair_0 2 = true) ∧ (decode dsX12_isPair_0 5 = .ok (.astore_n 3, 1) ∧ okop dsX12_isPair_0 5 = true) ∧ (decode dsX12_isPair_0 6 = .ok (.aload_n 0, 1) ∧ okop dsX12_isPair_0 6 = true) ∧ (decode dsX12_isPair_0 7 = .ok (.iload_n 2, 1) ∧ okop dsX12_isPair_0 7 = true) ∧ (decode dsX12_isPair_0 8 = .ok (.invokevirtual 111, 3) ∧ okop dsX12_isPair_0 8 = true) ∧ (decode dsX12_isPair_0 11 = .ok (.astore 4, 2) ∧ okop dsX12_isPair_0 11 = true) ∧ (decode dsX12_isPair_0 13 = .ok (.iload_n 1, 1) ∧ okop dsX12_isPair_0 13 = true) ∧ (decode dsX12_isPair_0 14 = .ok (.iload_n 2, 1) ∧ okop dsX12_isPair_0 14 = true) := by decide +kernel
theorem dX12_isPair_0 : decode cX12_isPair 0 = .ok (.aload_n 0, 1) := dgq (p := 0) daX12_isPair_0 dbX12_isPair_0.1
theorem dX12_isPair_1 : decode cX12_isPair 1 = .ok (.iload_n 1, 1) := dgq (p := 1) daX12_isPair_0 dbX12_isPair_0.2.1
theorem dX12_isPair_2 : decode cX12_isPair 2 = .ok (.invokevirtual 111, 3) := dgq (p := 2) daX12_isPair_0 dbX12_isPair_0.2.2.1
theorem dX12_isPair_5 : decode cX12_isPair 5 = .ok (.astore_n 3, 1) := dgq (p := 5) daX12_isPair_0 dbX12_isPair_0.2.2.2.1
theorem dX12_isPair_6 : decode cX12_isPair 6 = .ok (.aload_n 0, 1) := dgq (p := 6) daX12_isPair_0 dbX12_isPair_0.2.2.2.2.1
theorem dX12_isPair_7 : decode cX12_isPair 7 = .ok (.iload_n 2, 1) := dgq (p := 7) daX12_isPair_0 dbX12_isPair_0.2.2.2.2.2.1
theorem dX12_isPair_8 : decode cX12_isPair 8 = .ok (.invokevirtual 111, 3) := dgq (p := 8) daX12_isPair_0 dbX12_isPair_0.2.2.2.2.2.2.1
theorem dX12_isPair_11 : decode cX12_isPair 11 = .ok (.astore 4, 2) := dgq (p := 11) daX12_isPair_0 dbX12_isPair_0.2.2.2.2.2.2.2.1
theorem dX12_isPair_13 : decode cX12_isPair 13 = .ok (.iload_n 1, 1) := dgq (p := 13) daX12_isPair_0 dbX12_isPair_0.2.2.2.2.2.2.2.2.1
theorem dX12_isPair_14 : decode cX12_isPair 14 = .ok (.iload_n 2, 1) := dgq (p := 14) daX12_isPair_0 dbX12_isPair_0.2.2.2.2.2.2.2.2.2
def dsX12_isPair_15 : ByteArray := ⟨#[159, 0, 32, 45, 180, 0, 115, 25, 4, 180, 0, 115, 160, 0, 20, 45, 180, 0, 118, 25, 4, 180, 0, 118]⟩
theorem daX12_isPair_15 : agB cX12_isPair dsX12_isPair_15 15 := agB_of (n := 24) (by decide +kernel)
theorem dbX12_isPair_15 : (decode dsX12_isPair_15 0 = .ok (.if_icmp .eq 32, 3) ∧ okop dsX12_isPair_15 0 = true) ∧ (decode dsX12_isPair_15 3 = .ok (.aload_n 3, 1) ∧ okop dsX12_isPair_15 3 = true) ∧ (decode dsX12_isPair_15 4 = .ok (.getfield 115, 3) ∧ okop dsX12_isPair_15 4 = true) ∧ (decode dsX12_isPair_15 7 = .ok (.aload 4, 2) ∧ okop dsX12_isPair_15 7 = true) ∧ (decode dsX12_isPair_15 9 = .ok (.getfield 115, 3) ∧ okop dsX12_isPair_15 9 = true) ∧ (decode dsX12_isPair_15 12 = .ok (.if_icmp .ne 20, 3) ∧ okop dsX12_isPair_15 12 = true) ∧ (decode dsX12_isPair_15 15 = .ok (.aload_n 3, 1) ∧ okop dsX12_isPair_15 15 = true) ∧ (decode dsX12_isPair_15 16 = .ok (.getfield 118, 3) ∧ okop dsX12_isPair_15 16 = true) ∧ (decode dsX12_isPair_15 19 = .ok (.aload 4, 2) ∧ okop dsX12_isPair_15 19 = true) ∧ (decode dsX12_isPair_15 21 = .ok (.getfield 118, 3) ∧ okop dsX12_isPair_15 21 = true) := by decide +kernel
theorem dX12_isPair_15 : decode cX12_isPair 15 = .ok (.if_icmp .eq 32, 3) := dgq (p := 0) daX12_isPair_15 dbX12_isPair_15.1
theorem dX12_isPair_18 : decode cX12_isPair 18 = .ok (.aload_n 3, 1) := dgq (p := 3) daX12_isPair_15 dbX12_isPair_15.2.1
theorem dX12_isPair_19 : decode cX12_isPair 19 = .ok (.getfield 115, 3) := dgq (p := 4) daX12_isPair_15 dbX12_isPair_15.2.2.1
theorem dX12_isPair_22 : decode cX12_isPair 22 = .ok (.aload 4, 2) := dgq (p := 7) daX12_isPair_15 dbX12_isPair_15.2.2.2.1
theorem dX12_isPair_24 : decode cX12_isPair 24 = .ok (.getfield 115, 3) := dgq (p := 9) daX12_isPair_15 dbX12_isPair_15.2.2.2.2.1
theorem dX12_isPair_27 : decode cX12_isPair 27 = .ok (.if_icmp .ne 20, 3) := dgq (p := 12) daX12_isPair_15 dbX12_isPair_15.2.2.2.2.2.1
theorem dX12_isPair_30 : decode cX12_isPair 30 = .ok (.aload_n 3, 1) := dgq (p := 15) daX12_isPair_15 dbX12_isPair_15.2.2.2.2.2.2.1
theorem dX12_isPair_31 : decode cX12_isPair 31 = .ok (.getfield 118, 3) := dgq (p := 16) daX12_isPair_15 dbX12_isPair_15.2.2.2.2.2.2.2.1
theorem dX12_isPair_34 : decode cX12_isPair 34 = .ok (.aload 4, 2) := dgq (p := 19) daX12_isPair_15 dbX12_isPair_15.2.2.2.2.2.2.2.2.1
theorem dX12_isPair_36 : decode cX12_isPair 36 = .ok (.getfield 118, 3) := dgq (p := 21) daX12_isPair_15 dbX12_isPair_15.2.2.2.2.2.2.2.2.2
def dsX12_isPair_39 : ByteArray := ⟨#[96, 154, 0, 7, 4, 167, 0, 4, 3, 172]⟩
theorem daX12_isPair_39 : agB cX12_isPair dsX12_isPair_39 39 := agB_of (n := 10) (by decide +kernel)
theorem dbX12_isPair_39 : (decode dsX12_isPair_39 0 = .ok (.iadd, 1) ∧ okop dsX12_isPair_39 0 = true) ∧ (decode dsX12_isPair_39 1 = .ok (.ifCond .ne 7, 3) ∧ okop dsX12_isPair_39 1 = true) ∧ (decode dsX12_isPair_39 4 = .ok (.iconst 1, 1) ∧ okop dsX12_isPair_39 4 = true) ∧ (decode dsX12_isPair_39 5 = .ok (.goto 4, 3) ∧ okop dsX12_isPair_39 5 = true) ∧ (decode dsX12_isPair_39 8 = .ok (.iconst 0, 1) ∧ okop dsX12_isPair_39 8 = true) ∧ (decode dsX12_isPair_39 9 = .ok (.ireturn, 1) ∧ okop dsX12_isPair_39 9 = true) := by decide +kernel
theorem dX12_isPair_39 : decode cX12_isPair 39 = .ok (.iadd, 1) := dgq (p := 0) daX12_isPair_39 dbX12_isPair_39.1
theorem dX12_isPair_40 : decode cX12_isPair 40 = .ok (.ifCond .ne 7, 3) := dgq (p := 1) daX12_isPair_39 dbX12_isPair_39.2.1
theorem dX12_isPair_43 : decode cX12_isPair 43 = .ok (.iconst 1, 1) := dgq (p := 4) daX12_isPair_39 dbX12_isPair_39.2.2.1
theorem dX12_isPair_44 : decode cX12_isPair 44 = .ok (.goto 4, 3) := dgq (p := 5) daX12_isPair_39 dbX12_isPair_39.2.2.2.1
theorem dX12_isPair_47 : decode cX12_isPair 47 = .ok (.iconst 0, 1) := dgq (p := 8) daX12_isPair_39 dbX12_isPair_39.2.2.2.2.1
theorem dX12_isPair_48 : decode cX12_isPair 48 = .ok (.ireturn, 1) := dgq (p := 9) daX12_isPair_39 dbX12_isPair_39.2.2.2.2.2
set_option maxRecDepth 20000 in
theorem ggX12_isAsked_X12_isGear : GoodIn wsX12_isAsked wsX12_isGear := goodIn_ca (goodIn_ca (goodIn_q _ [6, 7, 8, 9, 10, 11, 12, 13, 14, 15, 5, 16] rfl (by decide +kernel)) (goodIn_sub (fun _ h => (List.mem_cons_of_mem _ (List.mem_append_left _ (List.mem_append_left _ (List.mem_append_right _ h))))) tg_wsX120)) (goodIn_sub (fun _ h => (List.mem_cons_of_mem _ (List.mem_append_left _ (List.mem_append_right _ h)))) tg_wsJx4a65c0)
set_option maxRecDepth 20000 in
theorem gX12_isAsked_X12_isGear : GoodIn wsX12_isAsked (wsV RX12 121 RX12 yX12_isGear wsX12_isGear) := goodIn_app (goodIn_q _ [2, 3, 4, 5] rfl (by decide +kernel)) ggX12_isAsked_X12_isGear
set_option maxRecDepth 20000 in
theorem ggX12_isAsked_X12_isPair : GoodIn wsX12_isAsked wsX12_isPair := goodIn_ca (goodIn_ca (goodIn_ca (goodIn_q _ [20, 21, 22, 23, 5, 24, 7, 25, 26, 27, 28, 11, 29, 13, 30, 31, 32, 33, 34, 35, 36, 37, 38, 39, 40, 41, 42] rfl (by decide +kernel)) (goodIn_sub (fun _ h => (List.mem_cons_of_mem _ (List.mem_append_right _ h))) tg_wsX100)) (goodIn_sub (fun _ h => (List.mem_cons_of_mem _ (List.mem_append_left _ (List.mem_append_left _ (List.mem_append_right _ h))))) tg_wsX120)) (goodIn_sub (fun _ h => (List.mem_cons_of_mem _ (List.mem_append_left _ (List.mem_append_right _ h)))) tg_wsJx4a65c0)
set_option maxRecDepth 20000 in
theorem gX12_isAsked_X12_isPair : GoodIn wsX12_isAsked (wsV RX12 125 RX12 yX12_isPair wsX12_isPair) := goodIn_app (goodIn_q _ [17, 18, 19, 5] rfl (by decide +kernel)) ggX12_isAsked_X12_isPair
def dsX12_isAsked_0 : ByteArray := ⟨#[42, 42, 27, 182, 0, 121, 153, 0, 11, 42, 28, 182, 0, 121, 154, 0, 7, 29]⟩
theorem daX12_isAsked_0 : agB cX12_isAsked dsX12_isAsked_0 0 := agB_of (n := 18) (by decide +kernel)
theorem dbX12_isAsked_0 : (decode dsX12_isAsked_0 0 = .ok (.aload_n 0, 1) ∧ okop dsX12_isAsked_0 0 = true) ∧ (decode dsX12_isAsked_0 1 = .ok (.aload_n 0, 1) ∧ okop dsX12_isAsked_0 1 = true) ∧ (decode dsX12_isAsked_0 2 = .ok (.iload_n 1, 1) ∧ okop dsX12_isAsked_0 2 = true) ∧ (decode dsX12_isAsked_0 3 = .ok (.invokevirtual 121, 3) ∧ okop dsX12_isAsked_0 3 = true) ∧ (decode dsX12_isAsked_0 6 = .ok (.ifCond .eq 11, 3) ∧ okop dsX12_isAsked_0 6 = true) ∧ (decode dsX12_isAsked_0 9 = .ok (.aload_n 0, 1) ∧ okop dsX12_isAsked_0 9 = true) ∧ (decode dsX12_isAsked_0 10 = .ok (.iload_n 2, 1) ∧ okop dsX12_isAsked_0 10 = true) ∧ (decode dsX12_isAsked_0 11 = .ok (.invokevirtual 121, 3) ∧ okop dsX12_isAsked_0 11 = true) ∧ (decode dsX12_isAsked_0 14 = .ok (.ifCond .ne 7, 3) ∧ okop dsX12_isAsked_0 14 = true) ∧ (decode dsX12_isAsked_0 17 = .ok (.iload_n 3, 1) ∧ okop dsX12_isAsked_0 17 = true) := by decide +kernel
theorem dX12_isAsked_0 : decode cX12_isAsked 0 = .ok (.aload_n 0, 1) := dgq (p := 0) daX12_isAsked_0 dbX12_isAsked_0.1
theorem dX12_isAsked_1 : decode cX12_isAsked 1 = .ok (.aload_n 0, 1) := dgq (p := 1) daX12_isAsked_0 dbX12_isAsked_0.2.1
theorem dX12_isAsked_2 : decode cX12_isAsked 2 = .ok (.iload_n 1, 1) := dgq (p := 2) daX12_isAsked_0 dbX12_isAsked_0.2.2.1
theorem dX12_isAsked_3 : decode cX12_isAsked 3 = .ok (.invokevirtual 121, 3) := dgq (p := 3) daX12_isAsked_0 dbX12_isAsked_0.2.2.2.1
theorem dX12_isAsked_6 : decode cX12_isAsked 6 = .ok (.ifCond .eq 11, 3) := dgq (p := 6) daX12_isAsked_0 dbX12_isAsked_0.2.2.2.2.1
theorem dX12_isAsked_9 : decode cX12_isAsked 9 = .ok (.aload_n 0, 1) := dgq (p := 9) daX12_isAsked_0 dbX12_isAsked_0.2.2.2.2.2.1
theorem dX12_isAsked_10 : decode cX12_isAsked 10 = .ok (.iload_n 2, 1) := dgq (p := 10) daX12_isAsked_0 dbX12_isAsked_0.2.2.2.2.2.2.1
theorem dX12_isAsked_11 : decode cX12_isAsked 11 = .ok (.invokevirtual 121, 3) := dgq (p := 11) daX12_isAsked_0 dbX12_isAsked_0.2.2.2.2.2.2.2.1
theorem dX12_isAsked_14 : decode cX12_isAsked 14 = .ok (.ifCond .ne 7, 3) := dgq (p := 14) daX12_isAsked_0 dbX12_isAsked_0.2.2.2.2.2.2.2.2.1
theorem dX12_isAsked_17 : decode cX12_isAsked 17 = .ok (.iload_n 3, 1) := dgq (p := 17) daX12_isAsked_0 dbX12_isAsked_0.2.2.2.2.2.2.2.2.2
def dsX12_isAsked_18 : ByteArray := ⟨#[167, 0, 18, 42, 27, 28, 182, 0, 125, 154, 0, 8, 21, 4, 167, 0, 4, 3, 181, 0, 94]⟩
theorem daX12_isAsked_18 : agB cX12_isAsked dsX12_isAsked_18 18 := agB_of (n := 21) (by decide +kernel)
theorem dbX12_isAsked_18 : (decode dsX12_isAsked_18 0 = .ok (.goto 18, 3) ∧ okop dsX12_isAsked_18 0 = true) ∧ (decode dsX12_isAsked_18 3 = .ok (.aload_n 0, 1) ∧ okop dsX12_isAsked_18 3 = true) ∧ (decode dsX12_isAsked_18 4 = .ok (.iload_n 1, 1) ∧ okop dsX12_isAsked_18 4 = true) ∧ (decode dsX12_isAsked_18 5 = .ok (.iload_n 2, 1) ∧ okop dsX12_isAsked_18 5 = true) ∧ (decode dsX12_isAsked_18 6 = .ok (.invokevirtual 125, 3) ∧ okop dsX12_isAsked_18 6 = true) ∧ (decode dsX12_isAsked_18 9 = .ok (.ifCond .ne 8, 3) ∧ okop dsX12_isAsked_18 9 = true) ∧ (decode dsX12_isAsked_18 12 = .ok (.iload 4, 2) ∧ okop dsX12_isAsked_18 12 = true) ∧ (decode dsX12_isAsked_18 14 = .ok (.goto 4, 3) ∧ okop dsX12_isAsked_18 14 = true) ∧ (decode dsX12_isAsked_18 17 = .ok (.iconst 0, 1) ∧ okop dsX12_isAsked_18 17 = true) ∧ (decode dsX12_isAsked_18 18 = .ok (.putfield 94, 3) ∧ okop dsX12_isAsked_18 18 = true) := by decide +kernel
theorem dX12_isAsked_18 : decode cX12_isAsked 18 = .ok (.goto 18, 3) := dgq (p := 0) daX12_isAsked_18 dbX12_isAsked_18.1
theorem dX12_isAsked_21 : decode cX12_isAsked 21 = .ok (.aload_n 0, 1) := dgq (p := 3) daX12_isAsked_18 dbX12_isAsked_18.2.1
theorem dX12_isAsked_22 : decode cX12_isAsked 22 = .ok (.iload_n 1, 1) := dgq (p := 4) daX12_isAsked_18 dbX12_isAsked_18.2.2.1
theorem dX12_isAsked_23 : decode cX12_isAsked 23 = .ok (.iload_n 2, 1) := dgq (p := 5) daX12_isAsked_18 dbX12_isAsked_18.2.2.2.1
theorem dX12_isAsked_24 : decode cX12_isAsked 24 = .ok (.invokevirtual 125, 3) := dgq (p := 6) daX12_isAsked_18 dbX12_isAsked_18.2.2.2.2.1
theorem dX12_isAsked_27 : decode cX12_isAsked 27 = .ok (.ifCond .ne 8, 3) := dgq (p := 9) daX12_isAsked_18 dbX12_isAsked_18.2.2.2.2.2.1
theorem dX12_isAsked_30 : decode cX12_isAsked 30 = .ok (.iload 4, 2) := dgq (p := 12) daX12_isAsked_18 dbX12_isAsked_18.2.2.2.2.2.2.1
theorem dX12_isAsked_32 : decode cX12_isAsked 32 = .ok (.goto 4, 3) := dgq (p := 14) daX12_isAsked_18 dbX12_isAsked_18.2.2.2.2.2.2.2.1
theorem dX12_isAsked_35 : decode cX12_isAsked 35 = .ok (.iconst 0, 1) := dgq (p := 17) daX12_isAsked_18 dbX12_isAsked_18.2.2.2.2.2.2.2.2.1
theorem dX12_isAsked_36 : decode cX12_isAsked 36 = .ok (.putfield 94, 3) := dgq (p := 18) daX12_isAsked_18 dbX12_isAsked_18.2.2.2.2.2.2.2.2.2
def dsX12_isAsked_39 : ByteArray := ⟨#[42, 180, 0, 94, 154, 0, 7, 4, 167, 0, 4, 3, 172]⟩
theorem daX12_isAsked_39 : agB cX12_isAsked dsX12_isAsked_39 39 := agB_of (n := 13) (by decide +kernel)
theorem dbX12_isAsked_39 : (decode dsX12_isAsked_39 0 = .ok (.aload_n 0, 1) ∧ okop dsX12_isAsked_39 0 = true) ∧ (decode dsX12_isAsked_39 1 = .ok (.getfield 94, 3) ∧ okop dsX12_isAsked_39 1 = true) ∧ (decode dsX12_isAsked_39 4 = .ok (.ifCond .ne 7, 3) ∧ okop dsX12_isAsked_39 4 = true) ∧ (decode dsX12_isAsked_39 7 = .ok (.iconst 1, 1) ∧ okop dsX12_isAsked_39 7 = true) ∧ (decode dsX12_isAsked_39 8 = .ok (.goto 4, 3) ∧ okop dsX12_isAsked_39 8 = true) ∧ (decode dsX12_isAsked_39 11 = .ok (.iconst 0, 1) ∧ okop dsX12_isAsked_39 11 = true) ∧ (decode dsX12_isAsked_39 12 = .ok (.ireturn, 1) ∧ okop dsX12_isAsked_39 12 = true) := by decide +kernel
theorem dX12_isAsked_39 : decode cX12_isAsked 39 = .ok (.aload_n 0, 1) := dgq (p := 0) daX12_isAsked_39 dbX12_isAsked_39.1
theorem dX12_isAsked_40 : decode cX12_isAsked 40 = .ok (.getfield 94, 3) := dgq (p := 1) daX12_isAsked_39 dbX12_isAsked_39.2.1
theorem dX12_isAsked_43 : decode cX12_isAsked 43 = .ok (.ifCond .ne 7, 3) := dgq (p := 4) daX12_isAsked_39 dbX12_isAsked_39.2.2.1
theorem dX12_isAsked_46 : decode cX12_isAsked 46 = .ok (.iconst 1, 1) := dgq (p := 7) daX12_isAsked_39 dbX12_isAsked_39.2.2.2.1
theorem dX12_isAsked_47 : decode cX12_isAsked 47 = .ok (.goto 4, 3) := dgq (p := 8) daX12_isAsked_39 dbX12_isAsked_39.2.2.2.2.1
theorem dX12_isAsked_50 : decode cX12_isAsked 50 = .ok (.iconst 0, 1) := dgq (p := 11) daX12_isAsked_39 dbX12_isAsked_39.2.2.2.2.2.1
theorem dX12_isAsked_51 : decode cX12_isAsked 51 = .ok (.ireturn, 1) := dgq (p := 12) daX12_isAsked_39 dbX12_isAsked_39.2.2.2.2.2.2
set_option maxRecDepth 20000 in
theorem ggX12_gear_X12_in : GoodIn wsX12_gear wsX12_in := goodIn_q _ [15] rfl (by decide +kernel)
set_option maxRecDepth 20000 in
theorem gX12_gear_X12_in : GoodIn wsX12_gear (va_wsS RX12 101 yX12_in wsX12_in) := goodIn_app (goodIn_q _ [12, 13, 14] rfl (by decide +kernel)) ggX12_gear_X12_in
set_option maxRecDepth 20000 in
theorem ggX12_gear_X12_fails : GoodIn wsX12_gear wsX12_fails := goodIn_ca (goodIn_q _ [19, 20] rfl (by decide +kernel)) (goodIn_sub (fun _ h => (List.mem_cons_of_mem _ (List.mem_append_left _ (List.mem_append_left _ (List.mem_append_right _ h))))) tg_wsX120)
set_option maxRecDepth 20000 in
theorem gX12_gear_X12_fails : GoodIn wsX12_gear (wsV RX12 143 RX12 yX12_fails wsX12_fails) := goodIn_app (goodIn_q _ [16, 17, 18, 14] rfl (by decide +kernel)) ggX12_gear_X12_fails
set_option maxRecDepth 20000 in
theorem ggX12_gear_Jx4a65c_size_8abf5 : GoodIn wsX12_gear wsJx4a65c_size_8abf5 := goodIn_ca (goodIn_q _ [25, 26] rfl (by decide +kernel)) (goodIn_sub (fun _ h => (List.mem_cons_of_mem _ (List.mem_append_right _ h))) tg_wsJx4a65c0)
set_option maxRecDepth 20000 in
theorem gX12_gear_Jx4a65c_size_8abf5 : GoodIn wsX12_gear (wsV RX12 97 RJx4a65c yJx4a65c_size_8abf5 wsJx4a65c_size_8abf5) := goodIn_app (goodIn_q _ [21, 22, 23, 24] rfl (by decide +kernel)) ggX12_gear_Jx4a65c_size_8abf5
set_option maxRecDepth 20000 in
theorem ggX12_gear_X10_init : GoodIn wsX12_gear wsX10_init := goodIn_ca (goodIn_q _ [29, 30, 31, 32, 33, 34, 35, 36, 37, 38, 39, 40, 41, 42, 43] rfl (by decide +kernel)) (goodIn_sub (fun _ h => (List.mem_cons_of_mem _ (List.mem_append_left _ (List.mem_append_right _ h)))) tg_wsX100)
set_option maxRecDepth 20000 in
theorem gX12_gear_X10_init : GoodIn wsX12_gear (wsX10_init) := ggX12_gear_X10_init
set_option maxRecDepth 20000 in
theorem ggX12_gear_Jx4a65c_add_9ea2d : GoodIn wsX12_gear wsJx4a65c_add_9ea2d := goodIn_ca (goodIn_q _ [47, 48, 49, 50, 26, 51, 52, 53, 24, 54, 55, 56, 57, 58, 59, 60, 61, 62, 63, 64, 65, 66, 67, 68, 69, 70, 71, 72, 73, 74, 75, 76, 77, 78, 79, 80, 81, 82, 83, 84, 85, 86, 87, 88, 89, 90, 91, 92, 93, 94, 95, 96, 97] rfl (by decide +kernel)) (goodIn_sub (fun _ h => (List.mem_cons_of_mem _ (List.mem_append_right _ h))) tg_wsJx4a65c0)
set_option maxRecDepth 20000 in
theorem gX12_gear_Jx4a65c_add_9ea2d : GoodIn wsX12_gear (wsV RX12 149 RJx4a65c yJx4a65c_add_9ea2d wsJx4a65c_add_9ea2d) := goodIn_app (goodIn_q _ [44, 45, 46, 24] rfl (by decide +kernel)) ggX12_gear_Jx4a65c_add_9ea2d
set_option maxRecDepth 20000 in
theorem ggX12_gear_X12_answer : GoodIn wsX12_gear wsX12_answer := goodIn_ca (goodIn_q _ [101, 20] rfl (by decide +kernel)) (goodIn_sub (fun _ h => (List.mem_cons_of_mem _ (List.mem_append_left _ (List.mem_append_left _ (List.mem_append_right _ h))))) tg_wsX120)
set_option maxRecDepth 20000 in
theorem gX12_gear_X12_answer : GoodIn wsX12_gear (wsV RX12 153 RX12 yX12_answer wsX12_answer) := goodIn_app (goodIn_q _ [98, 99, 100, 14] rfl (by decide +kernel)) ggX12_gear_X12_answer
def dsX12_gear_0 : ByteArray := ⟨#[27, 133, 20, 0, 129, 20, 0, 131, 184, 0, 101, 153, 0, 46, 28, 133, 20, 0, 133, 20, 0, 135]⟩
theorem daX12_gear_0 : agB cX12_gear dsX12_gear_0 0 := agB_of (n := 22) (by decide +kernel)
theorem dbX12_gear_0 : (decode dsX12_gear_0 0 = .ok (.iload_n 1, 1) ∧ okop dsX12_gear_0 0 = true) ∧ (decode dsX12_gear_0 1 = .ok (.i2l, 1) ∧ okop dsX12_gear_0 1 = true) ∧ (decode dsX12_gear_0 2 = .ok (.ldc2_w 129, 3) ∧ okop dsX12_gear_0 2 = true) ∧ (decode dsX12_gear_0 5 = .ok (.ldc2_w 131, 3) ∧ okop dsX12_gear_0 5 = true) ∧ (decode dsX12_gear_0 8 = .ok (.invokestatic 101, 3) ∧ okop dsX12_gear_0 8 = true) ∧ (decode dsX12_gear_0 11 = .ok (.ifCond .eq 46, 3) ∧ okop dsX12_gear_0 11 = true) ∧ (decode dsX12_gear_0 14 = .ok (.iload_n 2, 1) ∧ okop dsX12_gear_0 14 = true) ∧ (decode dsX12_gear_0 15 = .ok (.i2l, 1) ∧ okop dsX12_gear_0 15 = true) ∧ (decode dsX12_gear_0 16 = .ok (.ldc2_w 133, 3) ∧ okop dsX12_gear_0 16 = true) ∧ (decode dsX12_gear_0 19 = .ok (.ldc2_w 135, 3) ∧ okop dsX12_gear_0 19 = true) := by decide +kernel
theorem dX12_gear_0 : decode cX12_gear 0 = .ok (.iload_n 1, 1) := dgq (p := 0) daX12_gear_0 dbX12_gear_0.1
theorem dX12_gear_1 : decode cX12_gear 1 = .ok (.i2l, 1) := dgq (p := 1) daX12_gear_0 dbX12_gear_0.2.1
theorem dX12_gear_2 : decode cX12_gear 2 = .ok (.ldc2_w 129, 3) := dgq (p := 2) daX12_gear_0 dbX12_gear_0.2.2.1
theorem dX12_gear_5 : decode cX12_gear 5 = .ok (.ldc2_w 131, 3) := dgq (p := 5) daX12_gear_0 dbX12_gear_0.2.2.2.1
theorem dX12_gear_8 : decode cX12_gear 8 = .ok (.invokestatic 101, 3) := dgq (p := 8) daX12_gear_0 dbX12_gear_0.2.2.2.2.1
theorem dX12_gear_11 : decode cX12_gear 11 = .ok (.ifCond .eq 46, 3) := dgq (p := 11) daX12_gear_0 dbX12_gear_0.2.2.2.2.2.1
theorem dX12_gear_14 : decode cX12_gear 14 = .ok (.iload_n 2, 1) := dgq (p := 14) daX12_gear_0 dbX12_gear_0.2.2.2.2.2.2.1
theorem dX12_gear_15 : decode cX12_gear 15 = .ok (.i2l, 1) := dgq (p := 15) daX12_gear_0 dbX12_gear_0.2.2.2.2.2.2.2.1
theorem dX12_gear_16 : decode cX12_gear 16 = .ok (.ldc2_w 133, 3) := dgq (p := 16) daX12_gear_0 dbX12_gear_0.2.2.2.2.2.2.2.2.1
theorem dX12_gear_19 : decode cX12_gear 19 = .ok (.ldc2_w 135, 3) := dgq (p := 19) daX12_gear_0 dbX12_gear_0.2.2.2.2.2.2.2.2.2
def dsX12_gear_22 : ByteArray := ⟨#[184, 0, 101, 153, 0, 32, 29, 133, 20, 0, 137, 20, 0, 133, 184, 0, 101, 153, 0, 18, 21, 4, 133]⟩
theorem daX12_gear_22 : agB cX12_gear dsX12_gear_22 22 := agB_of (n := 23) (by decide +kernel)
theorem dbX12_gear_22 : (decode dsX12_gear_22 0 = .ok (.invokestatic 101, 3) ∧ okop dsX12_gear_22 0 = true) ∧ (decode dsX12_gear_22 3 = .ok (.ifCond .eq 32, 3) ∧ okop dsX12_gear_22 3 = true) ∧ (decode dsX12_gear_22 6 = .ok (.iload_n 3, 1) ∧ okop dsX12_gear_22 6 = true) ∧ (decode dsX12_gear_22 7 = .ok (.i2l, 1) ∧ okop dsX12_gear_22 7 = true) ∧ (decode dsX12_gear_22 8 = .ok (.ldc2_w 137, 3) ∧ okop dsX12_gear_22 8 = true) ∧ (decode dsX12_gear_22 11 = .ok (.ldc2_w 133, 3) ∧ okop dsX12_gear_22 11 = true) ∧ (decode dsX12_gear_22 14 = .ok (.invokestatic 101, 3) ∧ okop dsX12_gear_22 14 = true) ∧ (decode dsX12_gear_22 17 = .ok (.ifCond .eq 18, 3) ∧ okop dsX12_gear_22 17 = true) ∧ (decode dsX12_gear_22 20 = .ok (.iload 4, 2) ∧ okop dsX12_gear_22 20 = true) ∧ (decode dsX12_gear_22 22 = .ok (.i2l, 1) ∧ okop dsX12_gear_22 22 = true) := by decide +kernel
theorem dX12_gear_22 : decode cX12_gear 22 = .ok (.invokestatic 101, 3) := dgq (p := 0) daX12_gear_22 dbX12_gear_22.1
theorem dX12_gear_25 : decode cX12_gear 25 = .ok (.ifCond .eq 32, 3) := dgq (p := 3) daX12_gear_22 dbX12_gear_22.2.1
theorem dX12_gear_28 : decode cX12_gear 28 = .ok (.iload_n 3, 1) := dgq (p := 6) daX12_gear_22 dbX12_gear_22.2.2.1
theorem dX12_gear_29 : decode cX12_gear 29 = .ok (.i2l, 1) := dgq (p := 7) daX12_gear_22 dbX12_gear_22.2.2.2.1
theorem dX12_gear_30 : decode cX12_gear 30 = .ok (.ldc2_w 137, 3) := dgq (p := 8) daX12_gear_22 dbX12_gear_22.2.2.2.2.1
theorem dX12_gear_33 : decode cX12_gear 33 = .ok (.ldc2_w 133, 3) := dgq (p := 11) daX12_gear_22 dbX12_gear_22.2.2.2.2.2.1
theorem dX12_gear_36 : decode cX12_gear 36 = .ok (.invokestatic 101, 3) := dgq (p := 14) daX12_gear_22 dbX12_gear_22.2.2.2.2.2.2.1
theorem dX12_gear_39 : decode cX12_gear 39 = .ok (.ifCond .eq 18, 3) := dgq (p := 17) daX12_gear_22 dbX12_gear_22.2.2.2.2.2.2.2.1
theorem dX12_gear_42 : decode cX12_gear 42 = .ok (.iload 4, 2) := dgq (p := 20) daX12_gear_22 dbX12_gear_22.2.2.2.2.2.2.2.2.1
theorem dX12_gear_44 : decode cX12_gear 44 = .ok (.i2l, 1) := dgq (p := 22) daX12_gear_22 dbX12_gear_22.2.2.2.2.2.2.2.2.2
def dsX12_gear_45 : ByteArray := ⟨#[20, 0, 139, 20, 0, 141, 184, 0, 101, 154, 0, 9, 42, 4, 182, 0, 143, 172, 42, 180, 0, 24]⟩
theorem daX12_gear_45 : agB cX12_gear dsX12_gear_45 45 := agB_of (n := 22) (by decide +kernel)
theorem dbX12_gear_45 : (decode dsX12_gear_45 0 = .ok (.ldc2_w 139, 3) ∧ okop dsX12_gear_45 0 = true) ∧ (decode dsX12_gear_45 3 = .ok (.ldc2_w 141, 3) ∧ okop dsX12_gear_45 3 = true) ∧ (decode dsX12_gear_45 6 = .ok (.invokestatic 101, 3) ∧ okop dsX12_gear_45 6 = true) ∧ (decode dsX12_gear_45 9 = .ok (.ifCond .ne 9, 3) ∧ okop dsX12_gear_45 9 = true) ∧ (decode dsX12_gear_45 12 = .ok (.aload_n 0, 1) ∧ okop dsX12_gear_45 12 = true) ∧ (decode dsX12_gear_45 13 = .ok (.iconst 1, 1) ∧ okop dsX12_gear_45 13 = true) ∧ (decode dsX12_gear_45 14 = .ok (.invokevirtual 143, 3) ∧ okop dsX12_gear_45 14 = true) ∧ (decode dsX12_gear_45 17 = .ok (.ireturn, 1) ∧ okop dsX12_gear_45 17 = true) ∧ (decode dsX12_gear_45 18 = .ok (.aload_n 0, 1) ∧ okop dsX12_gear_45 18 = true) ∧ (decode dsX12_gear_45 19 = .ok (.getfield 24, 3) ∧ okop dsX12_gear_45 19 = true) := by decide +kernel
theorem dX12_gear_45 : decode cX12_gear 45 = .ok (.ldc2_w 139, 3) := dgq (p := 0) daX12_gear_45 dbX12_gear_45.1
theorem dX12_gear_48 : decode cX12_gear 48 = .ok (.ldc2_w 141, 3) := dgq (p := 3) daX12_gear_45 dbX12_gear_45.2.1
theorem dX12_gear_51 : decode cX12_gear 51 = .ok (.invokestatic 101, 3) := dgq (p := 6) daX12_gear_45 dbX12_gear_45.2.2.1
theorem dX12_gear_54 : decode cX12_gear 54 = .ok (.ifCond .ne 9, 3) := dgq (p := 9) daX12_gear_45 dbX12_gear_45.2.2.2.1
theorem dX12_gear_57 : decode cX12_gear 57 = .ok (.aload_n 0, 1) := dgq (p := 12) daX12_gear_45 dbX12_gear_45.2.2.2.2.1
theorem dX12_gear_58 : decode cX12_gear 58 = .ok (.iconst 1, 1) := dgq (p := 13) daX12_gear_45 dbX12_gear_45.2.2.2.2.2.1
theorem dX12_gear_59 : decode cX12_gear 59 = .ok (.invokevirtual 143, 3) := dgq (p := 14) daX12_gear_45 dbX12_gear_45.2.2.2.2.2.2.1
theorem dX12_gear_62 : decode cX12_gear 62 = .ok (.ireturn, 1) := dgq (p := 17) daX12_gear_45 dbX12_gear_45.2.2.2.2.2.2.2.1
theorem dX12_gear_63 : decode cX12_gear 63 = .ok (.aload_n 0, 1) := dgq (p := 18) daX12_gear_45 dbX12_gear_45.2.2.2.2.2.2.2.2.1
theorem dX12_gear_64 : decode cX12_gear 64 = .ok (.getfield 24, 3) := dgq (p := 19) daX12_gear_45 dbX12_gear_45.2.2.2.2.2.2.2.2.2
def dsX12_gear_67 : ByteArray := ⟨#[182, 0, 97, 16, 20, 160, 0, 9, 42, 5, 182, 0, 143, 172, 42, 180, 0, 24, 187, 0, 109]⟩
theorem daX12_gear_67 : agB cX12_gear dsX12_gear_67 67 := agB_of (n := 21) (by decide +kernel)
theorem dbX12_gear_67 : (decode dsX12_gear_67 0 = .ok (.invokevirtual 97, 3) ∧ okop dsX12_gear_67 0 = true) ∧ (decode dsX12_gear_67 3 = .ok (.bipush 20, 2) ∧ okop dsX12_gear_67 3 = true) ∧ (decode dsX12_gear_67 5 = .ok (.if_icmp .ne 9, 3) ∧ okop dsX12_gear_67 5 = true) ∧ (decode dsX12_gear_67 8 = .ok (.aload_n 0, 1) ∧ okop dsX12_gear_67 8 = true) ∧ (decode dsX12_gear_67 9 = .ok (.iconst 2, 1) ∧ okop dsX12_gear_67 9 = true) ∧ (decode dsX12_gear_67 10 = .ok (.invokevirtual 143, 3) ∧ okop dsX12_gear_67 10 = true) ∧ (decode dsX12_gear_67 13 = .ok (.ireturn, 1) ∧ okop dsX12_gear_67 13 = true) ∧ (decode dsX12_gear_67 14 = .ok (.aload_n 0, 1) ∧ okop dsX12_gear_67 14 = true) ∧ (decode dsX12_gear_67 15 = .ok (.getfield 24, 3) ∧ okop dsX12_gear_67 15 = true) ∧ (decode dsX12_gear_67 18 = .ok (.new 109, 3) ∧ okop dsX12_gear_67 18 = true) := by decide +kernel
theorem dX12_gear_67 : decode cX12_gear 67 = .ok (.invokevirtual 97, 3) := dgq (p := 0) daX12_gear_67 dbX12_gear_67.1
theorem dX12_gear_70 : decode cX12_gear 70 = .ok (.bipush 20, 2) := dgq (p := 3) daX12_gear_67 dbX12_gear_67.2.1
theorem dX12_gear_72 : decode cX12_gear 72 = .ok (.if_icmp .ne 9, 3) := dgq (p := 5) daX12_gear_67 dbX12_gear_67.2.2.1
theorem dX12_gear_75 : decode cX12_gear 75 = .ok (.aload_n 0, 1) := dgq (p := 8) daX12_gear_67 dbX12_gear_67.2.2.2.1
theorem dX12_gear_76 : decode cX12_gear 76 = .ok (.iconst 2, 1) := dgq (p := 9) daX12_gear_67 dbX12_gear_67.2.2.2.2.1
theorem dX12_gear_77 : decode cX12_gear 77 = .ok (.invokevirtual 143, 3) := dgq (p := 10) daX12_gear_67 dbX12_gear_67.2.2.2.2.2.1
theorem dX12_gear_80 : decode cX12_gear 80 = .ok (.ireturn, 1) := dgq (p := 13) daX12_gear_67 dbX12_gear_67.2.2.2.2.2.2.1
theorem dX12_gear_81 : decode cX12_gear 81 = .ok (.aload_n 0, 1) := dgq (p := 14) daX12_gear_67 dbX12_gear_67.2.2.2.2.2.2.2.1
theorem dX12_gear_82 : decode cX12_gear 82 = .ok (.getfield 24, 3) := dgq (p := 15) daX12_gear_67 dbX12_gear_67.2.2.2.2.2.2.2.2.1
theorem dX12_gear_85 : decode cX12_gear 85 = .ok (.new 109, 3) := dgq (p := 18) daX12_gear_67 dbX12_gear_67.2.2.2.2.2.2.2.2.2
def dsX12_gear_88 : ByteArray := ⟨#[89, 42, 180, 0, 24, 182, 0, 97, 27, 28, 29, 21, 4, 183, 0, 146, 182, 0, 149]⟩
theorem daX12_gear_88 : agB cX12_gear dsX12_gear_88 88 := agB_of (n := 19) (by decide +kernel)
theorem dbX12_gear_88 : (decode dsX12_gear_88 0 = .ok (.dup, 1) ∧ okop dsX12_gear_88 0 = true) ∧ (decode dsX12_gear_88 1 = .ok (.aload_n 0, 1) ∧ okop dsX12_gear_88 1 = true) ∧ (decode dsX12_gear_88 2 = .ok (.getfield 24, 3) ∧ okop dsX12_gear_88 2 = true) ∧ (decode dsX12_gear_88 5 = .ok (.invokevirtual 97, 3) ∧ okop dsX12_gear_88 5 = true) ∧ (decode dsX12_gear_88 8 = .ok (.iload_n 1, 1) ∧ okop dsX12_gear_88 8 = true) ∧ (decode dsX12_gear_88 9 = .ok (.iload_n 2, 1) ∧ okop dsX12_gear_88 9 = true) ∧ (decode dsX12_gear_88 10 = .ok (.iload_n 3, 1) ∧ okop dsX12_gear_88 10 = true) ∧ (decode dsX12_gear_88 11 = .ok (.iload 4, 2) ∧ okop dsX12_gear_88 11 = true) ∧ (decode dsX12_gear_88 13 = .ok (.invokespecial 146, 3) ∧ okop dsX12_gear_88 13 = true) ∧ (decode dsX12_gear_88 16 = .ok (.invokevirtual 149, 3) ∧ okop dsX12_gear_88 16 = true) := by decide +kernel
theorem dX12_gear_88 : decode cX12_gear 88 = .ok (.dup, 1) := dgq (p := 0) daX12_gear_88 dbX12_gear_88.1
theorem dX12_gear_89 : decode cX12_gear 89 = .ok (.aload_n 0, 1) := dgq (p := 1) daX12_gear_88 dbX12_gear_88.2.1
theorem dX12_gear_90 : decode cX12_gear 90 = .ok (.getfield 24, 3) := dgq (p := 2) daX12_gear_88 dbX12_gear_88.2.2.1
theorem dX12_gear_93 : decode cX12_gear 93 = .ok (.invokevirtual 97, 3) := dgq (p := 5) daX12_gear_88 dbX12_gear_88.2.2.2.1
theorem dX12_gear_96 : decode cX12_gear 96 = .ok (.iload_n 1, 1) := dgq (p := 8) daX12_gear_88 dbX12_gear_88.2.2.2.2.1
theorem dX12_gear_97 : decode cX12_gear 97 = .ok (.iload_n 2, 1) := dgq (p := 9) daX12_gear_88 dbX12_gear_88.2.2.2.2.2.1
theorem dX12_gear_98 : decode cX12_gear 98 = .ok (.iload_n 3, 1) := dgq (p := 10) daX12_gear_88 dbX12_gear_88.2.2.2.2.2.2.1
theorem dX12_gear_99 : decode cX12_gear 99 = .ok (.iload 4, 2) := dgq (p := 11) daX12_gear_88 dbX12_gear_88.2.2.2.2.2.2.2.1
theorem dX12_gear_101 : decode cX12_gear 101 = .ok (.invokespecial 146, 3) := dgq (p := 13) daX12_gear_88 dbX12_gear_88.2.2.2.2.2.2.2.2.1
theorem dX12_gear_104 : decode cX12_gear 104 = .ok (.invokevirtual 149, 3) := dgq (p := 16) daX12_gear_88 dbX12_gear_88.2.2.2.2.2.2.2.2.2
def dsX12_gear_107 : ByteArray := ⟨#[87, 42, 42, 180, 0, 24, 182, 0, 97, 4, 100, 182, 0, 153, 172]⟩
theorem daX12_gear_107 : agB cX12_gear dsX12_gear_107 107 := agB_of (n := 15) (by decide +kernel)
theorem dbX12_gear_107 : (decode dsX12_gear_107 0 = .ok (.pop, 1) ∧ okop dsX12_gear_107 0 = true) ∧ (decode dsX12_gear_107 1 = .ok (.aload_n 0, 1) ∧ okop dsX12_gear_107 1 = true) ∧ (decode dsX12_gear_107 2 = .ok (.aload_n 0, 1) ∧ okop dsX12_gear_107 2 = true) ∧ (decode dsX12_gear_107 3 = .ok (.getfield 24, 3) ∧ okop dsX12_gear_107 3 = true) ∧ (decode dsX12_gear_107 6 = .ok (.invokevirtual 97, 3) ∧ okop dsX12_gear_107 6 = true) ∧ (decode dsX12_gear_107 9 = .ok (.iconst 1, 1) ∧ okop dsX12_gear_107 9 = true) ∧ (decode dsX12_gear_107 10 = .ok (.isub, 1) ∧ okop dsX12_gear_107 10 = true) ∧ (decode dsX12_gear_107 11 = .ok (.invokevirtual 153, 3) ∧ okop dsX12_gear_107 11 = true) ∧ (decode dsX12_gear_107 14 = .ok (.ireturn, 1) ∧ okop dsX12_gear_107 14 = true) := by decide +kernel
theorem dX12_gear_107 : decode cX12_gear 107 = .ok (.pop, 1) := dgq (p := 0) daX12_gear_107 dbX12_gear_107.1
theorem dX12_gear_108 : decode cX12_gear 108 = .ok (.aload_n 0, 1) := dgq (p := 1) daX12_gear_107 dbX12_gear_107.2.1
theorem dX12_gear_109 : decode cX12_gear 109 = .ok (.aload_n 0, 1) := dgq (p := 2) daX12_gear_107 dbX12_gear_107.2.2.1
theorem dX12_gear_110 : decode cX12_gear 110 = .ok (.getfield 24, 3) := dgq (p := 3) daX12_gear_107 dbX12_gear_107.2.2.2.1
theorem dX12_gear_113 : decode cX12_gear 113 = .ok (.invokevirtual 97, 3) := dgq (p := 6) daX12_gear_107 dbX12_gear_107.2.2.2.2.1
theorem dX12_gear_116 : decode cX12_gear 116 = .ok (.iconst 1, 1) := dgq (p := 9) daX12_gear_107 dbX12_gear_107.2.2.2.2.2.1
theorem dX12_gear_117 : decode cX12_gear 117 = .ok (.isub, 1) := dgq (p := 10) daX12_gear_107 dbX12_gear_107.2.2.2.2.2.2.1
theorem dX12_gear_118 : decode cX12_gear 118 = .ok (.invokevirtual 153, 3) := dgq (p := 11) daX12_gear_107 dbX12_gear_107.2.2.2.2.2.2.2.1
theorem dX12_gear_121 : decode cX12_gear 121 = .ok (.ireturn, 1) := dgq (p := 14) daX12_gear_107 dbX12_gear_107.2.2.2.2.2.2.2.2
set_option maxRecDepth 20000 in
theorem ggX12_setShift_X12_isGear : GoodIn wsX12_setShift wsX12_isGear := goodIn_ca (goodIn_ca (goodIn_q _ [7, 8, 9, 10, 11, 12, 13, 14, 15, 16, 6, 17] rfl (by decide +kernel)) (goodIn_sub (fun _ h => (List.mem_cons_of_mem _ (List.mem_append_left _ (List.mem_append_right _ h)))) tg_wsX120)) (goodIn_sub (fun _ h => (List.mem_cons_of_mem _ (List.mem_append_right _ h))) tg_wsJx4a65c0)
set_option maxRecDepth 20000 in
theorem gX12_setShift_X12_isGear : GoodIn wsX12_setShift (wsV RX12 121 RX12 yX12_isGear wsX12_isGear) := goodIn_app (goodIn_q _ [3, 4, 5, 6] rfl (by decide +kernel)) ggX12_setShift_X12_isGear
set_option maxRecDepth 20000 in
theorem ggX12_setShift_X12_fails : GoodIn wsX12_setShift wsX12_fails := goodIn_ca (goodIn_q _ [21, 22] rfl (by decide +kernel)) (goodIn_sub (fun _ h => (List.mem_cons_of_mem _ (List.mem_append_left _ (List.mem_append_right _ h)))) tg_wsX120)
set_option maxRecDepth 20000 in
theorem gX12_setShift_X12_fails : GoodIn wsX12_setShift (wsV RX12 143 RX12 yX12_fails wsX12_fails) := goodIn_app (goodIn_q _ [18, 19, 20, 6] rfl (by decide +kernel)) ggX12_setShift_X12_fails
set_option maxRecDepth 20000 in
theorem ggX12_setShift_X12_in : GoodIn wsX12_setShift wsX12_in := goodIn_q _ [17] rfl (by decide +kernel)
set_option maxRecDepth 20000 in
theorem gX12_setShift_X12_in : GoodIn wsX12_setShift (va_wsS RX12 101 yX12_in wsX12_in) := goodIn_app (goodIn_q _ [15, 16, 6] rfl (by decide +kernel)) ggX12_setShift_X12_in
set_option maxRecDepth 20000 in
theorem ggX12_setShift_X12_gearAt : GoodIn wsX12_setShift wsX12_gearAt := goodIn_ca (goodIn_ca (goodIn_q _ [26, 8, 27, 28, 29, 30, 12, 31, 14, 32, 33, 34, 35, 36, 37, 38, 39, 40, 41, 42, 43, 44] rfl (by decide +kernel)) (goodIn_sub (fun _ h => (List.mem_cons_of_mem _ (List.mem_append_left _ (List.mem_append_right _ h)))) tg_wsX120)) (goodIn_sub (fun _ h => (List.mem_cons_of_mem _ (List.mem_append_right _ h))) tg_wsJx4a65c0)
set_option maxRecDepth 20000 in
theorem gX12_setShift_X12_gearAt : GoodIn wsX12_setShift (wsV RX12 111 RX12 yX12_gearAt wsX12_gearAt) := goodIn_app (goodIn_q _ [23, 24, 25, 6] rfl (by decide +kernel)) ggX12_setShift_X12_gearAt
set_option maxRecDepth 20000 in
theorem ggX12_setShift_X12_answer : GoodIn wsX12_setShift wsX12_answer := goodIn_ca (goodIn_q _ [48, 22] rfl (by decide +kernel)) (goodIn_sub (fun _ h => (List.mem_cons_of_mem _ (List.mem_append_left _ (List.mem_append_right _ h)))) tg_wsX120)
set_option maxRecDepth 20000 in
theorem gX12_setShift_X12_answer : GoodIn wsX12_setShift (wsV RX12 153 RX12 yX12_answer wsX12_answer) := goodIn_app (goodIn_q _ [45, 46, 47, 6] rfl (by decide +kernel)) ggX12_setShift_X12_answer
def dsX12_setShift_0 : ByteArray := ⟨#[42, 27, 182, 0, 121, 154, 0, 9, 42, 4, 182, 0, 143, 172, 28, 133]⟩
theorem daX12_setShift_0 : agB cX12_setShift dsX12_setShift_0 0 := agB_of (n := 16) (by decide +kernel)
theorem dbX12_setShift_0 : (decode dsX12_setShift_0 0 = .ok (.aload_n 0, 1) ∧ okop dsX12_setShift_0 0 = true) ∧ (decode dsX12_setShift_0 1 = .ok (.iload_n 1, 1) ∧ okop dsX12_setShift_0 1 = true) ∧ (decode dsX12_setShift_0 2 = .ok (.invokevirtual 121, 3) ∧ okop dsX12_setShift_0 2 = true) ∧ (decode dsX12_setShift_0 5 = .ok (.ifCond .ne 9, 3) ∧ okop dsX12_setShift_0 5 = true) ∧ (decode dsX12_setShift_0 8 = .ok (.aload_n 0, 1) ∧ okop dsX12_setShift_0 8 = true) ∧ (decode dsX12_setShift_0 9 = .ok (.iconst 1, 1) ∧ okop dsX12_setShift_0 9 = true) ∧ (decode dsX12_setShift_0 10 = .ok (.invokevirtual 143, 3) ∧ okop dsX12_setShift_0 10 = true) ∧ (decode dsX12_setShift_0 13 = .ok (.ireturn, 1) ∧ okop dsX12_setShift_0 13 = true) ∧ (decode dsX12_setShift_0 14 = .ok (.iload_n 2, 1) ∧ okop dsX12_setShift_0 14 = true) ∧ (decode dsX12_setShift_0 15 = .ok (.i2l, 1) ∧ okop dsX12_setShift_0 15 = true) := by decide +kernel
theorem dX12_setShift_0 : decode cX12_setShift 0 = .ok (.aload_n 0, 1) := dgq (p := 0) daX12_setShift_0 dbX12_setShift_0.1
theorem dX12_setShift_1 : decode cX12_setShift 1 = .ok (.iload_n 1, 1) := dgq (p := 1) daX12_setShift_0 dbX12_setShift_0.2.1
theorem dX12_setShift_2 : decode cX12_setShift 2 = .ok (.invokevirtual 121, 3) := dgq (p := 2) daX12_setShift_0 dbX12_setShift_0.2.2.1
theorem dX12_setShift_5 : decode cX12_setShift 5 = .ok (.ifCond .ne 9, 3) := dgq (p := 5) daX12_setShift_0 dbX12_setShift_0.2.2.2.1
theorem dX12_setShift_8 : decode cX12_setShift 8 = .ok (.aload_n 0, 1) := dgq (p := 8) daX12_setShift_0 dbX12_setShift_0.2.2.2.2.1
theorem dX12_setShift_9 : decode cX12_setShift 9 = .ok (.iconst 1, 1) := dgq (p := 9) daX12_setShift_0 dbX12_setShift_0.2.2.2.2.2.1
theorem dX12_setShift_10 : decode cX12_setShift 10 = .ok (.invokevirtual 143, 3) := dgq (p := 10) daX12_setShift_0 dbX12_setShift_0.2.2.2.2.2.2.1
theorem dX12_setShift_13 : decode cX12_setShift 13 = .ok (.ireturn, 1) := dgq (p := 13) daX12_setShift_0 dbX12_setShift_0.2.2.2.2.2.2.2.1
theorem dX12_setShift_14 : decode cX12_setShift 14 = .ok (.iload_n 2, 1) := dgq (p := 14) daX12_setShift_0 dbX12_setShift_0.2.2.2.2.2.2.2.2.1
theorem dX12_setShift_15 : decode cX12_setShift 15 = .ok (.i2l, 1) := dgq (p := 15) daX12_setShift_0 dbX12_setShift_0.2.2.2.2.2.2.2.2.2
def dsX12_setShift_16 : ByteArray := ⟨#[20, 0, 156, 20, 0, 158, 184, 0, 101, 154, 0, 9, 42, 5, 182, 0, 143, 172, 42, 27]⟩
theorem daX12_setShift_16 : agB cX12_setShift dsX12_setShift_16 16 := agB_of (n := 20) (by decide +kernel)
theorem dbX12_setShift_16 : (decode dsX12_setShift_16 0 = .ok (.ldc2_w 156, 3) ∧ okop dsX12_setShift_16 0 = true) ∧ (decode dsX12_setShift_16 3 = .ok (.ldc2_w 158, 3) ∧ okop dsX12_setShift_16 3 = true) ∧ (decode dsX12_setShift_16 6 = .ok (.invokestatic 101, 3) ∧ okop dsX12_setShift_16 6 = true) ∧ (decode dsX12_setShift_16 9 = .ok (.ifCond .ne 9, 3) ∧ okop dsX12_setShift_16 9 = true) ∧ (decode dsX12_setShift_16 12 = .ok (.aload_n 0, 1) ∧ okop dsX12_setShift_16 12 = true) ∧ (decode dsX12_setShift_16 13 = .ok (.iconst 2, 1) ∧ okop dsX12_setShift_16 13 = true) ∧ (decode dsX12_setShift_16 14 = .ok (.invokevirtual 143, 3) ∧ okop dsX12_setShift_16 14 = true) ∧ (decode dsX12_setShift_16 17 = .ok (.ireturn, 1) ∧ okop dsX12_setShift_16 17 = true) ∧ (decode dsX12_setShift_16 18 = .ok (.aload_n 0, 1) ∧ okop dsX12_setShift_16 18 = true) ∧ (decode dsX12_setShift_16 19 = .ok (.iload_n 1, 1) ∧ okop dsX12_setShift_16 19 = true) := by decide +kernel
theorem dX12_setShift_16 : decode cX12_setShift 16 = .ok (.ldc2_w 156, 3) := dgq (p := 0) daX12_setShift_16 dbX12_setShift_16.1
theorem dX12_setShift_19 : decode cX12_setShift 19 = .ok (.ldc2_w 158, 3) := dgq (p := 3) daX12_setShift_16 dbX12_setShift_16.2.1
theorem dX12_setShift_22 : decode cX12_setShift 22 = .ok (.invokestatic 101, 3) := dgq (p := 6) daX12_setShift_16 dbX12_setShift_16.2.2.1
theorem dX12_setShift_25 : decode cX12_setShift 25 = .ok (.ifCond .ne 9, 3) := dgq (p := 9) daX12_setShift_16 dbX12_setShift_16.2.2.2.1
theorem dX12_setShift_28 : decode cX12_setShift 28 = .ok (.aload_n 0, 1) := dgq (p := 12) daX12_setShift_16 dbX12_setShift_16.2.2.2.2.1
theorem dX12_setShift_29 : decode cX12_setShift 29 = .ok (.iconst 2, 1) := dgq (p := 13) daX12_setShift_16 dbX12_setShift_16.2.2.2.2.2.1
theorem dX12_setShift_30 : decode cX12_setShift 30 = .ok (.invokevirtual 143, 3) := dgq (p := 14) daX12_setShift_16 dbX12_setShift_16.2.2.2.2.2.2.1
theorem dX12_setShift_33 : decode cX12_setShift 33 = .ok (.ireturn, 1) := dgq (p := 17) daX12_setShift_16 dbX12_setShift_16.2.2.2.2.2.2.2.1
theorem dX12_setShift_34 : decode cX12_setShift 34 = .ok (.aload_n 0, 1) := dgq (p := 18) daX12_setShift_16 dbX12_setShift_16.2.2.2.2.2.2.2.2.1
theorem dX12_setShift_35 : decode cX12_setShift 35 = .ok (.iload_n 1, 1) := dgq (p := 19) daX12_setShift_16 dbX12_setShift_16.2.2.2.2.2.2.2.2.2
def dsX12_setShift_36 : ByteArray := ⟨#[182, 0, 111, 180, 0, 160, 153, 0, 9, 42, 6, 182, 0, 143, 172, 42, 27, 182, 0, 111]⟩
theorem daX12_setShift_36 : agB cX12_setShift dsX12_setShift_36 36 := agB_of (n := 20) (by decide +kernel)
theorem dbX12_setShift_36 : (decode dsX12_setShift_36 0 = .ok (.invokevirtual 111, 3) ∧ okop dsX12_setShift_36 0 = true) ∧ (decode dsX12_setShift_36 3 = .ok (.getfield 160, 3) ∧ okop dsX12_setShift_36 3 = true) ∧ (decode dsX12_setShift_36 6 = .ok (.ifCond .eq 9, 3) ∧ okop dsX12_setShift_36 6 = true) ∧ (decode dsX12_setShift_36 9 = .ok (.aload_n 0, 1) ∧ okop dsX12_setShift_36 9 = true) ∧ (decode dsX12_setShift_36 10 = .ok (.iconst 3, 1) ∧ okop dsX12_setShift_36 10 = true) ∧ (decode dsX12_setShift_36 11 = .ok (.invokevirtual 143, 3) ∧ okop dsX12_setShift_36 11 = true) ∧ (decode dsX12_setShift_36 14 = .ok (.ireturn, 1) ∧ okop dsX12_setShift_36 14 = true) ∧ (decode dsX12_setShift_36 15 = .ok (.aload_n 0, 1) ∧ okop dsX12_setShift_36 15 = true) ∧ (decode dsX12_setShift_36 16 = .ok (.iload_n 1, 1) ∧ okop dsX12_setShift_36 16 = true) ∧ (decode dsX12_setShift_36 17 = .ok (.invokevirtual 111, 3) ∧ okop dsX12_setShift_36 17 = true) := by decide +kernel
theorem dX12_setShift_36 : decode cX12_setShift 36 = .ok (.invokevirtual 111, 3) := dgq (p := 0) daX12_setShift_36 dbX12_setShift_36.1
theorem dX12_setShift_39 : decode cX12_setShift 39 = .ok (.getfield 160, 3) := dgq (p := 3) daX12_setShift_36 dbX12_setShift_36.2.1
theorem dX12_setShift_42 : decode cX12_setShift 42 = .ok (.ifCond .eq 9, 3) := dgq (p := 6) daX12_setShift_36 dbX12_setShift_36.2.2.1
theorem dX12_setShift_45 : decode cX12_setShift 45 = .ok (.aload_n 0, 1) := dgq (p := 9) daX12_setShift_36 dbX12_setShift_36.2.2.2.1
theorem dX12_setShift_46 : decode cX12_setShift 46 = .ok (.iconst 3, 1) := dgq (p := 10) daX12_setShift_36 dbX12_setShift_36.2.2.2.2.1
theorem dX12_setShift_47 : decode cX12_setShift 47 = .ok (.invokevirtual 143, 3) := dgq (p := 11) daX12_setShift_36 dbX12_setShift_36.2.2.2.2.2.1
theorem dX12_setShift_50 : decode cX12_setShift 50 = .ok (.ireturn, 1) := dgq (p := 14) daX12_setShift_36 dbX12_setShift_36.2.2.2.2.2.2.1
theorem dX12_setShift_51 : decode cX12_setShift 51 = .ok (.aload_n 0, 1) := dgq (p := 15) daX12_setShift_36 dbX12_setShift_36.2.2.2.2.2.2.2.1
theorem dX12_setShift_52 : decode cX12_setShift 52 = .ok (.iload_n 1, 1) := dgq (p := 16) daX12_setShift_36 dbX12_setShift_36.2.2.2.2.2.2.2.2.1
theorem dX12_setShift_53 : decode cX12_setShift 53 = .ok (.invokevirtual 111, 3) := dgq (p := 17) daX12_setShift_36 dbX12_setShift_36.2.2.2.2.2.2.2.2.2
def dsX12_setShift_56 : ByteArray := ⟨#[180, 0, 164, 62, 42, 27, 182, 0, 111, 28, 181, 0, 164, 42, 29, 182, 0, 153]⟩
theorem daX12_setShift_56 : agB cX12_setShift dsX12_setShift_56 56 := agB_of (n := 18) (by decide +kernel)
theorem dbX12_setShift_56 : (decode dsX12_setShift_56 0 = .ok (.getfield 164, 3) ∧ okop dsX12_setShift_56 0 = true) ∧ (decode dsX12_setShift_56 3 = .ok (.istore_n 3, 1) ∧ okop dsX12_setShift_56 3 = true) ∧ (decode dsX12_setShift_56 4 = .ok (.aload_n 0, 1) ∧ okop dsX12_setShift_56 4 = true) ∧ (decode dsX12_setShift_56 5 = .ok (.iload_n 1, 1) ∧ okop dsX12_setShift_56 5 = true) ∧ (decode dsX12_setShift_56 6 = .ok (.invokevirtual 111, 3) ∧ okop dsX12_setShift_56 6 = true) ∧ (decode dsX12_setShift_56 9 = .ok (.iload_n 2, 1) ∧ okop dsX12_setShift_56 9 = true) ∧ (decode dsX12_setShift_56 10 = .ok (.putfield 164, 3) ∧ okop dsX12_setShift_56 10 = true) ∧ (decode dsX12_setShift_56 13 = .ok (.aload_n 0, 1) ∧ okop dsX12_setShift_56 13 = true) ∧ (decode dsX12_setShift_56 14 = .ok (.iload_n 3, 1) ∧ okop dsX12_setShift_56 14 = true) ∧ (decode dsX12_setShift_56 15 = .ok (.invokevirtual 153, 3) ∧ okop dsX12_setShift_56 15 = true) := by decide +kernel
theorem dX12_setShift_56 : decode cX12_setShift 56 = .ok (.getfield 164, 3) := dgq (p := 0) daX12_setShift_56 dbX12_setShift_56.1
theorem dX12_setShift_59 : decode cX12_setShift 59 = .ok (.istore_n 3, 1) := dgq (p := 3) daX12_setShift_56 dbX12_setShift_56.2.1
theorem dX12_setShift_60 : decode cX12_setShift 60 = .ok (.aload_n 0, 1) := dgq (p := 4) daX12_setShift_56 dbX12_setShift_56.2.2.1
theorem dX12_setShift_61 : decode cX12_setShift 61 = .ok (.iload_n 1, 1) := dgq (p := 5) daX12_setShift_56 dbX12_setShift_56.2.2.2.1
theorem dX12_setShift_62 : decode cX12_setShift 62 = .ok (.invokevirtual 111, 3) := dgq (p := 6) daX12_setShift_56 dbX12_setShift_56.2.2.2.2.1
theorem dX12_setShift_65 : decode cX12_setShift 65 = .ok (.iload_n 2, 1) := dgq (p := 9) daX12_setShift_56 dbX12_setShift_56.2.2.2.2.2.1
theorem dX12_setShift_66 : decode cX12_setShift 66 = .ok (.putfield 164, 3) := dgq (p := 10) daX12_setShift_56 dbX12_setShift_56.2.2.2.2.2.2.1
theorem dX12_setShift_69 : decode cX12_setShift 69 = .ok (.aload_n 0, 1) := dgq (p := 13) daX12_setShift_56 dbX12_setShift_56.2.2.2.2.2.2.2.1
theorem dX12_setShift_70 : decode cX12_setShift 70 = .ok (.iload_n 3, 1) := dgq (p := 14) daX12_setShift_56 dbX12_setShift_56.2.2.2.2.2.2.2.2.1
theorem dX12_setShift_71 : decode cX12_setShift 71 = .ok (.invokevirtual 153, 3) := dgq (p := 15) daX12_setShift_56 dbX12_setShift_56.2.2.2.2.2.2.2.2.2
theorem dX12_setShift_74 : decode cX12_setShift 74 = .ok (.ireturn, 1) := by decide +kernel
set_option maxRecDepth 20000 in
theorem ggX12_diameter_X12_isGear : GoodIn wsX12_diameter wsX12_isGear := goodIn_ca (goodIn_ca (goodIn_q _ [5, 6, 7, 8, 9, 10, 11, 12, 13, 14, 4, 15] rfl (by decide +kernel)) (goodIn_sub (fun _ h => (List.mem_cons_of_mem _ (List.mem_append_left _ (List.mem_append_left _ (List.mem_append_right _ h))))) tg_wsX120)) (goodIn_sub (fun _ h => (List.mem_cons_of_mem _ (List.mem_append_left _ (List.mem_append_right _ h)))) tg_wsJx4a65c0)
set_option maxRecDepth 20000 in
theorem gX12_diameter_X12_isGear : GoodIn wsX12_diameter (wsV RX12 121 RX12 yX12_isGear wsX12_isGear) := goodIn_app (goodIn_q _ [1, 2, 3, 4] rfl (by decide +kernel)) ggX12_diameter_X12_isGear
set_option maxRecDepth 20000 in
theorem ggX12_diameter_X12_gearAt : GoodIn wsX12_diameter wsX12_gearAt := goodIn_ca (goodIn_ca (goodIn_q _ [19, 6, 20, 21, 22, 23, 10, 24, 12, 25, 26, 27, 28, 29, 30, 31, 32, 33, 34, 35, 36, 37] rfl (by decide +kernel)) (goodIn_sub (fun _ h => (List.mem_cons_of_mem _ (List.mem_append_left _ (List.mem_append_left _ (List.mem_append_right _ h))))) tg_wsX120)) (goodIn_sub (fun _ h => (List.mem_cons_of_mem _ (List.mem_append_left _ (List.mem_append_right _ h)))) tg_wsJx4a65c0)
set_option maxRecDepth 20000 in
theorem gX12_diameter_X12_gearAt : GoodIn wsX12_diameter (wsV RX12 111 RX12 yX12_gearAt wsX12_gearAt) := goodIn_app (goodIn_q _ [16, 17, 18, 4] rfl (by decide +kernel)) ggX12_diameter_X12_gearAt
set_option maxRecDepth 20000 in
theorem ggX12_diameter_X10_across : GoodIn wsX12_diameter wsX10_across := goodIn_ca (goodIn_q _ [42, 43, 44] rfl (by decide +kernel)) (goodIn_sub (fun _ h => (List.mem_cons_of_mem _ (List.mem_append_right _ h))) tg_wsX100)
set_option maxRecDepth 20000 in
theorem gX12_diameter_X10_across : GoodIn wsX12_diameter (wsV RX12 167 RX10 yX10_across wsX10_across) := goodIn_app (goodIn_q _ [38, 39, 40, 41] rfl (by decide +kernel)) ggX12_diameter_X10_across
set_option maxRecDepth 20000 in
theorem ggX12_diameter_X12_answer : GoodIn wsX12_diameter wsX12_answer := goodIn_ca (goodIn_q _ [48, 49] rfl (by decide +kernel)) (goodIn_sub (fun _ h => (List.mem_cons_of_mem _ (List.mem_append_left _ (List.mem_append_left _ (List.mem_append_right _ h))))) tg_wsX120)
set_option maxRecDepth 20000 in
theorem gX12_diameter_X12_answer : GoodIn wsX12_diameter (wsV RX12 153 RX12 yX12_answer wsX12_answer) := goodIn_app (goodIn_q _ [45, 46, 47, 4] rfl (by decide +kernel)) ggX12_diameter_X12_answer
set_option maxRecDepth 20000 in
theorem ggX12_diameter_X12_fails : GoodIn wsX12_diameter wsX12_fails := goodIn_ca (goodIn_q _ [53, 49] rfl (by decide +kernel)) (goodIn_sub (fun _ h => (List.mem_cons_of_mem _ (List.mem_append_left _ (List.mem_append_left _ (List.mem_append_right _ h))))) tg_wsX120)
set_option maxRecDepth 20000 in
theorem gX12_diameter_X12_fails : GoodIn wsX12_diameter (wsV RX12 143 RX12 yX12_fails wsX12_fails) := goodIn_app (goodIn_q _ [50, 51, 52, 4] rfl (by decide +kernel)) ggX12_diameter_X12_fails
def dsX12_diameter_0 : ByteArray := ⟨#[42, 27, 182, 0, 121, 153, 0, 19, 42, 42, 27, 182, 0, 111, 182, 0, 167, 136]⟩
theorem daX12_diameter_0 : agB cX12_diameter dsX12_diameter_0 0 := agB_of (n := 18) (by decide +kernel)
theorem dbX12_diameter_0 : (decode dsX12_diameter_0 0 = .ok (.aload_n 0, 1) ∧ okop dsX12_diameter_0 0 = true) ∧ (decode dsX12_diameter_0 1 = .ok (.iload_n 1, 1) ∧ okop dsX12_diameter_0 1 = true) ∧ (decode dsX12_diameter_0 2 = .ok (.invokevirtual 121, 3) ∧ okop dsX12_diameter_0 2 = true) ∧ (decode dsX12_diameter_0 5 = .ok (.ifCond .eq 19, 3) ∧ okop dsX12_diameter_0 5 = true) ∧ (decode dsX12_diameter_0 8 = .ok (.aload_n 0, 1) ∧ okop dsX12_diameter_0 8 = true) ∧ (decode dsX12_diameter_0 9 = .ok (.aload_n 0, 1) ∧ okop dsX12_diameter_0 9 = true) ∧ (decode dsX12_diameter_0 10 = .ok (.iload_n 1, 1) ∧ okop dsX12_diameter_0 10 = true) ∧ (decode dsX12_diameter_0 11 = .ok (.invokevirtual 111, 3) ∧ okop dsX12_diameter_0 11 = true) ∧ (decode dsX12_diameter_0 14 = .ok (.invokevirtual 167, 3) ∧ okop dsX12_diameter_0 14 = true) ∧ (decode dsX12_diameter_0 17 = .ok (.l2i, 1) ∧ okop dsX12_diameter_0 17 = true) := by decide +kernel
theorem dX12_diameter_0 : decode cX12_diameter 0 = .ok (.aload_n 0, 1) := dgq (p := 0) daX12_diameter_0 dbX12_diameter_0.1
theorem dX12_diameter_1 : decode cX12_diameter 1 = .ok (.iload_n 1, 1) := dgq (p := 1) daX12_diameter_0 dbX12_diameter_0.2.1
theorem dX12_diameter_2 : decode cX12_diameter 2 = .ok (.invokevirtual 121, 3) := dgq (p := 2) daX12_diameter_0 dbX12_diameter_0.2.2.1
theorem dX12_diameter_5 : decode cX12_diameter 5 = .ok (.ifCond .eq 19, 3) := dgq (p := 5) daX12_diameter_0 dbX12_diameter_0.2.2.2.1
theorem dX12_diameter_8 : decode cX12_diameter 8 = .ok (.aload_n 0, 1) := dgq (p := 8) daX12_diameter_0 dbX12_diameter_0.2.2.2.2.1
theorem dX12_diameter_9 : decode cX12_diameter 9 = .ok (.aload_n 0, 1) := dgq (p := 9) daX12_diameter_0 dbX12_diameter_0.2.2.2.2.2.1
theorem dX12_diameter_10 : decode cX12_diameter 10 = .ok (.iload_n 1, 1) := dgq (p := 10) daX12_diameter_0 dbX12_diameter_0.2.2.2.2.2.2.1
theorem dX12_diameter_11 : decode cX12_diameter 11 = .ok (.invokevirtual 111, 3) := dgq (p := 11) daX12_diameter_0 dbX12_diameter_0.2.2.2.2.2.2.2.1
theorem dX12_diameter_14 : decode cX12_diameter 14 = .ok (.invokevirtual 167, 3) := dgq (p := 14) daX12_diameter_0 dbX12_diameter_0.2.2.2.2.2.2.2.2.1
theorem dX12_diameter_17 : decode cX12_diameter 17 = .ok (.l2i, 1) := dgq (p := 17) daX12_diameter_0 dbX12_diameter_0.2.2.2.2.2.2.2.2.2
def dsX12_diameter_18 : ByteArray := ⟨#[182, 0, 153, 167, 0, 8, 42, 4, 182, 0, 143, 172]⟩
theorem daX12_diameter_18 : agB cX12_diameter dsX12_diameter_18 18 := agB_of (n := 12) (by decide +kernel)
theorem dbX12_diameter_18 : (decode dsX12_diameter_18 0 = .ok (.invokevirtual 153, 3) ∧ okop dsX12_diameter_18 0 = true) ∧ (decode dsX12_diameter_18 3 = .ok (.goto 8, 3) ∧ okop dsX12_diameter_18 3 = true) ∧ (decode dsX12_diameter_18 6 = .ok (.aload_n 0, 1) ∧ okop dsX12_diameter_18 6 = true) ∧ (decode dsX12_diameter_18 7 = .ok (.iconst 1, 1) ∧ okop dsX12_diameter_18 7 = true) ∧ (decode dsX12_diameter_18 8 = .ok (.invokevirtual 143, 3) ∧ okop dsX12_diameter_18 8 = true) ∧ (decode dsX12_diameter_18 11 = .ok (.ireturn, 1) ∧ okop dsX12_diameter_18 11 = true) := by decide +kernel
theorem dX12_diameter_18 : decode cX12_diameter 18 = .ok (.invokevirtual 153, 3) := dgq (p := 0) daX12_diameter_18 dbX12_diameter_18.1
theorem dX12_diameter_21 : decode cX12_diameter 21 = .ok (.goto 8, 3) := dgq (p := 3) daX12_diameter_18 dbX12_diameter_18.2.1
theorem dX12_diameter_24 : decode cX12_diameter 24 = .ok (.aload_n 0, 1) := dgq (p := 6) daX12_diameter_18 dbX12_diameter_18.2.2.1
theorem dX12_diameter_25 : decode cX12_diameter 25 = .ok (.iconst 1, 1) := dgq (p := 7) daX12_diameter_18 dbX12_diameter_18.2.2.2.1
theorem dX12_diameter_26 : decode cX12_diameter 26 = .ok (.invokevirtual 143, 3) := dgq (p := 8) daX12_diameter_18 dbX12_diameter_18.2.2.2.2.1
theorem dX12_diameter_29 : decode cX12_diameter 29 = .ok (.ireturn, 1) := dgq (p := 11) daX12_diameter_18 dbX12_diameter_18.2.2.2.2.2
set_option maxRecDepth 20000 in
theorem ggX12_tip_X12_isGear : GoodIn wsX12_tip wsX12_isGear := goodIn_ca (goodIn_ca (goodIn_q _ [5, 6, 7, 8, 9, 10, 11, 12, 13, 14, 4, 15] rfl (by decide +kernel)) (goodIn_sub (fun _ h => (List.mem_cons_of_mem _ (List.mem_append_left _ (List.mem_append_right _ h)))) tg_wsX120)) (goodIn_sub (fun _ h => (List.mem_cons_of_mem _ (List.mem_append_right _ h))) tg_wsJx4a65c0)
set_option maxRecDepth 20000 in
theorem gX12_tip_X12_isGear : GoodIn wsX12_tip (wsV RX12 121 RX12 yX12_isGear wsX12_isGear) := goodIn_app (goodIn_q _ [1, 2, 3, 4] rfl (by decide +kernel)) ggX12_tip_X12_isGear
set_option maxRecDepth 20000 in
theorem ggX12_tip_X12_gearAt : GoodIn wsX12_tip wsX12_gearAt := goodIn_ca (goodIn_ca (goodIn_q _ [19, 6, 20, 21, 22, 23, 10, 24, 12, 25, 26, 27, 28, 29, 30, 31, 32, 33, 34, 35, 36, 37] rfl (by decide +kernel)) (goodIn_sub (fun _ h => (List.mem_cons_of_mem _ (List.mem_append_left _ (List.mem_append_right _ h)))) tg_wsX120)) (goodIn_sub (fun _ h => (List.mem_cons_of_mem _ (List.mem_append_right _ h))) tg_wsJx4a65c0)
set_option maxRecDepth 20000 in
theorem gX12_tip_X12_gearAt : GoodIn wsX12_tip (wsV RX12 111 RX12 yX12_gearAt wsX12_gearAt) := goodIn_app (goodIn_q _ [16, 17, 18, 4] rfl (by decide +kernel)) ggX12_tip_X12_gearAt
set_option maxRecDepth 20000 in
theorem ggX12_tip_X10_tip : GoodIn wsX12_tip wsX10_tip := goodIn_ca (goodIn_q _ [42, 43, 44, 45, 46, 47, 48, 41, 49, 50] rfl (by decide +kernel)) (goodIn_sub (fun _ h => (List.mem_cons_of_mem _ (List.mem_append_left _ (List.mem_append_left _ (List.mem_append_right _ h))))) tg_wsX100)
set_option maxRecDepth 20000 in
theorem gX12_tip_X10_tip : GoodIn wsX12_tip (wsV RX12 171 RX10 yX10_tip wsX10_tip) := goodIn_app (goodIn_q _ [38, 39, 40, 41] rfl (by decide +kernel)) ggX12_tip_X10_tip
set_option maxRecDepth 20000 in
theorem ggX12_tip_X12_answer : GoodIn wsX12_tip wsX12_answer := goodIn_ca (goodIn_q _ [54, 55] rfl (by decide +kernel)) (goodIn_sub (fun _ h => (List.mem_cons_of_mem _ (List.mem_append_left _ (List.mem_append_right _ h)))) tg_wsX120)
set_option maxRecDepth 20000 in
theorem gX12_tip_X12_answer : GoodIn wsX12_tip (wsV RX12 153 RX12 yX12_answer wsX12_answer) := goodIn_app (goodIn_q _ [51, 52, 53, 4] rfl (by decide +kernel)) ggX12_tip_X12_answer
set_option maxRecDepth 20000 in
theorem ggX12_tip_X12_fails : GoodIn wsX12_tip wsX12_fails := goodIn_ca (goodIn_q _ [59, 55] rfl (by decide +kernel)) (goodIn_sub (fun _ h => (List.mem_cons_of_mem _ (List.mem_append_left _ (List.mem_append_right _ h)))) tg_wsX120)
set_option maxRecDepth 20000 in
theorem gX12_tip_X12_fails : GoodIn wsX12_tip (wsV RX12 143 RX12 yX12_fails wsX12_fails) := goodIn_app (goodIn_q _ [56, 57, 58, 4] rfl (by decide +kernel)) ggX12_tip_X12_fails
def dsX12_tip_0 : ByteArray := ⟨#[42, 27, 182, 0, 121, 153, 0, 27, 42, 42, 27, 182, 0, 111, 42, 27]⟩
theorem daX12_tip_0 : agB cX12_tip dsX12_tip_0 0 := agB_of (n := 16) (by decide +kernel)
theorem dbX12_tip_0 : (decode dsX12_tip_0 0 = .ok (.aload_n 0, 1) ∧ okop dsX12_tip_0 0 = true) ∧ (decode dsX12_tip_0 1 = .ok (.iload_n 1, 1) ∧ okop dsX12_tip_0 1 = true) ∧ (decode dsX12_tip_0 2 = .ok (.invokevirtual 121, 3) ∧ okop dsX12_tip_0 2 = true) ∧ (decode dsX12_tip_0 5 = .ok (.ifCond .eq 27, 3) ∧ okop dsX12_tip_0 5 = true) ∧ (decode dsX12_tip_0 8 = .ok (.aload_n 0, 1) ∧ okop dsX12_tip_0 8 = true) ∧ (decode dsX12_tip_0 9 = .ok (.aload_n 0, 1) ∧ okop dsX12_tip_0 9 = true) ∧ (decode dsX12_tip_0 10 = .ok (.iload_n 1, 1) ∧ okop dsX12_tip_0 10 = true) ∧ (decode dsX12_tip_0 11 = .ok (.invokevirtual 111, 3) ∧ okop dsX12_tip_0 11 = true) ∧ (decode dsX12_tip_0 14 = .ok (.aload_n 0, 1) ∧ okop dsX12_tip_0 14 = true) ∧ (decode dsX12_tip_0 15 = .ok (.iload_n 1, 1) ∧ okop dsX12_tip_0 15 = true) := by decide +kernel
theorem dX12_tip_0 : decode cX12_tip 0 = .ok (.aload_n 0, 1) := dgq (p := 0) daX12_tip_0 dbX12_tip_0.1
theorem dX12_tip_1 : decode cX12_tip 1 = .ok (.iload_n 1, 1) := dgq (p := 1) daX12_tip_0 dbX12_tip_0.2.1
theorem dX12_tip_2 : decode cX12_tip 2 = .ok (.invokevirtual 121, 3) := dgq (p := 2) daX12_tip_0 dbX12_tip_0.2.2.1
theorem dX12_tip_5 : decode cX12_tip 5 = .ok (.ifCond .eq 27, 3) := dgq (p := 5) daX12_tip_0 dbX12_tip_0.2.2.2.1
theorem dX12_tip_8 : decode cX12_tip 8 = .ok (.aload_n 0, 1) := dgq (p := 8) daX12_tip_0 dbX12_tip_0.2.2.2.2.1
theorem dX12_tip_9 : decode cX12_tip 9 = .ok (.aload_n 0, 1) := dgq (p := 9) daX12_tip_0 dbX12_tip_0.2.2.2.2.2.1
theorem dX12_tip_10 : decode cX12_tip 10 = .ok (.iload_n 1, 1) := dgq (p := 10) daX12_tip_0 dbX12_tip_0.2.2.2.2.2.2.1
theorem dX12_tip_11 : decode cX12_tip 11 = .ok (.invokevirtual 111, 3) := dgq (p := 11) daX12_tip_0 dbX12_tip_0.2.2.2.2.2.2.2.1
theorem dX12_tip_14 : decode cX12_tip 14 = .ok (.aload_n 0, 1) := dgq (p := 14) daX12_tip_0 dbX12_tip_0.2.2.2.2.2.2.2.2.1
theorem dX12_tip_15 : decode cX12_tip 15 = .ok (.iload_n 1, 1) := dgq (p := 15) daX12_tip_0 dbX12_tip_0.2.2.2.2.2.2.2.2.2
def dsX12_tip_16 : ByteArray := ⟨#[182, 0, 111, 180, 0, 164, 182, 0, 171, 136, 182, 0, 153, 167, 0, 8, 42, 4, 182, 0, 143, 172]⟩
theorem daX12_tip_16 : agB cX12_tip dsX12_tip_16 16 := agB_of (n := 22) (by decide +kernel)
theorem dbX12_tip_16 : (decode dsX12_tip_16 0 = .ok (.invokevirtual 111, 3) ∧ okop dsX12_tip_16 0 = true) ∧ (decode dsX12_tip_16 3 = .ok (.getfield 164, 3) ∧ okop dsX12_tip_16 3 = true) ∧ (decode dsX12_tip_16 6 = .ok (.invokevirtual 171, 3) ∧ okop dsX12_tip_16 6 = true) ∧ (decode dsX12_tip_16 9 = .ok (.l2i, 1) ∧ okop dsX12_tip_16 9 = true) ∧ (decode dsX12_tip_16 10 = .ok (.invokevirtual 153, 3) ∧ okop dsX12_tip_16 10 = true) ∧ (decode dsX12_tip_16 13 = .ok (.goto 8, 3) ∧ okop dsX12_tip_16 13 = true) ∧ (decode dsX12_tip_16 16 = .ok (.aload_n 0, 1) ∧ okop dsX12_tip_16 16 = true) ∧ (decode dsX12_tip_16 17 = .ok (.iconst 1, 1) ∧ okop dsX12_tip_16 17 = true) ∧ (decode dsX12_tip_16 18 = .ok (.invokevirtual 143, 3) ∧ okop dsX12_tip_16 18 = true) ∧ (decode dsX12_tip_16 21 = .ok (.ireturn, 1) ∧ okop dsX12_tip_16 21 = true) := by decide +kernel
theorem dX12_tip_16 : decode cX12_tip 16 = .ok (.invokevirtual 111, 3) := dgq (p := 0) daX12_tip_16 dbX12_tip_16.1
theorem dX12_tip_19 : decode cX12_tip 19 = .ok (.getfield 164, 3) := dgq (p := 3) daX12_tip_16 dbX12_tip_16.2.1
theorem dX12_tip_22 : decode cX12_tip 22 = .ok (.invokevirtual 171, 3) := dgq (p := 6) daX12_tip_16 dbX12_tip_16.2.2.1
theorem dX12_tip_25 : decode cX12_tip 25 = .ok (.l2i, 1) := dgq (p := 9) daX12_tip_16 dbX12_tip_16.2.2.2.1
theorem dX12_tip_26 : decode cX12_tip 26 = .ok (.invokevirtual 153, 3) := dgq (p := 10) daX12_tip_16 dbX12_tip_16.2.2.2.2.1
theorem dX12_tip_29 : decode cX12_tip 29 = .ok (.goto 8, 3) := dgq (p := 13) daX12_tip_16 dbX12_tip_16.2.2.2.2.2.1
theorem dX12_tip_32 : decode cX12_tip 32 = .ok (.aload_n 0, 1) := dgq (p := 16) daX12_tip_16 dbX12_tip_16.2.2.2.2.2.2.1
theorem dX12_tip_33 : decode cX12_tip 33 = .ok (.iconst 1, 1) := dgq (p := 17) daX12_tip_16 dbX12_tip_16.2.2.2.2.2.2.2.1
theorem dX12_tip_34 : decode cX12_tip 34 = .ok (.invokevirtual 143, 3) := dgq (p := 18) daX12_tip_16 dbX12_tip_16.2.2.2.2.2.2.2.2.1
theorem dX12_tip_37 : decode cX12_tip 37 = .ok (.ireturn, 1) := dgq (p := 21) daX12_tip_16 dbX12_tip_16.2.2.2.2.2.2.2.2.2
set_option maxRecDepth 20000 in
theorem ggX12_isUndercut_X12_isGear : GoodIn wsX12_isUndercut wsX12_isGear := goodIn_ca (goodIn_ca (goodIn_q _ [5, 6, 7, 8, 9, 10, 11, 12, 13, 14, 4, 15] rfl (by decide +kernel)) (goodIn_sub (fun _ h => (List.mem_cons_of_mem _ (List.mem_append_left _ (List.mem_append_right _ h)))) tg_wsX120)) (goodIn_sub (fun _ h => (List.mem_cons_of_mem _ (List.mem_append_right _ h))) tg_wsJx4a65c0)
set_option maxRecDepth 20000 in
theorem gX12_isUndercut_X12_isGear : GoodIn wsX12_isUndercut (wsV RX12 121 RX12 yX12_isGear wsX12_isGear) := goodIn_app (goodIn_q _ [1, 2, 3, 4] rfl (by decide +kernel)) ggX12_isUndercut_X12_isGear
set_option maxRecDepth 20000 in
theorem ggX12_isUndercut_X12_gearAt : GoodIn wsX12_isUndercut wsX12_gearAt := goodIn_ca (goodIn_ca (goodIn_q _ [19, 6, 20, 21, 22, 23, 10, 24, 12, 25, 26, 27, 28, 29, 30, 31, 32, 33, 34, 35, 36, 37] rfl (by decide +kernel)) (goodIn_sub (fun _ h => (List.mem_cons_of_mem _ (List.mem_append_left _ (List.mem_append_right _ h)))) tg_wsX120)) (goodIn_sub (fun _ h => (List.mem_cons_of_mem _ (List.mem_append_right _ h))) tg_wsJx4a65c0)
set_option maxRecDepth 20000 in
theorem gX12_isUndercut_X12_gearAt : GoodIn wsX12_isUndercut (wsV RX12 111 RX12 yX12_gearAt wsX12_gearAt) := goodIn_app (goodIn_q _ [16, 17, 18, 4] rfl (by decide +kernel)) ggX12_isUndercut_X12_gearAt
set_option maxRecDepth 20000 in
theorem ggX12_isUndercut_X10_isUndercut : GoodIn wsX12_isUndercut wsX10_isUndercut := goodIn_ca (goodIn_q _ [42, 43] rfl (by decide +kernel)) (goodIn_sub (fun _ h => (List.mem_cons_of_mem _ (List.mem_append_left _ (List.mem_append_left _ (List.mem_append_right _ h))))) tg_wsX100)
set_option maxRecDepth 20000 in
theorem gX12_isUndercut_X10_isUndercut : GoodIn wsX12_isUndercut (wsV RX12 175 RX10 yX10_isUndercut wsX10_isUndercut) := goodIn_app (goodIn_q _ [38, 39, 40, 41] rfl (by decide +kernel)) ggX12_isUndercut_X10_isUndercut
set_option maxRecDepth 20000 in
theorem ggX12_isUndercut_X12_says : GoodIn wsX12_isUndercut wsX12_says := goodIn_ca (goodIn_q _ [47, 48] rfl (by decide +kernel)) (goodIn_sub (fun _ h => (List.mem_cons_of_mem _ (List.mem_append_left _ (List.mem_append_right _ h)))) tg_wsX120)
set_option maxRecDepth 20000 in
theorem gX12_isUndercut_X12_says : GoodIn wsX12_isUndercut (wsV RX12 178 RX12 yX12_says wsX12_says) := goodIn_app (goodIn_q _ [44, 45, 46, 4] rfl (by decide +kernel)) ggX12_isUndercut_X12_says
set_option maxRecDepth 20000 in
theorem ggX12_isUndercut_X12_refuses : GoodIn wsX12_isUndercut wsX12_refuses := goodIn_ca (goodIn_q _ [52, 48] rfl (by decide +kernel)) (goodIn_sub (fun _ h => (List.mem_cons_of_mem _ (List.mem_append_left _ (List.mem_append_right _ h)))) tg_wsX120)
set_option maxRecDepth 20000 in
theorem gX12_isUndercut_X12_refuses : GoodIn wsX12_isUndercut (wsV RX12 182 RX12 yX12_refuses wsX12_refuses) := goodIn_app (goodIn_q _ [49, 50, 51, 4] rfl (by decide +kernel)) ggX12_isUndercut_X12_refuses
def dsX12_isUndercut_0 : ByteArray := ⟨#[42, 27, 182, 0, 121, 153, 0, 26, 42, 42, 27, 182, 0, 111, 42, 27]⟩
theorem daX12_isUndercut_0 : agB cX12_isUndercut dsX12_isUndercut_0 0 := agB_of (n := 16) (by decide +kernel)
theorem dbX12_isUndercut_0 : (decode dsX12_isUndercut_0 0 = .ok (.aload_n 0, 1) ∧ okop dsX12_isUndercut_0 0 = true) ∧ (decode dsX12_isUndercut_0 1 = .ok (.iload_n 1, 1) ∧ okop dsX12_isUndercut_0 1 = true) ∧ (decode dsX12_isUndercut_0 2 = .ok (.invokevirtual 121, 3) ∧ okop dsX12_isUndercut_0 2 = true) ∧ (decode dsX12_isUndercut_0 5 = .ok (.ifCond .eq 26, 3) ∧ okop dsX12_isUndercut_0 5 = true) ∧ (decode dsX12_isUndercut_0 8 = .ok (.aload_n 0, 1) ∧ okop dsX12_isUndercut_0 8 = true) ∧ (decode dsX12_isUndercut_0 9 = .ok (.aload_n 0, 1) ∧ okop dsX12_isUndercut_0 9 = true) ∧ (decode dsX12_isUndercut_0 10 = .ok (.iload_n 1, 1) ∧ okop dsX12_isUndercut_0 10 = true) ∧ (decode dsX12_isUndercut_0 11 = .ok (.invokevirtual 111, 3) ∧ okop dsX12_isUndercut_0 11 = true) ∧ (decode dsX12_isUndercut_0 14 = .ok (.aload_n 0, 1) ∧ okop dsX12_isUndercut_0 14 = true) ∧ (decode dsX12_isUndercut_0 15 = .ok (.iload_n 1, 1) ∧ okop dsX12_isUndercut_0 15 = true) := by decide +kernel
theorem dX12_isUndercut_0 : decode cX12_isUndercut 0 = .ok (.aload_n 0, 1) := dgq (p := 0) daX12_isUndercut_0 dbX12_isUndercut_0.1
theorem dX12_isUndercut_1 : decode cX12_isUndercut 1 = .ok (.iload_n 1, 1) := dgq (p := 1) daX12_isUndercut_0 dbX12_isUndercut_0.2.1
theorem dX12_isUndercut_2 : decode cX12_isUndercut 2 = .ok (.invokevirtual 121, 3) := dgq (p := 2) daX12_isUndercut_0 dbX12_isUndercut_0.2.2.1
theorem dX12_isUndercut_5 : decode cX12_isUndercut 5 = .ok (.ifCond .eq 26, 3) := dgq (p := 5) daX12_isUndercut_0 dbX12_isUndercut_0.2.2.2.1
theorem dX12_isUndercut_8 : decode cX12_isUndercut 8 = .ok (.aload_n 0, 1) := dgq (p := 8) daX12_isUndercut_0 dbX12_isUndercut_0.2.2.2.2.1
theorem dX12_isUndercut_9 : decode cX12_isUndercut 9 = .ok (.aload_n 0, 1) := dgq (p := 9) daX12_isUndercut_0 dbX12_isUndercut_0.2.2.2.2.2.1
theorem dX12_isUndercut_10 : decode cX12_isUndercut 10 = .ok (.iload_n 1, 1) := dgq (p := 10) daX12_isUndercut_0 dbX12_isUndercut_0.2.2.2.2.2.2.1
theorem dX12_isUndercut_11 : decode cX12_isUndercut 11 = .ok (.invokevirtual 111, 3) := dgq (p := 11) daX12_isUndercut_0 dbX12_isUndercut_0.2.2.2.2.2.2.2.1
theorem dX12_isUndercut_14 : decode cX12_isUndercut 14 = .ok (.aload_n 0, 1) := dgq (p := 14) daX12_isUndercut_0 dbX12_isUndercut_0.2.2.2.2.2.2.2.2.1
theorem dX12_isUndercut_15 : decode cX12_isUndercut 15 = .ok (.iload_n 1, 1) := dgq (p := 15) daX12_isUndercut_0 dbX12_isUndercut_0.2.2.2.2.2.2.2.2.2
def dsX12_isUndercut_16 : ByteArray := ⟨#[182, 0, 111, 180, 0, 164, 182, 0, 175, 182, 0, 178, 167, 0, 8, 42, 4, 182, 0, 182, 172]⟩
theorem daX12_isUndercut_16 : agB cX12_isUndercut dsX12_isUndercut_16 16 := agB_of (n := 21) (by decide +kernel)
theorem dbX12_isUndercut_16 : (decode dsX12_isUndercut_16 0 = .ok (.invokevirtual 111, 3) ∧ okop dsX12_isUndercut_16 0 = true) ∧ (decode dsX12_isUndercut_16 3 = .ok (.getfield 164, 3) ∧ okop dsX12_isUndercut_16 3 = true) ∧ (decode dsX12_isUndercut_16 6 = .ok (.invokevirtual 175, 3) ∧ okop dsX12_isUndercut_16 6 = true) ∧ (decode dsX12_isUndercut_16 9 = .ok (.invokevirtual 178, 3) ∧ okop dsX12_isUndercut_16 9 = true) ∧ (decode dsX12_isUndercut_16 12 = .ok (.goto 8, 3) ∧ okop dsX12_isUndercut_16 12 = true) ∧ (decode dsX12_isUndercut_16 15 = .ok (.aload_n 0, 1) ∧ okop dsX12_isUndercut_16 15 = true) ∧ (decode dsX12_isUndercut_16 16 = .ok (.iconst 1, 1) ∧ okop dsX12_isUndercut_16 16 = true) ∧ (decode dsX12_isUndercut_16 17 = .ok (.invokevirtual 182, 3) ∧ okop dsX12_isUndercut_16 17 = true) ∧ (decode dsX12_isUndercut_16 20 = .ok (.ireturn, 1) ∧ okop dsX12_isUndercut_16 20 = true) := by decide +kernel
theorem dX12_isUndercut_16 : decode cX12_isUndercut 16 = .ok (.invokevirtual 111, 3) := dgq (p := 0) daX12_isUndercut_16 dbX12_isUndercut_16.1
theorem dX12_isUndercut_19 : decode cX12_isUndercut 19 = .ok (.getfield 164, 3) := dgq (p := 3) daX12_isUndercut_16 dbX12_isUndercut_16.2.1
theorem dX12_isUndercut_22 : decode cX12_isUndercut 22 = .ok (.invokevirtual 175, 3) := dgq (p := 6) daX12_isUndercut_16 dbX12_isUndercut_16.2.2.1
theorem dX12_isUndercut_25 : decode cX12_isUndercut 25 = .ok (.invokevirtual 178, 3) := dgq (p := 9) daX12_isUndercut_16 dbX12_isUndercut_16.2.2.2.1
theorem dX12_isUndercut_28 : decode cX12_isUndercut 28 = .ok (.goto 8, 3) := dgq (p := 12) daX12_isUndercut_16 dbX12_isUndercut_16.2.2.2.2.1
theorem dX12_isUndercut_31 : decode cX12_isUndercut 31 = .ok (.aload_n 0, 1) := dgq (p := 15) daX12_isUndercut_16 dbX12_isUndercut_16.2.2.2.2.2.1
theorem dX12_isUndercut_32 : decode cX12_isUndercut 32 = .ok (.iconst 1, 1) := dgq (p := 16) daX12_isUndercut_16 dbX12_isUndercut_16.2.2.2.2.2.2.1
theorem dX12_isUndercut_33 : decode cX12_isUndercut 33 = .ok (.invokevirtual 182, 3) := dgq (p := 17) daX12_isUndercut_16 dbX12_isUndercut_16.2.2.2.2.2.2.2.1
theorem dX12_isUndercut_36 : decode cX12_isUndercut 36 = .ok (.ireturn, 1) := dgq (p := 20) daX12_isUndercut_16 dbX12_isUndercut_16.2.2.2.2.2.2.2.2
set_option maxRecDepth 20000 in
theorem ggX12_isSharp_X12_isGear : GoodIn wsX12_isSharp wsX12_isGear := goodIn_ca (goodIn_ca (goodIn_q _ [5, 6, 7, 8, 9, 10, 11, 12, 13, 14, 4, 15] rfl (by decide +kernel)) (goodIn_sub (fun _ h => (List.mem_cons_of_mem _ (List.mem_append_left _ (List.mem_append_right _ h)))) tg_wsX120)) (goodIn_sub (fun _ h => (List.mem_cons_of_mem _ (List.mem_append_right _ h))) tg_wsJx4a65c0)
set_option maxRecDepth 20000 in
theorem gX12_isSharp_X12_isGear : GoodIn wsX12_isSharp (wsV RX12 121 RX12 yX12_isGear wsX12_isGear) := goodIn_app (goodIn_q _ [1, 2, 3, 4] rfl (by decide +kernel)) ggX12_isSharp_X12_isGear
set_option maxRecDepth 20000 in
theorem ggX12_isSharp_X12_gearAt : GoodIn wsX12_isSharp wsX12_gearAt := goodIn_ca (goodIn_ca (goodIn_q _ [19, 6, 20, 21, 22, 23, 10, 24, 12, 25, 26, 27, 28, 29, 30, 31, 32, 33, 34, 35, 36, 37] rfl (by decide +kernel)) (goodIn_sub (fun _ h => (List.mem_cons_of_mem _ (List.mem_append_left _ (List.mem_append_right _ h)))) tg_wsX120)) (goodIn_sub (fun _ h => (List.mem_cons_of_mem _ (List.mem_append_right _ h))) tg_wsJx4a65c0)
set_option maxRecDepth 20000 in
theorem gX12_isSharp_X12_gearAt : GoodIn wsX12_isSharp (wsV RX12 111 RX12 yX12_gearAt wsX12_gearAt) := goodIn_app (goodIn_q _ [16, 17, 18, 4] rfl (by decide +kernel)) ggX12_isSharp_X12_gearAt
set_option maxRecDepth 20000 in
theorem ggX12_isSharp_X10_isSharp : GoodIn wsX12_isSharp wsX10_isSharp := goodIn_ca (goodIn_q _ [42, 43] rfl (by decide +kernel)) (goodIn_sub (fun _ h => (List.mem_cons_of_mem _ (List.mem_append_left _ (List.mem_append_left _ (List.mem_append_right _ h))))) tg_wsX100)
set_option maxRecDepth 20000 in
theorem gX12_isSharp_X10_isSharp : GoodIn wsX12_isSharp (wsV RX12 185 RX10 yX10_isSharp wsX10_isSharp) := goodIn_app (goodIn_q _ [38, 39, 40, 41] rfl (by decide +kernel)) ggX12_isSharp_X10_isSharp
set_option maxRecDepth 20000 in
theorem ggX12_isSharp_X12_says : GoodIn wsX12_isSharp wsX12_says := goodIn_ca (goodIn_q _ [47, 48] rfl (by decide +kernel)) (goodIn_sub (fun _ h => (List.mem_cons_of_mem _ (List.mem_append_left _ (List.mem_append_right _ h)))) tg_wsX120)
set_option maxRecDepth 20000 in
theorem gX12_isSharp_X12_says : GoodIn wsX12_isSharp (wsV RX12 178 RX12 yX12_says wsX12_says) := goodIn_app (goodIn_q _ [44, 45, 46, 4] rfl (by decide +kernel)) ggX12_isSharp_X12_says
set_option maxRecDepth 20000 in
theorem ggX12_isSharp_X12_refuses : GoodIn wsX12_isSharp wsX12_refuses := goodIn_ca (goodIn_q _ [52, 48] rfl (by decide +kernel)) (goodIn_sub (fun _ h => (List.mem_cons_of_mem _ (List.mem_append_left _ (List.mem_append_right _ h)))) tg_wsX120)
set_option maxRecDepth 20000 in
theorem gX12_isSharp_X12_refuses : GoodIn wsX12_isSharp (wsV RX12 182 RX12 yX12_refuses wsX12_refuses) := goodIn_app (goodIn_q _ [49, 50, 51, 4] rfl (by decide +kernel)) ggX12_isSharp_X12_refuses
def dsX12_isSharp_0 : ByteArray := ⟨#[42, 27, 182, 0, 121, 153, 0, 26, 42, 42, 27, 182, 0, 111, 42, 27]⟩
theorem daX12_isSharp_0 : agB cX12_isSharp dsX12_isSharp_0 0 := agB_of (n := 16) (by decide +kernel)
theorem dbX12_isSharp_0 : (decode dsX12_isSharp_0 0 = .ok (.aload_n 0, 1) ∧ okop dsX12_isSharp_0 0 = true) ∧ (decode dsX12_isSharp_0 1 = .ok (.iload_n 1, 1) ∧ okop dsX12_isSharp_0 1 = true) ∧ (decode dsX12_isSharp_0 2 = .ok (.invokevirtual 121, 3) ∧ okop dsX12_isSharp_0 2 = true) ∧ (decode dsX12_isSharp_0 5 = .ok (.ifCond .eq 26, 3) ∧ okop dsX12_isSharp_0 5 = true) ∧ (decode dsX12_isSharp_0 8 = .ok (.aload_n 0, 1) ∧ okop dsX12_isSharp_0 8 = true) ∧ (decode dsX12_isSharp_0 9 = .ok (.aload_n 0, 1) ∧ okop dsX12_isSharp_0 9 = true) ∧ (decode dsX12_isSharp_0 10 = .ok (.iload_n 1, 1) ∧ okop dsX12_isSharp_0 10 = true) ∧ (decode dsX12_isSharp_0 11 = .ok (.invokevirtual 111, 3) ∧ okop dsX12_isSharp_0 11 = true) ∧ (decode dsX12_isSharp_0 14 = .ok (.aload_n 0, 1) ∧ okop dsX12_isSharp_0 14 = true) ∧ (decode dsX12_isSharp_0 15 = .ok (.iload_n 1, 1) ∧ okop dsX12_isSharp_0 15 = true) := by decide +kernel
theorem dX12_isSharp_0 : decode cX12_isSharp 0 = .ok (.aload_n 0, 1) := dgq (p := 0) daX12_isSharp_0 dbX12_isSharp_0.1
theorem dX12_isSharp_1 : decode cX12_isSharp 1 = .ok (.iload_n 1, 1) := dgq (p := 1) daX12_isSharp_0 dbX12_isSharp_0.2.1
theorem dX12_isSharp_2 : decode cX12_isSharp 2 = .ok (.invokevirtual 121, 3) := dgq (p := 2) daX12_isSharp_0 dbX12_isSharp_0.2.2.1
theorem dX12_isSharp_5 : decode cX12_isSharp 5 = .ok (.ifCond .eq 26, 3) := dgq (p := 5) daX12_isSharp_0 dbX12_isSharp_0.2.2.2.1
theorem dX12_isSharp_8 : decode cX12_isSharp 8 = .ok (.aload_n 0, 1) := dgq (p := 8) daX12_isSharp_0 dbX12_isSharp_0.2.2.2.2.1
theorem dX12_isSharp_9 : decode cX12_isSharp 9 = .ok (.aload_n 0, 1) := dgq (p := 9) daX12_isSharp_0 dbX12_isSharp_0.2.2.2.2.2.1
theorem dX12_isSharp_10 : decode cX12_isSharp 10 = .ok (.iload_n 1, 1) := dgq (p := 10) daX12_isSharp_0 dbX12_isSharp_0.2.2.2.2.2.2.1
theorem dX12_isSharp_11 : decode cX12_isSharp 11 = .ok (.invokevirtual 111, 3) := dgq (p := 11) daX12_isSharp_0 dbX12_isSharp_0.2.2.2.2.2.2.2.1
theorem dX12_isSharp_14 : decode cX12_isSharp 14 = .ok (.aload_n 0, 1) := dgq (p := 14) daX12_isSharp_0 dbX12_isSharp_0.2.2.2.2.2.2.2.2.1
theorem dX12_isSharp_15 : decode cX12_isSharp 15 = .ok (.iload_n 1, 1) := dgq (p := 15) daX12_isSharp_0 dbX12_isSharp_0.2.2.2.2.2.2.2.2.2
def dsX12_isSharp_16 : ByteArray := ⟨#[182, 0, 111, 180, 0, 164, 182, 0, 185, 182, 0, 178, 167, 0, 8, 42, 4, 182, 0, 182, 172]⟩
theorem daX12_isSharp_16 : agB cX12_isSharp dsX12_isSharp_16 16 := agB_of (n := 21) (by decide +kernel)
theorem dbX12_isSharp_16 : (decode dsX12_isSharp_16 0 = .ok (.invokevirtual 111, 3) ∧ okop dsX12_isSharp_16 0 = true) ∧ (decode dsX12_isSharp_16 3 = .ok (.getfield 164, 3) ∧ okop dsX12_isSharp_16 3 = true) ∧ (decode dsX12_isSharp_16 6 = .ok (.invokevirtual 185, 3) ∧ okop dsX12_isSharp_16 6 = true) ∧ (decode dsX12_isSharp_16 9 = .ok (.invokevirtual 178, 3) ∧ okop dsX12_isSharp_16 9 = true) ∧ (decode dsX12_isSharp_16 12 = .ok (.goto 8, 3) ∧ okop dsX12_isSharp_16 12 = true) ∧ (decode dsX12_isSharp_16 15 = .ok (.aload_n 0, 1) ∧ okop dsX12_isSharp_16 15 = true) ∧ (decode dsX12_isSharp_16 16 = .ok (.iconst 1, 1) ∧ okop dsX12_isSharp_16 16 = true) ∧ (decode dsX12_isSharp_16 17 = .ok (.invokevirtual 182, 3) ∧ okop dsX12_isSharp_16 17 = true) ∧ (decode dsX12_isSharp_16 20 = .ok (.ireturn, 1) ∧ okop dsX12_isSharp_16 20 = true) := by decide +kernel
theorem dX12_isSharp_16 : decode cX12_isSharp 16 = .ok (.invokevirtual 111, 3) := dgq (p := 0) daX12_isSharp_16 dbX12_isSharp_16.1
theorem dX12_isSharp_19 : decode cX12_isSharp 19 = .ok (.getfield 164, 3) := dgq (p := 3) daX12_isSharp_16 dbX12_isSharp_16.2.1
theorem dX12_isSharp_22 : decode cX12_isSharp 22 = .ok (.invokevirtual 185, 3) := dgq (p := 6) daX12_isSharp_16 dbX12_isSharp_16.2.2.1
theorem dX12_isSharp_25 : decode cX12_isSharp 25 = .ok (.invokevirtual 178, 3) := dgq (p := 9) daX12_isSharp_16 dbX12_isSharp_16.2.2.2.1
theorem dX12_isSharp_28 : decode cX12_isSharp 28 = .ok (.goto 8, 3) := dgq (p := 12) daX12_isSharp_16 dbX12_isSharp_16.2.2.2.2.1
theorem dX12_isSharp_31 : decode cX12_isSharp 31 = .ok (.aload_n 0, 1) := dgq (p := 15) daX12_isSharp_16 dbX12_isSharp_16.2.2.2.2.2.1
theorem dX12_isSharp_32 : decode cX12_isSharp 32 = .ok (.iconst 1, 1) := dgq (p := 16) daX12_isSharp_16 dbX12_isSharp_16.2.2.2.2.2.2.1
theorem dX12_isSharp_33 : decode cX12_isSharp 33 = .ok (.invokevirtual 182, 3) := dgq (p := 17) daX12_isSharp_16 dbX12_isSharp_16.2.2.2.2.2.2.2.1
theorem dX12_isSharp_36 : decode cX12_isSharp 36 = .ok (.ireturn, 1) := dgq (p := 20) daX12_isSharp_16 dbX12_isSharp_16.2.2.2.2.2.2.2.2
set_option maxRecDepth 20000 in
theorem ggX12_fewest_X12_in : GoodIn wsX12_fewest wsX12_in := goodIn_q _ [6] rfl (by decide +kernel)
set_option maxRecDepth 20000 in
theorem gX12_fewest_X12_in : GoodIn wsX12_fewest (va_wsS RX12 101 yX12_in wsX12_in) := goodIn_app (goodIn_q _ [3, 4, 5] rfl (by decide +kernel)) ggX12_fewest_X12_in
set_option maxRecDepth 20000 in
theorem ggX12_fewest_X12_fails : GoodIn wsX12_fewest wsX12_fails := goodIn_ca (goodIn_q _ [10, 11] rfl (by decide +kernel)) (goodIn_sub (fun _ h => (List.mem_cons_of_mem _ (List.mem_append_right _ h))) tg_wsX120)
set_option maxRecDepth 20000 in
theorem gX12_fewest_X12_fails : GoodIn wsX12_fewest (wsV RX12 143 RX12 yX12_fails wsX12_fails) := goodIn_app (goodIn_q _ [7, 8, 9, 5] rfl (by decide +kernel)) ggX12_fewest_X12_fails
set_option maxRecDepth 20000 in
theorem ggX12_fewest_X12_answer : GoodIn wsX12_fewest wsX12_answer := goodIn_ca (goodIn_q _ [15, 11] rfl (by decide +kernel)) (goodIn_sub (fun _ h => (List.mem_cons_of_mem _ (List.mem_append_right _ h))) tg_wsX120)
set_option maxRecDepth 20000 in
theorem gX12_fewest_X12_answer : GoodIn wsX12_fewest (wsV RX12 153 RX12 yX12_answer wsX12_answer) := goodIn_app (goodIn_q _ [12, 13, 14, 5] rfl (by decide +kernel)) ggX12_fewest_X12_answer
def dsX12_fewest_0 : ByteArray := ⟨#[27, 133, 20, 0, 156, 20, 0, 158, 184, 0, 101, 154, 0, 9, 42, 4, 182, 0, 143, 172]⟩
theorem daX12_fewest_0 : agB cX12_fewest dsX12_fewest_0 0 := agB_of (n := 20) (by decide +kernel)
theorem dbX12_fewest_0 : (decode dsX12_fewest_0 0 = .ok (.iload_n 1, 1) ∧ okop dsX12_fewest_0 0 = true) ∧ (decode dsX12_fewest_0 1 = .ok (.i2l, 1) ∧ okop dsX12_fewest_0 1 = true) ∧ (decode dsX12_fewest_0 2 = .ok (.ldc2_w 156, 3) ∧ okop dsX12_fewest_0 2 = true) ∧ (decode dsX12_fewest_0 5 = .ok (.ldc2_w 158, 3) ∧ okop dsX12_fewest_0 5 = true) ∧ (decode dsX12_fewest_0 8 = .ok (.invokestatic 101, 3) ∧ okop dsX12_fewest_0 8 = true) ∧ (decode dsX12_fewest_0 11 = .ok (.ifCond .ne 9, 3) ∧ okop dsX12_fewest_0 11 = true) ∧ (decode dsX12_fewest_0 14 = .ok (.aload_n 0, 1) ∧ okop dsX12_fewest_0 14 = true) ∧ (decode dsX12_fewest_0 15 = .ok (.iconst 1, 1) ∧ okop dsX12_fewest_0 15 = true) ∧ (decode dsX12_fewest_0 16 = .ok (.invokevirtual 143, 3) ∧ okop dsX12_fewest_0 16 = true) ∧ (decode dsX12_fewest_0 19 = .ok (.ireturn, 1) ∧ okop dsX12_fewest_0 19 = true) := by decide +kernel
theorem dX12_fewest_0 : decode cX12_fewest 0 = .ok (.iload_n 1, 1) := dgq (p := 0) daX12_fewest_0 dbX12_fewest_0.1
theorem dX12_fewest_1 : decode cX12_fewest 1 = .ok (.i2l, 1) := dgq (p := 1) daX12_fewest_0 dbX12_fewest_0.2.1
theorem dX12_fewest_2 : decode cX12_fewest 2 = .ok (.ldc2_w 156, 3) := dgq (p := 2) daX12_fewest_0 dbX12_fewest_0.2.2.1
theorem dX12_fewest_5 : decode cX12_fewest 5 = .ok (.ldc2_w 158, 3) := dgq (p := 5) daX12_fewest_0 dbX12_fewest_0.2.2.2.1
theorem dX12_fewest_8 : decode cX12_fewest 8 = .ok (.invokestatic 101, 3) := dgq (p := 8) daX12_fewest_0 dbX12_fewest_0.2.2.2.2.1
theorem dX12_fewest_11 : decode cX12_fewest 11 = .ok (.ifCond .ne 9, 3) := dgq (p := 11) daX12_fewest_0 dbX12_fewest_0.2.2.2.2.2.1
theorem dX12_fewest_14 : decode cX12_fewest 14 = .ok (.aload_n 0, 1) := dgq (p := 14) daX12_fewest_0 dbX12_fewest_0.2.2.2.2.2.2.1
theorem dX12_fewest_15 : decode cX12_fewest 15 = .ok (.iconst 1, 1) := dgq (p := 15) daX12_fewest_0 dbX12_fewest_0.2.2.2.2.2.2.2.1
theorem dX12_fewest_16 : decode cX12_fewest 16 = .ok (.invokevirtual 143, 3) := dgq (p := 16) daX12_fewest_0 dbX12_fewest_0.2.2.2.2.2.2.2.2.1
theorem dX12_fewest_19 : decode cX12_fewest 19 = .ok (.ireturn, 1) := dgq (p := 19) daX12_fewest_0 dbX12_fewest_0.2.2.2.2.2.2.2.2.2
def dsX12_fewest_20 : ByteArray := ⟨#[4, 61, 17, 0, 137, 27, 104, 16, 100, 17, 0, 137, 16, 8, 28, 104]⟩
theorem daX12_fewest_20 : agB cX12_fewest dsX12_fewest_20 20 := agB_of (n := 16) (by decide +kernel)
theorem dbX12_fewest_20 : (decode dsX12_fewest_20 0 = .ok (.iconst 1, 1) ∧ okop dsX12_fewest_20 0 = true) ∧ (decode dsX12_fewest_20 1 = .ok (.istore_n 2, 1) ∧ okop dsX12_fewest_20 1 = true) ∧ (decode dsX12_fewest_20 2 = .ok (.sipush 137, 3) ∧ okop dsX12_fewest_20 2 = true) ∧ (decode dsX12_fewest_20 5 = .ok (.iload_n 1, 1) ∧ okop dsX12_fewest_20 5 = true) ∧ (decode dsX12_fewest_20 6 = .ok (.imul, 1) ∧ okop dsX12_fewest_20 6 = true) ∧ (decode dsX12_fewest_20 7 = .ok (.bipush 100, 2) ∧ okop dsX12_fewest_20 7 = true) ∧ (decode dsX12_fewest_20 9 = .ok (.sipush 137, 3) ∧ okop dsX12_fewest_20 9 = true) ∧ (decode dsX12_fewest_20 12 = .ok (.bipush 8, 2) ∧ okop dsX12_fewest_20 12 = true) ∧ (decode dsX12_fewest_20 14 = .ok (.iload_n 2, 1) ∧ okop dsX12_fewest_20 14 = true) ∧ (decode dsX12_fewest_20 15 = .ok (.imul, 1) ∧ okop dsX12_fewest_20 15 = true) := by decide +kernel
theorem dX12_fewest_20 : decode cX12_fewest 20 = .ok (.iconst 1, 1) := dgq (p := 0) daX12_fewest_20 dbX12_fewest_20.1
theorem dX12_fewest_21 : decode cX12_fewest 21 = .ok (.istore_n 2, 1) := dgq (p := 1) daX12_fewest_20 dbX12_fewest_20.2.1
theorem dX12_fewest_22 : decode cX12_fewest 22 = .ok (.sipush 137, 3) := dgq (p := 2) daX12_fewest_20 dbX12_fewest_20.2.2.1
theorem dX12_fewest_25 : decode cX12_fewest 25 = .ok (.iload_n 1, 1) := dgq (p := 5) daX12_fewest_20 dbX12_fewest_20.2.2.2.1
theorem dX12_fewest_26 : decode cX12_fewest 26 = .ok (.imul, 1) := dgq (p := 6) daX12_fewest_20 dbX12_fewest_20.2.2.2.2.1
theorem dX12_fewest_27 : decode cX12_fewest 27 = .ok (.bipush 100, 2) := dgq (p := 7) daX12_fewest_20 dbX12_fewest_20.2.2.2.2.2.1
theorem dX12_fewest_29 : decode cX12_fewest 29 = .ok (.sipush 137, 3) := dgq (p := 9) daX12_fewest_20 dbX12_fewest_20.2.2.2.2.2.2.1
theorem dX12_fewest_32 : decode cX12_fewest 32 = .ok (.bipush 8, 2) := dgq (p := 12) daX12_fewest_20 dbX12_fewest_20.2.2.2.2.2.2.2.1
theorem dX12_fewest_34 : decode cX12_fewest 34 = .ok (.iload_n 2, 1) := dgq (p := 14) daX12_fewest_20 dbX12_fewest_20.2.2.2.2.2.2.2.2.1
theorem dX12_fewest_35 : decode cX12_fewest 35 = .ok (.imul, 1) := dgq (p := 15) daX12_fewest_20 dbX12_fewest_20.2.2.2.2.2.2.2.2.2
def dsX12_fewest_36 : ByteArray := ⟨#[100, 104, 162, 0, 9, 132, 2, 1, 167, 255, 234, 42, 28, 182, 0, 153, 172]⟩
theorem daX12_fewest_36 : agB cX12_fewest dsX12_fewest_36 36 := agB_of (n := 17) (by decide +kernel)
theorem dbX12_fewest_36 : (decode dsX12_fewest_36 0 = .ok (.isub, 1) ∧ okop dsX12_fewest_36 0 = true) ∧ (decode dsX12_fewest_36 1 = .ok (.imul, 1) ∧ okop dsX12_fewest_36 1 = true) ∧ (decode dsX12_fewest_36 2 = .ok (.if_icmp .ge 9, 3) ∧ okop dsX12_fewest_36 2 = true) ∧ (decode dsX12_fewest_36 5 = .ok (.iinc 2 1, 3) ∧ okop dsX12_fewest_36 5 = true) ∧ (decode dsX12_fewest_36 8 = .ok (.goto (-22), 3) ∧ okop dsX12_fewest_36 8 = true) ∧ (decode dsX12_fewest_36 11 = .ok (.aload_n 0, 1) ∧ okop dsX12_fewest_36 11 = true) ∧ (decode dsX12_fewest_36 12 = .ok (.iload_n 2, 1) ∧ okop dsX12_fewest_36 12 = true) ∧ (decode dsX12_fewest_36 13 = .ok (.invokevirtual 153, 3) ∧ okop dsX12_fewest_36 13 = true) ∧ (decode dsX12_fewest_36 16 = .ok (.ireturn, 1) ∧ okop dsX12_fewest_36 16 = true) := by decide +kernel
theorem dX12_fewest_36 : decode cX12_fewest 36 = .ok (.isub, 1) := dgq (p := 0) daX12_fewest_36 dbX12_fewest_36.1
theorem dX12_fewest_37 : decode cX12_fewest 37 = .ok (.imul, 1) := dgq (p := 1) daX12_fewest_36 dbX12_fewest_36.2.1
theorem dX12_fewest_38 : decode cX12_fewest 38 = .ok (.if_icmp .ge 9, 3) := dgq (p := 2) daX12_fewest_36 dbX12_fewest_36.2.2.1
theorem dX12_fewest_41 : decode cX12_fewest 41 = .ok (.iinc 2 1, 3) := dgq (p := 5) daX12_fewest_36 dbX12_fewest_36.2.2.2.1
theorem dX12_fewest_44 : decode cX12_fewest 44 = .ok (.goto (-22), 3) := dgq (p := 8) daX12_fewest_36 dbX12_fewest_36.2.2.2.2.1
theorem dX12_fewest_47 : decode cX12_fewest 47 = .ok (.aload_n 0, 1) := dgq (p := 11) daX12_fewest_36 dbX12_fewest_36.2.2.2.2.2.1
theorem dX12_fewest_48 : decode cX12_fewest 48 = .ok (.iload_n 2, 1) := dgq (p := 12) daX12_fewest_36 dbX12_fewest_36.2.2.2.2.2.2.1
theorem dX12_fewest_49 : decode cX12_fewest 49 = .ok (.invokevirtual 153, 3) := dgq (p := 13) daX12_fewest_36 dbX12_fewest_36.2.2.2.2.2.2.2.1
theorem dX12_fewest_52 : decode cX12_fewest 52 = .ok (.ireturn, 1) := dgq (p := 16) daX12_fewest_36 dbX12_fewest_36.2.2.2.2.2.2.2.2
set_option maxRecDepth 20000 in
theorem ggX12_doPair_X12_isGear : GoodIn wsX12_doPair wsX12_isGear := goodIn_ca (goodIn_ca (goodIn_q _ [5, 6, 7, 8, 9, 10, 11, 12, 13, 14, 4, 15] rfl (by decide +kernel)) (goodIn_sub (fun _ h => (List.mem_cons_of_mem _ (List.mem_append_left _ (List.mem_append_left _ (List.mem_append_right _ h))))) tg_wsX120)) (goodIn_sub (fun _ h => (List.mem_cons_of_mem _ (List.mem_append_left _ (List.mem_append_right _ h)))) tg_wsJx4a65c0)
set_option maxRecDepth 20000 in
theorem gX12_doPair_X12_isGear : GoodIn wsX12_doPair (wsV RX12 121 RX12 yX12_isGear wsX12_isGear) := goodIn_app (goodIn_q _ [1, 2, 3, 4] rfl (by decide +kernel)) ggX12_doPair_X12_isGear
set_option maxRecDepth 20000 in
theorem ggX12_doPair_X12_refuses : GoodIn wsX12_doPair wsX12_refuses := goodIn_ca (goodIn_q _ [19, 20] rfl (by decide +kernel)) (goodIn_sub (fun _ h => (List.mem_cons_of_mem _ (List.mem_append_left _ (List.mem_append_left _ (List.mem_append_right _ h))))) tg_wsX120)
set_option maxRecDepth 20000 in
theorem gX12_doPair_X12_refuses : GoodIn wsX12_doPair (wsV RX12 182 RX12 yX12_refuses wsX12_refuses) := goodIn_app (goodIn_q _ [16, 17, 18, 4] rfl (by decide +kernel)) ggX12_doPair_X12_refuses
set_option maxRecDepth 20000 in
theorem ggX12_doPair_X12_isPair : GoodIn wsX12_doPair wsX12_isPair := goodIn_ca (goodIn_ca (goodIn_ca (goodIn_q _ [24, 25, 26, 27, 4, 28, 6, 29, 30, 31, 32, 10, 33, 12, 34, 35, 36, 37, 38, 39, 40, 41, 42, 43, 44, 45, 46] rfl (by decide +kernel)) (goodIn_sub (fun _ h => (List.mem_cons_of_mem _ (List.mem_append_right _ h))) tg_wsX100)) (goodIn_sub (fun _ h => (List.mem_cons_of_mem _ (List.mem_append_left _ (List.mem_append_left _ (List.mem_append_right _ h))))) tg_wsX120)) (goodIn_sub (fun _ h => (List.mem_cons_of_mem _ (List.mem_append_left _ (List.mem_append_right _ h)))) tg_wsJx4a65c0)
set_option maxRecDepth 20000 in
theorem gX12_doPair_X12_isPair : GoodIn wsX12_doPair (wsV RX12 125 RX12 yX12_isPair wsX12_isPair) := goodIn_app (goodIn_q _ [21, 22, 23, 4] rfl (by decide +kernel)) ggX12_doPair_X12_isPair
set_option maxRecDepth 20000 in
theorem ggX12_doPair_X12_says : GoodIn wsX12_doPair wsX12_says := goodIn_ca (goodIn_q _ [50, 20] rfl (by decide +kernel)) (goodIn_sub (fun _ h => (List.mem_cons_of_mem _ (List.mem_append_left _ (List.mem_append_left _ (List.mem_append_right _ h))))) tg_wsX120)
set_option maxRecDepth 20000 in
theorem gX12_doPair_X12_says : GoodIn wsX12_doPair (wsV RX12 178 RX12 yX12_says wsX12_says) := goodIn_app (goodIn_q _ [47, 48, 49, 4] rfl (by decide +kernel)) ggX12_doPair_X12_says
def dsX12_doPair_0 : ByteArray := ⟨#[42, 27, 182, 0, 121, 153, 0, 11, 42, 28, 182, 0, 121, 154, 0, 9, 42, 4]⟩
theorem daX12_doPair_0 : agB cX12_doPair dsX12_doPair_0 0 := agB_of (n := 18) (by decide +kernel)
theorem dbX12_doPair_0 : (decode dsX12_doPair_0 0 = .ok (.aload_n 0, 1) ∧ okop dsX12_doPair_0 0 = true) ∧ (decode dsX12_doPair_0 1 = .ok (.iload_n 1, 1) ∧ okop dsX12_doPair_0 1 = true) ∧ (decode dsX12_doPair_0 2 = .ok (.invokevirtual 121, 3) ∧ okop dsX12_doPair_0 2 = true) ∧ (decode dsX12_doPair_0 5 = .ok (.ifCond .eq 11, 3) ∧ okop dsX12_doPair_0 5 = true) ∧ (decode dsX12_doPair_0 8 = .ok (.aload_n 0, 1) ∧ okop dsX12_doPair_0 8 = true) ∧ (decode dsX12_doPair_0 9 = .ok (.iload_n 2, 1) ∧ okop dsX12_doPair_0 9 = true) ∧ (decode dsX12_doPair_0 10 = .ok (.invokevirtual 121, 3) ∧ okop dsX12_doPair_0 10 = true) ∧ (decode dsX12_doPair_0 13 = .ok (.ifCond .ne 9, 3) ∧ okop dsX12_doPair_0 13 = true) ∧ (decode dsX12_doPair_0 16 = .ok (.aload_n 0, 1) ∧ okop dsX12_doPair_0 16 = true) ∧ (decode dsX12_doPair_0 17 = .ok (.iconst 1, 1) ∧ okop dsX12_doPair_0 17 = true) := by decide +kernel
theorem dX12_doPair_0 : decode cX12_doPair 0 = .ok (.aload_n 0, 1) := dgq (p := 0) daX12_doPair_0 dbX12_doPair_0.1
theorem dX12_doPair_1 : decode cX12_doPair 1 = .ok (.iload_n 1, 1) := dgq (p := 1) daX12_doPair_0 dbX12_doPair_0.2.1
theorem dX12_doPair_2 : decode cX12_doPair 2 = .ok (.invokevirtual 121, 3) := dgq (p := 2) daX12_doPair_0 dbX12_doPair_0.2.2.1
theorem dX12_doPair_5 : decode cX12_doPair 5 = .ok (.ifCond .eq 11, 3) := dgq (p := 5) daX12_doPair_0 dbX12_doPair_0.2.2.2.1
theorem dX12_doPair_8 : decode cX12_doPair 8 = .ok (.aload_n 0, 1) := dgq (p := 8) daX12_doPair_0 dbX12_doPair_0.2.2.2.2.1
theorem dX12_doPair_9 : decode cX12_doPair 9 = .ok (.iload_n 2, 1) := dgq (p := 9) daX12_doPair_0 dbX12_doPair_0.2.2.2.2.2.1
theorem dX12_doPair_10 : decode cX12_doPair 10 = .ok (.invokevirtual 121, 3) := dgq (p := 10) daX12_doPair_0 dbX12_doPair_0.2.2.2.2.2.2.1
theorem dX12_doPair_13 : decode cX12_doPair 13 = .ok (.ifCond .ne 9, 3) := dgq (p := 13) daX12_doPair_0 dbX12_doPair_0.2.2.2.2.2.2.2.1
theorem dX12_doPair_16 : decode cX12_doPair 16 = .ok (.aload_n 0, 1) := dgq (p := 16) daX12_doPair_0 dbX12_doPair_0.2.2.2.2.2.2.2.2.1
theorem dX12_doPair_17 : decode cX12_doPair 17 = .ok (.iconst 1, 1) := dgq (p := 17) daX12_doPair_0 dbX12_doPair_0.2.2.2.2.2.2.2.2.2
def dsX12_doPair_18 : ByteArray := ⟨#[182, 0, 182, 172, 27, 28, 160, 0, 11, 42, 5, 182, 0, 182, 167, 0, 13, 42]⟩
theorem daX12_doPair_18 : agB cX12_doPair dsX12_doPair_18 18 := agB_of (n := 18) (by decide +kernel)
theorem dbX12_doPair_18 : (decode dsX12_doPair_18 0 = .ok (.invokevirtual 182, 3) ∧ okop dsX12_doPair_18 0 = true) ∧ (decode dsX12_doPair_18 3 = .ok (.ireturn, 1) ∧ okop dsX12_doPair_18 3 = true) ∧ (decode dsX12_doPair_18 4 = .ok (.iload_n 1, 1) ∧ okop dsX12_doPair_18 4 = true) ∧ (decode dsX12_doPair_18 5 = .ok (.iload_n 2, 1) ∧ okop dsX12_doPair_18 5 = true) ∧ (decode dsX12_doPair_18 6 = .ok (.if_icmp .ne 11, 3) ∧ okop dsX12_doPair_18 6 = true) ∧ (decode dsX12_doPair_18 9 = .ok (.aload_n 0, 1) ∧ okop dsX12_doPair_18 9 = true) ∧ (decode dsX12_doPair_18 10 = .ok (.iconst 2, 1) ∧ okop dsX12_doPair_18 10 = true) ∧ (decode dsX12_doPair_18 11 = .ok (.invokevirtual 182, 3) ∧ okop dsX12_doPair_18 11 = true) ∧ (decode dsX12_doPair_18 14 = .ok (.goto 13, 3) ∧ okop dsX12_doPair_18 14 = true) ∧ (decode dsX12_doPair_18 17 = .ok (.aload_n 0, 1) ∧ okop dsX12_doPair_18 17 = true) := by decide +kernel
theorem dX12_doPair_18 : decode cX12_doPair 18 = .ok (.invokevirtual 182, 3) := dgq (p := 0) daX12_doPair_18 dbX12_doPair_18.1
theorem dX12_doPair_21 : decode cX12_doPair 21 = .ok (.ireturn, 1) := dgq (p := 3) daX12_doPair_18 dbX12_doPair_18.2.1
theorem dX12_doPair_22 : decode cX12_doPair 22 = .ok (.iload_n 1, 1) := dgq (p := 4) daX12_doPair_18 dbX12_doPair_18.2.2.1
theorem dX12_doPair_23 : decode cX12_doPair 23 = .ok (.iload_n 2, 1) := dgq (p := 5) daX12_doPair_18 dbX12_doPair_18.2.2.2.1
theorem dX12_doPair_24 : decode cX12_doPair 24 = .ok (.if_icmp .ne 11, 3) := dgq (p := 6) daX12_doPair_18 dbX12_doPair_18.2.2.2.2.1
theorem dX12_doPair_27 : decode cX12_doPair 27 = .ok (.aload_n 0, 1) := dgq (p := 9) daX12_doPair_18 dbX12_doPair_18.2.2.2.2.2.1
theorem dX12_doPair_28 : decode cX12_doPair 28 = .ok (.iconst 2, 1) := dgq (p := 10) daX12_doPair_18 dbX12_doPair_18.2.2.2.2.2.2.1
theorem dX12_doPair_29 : decode cX12_doPair 29 = .ok (.invokevirtual 182, 3) := dgq (p := 11) daX12_doPair_18 dbX12_doPair_18.2.2.2.2.2.2.2.1
theorem dX12_doPair_32 : decode cX12_doPair 32 = .ok (.goto 13, 3) := dgq (p := 14) daX12_doPair_18 dbX12_doPair_18.2.2.2.2.2.2.2.2.1
theorem dX12_doPair_35 : decode cX12_doPair 35 = .ok (.aload_n 0, 1) := dgq (p := 17) daX12_doPair_18 dbX12_doPair_18.2.2.2.2.2.2.2.2.2
def dsX12_doPair_36 : ByteArray := ⟨#[42, 27, 28, 182, 0, 125, 182, 0, 178, 172]⟩
theorem daX12_doPair_36 : agB cX12_doPair dsX12_doPair_36 36 := agB_of (n := 10) (by decide +kernel)
theorem dbX12_doPair_36 : (decode dsX12_doPair_36 0 = .ok (.aload_n 0, 1) ∧ okop dsX12_doPair_36 0 = true) ∧ (decode dsX12_doPair_36 1 = .ok (.iload_n 1, 1) ∧ okop dsX12_doPair_36 1 = true) ∧ (decode dsX12_doPair_36 2 = .ok (.iload_n 2, 1) ∧ okop dsX12_doPair_36 2 = true) ∧ (decode dsX12_doPair_36 3 = .ok (.invokevirtual 125, 3) ∧ okop dsX12_doPair_36 3 = true) ∧ (decode dsX12_doPair_36 6 = .ok (.invokevirtual 178, 3) ∧ okop dsX12_doPair_36 6 = true) ∧ (decode dsX12_doPair_36 9 = .ok (.ireturn, 1) ∧ okop dsX12_doPair_36 9 = true) := by decide +kernel
theorem dX12_doPair_36 : decode cX12_doPair 36 = .ok (.aload_n 0, 1) := dgq (p := 0) daX12_doPair_36 dbX12_doPair_36.1
theorem dX12_doPair_37 : decode cX12_doPair 37 = .ok (.iload_n 1, 1) := dgq (p := 1) daX12_doPair_36 dbX12_doPair_36.2.1
theorem dX12_doPair_38 : decode cX12_doPair 38 = .ok (.iload_n 2, 1) := dgq (p := 2) daX12_doPair_36 dbX12_doPair_36.2.2.1
theorem dX12_doPair_39 : decode cX12_doPair 39 = .ok (.invokevirtual 125, 3) := dgq (p := 3) daX12_doPair_36 dbX12_doPair_36.2.2.2.1
theorem dX12_doPair_42 : decode cX12_doPair 42 = .ok (.invokevirtual 178, 3) := dgq (p := 6) daX12_doPair_36 dbX12_doPair_36.2.2.2.2.1
theorem dX12_doPair_45 : decode cX12_doPair 45 = .ok (.ireturn, 1) := dgq (p := 9) daX12_doPair_36 dbX12_doPair_36.2.2.2.2.2
set_option maxRecDepth 20000 in
theorem ggX12_contactOf_X10_across : GoodIn wsX12_contactOf wsX10_across := goodIn_ca (goodIn_q _ [14, 15, 16] rfl (by decide +kernel)) (goodIn_sub (fun _ h => (List.mem_cons_of_mem _ (List.mem_append_left _ (List.mem_append_right _ h)))) tg_wsX100)
set_option maxRecDepth 20000 in
theorem gX12_contactOf_X10_across : GoodIn wsX12_contactOf (wsV RX12 167 RX10 yX10_across wsX10_across) := goodIn_app (goodIn_q _ [10, 11, 12, 13] rfl (by decide +kernel)) ggX12_contactOf_X10_across
set_option maxRecDepth 20000 in
theorem ggX12_contactOf_X10_line : GoodIn wsX12_contactOf wsX10_line := goodIn_ca (goodIn_q _ [20, 21, 22, 23, 24, 25, 13, 26, 27, 16, 28, 29, 11, 12, 14, 15, 30, 31, 32, 33, 34] rfl (by decide +kernel)) (goodIn_sub (fun _ h => (List.mem_cons_of_mem _ (List.mem_append_left _ (List.mem_append_right _ h)))) tg_wsX100)
set_option maxRecDepth 20000 in
theorem gX12_contactOf_X10_line : GoodIn wsX12_contactOf (wsV RX12 188 RX10 yX10_line wsX10_line) := goodIn_app (goodIn_q _ [17, 18, 19, 13] rfl (by decide +kernel)) ggX12_contactOf_X10_line
set_option maxRecDepth 20000 in
theorem ggX12_contactOf_X12_root : GoodIn wsX12_contactOf wsX12_root := goodIn_q _ [32, 33, 34] rfl (by decide +kernel)
set_option maxRecDepth 20000 in
theorem gX12_contactOf_X12_root : GoodIn wsX12_contactOf (va_wsS RX12 195 yX12_root wsX12_root) := goodIn_app (goodIn_q _ [35, 30, 31] rfl (by decide +kernel)) ggX12_contactOf_X12_root
def dsX12_contactOf_0 : ByteArray := ⟨#[43, 182, 0, 167, 44, 182, 0, 167, 97, 66, 43, 43, 180, 0, 164, 182, 0, 188]⟩
theorem daX12_contactOf_0 : agB cX12_contactOf dsX12_contactOf_0 0 := agB_of (n := 18) (by decide +kernel)
theorem dbX12_contactOf_0 : (decode dsX12_contactOf_0 0 = .ok (.aload_n 1, 1) ∧ okop dsX12_contactOf_0 0 = true) ∧ (decode dsX12_contactOf_0 1 = .ok (.invokevirtual 167, 3) ∧ okop dsX12_contactOf_0 1 = true) ∧ (decode dsX12_contactOf_0 4 = .ok (.aload_n 2, 1) ∧ okop dsX12_contactOf_0 4 = true) ∧ (decode dsX12_contactOf_0 5 = .ok (.invokevirtual 167, 3) ∧ okop dsX12_contactOf_0 5 = true) ∧ (decode dsX12_contactOf_0 8 = .ok (.ladd, 1) ∧ okop dsX12_contactOf_0 8 = true) ∧ (decode dsX12_contactOf_0 9 = .ok (.lstore_n 3, 1) ∧ okop dsX12_contactOf_0 9 = true) ∧ (decode dsX12_contactOf_0 10 = .ok (.aload_n 1, 1) ∧ okop dsX12_contactOf_0 10 = true) ∧ (decode dsX12_contactOf_0 11 = .ok (.aload_n 1, 1) ∧ okop dsX12_contactOf_0 11 = true) ∧ (decode dsX12_contactOf_0 12 = .ok (.getfield 164, 3) ∧ okop dsX12_contactOf_0 12 = true) ∧ (decode dsX12_contactOf_0 15 = .ok (.invokevirtual 188, 3) ∧ okop dsX12_contactOf_0 15 = true) := by decide +kernel
theorem dX12_contactOf_0 : decode cX12_contactOf 0 = .ok (.aload_n 1, 1) := dgq (p := 0) daX12_contactOf_0 dbX12_contactOf_0.1
theorem dX12_contactOf_1 : decode cX12_contactOf 1 = .ok (.invokevirtual 167, 3) := dgq (p := 1) daX12_contactOf_0 dbX12_contactOf_0.2.1
theorem dX12_contactOf_4 : decode cX12_contactOf 4 = .ok (.aload_n 2, 1) := dgq (p := 4) daX12_contactOf_0 dbX12_contactOf_0.2.2.1
theorem dX12_contactOf_5 : decode cX12_contactOf 5 = .ok (.invokevirtual 167, 3) := dgq (p := 5) daX12_contactOf_0 dbX12_contactOf_0.2.2.2.1
theorem dX12_contactOf_8 : decode cX12_contactOf 8 = .ok (.ladd, 1) := dgq (p := 8) daX12_contactOf_0 dbX12_contactOf_0.2.2.2.2.1
theorem dX12_contactOf_9 : decode cX12_contactOf 9 = .ok (.lstore_n 3, 1) := dgq (p := 9) daX12_contactOf_0 dbX12_contactOf_0.2.2.2.2.2.1
theorem dX12_contactOf_10 : decode cX12_contactOf 10 = .ok (.aload_n 1, 1) := dgq (p := 10) daX12_contactOf_0 dbX12_contactOf_0.2.2.2.2.2.2.1
theorem dX12_contactOf_11 : decode cX12_contactOf 11 = .ok (.aload_n 1, 1) := dgq (p := 11) daX12_contactOf_0 dbX12_contactOf_0.2.2.2.2.2.2.2.1
theorem dX12_contactOf_12 : decode cX12_contactOf 12 = .ok (.getfield 164, 3) := dgq (p := 12) daX12_contactOf_0 dbX12_contactOf_0.2.2.2.2.2.2.2.2.1
theorem dX12_contactOf_15 : decode cX12_contactOf 15 = .ok (.invokevirtual 188, 3) := dgq (p := 15) daX12_contactOf_0 dbX12_contactOf_0.2.2.2.2.2.2.2.2.2
def dsX12_contactOf_18 : ByteArray := ⟨#[44, 44, 180, 0, 164, 182, 0, 188, 97, 20, 0, 191, 33, 105, 33, 105]⟩
theorem daX12_contactOf_18 : agB cX12_contactOf dsX12_contactOf_18 18 := agB_of (n := 16) (by decide +kernel)
theorem dbX12_contactOf_18 : (decode dsX12_contactOf_18 0 = .ok (.aload_n 2, 1) ∧ okop dsX12_contactOf_18 0 = true) ∧ (decode dsX12_contactOf_18 1 = .ok (.aload_n 2, 1) ∧ okop dsX12_contactOf_18 1 = true) ∧ (decode dsX12_contactOf_18 2 = .ok (.getfield 164, 3) ∧ okop dsX12_contactOf_18 2 = true) ∧ (decode dsX12_contactOf_18 5 = .ok (.invokevirtual 188, 3) ∧ okop dsX12_contactOf_18 5 = true) ∧ (decode dsX12_contactOf_18 8 = .ok (.ladd, 1) ∧ okop dsX12_contactOf_18 8 = true) ∧ (decode dsX12_contactOf_18 9 = .ok (.ldc2_w 191, 3) ∧ okop dsX12_contactOf_18 9 = true) ∧ (decode dsX12_contactOf_18 12 = .ok (.lload_n 3, 1) ∧ okop dsX12_contactOf_18 12 = true) ∧ (decode dsX12_contactOf_18 13 = .ok (.lmul, 1) ∧ okop dsX12_contactOf_18 13 = true) ∧ (decode dsX12_contactOf_18 14 = .ok (.lload_n 3, 1) ∧ okop dsX12_contactOf_18 14 = true) ∧ (decode dsX12_contactOf_18 15 = .ok (.lmul, 1) ∧ okop dsX12_contactOf_18 15 = true) := by decide +kernel
theorem dX12_contactOf_18 : decode cX12_contactOf 18 = .ok (.aload_n 2, 1) := dgq (p := 0) daX12_contactOf_18 dbX12_contactOf_18.1
theorem dX12_contactOf_19 : decode cX12_contactOf 19 = .ok (.aload_n 2, 1) := dgq (p := 1) daX12_contactOf_18 dbX12_contactOf_18.2.1
theorem dX12_contactOf_20 : decode cX12_contactOf 20 = .ok (.getfield 164, 3) := dgq (p := 2) daX12_contactOf_18 dbX12_contactOf_18.2.2.1
theorem dX12_contactOf_23 : decode cX12_contactOf 23 = .ok (.invokevirtual 188, 3) := dgq (p := 5) daX12_contactOf_18 dbX12_contactOf_18.2.2.2.1
theorem dX12_contactOf_26 : decode cX12_contactOf 26 = .ok (.ladd, 1) := dgq (p := 8) daX12_contactOf_18 dbX12_contactOf_18.2.2.2.2.1
theorem dX12_contactOf_27 : decode cX12_contactOf 27 = .ok (.ldc2_w 191, 3) := dgq (p := 9) daX12_contactOf_18 dbX12_contactOf_18.2.2.2.2.2.1
theorem dX12_contactOf_30 : decode cX12_contactOf 30 = .ok (.lload_n 3, 1) := dgq (p := 12) daX12_contactOf_18 dbX12_contactOf_18.2.2.2.2.2.2.1
theorem dX12_contactOf_31 : decode cX12_contactOf 31 = .ok (.lmul, 1) := dgq (p := 13) daX12_contactOf_18 dbX12_contactOf_18.2.2.2.2.2.2.2.1
theorem dX12_contactOf_32 : decode cX12_contactOf 32 = .ok (.lload_n 3, 1) := dgq (p := 14) daX12_contactOf_18 dbX12_contactOf_18.2.2.2.2.2.2.2.2.1
theorem dX12_contactOf_33 : decode cX12_contactOf 33 = .ok (.lmul, 1) := dgq (p := 15) daX12_contactOf_18 dbX12_contactOf_18.2.2.2.2.2.2.2.2.2
def dsX12_contactOf_34 : ByteArray := ⟨#[20, 0, 193, 109, 184, 0, 195, 101, 55, 5, 20, 0, 199, 43, 180, 0, 115, 133, 105]⟩
theorem daX12_contactOf_34 : agB cX12_contactOf dsX12_contactOf_34 34 := agB_of (n := 19) (by decide +kernel)
theorem dbX12_contactOf_34 : (decode dsX12_contactOf_34 0 = .ok (.ldc2_w 193, 3) ∧ okop dsX12_contactOf_34 0 = true) ∧ (decode dsX12_contactOf_34 3 = .ok (.ldiv, 1) ∧ okop dsX12_contactOf_34 3 = true) ∧ (decode dsX12_contactOf_34 4 = .ok (.invokestatic 195, 3) ∧ okop dsX12_contactOf_34 4 = true) ∧ (decode dsX12_contactOf_34 7 = .ok (.lsub, 1) ∧ okop dsX12_contactOf_34 7 = true) ∧ (decode dsX12_contactOf_34 8 = .ok (.lstore 5, 2) ∧ okop dsX12_contactOf_34 8 = true) ∧ (decode dsX12_contactOf_34 10 = .ok (.ldc2_w 199, 3) ∧ okop dsX12_contactOf_34 10 = true) ∧ (decode dsX12_contactOf_34 13 = .ok (.aload_n 1, 1) ∧ okop dsX12_contactOf_34 13 = true) ∧ (decode dsX12_contactOf_34 14 = .ok (.getfield 115, 3) ∧ okop dsX12_contactOf_34 14 = true) ∧ (decode dsX12_contactOf_34 17 = .ok (.i2l, 1) ∧ okop dsX12_contactOf_34 17 = true) ∧ (decode dsX12_contactOf_34 18 = .ok (.lmul, 1) ∧ okop dsX12_contactOf_34 18 = true) := by decide +kernel
theorem dX12_contactOf_34 : decode cX12_contactOf 34 = .ok (.ldc2_w 193, 3) := dgq (p := 0) daX12_contactOf_34 dbX12_contactOf_34.1
theorem dX12_contactOf_37 : decode cX12_contactOf 37 = .ok (.ldiv, 1) := dgq (p := 3) daX12_contactOf_34 dbX12_contactOf_34.2.1
theorem dX12_contactOf_38 : decode cX12_contactOf 38 = .ok (.invokestatic 195, 3) := dgq (p := 4) daX12_contactOf_34 dbX12_contactOf_34.2.2.1
theorem dX12_contactOf_41 : decode cX12_contactOf 41 = .ok (.lsub, 1) := dgq (p := 7) daX12_contactOf_34 dbX12_contactOf_34.2.2.2.1
theorem dX12_contactOf_42 : decode cX12_contactOf 42 = .ok (.lstore 5, 2) := dgq (p := 8) daX12_contactOf_34 dbX12_contactOf_34.2.2.2.2.1
theorem dX12_contactOf_44 : decode cX12_contactOf 44 = .ok (.ldc2_w 199, 3) := dgq (p := 10) daX12_contactOf_34 dbX12_contactOf_34.2.2.2.2.2.1
theorem dX12_contactOf_47 : decode cX12_contactOf 47 = .ok (.aload_n 1, 1) := dgq (p := 13) daX12_contactOf_34 dbX12_contactOf_34.2.2.2.2.2.2.1
theorem dX12_contactOf_48 : decode cX12_contactOf 48 = .ok (.getfield 115, 3) := dgq (p := 14) daX12_contactOf_34 dbX12_contactOf_34.2.2.2.2.2.2.2.1
theorem dX12_contactOf_51 : decode cX12_contactOf 51 = .ok (.i2l, 1) := dgq (p := 17) daX12_contactOf_34 dbX12_contactOf_34.2.2.2.2.2.2.2.2.1
theorem dX12_contactOf_52 : decode cX12_contactOf 52 = .ok (.lmul, 1) := dgq (p := 18) daX12_contactOf_34 dbX12_contactOf_34.2.2.2.2.2.2.2.2.2
def dsX12_contactOf_53 : ByteArray := ⟨#[20, 0, 199, 105, 43, 180, 0, 115, 133, 105, 20, 0, 193, 109, 184, 0, 195, 20, 0, 201]⟩
theorem daX12_contactOf_53 : agB cX12_contactOf dsX12_contactOf_53 53 := agB_of (n := 20) (by decide +kernel)
theorem dbX12_contactOf_53 : (decode dsX12_contactOf_53 0 = .ok (.ldc2_w 199, 3) ∧ okop dsX12_contactOf_53 0 = true) ∧ (decode dsX12_contactOf_53 3 = .ok (.lmul, 1) ∧ okop dsX12_contactOf_53 3 = true) ∧ (decode dsX12_contactOf_53 4 = .ok (.aload_n 1, 1) ∧ okop dsX12_contactOf_53 4 = true) ∧ (decode dsX12_contactOf_53 5 = .ok (.getfield 115, 3) ∧ okop dsX12_contactOf_53 5 = true) ∧ (decode dsX12_contactOf_53 8 = .ok (.i2l, 1) ∧ okop dsX12_contactOf_53 8 = true) ∧ (decode dsX12_contactOf_53 9 = .ok (.lmul, 1) ∧ okop dsX12_contactOf_53 9 = true) ∧ (decode dsX12_contactOf_53 10 = .ok (.ldc2_w 193, 3) ∧ okop dsX12_contactOf_53 10 = true) ∧ (decode dsX12_contactOf_53 13 = .ok (.ldiv, 1) ∧ okop dsX12_contactOf_53 13 = true) ∧ (decode dsX12_contactOf_53 14 = .ok (.invokestatic 195, 3) ∧ okop dsX12_contactOf_53 14 = true) ∧ (decode dsX12_contactOf_53 17 = .ok (.ldc2_w 201, 3) ∧ okop dsX12_contactOf_53 17 = true) := by decide +kernel
theorem dX12_contactOf_53 : decode cX12_contactOf 53 = .ok (.ldc2_w 199, 3) := dgq (p := 0) daX12_contactOf_53 dbX12_contactOf_53.1
theorem dX12_contactOf_56 : decode cX12_contactOf 56 = .ok (.lmul, 1) := dgq (p := 3) daX12_contactOf_53 dbX12_contactOf_53.2.1
theorem dX12_contactOf_57 : decode cX12_contactOf 57 = .ok (.aload_n 1, 1) := dgq (p := 4) daX12_contactOf_53 dbX12_contactOf_53.2.2.1
theorem dX12_contactOf_58 : decode cX12_contactOf 58 = .ok (.getfield 115, 3) := dgq (p := 5) daX12_contactOf_53 dbX12_contactOf_53.2.2.2.1
theorem dX12_contactOf_61 : decode cX12_contactOf 61 = .ok (.i2l, 1) := dgq (p := 8) daX12_contactOf_53 dbX12_contactOf_53.2.2.2.2.1
theorem dX12_contactOf_62 : decode cX12_contactOf 62 = .ok (.lmul, 1) := dgq (p := 9) daX12_contactOf_53 dbX12_contactOf_53.2.2.2.2.2.1
theorem dX12_contactOf_63 : decode cX12_contactOf 63 = .ok (.ldc2_w 193, 3) := dgq (p := 10) daX12_contactOf_53 dbX12_contactOf_53.2.2.2.2.2.2.1
theorem dX12_contactOf_66 : decode cX12_contactOf 66 = .ok (.ldiv, 1) := dgq (p := 13) daX12_contactOf_53 dbX12_contactOf_53.2.2.2.2.2.2.2.1
theorem dX12_contactOf_67 : decode cX12_contactOf 67 = .ok (.invokestatic 195, 3) := dgq (p := 14) daX12_contactOf_53 dbX12_contactOf_53.2.2.2.2.2.2.2.2.1
theorem dX12_contactOf_70 : decode cX12_contactOf 70 = .ok (.ldc2_w 201, 3) := dgq (p := 17) daX12_contactOf_53 dbX12_contactOf_53.2.2.2.2.2.2.2.2.2
def dsX12_contactOf_73 : ByteArray := ⟨#[109, 55, 7, 9, 20, 0, 139, 22, 5, 105, 22, 7, 109, 184, 0, 203, 173]⟩
theorem daX12_contactOf_73 : agB cX12_contactOf dsX12_contactOf_73 73 := agB_of (n := 17) (by decide +kernel)
theorem dbX12_contactOf_73 : (decode dsX12_contactOf_73 0 = .ok (.ldiv, 1) ∧ okop dsX12_contactOf_73 0 = true) ∧ (decode dsX12_contactOf_73 1 = .ok (.lstore 7, 2) ∧ okop dsX12_contactOf_73 1 = true) ∧ (decode dsX12_contactOf_73 3 = .ok (.lconst 0, 1) ∧ okop dsX12_contactOf_73 3 = true) ∧ (decode dsX12_contactOf_73 4 = .ok (.ldc2_w 139, 3) ∧ okop dsX12_contactOf_73 4 = true) ∧ (decode dsX12_contactOf_73 7 = .ok (.lload 5, 2) ∧ okop dsX12_contactOf_73 7 = true) ∧ (decode dsX12_contactOf_73 9 = .ok (.lmul, 1) ∧ okop dsX12_contactOf_73 9 = true) ∧ (decode dsX12_contactOf_73 10 = .ok (.lload 7, 2) ∧ okop dsX12_contactOf_73 10 = true) ∧ (decode dsX12_contactOf_73 12 = .ok (.ldiv, 1) ∧ okop dsX12_contactOf_73 12 = true) ∧ (decode dsX12_contactOf_73 13 = .ok (.invokestatic 203, 3) ∧ okop dsX12_contactOf_73 13 = true) ∧ (decode dsX12_contactOf_73 16 = .ok (.lreturn, 1) ∧ okop dsX12_contactOf_73 16 = true) := by decide +kernel
theorem dX12_contactOf_73 : decode cX12_contactOf 73 = .ok (.ldiv, 1) := dgq (p := 0) daX12_contactOf_73 dbX12_contactOf_73.1
theorem dX12_contactOf_74 : decode cX12_contactOf 74 = .ok (.lstore 7, 2) := dgq (p := 1) daX12_contactOf_73 dbX12_contactOf_73.2.1
theorem dX12_contactOf_76 : decode cX12_contactOf 76 = .ok (.lconst 0, 1) := dgq (p := 3) daX12_contactOf_73 dbX12_contactOf_73.2.2.1
theorem dX12_contactOf_77 : decode cX12_contactOf 77 = .ok (.ldc2_w 139, 3) := dgq (p := 4) daX12_contactOf_73 dbX12_contactOf_73.2.2.2.1
theorem dX12_contactOf_80 : decode cX12_contactOf 80 = .ok (.lload 5, 2) := dgq (p := 7) daX12_contactOf_73 dbX12_contactOf_73.2.2.2.2.1
theorem dX12_contactOf_82 : decode cX12_contactOf 82 = .ok (.lmul, 1) := dgq (p := 9) daX12_contactOf_73 dbX12_contactOf_73.2.2.2.2.2.1
theorem dX12_contactOf_83 : decode cX12_contactOf 83 = .ok (.lload 7, 2) := dgq (p := 10) daX12_contactOf_73 dbX12_contactOf_73.2.2.2.2.2.2.1
theorem dX12_contactOf_85 : decode cX12_contactOf 85 = .ok (.ldiv, 1) := dgq (p := 12) daX12_contactOf_73 dbX12_contactOf_73.2.2.2.2.2.2.2.1
theorem dX12_contactOf_86 : decode cX12_contactOf 86 = .ok (.invokestatic 203, 3) := dgq (p := 13) daX12_contactOf_73 dbX12_contactOf_73.2.2.2.2.2.2.2.2.1
theorem dX12_contactOf_89 : decode cX12_contactOf 89 = .ok (.lreturn, 1) := dgq (p := 16) daX12_contactOf_73 dbX12_contactOf_73.2.2.2.2.2.2.2.2.2
def dsX12_overlapOf_0 : ByteArray := ⟨#[42, 180, 0, 209, 43, 180, 0, 209, 184, 0, 212, 133, 42, 180, 0, 118, 184, 0, 215, 133]⟩
theorem daX12_overlapOf_0 : agB cX12_overlapOf dsX12_overlapOf_0 0 := agB_of (n := 20) (by decide +kernel)
theorem dbX12_overlapOf_0 : (decode dsX12_overlapOf_0 0 = .ok (.aload_n 0, 1) ∧ okop dsX12_overlapOf_0 0 = true) ∧ (decode dsX12_overlapOf_0 1 = .ok (.getfield 209, 3) ∧ okop dsX12_overlapOf_0 1 = true) ∧ (decode dsX12_overlapOf_0 4 = .ok (.aload_n 1, 1) ∧ okop dsX12_overlapOf_0 4 = true) ∧ (decode dsX12_overlapOf_0 5 = .ok (.getfield 209, 3) ∧ okop dsX12_overlapOf_0 5 = true) ∧ (decode dsX12_overlapOf_0 8 = .ok (.invokestatic 212, 3) ∧ okop dsX12_overlapOf_0 8 = true) ∧ (decode dsX12_overlapOf_0 11 = .ok (.i2l, 1) ∧ okop dsX12_overlapOf_0 11 = true) ∧ (decode dsX12_overlapOf_0 12 = .ok (.aload_n 0, 1) ∧ okop dsX12_overlapOf_0 12 = true) ∧ (decode dsX12_overlapOf_0 13 = .ok (.getfield 118, 3) ∧ okop dsX12_overlapOf_0 13 = true) ∧ (decode dsX12_overlapOf_0 16 = .ok (.invokestatic 215, 3) ∧ okop dsX12_overlapOf_0 16 = true) ∧ (decode dsX12_overlapOf_0 19 = .ok (.i2l, 1) ∧ okop dsX12_overlapOf_0 19 = true) := by decide +kernel
theorem dX12_overlapOf_0 : decode cX12_overlapOf 0 = .ok (.aload_n 0, 1) := dgq (p := 0) daX12_overlapOf_0 dbX12_overlapOf_0.1
theorem dX12_overlapOf_1 : decode cX12_overlapOf 1 = .ok (.getfield 209, 3) := dgq (p := 1) daX12_overlapOf_0 dbX12_overlapOf_0.2.1
theorem dX12_overlapOf_4 : decode cX12_overlapOf 4 = .ok (.aload_n 1, 1) := dgq (p := 4) daX12_overlapOf_0 dbX12_overlapOf_0.2.2.1
theorem dX12_overlapOf_5 : decode cX12_overlapOf 5 = .ok (.getfield 209, 3) := dgq (p := 5) daX12_overlapOf_0 dbX12_overlapOf_0.2.2.2.1
theorem dX12_overlapOf_8 : decode cX12_overlapOf 8 = .ok (.invokestatic 212, 3) := dgq (p := 8) daX12_overlapOf_0 dbX12_overlapOf_0.2.2.2.2.1
theorem dX12_overlapOf_11 : decode cX12_overlapOf 11 = .ok (.i2l, 1) := dgq (p := 11) daX12_overlapOf_0 dbX12_overlapOf_0.2.2.2.2.2.1
theorem dX12_overlapOf_12 : decode cX12_overlapOf 12 = .ok (.aload_n 0, 1) := dgq (p := 12) daX12_overlapOf_0 dbX12_overlapOf_0.2.2.2.2.2.2.1
theorem dX12_overlapOf_13 : decode cX12_overlapOf 13 = .ok (.getfield 118, 3) := dgq (p := 13) daX12_overlapOf_0 dbX12_overlapOf_0.2.2.2.2.2.2.2.1
theorem dX12_overlapOf_16 : decode cX12_overlapOf 16 = .ok (.invokestatic 215, 3) := dgq (p := 16) daX12_overlapOf_0 dbX12_overlapOf_0.2.2.2.2.2.2.2.2.1
theorem dX12_overlapOf_19 : decode cX12_overlapOf 19 = .ok (.i2l, 1) := dgq (p := 19) daX12_overlapOf_0 dbX12_overlapOf_0.2.2.2.2.2.2.2.2.2
def dsX12_overlapOf_20 : ByteArray := ⟨#[105, 20, 0, 201, 105, 20, 0, 218, 42, 180, 0, 115, 133, 105, 109, 173]⟩
theorem daX12_overlapOf_20 : agB cX12_overlapOf dsX12_overlapOf_20 20 := agB_of (n := 16) (by decide +kernel)
theorem dbX12_overlapOf_20 : (decode dsX12_overlapOf_20 0 = .ok (.lmul, 1) ∧ okop dsX12_overlapOf_20 0 = true) ∧ (decode dsX12_overlapOf_20 1 = .ok (.ldc2_w 201, 3) ∧ okop dsX12_overlapOf_20 1 = true) ∧ (decode dsX12_overlapOf_20 4 = .ok (.lmul, 1) ∧ okop dsX12_overlapOf_20 4 = true) ∧ (decode dsX12_overlapOf_20 5 = .ok (.ldc2_w 218, 3) ∧ okop dsX12_overlapOf_20 5 = true) ∧ (decode dsX12_overlapOf_20 8 = .ok (.aload_n 0, 1) ∧ okop dsX12_overlapOf_20 8 = true) ∧ (decode dsX12_overlapOf_20 9 = .ok (.getfield 115, 3) ∧ okop dsX12_overlapOf_20 9 = true) ∧ (decode dsX12_overlapOf_20 12 = .ok (.i2l, 1) ∧ okop dsX12_overlapOf_20 12 = true) ∧ (decode dsX12_overlapOf_20 13 = .ok (.lmul, 1) ∧ okop dsX12_overlapOf_20 13 = true) ∧ (decode dsX12_overlapOf_20 14 = .ok (.ldiv, 1) ∧ okop dsX12_overlapOf_20 14 = true) ∧ (decode dsX12_overlapOf_20 15 = .ok (.lreturn, 1) ∧ okop dsX12_overlapOf_20 15 = true) := by decide +kernel
theorem dX12_overlapOf_20 : decode cX12_overlapOf 20 = .ok (.lmul, 1) := dgq (p := 0) daX12_overlapOf_20 dbX12_overlapOf_20.1
theorem dX12_overlapOf_21 : decode cX12_overlapOf 21 = .ok (.ldc2_w 201, 3) := dgq (p := 1) daX12_overlapOf_20 dbX12_overlapOf_20.2.1
theorem dX12_overlapOf_24 : decode cX12_overlapOf 24 = .ok (.lmul, 1) := dgq (p := 4) daX12_overlapOf_20 dbX12_overlapOf_20.2.2.1
theorem dX12_overlapOf_25 : decode cX12_overlapOf 25 = .ok (.ldc2_w 218, 3) := dgq (p := 5) daX12_overlapOf_20 dbX12_overlapOf_20.2.2.2.1
theorem dX12_overlapOf_28 : decode cX12_overlapOf 28 = .ok (.aload_n 0, 1) := dgq (p := 8) daX12_overlapOf_20 dbX12_overlapOf_20.2.2.2.2.1
theorem dX12_overlapOf_29 : decode cX12_overlapOf 29 = .ok (.getfield 115, 3) := dgq (p := 9) daX12_overlapOf_20 dbX12_overlapOf_20.2.2.2.2.2.1
theorem dX12_overlapOf_32 : decode cX12_overlapOf 32 = .ok (.i2l, 1) := dgq (p := 12) daX12_overlapOf_20 dbX12_overlapOf_20.2.2.2.2.2.2.1
theorem dX12_overlapOf_33 : decode cX12_overlapOf 33 = .ok (.lmul, 1) := dgq (p := 13) daX12_overlapOf_20 dbX12_overlapOf_20.2.2.2.2.2.2.2.1
theorem dX12_overlapOf_34 : decode cX12_overlapOf 34 = .ok (.ldiv, 1) := dgq (p := 14) daX12_overlapOf_20 dbX12_overlapOf_20.2.2.2.2.2.2.2.2.1
theorem dX12_overlapOf_35 : decode cX12_overlapOf 35 = .ok (.lreturn, 1) := dgq (p := 15) daX12_overlapOf_20 dbX12_overlapOf_20.2.2.2.2.2.2.2.2.2
set_option maxRecDepth 20000 in
theorem ggX12_contact_X12_isAsked : GoodIn wsX12_contact wsX12_isAsked := goodIn_ca (goodIn_ca (goodIn_ca (goodIn_q _ [5, 6, 7, 8, 9, 4, 10, 11, 12, 13, 14, 15, 16, 17, 18, 19, 20, 21, 22, 23, 24, 25, 26, 27, 28, 29, 30, 31, 32, 33, 34, 35, 36, 37, 38, 39, 40, 41, 42, 43, 44, 45, 46] rfl (by decide +kernel)) (goodIn_sub (fun _ h => (List.mem_cons_of_mem _ (List.mem_append_left _ (List.mem_append_left _ (List.mem_append_left _ (List.mem_append_right _ h)))))) tg_wsX120)) (goodIn_sub (fun _ h => (List.mem_cons_of_mem _ (List.mem_append_left _ (List.mem_append_left _ (List.mem_append_right _ h))))) tg_wsJx4a65c0)) (goodIn_sub (fun _ h => (List.mem_cons_of_mem _ (List.mem_append_left _ (List.mem_append_right _ h)))) tg_wsX100)
set_option maxRecDepth 20000 in
theorem gX12_contact_X12_isAsked : GoodIn wsX12_contact (wsV RX12 220 RX12 yX12_isAsked wsX12_isAsked) := goodIn_app (goodIn_q _ [1, 2, 3, 4] rfl (by decide +kernel)) ggX12_contact_X12_isAsked
set_option maxRecDepth 20000 in
theorem ggX12_contact_X12_gearAt : GoodIn wsX12_contact wsX12_gearAt := goodIn_ca (goodIn_ca (goodIn_q _ [28, 11, 29, 30, 31, 32, 15, 33, 17, 34, 35, 36, 37, 38, 39, 40, 41, 42, 43, 44, 45, 46] rfl (by decide +kernel)) (goodIn_sub (fun _ h => (List.mem_cons_of_mem _ (List.mem_append_left _ (List.mem_append_left _ (List.mem_append_left _ (List.mem_append_right _ h)))))) tg_wsX120)) (goodIn_sub (fun _ h => (List.mem_cons_of_mem _ (List.mem_append_left _ (List.mem_append_left _ (List.mem_append_right _ h))))) tg_wsJx4a65c0)
set_option maxRecDepth 20000 in
theorem gX12_contact_X12_gearAt : GoodIn wsX12_contact (wsV RX12 111 RX12 yX12_gearAt wsX12_gearAt) := goodIn_app (goodIn_q _ [25, 26, 27, 4] rfl (by decide +kernel)) ggX12_contact_X12_gearAt
set_option maxRecDepth 20000 in
theorem ggX12_contact_X12_contactOf : GoodIn wsX12_contact wsX12_contactOf := goodIn_ca (goodIn_ca (goodIn_q _ [50, 51, 52, 53, 54, 55, 56, 57, 58, 59, 60, 61, 62, 63, 64, 65, 66, 67, 68, 69, 70, 71, 72, 73, 74, 75, 76, 77, 78, 79, 80, 4, 81, 82, 83, 84] rfl (by decide +kernel)) (goodIn_sub (fun _ h => (List.mem_cons_of_mem _ (List.mem_append_left _ (List.mem_append_right _ h)))) tg_wsX100)) (goodIn_sub (fun _ h => List.mem_cons_of_mem _ (List.mem_append_right _ h)) (by decide +kernel))
set_option maxRecDepth 20000 in
theorem gX12_contact_X12_contactOf : GoodIn wsX12_contact (wsV RX12 224 RX12 yX12_contactOf wsX12_contactOf) := goodIn_app (goodIn_q _ [47, 48, 49, 4] rfl (by decide +kernel)) ggX12_contact_X12_contactOf
def dsX12_contact_0 : ByteArray := ⟨#[42, 27, 28, 4, 5, 182, 0, 220, 153, 0, 20, 42, 42, 27]⟩
theorem daX12_contact_0 : agB cX12_contact dsX12_contact_0 0 := agB_of (n := 14) (by decide +kernel)
theorem dbX12_contact_0 : (decode dsX12_contact_0 0 = .ok (.aload_n 0, 1) ∧ okop dsX12_contact_0 0 = true) ∧ (decode dsX12_contact_0 1 = .ok (.iload_n 1, 1) ∧ okop dsX12_contact_0 1 = true) ∧ (decode dsX12_contact_0 2 = .ok (.iload_n 2, 1) ∧ okop dsX12_contact_0 2 = true) ∧ (decode dsX12_contact_0 3 = .ok (.iconst 1, 1) ∧ okop dsX12_contact_0 3 = true) ∧ (decode dsX12_contact_0 4 = .ok (.iconst 2, 1) ∧ okop dsX12_contact_0 4 = true) ∧ (decode dsX12_contact_0 5 = .ok (.invokevirtual 220, 3) ∧ okop dsX12_contact_0 5 = true) ∧ (decode dsX12_contact_0 8 = .ok (.ifCond .eq 20, 3) ∧ okop dsX12_contact_0 8 = true) ∧ (decode dsX12_contact_0 11 = .ok (.aload_n 0, 1) ∧ okop dsX12_contact_0 11 = true) ∧ (decode dsX12_contact_0 12 = .ok (.aload_n 0, 1) ∧ okop dsX12_contact_0 12 = true) ∧ (decode dsX12_contact_0 13 = .ok (.iload_n 1, 1) ∧ okop dsX12_contact_0 13 = true) := by decide +kernel
theorem dX12_contact_0 : decode cX12_contact 0 = .ok (.aload_n 0, 1) := dgq (p := 0) daX12_contact_0 dbX12_contact_0.1
theorem dX12_contact_1 : decode cX12_contact 1 = .ok (.iload_n 1, 1) := dgq (p := 1) daX12_contact_0 dbX12_contact_0.2.1
theorem dX12_contact_2 : decode cX12_contact 2 = .ok (.iload_n 2, 1) := dgq (p := 2) daX12_contact_0 dbX12_contact_0.2.2.1
theorem dX12_contact_3 : decode cX12_contact 3 = .ok (.iconst 1, 1) := dgq (p := 3) daX12_contact_0 dbX12_contact_0.2.2.2.1
theorem dX12_contact_4 : decode cX12_contact 4 = .ok (.iconst 2, 1) := dgq (p := 4) daX12_contact_0 dbX12_contact_0.2.2.2.2.1
theorem dX12_contact_5 : decode cX12_contact 5 = .ok (.invokevirtual 220, 3) := dgq (p := 5) daX12_contact_0 dbX12_contact_0.2.2.2.2.2.1
theorem dX12_contact_8 : decode cX12_contact 8 = .ok (.ifCond .eq 20, 3) := dgq (p := 8) daX12_contact_0 dbX12_contact_0.2.2.2.2.2.2.1
theorem dX12_contact_11 : decode cX12_contact 11 = .ok (.aload_n 0, 1) := dgq (p := 11) daX12_contact_0 dbX12_contact_0.2.2.2.2.2.2.2.1
theorem dX12_contact_12 : decode cX12_contact 12 = .ok (.aload_n 0, 1) := dgq (p := 12) daX12_contact_0 dbX12_contact_0.2.2.2.2.2.2.2.2.1
theorem dX12_contact_13 : decode cX12_contact 13 = .ok (.iload_n 1, 1) := dgq (p := 13) daX12_contact_0 dbX12_contact_0.2.2.2.2.2.2.2.2.2
def dsX12_contact_14 : ByteArray := ⟨#[182, 0, 111, 42, 28, 182, 0, 111, 182, 0, 224, 167, 0, 4, 9, 173]⟩
theorem daX12_contact_14 : agB cX12_contact dsX12_contact_14 14 := agB_of (n := 16) (by decide +kernel)
theorem dbX12_contact_14 : (decode dsX12_contact_14 0 = .ok (.invokevirtual 111, 3) ∧ okop dsX12_contact_14 0 = true) ∧ (decode dsX12_contact_14 3 = .ok (.aload_n 0, 1) ∧ okop dsX12_contact_14 3 = true) ∧ (decode dsX12_contact_14 4 = .ok (.iload_n 2, 1) ∧ okop dsX12_contact_14 4 = true) ∧ (decode dsX12_contact_14 5 = .ok (.invokevirtual 111, 3) ∧ okop dsX12_contact_14 5 = true) ∧ (decode dsX12_contact_14 8 = .ok (.invokevirtual 224, 3) ∧ okop dsX12_contact_14 8 = true) ∧ (decode dsX12_contact_14 11 = .ok (.goto 4, 3) ∧ okop dsX12_contact_14 11 = true) ∧ (decode dsX12_contact_14 14 = .ok (.lconst 0, 1) ∧ okop dsX12_contact_14 14 = true) ∧ (decode dsX12_contact_14 15 = .ok (.lreturn, 1) ∧ okop dsX12_contact_14 15 = true) := by decide +kernel
theorem dX12_contact_14 : decode cX12_contact 14 = .ok (.invokevirtual 111, 3) := dgq (p := 0) daX12_contact_14 dbX12_contact_14.1
theorem dX12_contact_17 : decode cX12_contact 17 = .ok (.aload_n 0, 1) := dgq (p := 3) daX12_contact_14 dbX12_contact_14.2.1
theorem dX12_contact_18 : decode cX12_contact 18 = .ok (.iload_n 2, 1) := dgq (p := 4) daX12_contact_14 dbX12_contact_14.2.2.1
theorem dX12_contact_19 : decode cX12_contact 19 = .ok (.invokevirtual 111, 3) := dgq (p := 5) daX12_contact_14 dbX12_contact_14.2.2.2.1
theorem dX12_contact_22 : decode cX12_contact 22 = .ok (.invokevirtual 224, 3) := dgq (p := 8) daX12_contact_14 dbX12_contact_14.2.2.2.2.1
theorem dX12_contact_25 : decode cX12_contact 25 = .ok (.goto 4, 3) := dgq (p := 11) daX12_contact_14 dbX12_contact_14.2.2.2.2.2.1
theorem dX12_contact_28 : decode cX12_contact 28 = .ok (.lconst 0, 1) := dgq (p := 14) daX12_contact_14 dbX12_contact_14.2.2.2.2.2.2.1
theorem dX12_contact_29 : decode cX12_contact 29 = .ok (.lreturn, 1) := dgq (p := 15) daX12_contact_14 dbX12_contact_14.2.2.2.2.2.2.2
set_option maxRecDepth 20000 in
theorem ggX12_overlap_X12_isAsked : GoodIn wsX12_overlap wsX12_isAsked := goodIn_ca (goodIn_ca (goodIn_ca (goodIn_q _ [5, 6, 7, 8, 9, 4, 10, 11, 12, 13, 14, 15, 16, 17, 18, 19, 20, 21, 22, 23, 24, 25, 26, 27, 28, 29, 30, 31, 32, 33, 34, 35, 36, 37, 38, 39, 40, 41, 42, 43, 44, 45, 46] rfl (by decide +kernel)) (goodIn_sub (fun _ h => (List.mem_cons_of_mem _ (List.mem_append_left _ (List.mem_append_left _ (List.mem_append_left _ (List.mem_append_right _ h)))))) tg_wsX120)) (goodIn_sub (fun _ h => (List.mem_cons_of_mem _ (List.mem_append_left _ (List.mem_append_left _ (List.mem_append_right _ h))))) tg_wsJx4a65c0)) (goodIn_sub (fun _ h => (List.mem_cons_of_mem _ (List.mem_append_left _ (List.mem_append_right _ h)))) tg_wsX100)
set_option maxRecDepth 20000 in
theorem gX12_overlap_X12_isAsked : GoodIn wsX12_overlap (wsV RX12 220 RX12 yX12_isAsked wsX12_isAsked) := goodIn_app (goodIn_q _ [1, 2, 3, 4] rfl (by decide +kernel)) ggX12_overlap_X12_isAsked
set_option maxRecDepth 20000 in
theorem ggX12_overlap_X12_gearAt : GoodIn wsX12_overlap wsX12_gearAt := goodIn_ca (goodIn_ca (goodIn_q _ [28, 11, 29, 30, 31, 32, 15, 33, 17, 34, 35, 36, 37, 38, 39, 40, 41, 42, 43, 44, 45, 46] rfl (by decide +kernel)) (goodIn_sub (fun _ h => (List.mem_cons_of_mem _ (List.mem_append_left _ (List.mem_append_left _ (List.mem_append_left _ (List.mem_append_right _ h)))))) tg_wsX120)) (goodIn_sub (fun _ h => (List.mem_cons_of_mem _ (List.mem_append_left _ (List.mem_append_left _ (List.mem_append_right _ h))))) tg_wsJx4a65c0)
set_option maxRecDepth 20000 in
theorem gX12_overlap_X12_gearAt : GoodIn wsX12_overlap (wsV RX12 111 RX12 yX12_gearAt wsX12_gearAt) := goodIn_app (goodIn_q _ [25, 26, 27, 4] rfl (by decide +kernel)) ggX12_overlap_X12_gearAt
set_option maxRecDepth 20000 in
theorem ggX12_overlap_X12_overlapOf : GoodIn wsX12_overlap wsX12_overlapOf := goodIn_ca (goodIn_ca (goodIn_q _ [49, 50, 51, 52, 53, 54, 55, 56, 57, 58] rfl (by decide +kernel)) (goodIn_sub (fun _ h => (List.mem_cons_of_mem _ (List.mem_append_left _ (List.mem_append_right _ h)))) tg_wsX100)) (goodIn_sub (fun _ h => List.mem_cons_of_mem _ (List.mem_append_right _ h)) (by decide +kernel))
set_option maxRecDepth 20000 in
theorem gX12_overlap_X12_overlapOf : GoodIn wsX12_overlap (va_wsS RX12 228 yX12_overlapOf wsX12_overlapOf) := goodIn_app (goodIn_q _ [47, 48, 4] rfl (by decide +kernel)) ggX12_overlap_X12_overlapOf
def dsX12_overlap_0 : ByteArray := ⟨#[42, 27, 28, 4, 5, 182, 0, 220, 153, 0, 19, 42, 27, 182, 0, 111]⟩
theorem daX12_overlap_0 : agB cX12_overlap dsX12_overlap_0 0 := agB_of (n := 16) (by decide +kernel)
theorem dbX12_overlap_0 : (decode dsX12_overlap_0 0 = .ok (.aload_n 0, 1) ∧ okop dsX12_overlap_0 0 = true) ∧ (decode dsX12_overlap_0 1 = .ok (.iload_n 1, 1) ∧ okop dsX12_overlap_0 1 = true) ∧ (decode dsX12_overlap_0 2 = .ok (.iload_n 2, 1) ∧ okop dsX12_overlap_0 2 = true) ∧ (decode dsX12_overlap_0 3 = .ok (.iconst 1, 1) ∧ okop dsX12_overlap_0 3 = true) ∧ (decode dsX12_overlap_0 4 = .ok (.iconst 2, 1) ∧ okop dsX12_overlap_0 4 = true) ∧ (decode dsX12_overlap_0 5 = .ok (.invokevirtual 220, 3) ∧ okop dsX12_overlap_0 5 = true) ∧ (decode dsX12_overlap_0 8 = .ok (.ifCond .eq 19, 3) ∧ okop dsX12_overlap_0 8 = true) ∧ (decode dsX12_overlap_0 11 = .ok (.aload_n 0, 1) ∧ okop dsX12_overlap_0 11 = true) ∧ (decode dsX12_overlap_0 12 = .ok (.iload_n 1, 1) ∧ okop dsX12_overlap_0 12 = true) ∧ (decode dsX12_overlap_0 13 = .ok (.invokevirtual 111, 3) ∧ okop dsX12_overlap_0 13 = true) := by decide +kernel
theorem dX12_overlap_0 : decode cX12_overlap 0 = .ok (.aload_n 0, 1) := dgq (p := 0) daX12_overlap_0 dbX12_overlap_0.1
theorem dX12_overlap_1 : decode cX12_overlap 1 = .ok (.iload_n 1, 1) := dgq (p := 1) daX12_overlap_0 dbX12_overlap_0.2.1
theorem dX12_overlap_2 : decode cX12_overlap 2 = .ok (.iload_n 2, 1) := dgq (p := 2) daX12_overlap_0 dbX12_overlap_0.2.2.1
theorem dX12_overlap_3 : decode cX12_overlap 3 = .ok (.iconst 1, 1) := dgq (p := 3) daX12_overlap_0 dbX12_overlap_0.2.2.2.1
theorem dX12_overlap_4 : decode cX12_overlap 4 = .ok (.iconst 2, 1) := dgq (p := 4) daX12_overlap_0 dbX12_overlap_0.2.2.2.2.1
theorem dX12_overlap_5 : decode cX12_overlap 5 = .ok (.invokevirtual 220, 3) := dgq (p := 5) daX12_overlap_0 dbX12_overlap_0.2.2.2.2.2.1
theorem dX12_overlap_8 : decode cX12_overlap 8 = .ok (.ifCond .eq 19, 3) := dgq (p := 8) daX12_overlap_0 dbX12_overlap_0.2.2.2.2.2.2.1
theorem dX12_overlap_11 : decode cX12_overlap 11 = .ok (.aload_n 0, 1) := dgq (p := 11) daX12_overlap_0 dbX12_overlap_0.2.2.2.2.2.2.2.1
theorem dX12_overlap_12 : decode cX12_overlap 12 = .ok (.iload_n 1, 1) := dgq (p := 12) daX12_overlap_0 dbX12_overlap_0.2.2.2.2.2.2.2.2.1
theorem dX12_overlap_13 : decode cX12_overlap 13 = .ok (.invokevirtual 111, 3) := dgq (p := 13) daX12_overlap_0 dbX12_overlap_0.2.2.2.2.2.2.2.2.2
def dsX12_overlap_16 : ByteArray := ⟨#[42, 28, 182, 0, 111, 184, 0, 228, 167, 0, 4, 9, 173]⟩
theorem daX12_overlap_16 : agB cX12_overlap dsX12_overlap_16 16 := agB_of (n := 13) (by decide +kernel)
theorem dbX12_overlap_16 : (decode dsX12_overlap_16 0 = .ok (.aload_n 0, 1) ∧ okop dsX12_overlap_16 0 = true) ∧ (decode dsX12_overlap_16 1 = .ok (.iload_n 2, 1) ∧ okop dsX12_overlap_16 1 = true) ∧ (decode dsX12_overlap_16 2 = .ok (.invokevirtual 111, 3) ∧ okop dsX12_overlap_16 2 = true) ∧ (decode dsX12_overlap_16 5 = .ok (.invokestatic 228, 3) ∧ okop dsX12_overlap_16 5 = true) ∧ (decode dsX12_overlap_16 8 = .ok (.goto 4, 3) ∧ okop dsX12_overlap_16 8 = true) ∧ (decode dsX12_overlap_16 11 = .ok (.lconst 0, 1) ∧ okop dsX12_overlap_16 11 = true) ∧ (decode dsX12_overlap_16 12 = .ok (.lreturn, 1) ∧ okop dsX12_overlap_16 12 = true) := by decide +kernel
theorem dX12_overlap_16 : decode cX12_overlap 16 = .ok (.aload_n 0, 1) := dgq (p := 0) daX12_overlap_16 dbX12_overlap_16.1
theorem dX12_overlap_17 : decode cX12_overlap 17 = .ok (.iload_n 2, 1) := dgq (p := 1) daX12_overlap_16 dbX12_overlap_16.2.1
theorem dX12_overlap_18 : decode cX12_overlap 18 = .ok (.invokevirtual 111, 3) := dgq (p := 2) daX12_overlap_16 dbX12_overlap_16.2.2.1
theorem dX12_overlap_21 : decode cX12_overlap 21 = .ok (.invokestatic 228, 3) := dgq (p := 5) daX12_overlap_16 dbX12_overlap_16.2.2.2.1
theorem dX12_overlap_24 : decode cX12_overlap 24 = .ok (.goto 4, 3) := dgq (p := 8) daX12_overlap_16 dbX12_overlap_16.2.2.2.2.1
theorem dX12_overlap_27 : decode cX12_overlap 27 = .ok (.lconst 0, 1) := dgq (p := 11) daX12_overlap_16 dbX12_overlap_16.2.2.2.2.2.1
theorem dX12_overlap_28 : decode cX12_overlap 28 = .ok (.lreturn, 1) := dgq (p := 12) daX12_overlap_16 dbX12_overlap_16.2.2.2.2.2.2
set_option maxRecDepth 20000 in
theorem ggX12_runsWell_X12_isAsked : GoodIn wsX12_runsWell wsX12_isAsked := goodIn_ca (goodIn_ca (goodIn_ca (goodIn_q _ [6, 7, 8, 9, 10, 5, 11, 12, 13, 14, 15, 16, 17, 18, 19, 20, 21, 22, 23, 24, 25, 26, 27, 28, 29, 30, 31, 32, 33, 34, 35, 36, 37, 38, 39, 40, 41, 42, 43, 44, 45, 46, 47] rfl (by decide +kernel)) (goodIn_sub (fun _ h => (List.mem_cons_of_mem _ (List.mem_append_left _ (List.mem_append_left _ (List.mem_append_right _ h))))) tg_wsX120)) (goodIn_sub (fun _ h => (List.mem_cons_of_mem _ (List.mem_append_left _ (List.mem_append_right _ h)))) tg_wsJx4a65c0)) (goodIn_sub (fun _ h => (List.mem_cons_of_mem _ (List.mem_append_left _ (List.mem_append_left _ (List.mem_append_left _ (List.mem_append_right _ h)))))) tg_wsX100)
set_option maxRecDepth 20000 in
theorem gX12_runsWell_X12_isAsked : GoodIn wsX12_runsWell (wsV RX12 220 RX12 yX12_isAsked wsX12_isAsked) := goodIn_app (goodIn_q _ [2, 3, 4, 5] rfl (by decide +kernel)) ggX12_runsWell_X12_isAsked
set_option maxRecDepth 20000 in
theorem ggX12_runsWell_X12_gearAt : GoodIn wsX12_runsWell wsX12_gearAt := goodIn_ca (goodIn_ca (goodIn_q _ [29, 12, 30, 31, 32, 33, 16, 34, 18, 35, 36, 37, 38, 39, 40, 41, 42, 43, 44, 45, 46, 47] rfl (by decide +kernel)) (goodIn_sub (fun _ h => (List.mem_cons_of_mem _ (List.mem_append_left _ (List.mem_append_left _ (List.mem_append_right _ h))))) tg_wsX120)) (goodIn_sub (fun _ h => (List.mem_cons_of_mem _ (List.mem_append_left _ (List.mem_append_right _ h)))) tg_wsJx4a65c0)
set_option maxRecDepth 20000 in
theorem gX12_runsWell_X12_gearAt : GoodIn wsX12_runsWell (wsV RX12 111 RX12 yX12_gearAt wsX12_gearAt) := goodIn_app (goodIn_q _ [26, 27, 28, 5] rfl (by decide +kernel)) ggX12_runsWell_X12_gearAt
set_option maxRecDepth 20000 in
theorem ggX12_runsWell_X10_isFine : GoodIn wsX12_runsWell wsX10_isFine := goodIn_ca (goodIn_q _ [52, 53, 54, 55, 51, 56, 57, 58, 59, 60, 61] rfl (by decide +kernel)) (goodIn_sub (fun _ h => (List.mem_cons_of_mem _ (List.mem_append_left _ (List.mem_append_left _ (List.mem_append_left _ (List.mem_append_right _ h)))))) tg_wsX100)
set_option maxRecDepth 20000 in
theorem gX12_runsWell_X10_isFine : GoodIn wsX12_runsWell (wsV RX12 231 RX10 yX10_isFine wsX10_isFine) := goodIn_app (goodIn_q _ [48, 49, 50, 51] rfl (by decide +kernel)) ggX12_runsWell_X10_isFine
set_option maxRecDepth 20000 in
theorem ggX12_runsWell_X12_contactOf : GoodIn wsX12_runsWell wsX12_contactOf := goodIn_ca (goodIn_ca (goodIn_q _ [65, 66, 67, 68, 69, 70, 71, 72, 73, 74, 75, 76, 77, 51, 78, 57, 79, 80, 81, 82, 83, 84, 85, 86, 87, 88, 89, 90, 91, 92, 93, 5, 94, 95, 96, 97] rfl (by decide +kernel)) (goodIn_sub (fun _ h => (List.mem_cons_of_mem _ (List.mem_append_left _ (List.mem_append_left _ (List.mem_append_left _ (List.mem_append_right _ h)))))) tg_wsX100)) (goodIn_sub (fun _ h => List.mem_cons_of_mem _ (List.mem_append_right _ h)) (by decide +kernel))
set_option maxRecDepth 20000 in
theorem gX12_runsWell_X12_contactOf : GoodIn wsX12_runsWell (wsV RX12 224 RX12 yX12_contactOf wsX12_contactOf) := goodIn_app (goodIn_q _ [62, 63, 64, 5] rfl (by decide +kernel)) ggX12_runsWell_X12_contactOf
set_option maxRecDepth 20000 in
theorem ggX12_runsWell_X12_overlapOf : GoodIn wsX12_runsWell wsX12_overlapOf := goodIn_ca (goodIn_ca (goodIn_q _ [100, 101, 102, 73, 103, 104, 105, 106, 69, 107] rfl (by decide +kernel)) (goodIn_sub (fun _ h => (List.mem_cons_of_mem _ (List.mem_append_left _ (List.mem_append_left _ (List.mem_append_left _ (List.mem_append_right _ h)))))) tg_wsX100)) (goodIn_sub (fun _ h => List.mem_cons_of_mem _ (List.mem_append_right _ h)) (by decide +kernel))
set_option maxRecDepth 20000 in
theorem gX12_runsWell_X12_overlapOf : GoodIn wsX12_runsWell (va_wsS RX12 228 yX12_overlapOf wsX12_overlapOf) := goodIn_app (goodIn_q _ [98, 99, 5] rfl (by decide +kernel)) ggX12_runsWell_X12_overlapOf
def dsX12_runsWell_0 : ByteArray := ⟨#[42, 27, 28, 4, 5, 182, 0, 220, 154, 0, 5, 3, 172, 42]⟩
theorem daX12_runsWell_0 : agB cX12_runsWell dsX12_runsWell_0 0 := agB_of (n := 14) (by decide +kernel)
theorem dbX12_runsWell_0 : (decode dsX12_runsWell_0 0 = .ok (.aload_n 0, 1) ∧ okop dsX12_runsWell_0 0 = true) ∧ (decode dsX12_runsWell_0 1 = .ok (.iload_n 1, 1) ∧ okop dsX12_runsWell_0 1 = true) ∧ (decode dsX12_runsWell_0 2 = .ok (.iload_n 2, 1) ∧ okop dsX12_runsWell_0 2 = true) ∧ (decode dsX12_runsWell_0 3 = .ok (.iconst 1, 1) ∧ okop dsX12_runsWell_0 3 = true) ∧ (decode dsX12_runsWell_0 4 = .ok (.iconst 2, 1) ∧ okop dsX12_runsWell_0 4 = true) ∧ (decode dsX12_runsWell_0 5 = .ok (.invokevirtual 220, 3) ∧ okop dsX12_runsWell_0 5 = true) ∧ (decode dsX12_runsWell_0 8 = .ok (.ifCond .ne 5, 3) ∧ okop dsX12_runsWell_0 8 = true) ∧ (decode dsX12_runsWell_0 11 = .ok (.iconst 0, 1) ∧ okop dsX12_runsWell_0 11 = true) ∧ (decode dsX12_runsWell_0 12 = .ok (.ireturn, 1) ∧ okop dsX12_runsWell_0 12 = true) ∧ (decode dsX12_runsWell_0 13 = .ok (.aload_n 0, 1) ∧ okop dsX12_runsWell_0 13 = true) := by decide +kernel
theorem dX12_runsWell_0 : decode cX12_runsWell 0 = .ok (.aload_n 0, 1) := dgq (p := 0) daX12_runsWell_0 dbX12_runsWell_0.1
theorem dX12_runsWell_1 : decode cX12_runsWell 1 = .ok (.iload_n 1, 1) := dgq (p := 1) daX12_runsWell_0 dbX12_runsWell_0.2.1
theorem dX12_runsWell_2 : decode cX12_runsWell 2 = .ok (.iload_n 2, 1) := dgq (p := 2) daX12_runsWell_0 dbX12_runsWell_0.2.2.1
theorem dX12_runsWell_3 : decode cX12_runsWell 3 = .ok (.iconst 1, 1) := dgq (p := 3) daX12_runsWell_0 dbX12_runsWell_0.2.2.2.1
theorem dX12_runsWell_4 : decode cX12_runsWell 4 = .ok (.iconst 2, 1) := dgq (p := 4) daX12_runsWell_0 dbX12_runsWell_0.2.2.2.2.1
theorem dX12_runsWell_5 : decode cX12_runsWell 5 = .ok (.invokevirtual 220, 3) := dgq (p := 5) daX12_runsWell_0 dbX12_runsWell_0.2.2.2.2.2.1
theorem dX12_runsWell_8 : decode cX12_runsWell 8 = .ok (.ifCond .ne 5, 3) := dgq (p := 8) daX12_runsWell_0 dbX12_runsWell_0.2.2.2.2.2.2.1
theorem dX12_runsWell_11 : decode cX12_runsWell 11 = .ok (.iconst 0, 1) := dgq (p := 11) daX12_runsWell_0 dbX12_runsWell_0.2.2.2.2.2.2.2.1
theorem dX12_runsWell_12 : decode cX12_runsWell 12 = .ok (.ireturn, 1) := dgq (p := 12) daX12_runsWell_0 dbX12_runsWell_0.2.2.2.2.2.2.2.2.1
theorem dX12_runsWell_13 : decode cX12_runsWell 13 = .ok (.aload_n 0, 1) := dgq (p := 13) daX12_runsWell_0 dbX12_runsWell_0.2.2.2.2.2.2.2.2.2
def dsX12_runsWell_14 : ByteArray := ⟨#[27, 182, 0, 111, 78, 42, 28, 182, 0, 111, 58, 4, 45, 45, 180, 0, 164]⟩
theorem daX12_runsWell_14 : agB cX12_runsWell dsX12_runsWell_14 14 := agB_of (n := 17) (by decide +kernel)
theorem dbX12_runsWell_14 : (decode dsX12_runsWell_14 0 = .ok (.iload_n 1, 1) ∧ okop dsX12_runsWell_14 0 = true) ∧ (decode dsX12_runsWell_14 1 = .ok (.invokevirtual 111, 3) ∧ okop dsX12_runsWell_14 1 = true) ∧ (decode dsX12_runsWell_14 4 = .ok (.astore_n 3, 1) ∧ okop dsX12_runsWell_14 4 = true) ∧ (decode dsX12_runsWell_14 5 = .ok (.aload_n 0, 1) ∧ okop dsX12_runsWell_14 5 = true) ∧ (decode dsX12_runsWell_14 6 = .ok (.iload_n 2, 1) ∧ okop dsX12_runsWell_14 6 = true) ∧ (decode dsX12_runsWell_14 7 = .ok (.invokevirtual 111, 3) ∧ okop dsX12_runsWell_14 7 = true) ∧ (decode dsX12_runsWell_14 10 = .ok (.astore 4, 2) ∧ okop dsX12_runsWell_14 10 = true) ∧ (decode dsX12_runsWell_14 12 = .ok (.aload_n 3, 1) ∧ okop dsX12_runsWell_14 12 = true) ∧ (decode dsX12_runsWell_14 13 = .ok (.aload_n 3, 1) ∧ okop dsX12_runsWell_14 13 = true) ∧ (decode dsX12_runsWell_14 14 = .ok (.getfield 164, 3) ∧ okop dsX12_runsWell_14 14 = true) := by decide +kernel
theorem dX12_runsWell_14 : decode cX12_runsWell 14 = .ok (.iload_n 1, 1) := dgq (p := 0) daX12_runsWell_14 dbX12_runsWell_14.1
theorem dX12_runsWell_15 : decode cX12_runsWell 15 = .ok (.invokevirtual 111, 3) := dgq (p := 1) daX12_runsWell_14 dbX12_runsWell_14.2.1
theorem dX12_runsWell_18 : decode cX12_runsWell 18 = .ok (.astore_n 3, 1) := dgq (p := 4) daX12_runsWell_14 dbX12_runsWell_14.2.2.1
theorem dX12_runsWell_19 : decode cX12_runsWell 19 = .ok (.aload_n 0, 1) := dgq (p := 5) daX12_runsWell_14 dbX12_runsWell_14.2.2.2.1
theorem dX12_runsWell_20 : decode cX12_runsWell 20 = .ok (.iload_n 2, 1) := dgq (p := 6) daX12_runsWell_14 dbX12_runsWell_14.2.2.2.2.1
theorem dX12_runsWell_21 : decode cX12_runsWell 21 = .ok (.invokevirtual 111, 3) := dgq (p := 7) daX12_runsWell_14 dbX12_runsWell_14.2.2.2.2.2.1
theorem dX12_runsWell_24 : decode cX12_runsWell 24 = .ok (.astore 4, 2) := dgq (p := 10) daX12_runsWell_14 dbX12_runsWell_14.2.2.2.2.2.2.1
theorem dX12_runsWell_26 : decode cX12_runsWell 26 = .ok (.aload_n 3, 1) := dgq (p := 12) daX12_runsWell_14 dbX12_runsWell_14.2.2.2.2.2.2.2.1
theorem dX12_runsWell_27 : decode cX12_runsWell 27 = .ok (.aload_n 3, 1) := dgq (p := 13) daX12_runsWell_14 dbX12_runsWell_14.2.2.2.2.2.2.2.2.1
theorem dX12_runsWell_28 : decode cX12_runsWell 28 = .ok (.getfield 164, 3) := dgq (p := 14) daX12_runsWell_14 dbX12_runsWell_14.2.2.2.2.2.2.2.2.2
def dsX12_runsWell_31 : ByteArray := ⟨#[182, 0, 231, 153, 0, 41, 25, 4, 25, 4, 180, 0, 164, 182, 0, 231, 153, 0, 28, 42, 45, 25, 4]⟩
theorem daX12_runsWell_31 : agB cX12_runsWell dsX12_runsWell_31 31 := agB_of (n := 23) (by decide +kernel)
theorem dbX12_runsWell_31 : (decode dsX12_runsWell_31 0 = .ok (.invokevirtual 231, 3) ∧ okop dsX12_runsWell_31 0 = true) ∧ (decode dsX12_runsWell_31 3 = .ok (.ifCond .eq 41, 3) ∧ okop dsX12_runsWell_31 3 = true) ∧ (decode dsX12_runsWell_31 6 = .ok (.aload 4, 2) ∧ okop dsX12_runsWell_31 6 = true) ∧ (decode dsX12_runsWell_31 8 = .ok (.aload 4, 2) ∧ okop dsX12_runsWell_31 8 = true) ∧ (decode dsX12_runsWell_31 10 = .ok (.getfield 164, 3) ∧ okop dsX12_runsWell_31 10 = true) ∧ (decode dsX12_runsWell_31 13 = .ok (.invokevirtual 231, 3) ∧ okop dsX12_runsWell_31 13 = true) ∧ (decode dsX12_runsWell_31 16 = .ok (.ifCond .eq 28, 3) ∧ okop dsX12_runsWell_31 16 = true) ∧ (decode dsX12_runsWell_31 19 = .ok (.aload_n 0, 1) ∧ okop dsX12_runsWell_31 19 = true) ∧ (decode dsX12_runsWell_31 20 = .ok (.aload_n 3, 1) ∧ okop dsX12_runsWell_31 20 = true) ∧ (decode dsX12_runsWell_31 21 = .ok (.aload 4, 2) ∧ okop dsX12_runsWell_31 21 = true) := by decide +kernel
theorem dX12_runsWell_31 : decode cX12_runsWell 31 = .ok (.invokevirtual 231, 3) := dgq (p := 0) daX12_runsWell_31 dbX12_runsWell_31.1
theorem dX12_runsWell_34 : decode cX12_runsWell 34 = .ok (.ifCond .eq 41, 3) := dgq (p := 3) daX12_runsWell_31 dbX12_runsWell_31.2.1
theorem dX12_runsWell_37 : decode cX12_runsWell 37 = .ok (.aload 4, 2) := dgq (p := 6) daX12_runsWell_31 dbX12_runsWell_31.2.2.1
theorem dX12_runsWell_39 : decode cX12_runsWell 39 = .ok (.aload 4, 2) := dgq (p := 8) daX12_runsWell_31 dbX12_runsWell_31.2.2.2.1
theorem dX12_runsWell_41 : decode cX12_runsWell 41 = .ok (.getfield 164, 3) := dgq (p := 10) daX12_runsWell_31 dbX12_runsWell_31.2.2.2.2.1
theorem dX12_runsWell_44 : decode cX12_runsWell 44 = .ok (.invokevirtual 231, 3) := dgq (p := 13) daX12_runsWell_31 dbX12_runsWell_31.2.2.2.2.2.1
theorem dX12_runsWell_47 : decode cX12_runsWell 47 = .ok (.ifCond .eq 28, 3) := dgq (p := 16) daX12_runsWell_31 dbX12_runsWell_31.2.2.2.2.2.2.1
theorem dX12_runsWell_50 : decode cX12_runsWell 50 = .ok (.aload_n 0, 1) := dgq (p := 19) daX12_runsWell_31 dbX12_runsWell_31.2.2.2.2.2.2.2.1
theorem dX12_runsWell_51 : decode cX12_runsWell 51 = .ok (.aload_n 3, 1) := dgq (p := 20) daX12_runsWell_31 dbX12_runsWell_31.2.2.2.2.2.2.2.2.1
theorem dX12_runsWell_52 : decode cX12_runsWell 52 = .ok (.aload 4, 2) := dgq (p := 21) daX12_runsWell_31 dbX12_runsWell_31.2.2.2.2.2.2.2.2.2
def dsX12_runsWell_54 : ByteArray := ⟨#[182, 0, 224, 45, 25, 4, 184, 0, 228, 97, 20, 0, 234, 148, 155, 0, 7, 4, 167, 0, 4]⟩
theorem daX12_runsWell_54 : agB cX12_runsWell dsX12_runsWell_54 54 := agB_of (n := 21) (by decide +kernel)
theorem dbX12_runsWell_54 : (decode dsX12_runsWell_54 0 = .ok (.invokevirtual 224, 3) ∧ okop dsX12_runsWell_54 0 = true) ∧ (decode dsX12_runsWell_54 3 = .ok (.aload_n 3, 1) ∧ okop dsX12_runsWell_54 3 = true) ∧ (decode dsX12_runsWell_54 4 = .ok (.aload 4, 2) ∧ okop dsX12_runsWell_54 4 = true) ∧ (decode dsX12_runsWell_54 6 = .ok (.invokestatic 228, 3) ∧ okop dsX12_runsWell_54 6 = true) ∧ (decode dsX12_runsWell_54 9 = .ok (.ladd, 1) ∧ okop dsX12_runsWell_54 9 = true) ∧ (decode dsX12_runsWell_54 10 = .ok (.ldc2_w 234, 3) ∧ okop dsX12_runsWell_54 10 = true) ∧ (decode dsX12_runsWell_54 13 = .ok (.lcmp, 1) ∧ okop dsX12_runsWell_54 13 = true) ∧ (decode dsX12_runsWell_54 14 = .ok (.ifCond .lt 7, 3) ∧ okop dsX12_runsWell_54 14 = true) ∧ (decode dsX12_runsWell_54 17 = .ok (.iconst 1, 1) ∧ okop dsX12_runsWell_54 17 = true) ∧ (decode dsX12_runsWell_54 18 = .ok (.goto 4, 3) ∧ okop dsX12_runsWell_54 18 = true) := by decide +kernel
theorem dX12_runsWell_54 : decode cX12_runsWell 54 = .ok (.invokevirtual 224, 3) := dgq (p := 0) daX12_runsWell_54 dbX12_runsWell_54.1
theorem dX12_runsWell_57 : decode cX12_runsWell 57 = .ok (.aload_n 3, 1) := dgq (p := 3) daX12_runsWell_54 dbX12_runsWell_54.2.1
theorem dX12_runsWell_58 : decode cX12_runsWell 58 = .ok (.aload 4, 2) := dgq (p := 4) daX12_runsWell_54 dbX12_runsWell_54.2.2.1
theorem dX12_runsWell_60 : decode cX12_runsWell 60 = .ok (.invokestatic 228, 3) := dgq (p := 6) daX12_runsWell_54 dbX12_runsWell_54.2.2.2.1
theorem dX12_runsWell_63 : decode cX12_runsWell 63 = .ok (.ladd, 1) := dgq (p := 9) daX12_runsWell_54 dbX12_runsWell_54.2.2.2.2.1
theorem dX12_runsWell_64 : decode cX12_runsWell 64 = .ok (.ldc2_w 234, 3) := dgq (p := 10) daX12_runsWell_54 dbX12_runsWell_54.2.2.2.2.2.1
theorem dX12_runsWell_67 : decode cX12_runsWell 67 = .ok (.lcmp, 1) := dgq (p := 13) daX12_runsWell_54 dbX12_runsWell_54.2.2.2.2.2.2.1
theorem dX12_runsWell_68 : decode cX12_runsWell 68 = .ok (.ifCond .lt 7, 3) := dgq (p := 14) daX12_runsWell_54 dbX12_runsWell_54.2.2.2.2.2.2.2.1
theorem dX12_runsWell_71 : decode cX12_runsWell 71 = .ok (.iconst 1, 1) := dgq (p := 17) daX12_runsWell_54 dbX12_runsWell_54.2.2.2.2.2.2.2.2.1
theorem dX12_runsWell_72 : decode cX12_runsWell 72 = .ok (.goto 4, 3) := dgq (p := 18) daX12_runsWell_54 dbX12_runsWell_54.2.2.2.2.2.2.2.2.2
theorem dX12_runsWell_75 : decode cX12_runsWell 75 = .ok (.iconst 0, 1) := by decide +kernel
theorem dX12_runsWell_76 : decode cX12_runsWell 76 = .ok (.ireturn, 1) := by decide +kernel
set_option maxRecDepth 20000 in
theorem ggX12_slideOf_X10_way : GoodIn wsX12_slideOf wsX10_way := goodIn_ca (goodIn_q _ [9, 10, 11, 12, 13, 14, 8, 15, 16, 17, 18, 19, 20, 21, 22, 23, 24, 25, 26, 27, 28, 29, 30, 31, 32, 33] rfl (by decide +kernel)) (goodIn_sub (fun _ h => (List.mem_cons_of_mem _ (List.mem_append_right _ h))) tg_wsX100)
set_option maxRecDepth 20000 in
theorem gX12_slideOf_X10_way : GoodIn wsX12_slideOf (wsV RX12 236 RX10 yX10_way wsX10_way) := goodIn_app (goodIn_q _ [5, 6, 7, 8] rfl (by decide +kernel)) ggX12_slideOf_X10_way
def dsX12_slideOf_0 : ByteArray := ⟨#[42, 28, 182, 0, 236, 43, 29, 182, 0, 236, 101, 184, 0, 239, 173]⟩
theorem daX12_slideOf_0 : agB cX12_slideOf dsX12_slideOf_0 0 := agB_of (n := 15) (by decide +kernel)
theorem dbX12_slideOf_0 : (decode dsX12_slideOf_0 0 = .ok (.aload_n 0, 1) ∧ okop dsX12_slideOf_0 0 = true) ∧ (decode dsX12_slideOf_0 1 = .ok (.iload_n 2, 1) ∧ okop dsX12_slideOf_0 1 = true) ∧ (decode dsX12_slideOf_0 2 = .ok (.invokevirtual 236, 3) ∧ okop dsX12_slideOf_0 2 = true) ∧ (decode dsX12_slideOf_0 5 = .ok (.aload_n 1, 1) ∧ okop dsX12_slideOf_0 5 = true) ∧ (decode dsX12_slideOf_0 6 = .ok (.iload_n 3, 1) ∧ okop dsX12_slideOf_0 6 = true) ∧ (decode dsX12_slideOf_0 7 = .ok (.invokevirtual 236, 3) ∧ okop dsX12_slideOf_0 7 = true) ∧ (decode dsX12_slideOf_0 10 = .ok (.lsub, 1) ∧ okop dsX12_slideOf_0 10 = true) ∧ (decode dsX12_slideOf_0 11 = .ok (.invokestatic 239, 3) ∧ okop dsX12_slideOf_0 11 = true) ∧ (decode dsX12_slideOf_0 14 = .ok (.lreturn, 1) ∧ okop dsX12_slideOf_0 14 = true) := by decide +kernel
theorem dX12_slideOf_0 : decode cX12_slideOf 0 = .ok (.aload_n 0, 1) := dgq (p := 0) daX12_slideOf_0 dbX12_slideOf_0.1
theorem dX12_slideOf_1 : decode cX12_slideOf 1 = .ok (.iload_n 2, 1) := dgq (p := 1) daX12_slideOf_0 dbX12_slideOf_0.2.1
theorem dX12_slideOf_2 : decode cX12_slideOf 2 = .ok (.invokevirtual 236, 3) := dgq (p := 2) daX12_slideOf_0 dbX12_slideOf_0.2.2.1
theorem dX12_slideOf_5 : decode cX12_slideOf 5 = .ok (.aload_n 1, 1) := dgq (p := 5) daX12_slideOf_0 dbX12_slideOf_0.2.2.2.1
theorem dX12_slideOf_6 : decode cX12_slideOf 6 = .ok (.iload_n 3, 1) := dgq (p := 6) daX12_slideOf_0 dbX12_slideOf_0.2.2.2.2.1
theorem dX12_slideOf_7 : decode cX12_slideOf 7 = .ok (.invokevirtual 236, 3) := dgq (p := 7) daX12_slideOf_0 dbX12_slideOf_0.2.2.2.2.2.1
theorem dX12_slideOf_10 : decode cX12_slideOf 10 = .ok (.lsub, 1) := dgq (p := 10) daX12_slideOf_0 dbX12_slideOf_0.2.2.2.2.2.2.1
theorem dX12_slideOf_11 : decode cX12_slideOf 11 = .ok (.invokestatic 239, 3) := dgq (p := 11) daX12_slideOf_0 dbX12_slideOf_0.2.2.2.2.2.2.2.1
theorem dX12_slideOf_14 : decode cX12_slideOf 14 = .ok (.lreturn, 1) := dgq (p := 14) daX12_slideOf_0 dbX12_slideOf_0.2.2.2.2.2.2.2.2
set_option maxRecDepth 20000 in
theorem ggX12_slide_X12_isAsked : GoodIn wsX12_slide wsX12_isAsked := goodIn_ca (goodIn_ca (goodIn_ca (goodIn_q _ [5, 6, 7, 8, 9, 4, 10, 11, 12, 13, 14, 15, 16, 17, 18, 19, 20, 21, 22, 23, 24, 25, 26, 27, 28, 29, 30, 31, 32, 33, 34, 35, 36, 37, 38, 39, 40, 41, 42, 43, 44, 45, 46] rfl (by decide +kernel)) (goodIn_sub (fun _ h => (List.mem_cons_of_mem _ (List.mem_append_left _ (List.mem_append_right _ h)))) tg_wsX120)) (goodIn_sub (fun _ h => (List.mem_cons_of_mem _ (List.mem_append_right _ h))) tg_wsJx4a65c0)) (goodIn_sub (fun _ h => (List.mem_cons_of_mem _ (List.mem_append_left _ (List.mem_append_left _ (List.mem_append_right _ h))))) tg_wsX100)
set_option maxRecDepth 20000 in
theorem gX12_slide_X12_isAsked : GoodIn wsX12_slide (wsV RX12 220 RX12 yX12_isAsked wsX12_isAsked) := goodIn_app (goodIn_q _ [1, 2, 3, 4] rfl (by decide +kernel)) ggX12_slide_X12_isAsked
set_option maxRecDepth 20000 in
theorem ggX12_slide_X12_gearAt : GoodIn wsX12_slide wsX12_gearAt := goodIn_ca (goodIn_ca (goodIn_q _ [28, 11, 29, 30, 31, 32, 15, 33, 17, 34, 35, 36, 37, 38, 39, 40, 41, 42, 43, 44, 45, 46] rfl (by decide +kernel)) (goodIn_sub (fun _ h => (List.mem_cons_of_mem _ (List.mem_append_left _ (List.mem_append_right _ h)))) tg_wsX120)) (goodIn_sub (fun _ h => (List.mem_cons_of_mem _ (List.mem_append_right _ h))) tg_wsJx4a65c0)
set_option maxRecDepth 20000 in
theorem gX12_slide_X12_gearAt : GoodIn wsX12_slide (wsV RX12 111 RX12 yX12_gearAt wsX12_gearAt) := goodIn_app (goodIn_q _ [25, 26, 27, 4] rfl (by decide +kernel)) ggX12_slide_X12_gearAt
set_option maxRecDepth 20000 in
theorem ggX12_slide_X12_slideOf : GoodIn wsX12_slide wsX12_slideOf := goodIn_ca (goodIn_q _ [49, 50, 51, 52, 53, 54, 55, 56, 57, 58, 59, 60, 61, 62, 63, 64, 65, 66, 67, 68, 69, 70, 71, 72, 73, 74, 75, 76, 77, 78, 4, 79, 80, 81] rfl (by decide +kernel)) (goodIn_sub (fun _ h => (List.mem_cons_of_mem _ (List.mem_append_left _ (List.mem_append_left _ (List.mem_append_right _ h))))) tg_wsX100)
set_option maxRecDepth 20000 in
theorem gX12_slide_X12_slideOf : GoodIn wsX12_slide (va_wsS RX12 241 yX12_slideOf wsX12_slideOf) := goodIn_app (goodIn_q _ [47, 48, 4] rfl (by decide +kernel)) ggX12_slide_X12_slideOf
def dsX12_slide_0 : ByteArray := ⟨#[42, 27, 28, 4, 5, 182, 0, 220, 153, 0, 35, 42, 27, 182, 0, 111]⟩
theorem daX12_slide_0 : agB cX12_slide dsX12_slide_0 0 := agB_of (n := 16) (by decide +kernel)
theorem dbX12_slide_0 : (decode dsX12_slide_0 0 = .ok (.aload_n 0, 1) ∧ okop dsX12_slide_0 0 = true) ∧ (decode dsX12_slide_0 1 = .ok (.iload_n 1, 1) ∧ okop dsX12_slide_0 1 = true) ∧ (decode dsX12_slide_0 2 = .ok (.iload_n 2, 1) ∧ okop dsX12_slide_0 2 = true) ∧ (decode dsX12_slide_0 3 = .ok (.iconst 1, 1) ∧ okop dsX12_slide_0 3 = true) ∧ (decode dsX12_slide_0 4 = .ok (.iconst 2, 1) ∧ okop dsX12_slide_0 4 = true) ∧ (decode dsX12_slide_0 5 = .ok (.invokevirtual 220, 3) ∧ okop dsX12_slide_0 5 = true) ∧ (decode dsX12_slide_0 8 = .ok (.ifCond .eq 35, 3) ∧ okop dsX12_slide_0 8 = true) ∧ (decode dsX12_slide_0 11 = .ok (.aload_n 0, 1) ∧ okop dsX12_slide_0 11 = true) ∧ (decode dsX12_slide_0 12 = .ok (.iload_n 1, 1) ∧ okop dsX12_slide_0 12 = true) ∧ (decode dsX12_slide_0 13 = .ok (.invokevirtual 111, 3) ∧ okop dsX12_slide_0 13 = true) := by decide +kernel
theorem dX12_slide_0 : decode cX12_slide 0 = .ok (.aload_n 0, 1) := dgq (p := 0) daX12_slide_0 dbX12_slide_0.1
theorem dX12_slide_1 : decode cX12_slide 1 = .ok (.iload_n 1, 1) := dgq (p := 1) daX12_slide_0 dbX12_slide_0.2.1
theorem dX12_slide_2 : decode cX12_slide 2 = .ok (.iload_n 2, 1) := dgq (p := 2) daX12_slide_0 dbX12_slide_0.2.2.1
theorem dX12_slide_3 : decode cX12_slide 3 = .ok (.iconst 1, 1) := dgq (p := 3) daX12_slide_0 dbX12_slide_0.2.2.2.1
theorem dX12_slide_4 : decode cX12_slide 4 = .ok (.iconst 2, 1) := dgq (p := 4) daX12_slide_0 dbX12_slide_0.2.2.2.2.1
theorem dX12_slide_5 : decode cX12_slide 5 = .ok (.invokevirtual 220, 3) := dgq (p := 5) daX12_slide_0 dbX12_slide_0.2.2.2.2.2.1
theorem dX12_slide_8 : decode cX12_slide 8 = .ok (.ifCond .eq 35, 3) := dgq (p := 8) daX12_slide_0 dbX12_slide_0.2.2.2.2.2.2.1
theorem dX12_slide_11 : decode cX12_slide 11 = .ok (.aload_n 0, 1) := dgq (p := 11) daX12_slide_0 dbX12_slide_0.2.2.2.2.2.2.2.1
theorem dX12_slide_12 : decode cX12_slide 12 = .ok (.iload_n 1, 1) := dgq (p := 12) daX12_slide_0 dbX12_slide_0.2.2.2.2.2.2.2.2.1
theorem dX12_slide_13 : decode cX12_slide 13 = .ok (.invokevirtual 111, 3) := dgq (p := 13) daX12_slide_0 dbX12_slide_0.2.2.2.2.2.2.2.2.2
def dsX12_slide_16 : ByteArray := ⟨#[42, 28, 182, 0, 111, 42, 27, 182, 0, 111, 180, 0, 164, 42, 28, 182, 0, 111]⟩
theorem daX12_slide_16 : agB cX12_slide dsX12_slide_16 16 := agB_of (n := 18) (by decide +kernel)
theorem dbX12_slide_16 : (decode dsX12_slide_16 0 = .ok (.aload_n 0, 1) ∧ okop dsX12_slide_16 0 = true) ∧ (decode dsX12_slide_16 1 = .ok (.iload_n 2, 1) ∧ okop dsX12_slide_16 1 = true) ∧ (decode dsX12_slide_16 2 = .ok (.invokevirtual 111, 3) ∧ okop dsX12_slide_16 2 = true) ∧ (decode dsX12_slide_16 5 = .ok (.aload_n 0, 1) ∧ okop dsX12_slide_16 5 = true) ∧ (decode dsX12_slide_16 6 = .ok (.iload_n 1, 1) ∧ okop dsX12_slide_16 6 = true) ∧ (decode dsX12_slide_16 7 = .ok (.invokevirtual 111, 3) ∧ okop dsX12_slide_16 7 = true) ∧ (decode dsX12_slide_16 10 = .ok (.getfield 164, 3) ∧ okop dsX12_slide_16 10 = true) ∧ (decode dsX12_slide_16 13 = .ok (.aload_n 0, 1) ∧ okop dsX12_slide_16 13 = true) ∧ (decode dsX12_slide_16 14 = .ok (.iload_n 2, 1) ∧ okop dsX12_slide_16 14 = true) ∧ (decode dsX12_slide_16 15 = .ok (.invokevirtual 111, 3) ∧ okop dsX12_slide_16 15 = true) := by decide +kernel
theorem dX12_slide_16 : decode cX12_slide 16 = .ok (.aload_n 0, 1) := dgq (p := 0) daX12_slide_16 dbX12_slide_16.1
theorem dX12_slide_17 : decode cX12_slide 17 = .ok (.iload_n 2, 1) := dgq (p := 1) daX12_slide_16 dbX12_slide_16.2.1
theorem dX12_slide_18 : decode cX12_slide 18 = .ok (.invokevirtual 111, 3) := dgq (p := 2) daX12_slide_16 dbX12_slide_16.2.2.1
theorem dX12_slide_21 : decode cX12_slide 21 = .ok (.aload_n 0, 1) := dgq (p := 5) daX12_slide_16 dbX12_slide_16.2.2.2.1
theorem dX12_slide_22 : decode cX12_slide 22 = .ok (.iload_n 1, 1) := dgq (p := 6) daX12_slide_16 dbX12_slide_16.2.2.2.2.1
theorem dX12_slide_23 : decode cX12_slide 23 = .ok (.invokevirtual 111, 3) := dgq (p := 7) daX12_slide_16 dbX12_slide_16.2.2.2.2.2.1
theorem dX12_slide_26 : decode cX12_slide 26 = .ok (.getfield 164, 3) := dgq (p := 10) daX12_slide_16 dbX12_slide_16.2.2.2.2.2.2.1
theorem dX12_slide_29 : decode cX12_slide 29 = .ok (.aload_n 0, 1) := dgq (p := 13) daX12_slide_16 dbX12_slide_16.2.2.2.2.2.2.2.1
theorem dX12_slide_30 : decode cX12_slide 30 = .ok (.iload_n 2, 1) := dgq (p := 14) daX12_slide_16 dbX12_slide_16.2.2.2.2.2.2.2.2.1
theorem dX12_slide_31 : decode cX12_slide 31 = .ok (.invokevirtual 111, 3) := dgq (p := 15) daX12_slide_16 dbX12_slide_16.2.2.2.2.2.2.2.2.2
def dsX12_slide_34 : ByteArray := ⟨#[180, 0, 164, 184, 0, 241, 167, 0, 4, 9, 173]⟩
theorem daX12_slide_34 : agB cX12_slide dsX12_slide_34 34 := agB_of (n := 11) (by decide +kernel)
theorem dbX12_slide_34 : (decode dsX12_slide_34 0 = .ok (.getfield 164, 3) ∧ okop dsX12_slide_34 0 = true) ∧ (decode dsX12_slide_34 3 = .ok (.invokestatic 241, 3) ∧ okop dsX12_slide_34 3 = true) ∧ (decode dsX12_slide_34 6 = .ok (.goto 4, 3) ∧ okop dsX12_slide_34 6 = true) ∧ (decode dsX12_slide_34 9 = .ok (.lconst 0, 1) ∧ okop dsX12_slide_34 9 = true) ∧ (decode dsX12_slide_34 10 = .ok (.lreturn, 1) ∧ okop dsX12_slide_34 10 = true) := by decide +kernel
theorem dX12_slide_34 : decode cX12_slide 34 = .ok (.getfield 164, 3) := dgq (p := 0) daX12_slide_34 dbX12_slide_34.1
theorem dX12_slide_37 : decode cX12_slide 37 = .ok (.invokestatic 241, 3) := dgq (p := 3) daX12_slide_34 dbX12_slide_34.2.1
theorem dX12_slide_40 : decode cX12_slide 40 = .ok (.goto 4, 3) := dgq (p := 6) daX12_slide_34 dbX12_slide_34.2.2.1
theorem dX12_slide_43 : decode cX12_slide 43 = .ok (.lconst 0, 1) := dgq (p := 9) daX12_slide_34 dbX12_slide_34.2.2.2.1
theorem dX12_slide_44 : decode cX12_slide 44 = .ok (.lreturn, 1) := dgq (p := 10) daX12_slide_34 dbX12_slide_34.2.2.2.2
set_option maxRecDepth 20000 in
theorem ggX12_balance_X12_isGear : GoodIn wsX12_balance wsX12_isGear := goodIn_ca (goodIn_ca (goodIn_q _ [5, 6, 7, 8, 9, 10, 11, 12, 13, 14, 4, 15] rfl (by decide +kernel)) (goodIn_sub (fun _ h => (List.mem_cons_of_mem _ (List.mem_append_left _ (List.mem_append_right _ h)))) tg_wsX120)) (goodIn_sub (fun _ h => (List.mem_cons_of_mem _ (List.mem_append_right _ h))) tg_wsJx4a65c0)
set_option maxRecDepth 20000 in
theorem gX12_balance_X12_isGear : GoodIn wsX12_balance (wsV RX12 121 RX12 yX12_isGear wsX12_isGear) := goodIn_app (goodIn_q _ [1, 2, 3, 4] rfl (by decide +kernel)) ggX12_balance_X12_isGear
set_option maxRecDepth 20000 in
theorem ggX12_balance_X12_fails : GoodIn wsX12_balance wsX12_fails := goodIn_ca (goodIn_q _ [19, 20] rfl (by decide +kernel)) (goodIn_sub (fun _ h => (List.mem_cons_of_mem _ (List.mem_append_left _ (List.mem_append_right _ h)))) tg_wsX120)
set_option maxRecDepth 20000 in
theorem gX12_balance_X12_fails : GoodIn wsX12_balance (wsV RX12 143 RX12 yX12_fails wsX12_fails) := goodIn_app (goodIn_q _ [16, 17, 18, 4] rfl (by decide +kernel)) ggX12_balance_X12_fails
set_option maxRecDepth 20000 in
theorem ggX12_balance_X12_isPair : GoodIn wsX12_balance wsX12_isPair := goodIn_ca (goodIn_ca (goodIn_ca (goodIn_q _ [24, 25, 26, 27, 4, 28, 6, 29, 30, 31, 32, 10, 33, 12, 34, 35, 36, 37, 38, 39, 40, 41, 42, 43, 44, 45, 46] rfl (by decide +kernel)) (goodIn_sub (fun _ h => (List.mem_cons_of_mem _ (List.mem_append_left _ (List.mem_append_left _ (List.mem_append_right _ h))))) tg_wsX100)) (goodIn_sub (fun _ h => (List.mem_cons_of_mem _ (List.mem_append_left _ (List.mem_append_right _ h)))) tg_wsX120)) (goodIn_sub (fun _ h => (List.mem_cons_of_mem _ (List.mem_append_right _ h))) tg_wsJx4a65c0)
set_option maxRecDepth 20000 in
theorem gX12_balance_X12_isPair : GoodIn wsX12_balance (wsV RX12 125 RX12 yX12_isPair wsX12_isPair) := goodIn_app (goodIn_q _ [21, 22, 23, 4] rfl (by decide +kernel)) ggX12_balance_X12_isPair
set_option maxRecDepth 20000 in
theorem ggX12_balance_X12_gearAt : GoodIn wsX12_balance wsX12_gearAt := goodIn_ca (goodIn_ca (goodIn_q _ [28, 6, 29, 30, 31, 32, 10, 33, 12, 34, 35, 36, 37, 38, 39, 40, 41, 42, 43, 44, 45, 46] rfl (by decide +kernel)) (goodIn_sub (fun _ h => (List.mem_cons_of_mem _ (List.mem_append_left _ (List.mem_append_right _ h)))) tg_wsX120)) (goodIn_sub (fun _ h => (List.mem_cons_of_mem _ (List.mem_append_right _ h))) tg_wsJx4a65c0)
set_option maxRecDepth 20000 in
theorem gX12_balance_X12_gearAt : GoodIn wsX12_balance (wsV RX12 111 RX12 yX12_gearAt wsX12_gearAt) := goodIn_app (goodIn_q _ [25, 26, 27, 4] rfl (by decide +kernel)) ggX12_balance_X12_gearAt
set_option maxRecDepth 20000 in
theorem ggX12_balance_X10_isFine : GoodIn wsX12_balance wsX10_isFine := goodIn_ca (goodIn_q _ [51, 52, 53, 54, 50, 55, 56, 57, 58, 59, 60] rfl (by decide +kernel)) (goodIn_sub (fun _ h => (List.mem_cons_of_mem _ (List.mem_append_left _ (List.mem_append_left _ (List.mem_append_right _ h))))) tg_wsX100)
set_option maxRecDepth 20000 in
theorem gX12_balance_X10_isFine : GoodIn wsX12_balance (wsV RX12 231 RX10 yX10_isFine wsX10_isFine) := goodIn_app (goodIn_q _ [47, 48, 49, 50] rfl (by decide +kernel)) ggX12_balance_X10_isFine
set_option maxRecDepth 20000 in
theorem ggX12_balance_X12_slideOf : GoodIn wsX12_balance wsX12_slideOf := goodIn_ca (goodIn_q _ [63, 64, 65, 66, 67, 68, 69, 70, 50, 71, 72, 73, 74, 75, 76, 77, 78, 79, 80, 81, 82, 83, 84, 85, 86, 87, 88, 89, 56, 90, 4, 91, 92, 93] rfl (by decide +kernel)) (goodIn_sub (fun _ h => (List.mem_cons_of_mem _ (List.mem_append_left _ (List.mem_append_left _ (List.mem_append_right _ h))))) tg_wsX100)
set_option maxRecDepth 20000 in
theorem gX12_balance_X12_slideOf : GoodIn wsX12_balance (va_wsS RX12 241 yX12_slideOf wsX12_slideOf) := goodIn_app (goodIn_q _ [61, 62, 4] rfl (by decide +kernel)) ggX12_balance_X12_slideOf
set_option maxRecDepth 20000 in
theorem ggX12_balance_X12_answer : GoodIn wsX12_balance wsX12_answer := goodIn_ca (goodIn_q _ [97, 20] rfl (by decide +kernel)) (goodIn_sub (fun _ h => (List.mem_cons_of_mem _ (List.mem_append_left _ (List.mem_append_right _ h)))) tg_wsX120)
set_option maxRecDepth 20000 in
theorem gX12_balance_X12_answer : GoodIn wsX12_balance (wsV RX12 153 RX12 yX12_answer wsX12_answer) := goodIn_app (goodIn_q _ [94, 95, 96, 4] rfl (by decide +kernel)) ggX12_balance_X12_answer
def dsX12_balance_0 : ByteArray := ⟨#[42, 27, 182, 0, 121, 153, 0, 11, 42, 28, 182, 0, 121, 154, 0, 9, 42, 4]⟩
theorem daX12_balance_0 : agB cX12_balance dsX12_balance_0 0 := agB_of (n := 18) (by decide +kernel)
theorem dbX12_balance_0 : (decode dsX12_balance_0 0 = .ok (.aload_n 0, 1) ∧ okop dsX12_balance_0 0 = true) ∧ (decode dsX12_balance_0 1 = .ok (.iload_n 1, 1) ∧ okop dsX12_balance_0 1 = true) ∧ (decode dsX12_balance_0 2 = .ok (.invokevirtual 121, 3) ∧ okop dsX12_balance_0 2 = true) ∧ (decode dsX12_balance_0 5 = .ok (.ifCond .eq 11, 3) ∧ okop dsX12_balance_0 5 = true) ∧ (decode dsX12_balance_0 8 = .ok (.aload_n 0, 1) ∧ okop dsX12_balance_0 8 = true) ∧ (decode dsX12_balance_0 9 = .ok (.iload_n 2, 1) ∧ okop dsX12_balance_0 9 = true) ∧ (decode dsX12_balance_0 10 = .ok (.invokevirtual 121, 3) ∧ okop dsX12_balance_0 10 = true) ∧ (decode dsX12_balance_0 13 = .ok (.ifCond .ne 9, 3) ∧ okop dsX12_balance_0 13 = true) ∧ (decode dsX12_balance_0 16 = .ok (.aload_n 0, 1) ∧ okop dsX12_balance_0 16 = true) ∧ (decode dsX12_balance_0 17 = .ok (.iconst 1, 1) ∧ okop dsX12_balance_0 17 = true) := by decide +kernel
theorem dX12_balance_0 : decode cX12_balance 0 = .ok (.aload_n 0, 1) := dgq (p := 0) daX12_balance_0 dbX12_balance_0.1
theorem dX12_balance_1 : decode cX12_balance 1 = .ok (.iload_n 1, 1) := dgq (p := 1) daX12_balance_0 dbX12_balance_0.2.1
theorem dX12_balance_2 : decode cX12_balance 2 = .ok (.invokevirtual 121, 3) := dgq (p := 2) daX12_balance_0 dbX12_balance_0.2.2.1
theorem dX12_balance_5 : decode cX12_balance 5 = .ok (.ifCond .eq 11, 3) := dgq (p := 5) daX12_balance_0 dbX12_balance_0.2.2.2.1
theorem dX12_balance_8 : decode cX12_balance 8 = .ok (.aload_n 0, 1) := dgq (p := 8) daX12_balance_0 dbX12_balance_0.2.2.2.2.1
theorem dX12_balance_9 : decode cX12_balance 9 = .ok (.iload_n 2, 1) := dgq (p := 9) daX12_balance_0 dbX12_balance_0.2.2.2.2.2.1
theorem dX12_balance_10 : decode cX12_balance 10 = .ok (.invokevirtual 121, 3) := dgq (p := 10) daX12_balance_0 dbX12_balance_0.2.2.2.2.2.2.1
theorem dX12_balance_13 : decode cX12_balance 13 = .ok (.ifCond .ne 9, 3) := dgq (p := 13) daX12_balance_0 dbX12_balance_0.2.2.2.2.2.2.2.1
theorem dX12_balance_16 : decode cX12_balance 16 = .ok (.aload_n 0, 1) := dgq (p := 16) daX12_balance_0 dbX12_balance_0.2.2.2.2.2.2.2.2.1
theorem dX12_balance_17 : decode cX12_balance 17 = .ok (.iconst 1, 1) := dgq (p := 17) daX12_balance_0 dbX12_balance_0.2.2.2.2.2.2.2.2.2
def dsX12_balance_18 : ByteArray := ⟨#[182, 0, 143, 172, 42, 27, 28, 182, 0, 125, 153, 0, 25, 42, 27, 182, 0, 111]⟩
theorem daX12_balance_18 : agB cX12_balance dsX12_balance_18 18 := agB_of (n := 18) (by decide +kernel)
theorem dbX12_balance_18 : (decode dsX12_balance_18 0 = .ok (.invokevirtual 143, 3) ∧ okop dsX12_balance_18 0 = true) ∧ (decode dsX12_balance_18 3 = .ok (.ireturn, 1) ∧ okop dsX12_balance_18 3 = true) ∧ (decode dsX12_balance_18 4 = .ok (.aload_n 0, 1) ∧ okop dsX12_balance_18 4 = true) ∧ (decode dsX12_balance_18 5 = .ok (.iload_n 1, 1) ∧ okop dsX12_balance_18 5 = true) ∧ (decode dsX12_balance_18 6 = .ok (.iload_n 2, 1) ∧ okop dsX12_balance_18 6 = true) ∧ (decode dsX12_balance_18 7 = .ok (.invokevirtual 125, 3) ∧ okop dsX12_balance_18 7 = true) ∧ (decode dsX12_balance_18 10 = .ok (.ifCond .eq 25, 3) ∧ okop dsX12_balance_18 10 = true) ∧ (decode dsX12_balance_18 13 = .ok (.aload_n 0, 1) ∧ okop dsX12_balance_18 13 = true) ∧ (decode dsX12_balance_18 14 = .ok (.iload_n 1, 1) ∧ okop dsX12_balance_18 14 = true) ∧ (decode dsX12_balance_18 15 = .ok (.invokevirtual 111, 3) ∧ okop dsX12_balance_18 15 = true) := by decide +kernel
theorem dX12_balance_18 : decode cX12_balance 18 = .ok (.invokevirtual 143, 3) := dgq (p := 0) daX12_balance_18 dbX12_balance_18.1
theorem dX12_balance_21 : decode cX12_balance 21 = .ok (.ireturn, 1) := dgq (p := 3) daX12_balance_18 dbX12_balance_18.2.1
theorem dX12_balance_22 : decode cX12_balance 22 = .ok (.aload_n 0, 1) := dgq (p := 4) daX12_balance_18 dbX12_balance_18.2.2.1
theorem dX12_balance_23 : decode cX12_balance 23 = .ok (.iload_n 1, 1) := dgq (p := 5) daX12_balance_18 dbX12_balance_18.2.2.2.1
theorem dX12_balance_24 : decode cX12_balance 24 = .ok (.iload_n 2, 1) := dgq (p := 6) daX12_balance_18 dbX12_balance_18.2.2.2.2.1
theorem dX12_balance_25 : decode cX12_balance 25 = .ok (.invokevirtual 125, 3) := dgq (p := 7) daX12_balance_18 dbX12_balance_18.2.2.2.2.2.1
theorem dX12_balance_28 : decode cX12_balance 28 = .ok (.ifCond .eq 25, 3) := dgq (p := 10) daX12_balance_18 dbX12_balance_18.2.2.2.2.2.2.1
theorem dX12_balance_31 : decode cX12_balance 31 = .ok (.aload_n 0, 1) := dgq (p := 13) daX12_balance_18 dbX12_balance_18.2.2.2.2.2.2.2.1
theorem dX12_balance_32 : decode cX12_balance 32 = .ok (.iload_n 1, 1) := dgq (p := 14) daX12_balance_18 dbX12_balance_18.2.2.2.2.2.2.2.2.1
theorem dX12_balance_33 : decode cX12_balance 33 = .ok (.invokevirtual 111, 3) := dgq (p := 15) daX12_balance_18 dbX12_balance_18.2.2.2.2.2.2.2.2.2
def dsX12_balance_36 : ByteArray := ⟨#[180, 0, 160, 154, 0, 14, 42, 28, 182, 0, 111, 180, 0, 160, 153, 0, 9, 42, 5, 182, 0, 143]⟩
theorem daX12_balance_36 : agB cX12_balance dsX12_balance_36 36 := agB_of (n := 22) (by decide +kernel)
theorem dbX12_balance_36 : (decode dsX12_balance_36 0 = .ok (.getfield 160, 3) ∧ okop dsX12_balance_36 0 = true) ∧ (decode dsX12_balance_36 3 = .ok (.ifCond .ne 14, 3) ∧ okop dsX12_balance_36 3 = true) ∧ (decode dsX12_balance_36 6 = .ok (.aload_n 0, 1) ∧ okop dsX12_balance_36 6 = true) ∧ (decode dsX12_balance_36 7 = .ok (.iload_n 2, 1) ∧ okop dsX12_balance_36 7 = true) ∧ (decode dsX12_balance_36 8 = .ok (.invokevirtual 111, 3) ∧ okop dsX12_balance_36 8 = true) ∧ (decode dsX12_balance_36 11 = .ok (.getfield 160, 3) ∧ okop dsX12_balance_36 11 = true) ∧ (decode dsX12_balance_36 14 = .ok (.ifCond .eq 9, 3) ∧ okop dsX12_balance_36 14 = true) ∧ (decode dsX12_balance_36 17 = .ok (.aload_n 0, 1) ∧ okop dsX12_balance_36 17 = true) ∧ (decode dsX12_balance_36 18 = .ok (.iconst 2, 1) ∧ okop dsX12_balance_36 18 = true) ∧ (decode dsX12_balance_36 19 = .ok (.invokevirtual 143, 3) ∧ okop dsX12_balance_36 19 = true) := by decide +kernel
theorem dX12_balance_36 : decode cX12_balance 36 = .ok (.getfield 160, 3) := dgq (p := 0) daX12_balance_36 dbX12_balance_36.1
theorem dX12_balance_39 : decode cX12_balance 39 = .ok (.ifCond .ne 14, 3) := dgq (p := 3) daX12_balance_36 dbX12_balance_36.2.1
theorem dX12_balance_42 : decode cX12_balance 42 = .ok (.aload_n 0, 1) := dgq (p := 6) daX12_balance_36 dbX12_balance_36.2.2.1
theorem dX12_balance_43 : decode cX12_balance 43 = .ok (.iload_n 2, 1) := dgq (p := 7) daX12_balance_36 dbX12_balance_36.2.2.2.1
theorem dX12_balance_44 : decode cX12_balance 44 = .ok (.invokevirtual 111, 3) := dgq (p := 8) daX12_balance_36 dbX12_balance_36.2.2.2.2.1
theorem dX12_balance_47 : decode cX12_balance 47 = .ok (.getfield 160, 3) := dgq (p := 11) daX12_balance_36 dbX12_balance_36.2.2.2.2.2.1
theorem dX12_balance_50 : decode cX12_balance 50 = .ok (.ifCond .eq 9, 3) := dgq (p := 14) daX12_balance_36 dbX12_balance_36.2.2.2.2.2.2.1
theorem dX12_balance_53 : decode cX12_balance 53 = .ok (.aload_n 0, 1) := dgq (p := 17) daX12_balance_36 dbX12_balance_36.2.2.2.2.2.2.2.1
theorem dX12_balance_54 : decode cX12_balance 54 = .ok (.iconst 2, 1) := dgq (p := 18) daX12_balance_36 dbX12_balance_36.2.2.2.2.2.2.2.2.1
theorem dX12_balance_55 : decode cX12_balance 55 = .ok (.invokevirtual 143, 3) := dgq (p := 19) daX12_balance_36 dbX12_balance_36.2.2.2.2.2.2.2.2.2
def dsX12_balance_58 : ByteArray := ⟨#[172, 42, 27]⟩
theorem daX12_balance_58 : agB cX12_balance dsX12_balance_58 58 := agB_of (n := 3) (by decide +kernel)
theorem dbX12_balance_58 : (decode dsX12_balance_58 0 = .ok (.ireturn, 1) ∧ okop dsX12_balance_58 0 = true) ∧ (decode dsX12_balance_58 1 = .ok (.aload_n 0, 1) ∧ okop dsX12_balance_58 1 = true) ∧ (decode dsX12_balance_58 2 = .ok (.iload_n 1, 1) ∧ okop dsX12_balance_58 2 = true) := by decide +kernel
theorem dX12_balance_58 : decode cX12_balance 58 = .ok (.ireturn, 1) := dgq (p := 0) daX12_balance_58 dbX12_balance_58.1
theorem dX12_balance_59 : decode cX12_balance 59 = .ok (.aload_n 0, 1) := dgq (p := 1) daX12_balance_58 dbX12_balance_58.2.1
theorem dX12_balance_60 : decode cX12_balance 60 = .ok (.iload_n 1, 1) := dgq (p := 2) daX12_balance_58 dbX12_balance_58.2.2
