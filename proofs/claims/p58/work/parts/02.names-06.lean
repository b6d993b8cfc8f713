def dsX2_bearsTorque_68 : ByteArray := ⟨#[109, 184, 0, 72, 55, 8, 42, 180, 0, 116, 154, 0, 27, 22, 6, 20, 0, 149, 148, 157, 0, 16]⟩
theorem daX2_bearsTorque_68 : agB cX2_bearsTorque dsX2_bearsTorque_68 68 := agB_of (n := 22) (by decide +kernel)
theorem dbX2_bearsTorque_68 : (decode dsX2_bearsTorque_68 0 = .ok (.ldiv, 1) ∧ okop dsX2_bearsTorque_68 0 = true) ∧ (decode dsX2_bearsTorque_68 1 = .ok (.invokestatic 72, 3) ∧ okop dsX2_bearsTorque_68 1 = true) ∧ (decode dsX2_bearsTorque_68 4 = .ok (.lstore 8, 2) ∧ okop dsX2_bearsTorque_68 4 = true) ∧ (decode dsX2_bearsTorque_68 6 = .ok (.aload_n 0, 1) ∧ okop dsX2_bearsTorque_68 6 = true) ∧ (decode dsX2_bearsTorque_68 7 = .ok (.getfield 116, 3) ∧ okop dsX2_bearsTorque_68 7 = true) ∧ (decode dsX2_bearsTorque_68 10 = .ok (.ifCond .ne 27, 3) ∧ okop dsX2_bearsTorque_68 10 = true) ∧ (decode dsX2_bearsTorque_68 13 = .ok (.lload 6, 2) ∧ okop dsX2_bearsTorque_68 13 = true) ∧ (decode dsX2_bearsTorque_68 15 = .ok (.ldc2_w 149, 3) ∧ okop dsX2_bearsTorque_68 15 = true) ∧ (decode dsX2_bearsTorque_68 18 = .ok (.lcmp, 1) ∧ okop dsX2_bearsTorque_68 18 = true) ∧ (decode dsX2_bearsTorque_68 19 = .ok (.ifCond .gt 16, 3) ∧ okop dsX2_bearsTorque_68 19 = true) := by decide +kernel
theorem dX2_bearsTorque_68 : decode cX2_bearsTorque 68 = .ok (.ldiv, 1) := dgq (p := 0) daX2_bearsTorque_68 dbX2_bearsTorque_68.1
theorem dX2_bearsTorque_69 : decode cX2_bearsTorque 69 = .ok (.invokestatic 72, 3) := dgq (p := 1) daX2_bearsTorque_68 dbX2_bearsTorque_68.2.1
theorem dX2_bearsTorque_72 : decode cX2_bearsTorque 72 = .ok (.lstore 8, 2) := dgq (p := 4) daX2_bearsTorque_68 dbX2_bearsTorque_68.2.2.1
theorem dX2_bearsTorque_74 : decode cX2_bearsTorque 74 = .ok (.aload_n 0, 1) := dgq (p := 6) daX2_bearsTorque_68 dbX2_bearsTorque_68.2.2.2.1
theorem dX2_bearsTorque_75 : decode cX2_bearsTorque 75 = .ok (.getfield 116, 3) := dgq (p := 7) daX2_bearsTorque_68 dbX2_bearsTorque_68.2.2.2.2.1
theorem dX2_bearsTorque_78 : decode cX2_bearsTorque 78 = .ok (.ifCond .ne 27, 3) := dgq (p := 10) daX2_bearsTorque_68 dbX2_bearsTorque_68.2.2.2.2.2.1
theorem dX2_bearsTorque_81 : decode cX2_bearsTorque 81 = .ok (.lload 6, 2) := dgq (p := 13) daX2_bearsTorque_68 dbX2_bearsTorque_68.2.2.2.2.2.2.1
theorem dX2_bearsTorque_83 : decode cX2_bearsTorque 83 = .ok (.ldc2_w 149, 3) := dgq (p := 15) daX2_bearsTorque_68 dbX2_bearsTorque_68.2.2.2.2.2.2.2.1
theorem dX2_bearsTorque_86 : decode cX2_bearsTorque 86 = .ok (.lcmp, 1) := dgq (p := 18) daX2_bearsTorque_68 dbX2_bearsTorque_68.2.2.2.2.2.2.2.2.1
theorem dX2_bearsTorque_87 : decode cX2_bearsTorque 87 = .ok (.ifCond .gt 16, 3) := dgq (p := 19) daX2_bearsTorque_68 dbX2_bearsTorque_68.2.2.2.2.2.2.2.2.2
def dsX2_bearsTorque_90 : ByteArray := ⟨#[22, 8, 20, 0, 151, 148, 157, 0, 7, 4, 167, 0, 4, 3, 172, 42, 180, 0, 116]⟩
theorem daX2_bearsTorque_90 : agB cX2_bearsTorque dsX2_bearsTorque_90 90 := agB_of (n := 19) (by decide +kernel)
theorem dbX2_bearsTorque_90 : (decode dsX2_bearsTorque_90 0 = .ok (.lload 8, 2) ∧ okop dsX2_bearsTorque_90 0 = true) ∧ (decode dsX2_bearsTorque_90 2 = .ok (.ldc2_w 151, 3) ∧ okop dsX2_bearsTorque_90 2 = true) ∧ (decode dsX2_bearsTorque_90 5 = .ok (.lcmp, 1) ∧ okop dsX2_bearsTorque_90 5 = true) ∧ (decode dsX2_bearsTorque_90 6 = .ok (.ifCond .gt 7, 3) ∧ okop dsX2_bearsTorque_90 6 = true) ∧ (decode dsX2_bearsTorque_90 9 = .ok (.iconst 1, 1) ∧ okop dsX2_bearsTorque_90 9 = true) ∧ (decode dsX2_bearsTorque_90 10 = .ok (.goto 4, 3) ∧ okop dsX2_bearsTorque_90 10 = true) ∧ (decode dsX2_bearsTorque_90 13 = .ok (.iconst 0, 1) ∧ okop dsX2_bearsTorque_90 13 = true) ∧ (decode dsX2_bearsTorque_90 14 = .ok (.ireturn, 1) ∧ okop dsX2_bearsTorque_90 14 = true) ∧ (decode dsX2_bearsTorque_90 15 = .ok (.aload_n 0, 1) ∧ okop dsX2_bearsTorque_90 15 = true) ∧ (decode dsX2_bearsTorque_90 16 = .ok (.getfield 116, 3) ∧ okop dsX2_bearsTorque_90 16 = true) := by decide +kernel
theorem dX2_bearsTorque_90 : decode cX2_bearsTorque 90 = .ok (.lload 8, 2) := dgq (p := 0) daX2_bearsTorque_90 dbX2_bearsTorque_90.1
theorem dX2_bearsTorque_92 : decode cX2_bearsTorque 92 = .ok (.ldc2_w 151, 3) := dgq (p := 2) daX2_bearsTorque_90 dbX2_bearsTorque_90.2.1
theorem dX2_bearsTorque_95 : decode cX2_bearsTorque 95 = .ok (.lcmp, 1) := dgq (p := 5) daX2_bearsTorque_90 dbX2_bearsTorque_90.2.2.1
theorem dX2_bearsTorque_96 : decode cX2_bearsTorque 96 = .ok (.ifCond .gt 7, 3) := dgq (p := 6) daX2_bearsTorque_90 dbX2_bearsTorque_90.2.2.2.1
theorem dX2_bearsTorque_99 : decode cX2_bearsTorque 99 = .ok (.iconst 1, 1) := dgq (p := 9) daX2_bearsTorque_90 dbX2_bearsTorque_90.2.2.2.2.1
theorem dX2_bearsTorque_100 : decode cX2_bearsTorque 100 = .ok (.goto 4, 3) := dgq (p := 10) daX2_bearsTorque_90 dbX2_bearsTorque_90.2.2.2.2.2.1
theorem dX2_bearsTorque_103 : decode cX2_bearsTorque 103 = .ok (.iconst 0, 1) := dgq (p := 13) daX2_bearsTorque_90 dbX2_bearsTorque_90.2.2.2.2.2.2.1
theorem dX2_bearsTorque_104 : decode cX2_bearsTorque 104 = .ok (.ireturn, 1) := dgq (p := 14) daX2_bearsTorque_90 dbX2_bearsTorque_90.2.2.2.2.2.2.2.1
theorem dX2_bearsTorque_105 : decode cX2_bearsTorque 105 = .ok (.aload_n 0, 1) := dgq (p := 15) daX2_bearsTorque_90 dbX2_bearsTorque_90.2.2.2.2.2.2.2.2.1
theorem dX2_bearsTorque_106 : decode cX2_bearsTorque 106 = .ok (.getfield 116, 3) := dgq (p := 16) daX2_bearsTorque_90 dbX2_bearsTorque_90.2.2.2.2.2.2.2.2.2
def dsX2_bearsTorque_109 : ByteArray := ⟨#[42, 180, 0, 18, 16, 6, 108, 162, 0, 27, 22, 6, 20, 0, 153, 148, 157, 0, 16, 22, 8]⟩
theorem daX2_bearsTorque_109 : agB cX2_bearsTorque dsX2_bearsTorque_109 109 := agB_of (n := 21) (by decide +kernel)
theorem dbX2_bearsTorque_109 : (decode dsX2_bearsTorque_109 0 = .ok (.aload_n 0, 1) ∧ okop dsX2_bearsTorque_109 0 = true) ∧ (decode dsX2_bearsTorque_109 1 = .ok (.getfield 18, 3) ∧ okop dsX2_bearsTorque_109 1 = true) ∧ (decode dsX2_bearsTorque_109 4 = .ok (.bipush 6, 2) ∧ okop dsX2_bearsTorque_109 4 = true) ∧ (decode dsX2_bearsTorque_109 6 = .ok (.idiv, 1) ∧ okop dsX2_bearsTorque_109 6 = true) ∧ (decode dsX2_bearsTorque_109 7 = .ok (.if_icmp .ge 27, 3) ∧ okop dsX2_bearsTorque_109 7 = true) ∧ (decode dsX2_bearsTorque_109 10 = .ok (.lload 6, 2) ∧ okop dsX2_bearsTorque_109 10 = true) ∧ (decode dsX2_bearsTorque_109 12 = .ok (.ldc2_w 153, 3) ∧ okop dsX2_bearsTorque_109 12 = true) ∧ (decode dsX2_bearsTorque_109 15 = .ok (.lcmp, 1) ∧ okop dsX2_bearsTorque_109 15 = true) ∧ (decode dsX2_bearsTorque_109 16 = .ok (.ifCond .gt 16, 3) ∧ okop dsX2_bearsTorque_109 16 = true) ∧ (decode dsX2_bearsTorque_109 19 = .ok (.lload 8, 2) ∧ okop dsX2_bearsTorque_109 19 = true) := by decide +kernel
theorem dX2_bearsTorque_109 : decode cX2_bearsTorque 109 = .ok (.aload_n 0, 1) := dgq (p := 0) daX2_bearsTorque_109 dbX2_bearsTorque_109.1
theorem dX2_bearsTorque_110 : decode cX2_bearsTorque 110 = .ok (.getfield 18, 3) := dgq (p := 1) daX2_bearsTorque_109 dbX2_bearsTorque_109.2.1
theorem dX2_bearsTorque_113 : decode cX2_bearsTorque 113 = .ok (.bipush 6, 2) := dgq (p := 4) daX2_bearsTorque_109 dbX2_bearsTorque_109.2.2.1
theorem dX2_bearsTorque_115 : decode cX2_bearsTorque 115 = .ok (.idiv, 1) := dgq (p := 6) daX2_bearsTorque_109 dbX2_bearsTorque_109.2.2.2.1
theorem dX2_bearsTorque_116 : decode cX2_bearsTorque 116 = .ok (.if_icmp .ge 27, 3) := dgq (p := 7) daX2_bearsTorque_109 dbX2_bearsTorque_109.2.2.2.2.1
theorem dX2_bearsTorque_119 : decode cX2_bearsTorque 119 = .ok (.lload 6, 2) := dgq (p := 10) daX2_bearsTorque_109 dbX2_bearsTorque_109.2.2.2.2.2.1
theorem dX2_bearsTorque_121 : decode cX2_bearsTorque 121 = .ok (.ldc2_w 153, 3) := dgq (p := 12) daX2_bearsTorque_109 dbX2_bearsTorque_109.2.2.2.2.2.2.1
theorem dX2_bearsTorque_124 : decode cX2_bearsTorque 124 = .ok (.lcmp, 1) := dgq (p := 15) daX2_bearsTorque_109 dbX2_bearsTorque_109.2.2.2.2.2.2.2.1
theorem dX2_bearsTorque_125 : decode cX2_bearsTorque 125 = .ok (.ifCond .gt 16, 3) := dgq (p := 16) daX2_bearsTorque_109 dbX2_bearsTorque_109.2.2.2.2.2.2.2.2.1
theorem dX2_bearsTorque_128 : decode cX2_bearsTorque 128 = .ok (.lload 8, 2) := dgq (p := 19) daX2_bearsTorque_109 dbX2_bearsTorque_109.2.2.2.2.2.2.2.2.2
def dsX2_bearsTorque_130 : ByteArray := ⟨#[20, 0, 155, 148, 157, 0, 7, 4, 167, 0, 4, 3, 172, 22, 6, 20, 0, 157, 148]⟩
theorem daX2_bearsTorque_130 : agB cX2_bearsTorque dsX2_bearsTorque_130 130 := agB_of (n := 19) (by decide +kernel)
theorem dbX2_bearsTorque_130 : (decode dsX2_bearsTorque_130 0 = .ok (.ldc2_w 155, 3) ∧ okop dsX2_bearsTorque_130 0 = true) ∧ (decode dsX2_bearsTorque_130 3 = .ok (.lcmp, 1) ∧ okop dsX2_bearsTorque_130 3 = true) ∧ (decode dsX2_bearsTorque_130 4 = .ok (.ifCond .gt 7, 3) ∧ okop dsX2_bearsTorque_130 4 = true) ∧ (decode dsX2_bearsTorque_130 7 = .ok (.iconst 1, 1) ∧ okop dsX2_bearsTorque_130 7 = true) ∧ (decode dsX2_bearsTorque_130 8 = .ok (.goto 4, 3) ∧ okop dsX2_bearsTorque_130 8 = true) ∧ (decode dsX2_bearsTorque_130 11 = .ok (.iconst 0, 1) ∧ okop dsX2_bearsTorque_130 11 = true) ∧ (decode dsX2_bearsTorque_130 12 = .ok (.ireturn, 1) ∧ okop dsX2_bearsTorque_130 12 = true) ∧ (decode dsX2_bearsTorque_130 13 = .ok (.lload 6, 2) ∧ okop dsX2_bearsTorque_130 13 = true) ∧ (decode dsX2_bearsTorque_130 15 = .ok (.ldc2_w 157, 3) ∧ okop dsX2_bearsTorque_130 15 = true) ∧ (decode dsX2_bearsTorque_130 18 = .ok (.lcmp, 1) ∧ okop dsX2_bearsTorque_130 18 = true) := by decide +kernel
theorem dX2_bearsTorque_130 : decode cX2_bearsTorque 130 = .ok (.ldc2_w 155, 3) := dgq (p := 0) daX2_bearsTorque_130 dbX2_bearsTorque_130.1
theorem dX2_bearsTorque_133 : decode cX2_bearsTorque 133 = .ok (.lcmp, 1) := dgq (p := 3) daX2_bearsTorque_130 dbX2_bearsTorque_130.2.1
theorem dX2_bearsTorque_134 : decode cX2_bearsTorque 134 = .ok (.ifCond .gt 7, 3) := dgq (p := 4) daX2_bearsTorque_130 dbX2_bearsTorque_130.2.2.1
theorem dX2_bearsTorque_137 : decode cX2_bearsTorque 137 = .ok (.iconst 1, 1) := dgq (p := 7) daX2_bearsTorque_130 dbX2_bearsTorque_130.2.2.2.1
theorem dX2_bearsTorque_138 : decode cX2_bearsTorque 138 = .ok (.goto 4, 3) := dgq (p := 8) daX2_bearsTorque_130 dbX2_bearsTorque_130.2.2.2.2.1
theorem dX2_bearsTorque_141 : decode cX2_bearsTorque 141 = .ok (.iconst 0, 1) := dgq (p := 11) daX2_bearsTorque_130 dbX2_bearsTorque_130.2.2.2.2.2.1
theorem dX2_bearsTorque_142 : decode cX2_bearsTorque 142 = .ok (.ireturn, 1) := dgq (p := 12) daX2_bearsTorque_130 dbX2_bearsTorque_130.2.2.2.2.2.2.1
theorem dX2_bearsTorque_143 : decode cX2_bearsTorque 143 = .ok (.lload 6, 2) := dgq (p := 13) daX2_bearsTorque_130 dbX2_bearsTorque_130.2.2.2.2.2.2.2.1
theorem dX2_bearsTorque_145 : decode cX2_bearsTorque 145 = .ok (.ldc2_w 157, 3) := dgq (p := 15) daX2_bearsTorque_130 dbX2_bearsTorque_130.2.2.2.2.2.2.2.2.1
theorem dX2_bearsTorque_148 : decode cX2_bearsTorque 148 = .ok (.lcmp, 1) := dgq (p := 18) daX2_bearsTorque_130 dbX2_bearsTorque_130.2.2.2.2.2.2.2.2.2
def dsX2_bearsTorque_149 : ByteArray := ⟨#[157, 0, 16, 22, 8, 20, 0, 159, 148, 157, 0, 7, 4, 167, 0, 4, 3, 172]⟩
theorem daX2_bearsTorque_149 : agB cX2_bearsTorque dsX2_bearsTorque_149 149 := agB_of (n := 18) (by decide +kernel)
theorem dbX2_bearsTorque_149 : (decode dsX2_bearsTorque_149 0 = .ok (.ifCond .gt 16, 3) ∧ okop dsX2_bearsTorque_149 0 = true) ∧ (decode dsX2_bearsTorque_149 3 = .ok (.lload 8, 2) ∧ okop dsX2_bearsTorque_149 3 = true) ∧ (decode dsX2_bearsTorque_149 5 = .ok (.ldc2_w 159, 3) ∧ okop dsX2_bearsTorque_149 5 = true) ∧ (decode dsX2_bearsTorque_149 8 = .ok (.lcmp, 1) ∧ okop dsX2_bearsTorque_149 8 = true) ∧ (decode dsX2_bearsTorque_149 9 = .ok (.ifCond .gt 7, 3) ∧ okop dsX2_bearsTorque_149 9 = true) ∧ (decode dsX2_bearsTorque_149 12 = .ok (.iconst 1, 1) ∧ okop dsX2_bearsTorque_149 12 = true) ∧ (decode dsX2_bearsTorque_149 13 = .ok (.goto 4, 3) ∧ okop dsX2_bearsTorque_149 13 = true) ∧ (decode dsX2_bearsTorque_149 16 = .ok (.iconst 0, 1) ∧ okop dsX2_bearsTorque_149 16 = true) ∧ (decode dsX2_bearsTorque_149 17 = .ok (.ireturn, 1) ∧ okop dsX2_bearsTorque_149 17 = true) := by decide +kernel
theorem dX2_bearsTorque_149 : decode cX2_bearsTorque 149 = .ok (.ifCond .gt 16, 3) := dgq (p := 0) daX2_bearsTorque_149 dbX2_bearsTorque_149.1
theorem dX2_bearsTorque_152 : decode cX2_bearsTorque 152 = .ok (.lload 8, 2) := dgq (p := 3) daX2_bearsTorque_149 dbX2_bearsTorque_149.2.1
theorem dX2_bearsTorque_154 : decode cX2_bearsTorque 154 = .ok (.ldc2_w 159, 3) := dgq (p := 5) daX2_bearsTorque_149 dbX2_bearsTorque_149.2.2.1
theorem dX2_bearsTorque_157 : decode cX2_bearsTorque 157 = .ok (.lcmp, 1) := dgq (p := 8) daX2_bearsTorque_149 dbX2_bearsTorque_149.2.2.2.1
theorem dX2_bearsTorque_158 : decode cX2_bearsTorque 158 = .ok (.ifCond .gt 7, 3) := dgq (p := 9) daX2_bearsTorque_149 dbX2_bearsTorque_149.2.2.2.2.1
theorem dX2_bearsTorque_161 : decode cX2_bearsTorque 161 = .ok (.iconst 1, 1) := dgq (p := 12) daX2_bearsTorque_149 dbX2_bearsTorque_149.2.2.2.2.2.1
theorem dX2_bearsTorque_162 : decode cX2_bearsTorque 162 = .ok (.goto 4, 3) := dgq (p := 13) daX2_bearsTorque_149 dbX2_bearsTorque_149.2.2.2.2.2.2.1
theorem dX2_bearsTorque_165 : decode cX2_bearsTorque 165 = .ok (.iconst 0, 1) := dgq (p := 16) daX2_bearsTorque_149 dbX2_bearsTorque_149.2.2.2.2.2.2.2.1
theorem dX2_bearsTorque_166 : decode cX2_bearsTorque 166 = .ok (.ireturn, 1) := dgq (p := 17) daX2_bearsTorque_149 dbX2_bearsTorque_149.2.2.2.2.2.2.2.2
set_option maxRecDepth 20000 in
theorem ggX2_lifeUnder_X2_borneTorque : GoodIn wsX2_lifeUnder wsX2_borneTorque := goodIn_ca (goodIn_ca (goodIn_q _ [7, 8, 9, 10, 11, 6, 12, 13, 14, 2, 15, 16, 17, 18, 19, 20, 21, 22, 23, 24, 25, 26, 27, 28, 29, 30, 31] rfl (by decide +kernel)) (goodIn_sub (fun _ h => (List.mem_cons_of_mem _ (List.mem_append_left _ (List.mem_append_right _ h)))) tg_wsX20)) (goodIn_sub (fun _ h => List.mem_cons_of_mem _ (List.mem_append_right _ h)) (by decide +kernel))
set_option maxRecDepth 20000 in
theorem gX2_lifeUnder_X2_borneTorque : GoodIn wsX2_lifeUnder (wsV RX2 161 RX2 yX2_borneTorque wsX2_borneTorque) := goodIn_app (goodIn_q _ [3, 4, 5, 6] rfl (by decide +kernel)) ggX2_lifeUnder_X2_borneTorque
def dsX2_lifeUnder_0 : ByteArray := ⟨#[42, 182, 0, 161, 133, 66, 31, 33, 148, 157, 0, 7, 20, 0, 164, 173]⟩
theorem daX2_lifeUnder_0 : agB cX2_lifeUnder dsX2_lifeUnder_0 0 := agB_of (n := 16) (by decide +kernel)
theorem dbX2_lifeUnder_0 : (decode dsX2_lifeUnder_0 0 = .ok (.aload_n 0, 1) ∧ okop dsX2_lifeUnder_0 0 = true) ∧ (decode dsX2_lifeUnder_0 1 = .ok (.invokevirtual 161, 3) ∧ okop dsX2_lifeUnder_0 1 = true) ∧ (decode dsX2_lifeUnder_0 4 = .ok (.i2l, 1) ∧ okop dsX2_lifeUnder_0 4 = true) ∧ (decode dsX2_lifeUnder_0 5 = .ok (.lstore_n 3, 1) ∧ okop dsX2_lifeUnder_0 5 = true) ∧ (decode dsX2_lifeUnder_0 6 = .ok (.lload_n 1, 1) ∧ okop dsX2_lifeUnder_0 6 = true) ∧ (decode dsX2_lifeUnder_0 7 = .ok (.lload_n 3, 1) ∧ okop dsX2_lifeUnder_0 7 = true) ∧ (decode dsX2_lifeUnder_0 8 = .ok (.lcmp, 1) ∧ okop dsX2_lifeUnder_0 8 = true) ∧ (decode dsX2_lifeUnder_0 9 = .ok (.ifCond .gt 7, 3) ∧ okop dsX2_lifeUnder_0 9 = true) ∧ (decode dsX2_lifeUnder_0 12 = .ok (.ldc2_w 164, 3) ∧ okop dsX2_lifeUnder_0 12 = true) ∧ (decode dsX2_lifeUnder_0 15 = .ok (.lreturn, 1) ∧ okop dsX2_lifeUnder_0 15 = true) := by decide +kernel
theorem dX2_lifeUnder_0 : decode cX2_lifeUnder 0 = .ok (.aload_n 0, 1) := dgq (p := 0) daX2_lifeUnder_0 dbX2_lifeUnder_0.1
theorem dX2_lifeUnder_1 : decode cX2_lifeUnder 1 = .ok (.invokevirtual 161, 3) := dgq (p := 1) daX2_lifeUnder_0 dbX2_lifeUnder_0.2.1
theorem dX2_lifeUnder_4 : decode cX2_lifeUnder 4 = .ok (.i2l, 1) := dgq (p := 4) daX2_lifeUnder_0 dbX2_lifeUnder_0.2.2.1
theorem dX2_lifeUnder_5 : decode cX2_lifeUnder 5 = .ok (.lstore_n 3, 1) := dgq (p := 5) daX2_lifeUnder_0 dbX2_lifeUnder_0.2.2.2.1
theorem dX2_lifeUnder_6 : decode cX2_lifeUnder 6 = .ok (.lload_n 1, 1) := dgq (p := 6) daX2_lifeUnder_0 dbX2_lifeUnder_0.2.2.2.2.1
theorem dX2_lifeUnder_7 : decode cX2_lifeUnder 7 = .ok (.lload_n 3, 1) := dgq (p := 7) daX2_lifeUnder_0 dbX2_lifeUnder_0.2.2.2.2.2.1
theorem dX2_lifeUnder_8 : decode cX2_lifeUnder 8 = .ok (.lcmp, 1) := dgq (p := 8) daX2_lifeUnder_0 dbX2_lifeUnder_0.2.2.2.2.2.2.1
theorem dX2_lifeUnder_9 : decode cX2_lifeUnder 9 = .ok (.ifCond .gt 7, 3) := dgq (p := 9) daX2_lifeUnder_0 dbX2_lifeUnder_0.2.2.2.2.2.2.2.1
theorem dX2_lifeUnder_12 : decode cX2_lifeUnder 12 = .ok (.ldc2_w 164, 3) := dgq (p := 12) daX2_lifeUnder_0 dbX2_lifeUnder_0.2.2.2.2.2.2.2.2.1
theorem dX2_lifeUnder_15 : decode cX2_lifeUnder 15 = .ok (.lreturn, 1) := dgq (p := 15) daX2_lifeUnder_0 dbX2_lifeUnder_0.2.2.2.2.2.2.2.2.2
def dsX2_lifeUnder_16 : ByteArray := ⟨#[20, 0, 86, 55, 5, 3, 54, 7, 21, 7, 16, 6, 162, 0, 17, 22, 5, 33, 105]⟩
theorem daX2_lifeUnder_16 : agB cX2_lifeUnder dsX2_lifeUnder_16 16 := agB_of (n := 19) (by decide +kernel)
theorem dbX2_lifeUnder_16 : (decode dsX2_lifeUnder_16 0 = .ok (.ldc2_w 86, 3) ∧ okop dsX2_lifeUnder_16 0 = true) ∧ (decode dsX2_lifeUnder_16 3 = .ok (.lstore 5, 2) ∧ okop dsX2_lifeUnder_16 3 = true) ∧ (decode dsX2_lifeUnder_16 5 = .ok (.iconst 0, 1) ∧ okop dsX2_lifeUnder_16 5 = true) ∧ (decode dsX2_lifeUnder_16 6 = .ok (.istore 7, 2) ∧ okop dsX2_lifeUnder_16 6 = true) ∧ (decode dsX2_lifeUnder_16 8 = .ok (.iload 7, 2) ∧ okop dsX2_lifeUnder_16 8 = true) ∧ (decode dsX2_lifeUnder_16 10 = .ok (.bipush 6, 2) ∧ okop dsX2_lifeUnder_16 10 = true) ∧ (decode dsX2_lifeUnder_16 12 = .ok (.if_icmp .ge 17, 3) ∧ okop dsX2_lifeUnder_16 12 = true) ∧ (decode dsX2_lifeUnder_16 15 = .ok (.lload 5, 2) ∧ okop dsX2_lifeUnder_16 15 = true) ∧ (decode dsX2_lifeUnder_16 17 = .ok (.lload_n 3, 1) ∧ okop dsX2_lifeUnder_16 17 = true) ∧ (decode dsX2_lifeUnder_16 18 = .ok (.lmul, 1) ∧ okop dsX2_lifeUnder_16 18 = true) := by decide +kernel
theorem dX2_lifeUnder_16 : decode cX2_lifeUnder 16 = .ok (.ldc2_w 86, 3) := dgq (p := 0) daX2_lifeUnder_16 dbX2_lifeUnder_16.1
theorem dX2_lifeUnder_19 : decode cX2_lifeUnder 19 = .ok (.lstore 5, 2) := dgq (p := 3) daX2_lifeUnder_16 dbX2_lifeUnder_16.2.1
theorem dX2_lifeUnder_21 : decode cX2_lifeUnder 21 = .ok (.iconst 0, 1) := dgq (p := 5) daX2_lifeUnder_16 dbX2_lifeUnder_16.2.2.1
theorem dX2_lifeUnder_22 : decode cX2_lifeUnder 22 = .ok (.istore 7, 2) := dgq (p := 6) daX2_lifeUnder_16 dbX2_lifeUnder_16.2.2.2.1
theorem dX2_lifeUnder_24 : decode cX2_lifeUnder 24 = .ok (.iload 7, 2) := dgq (p := 8) daX2_lifeUnder_16 dbX2_lifeUnder_16.2.2.2.2.1
theorem dX2_lifeUnder_26 : decode cX2_lifeUnder 26 = .ok (.bipush 6, 2) := dgq (p := 10) daX2_lifeUnder_16 dbX2_lifeUnder_16.2.2.2.2.2.1
theorem dX2_lifeUnder_28 : decode cX2_lifeUnder 28 = .ok (.if_icmp .ge 17, 3) := dgq (p := 12) daX2_lifeUnder_16 dbX2_lifeUnder_16.2.2.2.2.2.2.1
theorem dX2_lifeUnder_31 : decode cX2_lifeUnder 31 = .ok (.lload 5, 2) := dgq (p := 15) daX2_lifeUnder_16 dbX2_lifeUnder_16.2.2.2.2.2.2.2.1
theorem dX2_lifeUnder_33 : decode cX2_lifeUnder 33 = .ok (.lload_n 3, 1) := dgq (p := 17) daX2_lifeUnder_16 dbX2_lifeUnder_16.2.2.2.2.2.2.2.2.1
theorem dX2_lifeUnder_34 : decode cX2_lifeUnder 34 = .ok (.lmul, 1) := dgq (p := 18) daX2_lifeUnder_16 dbX2_lifeUnder_16.2.2.2.2.2.2.2.2.2
def dsX2_lifeUnder_35 : ByteArray := ⟨#[31, 109, 55, 5, 132, 7, 1, 167, 255, 238, 22, 5, 173]⟩
theorem daX2_lifeUnder_35 : agB cX2_lifeUnder dsX2_lifeUnder_35 35 := agB_of (n := 13) (by decide +kernel)
theorem dbX2_lifeUnder_35 : (decode dsX2_lifeUnder_35 0 = .ok (.lload_n 1, 1) ∧ okop dsX2_lifeUnder_35 0 = true) ∧ (decode dsX2_lifeUnder_35 1 = .ok (.ldiv, 1) ∧ okop dsX2_lifeUnder_35 1 = true) ∧ (decode dsX2_lifeUnder_35 2 = .ok (.lstore 5, 2) ∧ okop dsX2_lifeUnder_35 2 = true) ∧ (decode dsX2_lifeUnder_35 4 = .ok (.iinc 7 1, 3) ∧ okop dsX2_lifeUnder_35 4 = true) ∧ (decode dsX2_lifeUnder_35 7 = .ok (.goto (-18), 3) ∧ okop dsX2_lifeUnder_35 7 = true) ∧ (decode dsX2_lifeUnder_35 10 = .ok (.lload 5, 2) ∧ okop dsX2_lifeUnder_35 10 = true) ∧ (decode dsX2_lifeUnder_35 12 = .ok (.lreturn, 1) ∧ okop dsX2_lifeUnder_35 12 = true) := by decide +kernel
theorem dX2_lifeUnder_35 : decode cX2_lifeUnder 35 = .ok (.lload_n 1, 1) := dgq (p := 0) daX2_lifeUnder_35 dbX2_lifeUnder_35.1
theorem dX2_lifeUnder_36 : decode cX2_lifeUnder 36 = .ok (.ldiv, 1) := dgq (p := 1) daX2_lifeUnder_35 dbX2_lifeUnder_35.2.1
theorem dX2_lifeUnder_37 : decode cX2_lifeUnder 37 = .ok (.lstore 5, 2) := dgq (p := 2) daX2_lifeUnder_35 dbX2_lifeUnder_35.2.2.1
theorem dX2_lifeUnder_39 : decode cX2_lifeUnder 39 = .ok (.iinc 7 1, 3) := dgq (p := 4) daX2_lifeUnder_35 dbX2_lifeUnder_35.2.2.2.1
theorem dX2_lifeUnder_42 : decode cX2_lifeUnder 42 = .ok (.goto (-18), 3) := dgq (p := 7) daX2_lifeUnder_35 dbX2_lifeUnder_35.2.2.2.2.1
theorem dX2_lifeUnder_45 : decode cX2_lifeUnder 45 = .ok (.lload 5, 2) := dgq (p := 10) daX2_lifeUnder_35 dbX2_lifeUnder_35.2.2.2.2.2.1
theorem dX2_lifeUnder_47 : decode cX2_lifeUnder 47 = .ok (.lreturn, 1) := dgq (p := 12) daX2_lifeUnder_35 dbX2_lifeUnder_35.2.2.2.2.2.2
set_option maxRecDepth 20000 in
theorem ggX2_turn_X2_lifeUnder : GoodIn wsX2_turn wsX2_lifeUnder := goodIn_ca (goodIn_ca (goodIn_q _ [7, 8, 2, 9, 10, 11, 6, 12, 13, 14, 15, 16, 17, 18, 19, 20, 21, 22, 23, 24, 25, 26, 27, 28, 29, 30, 31, 32, 33, 34, 35, 36] rfl (by decide +kernel)) (goodIn_sub (fun _ h => (List.mem_cons_of_mem _ (List.mem_append_left _ (List.mem_append_right _ h)))) tg_wsX20)) (goodIn_sub (fun _ h => List.mem_cons_of_mem _ (List.mem_append_right _ h)) (by decide +kernel))
set_option maxRecDepth 20000 in
theorem gX2_turn_X2_lifeUnder : GoodIn wsX2_turn (wsV RX2 166 RX2 yX2_lifeUnder wsX2_lifeUnder) := goodIn_app (goodIn_q _ [3, 4, 5, 6] rfl (by decide +kernel)) ggX2_turn_X2_lifeUnder
def dsX2_turn_0 : ByteArray := ⟨#[42, 31, 182, 0, 166, 55, 5, 22, 5, 9, 148, 154, 0, 18, 42, 89]⟩
theorem daX2_turn_0 : agB cX2_turn dsX2_turn_0 0 := agB_of (n := 16) (by decide +kernel)
theorem dbX2_turn_0 : (decode dsX2_turn_0 0 = .ok (.aload_n 0, 1) ∧ okop dsX2_turn_0 0 = true) ∧ (decode dsX2_turn_0 1 = .ok (.lload_n 1, 1) ∧ okop dsX2_turn_0 1 = true) ∧ (decode dsX2_turn_0 2 = .ok (.invokevirtual 166, 3) ∧ okop dsX2_turn_0 2 = true) ∧ (decode dsX2_turn_0 5 = .ok (.lstore 5, 2) ∧ okop dsX2_turn_0 5 = true) ∧ (decode dsX2_turn_0 7 = .ok (.lload 5, 2) ∧ okop dsX2_turn_0 7 = true) ∧ (decode dsX2_turn_0 9 = .ok (.lconst 0, 1) ∧ okop dsX2_turn_0 9 = true) ∧ (decode dsX2_turn_0 10 = .ok (.lcmp, 1) ∧ okop dsX2_turn_0 10 = true) ∧ (decode dsX2_turn_0 11 = .ok (.ifCond .ne 18, 3) ∧ okop dsX2_turn_0 11 = true) ∧ (decode dsX2_turn_0 14 = .ok (.aload_n 0, 1) ∧ okop dsX2_turn_0 14 = true) ∧ (decode dsX2_turn_0 15 = .ok (.dup, 1) ∧ okop dsX2_turn_0 15 = true) := by decide +kernel
theorem dX2_turn_0 : decode cX2_turn 0 = .ok (.aload_n 0, 1) := dgq (p := 0) daX2_turn_0 dbX2_turn_0.1
theorem dX2_turn_1 : decode cX2_turn 1 = .ok (.lload_n 1, 1) := dgq (p := 1) daX2_turn_0 dbX2_turn_0.2.1
theorem dX2_turn_2 : decode cX2_turn 2 = .ok (.invokevirtual 166, 3) := dgq (p := 2) daX2_turn_0 dbX2_turn_0.2.2.1
theorem dX2_turn_5 : decode cX2_turn 5 = .ok (.lstore 5, 2) := dgq (p := 5) daX2_turn_0 dbX2_turn_0.2.2.2.1
theorem dX2_turn_7 : decode cX2_turn 7 = .ok (.lload 5, 2) := dgq (p := 7) daX2_turn_0 dbX2_turn_0.2.2.2.2.1
theorem dX2_turn_9 : decode cX2_turn 9 = .ok (.lconst 0, 1) := dgq (p := 9) daX2_turn_0 dbX2_turn_0.2.2.2.2.2.1
theorem dX2_turn_10 : decode cX2_turn 10 = .ok (.lcmp, 1) := dgq (p := 10) daX2_turn_0 dbX2_turn_0.2.2.2.2.2.2.1
theorem dX2_turn_11 : decode cX2_turn 11 = .ok (.ifCond .ne 18, 3) := dgq (p := 11) daX2_turn_0 dbX2_turn_0.2.2.2.2.2.2.2.1
theorem dX2_turn_14 : decode cX2_turn 14 = .ok (.aload_n 0, 1) := dgq (p := 14) daX2_turn_0 dbX2_turn_0.2.2.2.2.2.2.2.2.1
theorem dX2_turn_15 : decode cX2_turn 15 = .ok (.dup, 1) := dgq (p := 15) daX2_turn_0 dbX2_turn_0.2.2.2.2.2.2.2.2.2
def dsX2_turn_16 : ByteArray := ⟨#[180, 0, 82, 20, 0, 86, 97, 181, 0, 82, 167, 0, 27, 22, 5, 9, 148, 158, 0, 20, 42]⟩
theorem daX2_turn_16 : agB cX2_turn dsX2_turn_16 16 := agB_of (n := 21) (by decide +kernel)
theorem dbX2_turn_16 : (decode dsX2_turn_16 0 = .ok (.getfield 82, 3) ∧ okop dsX2_turn_16 0 = true) ∧ (decode dsX2_turn_16 3 = .ok (.ldc2_w 86, 3) ∧ okop dsX2_turn_16 3 = true) ∧ (decode dsX2_turn_16 6 = .ok (.ladd, 1) ∧ okop dsX2_turn_16 6 = true) ∧ (decode dsX2_turn_16 7 = .ok (.putfield 82, 3) ∧ okop dsX2_turn_16 7 = true) ∧ (decode dsX2_turn_16 10 = .ok (.goto 27, 3) ∧ okop dsX2_turn_16 10 = true) ∧ (decode dsX2_turn_16 13 = .ok (.lload 5, 2) ∧ okop dsX2_turn_16 13 = true) ∧ (decode dsX2_turn_16 15 = .ok (.lconst 0, 1) ∧ okop dsX2_turn_16 15 = true) ∧ (decode dsX2_turn_16 16 = .ok (.lcmp, 1) ∧ okop dsX2_turn_16 16 = true) ∧ (decode dsX2_turn_16 17 = .ok (.ifCond .le 20, 3) ∧ okop dsX2_turn_16 17 = true) ∧ (decode dsX2_turn_16 20 = .ok (.aload_n 0, 1) ∧ okop dsX2_turn_16 20 = true) := by decide +kernel
theorem dX2_turn_16 : decode cX2_turn 16 = .ok (.getfield 82, 3) := dgq (p := 0) daX2_turn_16 dbX2_turn_16.1
theorem dX2_turn_19 : decode cX2_turn 19 = .ok (.ldc2_w 86, 3) := dgq (p := 3) daX2_turn_16 dbX2_turn_16.2.1
theorem dX2_turn_22 : decode cX2_turn 22 = .ok (.ladd, 1) := dgq (p := 6) daX2_turn_16 dbX2_turn_16.2.2.1
theorem dX2_turn_23 : decode cX2_turn 23 = .ok (.putfield 82, 3) := dgq (p := 7) daX2_turn_16 dbX2_turn_16.2.2.2.1
theorem dX2_turn_26 : decode cX2_turn 26 = .ok (.goto 27, 3) := dgq (p := 10) daX2_turn_16 dbX2_turn_16.2.2.2.2.1
theorem dX2_turn_29 : decode cX2_turn 29 = .ok (.lload 5, 2) := dgq (p := 13) daX2_turn_16 dbX2_turn_16.2.2.2.2.2.1
theorem dX2_turn_31 : decode cX2_turn 31 = .ok (.lconst 0, 1) := dgq (p := 15) daX2_turn_16 dbX2_turn_16.2.2.2.2.2.2.1
theorem dX2_turn_32 : decode cX2_turn 32 = .ok (.lcmp, 1) := dgq (p := 16) daX2_turn_16 dbX2_turn_16.2.2.2.2.2.2.2.1
theorem dX2_turn_33 : decode cX2_turn 33 = .ok (.ifCond .le 20, 3) := dgq (p := 17) daX2_turn_16 dbX2_turn_16.2.2.2.2.2.2.2.2.1
theorem dX2_turn_36 : decode cX2_turn 36 = .ok (.aload_n 0, 1) := dgq (p := 20) daX2_turn_16 dbX2_turn_16.2.2.2.2.2.2.2.2.2
def dsX2_turn_37 : ByteArray := ⟨#[89, 180, 0, 82, 20, 0, 86, 33, 105, 22, 5, 109, 97, 181, 0, 82, 177]⟩
theorem daX2_turn_37 : agB cX2_turn dsX2_turn_37 37 := agB_of (n := 17) (by decide +kernel)
theorem dbX2_turn_37 : (decode dsX2_turn_37 0 = .ok (.dup, 1) ∧ okop dsX2_turn_37 0 = true) ∧ (decode dsX2_turn_37 1 = .ok (.getfield 82, 3) ∧ okop dsX2_turn_37 1 = true) ∧ (decode dsX2_turn_37 4 = .ok (.ldc2_w 86, 3) ∧ okop dsX2_turn_37 4 = true) ∧ (decode dsX2_turn_37 7 = .ok (.lload_n 3, 1) ∧ okop dsX2_turn_37 7 = true) ∧ (decode dsX2_turn_37 8 = .ok (.lmul, 1) ∧ okop dsX2_turn_37 8 = true) ∧ (decode dsX2_turn_37 9 = .ok (.lload 5, 2) ∧ okop dsX2_turn_37 9 = true) ∧ (decode dsX2_turn_37 11 = .ok (.ldiv, 1) ∧ okop dsX2_turn_37 11 = true) ∧ (decode dsX2_turn_37 12 = .ok (.ladd, 1) ∧ okop dsX2_turn_37 12 = true) ∧ (decode dsX2_turn_37 13 = .ok (.putfield 82, 3) ∧ okop dsX2_turn_37 13 = true) ∧ (decode dsX2_turn_37 16 = .ok (.return_, 1) ∧ okop dsX2_turn_37 16 = true) := by decide +kernel
theorem dX2_turn_37 : decode cX2_turn 37 = .ok (.dup, 1) := dgq (p := 0) daX2_turn_37 dbX2_turn_37.1
theorem dX2_turn_38 : decode cX2_turn 38 = .ok (.getfield 82, 3) := dgq (p := 1) daX2_turn_37 dbX2_turn_37.2.1
theorem dX2_turn_41 : decode cX2_turn 41 = .ok (.ldc2_w 86, 3) := dgq (p := 4) daX2_turn_37 dbX2_turn_37.2.2.1
theorem dX2_turn_44 : decode cX2_turn 44 = .ok (.lload_n 3, 1) := dgq (p := 7) daX2_turn_37 dbX2_turn_37.2.2.2.1
theorem dX2_turn_45 : decode cX2_turn 45 = .ok (.lmul, 1) := dgq (p := 8) daX2_turn_37 dbX2_turn_37.2.2.2.2.1
theorem dX2_turn_46 : decode cX2_turn 46 = .ok (.lload 5, 2) := dgq (p := 9) daX2_turn_37 dbX2_turn_37.2.2.2.2.2.1
theorem dX2_turn_48 : decode cX2_turn 48 = .ok (.ldiv, 1) := dgq (p := 11) daX2_turn_37 dbX2_turn_37.2.2.2.2.2.2.1
theorem dX2_turn_49 : decode cX2_turn 49 = .ok (.ladd, 1) := dgq (p := 12) daX2_turn_37 dbX2_turn_37.2.2.2.2.2.2.2.1
theorem dX2_turn_50 : decode cX2_turn 50 = .ok (.putfield 82, 3) := dgq (p := 13) daX2_turn_37 dbX2_turn_37.2.2.2.2.2.2.2.2.1
theorem dX2_turn_53 : decode cX2_turn 53 = .ok (.return_, 1) := dgq (p := 16) daX2_turn_37 dbX2_turn_37.2.2.2.2.2.2.2.2.2
def dsX3_init_0 : ByteArray := ⟨#[42, 183, 0, 3, 42, 27, 181, 0, 9, 42, 28, 181, 0, 15, 42, 29]⟩
theorem daX3_init_0 : agB cX3_init dsX3_init_0 0 := agB_of (n := 16) (by decide +kernel)
theorem dbX3_init_0 : (decode dsX3_init_0 0 = .ok (.aload_n 0, 1) ∧ okop dsX3_init_0 0 = true) ∧ (decode dsX3_init_0 1 = .ok (.invokespecial 3, 3) ∧ okop dsX3_init_0 1 = true) ∧ (decode dsX3_init_0 4 = .ok (.aload_n 0, 1) ∧ okop dsX3_init_0 4 = true) ∧ (decode dsX3_init_0 5 = .ok (.iload_n 1, 1) ∧ okop dsX3_init_0 5 = true) ∧ (decode dsX3_init_0 6 = .ok (.putfield 9, 3) ∧ okop dsX3_init_0 6 = true) ∧ (decode dsX3_init_0 9 = .ok (.aload_n 0, 1) ∧ okop dsX3_init_0 9 = true) ∧ (decode dsX3_init_0 10 = .ok (.iload_n 2, 1) ∧ okop dsX3_init_0 10 = true) ∧ (decode dsX3_init_0 11 = .ok (.putfield 15, 3) ∧ okop dsX3_init_0 11 = true) ∧ (decode dsX3_init_0 14 = .ok (.aload_n 0, 1) ∧ okop dsX3_init_0 14 = true) ∧ (decode dsX3_init_0 15 = .ok (.iload_n 3, 1) ∧ okop dsX3_init_0 15 = true) := by decide +kernel
theorem dX3_init_0 : decode cX3_init 0 = .ok (.aload_n 0, 1) := dgq (p := 0) daX3_init_0 dbX3_init_0.1
theorem dX3_init_1 : decode cX3_init 1 = .ok (.invokespecial 3, 3) := dgq (p := 1) daX3_init_0 dbX3_init_0.2.1
theorem dX3_init_4 : decode cX3_init 4 = .ok (.aload_n 0, 1) := dgq (p := 4) daX3_init_0 dbX3_init_0.2.2.1
theorem dX3_init_5 : decode cX3_init 5 = .ok (.iload_n 1, 1) := dgq (p := 5) daX3_init_0 dbX3_init_0.2.2.2.1
theorem dX3_init_6 : decode cX3_init 6 = .ok (.putfield 9, 3) := dgq (p := 6) daX3_init_0 dbX3_init_0.2.2.2.2.1
theorem dX3_init_9 : decode cX3_init 9 = .ok (.aload_n 0, 1) := dgq (p := 9) daX3_init_0 dbX3_init_0.2.2.2.2.2.1
theorem dX3_init_10 : decode cX3_init 10 = .ok (.iload_n 2, 1) := dgq (p := 10) daX3_init_0 dbX3_init_0.2.2.2.2.2.2.1
theorem dX3_init_11 : decode cX3_init 11 = .ok (.putfield 15, 3) := dgq (p := 11) daX3_init_0 dbX3_init_0.2.2.2.2.2.2.2.1
theorem dX3_init_14 : decode cX3_init 14 = .ok (.aload_n 0, 1) := dgq (p := 14) daX3_init_0 dbX3_init_0.2.2.2.2.2.2.2.2.1
theorem dX3_init_15 : decode cX3_init 15 = .ok (.iload_n 3, 1) := dgq (p := 15) daX3_init_0 dbX3_init_0.2.2.2.2.2.2.2.2.2
theorem dX3_init_22 : decode cX3_init 22 = .ok (.newarray .int, 2) := by decide +kernel
def dsX3_init_16 : ByteArray := ⟨#[181, 0, 18, 42, 21, 4, 188, 10, 181, 0, 21, 177]⟩
theorem daX3_init_16 : agB cX3_init dsX3_init_16 16 := agB_of (n := 12) (by decide +kernel)
theorem dbX3_init_16 : (decode dsX3_init_16 0 = .ok (.putfield 18, 3) ∧ okop dsX3_init_16 0 = true) ∧ (decode dsX3_init_16 3 = .ok (.aload_n 0, 1) ∧ okop dsX3_init_16 3 = true) ∧ (decode dsX3_init_16 4 = .ok (.iload 4, 2) ∧ okop dsX3_init_16 4 = true) ∧ (decode dsX3_init_16 8 = .ok (.putfield 21, 3) ∧ okop dsX3_init_16 8 = true) ∧ (decode dsX3_init_16 11 = .ok (.return_, 1) ∧ okop dsX3_init_16 11 = true) := by decide +kernel
theorem dX3_init_16 : decode cX3_init 16 = .ok (.putfield 18, 3) := dgq (p := 0) daX3_init_16 dbX3_init_16.1
theorem dX3_init_19 : decode cX3_init 19 = .ok (.aload_n 0, 1) := dgq (p := 3) daX3_init_16 dbX3_init_16.2.1
theorem dX3_init_20 : decode cX3_init 20 = .ok (.iload 4, 2) := dgq (p := 4) daX3_init_16 dbX3_init_16.2.2.1
theorem dX3_init_24 : decode cX3_init 24 = .ok (.putfield 21, 3) := dgq (p := 8) daX3_init_16 dbX3_init_16.2.2.2.1
theorem dX3_init_27 : decode cX3_init 27 = .ok (.return_, 1) := dgq (p := 11) daX3_init_16 dbX3_init_16.2.2.2.2
set_option maxRecDepth 20000 in
theorem ggX3_wayIn_X9_root : GoodIn wsX3_wayIn wsX9_root := goodIn_q _ [7] rfl (by decide +kernel)
set_option maxRecDepth 20000 in
theorem gX3_wayIn_X9_root_n29 : GoodIn wsX3_wayIn (wsX9_root) := ggX3_wayIn_X9_root
def dsX3_wayIn_0 : ByteArray := ⟨#[20, 0, 25, 42, 180, 0, 9, 133, 105, 20, 0, 27, 109, 64, 31, 42]⟩
theorem daX3_wayIn_0 : agB cX3_wayIn dsX3_wayIn_0 0 := agB_of (n := 16) (by decide +kernel)
theorem dbX3_wayIn_0 : (decode dsX3_wayIn_0 0 = .ok (.ldc2_w 25, 3) ∧ okop dsX3_wayIn_0 0 = true) ∧ (decode dsX3_wayIn_0 3 = .ok (.aload_n 0, 1) ∧ okop dsX3_wayIn_0 3 = true) ∧ (decode dsX3_wayIn_0 4 = .ok (.getfield 9, 3) ∧ okop dsX3_wayIn_0 4 = true) ∧ (decode dsX3_wayIn_0 7 = .ok (.i2l, 1) ∧ okop dsX3_wayIn_0 7 = true) ∧ (decode dsX3_wayIn_0 8 = .ok (.lmul, 1) ∧ okop dsX3_wayIn_0 8 = true) ∧ (decode dsX3_wayIn_0 9 = .ok (.ldc2_w 27, 3) ∧ okop dsX3_wayIn_0 9 = true) ∧ (decode dsX3_wayIn_0 12 = .ok (.ldiv, 1) ∧ okop dsX3_wayIn_0 12 = true) ∧ (decode dsX3_wayIn_0 13 = .ok (.lstore_n 1, 1) ∧ okop dsX3_wayIn_0 13 = true) ∧ (decode dsX3_wayIn_0 14 = .ok (.lload_n 1, 1) ∧ okop dsX3_wayIn_0 14 = true) ∧ (decode dsX3_wayIn_0 15 = .ok (.aload_n 0, 1) ∧ okop dsX3_wayIn_0 15 = true) := by decide +kernel
theorem dX3_wayIn_0 : decode cX3_wayIn 0 = .ok (.ldc2_w 25, 3) := dgq (p := 0) daX3_wayIn_0 dbX3_wayIn_0.1
theorem dX3_wayIn_3 : decode cX3_wayIn 3 = .ok (.aload_n 0, 1) := dgq (p := 3) daX3_wayIn_0 dbX3_wayIn_0.2.1
theorem dX3_wayIn_4 : decode cX3_wayIn 4 = .ok (.getfield 9, 3) := dgq (p := 4) daX3_wayIn_0 dbX3_wayIn_0.2.2.1
theorem dX3_wayIn_7 : decode cX3_wayIn 7 = .ok (.i2l, 1) := dgq (p := 7) daX3_wayIn_0 dbX3_wayIn_0.2.2.2.1
theorem dX3_wayIn_8 : decode cX3_wayIn 8 = .ok (.lmul, 1) := dgq (p := 8) daX3_wayIn_0 dbX3_wayIn_0.2.2.2.2.1
theorem dX3_wayIn_9 : decode cX3_wayIn 9 = .ok (.ldc2_w 27, 3) := dgq (p := 9) daX3_wayIn_0 dbX3_wayIn_0.2.2.2.2.2.1
theorem dX3_wayIn_12 : decode cX3_wayIn 12 = .ok (.ldiv, 1) := dgq (p := 12) daX3_wayIn_0 dbX3_wayIn_0.2.2.2.2.2.2.1
theorem dX3_wayIn_13 : decode cX3_wayIn 13 = .ok (.lstore_n 1, 1) := dgq (p := 13) daX3_wayIn_0 dbX3_wayIn_0.2.2.2.2.2.2.2.1
theorem dX3_wayIn_14 : decode cX3_wayIn 14 = .ok (.lload_n 1, 1) := dgq (p := 14) daX3_wayIn_0 dbX3_wayIn_0.2.2.2.2.2.2.2.2.1
theorem dX3_wayIn_15 : decode cX3_wayIn 15 = .ok (.aload_n 0, 1) := dgq (p := 15) daX3_wayIn_0 dbX3_wayIn_0.2.2.2.2.2.2.2.2.2
def dsX3_wayIn_16 : ByteArray := ⟨#[180, 0, 18, 133, 31, 101, 105, 184, 0, 29, 173]⟩
theorem daX3_wayIn_16 : agB cX3_wayIn dsX3_wayIn_16 16 := agB_of (n := 11) (by decide +kernel)
theorem dbX3_wayIn_16 : (decode dsX3_wayIn_16 0 = .ok (.getfield 18, 3) ∧ okop dsX3_wayIn_16 0 = true) ∧ (decode dsX3_wayIn_16 3 = .ok (.i2l, 1) ∧ okop dsX3_wayIn_16 3 = true) ∧ (decode dsX3_wayIn_16 4 = .ok (.lload_n 1, 1) ∧ okop dsX3_wayIn_16 4 = true) ∧ (decode dsX3_wayIn_16 5 = .ok (.lsub, 1) ∧ okop dsX3_wayIn_16 5 = true) ∧ (decode dsX3_wayIn_16 6 = .ok (.lmul, 1) ∧ okop dsX3_wayIn_16 6 = true) ∧ (decode dsX3_wayIn_16 7 = .ok (.invokestatic 29, 3) ∧ okop dsX3_wayIn_16 7 = true) ∧ (decode dsX3_wayIn_16 10 = .ok (.lreturn, 1) ∧ okop dsX3_wayIn_16 10 = true) := by decide +kernel
theorem dX3_wayIn_16 : decode cX3_wayIn 16 = .ok (.getfield 18, 3) := dgq (p := 0) daX3_wayIn_16 dbX3_wayIn_16.1
theorem dX3_wayIn_19 : decode cX3_wayIn 19 = .ok (.i2l, 1) := dgq (p := 3) daX3_wayIn_16 dbX3_wayIn_16.2.1
theorem dX3_wayIn_20 : decode cX3_wayIn 20 = .ok (.lload_n 1, 1) := dgq (p := 4) daX3_wayIn_16 dbX3_wayIn_16.2.2.1
theorem dX3_wayIn_21 : decode cX3_wayIn 21 = .ok (.lsub, 1) := dgq (p := 5) daX3_wayIn_16 dbX3_wayIn_16.2.2.2.1
theorem dX3_wayIn_22 : decode cX3_wayIn 22 = .ok (.lmul, 1) := dgq (p := 6) daX3_wayIn_16 dbX3_wayIn_16.2.2.2.2.1
theorem dX3_wayIn_23 : decode cX3_wayIn 23 = .ok (.invokestatic 29, 3) := dgq (p := 7) daX3_wayIn_16 dbX3_wayIn_16.2.2.2.2.2.1
theorem dX3_wayIn_26 : decode cX3_wayIn 26 = .ok (.lreturn, 1) := dgq (p := 10) daX3_wayIn_16 dbX3_wayIn_16.2.2.2.2.2.2
set_option maxRecDepth 20000 in
theorem ggX3_fits_X3_wayIn : GoodIn wsX3_fits wsX3_wayIn := goodIn_ca (goodIn_q _ [11, 12, 2, 13, 14, 15, 16, 17] rfl (by decide +kernel)) (goodIn_sub (fun _ h => (List.mem_cons_of_mem _ (List.mem_append_right _ h))) tg_wsX30)
set_option maxRecDepth 20000 in
theorem gX3_fits_X3_wayIn : GoodIn wsX3_fits (wsV RX3 45 RX3 yX3_wayIn wsX3_wayIn) := goodIn_app (goodIn_q _ [7, 8, 9, 10] rfl (by decide +kernel)) ggX3_fits_X3_wayIn
def dsX3_fits_0 : ByteArray := ⟨#[43, 180, 0, 33, 42, 180, 0, 9, 160, 0, 54, 43, 180, 0, 36, 42, 180, 0, 15, 161, 0, 43]⟩
theorem daX3_fits_0 : agB cX3_fits dsX3_fits_0 0 := agB_of (n := 22) (by decide +kernel)
theorem dbX3_fits_0 : (decode dsX3_fits_0 0 = .ok (.aload_n 1, 1) ∧ okop dsX3_fits_0 0 = true) ∧ (decode dsX3_fits_0 1 = .ok (.getfield 33, 3) ∧ okop dsX3_fits_0 1 = true) ∧ (decode dsX3_fits_0 4 = .ok (.aload_n 0, 1) ∧ okop dsX3_fits_0 4 = true) ∧ (decode dsX3_fits_0 5 = .ok (.getfield 9, 3) ∧ okop dsX3_fits_0 5 = true) ∧ (decode dsX3_fits_0 8 = .ok (.if_icmp .ne 54, 3) ∧ okop dsX3_fits_0 8 = true) ∧ (decode dsX3_fits_0 11 = .ok (.aload_n 1, 1) ∧ okop dsX3_fits_0 11 = true) ∧ (decode dsX3_fits_0 12 = .ok (.getfield 36, 3) ∧ okop dsX3_fits_0 12 = true) ∧ (decode dsX3_fits_0 15 = .ok (.aload_n 0, 1) ∧ okop dsX3_fits_0 15 = true) ∧ (decode dsX3_fits_0 16 = .ok (.getfield 15, 3) ∧ okop dsX3_fits_0 16 = true) ∧ (decode dsX3_fits_0 19 = .ok (.if_icmp .lt 43, 3) ∧ okop dsX3_fits_0 19 = true) := by decide +kernel
theorem dX3_fits_0 : decode cX3_fits 0 = .ok (.aload_n 1, 1) := dgq (p := 0) daX3_fits_0 dbX3_fits_0.1
theorem dX3_fits_1 : decode cX3_fits 1 = .ok (.getfield 33, 3) := dgq (p := 1) daX3_fits_0 dbX3_fits_0.2.1
theorem dX3_fits_4 : decode cX3_fits 4 = .ok (.aload_n 0, 1) := dgq (p := 4) daX3_fits_0 dbX3_fits_0.2.2.1
theorem dX3_fits_5 : decode cX3_fits 5 = .ok (.getfield 9, 3) := dgq (p := 5) daX3_fits_0 dbX3_fits_0.2.2.2.1
theorem dX3_fits_8 : decode cX3_fits 8 = .ok (.if_icmp .ne 54, 3) := dgq (p := 8) daX3_fits_0 dbX3_fits_0.2.2.2.2.1
theorem dX3_fits_11 : decode cX3_fits 11 = .ok (.aload_n 1, 1) := dgq (p := 11) daX3_fits_0 dbX3_fits_0.2.2.2.2.2.1
theorem dX3_fits_12 : decode cX3_fits 12 = .ok (.getfield 36, 3) := dgq (p := 12) daX3_fits_0 dbX3_fits_0.2.2.2.2.2.2.1
theorem dX3_fits_15 : decode cX3_fits 15 = .ok (.aload_n 0, 1) := dgq (p := 15) daX3_fits_0 dbX3_fits_0.2.2.2.2.2.2.2.1
theorem dX3_fits_16 : decode cX3_fits 16 = .ok (.getfield 15, 3) := dgq (p := 16) daX3_fits_0 dbX3_fits_0.2.2.2.2.2.2.2.2.1
theorem dX3_fits_19 : decode cX3_fits 19 = .ok (.if_icmp .lt 43, 3) := dgq (p := 19) daX3_fits_0 dbX3_fits_0.2.2.2.2.2.2.2.2.2
def dsX3_fits_22 : ByteArray := ⟨#[42, 180, 0, 15, 4, 159, 0, 10, 43, 180, 0, 39, 155, 0, 28, 43, 180, 0, 42, 2]⟩
theorem daX3_fits_22 : agB cX3_fits dsX3_fits_22 22 := agB_of (n := 20) (by decide +kernel)
theorem dbX3_fits_22 : (decode dsX3_fits_22 0 = .ok (.aload_n 0, 1) ∧ okop dsX3_fits_22 0 = true) ∧ (decode dsX3_fits_22 1 = .ok (.getfield 15, 3) ∧ okop dsX3_fits_22 1 = true) ∧ (decode dsX3_fits_22 4 = .ok (.iconst 1, 1) ∧ okop dsX3_fits_22 4 = true) ∧ (decode dsX3_fits_22 5 = .ok (.if_icmp .eq 10, 3) ∧ okop dsX3_fits_22 5 = true) ∧ (decode dsX3_fits_22 8 = .ok (.aload_n 1, 1) ∧ okop dsX3_fits_22 8 = true) ∧ (decode dsX3_fits_22 9 = .ok (.getfield 39, 3) ∧ okop dsX3_fits_22 9 = true) ∧ (decode dsX3_fits_22 12 = .ok (.ifCond .lt 28, 3) ∧ okop dsX3_fits_22 12 = true) ∧ (decode dsX3_fits_22 15 = .ok (.aload_n 1, 1) ∧ okop dsX3_fits_22 15 = true) ∧ (decode dsX3_fits_22 16 = .ok (.getfield 42, 3) ∧ okop dsX3_fits_22 16 = true) ∧ (decode dsX3_fits_22 19 = .ok (.iconst (-1), 1) ∧ okop dsX3_fits_22 19 = true) := by decide +kernel
theorem dX3_fits_22 : decode cX3_fits 22 = .ok (.aload_n 0, 1) := dgq (p := 0) daX3_fits_22 dbX3_fits_22.1
theorem dX3_fits_23 : decode cX3_fits 23 = .ok (.getfield 15, 3) := dgq (p := 1) daX3_fits_22 dbX3_fits_22.2.1
theorem dX3_fits_26 : decode cX3_fits 26 = .ok (.iconst 1, 1) := dgq (p := 4) daX3_fits_22 dbX3_fits_22.2.2.1
theorem dX3_fits_27 : decode cX3_fits 27 = .ok (.if_icmp .eq 10, 3) := dgq (p := 5) daX3_fits_22 dbX3_fits_22.2.2.2.1
theorem dX3_fits_30 : decode cX3_fits 30 = .ok (.aload_n 1, 1) := dgq (p := 8) daX3_fits_22 dbX3_fits_22.2.2.2.2.1
theorem dX3_fits_31 : decode cX3_fits 31 = .ok (.getfield 39, 3) := dgq (p := 9) daX3_fits_22 dbX3_fits_22.2.2.2.2.2.1
theorem dX3_fits_34 : decode cX3_fits 34 = .ok (.ifCond .lt 28, 3) := dgq (p := 12) daX3_fits_22 dbX3_fits_22.2.2.2.2.2.2.1
theorem dX3_fits_37 : decode cX3_fits 37 = .ok (.aload_n 1, 1) := dgq (p := 15) daX3_fits_22 dbX3_fits_22.2.2.2.2.2.2.2.1
theorem dX3_fits_38 : decode cX3_fits 38 = .ok (.getfield 42, 3) := dgq (p := 16) daX3_fits_22 dbX3_fits_22.2.2.2.2.2.2.2.2.1
theorem dX3_fits_41 : decode cX3_fits 41 = .ok (.iconst (-1), 1) := dgq (p := 19) daX3_fits_22 dbX3_fits_22.2.2.2.2.2.2.2.2.2
def dsX3_fits_42 : ByteArray := ⟨#[159, 0, 16, 42, 182, 0, 45, 43, 180, 0, 42, 133, 148, 157, 0, 7, 4, 167, 0, 4]⟩
theorem daX3_fits_42 : agB cX3_fits dsX3_fits_42 42 := agB_of (n := 20) (by decide +kernel)
theorem dbX3_fits_42 : (decode dsX3_fits_42 0 = .ok (.if_icmp .eq 16, 3) ∧ okop dsX3_fits_42 0 = true) ∧ (decode dsX3_fits_42 3 = .ok (.aload_n 0, 1) ∧ okop dsX3_fits_42 3 = true) ∧ (decode dsX3_fits_42 4 = .ok (.invokevirtual 45, 3) ∧ okop dsX3_fits_42 4 = true) ∧ (decode dsX3_fits_42 7 = .ok (.aload_n 1, 1) ∧ okop dsX3_fits_42 7 = true) ∧ (decode dsX3_fits_42 8 = .ok (.getfield 42, 3) ∧ okop dsX3_fits_42 8 = true) ∧ (decode dsX3_fits_42 11 = .ok (.i2l, 1) ∧ okop dsX3_fits_42 11 = true) ∧ (decode dsX3_fits_42 12 = .ok (.lcmp, 1) ∧ okop dsX3_fits_42 12 = true) ∧ (decode dsX3_fits_42 13 = .ok (.ifCond .gt 7, 3) ∧ okop dsX3_fits_42 13 = true) ∧ (decode dsX3_fits_42 16 = .ok (.iconst 1, 1) ∧ okop dsX3_fits_42 16 = true) ∧ (decode dsX3_fits_42 17 = .ok (.goto 4, 3) ∧ okop dsX3_fits_42 17 = true) := by decide +kernel
theorem dX3_fits_42 : decode cX3_fits 42 = .ok (.if_icmp .eq 16, 3) := dgq (p := 0) daX3_fits_42 dbX3_fits_42.1
theorem dX3_fits_45 : decode cX3_fits 45 = .ok (.aload_n 0, 1) := dgq (p := 3) daX3_fits_42 dbX3_fits_42.2.1
theorem dX3_fits_46 : decode cX3_fits 46 = .ok (.invokevirtual 45, 3) := dgq (p := 4) daX3_fits_42 dbX3_fits_42.2.2.1
theorem dX3_fits_49 : decode cX3_fits 49 = .ok (.aload_n 1, 1) := dgq (p := 7) daX3_fits_42 dbX3_fits_42.2.2.2.1
theorem dX3_fits_50 : decode cX3_fits 50 = .ok (.getfield 42, 3) := dgq (p := 8) daX3_fits_42 dbX3_fits_42.2.2.2.2.1
theorem dX3_fits_53 : decode cX3_fits 53 = .ok (.i2l, 1) := dgq (p := 11) daX3_fits_42 dbX3_fits_42.2.2.2.2.2.1
theorem dX3_fits_54 : decode cX3_fits 54 = .ok (.lcmp, 1) := dgq (p := 12) daX3_fits_42 dbX3_fits_42.2.2.2.2.2.2.1
theorem dX3_fits_55 : decode cX3_fits 55 = .ok (.ifCond .gt 7, 3) := dgq (p := 13) daX3_fits_42 dbX3_fits_42.2.2.2.2.2.2.2.1
theorem dX3_fits_58 : decode cX3_fits 58 = .ok (.iconst 1, 1) := dgq (p := 16) daX3_fits_42 dbX3_fits_42.2.2.2.2.2.2.2.2.1
theorem dX3_fits_59 : decode cX3_fits 59 = .ok (.goto 4, 3) := dgq (p := 17) daX3_fits_42 dbX3_fits_42.2.2.2.2.2.2.2.2.2
theorem dX3_fits_62 : decode cX3_fits 62 = .ok (.iconst 0, 1) := by decide +kernel
theorem dX3_fits_63 : decode cX3_fits 63 = .ok (.ireturn, 1) := by decide +kernel
def dsX3_isBlunt_0 : ByteArray := ⟨#[42, 180, 0, 49, 42, 180, 0, 21, 190, 162, 0, 18, 42, 180, 0, 21, 42, 180, 0, 49]⟩
theorem daX3_isBlunt_0 : agB cX3_isBlunt dsX3_isBlunt_0 0 := agB_of (n := 20) (by decide +kernel)
theorem dbX3_isBlunt_0 : (decode dsX3_isBlunt_0 0 = .ok (.aload_n 0, 1) ∧ okop dsX3_isBlunt_0 0 = true) ∧ (decode dsX3_isBlunt_0 1 = .ok (.getfield 49, 3) ∧ okop dsX3_isBlunt_0 1 = true) ∧ (decode dsX3_isBlunt_0 4 = .ok (.aload_n 0, 1) ∧ okop dsX3_isBlunt_0 4 = true) ∧ (decode dsX3_isBlunt_0 5 = .ok (.getfield 21, 3) ∧ okop dsX3_isBlunt_0 5 = true) ∧ (decode dsX3_isBlunt_0 8 = .ok (.arraylength, 1) ∧ okop dsX3_isBlunt_0 8 = true) ∧ (decode dsX3_isBlunt_0 9 = .ok (.if_icmp .ge 18, 3) ∧ okop dsX3_isBlunt_0 9 = true) ∧ (decode dsX3_isBlunt_0 12 = .ok (.aload_n 0, 1) ∧ okop dsX3_isBlunt_0 12 = true) ∧ (decode dsX3_isBlunt_0 13 = .ok (.getfield 21, 3) ∧ okop dsX3_isBlunt_0 13 = true) ∧ (decode dsX3_isBlunt_0 16 = .ok (.aload_n 0, 1) ∧ okop dsX3_isBlunt_0 16 = true) ∧ (decode dsX3_isBlunt_0 17 = .ok (.getfield 49, 3) ∧ okop dsX3_isBlunt_0 17 = true) := by decide +kernel
theorem dX3_isBlunt_0 : decode cX3_isBlunt 0 = .ok (.aload_n 0, 1) := dgq (p := 0) daX3_isBlunt_0 dbX3_isBlunt_0.1
theorem dX3_isBlunt_1 : decode cX3_isBlunt 1 = .ok (.getfield 49, 3) := dgq (p := 1) daX3_isBlunt_0 dbX3_isBlunt_0.2.1
theorem dX3_isBlunt_4 : decode cX3_isBlunt 4 = .ok (.aload_n 0, 1) := dgq (p := 4) daX3_isBlunt_0 dbX3_isBlunt_0.2.2.1
theorem dX3_isBlunt_5 : decode cX3_isBlunt 5 = .ok (.getfield 21, 3) := dgq (p := 5) daX3_isBlunt_0 dbX3_isBlunt_0.2.2.2.1
theorem dX3_isBlunt_8 : decode cX3_isBlunt 8 = .ok (.arraylength, 1) := dgq (p := 8) daX3_isBlunt_0 dbX3_isBlunt_0.2.2.2.2.1
theorem dX3_isBlunt_9 : decode cX3_isBlunt 9 = .ok (.if_icmp .ge 18, 3) := dgq (p := 9) daX3_isBlunt_0 dbX3_isBlunt_0.2.2.2.2.2.1
theorem dX3_isBlunt_12 : decode cX3_isBlunt 12 = .ok (.aload_n 0, 1) := dgq (p := 12) daX3_isBlunt_0 dbX3_isBlunt_0.2.2.2.2.2.2.1
theorem dX3_isBlunt_13 : decode cX3_isBlunt 13 = .ok (.getfield 21, 3) := dgq (p := 13) daX3_isBlunt_0 dbX3_isBlunt_0.2.2.2.2.2.2.2.1
theorem dX3_isBlunt_16 : decode cX3_isBlunt 16 = .ok (.aload_n 0, 1) := dgq (p := 16) daX3_isBlunt_0 dbX3_isBlunt_0.2.2.2.2.2.2.2.2.1
theorem dX3_isBlunt_17 : decode cX3_isBlunt 17 = .ok (.getfield 49, 3) := dgq (p := 17) daX3_isBlunt_0 dbX3_isBlunt_0.2.2.2.2.2.2.2.2.2
def dsX3_isBlunt_20 : ByteArray := ⟨#[46, 17, 0, 200, 161, 0, 7, 4, 167, 0, 4, 3, 172]⟩
theorem daX3_isBlunt_20 : agB cX3_isBlunt dsX3_isBlunt_20 20 := agB_of (n := 13) (by decide +kernel)
theorem dbX3_isBlunt_20 : (decode dsX3_isBlunt_20 0 = .ok (.iaload, 1) ∧ okop dsX3_isBlunt_20 0 = true) ∧ (decode dsX3_isBlunt_20 1 = .ok (.sipush 200, 3) ∧ okop dsX3_isBlunt_20 1 = true) ∧ (decode dsX3_isBlunt_20 4 = .ok (.if_icmp .lt 7, 3) ∧ okop dsX3_isBlunt_20 4 = true) ∧ (decode dsX3_isBlunt_20 7 = .ok (.iconst 1, 1) ∧ okop dsX3_isBlunt_20 7 = true) ∧ (decode dsX3_isBlunt_20 8 = .ok (.goto 4, 3) ∧ okop dsX3_isBlunt_20 8 = true) ∧ (decode dsX3_isBlunt_20 11 = .ok (.iconst 0, 1) ∧ okop dsX3_isBlunt_20 11 = true) ∧ (decode dsX3_isBlunt_20 12 = .ok (.ireturn, 1) ∧ okop dsX3_isBlunt_20 12 = true) := by decide +kernel
theorem dX3_isBlunt_20 : decode cX3_isBlunt 20 = .ok (.iaload, 1) := dgq (p := 0) daX3_isBlunt_20 dbX3_isBlunt_20.1
theorem dX3_isBlunt_21 : decode cX3_isBlunt 21 = .ok (.sipush 200, 3) := dgq (p := 1) daX3_isBlunt_20 dbX3_isBlunt_20.2.1
theorem dX3_isBlunt_24 : decode cX3_isBlunt 24 = .ok (.if_icmp .lt 7, 3) := dgq (p := 4) daX3_isBlunt_20 dbX3_isBlunt_20.2.2.1
theorem dX3_isBlunt_27 : decode cX3_isBlunt 27 = .ok (.iconst 1, 1) := dgq (p := 7) daX3_isBlunt_20 dbX3_isBlunt_20.2.2.2.1
theorem dX3_isBlunt_28 : decode cX3_isBlunt 28 = .ok (.goto 4, 3) := dgq (p := 8) daX3_isBlunt_20 dbX3_isBlunt_20.2.2.2.2.1
theorem dX3_isBlunt_31 : decode cX3_isBlunt 31 = .ok (.iconst 0, 1) := dgq (p := 11) daX3_isBlunt_20 dbX3_isBlunt_20.2.2.2.2.2.1
theorem dX3_isBlunt_32 : decode cX3_isBlunt 32 = .ok (.ireturn, 1) := dgq (p := 12) daX3_isBlunt_20 dbX3_isBlunt_20.2.2.2.2.2.2
def dsX3_turnToNext_0 : ByteArray := ⟨#[42, 180, 0, 49, 61, 28, 42, 180, 0, 21, 190, 162, 0, 47, 42, 180, 0, 15]⟩
theorem daX3_turnToNext_0 : agB cX3_turnToNext dsX3_turnToNext_0 0 := agB_of (n := 18) (by decide +kernel)
theorem dbX3_turnToNext_0 : (decode dsX3_turnToNext_0 0 = .ok (.aload_n 0, 1) ∧ okop dsX3_turnToNext_0 0 = true) ∧ (decode dsX3_turnToNext_0 1 = .ok (.getfield 49, 3) ∧ okop dsX3_turnToNext_0 1 = true) ∧ (decode dsX3_turnToNext_0 4 = .ok (.istore_n 2, 1) ∧ okop dsX3_turnToNext_0 4 = true) ∧ (decode dsX3_turnToNext_0 5 = .ok (.iload_n 2, 1) ∧ okop dsX3_turnToNext_0 5 = true) ∧ (decode dsX3_turnToNext_0 6 = .ok (.aload_n 0, 1) ∧ okop dsX3_turnToNext_0 6 = true) ∧ (decode dsX3_turnToNext_0 7 = .ok (.getfield 21, 3) ∧ okop dsX3_turnToNext_0 7 = true) ∧ (decode dsX3_turnToNext_0 10 = .ok (.arraylength, 1) ∧ okop dsX3_turnToNext_0 10 = true) ∧ (decode dsX3_turnToNext_0 11 = .ok (.if_icmp .ge 47, 3) ∧ okop dsX3_turnToNext_0 11 = true) ∧ (decode dsX3_turnToNext_0 14 = .ok (.aload_n 0, 1) ∧ okop dsX3_turnToNext_0 14 = true) ∧ (decode dsX3_turnToNext_0 15 = .ok (.getfield 15, 3) ∧ okop dsX3_turnToNext_0 15 = true) := by decide +kernel
theorem dX3_turnToNext_0 : decode cX3_turnToNext 0 = .ok (.aload_n 0, 1) := dgq (p := 0) daX3_turnToNext_0 dbX3_turnToNext_0.1
theorem dX3_turnToNext_1 : decode cX3_turnToNext 1 = .ok (.getfield 49, 3) := dgq (p := 1) daX3_turnToNext_0 dbX3_turnToNext_0.2.1
theorem dX3_turnToNext_4 : decode cX3_turnToNext 4 = .ok (.istore_n 2, 1) := dgq (p := 4) daX3_turnToNext_0 dbX3_turnToNext_0.2.2.1
theorem dX3_turnToNext_5 : decode cX3_turnToNext 5 = .ok (.iload_n 2, 1) := dgq (p := 5) daX3_turnToNext_0 dbX3_turnToNext_0.2.2.2.1
theorem dX3_turnToNext_6 : decode cX3_turnToNext 6 = .ok (.aload_n 0, 1) := dgq (p := 6) daX3_turnToNext_0 dbX3_turnToNext_0.2.2.2.2.1
theorem dX3_turnToNext_7 : decode cX3_turnToNext 7 = .ok (.getfield 21, 3) := dgq (p := 7) daX3_turnToNext_0 dbX3_turnToNext_0.2.2.2.2.2.1
theorem dX3_turnToNext_10 : decode cX3_turnToNext 10 = .ok (.arraylength, 1) := dgq (p := 10) daX3_turnToNext_0 dbX3_turnToNext_0.2.2.2.2.2.2.1
theorem dX3_turnToNext_11 : decode cX3_turnToNext 11 = .ok (.if_icmp .ge 47, 3) := dgq (p := 11) daX3_turnToNext_0 dbX3_turnToNext_0.2.2.2.2.2.2.2.1
theorem dX3_turnToNext_14 : decode cX3_turnToNext 14 = .ok (.aload_n 0, 1) := dgq (p := 14) daX3_turnToNext_0 dbX3_turnToNext_0.2.2.2.2.2.2.2.2.1
theorem dX3_turnToNext_15 : decode cX3_turnToNext 15 = .ok (.getfield 15, 3) := dgq (p := 15) daX3_turnToNext_0 dbX3_turnToNext_0.2.2.2.2.2.2.2.2.2
def dsX3_turnToNext_18 : ByteArray := ⟨#[158, 0, 40, 42, 180, 0, 21, 28, 92, 46, 27, 42, 180, 0, 15, 108]⟩
theorem daX3_turnToNext_18 : agB cX3_turnToNext dsX3_turnToNext_18 18 := agB_of (n := 16) (by decide +kernel)
theorem dbX3_turnToNext_18 : (decode dsX3_turnToNext_18 0 = .ok (.ifCond .le 40, 3) ∧ okop dsX3_turnToNext_18 0 = true) ∧ (decode dsX3_turnToNext_18 3 = .ok (.aload_n 0, 1) ∧ okop dsX3_turnToNext_18 3 = true) ∧ (decode dsX3_turnToNext_18 4 = .ok (.getfield 21, 3) ∧ okop dsX3_turnToNext_18 4 = true) ∧ (decode dsX3_turnToNext_18 7 = .ok (.iload_n 2, 1) ∧ okop dsX3_turnToNext_18 7 = true) ∧ (decode dsX3_turnToNext_18 8 = .ok (.dup2, 1) ∧ okop dsX3_turnToNext_18 8 = true) ∧ (decode dsX3_turnToNext_18 9 = .ok (.iaload, 1) ∧ okop dsX3_turnToNext_18 9 = true) ∧ (decode dsX3_turnToNext_18 10 = .ok (.iload_n 1, 1) ∧ okop dsX3_turnToNext_18 10 = true) ∧ (decode dsX3_turnToNext_18 11 = .ok (.aload_n 0, 1) ∧ okop dsX3_turnToNext_18 11 = true) ∧ (decode dsX3_turnToNext_18 12 = .ok (.getfield 15, 3) ∧ okop dsX3_turnToNext_18 12 = true) ∧ (decode dsX3_turnToNext_18 15 = .ok (.idiv, 1) ∧ okop dsX3_turnToNext_18 15 = true) := by decide +kernel
theorem dX3_turnToNext_18 : decode cX3_turnToNext 18 = .ok (.ifCond .le 40, 3) := dgq (p := 0) daX3_turnToNext_18 dbX3_turnToNext_18.1
theorem dX3_turnToNext_21 : decode cX3_turnToNext 21 = .ok (.aload_n 0, 1) := dgq (p := 3) daX3_turnToNext_18 dbX3_turnToNext_18.2.1
theorem dX3_turnToNext_22 : decode cX3_turnToNext 22 = .ok (.getfield 21, 3) := dgq (p := 4) daX3_turnToNext_18 dbX3_turnToNext_18.2.2.1
theorem dX3_turnToNext_25 : decode cX3_turnToNext 25 = .ok (.iload_n 2, 1) := dgq (p := 7) daX3_turnToNext_18 dbX3_turnToNext_18.2.2.2.1
theorem dX3_turnToNext_26 : decode cX3_turnToNext 26 = .ok (.dup2, 1) := dgq (p := 8) daX3_turnToNext_18 dbX3_turnToNext_18.2.2.2.2.1
theorem dX3_turnToNext_27 : decode cX3_turnToNext 27 = .ok (.iaload, 1) := dgq (p := 9) daX3_turnToNext_18 dbX3_turnToNext_18.2.2.2.2.2.1
theorem dX3_turnToNext_28 : decode cX3_turnToNext 28 = .ok (.iload_n 1, 1) := dgq (p := 10) daX3_turnToNext_18 dbX3_turnToNext_18.2.2.2.2.2.2.1
theorem dX3_turnToNext_29 : decode cX3_turnToNext 29 = .ok (.aload_n 0, 1) := dgq (p := 11) daX3_turnToNext_18 dbX3_turnToNext_18.2.2.2.2.2.2.2.1
theorem dX3_turnToNext_30 : decode cX3_turnToNext 30 = .ok (.getfield 15, 3) := dgq (p := 12) daX3_turnToNext_18 dbX3_turnToNext_18.2.2.2.2.2.2.2.2.1
theorem dX3_turnToNext_33 : decode cX3_turnToNext 33 = .ok (.idiv, 1) := dgq (p := 15) daX3_turnToNext_18 dbX3_turnToNext_18.2.2.2.2.2.2.2.2.2
def dsX3_turnToNext_34 : ByteArray := ⟨#[96, 79, 42, 28, 4, 96, 42, 180, 0, 21, 190, 162, 0, 9]⟩
theorem daX3_turnToNext_34 : agB cX3_turnToNext dsX3_turnToNext_34 34 := agB_of (n := 14) (by decide +kernel)
theorem dbX3_turnToNext_34 : (decode dsX3_turnToNext_34 0 = .ok (.iadd, 1) ∧ okop dsX3_turnToNext_34 0 = true) ∧ (decode dsX3_turnToNext_34 1 = .ok (.iastore, 1) ∧ okop dsX3_turnToNext_34 1 = true) ∧ (decode dsX3_turnToNext_34 2 = .ok (.aload_n 0, 1) ∧ okop dsX3_turnToNext_34 2 = true) ∧ (decode dsX3_turnToNext_34 3 = .ok (.iload_n 2, 1) ∧ okop dsX3_turnToNext_34 3 = true) ∧ (decode dsX3_turnToNext_34 4 = .ok (.iconst 1, 1) ∧ okop dsX3_turnToNext_34 4 = true) ∧ (decode dsX3_turnToNext_34 5 = .ok (.iadd, 1) ∧ okop dsX3_turnToNext_34 5 = true) ∧ (decode dsX3_turnToNext_34 6 = .ok (.aload_n 0, 1) ∧ okop dsX3_turnToNext_34 6 = true) ∧ (decode dsX3_turnToNext_34 7 = .ok (.getfield 21, 3) ∧ okop dsX3_turnToNext_34 7 = true) ∧ (decode dsX3_turnToNext_34 10 = .ok (.arraylength, 1) ∧ okop dsX3_turnToNext_34 10 = true) ∧ (decode dsX3_turnToNext_34 11 = .ok (.if_icmp .ge 9, 3) ∧ okop dsX3_turnToNext_34 11 = true) := by decide +kernel
theorem dX3_turnToNext_34 : decode cX3_turnToNext 34 = .ok (.iadd, 1) := dgq (p := 0) daX3_turnToNext_34 dbX3_turnToNext_34.1
theorem dX3_turnToNext_35 : decode cX3_turnToNext 35 = .ok (.iastore, 1) := dgq (p := 1) daX3_turnToNext_34 dbX3_turnToNext_34.2.1
theorem dX3_turnToNext_36 : decode cX3_turnToNext 36 = .ok (.aload_n 0, 1) := dgq (p := 2) daX3_turnToNext_34 dbX3_turnToNext_34.2.2.1
theorem dX3_turnToNext_37 : decode cX3_turnToNext 37 = .ok (.iload_n 2, 1) := dgq (p := 3) daX3_turnToNext_34 dbX3_turnToNext_34.2.2.2.1
theorem dX3_turnToNext_38 : decode cX3_turnToNext 38 = .ok (.iconst 1, 1) := dgq (p := 4) daX3_turnToNext_34 dbX3_turnToNext_34.2.2.2.2.1
theorem dX3_turnToNext_39 : decode cX3_turnToNext 39 = .ok (.iadd, 1) := dgq (p := 5) daX3_turnToNext_34 dbX3_turnToNext_34.2.2.2.2.2.1
theorem dX3_turnToNext_40 : decode cX3_turnToNext 40 = .ok (.aload_n 0, 1) := dgq (p := 6) daX3_turnToNext_34 dbX3_turnToNext_34.2.2.2.2.2.2.1
theorem dX3_turnToNext_41 : decode cX3_turnToNext 41 = .ok (.getfield 21, 3) := dgq (p := 7) daX3_turnToNext_34 dbX3_turnToNext_34.2.2.2.2.2.2.2.1
theorem dX3_turnToNext_44 : decode cX3_turnToNext 44 = .ok (.arraylength, 1) := dgq (p := 10) daX3_turnToNext_34 dbX3_turnToNext_34.2.2.2.2.2.2.2.2.1
theorem dX3_turnToNext_45 : decode cX3_turnToNext 45 = .ok (.if_icmp .ge 9, 3) := dgq (p := 11) daX3_turnToNext_34 dbX3_turnToNext_34.2.2.2.2.2.2.2.2.2
def dsX3_turnToNext_48 : ByteArray := ⟨#[28, 4, 96, 167, 0, 4, 3, 181, 0, 49, 28, 172]⟩
theorem daX3_turnToNext_48 : agB cX3_turnToNext dsX3_turnToNext_48 48 := agB_of (n := 12) (by decide +kernel)
theorem dbX3_turnToNext_48 : (decode dsX3_turnToNext_48 0 = .ok (.iload_n 2, 1) ∧ okop dsX3_turnToNext_48 0 = true) ∧ (decode dsX3_turnToNext_48 1 = .ok (.iconst 1, 1) ∧ okop dsX3_turnToNext_48 1 = true) ∧ (decode dsX3_turnToNext_48 2 = .ok (.iadd, 1) ∧ okop dsX3_turnToNext_48 2 = true) ∧ (decode dsX3_turnToNext_48 3 = .ok (.goto 4, 3) ∧ okop dsX3_turnToNext_48 3 = true) ∧ (decode dsX3_turnToNext_48 6 = .ok (.iconst 0, 1) ∧ okop dsX3_turnToNext_48 6 = true) ∧ (decode dsX3_turnToNext_48 7 = .ok (.putfield 49, 3) ∧ okop dsX3_turnToNext_48 7 = true) ∧ (decode dsX3_turnToNext_48 10 = .ok (.iload_n 2, 1) ∧ okop dsX3_turnToNext_48 10 = true) ∧ (decode dsX3_turnToNext_48 11 = .ok (.ireturn, 1) ∧ okop dsX3_turnToNext_48 11 = true) := by decide +kernel
theorem dX3_turnToNext_48 : decode cX3_turnToNext 48 = .ok (.iload_n 2, 1) := dgq (p := 0) daX3_turnToNext_48 dbX3_turnToNext_48.1
theorem dX3_turnToNext_49 : decode cX3_turnToNext 49 = .ok (.iconst 1, 1) := dgq (p := 1) daX3_turnToNext_48 dbX3_turnToNext_48.2.1
theorem dX3_turnToNext_50 : decode cX3_turnToNext 50 = .ok (.iadd, 1) := dgq (p := 2) daX3_turnToNext_48 dbX3_turnToNext_48.2.2.1
theorem dX3_turnToNext_51 : decode cX3_turnToNext 51 = .ok (.goto 4, 3) := dgq (p := 3) daX3_turnToNext_48 dbX3_turnToNext_48.2.2.2.1
theorem dX3_turnToNext_54 : decode cX3_turnToNext 54 = .ok (.iconst 0, 1) := dgq (p := 6) daX3_turnToNext_48 dbX3_turnToNext_48.2.2.2.2.1
theorem dX3_turnToNext_55 : decode cX3_turnToNext 55 = .ok (.putfield 49, 3) := dgq (p := 7) daX3_turnToNext_48 dbX3_turnToNext_48.2.2.2.2.2.1
theorem dX3_turnToNext_58 : decode cX3_turnToNext 58 = .ok (.iload_n 2, 1) := dgq (p := 10) daX3_turnToNext_48 dbX3_turnToNext_48.2.2.2.2.2.2.1
theorem dX3_turnToNext_59 : decode cX3_turnToNext 59 = .ok (.ireturn, 1) := dgq (p := 11) daX3_turnToNext_48 dbX3_turnToNext_48.2.2.2.2.2.2.2
def dsX3_sharpen_0 : ByteArray := ⟨#[42, 89, 180, 0, 18, 16, 100, 100, 181, 0, 18, 42, 89, 180, 0, 52, 4]⟩
theorem daX3_sharpen_0 : agB cX3_sharpen dsX3_sharpen_0 0 := agB_of (n := 17) (by decide +kernel)
theorem dbX3_sharpen_0 : (decode dsX3_sharpen_0 0 = .ok (.aload_n 0, 1) ∧ okop dsX3_sharpen_0 0 = true) ∧ (decode dsX3_sharpen_0 1 = .ok (.dup, 1) ∧ okop dsX3_sharpen_0 1 = true) ∧ (decode dsX3_sharpen_0 2 = .ok (.getfield 18, 3) ∧ okop dsX3_sharpen_0 2 = true) ∧ (decode dsX3_sharpen_0 5 = .ok (.bipush 100, 2) ∧ okop dsX3_sharpen_0 5 = true) ∧ (decode dsX3_sharpen_0 7 = .ok (.isub, 1) ∧ okop dsX3_sharpen_0 7 = true) ∧ (decode dsX3_sharpen_0 8 = .ok (.putfield 18, 3) ∧ okop dsX3_sharpen_0 8 = true) ∧ (decode dsX3_sharpen_0 11 = .ok (.aload_n 0, 1) ∧ okop dsX3_sharpen_0 11 = true) ∧ (decode dsX3_sharpen_0 12 = .ok (.dup, 1) ∧ okop dsX3_sharpen_0 12 = true) ∧ (decode dsX3_sharpen_0 13 = .ok (.getfield 52, 3) ∧ okop dsX3_sharpen_0 13 = true) ∧ (decode dsX3_sharpen_0 16 = .ok (.iconst 1, 1) ∧ okop dsX3_sharpen_0 16 = true) := by decide +kernel
theorem dX3_sharpen_0 : decode cX3_sharpen 0 = .ok (.aload_n 0, 1) := dgq (p := 0) daX3_sharpen_0 dbX3_sharpen_0.1
theorem dX3_sharpen_1 : decode cX3_sharpen 1 = .ok (.dup, 1) := dgq (p := 1) daX3_sharpen_0 dbX3_sharpen_0.2.1
theorem dX3_sharpen_2 : decode cX3_sharpen 2 = .ok (.getfield 18, 3) := dgq (p := 2) daX3_sharpen_0 dbX3_sharpen_0.2.2.1
theorem dX3_sharpen_5 : decode cX3_sharpen 5 = .ok (.bipush 100, 2) := dgq (p := 5) daX3_sharpen_0 dbX3_sharpen_0.2.2.2.1
theorem dX3_sharpen_7 : decode cX3_sharpen 7 = .ok (.isub, 1) := dgq (p := 7) daX3_sharpen_0 dbX3_sharpen_0.2.2.2.2.1
theorem dX3_sharpen_8 : decode cX3_sharpen 8 = .ok (.putfield 18, 3) := dgq (p := 8) daX3_sharpen_0 dbX3_sharpen_0.2.2.2.2.2.1
theorem dX3_sharpen_11 : decode cX3_sharpen 11 = .ok (.aload_n 0, 1) := dgq (p := 11) daX3_sharpen_0 dbX3_sharpen_0.2.2.2.2.2.2.1
theorem dX3_sharpen_12 : decode cX3_sharpen 12 = .ok (.dup, 1) := dgq (p := 12) daX3_sharpen_0 dbX3_sharpen_0.2.2.2.2.2.2.2.1
theorem dX3_sharpen_13 : decode cX3_sharpen 13 = .ok (.getfield 52, 3) := dgq (p := 13) daX3_sharpen_0 dbX3_sharpen_0.2.2.2.2.2.2.2.2.1
theorem dX3_sharpen_16 : decode cX3_sharpen 16 = .ok (.iconst 1, 1) := dgq (p := 16) daX3_sharpen_0 dbX3_sharpen_0.2.2.2.2.2.2.2.2.2
def dsX3_sharpen_17 : ByteArray := ⟨#[96, 181, 0, 52, 3, 60, 27, 42, 180, 0, 21, 190, 162, 0, 16, 42]⟩
theorem daX3_sharpen_17 : agB cX3_sharpen dsX3_sharpen_17 17 := agB_of (n := 16) (by decide +kernel)
theorem dbX3_sharpen_17 : (decode dsX3_sharpen_17 0 = .ok (.iadd, 1) ∧ okop dsX3_sharpen_17 0 = true) ∧ (decode dsX3_sharpen_17 1 = .ok (.putfield 52, 3) ∧ okop dsX3_sharpen_17 1 = true) ∧ (decode dsX3_sharpen_17 4 = .ok (.iconst 0, 1) ∧ okop dsX3_sharpen_17 4 = true) ∧ (decode dsX3_sharpen_17 5 = .ok (.istore_n 1, 1) ∧ okop dsX3_sharpen_17 5 = true) ∧ (decode dsX3_sharpen_17 6 = .ok (.iload_n 1, 1) ∧ okop dsX3_sharpen_17 6 = true) ∧ (decode dsX3_sharpen_17 7 = .ok (.aload_n 0, 1) ∧ okop dsX3_sharpen_17 7 = true) ∧ (decode dsX3_sharpen_17 8 = .ok (.getfield 21, 3) ∧ okop dsX3_sharpen_17 8 = true) ∧ (decode dsX3_sharpen_17 11 = .ok (.arraylength, 1) ∧ okop dsX3_sharpen_17 11 = true) ∧ (decode dsX3_sharpen_17 12 = .ok (.if_icmp .ge 16, 3) ∧ okop dsX3_sharpen_17 12 = true) ∧ (decode dsX3_sharpen_17 15 = .ok (.aload_n 0, 1) ∧ okop dsX3_sharpen_17 15 = true) := by decide +kernel
theorem dX3_sharpen_17 : decode cX3_sharpen 17 = .ok (.iadd, 1) := dgq (p := 0) daX3_sharpen_17 dbX3_sharpen_17.1
theorem dX3_sharpen_18 : decode cX3_sharpen 18 = .ok (.putfield 52, 3) := dgq (p := 1) daX3_sharpen_17 dbX3_sharpen_17.2.1
theorem dX3_sharpen_21 : decode cX3_sharpen 21 = .ok (.iconst 0, 1) := dgq (p := 4) daX3_sharpen_17 dbX3_sharpen_17.2.2.1
theorem dX3_sharpen_22 : decode cX3_sharpen 22 = .ok (.istore_n 1, 1) := dgq (p := 5) daX3_sharpen_17 dbX3_sharpen_17.2.2.2.1
theorem dX3_sharpen_23 : decode cX3_sharpen 23 = .ok (.iload_n 1, 1) := dgq (p := 6) daX3_sharpen_17 dbX3_sharpen_17.2.2.2.2.1
theorem dX3_sharpen_24 : decode cX3_sharpen 24 = .ok (.aload_n 0, 1) := dgq (p := 7) daX3_sharpen_17 dbX3_sharpen_17.2.2.2.2.2.1
theorem dX3_sharpen_25 : decode cX3_sharpen 25 = .ok (.getfield 21, 3) := dgq (p := 8) daX3_sharpen_17 dbX3_sharpen_17.2.2.2.2.2.2.1
theorem dX3_sharpen_28 : decode cX3_sharpen 28 = .ok (.arraylength, 1) := dgq (p := 11) daX3_sharpen_17 dbX3_sharpen_17.2.2.2.2.2.2.2.1
theorem dX3_sharpen_29 : decode cX3_sharpen 29 = .ok (.if_icmp .ge 16, 3) := dgq (p := 12) daX3_sharpen_17 dbX3_sharpen_17.2.2.2.2.2.2.2.2.1
theorem dX3_sharpen_32 : decode cX3_sharpen 32 = .ok (.aload_n 0, 1) := dgq (p := 15) daX3_sharpen_17 dbX3_sharpen_17.2.2.2.2.2.2.2.2.2
def dsX3_sharpen_33 : ByteArray := ⟨#[180, 0, 21, 27, 3, 79, 132, 1, 1, 167, 255, 237, 177]⟩
theorem daX3_sharpen_33 : agB cX3_sharpen dsX3_sharpen_33 33 := agB_of (n := 13) (by decide +kernel)
theorem dbX3_sharpen_33 : (decode dsX3_sharpen_33 0 = .ok (.getfield 21, 3) ∧ okop dsX3_sharpen_33 0 = true) ∧ (decode dsX3_sharpen_33 3 = .ok (.iload_n 1, 1) ∧ okop dsX3_sharpen_33 3 = true) ∧ (decode dsX3_sharpen_33 4 = .ok (.iconst 0, 1) ∧ okop dsX3_sharpen_33 4 = true) ∧ (decode dsX3_sharpen_33 5 = .ok (.iastore, 1) ∧ okop dsX3_sharpen_33 5 = true) ∧ (decode dsX3_sharpen_33 6 = .ok (.iinc 1 1, 3) ∧ okop dsX3_sharpen_33 6 = true) ∧ (decode dsX3_sharpen_33 9 = .ok (.goto (-19), 3) ∧ okop dsX3_sharpen_33 9 = true) ∧ (decode dsX3_sharpen_33 12 = .ok (.return_, 1) ∧ okop dsX3_sharpen_33 12 = true) := by decide +kernel
theorem dX3_sharpen_33 : decode cX3_sharpen 33 = .ok (.getfield 21, 3) := dgq (p := 0) daX3_sharpen_33 dbX3_sharpen_33.1
theorem dX3_sharpen_36 : decode cX3_sharpen 36 = .ok (.iload_n 1, 1) := dgq (p := 3) daX3_sharpen_33 dbX3_sharpen_33.2.1
theorem dX3_sharpen_37 : decode cX3_sharpen 37 = .ok (.iconst 0, 1) := dgq (p := 4) daX3_sharpen_33 dbX3_sharpen_33.2.2.1
theorem dX3_sharpen_38 : decode cX3_sharpen 38 = .ok (.iastore, 1) := dgq (p := 5) daX3_sharpen_33 dbX3_sharpen_33.2.2.2.1
theorem dX3_sharpen_39 : decode cX3_sharpen 39 = .ok (.iinc 1 1, 3) := dgq (p := 6) daX3_sharpen_33 dbX3_sharpen_33.2.2.2.2.1
theorem dX3_sharpen_42 : decode cX3_sharpen 42 = .ok (.goto (-19), 3) := dgq (p := 9) daX3_sharpen_33 dbX3_sharpen_33.2.2.2.2.2.1
theorem dX3_sharpen_45 : decode cX3_sharpen 45 = .ok (.return_, 1) := dgq (p := 12) daX3_sharpen_33 dbX3_sharpen_33.2.2.2.2.2.2
def dsX4_init_0 : ByteArray := ⟨#[42, 183, 0, 3, 42, 8, 189, 0, 9, 181, 0, 11, 42, 8, 189, 0, 9, 181, 0, 17]⟩
theorem daX4_init_0 : agB cX4_init dsX4_init_0 0 := agB_of (n := 20) (by decide +kernel)
theorem dbX4_init_0 : (decode dsX4_init_0 0 = .ok (.aload_n 0, 1) ∧ okop dsX4_init_0 0 = true) ∧ (decode dsX4_init_0 1 = .ok (.invokespecial 3, 3) ∧ okop dsX4_init_0 1 = true) ∧ (decode dsX4_init_0 4 = .ok (.aload_n 0, 1) ∧ okop dsX4_init_0 4 = true) ∧ (decode dsX4_init_0 5 = .ok (.iconst 5, 1) ∧ okop dsX4_init_0 5 = true) ∧ (decode dsX4_init_0 6 = .ok (.anewarray 9, 3) ∧ okop dsX4_init_0 6 = true) ∧ (decode dsX4_init_0 9 = .ok (.putfield 11, 3) ∧ okop dsX4_init_0 9 = true) ∧ (decode dsX4_init_0 12 = .ok (.aload_n 0, 1) ∧ okop dsX4_init_0 12 = true) ∧ (decode dsX4_init_0 13 = .ok (.iconst 5, 1) ∧ okop dsX4_init_0 13 = true) ∧ (decode dsX4_init_0 14 = .ok (.anewarray 9, 3) ∧ okop dsX4_init_0 14 = true) ∧ (decode dsX4_init_0 17 = .ok (.putfield 17, 3) ∧ okop dsX4_init_0 17 = true) := by decide +kernel
theorem dX4_init_0 : decode cX4_init 0 = .ok (.aload_n 0, 1) := dgq (p := 0) daX4_init_0 dbX4_init_0.1
theorem dX4_init_1 : decode cX4_init 1 = .ok (.invokespecial 3, 3) := dgq (p := 1) daX4_init_0 dbX4_init_0.2.1
theorem dX4_init_4 : decode cX4_init 4 = .ok (.aload_n 0, 1) := dgq (p := 4) daX4_init_0 dbX4_init_0.2.2.1
theorem dX4_init_5 : decode cX4_init 5 = .ok (.iconst 5, 1) := dgq (p := 5) daX4_init_0 dbX4_init_0.2.2.2.1
theorem dX4_init_6 : decode cX4_init 6 = .ok (.anewarray 9, 3) := dgq (p := 6) daX4_init_0 dbX4_init_0.2.2.2.2.1
theorem dX4_init_9 : decode cX4_init 9 = .ok (.putfield 11, 3) := dgq (p := 9) daX4_init_0 dbX4_init_0.2.2.2.2.2.1
theorem dX4_init_12 : decode cX4_init 12 = .ok (.aload_n 0, 1) := dgq (p := 12) daX4_init_0 dbX4_init_0.2.2.2.2.2.2.1
theorem dX4_init_13 : decode cX4_init 13 = .ok (.iconst 5, 1) := dgq (p := 13) daX4_init_0 dbX4_init_0.2.2.2.2.2.2.2.1
theorem dX4_init_14 : decode cX4_init 14 = .ok (.anewarray 9, 3) := dgq (p := 14) daX4_init_0 dbX4_init_0.2.2.2.2.2.2.2.2.1
theorem dX4_init_17 : decode cX4_init 17 = .ok (.putfield 17, 3) := dgq (p := 17) daX4_init_0 dbX4_init_0.2.2.2.2.2.2.2.2.2
theorem dX4_init_23 : decode cX4_init 23 = .ok (.newarray .int, 2) := by decide +kernel
theorem dX4_init_30 : decode cX4_init 30 = .ok (.newarray .boolean, 2) := by decide +kernel
theorem dX4_init_37 : decode cX4_init 37 = .ok (.newarray .int, 2) := by decide +kernel
def dsX4_init_20 : ByteArray := ⟨#[42, 16, 25, 188, 10, 181, 0, 20, 42, 8, 188, 4, 181, 0, 24, 42, 8, 188, 10, 181, 0, 28, 42]⟩
theorem daX4_init_20 : agB cX4_init dsX4_init_20 20 := agB_of (n := 23) (by decide +kernel)
theorem dbX4_init_20 : (decode dsX4_init_20 0 = .ok (.aload_n 0, 1) ∧ okop dsX4_init_20 0 = true) ∧ (decode dsX4_init_20 1 = .ok (.bipush 25, 2) ∧ okop dsX4_init_20 1 = true) ∧ (decode dsX4_init_20 5 = .ok (.putfield 20, 3) ∧ okop dsX4_init_20 5 = true) ∧ (decode dsX4_init_20 8 = .ok (.aload_n 0, 1) ∧ okop dsX4_init_20 8 = true) ∧ (decode dsX4_init_20 9 = .ok (.iconst 5, 1) ∧ okop dsX4_init_20 9 = true) ∧ (decode dsX4_init_20 12 = .ok (.putfield 24, 3) ∧ okop dsX4_init_20 12 = true) ∧ (decode dsX4_init_20 15 = .ok (.aload_n 0, 1) ∧ okop dsX4_init_20 15 = true) ∧ (decode dsX4_init_20 16 = .ok (.iconst 5, 1) ∧ okop dsX4_init_20 16 = true) ∧ (decode dsX4_init_20 19 = .ok (.putfield 28, 3) ∧ okop dsX4_init_20 19 = true) ∧ (decode dsX4_init_20 22 = .ok (.aload_n 0, 1) ∧ okop dsX4_init_20 22 = true) := by decide +kernel
theorem dX4_init_20 : decode cX4_init 20 = .ok (.aload_n 0, 1) := dgq (p := 0) daX4_init_20 dbX4_init_20.1
theorem dX4_init_21 : decode cX4_init 21 = .ok (.bipush 25, 2) := dgq (p := 1) daX4_init_20 dbX4_init_20.2.1
theorem dX4_init_25 : decode cX4_init 25 = .ok (.putfield 20, 3) := dgq (p := 5) daX4_init_20 dbX4_init_20.2.2.1
theorem dX4_init_28 : decode cX4_init 28 = .ok (.aload_n 0, 1) := dgq (p := 8) daX4_init_20 dbX4_init_20.2.2.2.1
theorem dX4_init_29 : decode cX4_init 29 = .ok (.iconst 5, 1) := dgq (p := 9) daX4_init_20 dbX4_init_20.2.2.2.2.1
theorem dX4_init_32 : decode cX4_init 32 = .ok (.putfield 24, 3) := dgq (p := 12) daX4_init_20 dbX4_init_20.2.2.2.2.2.1
theorem dX4_init_35 : decode cX4_init 35 = .ok (.aload_n 0, 1) := dgq (p := 15) daX4_init_20 dbX4_init_20.2.2.2.2.2.2.1
theorem dX4_init_36 : decode cX4_init 36 = .ok (.iconst 5, 1) := dgq (p := 16) daX4_init_20 dbX4_init_20.2.2.2.2.2.2.2.1
theorem dX4_init_39 : decode cX4_init 39 = .ok (.putfield 28, 3) := dgq (p := 19) daX4_init_20 dbX4_init_20.2.2.2.2.2.2.2.2.1
theorem dX4_init_42 : decode cX4_init 42 = .ok (.aload_n 0, 1) := dgq (p := 22) daX4_init_20 dbX4_init_20.2.2.2.2.2.2.2.2.2
theorem dX4_init_44 : decode cX4_init 44 = .ok (.newarray .int, 2) := by decide +kernel
def dsX4_init_43 : ByteArray := ⟨#[8, 188, 10, 181, 0, 31, 177]⟩
theorem daX4_init_43 : agB cX4_init dsX4_init_43 43 := agB_of (n := 7) (by decide +kernel)
theorem dbX4_init_43 : (decode dsX4_init_43 0 = .ok (.iconst 5, 1) ∧ okop dsX4_init_43 0 = true) ∧ (decode dsX4_init_43 3 = .ok (.putfield 31, 3) ∧ okop dsX4_init_43 3 = true) ∧ (decode dsX4_init_43 6 = .ok (.return_, 1) ∧ okop dsX4_init_43 6 = true) := by decide +kernel
theorem dX4_init_43 : decode cX4_init 43 = .ok (.iconst 5, 1) := dgq (p := 0) daX4_init_43 dbX4_init_43.1
theorem dX4_init_46 : decode cX4_init 46 = .ok (.putfield 31, 3) := dgq (p := 3) daX4_init_43 dbX4_init_43.2.1
theorem dX4_init_49 : decode cX4_init 49 = .ok (.return_, 1) := dgq (p := 6) daX4_init_43 dbX4_init_43.2.2
def dsX4_begin_0 : ByteArray := ⟨#[42, 3, 181, 0, 34, 42, 3, 181, 0, 38, 177]⟩
theorem daX4_begin_0 : agB cX4_begin dsX4_begin_0 0 := agB_of (n := 11) (by decide +kernel)
theorem dbX4_begin_0 : (decode dsX4_begin_0 0 = .ok (.aload_n 0, 1) ∧ okop dsX4_begin_0 0 = true) ∧ (decode dsX4_begin_0 1 = .ok (.iconst 0, 1) ∧ okop dsX4_begin_0 1 = true) ∧ (decode dsX4_begin_0 2 = .ok (.putfield 34, 3) ∧ okop dsX4_begin_0 2 = true) ∧ (decode dsX4_begin_0 5 = .ok (.aload_n 0, 1) ∧ okop dsX4_begin_0 5 = true) ∧ (decode dsX4_begin_0 6 = .ok (.iconst 0, 1) ∧ okop dsX4_begin_0 6 = true) ∧ (decode dsX4_begin_0 7 = .ok (.putfield 38, 3) ∧ okop dsX4_begin_0 7 = true) ∧ (decode dsX4_begin_0 10 = .ok (.return_, 1) ∧ okop dsX4_begin_0 10 = true) := by decide +kernel
theorem dX4_begin_0 : decode cX4_begin 0 = .ok (.aload_n 0, 1) := dgq (p := 0) daX4_begin_0 dbX4_begin_0.1
theorem dX4_begin_1 : decode cX4_begin 1 = .ok (.iconst 0, 1) := dgq (p := 1) daX4_begin_0 dbX4_begin_0.2.1
theorem dX4_begin_2 : decode cX4_begin 2 = .ok (.putfield 34, 3) := dgq (p := 2) daX4_begin_0 dbX4_begin_0.2.2.1
theorem dX4_begin_5 : decode cX4_begin 5 = .ok (.aload_n 0, 1) := dgq (p := 5) daX4_begin_0 dbX4_begin_0.2.2.2.1
theorem dX4_begin_6 : decode cX4_begin 6 = .ok (.iconst 0, 1) := dgq (p := 6) daX4_begin_0 dbX4_begin_0.2.2.2.2.1
theorem dX4_begin_7 : decode cX4_begin 7 = .ok (.putfield 38, 3) := dgq (p := 7) daX4_begin_0 dbX4_begin_0.2.2.2.2.2.1
theorem dX4_begin_10 : decode cX4_begin 10 = .ok (.return_, 1) := dgq (p := 10) daX4_begin_0 dbX4_begin_0.2.2.2.2.2.2
def dsX4_offer_0 : ByteArray := ⟨#[43, 180, 0, 41, 28, 160, 0, 31, 42, 180, 0, 34, 8, 162, 0, 23, 42, 180, 0, 11]⟩
theorem daX4_offer_0 : agB cX4_offer dsX4_offer_0 0 := agB_of (n := 20) (by decide +kernel)
theorem dbX4_offer_0 : (decode dsX4_offer_0 0 = .ok (.aload_n 1, 1) ∧ okop dsX4_offer_0 0 = true) ∧ (decode dsX4_offer_0 1 = .ok (.getfield 41, 3) ∧ okop dsX4_offer_0 1 = true) ∧ (decode dsX4_offer_0 4 = .ok (.iload_n 2, 1) ∧ okop dsX4_offer_0 4 = true) ∧ (decode dsX4_offer_0 5 = .ok (.if_icmp .ne 31, 3) ∧ okop dsX4_offer_0 5 = true) ∧ (decode dsX4_offer_0 8 = .ok (.aload_n 0, 1) ∧ okop dsX4_offer_0 8 = true) ∧ (decode dsX4_offer_0 9 = .ok (.getfield 34, 3) ∧ okop dsX4_offer_0 9 = true) ∧ (decode dsX4_offer_0 12 = .ok (.iconst 5, 1) ∧ okop dsX4_offer_0 12 = true) ∧ (decode dsX4_offer_0 13 = .ok (.if_icmp .ge 23, 3) ∧ okop dsX4_offer_0 13 = true) ∧ (decode dsX4_offer_0 16 = .ok (.aload_n 0, 1) ∧ okop dsX4_offer_0 16 = true) ∧ (decode dsX4_offer_0 17 = .ok (.getfield 11, 3) ∧ okop dsX4_offer_0 17 = true) := by decide +kernel
theorem dX4_offer_0 : decode cX4_offer 0 = .ok (.aload_n 1, 1) := dgq (p := 0) daX4_offer_0 dbX4_offer_0.1
theorem dX4_offer_1 : decode cX4_offer 1 = .ok (.getfield 41, 3) := dgq (p := 1) daX4_offer_0 dbX4_offer_0.2.1
theorem dX4_offer_4 : decode cX4_offer 4 = .ok (.iload_n 2, 1) := dgq (p := 4) daX4_offer_0 dbX4_offer_0.2.2.1
theorem dX4_offer_5 : decode cX4_offer 5 = .ok (.if_icmp .ne 31, 3) := dgq (p := 5) daX4_offer_0 dbX4_offer_0.2.2.2.1
theorem dX4_offer_8 : decode cX4_offer 8 = .ok (.aload_n 0, 1) := dgq (p := 8) daX4_offer_0 dbX4_offer_0.2.2.2.2.1
theorem dX4_offer_9 : decode cX4_offer 9 = .ok (.getfield 34, 3) := dgq (p := 9) daX4_offer_0 dbX4_offer_0.2.2.2.2.2.1
theorem dX4_offer_12 : decode cX4_offer 12 = .ok (.iconst 5, 1) := dgq (p := 12) daX4_offer_0 dbX4_offer_0.2.2.2.2.2.2.1
theorem dX4_offer_13 : decode cX4_offer 13 = .ok (.if_icmp .ge 23, 3) := dgq (p := 13) daX4_offer_0 dbX4_offer_0.2.2.2.2.2.2.2.1
theorem dX4_offer_16 : decode cX4_offer 16 = .ok (.aload_n 0, 1) := dgq (p := 16) daX4_offer_0 dbX4_offer_0.2.2.2.2.2.2.2.2.1
theorem dX4_offer_17 : decode cX4_offer 17 = .ok (.getfield 11, 3) := dgq (p := 17) daX4_offer_0 dbX4_offer_0.2.2.2.2.2.2.2.2.2
def dsX4_offer_20 : ByteArray := ⟨#[42, 180, 0, 34, 43, 83, 42, 89, 180, 0, 34, 4, 96, 181, 0, 34]⟩
theorem daX4_offer_20 : agB cX4_offer dsX4_offer_20 20 := agB_of (n := 16) (by decide +kernel)
theorem dbX4_offer_20 : (decode dsX4_offer_20 0 = .ok (.aload_n 0, 1) ∧ okop dsX4_offer_20 0 = true) ∧ (decode dsX4_offer_20 1 = .ok (.getfield 34, 3) ∧ okop dsX4_offer_20 1 = true) ∧ (decode dsX4_offer_20 4 = .ok (.aload_n 1, 1) ∧ okop dsX4_offer_20 4 = true) ∧ (decode dsX4_offer_20 5 = .ok (.aastore, 1) ∧ okop dsX4_offer_20 5 = true) ∧ (decode dsX4_offer_20 6 = .ok (.aload_n 0, 1) ∧ okop dsX4_offer_20 6 = true) ∧ (decode dsX4_offer_20 7 = .ok (.dup, 1) ∧ okop dsX4_offer_20 7 = true) ∧ (decode dsX4_offer_20 8 = .ok (.getfield 34, 3) ∧ okop dsX4_offer_20 8 = true) ∧ (decode dsX4_offer_20 11 = .ok (.iconst 1, 1) ∧ okop dsX4_offer_20 11 = true) ∧ (decode dsX4_offer_20 12 = .ok (.iadd, 1) ∧ okop dsX4_offer_20 12 = true) ∧ (decode dsX4_offer_20 13 = .ok (.putfield 34, 3) ∧ okop dsX4_offer_20 13 = true) := by decide +kernel
theorem dX4_offer_20 : decode cX4_offer 20 = .ok (.aload_n 0, 1) := dgq (p := 0) daX4_offer_20 dbX4_offer_20.1
theorem dX4_offer_21 : decode cX4_offer 21 = .ok (.getfield 34, 3) := dgq (p := 1) daX4_offer_20 dbX4_offer_20.2.1
theorem dX4_offer_24 : decode cX4_offer 24 = .ok (.aload_n 1, 1) := dgq (p := 4) daX4_offer_20 dbX4_offer_20.2.2.1
theorem dX4_offer_25 : decode cX4_offer 25 = .ok (.aastore, 1) := dgq (p := 5) daX4_offer_20 dbX4_offer_20.2.2.2.1
theorem dX4_offer_26 : decode cX4_offer 26 = .ok (.aload_n 0, 1) := dgq (p := 6) daX4_offer_20 dbX4_offer_20.2.2.2.2.1
theorem dX4_offer_27 : decode cX4_offer 27 = .ok (.dup, 1) := dgq (p := 7) daX4_offer_20 dbX4_offer_20.2.2.2.2.2.1
theorem dX4_offer_28 : decode cX4_offer 28 = .ok (.getfield 34, 3) := dgq (p := 8) daX4_offer_20 dbX4_offer_20.2.2.2.2.2.2.1
theorem dX4_offer_31 : decode cX4_offer 31 = .ok (.iconst 1, 1) := dgq (p := 11) daX4_offer_20 dbX4_offer_20.2.2.2.2.2.2.2.1
theorem dX4_offer_32 : decode cX4_offer 32 = .ok (.iadd, 1) := dgq (p := 12) daX4_offer_20 dbX4_offer_20.2.2.2.2.2.2.2.2.1
theorem dX4_offer_33 : decode cX4_offer 33 = .ok (.putfield 34, 3) := dgq (p := 13) daX4_offer_20 dbX4_offer_20.2.2.2.2.2.2.2.2.2
def dsX4_offer_36 : ByteArray := ⟨#[43, 180, 0, 41, 29, 160, 0, 31, 42, 180, 0, 38, 8, 162, 0, 23, 42, 180, 0, 17]⟩
theorem daX4_offer_36 : agB cX4_offer dsX4_offer_36 36 := agB_of (n := 20) (by decide +kernel)
theorem dbX4_offer_36 : (decode dsX4_offer_36 0 = .ok (.aload_n 1, 1) ∧ okop dsX4_offer_36 0 = true) ∧ (decode dsX4_offer_36 1 = .ok (.getfield 41, 3) ∧ okop dsX4_offer_36 1 = true) ∧ (decode dsX4_offer_36 4 = .ok (.iload_n 3, 1) ∧ okop dsX4_offer_36 4 = true) ∧ (decode dsX4_offer_36 5 = .ok (.if_icmp .ne 31, 3) ∧ okop dsX4_offer_36 5 = true) ∧ (decode dsX4_offer_36 8 = .ok (.aload_n 0, 1) ∧ okop dsX4_offer_36 8 = true) ∧ (decode dsX4_offer_36 9 = .ok (.getfield 38, 3) ∧ okop dsX4_offer_36 9 = true) ∧ (decode dsX4_offer_36 12 = .ok (.iconst 5, 1) ∧ okop dsX4_offer_36 12 = true) ∧ (decode dsX4_offer_36 13 = .ok (.if_icmp .ge 23, 3) ∧ okop dsX4_offer_36 13 = true) ∧ (decode dsX4_offer_36 16 = .ok (.aload_n 0, 1) ∧ okop dsX4_offer_36 16 = true) ∧ (decode dsX4_offer_36 17 = .ok (.getfield 17, 3) ∧ okop dsX4_offer_36 17 = true) := by decide +kernel
theorem dX4_offer_36 : decode cX4_offer 36 = .ok (.aload_n 1, 1) := dgq (p := 0) daX4_offer_36 dbX4_offer_36.1
theorem dX4_offer_37 : decode cX4_offer 37 = .ok (.getfield 41, 3) := dgq (p := 1) daX4_offer_36 dbX4_offer_36.2.1
theorem dX4_offer_40 : decode cX4_offer 40 = .ok (.iload_n 3, 1) := dgq (p := 4) daX4_offer_36 dbX4_offer_36.2.2.1
theorem dX4_offer_41 : decode cX4_offer 41 = .ok (.if_icmp .ne 31, 3) := dgq (p := 5) daX4_offer_36 dbX4_offer_36.2.2.2.1
theorem dX4_offer_44 : decode cX4_offer 44 = .ok (.aload_n 0, 1) := dgq (p := 8) daX4_offer_36 dbX4_offer_36.2.2.2.2.1
theorem dX4_offer_45 : decode cX4_offer 45 = .ok (.getfield 38, 3) := dgq (p := 9) daX4_offer_36 dbX4_offer_36.2.2.2.2.2.1
theorem dX4_offer_48 : decode cX4_offer 48 = .ok (.iconst 5, 1) := dgq (p := 12) daX4_offer_36 dbX4_offer_36.2.2.2.2.2.2.1
theorem dX4_offer_49 : decode cX4_offer 49 = .ok (.if_icmp .ge 23, 3) := dgq (p := 13) daX4_offer_36 dbX4_offer_36.2.2.2.2.2.2.2.1
theorem dX4_offer_52 : decode cX4_offer 52 = .ok (.aload_n 0, 1) := dgq (p := 16) daX4_offer_36 dbX4_offer_36.2.2.2.2.2.2.2.2.1
theorem dX4_offer_53 : decode cX4_offer 53 = .ok (.getfield 17, 3) := dgq (p := 17) daX4_offer_36 dbX4_offer_36.2.2.2.2.2.2.2.2.2
def dsX4_offer_56 : ByteArray := ⟨#[42, 180, 0, 38, 43, 83, 42, 89, 180, 0, 38, 4, 96, 181, 0, 38]⟩
theorem daX4_offer_56 : agB cX4_offer dsX4_offer_56 56 := agB_of (n := 16) (by decide +kernel)
theorem dbX4_offer_56 : (decode dsX4_offer_56 0 = .ok (.aload_n 0, 1) ∧ okop dsX4_offer_56 0 = true) ∧ (decode dsX4_offer_56 1 = .ok (.getfield 38, 3) ∧ okop dsX4_offer_56 1 = true) ∧ (decode dsX4_offer_56 4 = .ok (.aload_n 1, 1) ∧ okop dsX4_offer_56 4 = true) ∧ (decode dsX4_offer_56 5 = .ok (.aastore, 1) ∧ okop dsX4_offer_56 5 = true) ∧ (decode dsX4_offer_56 6 = .ok (.aload_n 0, 1) ∧ okop dsX4_offer_56 6 = true) ∧ (decode dsX4_offer_56 7 = .ok (.dup, 1) ∧ okop dsX4_offer_56 7 = true) ∧ (decode dsX4_offer_56 8 = .ok (.getfield 38, 3) ∧ okop dsX4_offer_56 8 = true) ∧ (decode dsX4_offer_56 11 = .ok (.iconst 1, 1) ∧ okop dsX4_offer_56 11 = true) ∧ (decode dsX4_offer_56 12 = .ok (.iadd, 1) ∧ okop dsX4_offer_56 12 = true) ∧ (decode dsX4_offer_56 13 = .ok (.putfield 38, 3) ∧ okop dsX4_offer_56 13 = true) := by decide +kernel
theorem dX4_offer_56 : decode cX4_offer 56 = .ok (.aload_n 0, 1) := dgq (p := 0) daX4_offer_56 dbX4_offer_56.1
theorem dX4_offer_57 : decode cX4_offer 57 = .ok (.getfield 38, 3) := dgq (p := 1) daX4_offer_56 dbX4_offer_56.2.1
theorem dX4_offer_60 : decode cX4_offer 60 = .ok (.aload_n 1, 1) := dgq (p := 4) daX4_offer_56 dbX4_offer_56.2.2.1
theorem dX4_offer_61 : decode cX4_offer 61 = .ok (.aastore, 1) := dgq (p := 5) daX4_offer_56 dbX4_offer_56.2.2.2.1
theorem dX4_offer_62 : decode cX4_offer 62 = .ok (.aload_n 0, 1) := dgq (p := 6) daX4_offer_56 dbX4_offer_56.2.2.2.2.1
theorem dX4_offer_63 : decode cX4_offer 63 = .ok (.dup, 1) := dgq (p := 7) daX4_offer_56 dbX4_offer_56.2.2.2.2.2.1
theorem dX4_offer_64 : decode cX4_offer 64 = .ok (.getfield 38, 3) := dgq (p := 8) daX4_offer_56 dbX4_offer_56.2.2.2.2.2.2.1
theorem dX4_offer_67 : decode cX4_offer 67 = .ok (.iconst 1, 1) := dgq (p := 11) daX4_offer_56 dbX4_offer_56.2.2.2.2.2.2.2.1
theorem dX4_offer_68 : decode cX4_offer 68 = .ok (.iadd, 1) := dgq (p := 12) daX4_offer_56 dbX4_offer_56.2.2.2.2.2.2.2.2.1
theorem dX4_offer_69 : decode cX4_offer 69 = .ok (.putfield 38, 3) := dgq (p := 13) daX4_offer_56 dbX4_offer_56.2.2.2.2.2.2.2.2.2
theorem dX4_offer_72 : decode cX4_offer 72 = .ok (.return_, 1) := by decide +kernel
set_option maxRecDepth 20000 in
theorem ggX4_rollAll_X2_pairsWith : GoodIn wsX4_rollAll wsX2_pairsWith := goodIn_ca (goodIn_q _ [11, 12, 13] rfl (by decide +kernel)) (goodIn_sub (fun _ h => (List.mem_cons_of_mem _ (List.mem_append_left _ (List.mem_append_left _ (List.mem_append_left _ (List.mem_append_left _ (List.mem_append_right _ h))))))) tg_wsX20)
set_option maxRecDepth 20000 in
theorem gX4_rollAll_X2_pairsWith : GoodIn wsX4_rollAll (wsV RX4 44 RX2 yX2_pairsWith wsX2_pairsWith) := goodIn_app (goodIn_q _ [7, 8, 9, 10] rfl (by decide +kernel)) ggX4_rollAll_X2_pairsWith
set_option maxRecDepth 20000 in
theorem ggX4_rollAll_X6_take : GoodIn wsX4_rollAll wsX6_take := goodIn_ca (goodIn_ca (goodIn_ca (goodIn_ca (goodIn_q _ [18, 19, 20, 21, 22, 23, 24, 25, 26, 27, 28, 29, 30, 31, 32, 33, 34, 35, 36, 37, 38, 17, 39] rfl (by decide +kernel)) (goodIn_sub (fun _ h => (List.mem_cons_of_mem _ (List.mem_append_left _ (List.mem_append_left _ (List.mem_append_left _ (List.mem_append_right _ h)))))) tg_wsX10)) (goodIn_sub (fun _ h => (List.mem_cons_of_mem _ (List.mem_append_left _ (List.mem_append_left _ (List.mem_append_right _ h))))) tg_wsX60)) (goodIn_sub (fun _ h => List.mem_cons_of_mem _ (List.mem_append_right _ h)) (by decide +kernel))) (goodIn_sub (fun _ h => List.mem_cons_of_mem _ (List.mem_append_left _ (List.mem_append_right _ h))) (by decide +kernel))
set_option maxRecDepth 20000 in
theorem gX4_rollAll_X6_take : GoodIn wsX4_rollAll (wsV RX4 52 RX6 yX6_take wsX6_take) := goodIn_app (goodIn_q _ [14, 15, 16, 17] rfl (by decide +kernel)) ggX4_rollAll_X6_take
set_option maxRecDepth 20000 in
theorem ggX4_rollAll_X6_quietStart : GoodIn wsX4_rollAll wsX6_quietStart := goodIn_ca (goodIn_ca (goodIn_q _ [43, 27, 44, 45, 46, 17, 47, 48, 49, 28, 30, 24, 25, 22, 26, 29, 31, 20, 21, 23, 50, 51, 52, 53] rfl (by decide +kernel)) (goodIn_sub (fun _ h => (List.mem_cons_of_mem _ (List.mem_append_left _ (List.mem_append_left _ (List.mem_append_right _ h))))) tg_wsX60)) (goodIn_sub (fun _ h => List.mem_cons_of_mem _ (List.mem_append_left _ (List.mem_append_right _ h))) (by decide +kernel))
set_option maxRecDepth 20000 in
theorem gX4_rollAll_X6_quietStart : GoodIn wsX4_rollAll (wsV RX4 58 RX6 yX6_quietStart wsX6_quietStart) := goodIn_app (goodIn_q _ [40, 41, 42, 17] rfl (by decide +kernel)) ggX4_rollAll_X6_quietStart
set_option maxRecDepth 20000 in
theorem ggX4_rollAll_X6_peakFrom : GoodIn wsX4_rollAll wsX6_peakFrom := goodIn_ca (goodIn_ca (goodIn_q _ [47, 48, 49, 27, 28, 30, 24, 25, 22, 26, 29, 31, 20, 21, 23, 50, 51, 52, 53] rfl (by decide +kernel)) (goodIn_sub (fun _ h => (List.mem_cons_of_mem _ (List.mem_append_left _ (List.mem_append_left _ (List.mem_append_right _ h))))) tg_wsX60)) (goodIn_sub (fun _ h => List.mem_cons_of_mem _ (List.mem_append_left _ (List.mem_append_right _ h))) (by decide +kernel))
set_option maxRecDepth 20000 in
theorem gX4_rollAll_X6_peakFrom : GoodIn wsX4_rollAll (wsV RX4 62 RX6 yX6_peakFrom wsX6_peakFrom) := goodIn_app (goodIn_q _ [54, 45, 46, 17] rfl (by decide +kernel)) ggX4_rollAll_X6_peakFrom
def dsX4_rollAll_0 : ByteArray := ⟨#[3, 61, 28, 42, 180, 0, 34, 162, 0, 94, 3, 62, 29, 42]⟩
theorem daX4_rollAll_0 : agB cX4_rollAll dsX4_rollAll_0 0 := agB_of (n := 14) (by decide +kernel)
theorem dbX4_rollAll_0 : (decode dsX4_rollAll_0 0 = .ok (.iconst 0, 1) ∧ okop dsX4_rollAll_0 0 = true) ∧ (decode dsX4_rollAll_0 1 = .ok (.istore_n 2, 1) ∧ okop dsX4_rollAll_0 1 = true) ∧ (decode dsX4_rollAll_0 2 = .ok (.iload_n 2, 1) ∧ okop dsX4_rollAll_0 2 = true) ∧ (decode dsX4_rollAll_0 3 = .ok (.aload_n 0, 1) ∧ okop dsX4_rollAll_0 3 = true) ∧ (decode dsX4_rollAll_0 4 = .ok (.getfield 34, 3) ∧ okop dsX4_rollAll_0 4 = true) ∧ (decode dsX4_rollAll_0 7 = .ok (.if_icmp .ge 94, 3) ∧ okop dsX4_rollAll_0 7 = true) ∧ (decode dsX4_rollAll_0 10 = .ok (.iconst 0, 1) ∧ okop dsX4_rollAll_0 10 = true) ∧ (decode dsX4_rollAll_0 11 = .ok (.istore_n 3, 1) ∧ okop dsX4_rollAll_0 11 = true) ∧ (decode dsX4_rollAll_0 12 = .ok (.iload_n 3, 1) ∧ okop dsX4_rollAll_0 12 = true) ∧ (decode dsX4_rollAll_0 13 = .ok (.aload_n 0, 1) ∧ okop dsX4_rollAll_0 13 = true) := by decide +kernel
theorem dX4_rollAll_0 : decode cX4_rollAll 0 = .ok (.iconst 0, 1) := dgq (p := 0) daX4_rollAll_0 dbX4_rollAll_0.1
theorem dX4_rollAll_1 : decode cX4_rollAll 1 = .ok (.istore_n 2, 1) := dgq (p := 1) daX4_rollAll_0 dbX4_rollAll_0.2.1
theorem dX4_rollAll_2 : decode cX4_rollAll 2 = .ok (.iload_n 2, 1) := dgq (p := 2) daX4_rollAll_0 dbX4_rollAll_0.2.2.1
theorem dX4_rollAll_3 : decode cX4_rollAll 3 = .ok (.aload_n 0, 1) := dgq (p := 3) daX4_rollAll_0 dbX4_rollAll_0.2.2.2.1
theorem dX4_rollAll_4 : decode cX4_rollAll 4 = .ok (.getfield 34, 3) := dgq (p := 4) daX4_rollAll_0 dbX4_rollAll_0.2.2.2.2.1
theorem dX4_rollAll_7 : decode cX4_rollAll 7 = .ok (.if_icmp .ge 94, 3) := dgq (p := 7) daX4_rollAll_0 dbX4_rollAll_0.2.2.2.2.2.1
theorem dX4_rollAll_10 : decode cX4_rollAll 10 = .ok (.iconst 0, 1) := dgq (p := 10) daX4_rollAll_0 dbX4_rollAll_0.2.2.2.2.2.2.1
theorem dX4_rollAll_11 : decode cX4_rollAll 11 = .ok (.istore_n 3, 1) := dgq (p := 11) daX4_rollAll_0 dbX4_rollAll_0.2.2.2.2.2.2.2.1
theorem dX4_rollAll_12 : decode cX4_rollAll 12 = .ok (.iload_n 3, 1) := dgq (p := 12) daX4_rollAll_0 dbX4_rollAll_0.2.2.2.2.2.2.2.2.1
theorem dX4_rollAll_13 : decode cX4_rollAll 13 = .ok (.aload_n 0, 1) := dgq (p := 13) daX4_rollAll_0 dbX4_rollAll_0.2.2.2.2.2.2.2.2.2
def dsX4_rollAll_14 : ByteArray := ⟨#[180, 0, 38, 162, 0, 78, 42, 180, 0, 20, 28, 8, 104, 29, 96, 2]⟩
theorem daX4_rollAll_14 : agB cX4_rollAll dsX4_rollAll_14 14 := agB_of (n := 16) (by decide +kernel)
theorem dbX4_rollAll_14 : (decode dsX4_rollAll_14 0 = .ok (.getfield 38, 3) ∧ okop dsX4_rollAll_14 0 = true) ∧ (decode dsX4_rollAll_14 3 = .ok (.if_icmp .ge 78, 3) ∧ okop dsX4_rollAll_14 3 = true) ∧ (decode dsX4_rollAll_14 6 = .ok (.aload_n 0, 1) ∧ okop dsX4_rollAll_14 6 = true) ∧ (decode dsX4_rollAll_14 7 = .ok (.getfield 20, 3) ∧ okop dsX4_rollAll_14 7 = true) ∧ (decode dsX4_rollAll_14 10 = .ok (.iload_n 2, 1) ∧ okop dsX4_rollAll_14 10 = true) ∧ (decode dsX4_rollAll_14 11 = .ok (.iconst 5, 1) ∧ okop dsX4_rollAll_14 11 = true) ∧ (decode dsX4_rollAll_14 12 = .ok (.imul, 1) ∧ okop dsX4_rollAll_14 12 = true) ∧ (decode dsX4_rollAll_14 13 = .ok (.iload_n 3, 1) ∧ okop dsX4_rollAll_14 13 = true) ∧ (decode dsX4_rollAll_14 14 = .ok (.iadd, 1) ∧ okop dsX4_rollAll_14 14 = true) ∧ (decode dsX4_rollAll_14 15 = .ok (.iconst (-1), 1) ∧ okop dsX4_rollAll_14 15 = true) := by decide +kernel
theorem dX4_rollAll_14 : decode cX4_rollAll 14 = .ok (.getfield 38, 3) := dgq (p := 0) daX4_rollAll_14 dbX4_rollAll_14.1
theorem dX4_rollAll_17 : decode cX4_rollAll 17 = .ok (.if_icmp .ge 78, 3) := dgq (p := 3) daX4_rollAll_14 dbX4_rollAll_14.2.1
theorem dX4_rollAll_20 : decode cX4_rollAll 20 = .ok (.aload_n 0, 1) := dgq (p := 6) daX4_rollAll_14 dbX4_rollAll_14.2.2.1
theorem dX4_rollAll_21 : decode cX4_rollAll 21 = .ok (.getfield 20, 3) := dgq (p := 7) daX4_rollAll_14 dbX4_rollAll_14.2.2.2.1
theorem dX4_rollAll_24 : decode cX4_rollAll 24 = .ok (.iload_n 2, 1) := dgq (p := 10) daX4_rollAll_14 dbX4_rollAll_14.2.2.2.2.1
theorem dX4_rollAll_25 : decode cX4_rollAll 25 = .ok (.iconst 5, 1) := dgq (p := 11) daX4_rollAll_14 dbX4_rollAll_14.2.2.2.2.2.1
theorem dX4_rollAll_26 : decode cX4_rollAll 26 = .ok (.imul, 1) := dgq (p := 12) daX4_rollAll_14 dbX4_rollAll_14.2.2.2.2.2.2.1
theorem dX4_rollAll_27 : decode cX4_rollAll 27 = .ok (.iload_n 3, 1) := dgq (p := 13) daX4_rollAll_14 dbX4_rollAll_14.2.2.2.2.2.2.2.1
theorem dX4_rollAll_28 : decode cX4_rollAll 28 = .ok (.iadd, 1) := dgq (p := 14) daX4_rollAll_14 dbX4_rollAll_14.2.2.2.2.2.2.2.2.1
theorem dX4_rollAll_29 : decode cX4_rollAll 29 = .ok (.iconst (-1), 1) := dgq (p := 15) daX4_rollAll_14 dbX4_rollAll_14.2.2.2.2.2.2.2.2.2
def dsX4_rollAll_30 : ByteArray := ⟨#[79, 42, 180, 0, 11, 28, 50, 42, 180, 0, 17, 29, 50, 182, 0, 44]⟩
theorem daX4_rollAll_30 : agB cX4_rollAll dsX4_rollAll_30 30 := agB_of (n := 16) (by decide +kernel)
theorem dbX4_rollAll_30 : (decode dsX4_rollAll_30 0 = .ok (.iastore, 1) ∧ okop dsX4_rollAll_30 0 = true) ∧ (decode dsX4_rollAll_30 1 = .ok (.aload_n 0, 1) ∧ okop dsX4_rollAll_30 1 = true) ∧ (decode dsX4_rollAll_30 2 = .ok (.getfield 11, 3) ∧ okop dsX4_rollAll_30 2 = true) ∧ (decode dsX4_rollAll_30 5 = .ok (.iload_n 2, 1) ∧ okop dsX4_rollAll_30 5 = true) ∧ (decode dsX4_rollAll_30 6 = .ok (.aaload, 1) ∧ okop dsX4_rollAll_30 6 = true) ∧ (decode dsX4_rollAll_30 7 = .ok (.aload_n 0, 1) ∧ okop dsX4_rollAll_30 7 = true) ∧ (decode dsX4_rollAll_30 8 = .ok (.getfield 17, 3) ∧ okop dsX4_rollAll_30 8 = true) ∧ (decode dsX4_rollAll_30 11 = .ok (.iload_n 3, 1) ∧ okop dsX4_rollAll_30 11 = true) ∧ (decode dsX4_rollAll_30 12 = .ok (.aaload, 1) ∧ okop dsX4_rollAll_30 12 = true) ∧ (decode dsX4_rollAll_30 13 = .ok (.invokevirtual 44, 3) ∧ okop dsX4_rollAll_30 13 = true) := by decide +kernel
theorem dX4_rollAll_30 : decode cX4_rollAll 30 = .ok (.iastore, 1) := dgq (p := 0) daX4_rollAll_30 dbX4_rollAll_30.1
theorem dX4_rollAll_31 : decode cX4_rollAll 31 = .ok (.aload_n 0, 1) := dgq (p := 1) daX4_rollAll_30 dbX4_rollAll_30.2.1
theorem dX4_rollAll_32 : decode cX4_rollAll 32 = .ok (.getfield 11, 3) := dgq (p := 2) daX4_rollAll_30 dbX4_rollAll_30.2.2.1
theorem dX4_rollAll_35 : decode cX4_rollAll 35 = .ok (.iload_n 2, 1) := dgq (p := 5) daX4_rollAll_30 dbX4_rollAll_30.2.2.2.1
theorem dX4_rollAll_36 : decode cX4_rollAll 36 = .ok (.aaload, 1) := dgq (p := 6) daX4_rollAll_30 dbX4_rollAll_30.2.2.2.2.1
theorem dX4_rollAll_37 : decode cX4_rollAll 37 = .ok (.aload_n 0, 1) := dgq (p := 7) daX4_rollAll_30 dbX4_rollAll_30.2.2.2.2.2.1
theorem dX4_rollAll_38 : decode cX4_rollAll 38 = .ok (.getfield 17, 3) := dgq (p := 8) daX4_rollAll_30 dbX4_rollAll_30.2.2.2.2.2.2.1
theorem dX4_rollAll_41 : decode cX4_rollAll 41 = .ok (.iload_n 3, 1) := dgq (p := 11) daX4_rollAll_30 dbX4_rollAll_30.2.2.2.2.2.2.2.1
theorem dX4_rollAll_42 : decode cX4_rollAll 42 = .ok (.aaload, 1) := dgq (p := 12) daX4_rollAll_30 dbX4_rollAll_30.2.2.2.2.2.2.2.2.1
theorem dX4_rollAll_43 : decode cX4_rollAll 43 = .ok (.invokevirtual 44, 3) := dgq (p := 13) daX4_rollAll_30 dbX4_rollAll_30.2.2.2.2.2.2.2.2.2
def dsX4_rollAll_46 : ByteArray := ⟨#[153, 0, 43, 43, 42, 180, 0, 11, 28, 50, 180, 0, 48, 42, 180, 0, 17, 29]⟩
theorem daX4_rollAll_46 : agB cX4_rollAll dsX4_rollAll_46 46 := agB_of (n := 18) (by decide +kernel)
theorem dbX4_rollAll_46 : (decode dsX4_rollAll_46 0 = .ok (.ifCond .eq 43, 3) ∧ okop dsX4_rollAll_46 0 = true) ∧ (decode dsX4_rollAll_46 3 = .ok (.aload_n 1, 1) ∧ okop dsX4_rollAll_46 3 = true) ∧ (decode dsX4_rollAll_46 4 = .ok (.aload_n 0, 1) ∧ okop dsX4_rollAll_46 4 = true) ∧ (decode dsX4_rollAll_46 5 = .ok (.getfield 11, 3) ∧ okop dsX4_rollAll_46 5 = true) ∧ (decode dsX4_rollAll_46 8 = .ok (.iload_n 2, 1) ∧ okop dsX4_rollAll_46 8 = true) ∧ (decode dsX4_rollAll_46 9 = .ok (.aaload, 1) ∧ okop dsX4_rollAll_46 9 = true) ∧ (decode dsX4_rollAll_46 10 = .ok (.getfield 48, 3) ∧ okop dsX4_rollAll_46 10 = true) ∧ (decode dsX4_rollAll_46 13 = .ok (.aload_n 0, 1) ∧ okop dsX4_rollAll_46 13 = true) ∧ (decode dsX4_rollAll_46 14 = .ok (.getfield 17, 3) ∧ okop dsX4_rollAll_46 14 = true) ∧ (decode dsX4_rollAll_46 17 = .ok (.iload_n 3, 1) ∧ okop dsX4_rollAll_46 17 = true) := by decide +kernel
theorem dX4_rollAll_46 : decode cX4_rollAll 46 = .ok (.ifCond .eq 43, 3) := dgq (p := 0) daX4_rollAll_46 dbX4_rollAll_46.1
theorem dX4_rollAll_49 : decode cX4_rollAll 49 = .ok (.aload_n 1, 1) := dgq (p := 3) daX4_rollAll_46 dbX4_rollAll_46.2.1
theorem dX4_rollAll_50 : decode cX4_rollAll 50 = .ok (.aload_n 0, 1) := dgq (p := 4) daX4_rollAll_46 dbX4_rollAll_46.2.2.1
theorem dX4_rollAll_51 : decode cX4_rollAll 51 = .ok (.getfield 11, 3) := dgq (p := 5) daX4_rollAll_46 dbX4_rollAll_46.2.2.2.1
theorem dX4_rollAll_54 : decode cX4_rollAll 54 = .ok (.iload_n 2, 1) := dgq (p := 8) daX4_rollAll_46 dbX4_rollAll_46.2.2.2.2.1
theorem dX4_rollAll_55 : decode cX4_rollAll 55 = .ok (.aaload, 1) := dgq (p := 9) daX4_rollAll_46 dbX4_rollAll_46.2.2.2.2.2.1
theorem dX4_rollAll_56 : decode cX4_rollAll 56 = .ok (.getfield 48, 3) := dgq (p := 10) daX4_rollAll_46 dbX4_rollAll_46.2.2.2.2.2.2.1
theorem dX4_rollAll_59 : decode cX4_rollAll 59 = .ok (.aload_n 0, 1) := dgq (p := 13) daX4_rollAll_46 dbX4_rollAll_46.2.2.2.2.2.2.2.1
theorem dX4_rollAll_60 : decode cX4_rollAll 60 = .ok (.getfield 17, 3) := dgq (p := 14) daX4_rollAll_46 dbX4_rollAll_46.2.2.2.2.2.2.2.2.1
theorem dX4_rollAll_63 : decode cX4_rollAll 63 = .ok (.iload_n 3, 1) := dgq (p := 17) daX4_rollAll_46 dbX4_rollAll_46.2.2.2.2.2.2.2.2.2
def dsX4_rollAll_64 : ByteArray := ⟨#[50, 180, 0, 48, 182, 0, 52, 42, 180, 0, 20, 28, 8, 104, 29, 96]⟩
theorem daX4_rollAll_64 : agB cX4_rollAll dsX4_rollAll_64 64 := agB_of (n := 16) (by decide +kernel)
theorem dbX4_rollAll_64 : (decode dsX4_rollAll_64 0 = .ok (.aaload, 1) ∧ okop dsX4_rollAll_64 0 = true) ∧ (decode dsX4_rollAll_64 1 = .ok (.getfield 48, 3) ∧ okop dsX4_rollAll_64 1 = true) ∧ (decode dsX4_rollAll_64 4 = .ok (.invokevirtual 52, 3) ∧ okop dsX4_rollAll_64 4 = true) ∧ (decode dsX4_rollAll_64 7 = .ok (.aload_n 0, 1) ∧ okop dsX4_rollAll_64 7 = true) ∧ (decode dsX4_rollAll_64 8 = .ok (.getfield 20, 3) ∧ okop dsX4_rollAll_64 8 = true) ∧ (decode dsX4_rollAll_64 11 = .ok (.iload_n 2, 1) ∧ okop dsX4_rollAll_64 11 = true) ∧ (decode dsX4_rollAll_64 12 = .ok (.iconst 5, 1) ∧ okop dsX4_rollAll_64 12 = true) ∧ (decode dsX4_rollAll_64 13 = .ok (.imul, 1) ∧ okop dsX4_rollAll_64 13 = true) ∧ (decode dsX4_rollAll_64 14 = .ok (.iload_n 3, 1) ∧ okop dsX4_rollAll_64 14 = true) ∧ (decode dsX4_rollAll_64 15 = .ok (.iadd, 1) ∧ okop dsX4_rollAll_64 15 = true) := by decide +kernel
theorem dX4_rollAll_64 : decode cX4_rollAll 64 = .ok (.aaload, 1) := dgq (p := 0) daX4_rollAll_64 dbX4_rollAll_64.1
theorem dX4_rollAll_65 : decode cX4_rollAll 65 = .ok (.getfield 48, 3) := dgq (p := 1) daX4_rollAll_64 dbX4_rollAll_64.2.1
theorem dX4_rollAll_68 : decode cX4_rollAll 68 = .ok (.invokevirtual 52, 3) := dgq (p := 4) daX4_rollAll_64 dbX4_rollAll_64.2.2.1
theorem dX4_rollAll_71 : decode cX4_rollAll 71 = .ok (.aload_n 0, 1) := dgq (p := 7) daX4_rollAll_64 dbX4_rollAll_64.2.2.2.1
theorem dX4_rollAll_72 : decode cX4_rollAll 72 = .ok (.getfield 20, 3) := dgq (p := 8) daX4_rollAll_64 dbX4_rollAll_64.2.2.2.2.1
theorem dX4_rollAll_75 : decode cX4_rollAll 75 = .ok (.iload_n 2, 1) := dgq (p := 11) daX4_rollAll_64 dbX4_rollAll_64.2.2.2.2.2.1
theorem dX4_rollAll_76 : decode cX4_rollAll 76 = .ok (.iconst 5, 1) := dgq (p := 12) daX4_rollAll_64 dbX4_rollAll_64.2.2.2.2.2.2.1
theorem dX4_rollAll_77 : decode cX4_rollAll 77 = .ok (.imul, 1) := dgq (p := 13) daX4_rollAll_64 dbX4_rollAll_64.2.2.2.2.2.2.2.1
theorem dX4_rollAll_78 : decode cX4_rollAll 78 = .ok (.iload_n 3, 1) := dgq (p := 14) daX4_rollAll_64 dbX4_rollAll_64.2.2.2.2.2.2.2.2.1
theorem dX4_rollAll_79 : decode cX4_rollAll 79 = .ok (.iadd, 1) := dgq (p := 15) daX4_rollAll_64 dbX4_rollAll_64.2.2.2.2.2.2.2.2.2
def dsX4_rollAll_80 : ByteArray := ⟨#[43, 43, 182, 0, 58, 182, 0, 62, 79, 132, 3, 1, 167, 255, 176, 132, 2, 1, 167, 255, 160, 177]⟩
theorem daX4_rollAll_80 : agB cX4_rollAll dsX4_rollAll_80 80 := agB_of (n := 22) (by decide +kernel)
theorem dbX4_rollAll_80 : (decode dsX4_rollAll_80 0 = .ok (.aload_n 1, 1) ∧ okop dsX4_rollAll_80 0 = true) ∧ (decode dsX4_rollAll_80 1 = .ok (.aload_n 1, 1) ∧ okop dsX4_rollAll_80 1 = true) ∧ (decode dsX4_rollAll_80 2 = .ok (.invokevirtual 58, 3) ∧ okop dsX4_rollAll_80 2 = true) ∧ (decode dsX4_rollAll_80 5 = .ok (.invokevirtual 62, 3) ∧ okop dsX4_rollAll_80 5 = true) ∧ (decode dsX4_rollAll_80 8 = .ok (.iastore, 1) ∧ okop dsX4_rollAll_80 8 = true) ∧ (decode dsX4_rollAll_80 9 = .ok (.iinc 3 1, 3) ∧ okop dsX4_rollAll_80 9 = true) ∧ (decode dsX4_rollAll_80 12 = .ok (.goto (-80), 3) ∧ okop dsX4_rollAll_80 12 = true) ∧ (decode dsX4_rollAll_80 15 = .ok (.iinc 2 1, 3) ∧ okop dsX4_rollAll_80 15 = true) ∧ (decode dsX4_rollAll_80 18 = .ok (.goto (-96), 3) ∧ okop dsX4_rollAll_80 18 = true) ∧ (decode dsX4_rollAll_80 21 = .ok (.return_, 1) ∧ okop dsX4_rollAll_80 21 = true) := by decide +kernel
theorem dX4_rollAll_80 : decode cX4_rollAll 80 = .ok (.aload_n 1, 1) := dgq (p := 0) daX4_rollAll_80 dbX4_rollAll_80.1
theorem dX4_rollAll_81 : decode cX4_rollAll 81 = .ok (.aload_n 1, 1) := dgq (p := 1) daX4_rollAll_80 dbX4_rollAll_80.2.1
theorem dX4_rollAll_82 : decode cX4_rollAll 82 = .ok (.invokevirtual 58, 3) := dgq (p := 2) daX4_rollAll_80 dbX4_rollAll_80.2.2.1
theorem dX4_rollAll_85 : decode cX4_rollAll 85 = .ok (.invokevirtual 62, 3) := dgq (p := 5) daX4_rollAll_80 dbX4_rollAll_80.2.2.2.1
theorem dX4_rollAll_88 : decode cX4_rollAll 88 = .ok (.iastore, 1) := dgq (p := 8) daX4_rollAll_80 dbX4_rollAll_80.2.2.2.2.1
theorem dX4_rollAll_89 : decode cX4_rollAll 89 = .ok (.iinc 3 1, 3) := dgq (p := 9) daX4_rollAll_80 dbX4_rollAll_80.2.2.2.2.2.1
theorem dX4_rollAll_92 : decode cX4_rollAll 92 = .ok (.goto (-80), 3) := dgq (p := 12) daX4_rollAll_80 dbX4_rollAll_80.2.2.2.2.2.2.1
theorem dX4_rollAll_95 : decode cX4_rollAll 95 = .ok (.iinc 2 1, 3) := dgq (p := 15) daX4_rollAll_80 dbX4_rollAll_80.2.2.2.2.2.2.2.1
theorem dX4_rollAll_98 : decode cX4_rollAll 98 = .ok (.goto (-96), 3) := dgq (p := 18) daX4_rollAll_80 dbX4_rollAll_80.2.2.2.2.2.2.2.2.1
theorem dX4_rollAll_101 : decode cX4_rollAll 101 = .ok (.return_, 1) := dgq (p := 21) daX4_rollAll_80 dbX4_rollAll_80.2.2.2.2.2.2.2.2.2
set_option maxRecDepth 20000 in
theorem ggX4_search_X4_choose : GoodIn wsX4_search wsX4_choose := goodIn_ca (goodIn_ca (goodIn_q _ [9, 10, 11, 12, 3, 4, 13, 14, 15, 8, 16, 2, 5, 17, 18, 19, 20, 6, 7] rfl (by decide +kernel)) (goodIn_sub (fun _ h => (List.mem_cons_of_mem _ (List.mem_append_left _ (List.mem_append_right _ h)))) tg_wsX40)) (goodIn_sub (fun _ h => List.mem_cons_of_mem _ (List.mem_append_right _ h)) (by decide +kernel))
set_option maxRecDepth 20000 in
theorem gX4_search_X4_choose : GoodIn wsX4_search (va_wsS RX4 70 yX4_choose wsX4_choose) := goodIn_app (goodIn_q _ [6, 7, 8] rfl (by decide +kernel)) ggX4_search_X4_choose
def dsX4_search_0 : ByteArray := ⟨#[42, 18, 66, 181, 0, 67, 3, 61, 28, 8, 162, 0, 30, 42, 180, 0, 24]⟩
theorem daX4_search_0 : agB cX4_search dsX4_search_0 0 := agB_of (n := 17) (by decide +kernel)
theorem dbX4_search_0 : (decode dsX4_search_0 0 = .ok (.aload_n 0, 1) ∧ okop dsX4_search_0 0 = true) ∧ (decode dsX4_search_0 1 = .ok (.ldc 66, 2) ∧ okop dsX4_search_0 1 = true) ∧ (decode dsX4_search_0 3 = .ok (.putfield 67, 3) ∧ okop dsX4_search_0 3 = true) ∧ (decode dsX4_search_0 6 = .ok (.iconst 0, 1) ∧ okop dsX4_search_0 6 = true) ∧ (decode dsX4_search_0 7 = .ok (.istore_n 2, 1) ∧ okop dsX4_search_0 7 = true) ∧ (decode dsX4_search_0 8 = .ok (.iload_n 2, 1) ∧ okop dsX4_search_0 8 = true) ∧ (decode dsX4_search_0 9 = .ok (.iconst 5, 1) ∧ okop dsX4_search_0 9 = true) ∧ (decode dsX4_search_0 10 = .ok (.if_icmp .ge 30, 3) ∧ okop dsX4_search_0 10 = true) ∧ (decode dsX4_search_0 13 = .ok (.aload_n 0, 1) ∧ okop dsX4_search_0 13 = true) ∧ (decode dsX4_search_0 14 = .ok (.getfield 24, 3) ∧ okop dsX4_search_0 14 = true) := by decide +kernel
theorem dX4_search_0 : decode cX4_search 0 = .ok (.aload_n 0, 1) := dgq (p := 0) daX4_search_0 dbX4_search_0.1
theorem dX4_search_1 : decode cX4_search 1 = .ok (.ldc 66, 2) := dgq (p := 1) daX4_search_0 dbX4_search_0.2.1
theorem dX4_search_3 : decode cX4_search 3 = .ok (.putfield 67, 3) := dgq (p := 3) daX4_search_0 dbX4_search_0.2.2.1
theorem dX4_search_6 : decode cX4_search 6 = .ok (.iconst 0, 1) := dgq (p := 6) daX4_search_0 dbX4_search_0.2.2.2.1
theorem dX4_search_7 : decode cX4_search 7 = .ok (.istore_n 2, 1) := dgq (p := 7) daX4_search_0 dbX4_search_0.2.2.2.2.1
theorem dX4_search_8 : decode cX4_search 8 = .ok (.iload_n 2, 1) := dgq (p := 8) daX4_search_0 dbX4_search_0.2.2.2.2.2.1
theorem dX4_search_9 : decode cX4_search 9 = .ok (.iconst 5, 1) := dgq (p := 9) daX4_search_0 dbX4_search_0.2.2.2.2.2.2.1
theorem dX4_search_10 : decode cX4_search 10 = .ok (.if_icmp .ge 30, 3) := dgq (p := 10) daX4_search_0 dbX4_search_0.2.2.2.2.2.2.2.1
theorem dX4_search_13 : decode cX4_search 13 = .ok (.aload_n 0, 1) := dgq (p := 13) daX4_search_0 dbX4_search_0.2.2.2.2.2.2.2.2.1
theorem dX4_search_14 : decode cX4_search 14 = .ok (.getfield 24, 3) := dgq (p := 14) daX4_search_0 dbX4_search_0.2.2.2.2.2.2.2.2.2
def dsX4_search_17 : ByteArray := ⟨#[28, 3, 84, 42, 180, 0, 28, 28, 2, 79, 42, 180, 0, 31]⟩
theorem daX4_search_17 : agB cX4_search dsX4_search_17 17 := agB_of (n := 14) (by decide +kernel)
theorem dbX4_search_17 : (decode dsX4_search_17 0 = .ok (.iload_n 2, 1) ∧ okop dsX4_search_17 0 = true) ∧ (decode dsX4_search_17 1 = .ok (.iconst 0, 1) ∧ okop dsX4_search_17 1 = true) ∧ (decode dsX4_search_17 2 = .ok (.bastore, 1) ∧ okop dsX4_search_17 2 = true) ∧ (decode dsX4_search_17 3 = .ok (.aload_n 0, 1) ∧ okop dsX4_search_17 3 = true) ∧ (decode dsX4_search_17 4 = .ok (.getfield 28, 3) ∧ okop dsX4_search_17 4 = true) ∧ (decode dsX4_search_17 7 = .ok (.iload_n 2, 1) ∧ okop dsX4_search_17 7 = true) ∧ (decode dsX4_search_17 8 = .ok (.iconst (-1), 1) ∧ okop dsX4_search_17 8 = true) ∧ (decode dsX4_search_17 9 = .ok (.iastore, 1) ∧ okop dsX4_search_17 9 = true) ∧ (decode dsX4_search_17 10 = .ok (.aload_n 0, 1) ∧ okop dsX4_search_17 10 = true) ∧ (decode dsX4_search_17 11 = .ok (.getfield 31, 3) ∧ okop dsX4_search_17 11 = true) := by decide +kernel
theorem dX4_search_17 : decode cX4_search 17 = .ok (.iload_n 2, 1) := dgq (p := 0) daX4_search_17 dbX4_search_17.1
theorem dX4_search_18 : decode cX4_search 18 = .ok (.iconst 0, 1) := dgq (p := 1) daX4_search_17 dbX4_search_17.2.1
theorem dX4_search_19 : decode cX4_search 19 = .ok (.bastore, 1) := dgq (p := 2) daX4_search_17 dbX4_search_17.2.2.1
theorem dX4_search_20 : decode cX4_search 20 = .ok (.aload_n 0, 1) := dgq (p := 3) daX4_search_17 dbX4_search_17.2.2.2.1
theorem dX4_search_21 : decode cX4_search 21 = .ok (.getfield 28, 3) := dgq (p := 4) daX4_search_17 dbX4_search_17.2.2.2.2.1
theorem dX4_search_24 : decode cX4_search 24 = .ok (.iload_n 2, 1) := dgq (p := 7) daX4_search_17 dbX4_search_17.2.2.2.2.2.1
theorem dX4_search_25 : decode cX4_search 25 = .ok (.iconst (-1), 1) := dgq (p := 8) daX4_search_17 dbX4_search_17.2.2.2.2.2.2.1
theorem dX4_search_26 : decode cX4_search 26 = .ok (.iastore, 1) := dgq (p := 9) daX4_search_17 dbX4_search_17.2.2.2.2.2.2.2.1
theorem dX4_search_27 : decode cX4_search 27 = .ok (.aload_n 0, 1) := dgq (p := 10) daX4_search_17 dbX4_search_17.2.2.2.2.2.2.2.2.1
theorem dX4_search_28 : decode cX4_search 28 = .ok (.getfield 31, 3) := dgq (p := 11) daX4_search_17 dbX4_search_17.2.2.2.2.2.2.2.2.2
def dsX4_search_31 : ByteArray := ⟨#[28, 2, 79, 132, 2, 1, 167, 255, 227, 42, 3, 27, 3, 184, 0, 70]⟩
theorem daX4_search_31 : agB cX4_search dsX4_search_31 31 := agB_of (n := 16) (by decide +kernel)
theorem dbX4_search_31 : (decode dsX4_search_31 0 = .ok (.iload_n 2, 1) ∧ okop dsX4_search_31 0 = true) ∧ (decode dsX4_search_31 1 = .ok (.iconst (-1), 1) ∧ okop dsX4_search_31 1 = true) ∧ (decode dsX4_search_31 2 = .ok (.iastore, 1) ∧ okop dsX4_search_31 2 = true) ∧ (decode dsX4_search_31 3 = .ok (.iinc 2 1, 3) ∧ okop dsX4_search_31 3 = true) ∧ (decode dsX4_search_31 6 = .ok (.goto (-29), 3) ∧ okop dsX4_search_31 6 = true) ∧ (decode dsX4_search_31 9 = .ok (.aload_n 0, 1) ∧ okop dsX4_search_31 9 = true) ∧ (decode dsX4_search_31 10 = .ok (.iconst 0, 1) ∧ okop dsX4_search_31 10 = true) ∧ (decode dsX4_search_31 11 = .ok (.iload_n 1, 1) ∧ okop dsX4_search_31 11 = true) ∧ (decode dsX4_search_31 12 = .ok (.iconst 0, 1) ∧ okop dsX4_search_31 12 = true) ∧ (decode dsX4_search_31 13 = .ok (.invokestatic 70, 3) ∧ okop dsX4_search_31 13 = true) := by decide +kernel
theorem dX4_search_31 : decode cX4_search 31 = .ok (.iload_n 2, 1) := dgq (p := 0) daX4_search_31 dbX4_search_31.1
theorem dX4_search_32 : decode cX4_search 32 = .ok (.iconst (-1), 1) := dgq (p := 1) daX4_search_31 dbX4_search_31.2.1
theorem dX4_search_33 : decode cX4_search 33 = .ok (.iastore, 1) := dgq (p := 2) daX4_search_31 dbX4_search_31.2.2.1
theorem dX4_search_34 : decode cX4_search 34 = .ok (.iinc 2 1, 3) := dgq (p := 3) daX4_search_31 dbX4_search_31.2.2.2.1
theorem dX4_search_37 : decode cX4_search 37 = .ok (.goto (-29), 3) := dgq (p := 6) daX4_search_31 dbX4_search_31.2.2.2.2.1
theorem dX4_search_40 : decode cX4_search 40 = .ok (.aload_n 0, 1) := dgq (p := 9) daX4_search_31 dbX4_search_31.2.2.2.2.2.1
theorem dX4_search_41 : decode cX4_search 41 = .ok (.iconst 0, 1) := dgq (p := 10) daX4_search_31 dbX4_search_31.2.2.2.2.2.2.1
theorem dX4_search_42 : decode cX4_search 42 = .ok (.iload_n 1, 1) := dgq (p := 11) daX4_search_31 dbX4_search_31.2.2.2.2.2.2.2.1
theorem dX4_search_43 : decode cX4_search 43 = .ok (.iconst 0, 1) := dgq (p := 12) daX4_search_31 dbX4_search_31.2.2.2.2.2.2.2.2.1
theorem dX4_search_44 : decode cX4_search 44 = .ok (.invokestatic 70, 3) := dgq (p := 13) daX4_search_31 dbX4_search_31.2.2.2.2.2.2.2.2.2
def dsX4_search_47 : ByteArray := ⟨#[42, 180, 0, 67, 18, 66, 162, 0, 7, 4, 167, 0, 4, 3, 172]⟩
theorem daX4_search_47 : agB cX4_search dsX4_search_47 47 := agB_of (n := 15) (by decide +kernel)
theorem dbX4_search_47 : (decode dsX4_search_47 0 = .ok (.aload_n 0, 1) ∧ okop dsX4_search_47 0 = true) ∧ (decode dsX4_search_47 1 = .ok (.getfield 67, 3) ∧ okop dsX4_search_47 1 = true) ∧ (decode dsX4_search_47 4 = .ok (.ldc 66, 2) ∧ okop dsX4_search_47 4 = true) ∧ (decode dsX4_search_47 6 = .ok (.if_icmp .ge 7, 3) ∧ okop dsX4_search_47 6 = true) ∧ (decode dsX4_search_47 9 = .ok (.iconst 1, 1) ∧ okop dsX4_search_47 9 = true) ∧ (decode dsX4_search_47 10 = .ok (.goto 4, 3) ∧ okop dsX4_search_47 10 = true) ∧ (decode dsX4_search_47 13 = .ok (.iconst 0, 1) ∧ okop dsX4_search_47 13 = true) ∧ (decode dsX4_search_47 14 = .ok (.ireturn, 1) ∧ okop dsX4_search_47 14 = true) := by decide +kernel
theorem dX4_search_47 : decode cX4_search 47 = .ok (.aload_n 0, 1) := dgq (p := 0) daX4_search_47 dbX4_search_47.1
theorem dX4_search_48 : decode cX4_search 48 = .ok (.getfield 67, 3) := dgq (p := 1) daX4_search_47 dbX4_search_47.2.1
theorem dX4_search_51 : decode cX4_search 51 = .ok (.ldc 66, 2) := dgq (p := 4) daX4_search_47 dbX4_search_47.2.2.1
theorem dX4_search_53 : decode cX4_search 53 = .ok (.if_icmp .ge 7, 3) := dgq (p := 6) daX4_search_47 dbX4_search_47.2.2.2.1
theorem dX4_search_56 : decode cX4_search 56 = .ok (.iconst 1, 1) := dgq (p := 9) daX4_search_47 dbX4_search_47.2.2.2.2.1
theorem dX4_search_57 : decode cX4_search 57 = .ok (.goto 4, 3) := dgq (p := 10) daX4_search_47 dbX4_search_47.2.2.2.2.2.1
theorem dX4_search_60 : decode cX4_search 60 = .ok (.iconst 0, 1) := dgq (p := 13) daX4_search_47 dbX4_search_47.2.2.2.2.2.2.1
theorem dX4_search_61 : decode cX4_search 61 = .ok (.ireturn, 1) := dgq (p := 14) daX4_search_47 dbX4_search_47.2.2.2.2.2.2.2
set_option maxRecDepth 20000 in
theorem ggX4_choose_X4_keepIfLess : GoodIn wsX4_choose wsX4_keepIfLess := goodIn_ca (goodIn_q _ [10, 11, 5, 12, 13, 14, 15, 16] rfl (by decide +kernel)) (goodIn_sub (fun _ h => (List.mem_cons_of_mem _ (List.mem_append_left _ (List.mem_append_right _ h)))) tg_wsX40)
set_option maxRecDepth 20000 in
theorem gX4_choose_X4_keepIfLess : GoodIn wsX4_choose (wsV RX4 74 RX4 yX4_keepIfLess wsX4_keepIfLess) := goodIn_app (goodIn_q _ [6, 7, 8, 9] rfl (by decide +kernel)) ggX4_choose_X4_keepIfLess
set_option maxRecDepth 20000 in
theorem ggX4_choose_X4_choose : GoodIn wsX4_choose wsX4_choose := goodIn_ca (goodIn_ca (goodIn_q _ [0, 1, 2, 3, 4, 5, 6, 7, 8, 9, 10, 11, 12, 13, 14, 15, 16, 17, 18] rfl (by decide +kernel)) (goodIn_sub (fun _ h => (List.mem_cons_of_mem _ (List.mem_append_left _ (List.mem_append_right _ h)))) tg_wsX40)) (goodIn_sub (fun _ h => List.mem_cons_of_mem _ (List.mem_append_right _ h)) (by decide +kernel))
set_option maxRecDepth 20000 in
theorem gX4_choose_X4_choose : GoodIn wsX4_choose (va_wsS RX4 70 yX4_choose wsX4_choose) := goodIn_app (goodIn_q _ [17, 18, 9] rfl (by decide +kernel)) ggX4_choose_X4_choose
def dsX4_choose_0 : ByteArray := ⟨#[28, 154, 0, 9, 42, 29, 182, 0, 74, 177, 27, 42, 180, 0, 34, 162, 0, 8]⟩
theorem daX4_choose_0 : agB cX4_choose dsX4_choose_0 0 := agB_of (n := 18) (by decide +kernel)
theorem dbX4_choose_0 : (decode dsX4_choose_0 0 = .ok (.iload_n 2, 1) ∧ okop dsX4_choose_0 0 = true) ∧ (decode dsX4_choose_0 1 = .ok (.ifCond .ne 9, 3) ∧ okop dsX4_choose_0 1 = true) ∧ (decode dsX4_choose_0 4 = .ok (.aload_n 0, 1) ∧ okop dsX4_choose_0 4 = true) ∧ (decode dsX4_choose_0 5 = .ok (.iload_n 3, 1) ∧ okop dsX4_choose_0 5 = true) ∧ (decode dsX4_choose_0 6 = .ok (.invokevirtual 74, 3) ∧ okop dsX4_choose_0 6 = true) ∧ (decode dsX4_choose_0 9 = .ok (.return_, 1) ∧ okop dsX4_choose_0 9 = true) ∧ (decode dsX4_choose_0 10 = .ok (.iload_n 1, 1) ∧ okop dsX4_choose_0 10 = true) ∧ (decode dsX4_choose_0 11 = .ok (.aload_n 0, 1) ∧ okop dsX4_choose_0 11 = true) ∧ (decode dsX4_choose_0 12 = .ok (.getfield 34, 3) ∧ okop dsX4_choose_0 12 = true) ∧ (decode dsX4_choose_0 15 = .ok (.if_icmp .ge 8, 3) ∧ okop dsX4_choose_0 15 = true) := by decide +kernel
theorem dX4_choose_0 : decode cX4_choose 0 = .ok (.iload_n 2, 1) := dgq (p := 0) daX4_choose_0 dbX4_choose_0.1
theorem dX4_choose_1 : decode cX4_choose 1 = .ok (.ifCond .ne 9, 3) := dgq (p := 1) daX4_choose_0 dbX4_choose_0.2.1
theorem dX4_choose_4 : decode cX4_choose 4 = .ok (.aload_n 0, 1) := dgq (p := 4) daX4_choose_0 dbX4_choose_0.2.2.1
theorem dX4_choose_5 : decode cX4_choose 5 = .ok (.iload_n 3, 1) := dgq (p := 5) daX4_choose_0 dbX4_choose_0.2.2.2.1
theorem dX4_choose_6 : decode cX4_choose 6 = .ok (.invokevirtual 74, 3) := dgq (p := 6) daX4_choose_0 dbX4_choose_0.2.2.2.2.1
theorem dX4_choose_9 : decode cX4_choose 9 = .ok (.return_, 1) := dgq (p := 9) daX4_choose_0 dbX4_choose_0.2.2.2.2.2.1
theorem dX4_choose_10 : decode cX4_choose 10 = .ok (.iload_n 1, 1) := dgq (p := 10) daX4_choose_0 dbX4_choose_0.2.2.2.2.2.2.1
theorem dX4_choose_11 : decode cX4_choose 11 = .ok (.aload_n 0, 1) := dgq (p := 11) daX4_choose_0 dbX4_choose_0.2.2.2.2.2.2.2.1
theorem dX4_choose_12 : decode cX4_choose 12 = .ok (.getfield 34, 3) := dgq (p := 12) daX4_choose_0 dbX4_choose_0.2.2.2.2.2.2.2.2.1
theorem dX4_choose_15 : decode cX4_choose 15 = .ok (.if_icmp .ge 8, 3) := dgq (p := 15) daX4_choose_0 dbX4_choose_0.2.2.2.2.2.2.2.2.2
def dsX4_choose_18 : ByteArray := ⟨#[27, 8, 161, 0, 4, 177, 3, 54, 4, 21, 4, 42, 180, 0, 38, 162, 0, 83]⟩
theorem daX4_choose_18 : agB cX4_choose dsX4_choose_18 18 := agB_of (n := 18) (by decide +kernel)
theorem dbX4_choose_18 : (decode dsX4_choose_18 0 = .ok (.iload_n 1, 1) ∧ okop dsX4_choose_18 0 = true) ∧ (decode dsX4_choose_18 1 = .ok (.iconst 5, 1) ∧ okop dsX4_choose_18 1 = true) ∧ (decode dsX4_choose_18 2 = .ok (.if_icmp .lt 4, 3) ∧ okop dsX4_choose_18 2 = true) ∧ (decode dsX4_choose_18 5 = .ok (.return_, 1) ∧ okop dsX4_choose_18 5 = true) ∧ (decode dsX4_choose_18 6 = .ok (.iconst 0, 1) ∧ okop dsX4_choose_18 6 = true) ∧ (decode dsX4_choose_18 7 = .ok (.istore 4, 2) ∧ okop dsX4_choose_18 7 = true) ∧ (decode dsX4_choose_18 9 = .ok (.iload 4, 2) ∧ okop dsX4_choose_18 9 = true) ∧ (decode dsX4_choose_18 11 = .ok (.aload_n 0, 1) ∧ okop dsX4_choose_18 11 = true) ∧ (decode dsX4_choose_18 12 = .ok (.getfield 38, 3) ∧ okop dsX4_choose_18 12 = true) ∧ (decode dsX4_choose_18 15 = .ok (.if_icmp .ge 83, 3) ∧ okop dsX4_choose_18 15 = true) := by decide +kernel
theorem dX4_choose_18 : decode cX4_choose 18 = .ok (.iload_n 1, 1) := dgq (p := 0) daX4_choose_18 dbX4_choose_18.1
theorem dX4_choose_19 : decode cX4_choose 19 = .ok (.iconst 5, 1) := dgq (p := 1) daX4_choose_18 dbX4_choose_18.2.1
theorem dX4_choose_20 : decode cX4_choose 20 = .ok (.if_icmp .lt 4, 3) := dgq (p := 2) daX4_choose_18 dbX4_choose_18.2.2.1
theorem dX4_choose_23 : decode cX4_choose 23 = .ok (.return_, 1) := dgq (p := 5) daX4_choose_18 dbX4_choose_18.2.2.2.1
theorem dX4_choose_24 : decode cX4_choose 24 = .ok (.iconst 0, 1) := dgq (p := 6) daX4_choose_18 dbX4_choose_18.2.2.2.2.1
theorem dX4_choose_25 : decode cX4_choose 25 = .ok (.istore 4, 2) := dgq (p := 7) daX4_choose_18 dbX4_choose_18.2.2.2.2.2.1
theorem dX4_choose_27 : decode cX4_choose 27 = .ok (.iload 4, 2) := dgq (p := 9) daX4_choose_18 dbX4_choose_18.2.2.2.2.2.2.1
theorem dX4_choose_29 : decode cX4_choose 29 = .ok (.aload_n 0, 1) := dgq (p := 11) daX4_choose_18 dbX4_choose_18.2.2.2.2.2.2.2.1
theorem dX4_choose_30 : decode cX4_choose 30 = .ok (.getfield 38, 3) := dgq (p := 12) daX4_choose_18 dbX4_choose_18.2.2.2.2.2.2.2.2.1
theorem dX4_choose_33 : decode cX4_choose 33 = .ok (.if_icmp .ge 83, 3) := dgq (p := 15) daX4_choose_18 dbX4_choose_18.2.2.2.2.2.2.2.2.2
def dsX4_choose_36 : ByteArray := ⟨#[42, 180, 0, 20, 27, 8, 104, 21, 4, 96, 46, 54, 5, 21, 5]⟩
theorem daX4_choose_36 : agB cX4_choose dsX4_choose_36 36 := agB_of (n := 15) (by decide +kernel)
theorem dbX4_choose_36 : (decode dsX4_choose_36 0 = .ok (.aload_n 0, 1) ∧ okop dsX4_choose_36 0 = true) ∧ (decode dsX4_choose_36 1 = .ok (.getfield 20, 3) ∧ okop dsX4_choose_36 1 = true) ∧ (decode dsX4_choose_36 4 = .ok (.iload_n 1, 1) ∧ okop dsX4_choose_36 4 = true) ∧ (decode dsX4_choose_36 5 = .ok (.iconst 5, 1) ∧ okop dsX4_choose_36 5 = true) ∧ (decode dsX4_choose_36 6 = .ok (.imul, 1) ∧ okop dsX4_choose_36 6 = true) ∧ (decode dsX4_choose_36 7 = .ok (.iload 4, 2) ∧ okop dsX4_choose_36 7 = true) ∧ (decode dsX4_choose_36 9 = .ok (.iadd, 1) ∧ okop dsX4_choose_36 9 = true) ∧ (decode dsX4_choose_36 10 = .ok (.iaload, 1) ∧ okop dsX4_choose_36 10 = true) ∧ (decode dsX4_choose_36 11 = .ok (.istore 5, 2) ∧ okop dsX4_choose_36 11 = true) ∧ (decode dsX4_choose_36 13 = .ok (.iload 5, 2) ∧ okop dsX4_choose_36 13 = true) := by decide +kernel
theorem dX4_choose_36 : decode cX4_choose 36 = .ok (.aload_n 0, 1) := dgq (p := 0) daX4_choose_36 dbX4_choose_36.1
theorem dX4_choose_37 : decode cX4_choose 37 = .ok (.getfield 20, 3) := dgq (p := 1) daX4_choose_36 dbX4_choose_36.2.1
theorem dX4_choose_40 : decode cX4_choose 40 = .ok (.iload_n 1, 1) := dgq (p := 4) daX4_choose_36 dbX4_choose_36.2.2.1
theorem dX4_choose_41 : decode cX4_choose 41 = .ok (.iconst 5, 1) := dgq (p := 5) daX4_choose_36 dbX4_choose_36.2.2.2.1
theorem dX4_choose_42 : decode cX4_choose 42 = .ok (.imul, 1) := dgq (p := 6) daX4_choose_36 dbX4_choose_36.2.2.2.2.1
theorem dX4_choose_43 : decode cX4_choose 43 = .ok (.iload 4, 2) := dgq (p := 7) daX4_choose_36 dbX4_choose_36.2.2.2.2.2.1
theorem dX4_choose_45 : decode cX4_choose 45 = .ok (.iadd, 1) := dgq (p := 9) daX4_choose_36 dbX4_choose_36.2.2.2.2.2.2.1
theorem dX4_choose_46 : decode cX4_choose 46 = .ok (.iaload, 1) := dgq (p := 10) daX4_choose_36 dbX4_choose_36.2.2.2.2.2.2.2.1
theorem dX4_choose_47 : decode cX4_choose 47 = .ok (.istore 5, 2) := dgq (p := 11) daX4_choose_36 dbX4_choose_36.2.2.2.2.2.2.2.2.1
theorem dX4_choose_49 : decode cX4_choose 49 = .ok (.iload 5, 2) := dgq (p := 13) daX4_choose_36 dbX4_choose_36.2.2.2.2.2.2.2.2.2
def dsX4_choose_51 : ByteArray := ⟨#[2, 159, 0, 58, 42, 180, 0, 24, 21, 4, 51, 154, 0, 48, 42, 180, 0, 24, 21, 4]⟩
theorem daX4_choose_51 : agB cX4_choose dsX4_choose_51 51 := agB_of (n := 20) (by decide +kernel)
theorem dbX4_choose_51 : (decode dsX4_choose_51 0 = .ok (.iconst (-1), 1) ∧ okop dsX4_choose_51 0 = true) ∧ (decode dsX4_choose_51 1 = .ok (.if_icmp .eq 58, 3) ∧ okop dsX4_choose_51 1 = true) ∧ (decode dsX4_choose_51 4 = .ok (.aload_n 0, 1) ∧ okop dsX4_choose_51 4 = true) ∧ (decode dsX4_choose_51 5 = .ok (.getfield 24, 3) ∧ okop dsX4_choose_51 5 = true) ∧ (decode dsX4_choose_51 8 = .ok (.iload 4, 2) ∧ okop dsX4_choose_51 8 = true) ∧ (decode dsX4_choose_51 10 = .ok (.baload, 1) ∧ okop dsX4_choose_51 10 = true) ∧ (decode dsX4_choose_51 11 = .ok (.ifCond .ne 48, 3) ∧ okop dsX4_choose_51 11 = true) ∧ (decode dsX4_choose_51 14 = .ok (.aload_n 0, 1) ∧ okop dsX4_choose_51 14 = true) ∧ (decode dsX4_choose_51 15 = .ok (.getfield 24, 3) ∧ okop dsX4_choose_51 15 = true) ∧ (decode dsX4_choose_51 18 = .ok (.iload 4, 2) ∧ okop dsX4_choose_51 18 = true) := by decide +kernel
theorem dX4_choose_51 : decode cX4_choose 51 = .ok (.iconst (-1), 1) := dgq (p := 0) daX4_choose_51 dbX4_choose_51.1
theorem dX4_choose_52 : decode cX4_choose 52 = .ok (.if_icmp .eq 58, 3) := dgq (p := 1) daX4_choose_51 dbX4_choose_51.2.1
theorem dX4_choose_55 : decode cX4_choose 55 = .ok (.aload_n 0, 1) := dgq (p := 4) daX4_choose_51 dbX4_choose_51.2.2.1
theorem dX4_choose_56 : decode cX4_choose 56 = .ok (.getfield 24, 3) := dgq (p := 5) daX4_choose_51 dbX4_choose_51.2.2.2.1
theorem dX4_choose_59 : decode cX4_choose 59 = .ok (.iload 4, 2) := dgq (p := 8) daX4_choose_51 dbX4_choose_51.2.2.2.2.1
theorem dX4_choose_61 : decode cX4_choose 61 = .ok (.baload, 1) := dgq (p := 10) daX4_choose_51 dbX4_choose_51.2.2.2.2.2.1
theorem dX4_choose_62 : decode cX4_choose 62 = .ok (.ifCond .ne 48, 3) := dgq (p := 11) daX4_choose_51 dbX4_choose_51.2.2.2.2.2.2.1
theorem dX4_choose_65 : decode cX4_choose 65 = .ok (.aload_n 0, 1) := dgq (p := 14) daX4_choose_51 dbX4_choose_51.2.2.2.2.2.2.2.1
theorem dX4_choose_66 : decode cX4_choose 66 = .ok (.getfield 24, 3) := dgq (p := 15) daX4_choose_51 dbX4_choose_51.2.2.2.2.2.2.2.2.1
theorem dX4_choose_69 : decode cX4_choose 69 = .ok (.iload 4, 2) := dgq (p := 18) daX4_choose_51 dbX4_choose_51.2.2.2.2.2.2.2.2.2
def dsX4_choose_71 : ByteArray := ⟨#[4, 84, 42, 180, 0, 28, 27, 21, 4, 79, 42, 27, 4]⟩
theorem daX4_choose_71 : agB cX4_choose dsX4_choose_71 71 := agB_of (n := 13) (by decide +kernel)
theorem dbX4_choose_71 : (decode dsX4_choose_71 0 = .ok (.iconst 1, 1) ∧ okop dsX4_choose_71 0 = true) ∧ (decode dsX4_choose_71 1 = .ok (.bastore, 1) ∧ okop dsX4_choose_71 1 = true) ∧ (decode dsX4_choose_71 2 = .ok (.aload_n 0, 1) ∧ okop dsX4_choose_71 2 = true) ∧ (decode dsX4_choose_71 3 = .ok (.getfield 28, 3) ∧ okop dsX4_choose_71 3 = true) ∧ (decode dsX4_choose_71 6 = .ok (.iload_n 1, 1) ∧ okop dsX4_choose_71 6 = true) ∧ (decode dsX4_choose_71 7 = .ok (.iload 4, 2) ∧ okop dsX4_choose_71 7 = true) ∧ (decode dsX4_choose_71 9 = .ok (.iastore, 1) ∧ okop dsX4_choose_71 9 = true) ∧ (decode dsX4_choose_71 10 = .ok (.aload_n 0, 1) ∧ okop dsX4_choose_71 10 = true) ∧ (decode dsX4_choose_71 11 = .ok (.iload_n 1, 1) ∧ okop dsX4_choose_71 11 = true) ∧ (decode dsX4_choose_71 12 = .ok (.iconst 1, 1) ∧ okop dsX4_choose_71 12 = true) := by decide +kernel
theorem dX4_choose_71 : decode cX4_choose 71 = .ok (.iconst 1, 1) := dgq (p := 0) daX4_choose_71 dbX4_choose_71.1
theorem dX4_choose_72 : decode cX4_choose 72 = .ok (.bastore, 1) := dgq (p := 1) daX4_choose_71 dbX4_choose_71.2.1
theorem dX4_choose_73 : decode cX4_choose 73 = .ok (.aload_n 0, 1) := dgq (p := 2) daX4_choose_71 dbX4_choose_71.2.2.1
theorem dX4_choose_74 : decode cX4_choose 74 = .ok (.getfield 28, 3) := dgq (p := 3) daX4_choose_71 dbX4_choose_71.2.2.2.1
theorem dX4_choose_77 : decode cX4_choose 77 = .ok (.iload_n 1, 1) := dgq (p := 6) daX4_choose_71 dbX4_choose_71.2.2.2.2.1
theorem dX4_choose_78 : decode cX4_choose 78 = .ok (.iload 4, 2) := dgq (p := 7) daX4_choose_71 dbX4_choose_71.2.2.2.2.2.1
theorem dX4_choose_80 : decode cX4_choose 80 = .ok (.iastore, 1) := dgq (p := 9) daX4_choose_71 dbX4_choose_71.2.2.2.2.2.2.1
theorem dX4_choose_81 : decode cX4_choose 81 = .ok (.aload_n 0, 1) := dgq (p := 10) daX4_choose_71 dbX4_choose_71.2.2.2.2.2.2.2.1
theorem dX4_choose_82 : decode cX4_choose 82 = .ok (.iload_n 1, 1) := dgq (p := 11) daX4_choose_71 dbX4_choose_71.2.2.2.2.2.2.2.2.1
theorem dX4_choose_83 : decode cX4_choose 83 = .ok (.iconst 1, 1) := dgq (p := 12) daX4_choose_71 dbX4_choose_71.2.2.2.2.2.2.2.2.2
def dsX4_choose_84 : ByteArray := ⟨#[96, 28, 4, 100, 29, 21, 5, 96, 184, 0, 70, 42, 180, 0, 28]⟩
theorem daX4_choose_84 : agB cX4_choose dsX4_choose_84 84 := agB_of (n := 15) (by decide +kernel)
theorem dbX4_choose_84 : (decode dsX4_choose_84 0 = .ok (.iadd, 1) ∧ okop dsX4_choose_84 0 = true) ∧ (decode dsX4_choose_84 1 = .ok (.iload_n 2, 1) ∧ okop dsX4_choose_84 1 = true) ∧ (decode dsX4_choose_84 2 = .ok (.iconst 1, 1) ∧ okop dsX4_choose_84 2 = true) ∧ (decode dsX4_choose_84 3 = .ok (.isub, 1) ∧ okop dsX4_choose_84 3 = true) ∧ (decode dsX4_choose_84 4 = .ok (.iload_n 3, 1) ∧ okop dsX4_choose_84 4 = true) ∧ (decode dsX4_choose_84 5 = .ok (.iload 5, 2) ∧ okop dsX4_choose_84 5 = true) ∧ (decode dsX4_choose_84 7 = .ok (.iadd, 1) ∧ okop dsX4_choose_84 7 = true) ∧ (decode dsX4_choose_84 8 = .ok (.invokestatic 70, 3) ∧ okop dsX4_choose_84 8 = true) ∧ (decode dsX4_choose_84 11 = .ok (.aload_n 0, 1) ∧ okop dsX4_choose_84 11 = true) ∧ (decode dsX4_choose_84 12 = .ok (.getfield 28, 3) ∧ okop dsX4_choose_84 12 = true) := by decide +kernel
theorem dX4_choose_84 : decode cX4_choose 84 = .ok (.iadd, 1) := dgq (p := 0) daX4_choose_84 dbX4_choose_84.1
theorem dX4_choose_85 : decode cX4_choose 85 = .ok (.iload_n 2, 1) := dgq (p := 1) daX4_choose_84 dbX4_choose_84.2.1
theorem dX4_choose_86 : decode cX4_choose 86 = .ok (.iconst 1, 1) := dgq (p := 2) daX4_choose_84 dbX4_choose_84.2.2.1
theorem dX4_choose_87 : decode cX4_choose 87 = .ok (.isub, 1) := dgq (p := 3) daX4_choose_84 dbX4_choose_84.2.2.2.1
theorem dX4_choose_88 : decode cX4_choose 88 = .ok (.iload_n 3, 1) := dgq (p := 4) daX4_choose_84 dbX4_choose_84.2.2.2.2.1
theorem dX4_choose_89 : decode cX4_choose 89 = .ok (.iload 5, 2) := dgq (p := 5) daX4_choose_84 dbX4_choose_84.2.2.2.2.2.1
theorem dX4_choose_91 : decode cX4_choose 91 = .ok (.iadd, 1) := dgq (p := 7) daX4_choose_84 dbX4_choose_84.2.2.2.2.2.2.1
theorem dX4_choose_92 : decode cX4_choose 92 = .ok (.invokestatic 70, 3) := dgq (p := 8) daX4_choose_84 dbX4_choose_84.2.2.2.2.2.2.2.1
theorem dX4_choose_95 : decode cX4_choose 95 = .ok (.aload_n 0, 1) := dgq (p := 11) daX4_choose_84 dbX4_choose_84.2.2.2.2.2.2.2.2.1
theorem dX4_choose_96 : decode cX4_choose 96 = .ok (.getfield 28, 3) := dgq (p := 12) daX4_choose_84 dbX4_choose_84.2.2.2.2.2.2.2.2.2
def dsX4_choose_99 : ByteArray := ⟨#[27, 2, 79, 42, 180, 0, 24, 21, 4, 3, 84, 132, 4, 1, 167, 255, 170]⟩
theorem daX4_choose_99 : agB cX4_choose dsX4_choose_99 99 := agB_of (n := 17) (by decide +kernel)
theorem dbX4_choose_99 : (decode dsX4_choose_99 0 = .ok (.iload_n 1, 1) ∧ okop dsX4_choose_99 0 = true) ∧ (decode dsX4_choose_99 1 = .ok (.iconst (-1), 1) ∧ okop dsX4_choose_99 1 = true) ∧ (decode dsX4_choose_99 2 = .ok (.iastore, 1) ∧ okop dsX4_choose_99 2 = true) ∧ (decode dsX4_choose_99 3 = .ok (.aload_n 0, 1) ∧ okop dsX4_choose_99 3 = true) ∧ (decode dsX4_choose_99 4 = .ok (.getfield 24, 3) ∧ okop dsX4_choose_99 4 = true) ∧ (decode dsX4_choose_99 7 = .ok (.iload 4, 2) ∧ okop dsX4_choose_99 7 = true) ∧ (decode dsX4_choose_99 9 = .ok (.iconst 0, 1) ∧ okop dsX4_choose_99 9 = true) ∧ (decode dsX4_choose_99 10 = .ok (.bastore, 1) ∧ okop dsX4_choose_99 10 = true) ∧ (decode dsX4_choose_99 11 = .ok (.iinc 4 1, 3) ∧ okop dsX4_choose_99 11 = true) ∧ (decode dsX4_choose_99 14 = .ok (.goto (-86), 3) ∧ okop dsX4_choose_99 14 = true) := by decide +kernel
theorem dX4_choose_99 : decode cX4_choose 99 = .ok (.iload_n 1, 1) := dgq (p := 0) daX4_choose_99 dbX4_choose_99.1
theorem dX4_choose_100 : decode cX4_choose 100 = .ok (.iconst (-1), 1) := dgq (p := 1) daX4_choose_99 dbX4_choose_99.2.1
theorem dX4_choose_101 : decode cX4_choose 101 = .ok (.iastore, 1) := dgq (p := 2) daX4_choose_99 dbX4_choose_99.2.2.1
theorem dX4_choose_102 : decode cX4_choose 102 = .ok (.aload_n 0, 1) := dgq (p := 3) daX4_choose_99 dbX4_choose_99.2.2.2.1
theorem dX4_choose_103 : decode cX4_choose 103 = .ok (.getfield 24, 3) := dgq (p := 4) daX4_choose_99 dbX4_choose_99.2.2.2.2.1
theorem dX4_choose_106 : decode cX4_choose 106 = .ok (.iload 4, 2) := dgq (p := 7) daX4_choose_99 dbX4_choose_99.2.2.2.2.2.1
theorem dX4_choose_108 : decode cX4_choose 108 = .ok (.iconst 0, 1) := dgq (p := 9) daX4_choose_99 dbX4_choose_99.2.2.2.2.2.2.1
theorem dX4_choose_109 : decode cX4_choose 109 = .ok (.bastore, 1) := dgq (p := 10) daX4_choose_99 dbX4_choose_99.2.2.2.2.2.2.2.1
theorem dX4_choose_110 : decode cX4_choose 110 = .ok (.iinc 4 1, 3) := dgq (p := 11) daX4_choose_99 dbX4_choose_99.2.2.2.2.2.2.2.2.1
theorem dX4_choose_113 : decode cX4_choose 113 = .ok (.goto (-86), 3) := dgq (p := 14) daX4_choose_99 dbX4_choose_99.2.2.2.2.2.2.2.2.2
def dsX4_choose_116 : ByteArray := ⟨#[42, 27, 4, 96, 28, 29, 184, 0, 70, 177]⟩
theorem daX4_choose_116 : agB cX4_choose dsX4_choose_116 116 := agB_of (n := 10) (by decide +kernel)
theorem dbX4_choose_116 : (decode dsX4_choose_116 0 = .ok (.aload_n 0, 1) ∧ okop dsX4_choose_116 0 = true) ∧ (decode dsX4_choose_116 1 = .ok (.iload_n 1, 1) ∧ okop dsX4_choose_116 1 = true) ∧ (decode dsX4_choose_116 2 = .ok (.iconst 1, 1) ∧ okop dsX4_choose_116 2 = true) ∧ (decode dsX4_choose_116 3 = .ok (.iadd, 1) ∧ okop dsX4_choose_116 3 = true) ∧ (decode dsX4_choose_116 4 = .ok (.iload_n 2, 1) ∧ okop dsX4_choose_116 4 = true) ∧ (decode dsX4_choose_116 5 = .ok (.iload_n 3, 1) ∧ okop dsX4_choose_116 5 = true) ∧ (decode dsX4_choose_116 6 = .ok (.invokestatic 70, 3) ∧ okop dsX4_choose_116 6 = true) ∧ (decode dsX4_choose_116 9 = .ok (.return_, 1) ∧ okop dsX4_choose_116 9 = true) := by decide +kernel
theorem dX4_choose_116 : decode cX4_choose 116 = .ok (.aload_n 0, 1) := dgq (p := 0) daX4_choose_116 dbX4_choose_116.1
theorem dX4_choose_117 : decode cX4_choose 117 = .ok (.iload_n 1, 1) := dgq (p := 1) daX4_choose_116 dbX4_choose_116.2.1
theorem dX4_choose_118 : decode cX4_choose 118 = .ok (.iconst 1, 1) := dgq (p := 2) daX4_choose_116 dbX4_choose_116.2.2.1
theorem dX4_choose_119 : decode cX4_choose 119 = .ok (.iadd, 1) := dgq (p := 3) daX4_choose_116 dbX4_choose_116.2.2.2.1
theorem dX4_choose_120 : decode cX4_choose 120 = .ok (.iload_n 2, 1) := dgq (p := 4) daX4_choose_116 dbX4_choose_116.2.2.2.2.1
theorem dX4_choose_121 : decode cX4_choose 121 = .ok (.iload_n 3, 1) := dgq (p := 5) daX4_choose_116 dbX4_choose_116.2.2.2.2.2.1
theorem dX4_choose_122 : decode cX4_choose 122 = .ok (.invokestatic 70, 3) := dgq (p := 6) daX4_choose_116 dbX4_choose_116.2.2.2.2.2.2.1
theorem dX4_choose_125 : decode cX4_choose 125 = .ok (.return_, 1) := dgq (p := 9) daX4_choose_116 dbX4_choose_116.2.2.2.2.2.2.2
def dsX4_keepIfLess_0 : ByteArray := ⟨#[27, 42, 180, 0, 67, 162, 0, 22, 42, 27, 181, 0, 67, 42, 180, 0, 28, 3]⟩
theorem daX4_keepIfLess_0 : agB cX4_keepIfLess dsX4_keepIfLess_0 0 := agB_of (n := 18) (by decide +kernel)
theorem dbX4_keepIfLess_0 : (decode dsX4_keepIfLess_0 0 = .ok (.iload_n 1, 1) ∧ okop dsX4_keepIfLess_0 0 = true) ∧ (decode dsX4_keepIfLess_0 1 = .ok (.aload_n 0, 1) ∧ okop dsX4_keepIfLess_0 1 = true) ∧ (decode dsX4_keepIfLess_0 2 = .ok (.getfield 67, 3) ∧ okop dsX4_keepIfLess_0 2 = true) ∧ (decode dsX4_keepIfLess_0 5 = .ok (.if_icmp .ge 22, 3) ∧ okop dsX4_keepIfLess_0 5 = true) ∧ (decode dsX4_keepIfLess_0 8 = .ok (.aload_n 0, 1) ∧ okop dsX4_keepIfLess_0 8 = true) ∧ (decode dsX4_keepIfLess_0 9 = .ok (.iload_n 1, 1) ∧ okop dsX4_keepIfLess_0 9 = true) ∧ (decode dsX4_keepIfLess_0 10 = .ok (.putfield 67, 3) ∧ okop dsX4_keepIfLess_0 10 = true) ∧ (decode dsX4_keepIfLess_0 13 = .ok (.aload_n 0, 1) ∧ okop dsX4_keepIfLess_0 13 = true) ∧ (decode dsX4_keepIfLess_0 14 = .ok (.getfield 28, 3) ∧ okop dsX4_keepIfLess_0 14 = true) ∧ (decode dsX4_keepIfLess_0 17 = .ok (.iconst 0, 1) ∧ okop dsX4_keepIfLess_0 17 = true) := by decide +kernel
theorem dX4_keepIfLess_0 : decode cX4_keepIfLess 0 = .ok (.iload_n 1, 1) := dgq (p := 0) daX4_keepIfLess_0 dbX4_keepIfLess_0.1
theorem dX4_keepIfLess_1 : decode cX4_keepIfLess 1 = .ok (.aload_n 0, 1) := dgq (p := 1) daX4_keepIfLess_0 dbX4_keepIfLess_0.2.1
theorem dX4_keepIfLess_2 : decode cX4_keepIfLess 2 = .ok (.getfield 67, 3) := dgq (p := 2) daX4_keepIfLess_0 dbX4_keepIfLess_0.2.2.1
theorem dX4_keepIfLess_5 : decode cX4_keepIfLess 5 = .ok (.if_icmp .ge 22, 3) := dgq (p := 5) daX4_keepIfLess_0 dbX4_keepIfLess_0.2.2.2.1
theorem dX4_keepIfLess_8 : decode cX4_keepIfLess 8 = .ok (.aload_n 0, 1) := dgq (p := 8) daX4_keepIfLess_0 dbX4_keepIfLess_0.2.2.2.2.1
theorem dX4_keepIfLess_9 : decode cX4_keepIfLess 9 = .ok (.iload_n 1, 1) := dgq (p := 9) daX4_keepIfLess_0 dbX4_keepIfLess_0.2.2.2.2.2.1
theorem dX4_keepIfLess_10 : decode cX4_keepIfLess 10 = .ok (.putfield 67, 3) := dgq (p := 10) daX4_keepIfLess_0 dbX4_keepIfLess_0.2.2.2.2.2.2.1
theorem dX4_keepIfLess_13 : decode cX4_keepIfLess 13 = .ok (.aload_n 0, 1) := dgq (p := 13) daX4_keepIfLess_0 dbX4_keepIfLess_0.2.2.2.2.2.2.2.1
theorem dX4_keepIfLess_14 : decode cX4_keepIfLess 14 = .ok (.getfield 28, 3) := dgq (p := 14) daX4_keepIfLess_0 dbX4_keepIfLess_0.2.2.2.2.2.2.2.2.1
theorem dX4_keepIfLess_17 : decode cX4_keepIfLess 17 = .ok (.iconst 0, 1) := dgq (p := 17) daX4_keepIfLess_0 dbX4_keepIfLess_0.2.2.2.2.2.2.2.2.2
def dsX4_keepIfLess_18 : ByteArray := ⟨#[42, 180, 0, 31, 3, 8, 184, 0, 78, 177]⟩
theorem daX4_keepIfLess_18 : agB cX4_keepIfLess dsX4_keepIfLess_18 18 := agB_of (n := 10) (by decide +kernel)
theorem dbX4_keepIfLess_18 : (decode dsX4_keepIfLess_18 0 = .ok (.aload_n 0, 1) ∧ okop dsX4_keepIfLess_18 0 = true) ∧ (decode dsX4_keepIfLess_18 1 = .ok (.getfield 31, 3) ∧ okop dsX4_keepIfLess_18 1 = true) ∧ (decode dsX4_keepIfLess_18 4 = .ok (.iconst 0, 1) ∧ okop dsX4_keepIfLess_18 4 = true) ∧ (decode dsX4_keepIfLess_18 5 = .ok (.iconst 5, 1) ∧ okop dsX4_keepIfLess_18 5 = true) ∧ (decode dsX4_keepIfLess_18 6 = .ok (.invokestatic 78, 3) ∧ okop dsX4_keepIfLess_18 6 = true) ∧ (decode dsX4_keepIfLess_18 9 = .ok (.return_, 1) ∧ okop dsX4_keepIfLess_18 9 = true) := by decide +kernel
theorem dX4_keepIfLess_18 : decode cX4_keepIfLess 18 = .ok (.aload_n 0, 1) := dgq (p := 0) daX4_keepIfLess_18 dbX4_keepIfLess_18.1
theorem dX4_keepIfLess_19 : decode cX4_keepIfLess 19 = .ok (.getfield 31, 3) := dgq (p := 1) daX4_keepIfLess_18 dbX4_keepIfLess_18.2.1
theorem dX4_keepIfLess_22 : decode cX4_keepIfLess 22 = .ok (.iconst 0, 1) := dgq (p := 4) daX4_keepIfLess_18 dbX4_keepIfLess_18.2.2.1
theorem dX4_keepIfLess_23 : decode cX4_keepIfLess 23 = .ok (.iconst 5, 1) := dgq (p := 5) daX4_keepIfLess_18 dbX4_keepIfLess_18.2.2.2.1
theorem dX4_keepIfLess_24 : decode cX4_keepIfLess 24 = .ok (.invokestatic 78, 3) := dgq (p := 6) daX4_keepIfLess_18 dbX4_keepIfLess_18.2.2.2.2.1
theorem dX4_keepIfLess_27 : decode cX4_keepIfLess 27 = .ok (.return_, 1) := dgq (p := 9) daX4_keepIfLess_18 dbX4_keepIfLess_18.2.2.2.2.2
def dsX4_bind_0 : ByteArray := ⟨#[3, 60, 27, 42, 180, 0, 34, 162, 0, 64, 42, 180, 0, 31, 27, 46]⟩
theorem daX4_bind_0 : agB cX4_bind dsX4_bind_0 0 := agB_of (n := 16) (by decide +kernel)
theorem dbX4_bind_0 : (decode dsX4_bind_0 0 = .ok (.iconst 0, 1) ∧ okop dsX4_bind_0 0 = true) ∧ (decode dsX4_bind_0 1 = .ok (.istore_n 1, 1) ∧ okop dsX4_bind_0 1 = true) ∧ (decode dsX4_bind_0 2 = .ok (.iload_n 1, 1) ∧ okop dsX4_bind_0 2 = true) ∧ (decode dsX4_bind_0 3 = .ok (.aload_n 0, 1) ∧ okop dsX4_bind_0 3 = true) ∧ (decode dsX4_bind_0 4 = .ok (.getfield 34, 3) ∧ okop dsX4_bind_0 4 = true) ∧ (decode dsX4_bind_0 7 = .ok (.if_icmp .ge 64, 3) ∧ okop dsX4_bind_0 7 = true) ∧ (decode dsX4_bind_0 10 = .ok (.aload_n 0, 1) ∧ okop dsX4_bind_0 10 = true) ∧ (decode dsX4_bind_0 11 = .ok (.getfield 31, 3) ∧ okop dsX4_bind_0 11 = true) ∧ (decode dsX4_bind_0 14 = .ok (.iload_n 1, 1) ∧ okop dsX4_bind_0 14 = true) ∧ (decode dsX4_bind_0 15 = .ok (.iaload, 1) ∧ okop dsX4_bind_0 15 = true) := by decide +kernel
theorem dX4_bind_0 : decode cX4_bind 0 = .ok (.iconst 0, 1) := dgq (p := 0) daX4_bind_0 dbX4_bind_0.1
theorem dX4_bind_1 : decode cX4_bind 1 = .ok (.istore_n 1, 1) := dgq (p := 1) daX4_bind_0 dbX4_bind_0.2.1
theorem dX4_bind_2 : decode cX4_bind 2 = .ok (.iload_n 1, 1) := dgq (p := 2) daX4_bind_0 dbX4_bind_0.2.2.1
theorem dX4_bind_3 : decode cX4_bind 3 = .ok (.aload_n 0, 1) := dgq (p := 3) daX4_bind_0 dbX4_bind_0.2.2.2.1
theorem dX4_bind_4 : decode cX4_bind 4 = .ok (.getfield 34, 3) := dgq (p := 4) daX4_bind_0 dbX4_bind_0.2.2.2.2.1
theorem dX4_bind_7 : decode cX4_bind 7 = .ok (.if_icmp .ge 64, 3) := dgq (p := 7) daX4_bind_0 dbX4_bind_0.2.2.2.2.2.1
theorem dX4_bind_10 : decode cX4_bind 10 = .ok (.aload_n 0, 1) := dgq (p := 10) daX4_bind_0 dbX4_bind_0.2.2.2.2.2.2.1
theorem dX4_bind_11 : decode cX4_bind 11 = .ok (.getfield 31, 3) := dgq (p := 11) daX4_bind_0 dbX4_bind_0.2.2.2.2.2.2.2.1
theorem dX4_bind_14 : decode cX4_bind 14 = .ok (.iload_n 1, 1) := dgq (p := 14) daX4_bind_0 dbX4_bind_0.2.2.2.2.2.2.2.2.1
theorem dX4_bind_15 : decode cX4_bind 15 = .ok (.iaload, 1) := dgq (p := 15) daX4_bind_0 dbX4_bind_0.2.2.2.2.2.2.2.2.2
def dsX4_bind_16 : ByteArray := ⟨#[61, 28, 155, 0, 47, 28, 42, 180, 0, 38, 162, 0, 39, 42, 180, 0, 11, 27]⟩
theorem daX4_bind_16 : agB cX4_bind dsX4_bind_16 16 := agB_of (n := 18) (by decide +kernel)
theorem dbX4_bind_16 : (decode dsX4_bind_16 0 = .ok (.istore_n 2, 1) ∧ okop dsX4_bind_16 0 = true) ∧ (decode dsX4_bind_16 1 = .ok (.iload_n 2, 1) ∧ okop dsX4_bind_16 1 = true) ∧ (decode dsX4_bind_16 2 = .ok (.ifCond .lt 47, 3) ∧ okop dsX4_bind_16 2 = true) ∧ (decode dsX4_bind_16 5 = .ok (.iload_n 2, 1) ∧ okop dsX4_bind_16 5 = true) ∧ (decode dsX4_bind_16 6 = .ok (.aload_n 0, 1) ∧ okop dsX4_bind_16 6 = true) ∧ (decode dsX4_bind_16 7 = .ok (.getfield 38, 3) ∧ okop dsX4_bind_16 7 = true) ∧ (decode dsX4_bind_16 10 = .ok (.if_icmp .ge 39, 3) ∧ okop dsX4_bind_16 10 = true) ∧ (decode dsX4_bind_16 13 = .ok (.aload_n 0, 1) ∧ okop dsX4_bind_16 13 = true) ∧ (decode dsX4_bind_16 14 = .ok (.getfield 11, 3) ∧ okop dsX4_bind_16 14 = true) ∧ (decode dsX4_bind_16 17 = .ok (.iload_n 1, 1) ∧ okop dsX4_bind_16 17 = true) := by decide +kernel
theorem dX4_bind_16 : decode cX4_bind 16 = .ok (.istore_n 2, 1) := dgq (p := 0) daX4_bind_16 dbX4_bind_16.1
theorem dX4_bind_17 : decode cX4_bind 17 = .ok (.iload_n 2, 1) := dgq (p := 1) daX4_bind_16 dbX4_bind_16.2.1
theorem dX4_bind_18 : decode cX4_bind 18 = .ok (.ifCond .lt 47, 3) := dgq (p := 2) daX4_bind_16 dbX4_bind_16.2.2.1
theorem dX4_bind_21 : decode cX4_bind 21 = .ok (.iload_n 2, 1) := dgq (p := 5) daX4_bind_16 dbX4_bind_16.2.2.2.1
theorem dX4_bind_22 : decode cX4_bind 22 = .ok (.aload_n 0, 1) := dgq (p := 6) daX4_bind_16 dbX4_bind_16.2.2.2.2.1
theorem dX4_bind_23 : decode cX4_bind 23 = .ok (.getfield 38, 3) := dgq (p := 7) daX4_bind_16 dbX4_bind_16.2.2.2.2.2.1
theorem dX4_bind_26 : decode cX4_bind 26 = .ok (.if_icmp .ge 39, 3) := dgq (p := 10) daX4_bind_16 dbX4_bind_16.2.2.2.2.2.2.1
theorem dX4_bind_29 : decode cX4_bind 29 = .ok (.aload_n 0, 1) := dgq (p := 13) daX4_bind_16 dbX4_bind_16.2.2.2.2.2.2.2.1
theorem dX4_bind_30 : decode cX4_bind 30 = .ok (.getfield 11, 3) := dgq (p := 14) daX4_bind_16 dbX4_bind_16.2.2.2.2.2.2.2.2.1
theorem dX4_bind_33 : decode cX4_bind 33 = .ok (.iload_n 1, 1) := dgq (p := 17) daX4_bind_16 dbX4_bind_16.2.2.2.2.2.2.2.2.2
def dsX4_bind_34 : ByteArray := ⟨#[50, 42, 180, 0, 17, 28, 50, 180, 0, 84, 181, 0, 87, 42, 180, 0, 17, 28]⟩
theorem daX4_bind_34 : agB cX4_bind dsX4_bind_34 34 := agB_of (n := 18) (by decide +kernel)
theorem dbX4_bind_34 : (decode dsX4_bind_34 0 = .ok (.aaload, 1) ∧ okop dsX4_bind_34 0 = true) ∧ (decode dsX4_bind_34 1 = .ok (.aload_n 0, 1) ∧ okop dsX4_bind_34 1 = true) ∧ (decode dsX4_bind_34 2 = .ok (.getfield 17, 3) ∧ okop dsX4_bind_34 2 = true) ∧ (decode dsX4_bind_34 5 = .ok (.iload_n 2, 1) ∧ okop dsX4_bind_34 5 = true) ∧ (decode dsX4_bind_34 6 = .ok (.aaload, 1) ∧ okop dsX4_bind_34 6 = true) ∧ (decode dsX4_bind_34 7 = .ok (.getfield 84, 3) ∧ okop dsX4_bind_34 7 = true) ∧ (decode dsX4_bind_34 10 = .ok (.putfield 87, 3) ∧ okop dsX4_bind_34 10 = true) ∧ (decode dsX4_bind_34 13 = .ok (.aload_n 0, 1) ∧ okop dsX4_bind_34 13 = true) ∧ (decode dsX4_bind_34 14 = .ok (.getfield 17, 3) ∧ okop dsX4_bind_34 14 = true) ∧ (decode dsX4_bind_34 17 = .ok (.iload_n 2, 1) ∧ okop dsX4_bind_34 17 = true) := by decide +kernel
theorem dX4_bind_34 : decode cX4_bind 34 = .ok (.aaload, 1) := dgq (p := 0) daX4_bind_34 dbX4_bind_34.1
theorem dX4_bind_35 : decode cX4_bind 35 = .ok (.aload_n 0, 1) := dgq (p := 1) daX4_bind_34 dbX4_bind_34.2.1
theorem dX4_bind_36 : decode cX4_bind 36 = .ok (.getfield 17, 3) := dgq (p := 2) daX4_bind_34 dbX4_bind_34.2.2.1
theorem dX4_bind_39 : decode cX4_bind 39 = .ok (.iload_n 2, 1) := dgq (p := 5) daX4_bind_34 dbX4_bind_34.2.2.2.1
theorem dX4_bind_40 : decode cX4_bind 40 = .ok (.aaload, 1) := dgq (p := 6) daX4_bind_34 dbX4_bind_34.2.2.2.2.1
theorem dX4_bind_41 : decode cX4_bind 41 = .ok (.getfield 84, 3) := dgq (p := 7) daX4_bind_34 dbX4_bind_34.2.2.2.2.2.1
theorem dX4_bind_44 : decode cX4_bind 44 = .ok (.putfield 87, 3) := dgq (p := 10) daX4_bind_34 dbX4_bind_34.2.2.2.2.2.2.1
theorem dX4_bind_47 : decode cX4_bind 47 = .ok (.aload_n 0, 1) := dgq (p := 13) daX4_bind_34 dbX4_bind_34.2.2.2.2.2.2.2.1
theorem dX4_bind_48 : decode cX4_bind 48 = .ok (.getfield 17, 3) := dgq (p := 14) daX4_bind_34 dbX4_bind_34.2.2.2.2.2.2.2.2.1
theorem dX4_bind_51 : decode cX4_bind 51 = .ok (.iload_n 2, 1) := dgq (p := 17) daX4_bind_34 dbX4_bind_34.2.2.2.2.2.2.2.2.2
def dsX4_bind_52 : ByteArray := ⟨#[50, 42, 180, 0, 11, 27, 50, 180, 0, 84, 181, 0, 87, 132, 1, 1, 167, 255, 190, 177]⟩
theorem daX4_bind_52 : agB cX4_bind dsX4_bind_52 52 := agB_of (n := 20) (by decide +kernel)
theorem dbX4_bind_52 : (decode dsX4_bind_52 0 = .ok (.aaload, 1) ∧ okop dsX4_bind_52 0 = true) ∧ (decode dsX4_bind_52 1 = .ok (.aload_n 0, 1) ∧ okop dsX4_bind_52 1 = true) ∧ (decode dsX4_bind_52 2 = .ok (.getfield 11, 3) ∧ okop dsX4_bind_52 2 = true) ∧ (decode dsX4_bind_52 5 = .ok (.iload_n 1, 1) ∧ okop dsX4_bind_52 5 = true) ∧ (decode dsX4_bind_52 6 = .ok (.aaload, 1) ∧ okop dsX4_bind_52 6 = true) ∧ (decode dsX4_bind_52 7 = .ok (.getfield 84, 3) ∧ okop dsX4_bind_52 7 = true) ∧ (decode dsX4_bind_52 10 = .ok (.putfield 87, 3) ∧ okop dsX4_bind_52 10 = true) ∧ (decode dsX4_bind_52 13 = .ok (.iinc 1 1, 3) ∧ okop dsX4_bind_52 13 = true) ∧ (decode dsX4_bind_52 16 = .ok (.goto (-66), 3) ∧ okop dsX4_bind_52 16 = true) ∧ (decode dsX4_bind_52 19 = .ok (.return_, 1) ∧ okop dsX4_bind_52 19 = true) := by decide +kernel
theorem dX4_bind_52 : decode cX4_bind 52 = .ok (.aaload, 1) := dgq (p := 0) daX4_bind_52 dbX4_bind_52.1
theorem dX4_bind_53 : decode cX4_bind 53 = .ok (.aload_n 0, 1) := dgq (p := 1) daX4_bind_52 dbX4_bind_52.2.1
theorem dX4_bind_54 : decode cX4_bind 54 = .ok (.getfield 11, 3) := dgq (p := 2) daX4_bind_52 dbX4_bind_52.2.2.1
theorem dX4_bind_57 : decode cX4_bind 57 = .ok (.iload_n 1, 1) := dgq (p := 5) daX4_bind_52 dbX4_bind_52.2.2.2.1
theorem dX4_bind_58 : decode cX4_bind 58 = .ok (.aaload, 1) := dgq (p := 6) daX4_bind_52 dbX4_bind_52.2.2.2.2.1
theorem dX4_bind_59 : decode cX4_bind 59 = .ok (.getfield 84, 3) := dgq (p := 7) daX4_bind_52 dbX4_bind_52.2.2.2.2.2.1
theorem dX4_bind_62 : decode cX4_bind 62 = .ok (.putfield 87, 3) := dgq (p := 10) daX4_bind_52 dbX4_bind_52.2.2.2.2.2.2.1
theorem dX4_bind_65 : decode cX4_bind 65 = .ok (.iinc 1 1, 3) := dgq (p := 13) daX4_bind_52 dbX4_bind_52.2.2.2.2.2.2.2.1
theorem dX4_bind_68 : decode cX4_bind 68 = .ok (.goto (-66), 3) := dgq (p := 16) daX4_bind_52 dbX4_bind_52.2.2.2.2.2.2.2.2.1
theorem dX4_bind_71 : decode cX4_bind 71 = .ok (.return_, 1) := dgq (p := 19) daX4_bind_52 dbX4_bind_52.2.2.2.2.2.2.2.2.2
def dsX5_init_0 : ByteArray := ⟨#[42, 183, 0, 3, 42, 18, 9, 181, 0, 10, 42, 27, 181, 0, 16, 42, 28]⟩
theorem daX5_init_0 : agB cX5_init dsX5_init_0 0 := agB_of (n := 17) (by decide +kernel)
theorem dbX5_init_0 : (decode dsX5_init_0 0 = .ok (.aload_n 0, 1) ∧ okop dsX5_init_0 0 = true) ∧ (decode dsX5_init_0 1 = .ok (.invokespecial 3, 3) ∧ okop dsX5_init_0 1 = true) ∧ (decode dsX5_init_0 4 = .ok (.aload_n 0, 1) ∧ okop dsX5_init_0 4 = true) ∧ (decode dsX5_init_0 5 = .ok (.ldc 9, 2) ∧ okop dsX5_init_0 5 = true) ∧ (decode dsX5_init_0 7 = .ok (.putfield 10, 3) ∧ okop dsX5_init_0 7 = true) ∧ (decode dsX5_init_0 10 = .ok (.aload_n 0, 1) ∧ okop dsX5_init_0 10 = true) ∧ (decode dsX5_init_0 11 = .ok (.iload_n 1, 1) ∧ okop dsX5_init_0 11 = true) ∧ (decode dsX5_init_0 12 = .ok (.putfield 16, 3) ∧ okop dsX5_init_0 12 = true) ∧ (decode dsX5_init_0 15 = .ok (.aload_n 0, 1) ∧ okop dsX5_init_0 15 = true) ∧ (decode dsX5_init_0 16 = .ok (.iload_n 2, 1) ∧ okop dsX5_init_0 16 = true) := by decide +kernel
theorem dX5_init_0 : decode cX5_init 0 = .ok (.aload_n 0, 1) := dgq (p := 0) daX5_init_0 dbX5_init_0.1
theorem dX5_init_1 : decode cX5_init 1 = .ok (.invokespecial 3, 3) := dgq (p := 1) daX5_init_0 dbX5_init_0.2.1
theorem dX5_init_4 : decode cX5_init 4 = .ok (.aload_n 0, 1) := dgq (p := 4) daX5_init_0 dbX5_init_0.2.2.1
theorem dX5_init_5 : decode cX5_init 5 = .ok (.ldc 9, 2) := dgq (p := 5) daX5_init_0 dbX5_init_0.2.2.2.1
theorem dX5_init_7 : decode cX5_init 7 = .ok (.putfield 10, 3) := dgq (p := 7) daX5_init_0 dbX5_init_0.2.2.2.2.1
theorem dX5_init_10 : decode cX5_init 10 = .ok (.aload_n 0, 1) := dgq (p := 10) daX5_init_0 dbX5_init_0.2.2.2.2.2.1
theorem dX5_init_11 : decode cX5_init 11 = .ok (.iload_n 1, 1) := dgq (p := 11) daX5_init_0 dbX5_init_0.2.2.2.2.2.2.1
theorem dX5_init_12 : decode cX5_init 12 = .ok (.putfield 16, 3) := dgq (p := 12) daX5_init_0 dbX5_init_0.2.2.2.2.2.2.2.1
theorem dX5_init_15 : decode cX5_init 15 = .ok (.aload_n 0, 1) := dgq (p := 15) daX5_init_0 dbX5_init_0.2.2.2.2.2.2.2.2.1
theorem dX5_init_16 : decode cX5_init 16 = .ok (.iload_n 2, 1) := dgq (p := 16) daX5_init_0 dbX5_init_0.2.2.2.2.2.2.2.2.2
def dsX5_init_17 : ByteArray := ⟨#[181, 0, 19, 42, 29, 181, 0, 22, 177]⟩
theorem daX5_init_17 : agB cX5_init dsX5_init_17 17 := agB_of (n := 9) (by decide +kernel)
theorem dbX5_init_17 : (decode dsX5_init_17 0 = .ok (.putfield 19, 3) ∧ okop dsX5_init_17 0 = true) ∧ (decode dsX5_init_17 3 = .ok (.aload_n 0, 1) ∧ okop dsX5_init_17 3 = true) ∧ (decode dsX5_init_17 4 = .ok (.iload_n 3, 1) ∧ okop dsX5_init_17 4 = true) ∧ (decode dsX5_init_17 5 = .ok (.putfield 22, 3) ∧ okop dsX5_init_17 5 = true) ∧ (decode dsX5_init_17 8 = .ok (.return_, 1) ∧ okop dsX5_init_17 8 = true) := by decide +kernel
theorem dX5_init_17 : decode cX5_init 17 = .ok (.putfield 19, 3) := dgq (p := 0) daX5_init_17 dbX5_init_17.1
theorem dX5_init_20 : decode cX5_init 20 = .ok (.aload_n 0, 1) := dgq (p := 3) daX5_init_17 dbX5_init_17.2.1
theorem dX5_init_21 : decode cX5_init 21 = .ok (.iload_n 3, 1) := dgq (p := 4) daX5_init_17 dbX5_init_17.2.2.1
theorem dX5_init_22 : decode cX5_init 22 = .ok (.putfield 22, 3) := dgq (p := 5) daX5_init_17 dbX5_init_17.2.2.2.1
theorem dX5_init_25 : decode cX5_init 25 = .ok (.return_, 1) := dgq (p := 8) daX5_init_17 dbX5_init_17.2.2.2.2
def dsX5_isFound_0 : ByteArray := ⟨#[42, 180, 0, 10, 18, 9, 162, 0, 7, 4, 167, 0, 4, 3, 172]⟩
theorem daX5_isFound_0 : agB cX5_isFound dsX5_isFound_0 0 := agB_of (n := 15) (by decide +kernel)
theorem dbX5_isFound_0 : (decode dsX5_isFound_0 0 = .ok (.aload_n 0, 1) ∧ okop dsX5_isFound_0 0 = true) ∧ (decode dsX5_isFound_0 1 = .ok (.getfield 10, 3) ∧ okop dsX5_isFound_0 1 = true) ∧ (decode dsX5_isFound_0 4 = .ok (.ldc 9, 2) ∧ okop dsX5_isFound_0 4 = true) ∧ (decode dsX5_isFound_0 6 = .ok (.if_icmp .ge 7, 3) ∧ okop dsX5_isFound_0 6 = true) ∧ (decode dsX5_isFound_0 9 = .ok (.iconst 1, 1) ∧ okop dsX5_isFound_0 9 = true) ∧ (decode dsX5_isFound_0 10 = .ok (.goto 4, 3) ∧ okop dsX5_isFound_0 10 = true) ∧ (decode dsX5_isFound_0 13 = .ok (.iconst 0, 1) ∧ okop dsX5_isFound_0 13 = true) ∧ (decode dsX5_isFound_0 14 = .ok (.ireturn, 1) ∧ okop dsX5_isFound_0 14 = true) := by decide +kernel
theorem dX5_isFound_0 : decode cX5_isFound 0 = .ok (.aload_n 0, 1) := dgq (p := 0) daX5_isFound_0 dbX5_isFound_0.1
theorem dX5_isFound_1 : decode cX5_isFound 1 = .ok (.getfield 10, 3) := dgq (p := 1) daX5_isFound_0 dbX5_isFound_0.2.1
theorem dX5_isFound_4 : decode cX5_isFound 4 = .ok (.ldc 9, 2) := dgq (p := 4) daX5_isFound_0 dbX5_isFound_0.2.2.1
theorem dX5_isFound_6 : decode cX5_isFound 6 = .ok (.if_icmp .ge 7, 3) := dgq (p := 6) daX5_isFound_0 dbX5_isFound_0.2.2.2.1
theorem dX5_isFound_9 : decode cX5_isFound 9 = .ok (.iconst 1, 1) := dgq (p := 9) daX5_isFound_0 dbX5_isFound_0.2.2.2.2.1
theorem dX5_isFound_10 : decode cX5_isFound 10 = .ok (.goto 4, 3) := dgq (p := 10) daX5_isFound_0 dbX5_isFound_0.2.2.2.2.2.1
theorem dX5_isFound_13 : decode cX5_isFound 13 = .ok (.iconst 0, 1) := dgq (p := 13) daX5_isFound_0 dbX5_isFound_0.2.2.2.2.2.2.1
theorem dX5_isFound_14 : decode cX5_isFound 14 = .ok (.ireturn, 1) := dgq (p := 14) daX5_isFound_0 dbX5_isFound_0.2.2.2.2.2.2.2
set_option maxRecDepth 20000 in
theorem ggX5_search_X5_isFound : GoodIn wsX5_search wsX5_isFound := goodIn_ca (goodIn_q _ [5, 6, 7] rfl (by decide +kernel)) (goodIn_sub (fun _ h => (List.mem_cons_of_mem _ (List.mem_append_right _ h))) tg_wsX50)
set_option maxRecDepth 20000 in
theorem gX5_search_X5_isFound : GoodIn wsX5_search (wsV RX5 25 RX5 yX5_isFound wsX5_isFound) := goodIn_app (goodIn_q _ [1, 2, 3, 4] rfl (by decide +kernel)) ggX5_search_X5_isFound
set_option maxRecDepth 20000 in
theorem ggX5_search_X5_compare : GoodIn wsX5_search wsX5_compare := goodIn_ca (goodIn_q _ [11, 12, 13, 14, 6, 15, 16, 17, 18, 19] rfl (by decide +kernel)) (goodIn_sub (fun _ h => (List.mem_cons_of_mem _ (List.mem_append_right _ h))) tg_wsX50)
set_option maxRecDepth 20000 in
theorem gX5_search_X5_compare : GoodIn wsX5_search (wsV RX5 29 RX5 yX5_compare wsX5_compare) := goodIn_app (goodIn_q _ [8, 9, 10, 4] rfl (by decide +kernel)) ggX5_search_X5_compare
def dsX5_search_0 : ByteArray := ⟨#[3, 60, 27, 16, 50, 163, 0, 49, 42, 182, 0, 25, 154, 0, 42, 17, 1, 244, 61]⟩
theorem daX5_search_0 : agB cX5_search dsX5_search_0 0 := agB_of (n := 19) (by decide +kernel)
theorem dbX5_search_0 : (decode dsX5_search_0 0 = .ok (.iconst 0, 1) ∧ okop dsX5_search_0 0 = true) ∧ (decode dsX5_search_0 1 = .ok (.istore_n 1, 1) ∧ okop dsX5_search_0 1 = true) ∧ (decode dsX5_search_0 2 = .ok (.iload_n 1, 1) ∧ okop dsX5_search_0 2 = true) ∧ (decode dsX5_search_0 3 = .ok (.bipush 50, 2) ∧ okop dsX5_search_0 3 = true) ∧ (decode dsX5_search_0 5 = .ok (.if_icmp .gt 49, 3) ∧ okop dsX5_search_0 5 = true) ∧ (decode dsX5_search_0 8 = .ok (.aload_n 0, 1) ∧ okop dsX5_search_0 8 = true) ∧ (decode dsX5_search_0 9 = .ok (.invokevirtual 25, 3) ∧ okop dsX5_search_0 9 = true) ∧ (decode dsX5_search_0 12 = .ok (.ifCond .ne 42, 3) ∧ okop dsX5_search_0 12 = true) ∧ (decode dsX5_search_0 15 = .ok (.sipush 500, 3) ∧ okop dsX5_search_0 15 = true) ∧ (decode dsX5_search_0 18 = .ok (.istore_n 2, 1) ∧ okop dsX5_search_0 18 = true) := by decide +kernel
theorem dX5_search_0 : decode cX5_search 0 = .ok (.iconst 0, 1) := dgq (p := 0) daX5_search_0 dbX5_search_0.1
theorem dX5_search_1 : decode cX5_search 1 = .ok (.istore_n 1, 1) := dgq (p := 1) daX5_search_0 dbX5_search_0.2.1
theorem dX5_search_2 : decode cX5_search 2 = .ok (.iload_n 1, 1) := dgq (p := 2) daX5_search_0 dbX5_search_0.2.2.1
theorem dX5_search_3 : decode cX5_search 3 = .ok (.bipush 50, 2) := dgq (p := 3) daX5_search_0 dbX5_search_0.2.2.2.1
theorem dX5_search_5 : decode cX5_search 5 = .ok (.if_icmp .gt 49, 3) := dgq (p := 5) daX5_search_0 dbX5_search_0.2.2.2.2.1
theorem dX5_search_8 : decode cX5_search 8 = .ok (.aload_n 0, 1) := dgq (p := 8) daX5_search_0 dbX5_search_0.2.2.2.2.2.1
theorem dX5_search_9 : decode cX5_search 9 = .ok (.invokevirtual 25, 3) := dgq (p := 9) daX5_search_0 dbX5_search_0.2.2.2.2.2.2.1
theorem dX5_search_12 : decode cX5_search 12 = .ok (.ifCond .ne 42, 3) := dgq (p := 12) daX5_search_0 dbX5_search_0.2.2.2.2.2.2.2.1
theorem dX5_search_15 : decode cX5_search 15 = .ok (.sipush 500, 3) := dgq (p := 15) daX5_search_0 dbX5_search_0.2.2.2.2.2.2.2.2.1
theorem dX5_search_18 : decode cX5_search 18 = .ok (.istore_n 2, 1) := dgq (p := 18) daX5_search_0 dbX5_search_0.2.2.2.2.2.2.2.2.2
def dsX5_search_19 : ByteArray := ⟨#[28, 17, 39, 16, 163, 0, 25, 42, 28, 27, 182, 0, 29, 42, 28, 27]⟩
theorem daX5_search_19 : agB cX5_search dsX5_search_19 19 := agB_of (n := 16) (by decide +kernel)
theorem dbX5_search_19 : (decode dsX5_search_19 0 = .ok (.iload_n 2, 1) ∧ okop dsX5_search_19 0 = true) ∧ (decode dsX5_search_19 1 = .ok (.sipush 10000, 3) ∧ okop dsX5_search_19 1 = true) ∧ (decode dsX5_search_19 4 = .ok (.if_icmp .gt 25, 3) ∧ okop dsX5_search_19 4 = true) ∧ (decode dsX5_search_19 7 = .ok (.aload_n 0, 1) ∧ okop dsX5_search_19 7 = true) ∧ (decode dsX5_search_19 8 = .ok (.iload_n 2, 1) ∧ okop dsX5_search_19 8 = true) ∧ (decode dsX5_search_19 9 = .ok (.iload_n 1, 1) ∧ okop dsX5_search_19 9 = true) ∧ (decode dsX5_search_19 10 = .ok (.invokevirtual 29, 3) ∧ okop dsX5_search_19 10 = true) ∧ (decode dsX5_search_19 13 = .ok (.aload_n 0, 1) ∧ okop dsX5_search_19 13 = true) ∧ (decode dsX5_search_19 14 = .ok (.iload_n 2, 1) ∧ okop dsX5_search_19 14 = true) ∧ (decode dsX5_search_19 15 = .ok (.iload_n 1, 1) ∧ okop dsX5_search_19 15 = true) := by decide +kernel
theorem dX5_search_19 : decode cX5_search 19 = .ok (.iload_n 2, 1) := dgq (p := 0) daX5_search_19 dbX5_search_19.1
theorem dX5_search_20 : decode cX5_search 20 = .ok (.sipush 10000, 3) := dgq (p := 1) daX5_search_19 dbX5_search_19.2.1
theorem dX5_search_23 : decode cX5_search 23 = .ok (.if_icmp .gt 25, 3) := dgq (p := 4) daX5_search_19 dbX5_search_19.2.2.1
theorem dX5_search_26 : decode cX5_search 26 = .ok (.aload_n 0, 1) := dgq (p := 7) daX5_search_19 dbX5_search_19.2.2.2.1
theorem dX5_search_27 : decode cX5_search 27 = .ok (.iload_n 2, 1) := dgq (p := 8) daX5_search_19 dbX5_search_19.2.2.2.2.1
theorem dX5_search_28 : decode cX5_search 28 = .ok (.iload_n 1, 1) := dgq (p := 9) daX5_search_19 dbX5_search_19.2.2.2.2.2.1
theorem dX5_search_29 : decode cX5_search 29 = .ok (.invokevirtual 29, 3) := dgq (p := 10) daX5_search_19 dbX5_search_19.2.2.2.2.2.2.1
theorem dX5_search_32 : decode cX5_search 32 = .ok (.aload_n 0, 1) := dgq (p := 13) daX5_search_19 dbX5_search_19.2.2.2.2.2.2.2.1
theorem dX5_search_33 : decode cX5_search 33 = .ok (.iload_n 2, 1) := dgq (p := 14) daX5_search_19 dbX5_search_19.2.2.2.2.2.2.2.2.1
theorem dX5_search_34 : decode cX5_search 34 = .ok (.iload_n 1, 1) := dgq (p := 15) daX5_search_19 dbX5_search_19.2.2.2.2.2.2.2.2.2
theorem dX5_search_39 : decode cX5_search 39 = .ok (.iinc 2 250, 6) := by decide +kernel
def dsX5_search_35 : ByteArray := ⟨#[116, 182, 0, 29, 196, 132, 0, 2, 0, 250, 167, 255, 230, 132, 1, 1, 167, 255, 207, 177]⟩
theorem daX5_search_35 : agB cX5_search dsX5_search_35 35 := agB_of (n := 20) (by decide +kernel)
theorem dbX5_search_35 : (decode dsX5_search_35 0 = .ok (.ineg, 1) ∧ okop dsX5_search_35 0 = true) ∧ (decode dsX5_search_35 1 = .ok (.invokevirtual 29, 3) ∧ okop dsX5_search_35 1 = true) ∧ (decode dsX5_search_35 10 = .ok (.goto (-26), 3) ∧ okop dsX5_search_35 10 = true) ∧ (decode dsX5_search_35 13 = .ok (.iinc 1 1, 3) ∧ okop dsX5_search_35 13 = true) ∧ (decode dsX5_search_35 16 = .ok (.goto (-49), 3) ∧ okop dsX5_search_35 16 = true) ∧ (decode dsX5_search_35 19 = .ok (.return_, 1) ∧ okop dsX5_search_35 19 = true) := by decide +kernel
theorem dX5_search_35 : decode cX5_search 35 = .ok (.ineg, 1) := dgq (p := 0) daX5_search_35 dbX5_search_35.1
theorem dX5_search_36 : decode cX5_search 36 = .ok (.invokevirtual 29, 3) := dgq (p := 1) daX5_search_35 dbX5_search_35.2.1
theorem dX5_search_45 : decode cX5_search 45 = .ok (.goto (-26), 3) := dgq (p := 10) daX5_search_35 dbX5_search_35.2.2.1
theorem dX5_search_48 : decode cX5_search 48 = .ok (.iinc 1 1, 3) := dgq (p := 13) daX5_search_35 dbX5_search_35.2.2.2.1
theorem dX5_search_51 : decode cX5_search 51 = .ok (.goto (-49), 3) := dgq (p := 16) daX5_search_35 dbX5_search_35.2.2.2.2.1
theorem dX5_search_54 : decode cX5_search 54 = .ok (.return_, 1) := dgq (p := 19) daX5_search_35 dbX5_search_35.2.2.2.2.2
set_option maxRecDepth 20000 in
theorem ggX5_compare_X9_tipOf : GoodIn wsX5_compare wsX9_tipOf := goodIn_q _ [9] rfl (by decide +kernel)
set_option maxRecDepth 20000 in
theorem gX5_compare_X9_tipOf_n33 : GoodIn wsX5_compare (wsX9_tipOf) := ggX5_compare_X9_tipOf
def dsX5_compare_0 : ByteArray := ⟨#[42, 180, 0, 16, 27, 28, 184, 0, 33, 62, 29, 42, 180, 0, 19, 161, 0, 20]⟩
theorem daX5_compare_0 : agB cX5_compare dsX5_compare_0 0 := agB_of (n := 18) (by decide +kernel)
theorem dbX5_compare_0 : (decode dsX5_compare_0 0 = .ok (.aload_n 0, 1) ∧ okop dsX5_compare_0 0 = true) ∧ (decode dsX5_compare_0 1 = .ok (.getfield 16, 3) ∧ okop dsX5_compare_0 1 = true) ∧ (decode dsX5_compare_0 4 = .ok (.iload_n 1, 1) ∧ okop dsX5_compare_0 4 = true) ∧ (decode dsX5_compare_0 5 = .ok (.iload_n 2, 1) ∧ okop dsX5_compare_0 5 = true) ∧ (decode dsX5_compare_0 6 = .ok (.invokestatic 33, 3) ∧ okop dsX5_compare_0 6 = true) ∧ (decode dsX5_compare_0 9 = .ok (.istore_n 3, 1) ∧ okop dsX5_compare_0 9 = true) ∧ (decode dsX5_compare_0 10 = .ok (.iload_n 3, 1) ∧ okop dsX5_compare_0 10 = true) ∧ (decode dsX5_compare_0 11 = .ok (.aload_n 0, 1) ∧ okop dsX5_compare_0 11 = true) ∧ (decode dsX5_compare_0 12 = .ok (.getfield 19, 3) ∧ okop dsX5_compare_0 12 = true) ∧ (decode dsX5_compare_0 15 = .ok (.if_icmp .lt 20, 3) ∧ okop dsX5_compare_0 15 = true) := by decide +kernel
theorem dX5_compare_0 : decode cX5_compare 0 = .ok (.aload_n 0, 1) := dgq (p := 0) daX5_compare_0 dbX5_compare_0.1
theorem dX5_compare_1 : decode cX5_compare 1 = .ok (.getfield 16, 3) := dgq (p := 1) daX5_compare_0 dbX5_compare_0.2.1
theorem dX5_compare_4 : decode cX5_compare 4 = .ok (.iload_n 1, 1) := dgq (p := 4) daX5_compare_0 dbX5_compare_0.2.2.1
theorem dX5_compare_5 : decode cX5_compare 5 = .ok (.iload_n 2, 1) := dgq (p := 5) daX5_compare_0 dbX5_compare_0.2.2.2.1
theorem dX5_compare_6 : decode cX5_compare 6 = .ok (.invokestatic 33, 3) := dgq (p := 6) daX5_compare_0 dbX5_compare_0.2.2.2.2.1
theorem dX5_compare_9 : decode cX5_compare 9 = .ok (.istore_n 3, 1) := dgq (p := 9) daX5_compare_0 dbX5_compare_0.2.2.2.2.2.1
theorem dX5_compare_10 : decode cX5_compare 10 = .ok (.iload_n 3, 1) := dgq (p := 10) daX5_compare_0 dbX5_compare_0.2.2.2.2.2.2.1
theorem dX5_compare_11 : decode cX5_compare 11 = .ok (.aload_n 0, 1) := dgq (p := 11) daX5_compare_0 dbX5_compare_0.2.2.2.2.2.2.2.1
theorem dX5_compare_12 : decode cX5_compare 12 = .ok (.getfield 19, 3) := dgq (p := 12) daX5_compare_0 dbX5_compare_0.2.2.2.2.2.2.2.2.1
theorem dX5_compare_15 : decode cX5_compare 15 = .ok (.if_icmp .lt 20, 3) := dgq (p := 15) daX5_compare_0 dbX5_compare_0.2.2.2.2.2.2.2.2.2
def dsX5_compare_18 : ByteArray := ⟨#[29, 42, 180, 0, 19, 100, 42, 180, 0, 22, 163, 0, 7, 4, 167, 0, 4, 3]⟩
theorem daX5_compare_18 : agB cX5_compare dsX5_compare_18 18 := agB_of (n := 18) (by decide +kernel)
theorem dbX5_compare_18 : (decode dsX5_compare_18 0 = .ok (.iload_n 3, 1) ∧ okop dsX5_compare_18 0 = true) ∧ (decode dsX5_compare_18 1 = .ok (.aload_n 0, 1) ∧ okop dsX5_compare_18 1 = true) ∧ (decode dsX5_compare_18 2 = .ok (.getfield 19, 3) ∧ okop dsX5_compare_18 2 = true) ∧ (decode dsX5_compare_18 5 = .ok (.isub, 1) ∧ okop dsX5_compare_18 5 = true) ∧ (decode dsX5_compare_18 6 = .ok (.aload_n 0, 1) ∧ okop dsX5_compare_18 6 = true) ∧ (decode dsX5_compare_18 7 = .ok (.getfield 22, 3) ∧ okop dsX5_compare_18 7 = true) ∧ (decode dsX5_compare_18 10 = .ok (.if_icmp .gt 7, 3) ∧ okop dsX5_compare_18 10 = true) ∧ (decode dsX5_compare_18 13 = .ok (.iconst 1, 1) ∧ okop dsX5_compare_18 13 = true) ∧ (decode dsX5_compare_18 14 = .ok (.goto 4, 3) ∧ okop dsX5_compare_18 14 = true) ∧ (decode dsX5_compare_18 17 = .ok (.iconst 0, 1) ∧ okop dsX5_compare_18 17 = true) := by decide +kernel
theorem dX5_compare_18 : decode cX5_compare 18 = .ok (.iload_n 3, 1) := dgq (p := 0) daX5_compare_18 dbX5_compare_18.1
theorem dX5_compare_19 : decode cX5_compare 19 = .ok (.aload_n 0, 1) := dgq (p := 1) daX5_compare_18 dbX5_compare_18.2.1
theorem dX5_compare_20 : decode cX5_compare 20 = .ok (.getfield 19, 3) := dgq (p := 2) daX5_compare_18 dbX5_compare_18.2.2.1
theorem dX5_compare_23 : decode cX5_compare 23 = .ok (.isub, 1) := dgq (p := 5) daX5_compare_18 dbX5_compare_18.2.2.2.1
theorem dX5_compare_24 : decode cX5_compare 24 = .ok (.aload_n 0, 1) := dgq (p := 6) daX5_compare_18 dbX5_compare_18.2.2.2.2.1
theorem dX5_compare_25 : decode cX5_compare 25 = .ok (.getfield 22, 3) := dgq (p := 7) daX5_compare_18 dbX5_compare_18.2.2.2.2.2.1
theorem dX5_compare_28 : decode cX5_compare 28 = .ok (.if_icmp .gt 7, 3) := dgq (p := 10) daX5_compare_18 dbX5_compare_18.2.2.2.2.2.2.1
theorem dX5_compare_31 : decode cX5_compare 31 = .ok (.iconst 1, 1) := dgq (p := 13) daX5_compare_18 dbX5_compare_18.2.2.2.2.2.2.2.1
theorem dX5_compare_32 : decode cX5_compare 32 = .ok (.goto 4, 3) := dgq (p := 14) daX5_compare_18 dbX5_compare_18.2.2.2.2.2.2.2.2.1
theorem dX5_compare_35 : decode cX5_compare 35 = .ok (.iconst 0, 1) := dgq (p := 17) daX5_compare_18 dbX5_compare_18.2.2.2.2.2.2.2.2.2
def dsX5_compare_36 : ByteArray := ⟨#[54, 4, 21, 4, 153, 0, 26, 29, 42, 180, 0, 10, 162, 0, 18, 42, 29, 181, 0, 10]⟩
theorem daX5_compare_36 : agB cX5_compare dsX5_compare_36 36 := agB_of (n := 20) (by decide +kernel)
theorem dbX5_compare_36 : (decode dsX5_compare_36 0 = .ok (.istore 4, 2) ∧ okop dsX5_compare_36 0 = true) ∧ (decode dsX5_compare_36 2 = .ok (.iload 4, 2) ∧ okop dsX5_compare_36 2 = true) ∧ (decode dsX5_compare_36 4 = .ok (.ifCond .eq 26, 3) ∧ okop dsX5_compare_36 4 = true) ∧ (decode dsX5_compare_36 7 = .ok (.iload_n 3, 1) ∧ okop dsX5_compare_36 7 = true) ∧ (decode dsX5_compare_36 8 = .ok (.aload_n 0, 1) ∧ okop dsX5_compare_36 8 = true) ∧ (decode dsX5_compare_36 9 = .ok (.getfield 10, 3) ∧ okop dsX5_compare_36 9 = true) ∧ (decode dsX5_compare_36 12 = .ok (.if_icmp .ge 18, 3) ∧ okop dsX5_compare_36 12 = true) ∧ (decode dsX5_compare_36 15 = .ok (.aload_n 0, 1) ∧ okop dsX5_compare_36 15 = true) ∧ (decode dsX5_compare_36 16 = .ok (.iload_n 3, 1) ∧ okop dsX5_compare_36 16 = true) ∧ (decode dsX5_compare_36 17 = .ok (.putfield 10, 3) ∧ okop dsX5_compare_36 17 = true) := by decide +kernel
theorem dX5_compare_36 : decode cX5_compare 36 = .ok (.istore 4, 2) := dgq (p := 0) daX5_compare_36 dbX5_compare_36.1
theorem dX5_compare_38 : decode cX5_compare 38 = .ok (.iload 4, 2) := dgq (p := 2) daX5_compare_36 dbX5_compare_36.2.1
theorem dX5_compare_40 : decode cX5_compare 40 = .ok (.ifCond .eq 26, 3) := dgq (p := 4) daX5_compare_36 dbX5_compare_36.2.2.1
theorem dX5_compare_43 : decode cX5_compare 43 = .ok (.iload_n 3, 1) := dgq (p := 7) daX5_compare_36 dbX5_compare_36.2.2.2.1
theorem dX5_compare_44 : decode cX5_compare 44 = .ok (.aload_n 0, 1) := dgq (p := 8) daX5_compare_36 dbX5_compare_36.2.2.2.2.1
theorem dX5_compare_45 : decode cX5_compare 45 = .ok (.getfield 10, 3) := dgq (p := 9) daX5_compare_36 dbX5_compare_36.2.2.2.2.2.1
theorem dX5_compare_48 : decode cX5_compare 48 = .ok (.if_icmp .ge 18, 3) := dgq (p := 12) daX5_compare_36 dbX5_compare_36.2.2.2.2.2.2.1
theorem dX5_compare_51 : decode cX5_compare 51 = .ok (.aload_n 0, 1) := dgq (p := 15) daX5_compare_36 dbX5_compare_36.2.2.2.2.2.2.2.1
theorem dX5_compare_52 : decode cX5_compare 52 = .ok (.iload_n 3, 1) := dgq (p := 16) daX5_compare_36 dbX5_compare_36.2.2.2.2.2.2.2.2.1
theorem dX5_compare_53 : decode cX5_compare 53 = .ok (.putfield 10, 3) := dgq (p := 17) daX5_compare_36 dbX5_compare_36.2.2.2.2.2.2.2.2.2
def dsX5_compare_56 : ByteArray := ⟨#[42, 27, 181, 0, 37, 42, 28, 181, 0, 40, 177]⟩
theorem daX5_compare_56 : agB cX5_compare dsX5_compare_56 56 := agB_of (n := 11) (by decide +kernel)
theorem dbX5_compare_56 : (decode dsX5_compare_56 0 = .ok (.aload_n 0, 1) ∧ okop dsX5_compare_56 0 = true) ∧ (decode dsX5_compare_56 1 = .ok (.iload_n 1, 1) ∧ okop dsX5_compare_56 1 = true) ∧ (decode dsX5_compare_56 2 = .ok (.putfield 37, 3) ∧ okop dsX5_compare_56 2 = true) ∧ (decode dsX5_compare_56 5 = .ok (.aload_n 0, 1) ∧ okop dsX5_compare_56 5 = true) ∧ (decode dsX5_compare_56 6 = .ok (.iload_n 2, 1) ∧ okop dsX5_compare_56 6 = true) ∧ (decode dsX5_compare_56 7 = .ok (.putfield 40, 3) ∧ okop dsX5_compare_56 7 = true) ∧ (decode dsX5_compare_56 10 = .ok (.return_, 1) ∧ okop dsX5_compare_56 10 = true) := by decide +kernel
theorem dX5_compare_56 : decode cX5_compare 56 = .ok (.aload_n 0, 1) := dgq (p := 0) daX5_compare_56 dbX5_compare_56.1
theorem dX5_compare_57 : decode cX5_compare 57 = .ok (.iload_n 1, 1) := dgq (p := 1) daX5_compare_56 dbX5_compare_56.2.1
theorem dX5_compare_58 : decode cX5_compare 58 = .ok (.putfield 37, 3) := dgq (p := 2) daX5_compare_56 dbX5_compare_56.2.2.1
theorem dX5_compare_61 : decode cX5_compare 61 = .ok (.aload_n 0, 1) := dgq (p := 5) daX5_compare_56 dbX5_compare_56.2.2.2.1
theorem dX5_compare_62 : decode cX5_compare 62 = .ok (.iload_n 2, 1) := dgq (p := 6) daX5_compare_56 dbX5_compare_56.2.2.2.2.1
theorem dX5_compare_63 : decode cX5_compare 63 = .ok (.putfield 40, 3) := dgq (p := 7) daX5_compare_56 dbX5_compare_56.2.2.2.2.2.1
theorem dX5_compare_66 : decode cX5_compare 66 = .ok (.return_, 1) := dgq (p := 10) daX5_compare_56 dbX5_compare_56.2.2.2.2.2.2
theorem dX6_init_8 : decode cX6_init 8 = .ok (.newarray .int, 2) := by decide +kernel
theorem dX6_init_17 : decode cX6_init 17 = .ok (.newarray .int, 2) := by decide +kernel
def dsX6_init_0 : ByteArray := ⟨#[42, 183, 0, 3, 42, 17, 0, 200, 188, 10, 181, 0, 9, 42, 17, 0, 200, 188, 10, 181, 0, 15, 42, 17, 0, 200]⟩
theorem daX6_init_0 : agB cX6_init dsX6_init_0 0 := agB_of (n := 26) (by decide +kernel)
theorem dbX6_init_0 : (decode dsX6_init_0 0 = .ok (.aload_n 0, 1) ∧ okop dsX6_init_0 0 = true) ∧ (decode dsX6_init_0 1 = .ok (.invokespecial 3, 3) ∧ okop dsX6_init_0 1 = true) ∧ (decode dsX6_init_0 4 = .ok (.aload_n 0, 1) ∧ okop dsX6_init_0 4 = true) ∧ (decode dsX6_init_0 5 = .ok (.sipush 200, 3) ∧ okop dsX6_init_0 5 = true) ∧ (decode dsX6_init_0 10 = .ok (.putfield 9, 3) ∧ okop dsX6_init_0 10 = true) ∧ (decode dsX6_init_0 13 = .ok (.aload_n 0, 1) ∧ okop dsX6_init_0 13 = true) ∧ (decode dsX6_init_0 14 = .ok (.sipush 200, 3) ∧ okop dsX6_init_0 14 = true) ∧ (decode dsX6_init_0 19 = .ok (.putfield 15, 3) ∧ okop dsX6_init_0 19 = true) ∧ (decode dsX6_init_0 22 = .ok (.aload_n 0, 1) ∧ okop dsX6_init_0 22 = true) ∧ (decode dsX6_init_0 23 = .ok (.sipush 200, 3) ∧ okop dsX6_init_0 23 = true) := by decide +kernel
theorem dX6_init_0 : decode cX6_init 0 = .ok (.aload_n 0, 1) := dgq (p := 0) daX6_init_0 dbX6_init_0.1
theorem dX6_init_1 : decode cX6_init 1 = .ok (.invokespecial 3, 3) := dgq (p := 1) daX6_init_0 dbX6_init_0.2.1
theorem dX6_init_4 : decode cX6_init 4 = .ok (.aload_n 0, 1) := dgq (p := 4) daX6_init_0 dbX6_init_0.2.2.1
theorem dX6_init_5 : decode cX6_init 5 = .ok (.sipush 200, 3) := dgq (p := 5) daX6_init_0 dbX6_init_0.2.2.2.1
theorem dX6_init_10 : decode cX6_init 10 = .ok (.putfield 9, 3) := dgq (p := 10) daX6_init_0 dbX6_init_0.2.2.2.2.1
theorem dX6_init_13 : decode cX6_init 13 = .ok (.aload_n 0, 1) := dgq (p := 13) daX6_init_0 dbX6_init_0.2.2.2.2.2.1
theorem dX6_init_14 : decode cX6_init 14 = .ok (.sipush 200, 3) := dgq (p := 14) daX6_init_0 dbX6_init_0.2.2.2.2.2.2.1
theorem dX6_init_19 : decode cX6_init 19 = .ok (.putfield 15, 3) := dgq (p := 19) daX6_init_0 dbX6_init_0.2.2.2.2.2.2.2.1
theorem dX6_init_22 : decode cX6_init 22 = .ok (.aload_n 0, 1) := dgq (p := 22) daX6_init_0 dbX6_init_0.2.2.2.2.2.2.2.2.1
theorem dX6_init_23 : decode cX6_init 23 = .ok (.sipush 200, 3) := dgq (p := 23) daX6_init_0 dbX6_init_0.2.2.2.2.2.2.2.2.2
theorem dX6_init_26 : decode cX6_init 26 = .ok (.newarray .int, 2) := by decide +kernel
theorem dX6_init_35 : decode cX6_init 35 = .ok (.newarray .int, 2) := by decide +kernel
def dsX6_init_26 : ByteArray := ⟨#[188, 10, 181, 0, 18, 42, 17, 0, 200, 188, 10, 181, 0, 21, 42, 4, 181, 0, 24, 177]⟩
theorem daX6_init_26 : agB cX6_init dsX6_init_26 26 := agB_of (n := 20) (by decide +kernel)
theorem dbX6_init_26 : (decode dsX6_init_26 2 = .ok (.putfield 18, 3) ∧ okop dsX6_init_26 2 = true) ∧ (decode dsX6_init_26 5 = .ok (.aload_n 0, 1) ∧ okop dsX6_init_26 5 = true) ∧ (decode dsX6_init_26 6 = .ok (.sipush 200, 3) ∧ okop dsX6_init_26 6 = true) ∧ (decode dsX6_init_26 11 = .ok (.putfield 21, 3) ∧ okop dsX6_init_26 11 = true) ∧ (decode dsX6_init_26 14 = .ok (.aload_n 0, 1) ∧ okop dsX6_init_26 14 = true) ∧ (decode dsX6_init_26 15 = .ok (.iconst 1, 1) ∧ okop dsX6_init_26 15 = true) ∧ (decode dsX6_init_26 16 = .ok (.putfield 24, 3) ∧ okop dsX6_init_26 16 = true) ∧ (decode dsX6_init_26 19 = .ok (.return_, 1) ∧ okop dsX6_init_26 19 = true) := by decide +kernel
theorem dX6_init_28 : decode cX6_init 28 = .ok (.putfield 18, 3) := dgq (p := 2) daX6_init_26 dbX6_init_26.1
theorem dX6_init_31 : decode cX6_init 31 = .ok (.aload_n 0, 1) := dgq (p := 5) daX6_init_26 dbX6_init_26.2.1
theorem dX6_init_32 : decode cX6_init 32 = .ok (.sipush 200, 3) := dgq (p := 6) daX6_init_26 dbX6_init_26.2.2.1
theorem dX6_init_37 : decode cX6_init 37 = .ok (.putfield 21, 3) := dgq (p := 11) daX6_init_26 dbX6_init_26.2.2.2.1
theorem dX6_init_40 : decode cX6_init 40 = .ok (.aload_n 0, 1) := dgq (p := 14) daX6_init_26 dbX6_init_26.2.2.2.2.1
theorem dX6_init_41 : decode cX6_init 41 = .ok (.iconst 1, 1) := dgq (p := 15) daX6_init_26 dbX6_init_26.2.2.2.2.2.1
theorem dX6_init_42 : decode cX6_init 42 = .ok (.putfield 24, 3) := dgq (p := 16) daX6_init_26 dbX6_init_26.2.2.2.2.2.2.1
theorem dX6_init_45 : decode cX6_init 45 = .ok (.return_, 1) := dgq (p := 19) daX6_init_26 dbX6_init_26.2.2.2.2.2.2.2
set_option maxRecDepth 20000 in
theorem ggX6_take_X9_commonDivisor : GoodIn wsX6_take wsX9_commonDivisor := goodIn_ca (goodIn_q _ [16, 17, 7, 4, 8] rfl (by decide +kernel)) (goodIn_sub (fun _ h => List.mem_cons_of_mem _ (List.mem_append_left _ (List.mem_append_right _ h))) (by decide +kernel))
set_option maxRecDepth 20000 in
theorem gX6_take_X9_commonDivisor_n33 : GoodIn wsX6_take (wsX9_commonDivisor) := ggX6_take_X9_commonDivisor
set_option maxRecDepth 20000 in
theorem ggX6_take_X6_sortOut : GoodIn wsX6_take wsX6_sortOut := goodIn_ca (goodIn_ca (goodIn_ca (goodIn_q _ [22, 9, 6, 7, 4, 8, 2, 3, 5] rfl (by decide +kernel)) (goodIn_sub (fun _ h => (List.mem_cons_of_mem _ (List.mem_append_left _ (List.mem_append_left _ (List.mem_append_right _ h))))) tg_wsX60)) (goodIn_sub (fun _ h => List.mem_cons_of_mem _ (List.mem_append_left _ (List.mem_append_right _ h))) (by decide +kernel))) (goodIn_sub (fun _ h => List.mem_cons_of_mem _ (List.mem_append_right _ h)) (by decide +kernel))
set_option maxRecDepth 20000 in
theorem gX6_take_X6_sortOut : GoodIn wsX6_take (wsV RX6 45 RX6 yX6_sortOut wsX6_sortOut) := goodIn_app (goodIn_q _ [18, 19, 20, 21] rfl (by decide +kernel)) ggX6_take_X6_sortOut
def dsX6_take_0 : ByteArray := ⟨#[43, 180, 0, 28, 190, 44, 180, 0, 28, 190, 184, 0, 33, 62, 42, 4]⟩
theorem daX6_take_0 : agB cX6_take dsX6_take_0 0 := agB_of (n := 16) (by decide +kernel)
theorem dbX6_take_0 : (decode dsX6_take_0 0 = .ok (.aload_n 1, 1) ∧ okop dsX6_take_0 0 = true) ∧ (decode dsX6_take_0 1 = .ok (.getfield 28, 3) ∧ okop dsX6_take_0 1 = true) ∧ (decode dsX6_take_0 4 = .ok (.arraylength, 1) ∧ okop dsX6_take_0 4 = true) ∧ (decode dsX6_take_0 5 = .ok (.aload_n 2, 1) ∧ okop dsX6_take_0 5 = true) ∧ (decode dsX6_take_0 6 = .ok (.getfield 28, 3) ∧ okop dsX6_take_0 6 = true) ∧ (decode dsX6_take_0 9 = .ok (.arraylength, 1) ∧ okop dsX6_take_0 9 = true) ∧ (decode dsX6_take_0 10 = .ok (.invokestatic 33, 3) ∧ okop dsX6_take_0 10 = true) ∧ (decode dsX6_take_0 13 = .ok (.istore_n 3, 1) ∧ okop dsX6_take_0 13 = true) ∧ (decode dsX6_take_0 14 = .ok (.aload_n 0, 1) ∧ okop dsX6_take_0 14 = true) ∧ (decode dsX6_take_0 15 = .ok (.iconst 1, 1) ∧ okop dsX6_take_0 15 = true) := by decide +kernel
theorem dX6_take_0 : decode cX6_take 0 = .ok (.aload_n 1, 1) := dgq (p := 0) daX6_take_0 dbX6_take_0.1
theorem dX6_take_1 : decode cX6_take 1 = .ok (.getfield 28, 3) := dgq (p := 1) daX6_take_0 dbX6_take_0.2.1
theorem dX6_take_4 : decode cX6_take 4 = .ok (.arraylength, 1) := dgq (p := 4) daX6_take_0 dbX6_take_0.2.2.1
theorem dX6_take_5 : decode cX6_take 5 = .ok (.aload_n 2, 1) := dgq (p := 5) daX6_take_0 dbX6_take_0.2.2.2.1
theorem dX6_take_6 : decode cX6_take 6 = .ok (.getfield 28, 3) := dgq (p := 6) daX6_take_0 dbX6_take_0.2.2.2.2.1
theorem dX6_take_9 : decode cX6_take 9 = .ok (.arraylength, 1) := dgq (p := 9) daX6_take_0 dbX6_take_0.2.2.2.2.2.1
theorem dX6_take_10 : decode cX6_take 10 = .ok (.invokestatic 33, 3) := dgq (p := 10) daX6_take_0 dbX6_take_0.2.2.2.2.2.2.1
theorem dX6_take_13 : decode cX6_take 13 = .ok (.istore_n 3, 1) := dgq (p := 13) daX6_take_0 dbX6_take_0.2.2.2.2.2.2.2.1
theorem dX6_take_14 : decode cX6_take 14 = .ok (.aload_n 0, 1) := dgq (p := 14) daX6_take_0 dbX6_take_0.2.2.2.2.2.2.2.2.1
theorem dX6_take_15 : decode cX6_take 15 = .ok (.iconst 1, 1) := dgq (p := 15) daX6_take_0 dbX6_take_0.2.2.2.2.2.2.2.2.2
def dsX6_take_16 : ByteArray := ⟨#[29, 17, 0, 200, 184, 0, 37, 184, 0, 42, 181, 0, 24, 42, 43, 180, 0, 28, 42, 180, 0, 9]⟩
theorem daX6_take_16 : agB cX6_take dsX6_take_16 16 := agB_of (n := 22) (by decide +kernel)
theorem dbX6_take_16 : (decode dsX6_take_16 0 = .ok (.iload_n 3, 1) ∧ okop dsX6_take_16 0 = true) ∧ (decode dsX6_take_16 1 = .ok (.sipush 200, 3) ∧ okop dsX6_take_16 1 = true) ∧ (decode dsX6_take_16 4 = .ok (.invokestatic 37, 3) ∧ okop dsX6_take_16 4 = true) ∧ (decode dsX6_take_16 7 = .ok (.invokestatic 42, 3) ∧ okop dsX6_take_16 7 = true) ∧ (decode dsX6_take_16 10 = .ok (.putfield 24, 3) ∧ okop dsX6_take_16 10 = true) ∧ (decode dsX6_take_16 13 = .ok (.aload_n 0, 1) ∧ okop dsX6_take_16 13 = true) ∧ (decode dsX6_take_16 14 = .ok (.aload_n 1, 1) ∧ okop dsX6_take_16 14 = true) ∧ (decode dsX6_take_16 15 = .ok (.getfield 28, 3) ∧ okop dsX6_take_16 15 = true) ∧ (decode dsX6_take_16 18 = .ok (.aload_n 0, 1) ∧ okop dsX6_take_16 18 = true) ∧ (decode dsX6_take_16 19 = .ok (.getfield 9, 3) ∧ okop dsX6_take_16 19 = true) := by decide +kernel
theorem dX6_take_16 : decode cX6_take 16 = .ok (.iload_n 3, 1) := dgq (p := 0) daX6_take_16 dbX6_take_16.1
theorem dX6_take_17 : decode cX6_take 17 = .ok (.sipush 200, 3) := dgq (p := 1) daX6_take_16 dbX6_take_16.2.1
theorem dX6_take_20 : decode cX6_take 20 = .ok (.invokestatic 37, 3) := dgq (p := 4) daX6_take_16 dbX6_take_16.2.2.1
theorem dX6_take_23 : decode cX6_take 23 = .ok (.invokestatic 42, 3) := dgq (p := 7) daX6_take_16 dbX6_take_16.2.2.2.1
theorem dX6_take_26 : decode cX6_take 26 = .ok (.putfield 24, 3) := dgq (p := 10) daX6_take_16 dbX6_take_16.2.2.2.2.1
theorem dX6_take_29 : decode cX6_take 29 = .ok (.aload_n 0, 1) := dgq (p := 13) daX6_take_16 dbX6_take_16.2.2.2.2.2.1
theorem dX6_take_30 : decode cX6_take 30 = .ok (.aload_n 1, 1) := dgq (p := 14) daX6_take_16 dbX6_take_16.2.2.2.2.2.2.1
theorem dX6_take_31 : decode cX6_take 31 = .ok (.getfield 28, 3) := dgq (p := 15) daX6_take_16 dbX6_take_16.2.2.2.2.2.2.2.1
theorem dX6_take_34 : decode cX6_take 34 = .ok (.aload_n 0, 1) := dgq (p := 18) daX6_take_16 dbX6_take_16.2.2.2.2.2.2.2.2.1
theorem dX6_take_35 : decode cX6_take 35 = .ok (.getfield 9, 3) := dgq (p := 19) daX6_take_16 dbX6_take_16.2.2.2.2.2.2.2.2.2
def dsX6_take_38 : ByteArray := ⟨#[42, 180, 0, 15, 182, 0, 45, 42, 44, 180, 0, 28, 42, 180, 0, 18, 42, 180, 0, 21]⟩
theorem daX6_take_38 : agB cX6_take dsX6_take_38 38 := agB_of (n := 20) (by decide +kernel)
theorem dbX6_take_38 : (decode dsX6_take_38 0 = .ok (.aload_n 0, 1) ∧ okop dsX6_take_38 0 = true) ∧ (decode dsX6_take_38 1 = .ok (.getfield 15, 3) ∧ okop dsX6_take_38 1 = true) ∧ (decode dsX6_take_38 4 = .ok (.invokevirtual 45, 3) ∧ okop dsX6_take_38 4 = true) ∧ (decode dsX6_take_38 7 = .ok (.aload_n 0, 1) ∧ okop dsX6_take_38 7 = true) ∧ (decode dsX6_take_38 8 = .ok (.aload_n 2, 1) ∧ okop dsX6_take_38 8 = true) ∧ (decode dsX6_take_38 9 = .ok (.getfield 28, 3) ∧ okop dsX6_take_38 9 = true) ∧ (decode dsX6_take_38 12 = .ok (.aload_n 0, 1) ∧ okop dsX6_take_38 12 = true) ∧ (decode dsX6_take_38 13 = .ok (.getfield 18, 3) ∧ okop dsX6_take_38 13 = true) ∧ (decode dsX6_take_38 16 = .ok (.aload_n 0, 1) ∧ okop dsX6_take_38 16 = true) ∧ (decode dsX6_take_38 17 = .ok (.getfield 21, 3) ∧ okop dsX6_take_38 17 = true) := by decide +kernel
theorem dX6_take_38 : decode cX6_take 38 = .ok (.aload_n 0, 1) := dgq (p := 0) daX6_take_38 dbX6_take_38.1
theorem dX6_take_39 : decode cX6_take 39 = .ok (.getfield 15, 3) := dgq (p := 1) daX6_take_38 dbX6_take_38.2.1
theorem dX6_take_42 : decode cX6_take 42 = .ok (.invokevirtual 45, 3) := dgq (p := 4) daX6_take_38 dbX6_take_38.2.2.1
theorem dX6_take_45 : decode cX6_take 45 = .ok (.aload_n 0, 1) := dgq (p := 7) daX6_take_38 dbX6_take_38.2.2.2.1
theorem dX6_take_46 : decode cX6_take 46 = .ok (.aload_n 2, 1) := dgq (p := 8) daX6_take_38 dbX6_take_38.2.2.2.2.1
theorem dX6_take_47 : decode cX6_take 47 = .ok (.getfield 28, 3) := dgq (p := 9) daX6_take_38 dbX6_take_38.2.2.2.2.2.1
theorem dX6_take_50 : decode cX6_take 50 = .ok (.aload_n 0, 1) := dgq (p := 12) daX6_take_38 dbX6_take_38.2.2.2.2.2.2.1
theorem dX6_take_51 : decode cX6_take 51 = .ok (.getfield 18, 3) := dgq (p := 13) daX6_take_38 dbX6_take_38.2.2.2.2.2.2.2.1
theorem dX6_take_54 : decode cX6_take 54 = .ok (.aload_n 0, 1) := dgq (p := 16) daX6_take_38 dbX6_take_38.2.2.2.2.2.2.2.2.1
theorem dX6_take_55 : decode cX6_take 55 = .ok (.getfield 21, 3) := dgq (p := 17) daX6_take_38 dbX6_take_38.2.2.2.2.2.2.2.2.2
theorem dX6_take_58 : decode cX6_take 58 = .ok (.invokevirtual 45, 3) := by decide +kernel
theorem dX6_take_61 : decode cX6_take 61 = .ok (.return_, 1) := by decide +kernel
def dsX6_sortOut_0 : ByteArray := ⟨#[3, 54, 4, 21, 4, 43, 190, 162, 0, 88, 21, 4, 42, 180, 0, 24, 112]⟩
theorem daX6_sortOut_0 : agB cX6_sortOut dsX6_sortOut_0 0 := agB_of (n := 17) (by decide +kernel)
theorem dbX6_sortOut_0 : (decode dsX6_sortOut_0 0 = .ok (.iconst 0, 1) ∧ okop dsX6_sortOut_0 0 = true) ∧ (decode dsX6_sortOut_0 1 = .ok (.istore 4, 2) ∧ okop dsX6_sortOut_0 1 = true) ∧ (decode dsX6_sortOut_0 3 = .ok (.iload 4, 2) ∧ okop dsX6_sortOut_0 3 = true) ∧ (decode dsX6_sortOut_0 5 = .ok (.aload_n 1, 1) ∧ okop dsX6_sortOut_0 5 = true) ∧ (decode dsX6_sortOut_0 6 = .ok (.arraylength, 1) ∧ okop dsX6_sortOut_0 6 = true) ∧ (decode dsX6_sortOut_0 7 = .ok (.if_icmp .ge 88, 3) ∧ okop dsX6_sortOut_0 7 = true) ∧ (decode dsX6_sortOut_0 10 = .ok (.iload 4, 2) ∧ okop dsX6_sortOut_0 10 = true) ∧ (decode dsX6_sortOut_0 12 = .ok (.aload_n 0, 1) ∧ okop dsX6_sortOut_0 12 = true) ∧ (decode dsX6_sortOut_0 13 = .ok (.getfield 24, 3) ∧ okop dsX6_sortOut_0 13 = true) ∧ (decode dsX6_sortOut_0 16 = .ok (.irem, 1) ∧ okop dsX6_sortOut_0 16 = true) := by decide +kernel
theorem dX6_sortOut_0 : decode cX6_sortOut 0 = .ok (.iconst 0, 1) := dgq (p := 0) daX6_sortOut_0 dbX6_sortOut_0.1
theorem dX6_sortOut_1 : decode cX6_sortOut 1 = .ok (.istore 4, 2) := dgq (p := 1) daX6_sortOut_0 dbX6_sortOut_0.2.1
theorem dX6_sortOut_3 : decode cX6_sortOut 3 = .ok (.iload 4, 2) := dgq (p := 3) daX6_sortOut_0 dbX6_sortOut_0.2.2.1
theorem dX6_sortOut_5 : decode cX6_sortOut 5 = .ok (.aload_n 1, 1) := dgq (p := 5) daX6_sortOut_0 dbX6_sortOut_0.2.2.2.1
theorem dX6_sortOut_6 : decode cX6_sortOut 6 = .ok (.arraylength, 1) := dgq (p := 6) daX6_sortOut_0 dbX6_sortOut_0.2.2.2.2.1
theorem dX6_sortOut_7 : decode cX6_sortOut 7 = .ok (.if_icmp .ge 88, 3) := dgq (p := 7) daX6_sortOut_0 dbX6_sortOut_0.2.2.2.2.2.1
theorem dX6_sortOut_10 : decode cX6_sortOut 10 = .ok (.iload 4, 2) := dgq (p := 10) daX6_sortOut_0 dbX6_sortOut_0.2.2.2.2.2.2.1
theorem dX6_sortOut_12 : decode cX6_sortOut 12 = .ok (.aload_n 0, 1) := dgq (p := 12) daX6_sortOut_0 dbX6_sortOut_0.2.2.2.2.2.2.2.1
theorem dX6_sortOut_13 : decode cX6_sortOut 13 = .ok (.getfield 24, 3) := dgq (p := 13) daX6_sortOut_0 dbX6_sortOut_0.2.2.2.2.2.2.2.2.1
theorem dX6_sortOut_16 : decode cX6_sortOut 16 = .ok (.irem, 1) := dgq (p := 16) daX6_sortOut_0 dbX6_sortOut_0.2.2.2.2.2.2.2.2.2
def dsX6_sortOut_17 : ByteArray := ⟨#[54, 5, 21, 4, 42, 180, 0, 24, 162, 0, 7, 4, 167, 0, 4, 3, 54, 6, 44]⟩
theorem daX6_sortOut_17 : agB cX6_sortOut dsX6_sortOut_17 17 := agB_of (n := 19) (by decide +kernel)
theorem dbX6_sortOut_17 : (decode dsX6_sortOut_17 0 = .ok (.istore 5, 2) ∧ okop dsX6_sortOut_17 0 = true) ∧ (decode dsX6_sortOut_17 2 = .ok (.iload 4, 2) ∧ okop dsX6_sortOut_17 2 = true) ∧ (decode dsX6_sortOut_17 4 = .ok (.aload_n 0, 1) ∧ okop dsX6_sortOut_17 4 = true) ∧ (decode dsX6_sortOut_17 5 = .ok (.getfield 24, 3) ∧ okop dsX6_sortOut_17 5 = true) ∧ (decode dsX6_sortOut_17 8 = .ok (.if_icmp .ge 7, 3) ∧ okop dsX6_sortOut_17 8 = true) ∧ (decode dsX6_sortOut_17 11 = .ok (.iconst 1, 1) ∧ okop dsX6_sortOut_17 11 = true) ∧ (decode dsX6_sortOut_17 12 = .ok (.goto 4, 3) ∧ okop dsX6_sortOut_17 12 = true) ∧ (decode dsX6_sortOut_17 15 = .ok (.iconst 0, 1) ∧ okop dsX6_sortOut_17 15 = true) ∧ (decode dsX6_sortOut_17 16 = .ok (.istore 6, 2) ∧ okop dsX6_sortOut_17 16 = true) ∧ (decode dsX6_sortOut_17 18 = .ok (.aload_n 2, 1) ∧ okop dsX6_sortOut_17 18 = true) := by decide +kernel
theorem dX6_sortOut_17 : decode cX6_sortOut 17 = .ok (.istore 5, 2) := dgq (p := 0) daX6_sortOut_17 dbX6_sortOut_17.1
theorem dX6_sortOut_19 : decode cX6_sortOut 19 = .ok (.iload 4, 2) := dgq (p := 2) daX6_sortOut_17 dbX6_sortOut_17.2.1
theorem dX6_sortOut_21 : decode cX6_sortOut 21 = .ok (.aload_n 0, 1) := dgq (p := 4) daX6_sortOut_17 dbX6_sortOut_17.2.2.1
theorem dX6_sortOut_22 : decode cX6_sortOut 22 = .ok (.getfield 24, 3) := dgq (p := 5) daX6_sortOut_17 dbX6_sortOut_17.2.2.2.1
theorem dX6_sortOut_25 : decode cX6_sortOut 25 = .ok (.if_icmp .ge 7, 3) := dgq (p := 8) daX6_sortOut_17 dbX6_sortOut_17.2.2.2.2.1
theorem dX6_sortOut_28 : decode cX6_sortOut 28 = .ok (.iconst 1, 1) := dgq (p := 11) daX6_sortOut_17 dbX6_sortOut_17.2.2.2.2.2.1
theorem dX6_sortOut_29 : decode cX6_sortOut 29 = .ok (.goto 4, 3) := dgq (p := 12) daX6_sortOut_17 dbX6_sortOut_17.2.2.2.2.2.2.1
theorem dX6_sortOut_32 : decode cX6_sortOut 32 = .ok (.iconst 0, 1) := dgq (p := 15) daX6_sortOut_17 dbX6_sortOut_17.2.2.2.2.2.2.2.1
theorem dX6_sortOut_33 : decode cX6_sortOut 33 = .ok (.istore 6, 2) := dgq (p := 16) daX6_sortOut_17 dbX6_sortOut_17.2.2.2.2.2.2.2.2.1
theorem dX6_sortOut_35 : decode cX6_sortOut 35 = .ok (.aload_n 2, 1) := dgq (p := 18) daX6_sortOut_17 dbX6_sortOut_17.2.2.2.2.2.2.2.2.2
def dsX6_sortOut_36 : ByteArray := ⟨#[21, 5, 21, 6, 153, 0, 10, 43, 21, 4, 46, 167, 0, 14, 44, 21, 5, 46]⟩
theorem daX6_sortOut_36 : agB cX6_sortOut dsX6_sortOut_36 36 := agB_of (n := 18) (by decide +kernel)
theorem dbX6_sortOut_36 : (decode dsX6_sortOut_36 0 = .ok (.iload 5, 2) ∧ okop dsX6_sortOut_36 0 = true) ∧ (decode dsX6_sortOut_36 2 = .ok (.iload 6, 2) ∧ okop dsX6_sortOut_36 2 = true) ∧ (decode dsX6_sortOut_36 4 = .ok (.ifCond .eq 10, 3) ∧ okop dsX6_sortOut_36 4 = true) ∧ (decode dsX6_sortOut_36 7 = .ok (.aload_n 1, 1) ∧ okop dsX6_sortOut_36 7 = true) ∧ (decode dsX6_sortOut_36 8 = .ok (.iload 4, 2) ∧ okop dsX6_sortOut_36 8 = true) ∧ (decode dsX6_sortOut_36 10 = .ok (.iaload, 1) ∧ okop dsX6_sortOut_36 10 = true) ∧ (decode dsX6_sortOut_36 11 = .ok (.goto 14, 3) ∧ okop dsX6_sortOut_36 11 = true) ∧ (decode dsX6_sortOut_36 14 = .ok (.aload_n 2, 1) ∧ okop dsX6_sortOut_36 14 = true) ∧ (decode dsX6_sortOut_36 15 = .ok (.iload 5, 2) ∧ okop dsX6_sortOut_36 15 = true) ∧ (decode dsX6_sortOut_36 17 = .ok (.iaload, 1) ∧ okop dsX6_sortOut_36 17 = true) := by decide +kernel
theorem dX6_sortOut_36 : decode cX6_sortOut 36 = .ok (.iload 5, 2) := dgq (p := 0) daX6_sortOut_36 dbX6_sortOut_36.1
theorem dX6_sortOut_38 : decode cX6_sortOut 38 = .ok (.iload 6, 2) := dgq (p := 2) daX6_sortOut_36 dbX6_sortOut_36.2.1
theorem dX6_sortOut_40 : decode cX6_sortOut 40 = .ok (.ifCond .eq 10, 3) := dgq (p := 4) daX6_sortOut_36 dbX6_sortOut_36.2.2.1
theorem dX6_sortOut_43 : decode cX6_sortOut 43 = .ok (.aload_n 1, 1) := dgq (p := 7) daX6_sortOut_36 dbX6_sortOut_36.2.2.2.1
theorem dX6_sortOut_44 : decode cX6_sortOut 44 = .ok (.iload 4, 2) := dgq (p := 8) daX6_sortOut_36 dbX6_sortOut_36.2.2.2.2.1
theorem dX6_sortOut_46 : decode cX6_sortOut 46 = .ok (.iaload, 1) := dgq (p := 10) daX6_sortOut_36 dbX6_sortOut_36.2.2.2.2.2.1
theorem dX6_sortOut_47 : decode cX6_sortOut 47 = .ok (.goto 14, 3) := dgq (p := 11) daX6_sortOut_36 dbX6_sortOut_36.2.2.2.2.2.2.1
theorem dX6_sortOut_50 : decode cX6_sortOut 50 = .ok (.aload_n 2, 1) := dgq (p := 14) daX6_sortOut_36 dbX6_sortOut_36.2.2.2.2.2.2.2.1
theorem dX6_sortOut_51 : decode cX6_sortOut 51 = .ok (.iload 5, 2) := dgq (p := 15) daX6_sortOut_36 dbX6_sortOut_36.2.2.2.2.2.2.2.2.1
theorem dX6_sortOut_53 : decode cX6_sortOut 53 = .ok (.iaload, 1) := dgq (p := 17) daX6_sortOut_36 dbX6_sortOut_36.2.2.2.2.2.2.2.2.2
def dsX6_sortOut_54 : ByteArray := ⟨#[43, 21, 4, 46, 184, 0, 42, 79, 45, 21, 5, 21, 6, 153, 0, 10, 43]⟩
theorem daX6_sortOut_54 : agB cX6_sortOut dsX6_sortOut_54 54 := agB_of (n := 17) (by decide +kernel)
theorem dbX6_sortOut_54 : (decode dsX6_sortOut_54 0 = .ok (.aload_n 1, 1) ∧ okop dsX6_sortOut_54 0 = true) ∧ (decode dsX6_sortOut_54 1 = .ok (.iload 4, 2) ∧ okop dsX6_sortOut_54 1 = true) ∧ (decode dsX6_sortOut_54 3 = .ok (.iaload, 1) ∧ okop dsX6_sortOut_54 3 = true) ∧ (decode dsX6_sortOut_54 4 = .ok (.invokestatic 42, 3) ∧ okop dsX6_sortOut_54 4 = true) ∧ (decode dsX6_sortOut_54 7 = .ok (.iastore, 1) ∧ okop dsX6_sortOut_54 7 = true) ∧ (decode dsX6_sortOut_54 8 = .ok (.aload_n 3, 1) ∧ okop dsX6_sortOut_54 8 = true) ∧ (decode dsX6_sortOut_54 9 = .ok (.iload 5, 2) ∧ okop dsX6_sortOut_54 9 = true) ∧ (decode dsX6_sortOut_54 11 = .ok (.iload 6, 2) ∧ okop dsX6_sortOut_54 11 = true) ∧ (decode dsX6_sortOut_54 13 = .ok (.ifCond .eq 10, 3) ∧ okop dsX6_sortOut_54 13 = true) ∧ (decode dsX6_sortOut_54 16 = .ok (.aload_n 1, 1) ∧ okop dsX6_sortOut_54 16 = true) := by decide +kernel
theorem dX6_sortOut_54 : decode cX6_sortOut 54 = .ok (.aload_n 1, 1) := dgq (p := 0) daX6_sortOut_54 dbX6_sortOut_54.1
theorem dX6_sortOut_55 : decode cX6_sortOut 55 = .ok (.iload 4, 2) := dgq (p := 1) daX6_sortOut_54 dbX6_sortOut_54.2.1
theorem dX6_sortOut_57 : decode cX6_sortOut 57 = .ok (.iaload, 1) := dgq (p := 3) daX6_sortOut_54 dbX6_sortOut_54.2.2.1
theorem dX6_sortOut_58 : decode cX6_sortOut 58 = .ok (.invokestatic 42, 3) := dgq (p := 4) daX6_sortOut_54 dbX6_sortOut_54.2.2.2.1
theorem dX6_sortOut_61 : decode cX6_sortOut 61 = .ok (.iastore, 1) := dgq (p := 7) daX6_sortOut_54 dbX6_sortOut_54.2.2.2.2.1
theorem dX6_sortOut_62 : decode cX6_sortOut 62 = .ok (.aload_n 3, 1) := dgq (p := 8) daX6_sortOut_54 dbX6_sortOut_54.2.2.2.2.2.1
theorem dX6_sortOut_63 : decode cX6_sortOut 63 = .ok (.iload 5, 2) := dgq (p := 9) daX6_sortOut_54 dbX6_sortOut_54.2.2.2.2.2.2.1
theorem dX6_sortOut_65 : decode cX6_sortOut 65 = .ok (.iload 6, 2) := dgq (p := 11) daX6_sortOut_54 dbX6_sortOut_54.2.2.2.2.2.2.2.1
theorem dX6_sortOut_67 : decode cX6_sortOut 67 = .ok (.ifCond .eq 10, 3) := dgq (p := 13) daX6_sortOut_54 dbX6_sortOut_54.2.2.2.2.2.2.2.2.1
theorem dX6_sortOut_70 : decode cX6_sortOut 70 = .ok (.aload_n 1, 1) := dgq (p := 16) daX6_sortOut_54 dbX6_sortOut_54.2.2.2.2.2.2.2.2.2
def dsX6_sortOut_71 : ByteArray := ⟨#[21, 4, 46, 167, 0, 14, 45, 21, 5, 46, 43, 21, 4, 46, 184, 0, 37]⟩
theorem daX6_sortOut_71 : agB cX6_sortOut dsX6_sortOut_71 71 := agB_of (n := 17) (by decide +kernel)
theorem dbX6_sortOut_71 : (decode dsX6_sortOut_71 0 = .ok (.iload 4, 2) ∧ okop dsX6_sortOut_71 0 = true) ∧ (decode dsX6_sortOut_71 2 = .ok (.iaload, 1) ∧ okop dsX6_sortOut_71 2 = true) ∧ (decode dsX6_sortOut_71 3 = .ok (.goto 14, 3) ∧ okop dsX6_sortOut_71 3 = true) ∧ (decode dsX6_sortOut_71 6 = .ok (.aload_n 3, 1) ∧ okop dsX6_sortOut_71 6 = true) ∧ (decode dsX6_sortOut_71 7 = .ok (.iload 5, 2) ∧ okop dsX6_sortOut_71 7 = true) ∧ (decode dsX6_sortOut_71 9 = .ok (.iaload, 1) ∧ okop dsX6_sortOut_71 9 = true) ∧ (decode dsX6_sortOut_71 10 = .ok (.aload_n 1, 1) ∧ okop dsX6_sortOut_71 10 = true) ∧ (decode dsX6_sortOut_71 11 = .ok (.iload 4, 2) ∧ okop dsX6_sortOut_71 11 = true) ∧ (decode dsX6_sortOut_71 13 = .ok (.iaload, 1) ∧ okop dsX6_sortOut_71 13 = true) ∧ (decode dsX6_sortOut_71 14 = .ok (.invokestatic 37, 3) ∧ okop dsX6_sortOut_71 14 = true) := by decide +kernel
theorem dX6_sortOut_71 : decode cX6_sortOut 71 = .ok (.iload 4, 2) := dgq (p := 0) daX6_sortOut_71 dbX6_sortOut_71.1
theorem dX6_sortOut_73 : decode cX6_sortOut 73 = .ok (.iaload, 1) := dgq (p := 2) daX6_sortOut_71 dbX6_sortOut_71.2.1
theorem dX6_sortOut_74 : decode cX6_sortOut 74 = .ok (.goto 14, 3) := dgq (p := 3) daX6_sortOut_71 dbX6_sortOut_71.2.2.1
theorem dX6_sortOut_77 : decode cX6_sortOut 77 = .ok (.aload_n 3, 1) := dgq (p := 6) daX6_sortOut_71 dbX6_sortOut_71.2.2.2.1
theorem dX6_sortOut_78 : decode cX6_sortOut 78 = .ok (.iload 5, 2) := dgq (p := 7) daX6_sortOut_71 dbX6_sortOut_71.2.2.2.2.1
theorem dX6_sortOut_80 : decode cX6_sortOut 80 = .ok (.iaload, 1) := dgq (p := 9) daX6_sortOut_71 dbX6_sortOut_71.2.2.2.2.2.1
theorem dX6_sortOut_81 : decode cX6_sortOut 81 = .ok (.aload_n 1, 1) := dgq (p := 10) daX6_sortOut_71 dbX6_sortOut_71.2.2.2.2.2.2.1
theorem dX6_sortOut_82 : decode cX6_sortOut 82 = .ok (.iload 4, 2) := dgq (p := 11) daX6_sortOut_71 dbX6_sortOut_71.2.2.2.2.2.2.2.1
theorem dX6_sortOut_84 : decode cX6_sortOut 84 = .ok (.iaload, 1) := dgq (p := 13) daX6_sortOut_71 dbX6_sortOut_71.2.2.2.2.2.2.2.2.1
theorem dX6_sortOut_85 : decode cX6_sortOut 85 = .ok (.invokestatic 37, 3) := dgq (p := 14) daX6_sortOut_71 dbX6_sortOut_71.2.2.2.2.2.2.2.2.2
def dsX6_sortOut_88 : ByteArray := ⟨#[79, 132, 4, 1, 167, 255, 167, 177]⟩
theorem daX6_sortOut_88 : agB cX6_sortOut dsX6_sortOut_88 88 := agB_of (n := 8) (by decide +kernel)
theorem dbX6_sortOut_88 : (decode dsX6_sortOut_88 0 = .ok (.iastore, 1) ∧ okop dsX6_sortOut_88 0 = true) ∧ (decode dsX6_sortOut_88 1 = .ok (.iinc 4 1, 3) ∧ okop dsX6_sortOut_88 1 = true) ∧ (decode dsX6_sortOut_88 4 = .ok (.goto (-89), 3) ∧ okop dsX6_sortOut_88 4 = true) ∧ (decode dsX6_sortOut_88 7 = .ok (.return_, 1) ∧ okop dsX6_sortOut_88 7 = true) := by decide +kernel
theorem dX6_sortOut_88 : decode cX6_sortOut 88 = .ok (.iastore, 1) := dgq (p := 0) daX6_sortOut_88 dbX6_sortOut_88.1
theorem dX6_sortOut_89 : decode cX6_sortOut 89 = .ok (.iinc 4 1, 3) := dgq (p := 1) daX6_sortOut_88 dbX6_sortOut_88.2.1
theorem dX6_sortOut_92 : decode cX6_sortOut 92 = .ok (.goto (-89), 3) := dgq (p := 4) daX6_sortOut_88 dbX6_sortOut_88.2.2.1
theorem dX6_sortOut_95 : decode cX6_sortOut 95 = .ok (.return_, 1) := dgq (p := 7) daX6_sortOut_88 dbX6_sortOut_88.2.2.2
set_option maxRecDepth 20000 in
theorem ggX6_peakFrom_J9_floorMod_7cf53 : GoodIn wsX6_peakFrom wsJ9_floorMod_7cf53 := goodIn_q _ [18] rfl (by decide +kernel)
set_option maxRecDepth 20000 in
theorem gX6_peakFrom_J9_floorMod_7cf53 : GoodIn wsX6_peakFrom (va_wsS RX6 51 yJ9_floorMod_7cf53 wsJ9_floorMod_7cf53) := goodIn_app (goodIn_q _ [15, 16, 17] rfl (by decide +kernel)) ggX6_peakFrom_J9_floorMod_7cf53
def dsX6_peakFrom_0 : ByteArray := ⟨#[18, 49, 61, 18, 50, 62, 27, 42, 180, 0, 24, 184, 0, 51, 54, 4, 3]⟩
theorem daX6_peakFrom_0 : agB cX6_peakFrom dsX6_peakFrom_0 0 := agB_of (n := 17) (by decide +kernel)
theorem dbX6_peakFrom_0 : (decode dsX6_peakFrom_0 0 = .ok (.ldc 49, 2) ∧ okop dsX6_peakFrom_0 0 = true) ∧ (decode dsX6_peakFrom_0 2 = .ok (.istore_n 2, 1) ∧ okop dsX6_peakFrom_0 2 = true) ∧ (decode dsX6_peakFrom_0 3 = .ok (.ldc 50, 2) ∧ okop dsX6_peakFrom_0 3 = true) ∧ (decode dsX6_peakFrom_0 5 = .ok (.istore_n 3, 1) ∧ okop dsX6_peakFrom_0 5 = true) ∧ (decode dsX6_peakFrom_0 6 = .ok (.iload_n 1, 1) ∧ okop dsX6_peakFrom_0 6 = true) ∧ (decode dsX6_peakFrom_0 7 = .ok (.aload_n 0, 1) ∧ okop dsX6_peakFrom_0 7 = true) ∧ (decode dsX6_peakFrom_0 8 = .ok (.getfield 24, 3) ∧ okop dsX6_peakFrom_0 8 = true) ∧ (decode dsX6_peakFrom_0 11 = .ok (.invokestatic 51, 3) ∧ okop dsX6_peakFrom_0 11 = true) ∧ (decode dsX6_peakFrom_0 14 = .ok (.istore 4, 2) ∧ okop dsX6_peakFrom_0 14 = true) ∧ (decode dsX6_peakFrom_0 16 = .ok (.iconst 0, 1) ∧ okop dsX6_peakFrom_0 16 = true) := by decide +kernel
theorem dX6_peakFrom_0 : decode cX6_peakFrom 0 = .ok (.ldc 49, 2) := dgq (p := 0) daX6_peakFrom_0 dbX6_peakFrom_0.1
theorem dX6_peakFrom_2 : decode cX6_peakFrom 2 = .ok (.istore_n 2, 1) := dgq (p := 2) daX6_peakFrom_0 dbX6_peakFrom_0.2.1
theorem dX6_peakFrom_3 : decode cX6_peakFrom 3 = .ok (.ldc 50, 2) := dgq (p := 3) daX6_peakFrom_0 dbX6_peakFrom_0.2.2.1
theorem dX6_peakFrom_5 : decode cX6_peakFrom 5 = .ok (.istore_n 3, 1) := dgq (p := 5) daX6_peakFrom_0 dbX6_peakFrom_0.2.2.2.1
theorem dX6_peakFrom_6 : decode cX6_peakFrom 6 = .ok (.iload_n 1, 1) := dgq (p := 6) daX6_peakFrom_0 dbX6_peakFrom_0.2.2.2.2.1
theorem dX6_peakFrom_7 : decode cX6_peakFrom 7 = .ok (.aload_n 0, 1) := dgq (p := 7) daX6_peakFrom_0 dbX6_peakFrom_0.2.2.2.2.2.1
theorem dX6_peakFrom_8 : decode cX6_peakFrom 8 = .ok (.getfield 24, 3) := dgq (p := 8) daX6_peakFrom_0 dbX6_peakFrom_0.2.2.2.2.2.2.1
theorem dX6_peakFrom_11 : decode cX6_peakFrom 11 = .ok (.invokestatic 51, 3) := dgq (p := 11) daX6_peakFrom_0 dbX6_peakFrom_0.2.2.2.2.2.2.2.1
theorem dX6_peakFrom_14 : decode cX6_peakFrom 14 = .ok (.istore 4, 2) := dgq (p := 14) daX6_peakFrom_0 dbX6_peakFrom_0.2.2.2.2.2.2.2.2.1
theorem dX6_peakFrom_16 : decode cX6_peakFrom 16 = .ok (.iconst 0, 1) := dgq (p := 16) daX6_peakFrom_0 dbX6_peakFrom_0.2.2.2.2.2.2.2.2.2
def dsX6_peakFrom_17 : ByteArray := ⟨#[54, 5, 21, 5, 42, 180, 0, 24, 162, 0, 70, 28, 42, 180, 0, 9, 21, 5, 46]⟩
theorem daX6_peakFrom_17 : agB cX6_peakFrom dsX6_peakFrom_17 17 := agB_of (n := 19) (by decide +kernel)
theorem dbX6_peakFrom_17 : (decode dsX6_peakFrom_17 0 = .ok (.istore 5, 2) ∧ okop dsX6_peakFrom_17 0 = true) ∧ (decode dsX6_peakFrom_17 2 = .ok (.iload 5, 2) ∧ okop dsX6_peakFrom_17 2 = true) ∧ (decode dsX6_peakFrom_17 4 = .ok (.aload_n 0, 1) ∧ okop dsX6_peakFrom_17 4 = true) ∧ (decode dsX6_peakFrom_17 5 = .ok (.getfield 24, 3) ∧ okop dsX6_peakFrom_17 5 = true) ∧ (decode dsX6_peakFrom_17 8 = .ok (.if_icmp .ge 70, 3) ∧ okop dsX6_peakFrom_17 8 = true) ∧ (decode dsX6_peakFrom_17 11 = .ok (.iload_n 2, 1) ∧ okop dsX6_peakFrom_17 11 = true) ∧ (decode dsX6_peakFrom_17 12 = .ok (.aload_n 0, 1) ∧ okop dsX6_peakFrom_17 12 = true) ∧ (decode dsX6_peakFrom_17 13 = .ok (.getfield 9, 3) ∧ okop dsX6_peakFrom_17 13 = true) ∧ (decode dsX6_peakFrom_17 16 = .ok (.iload 5, 2) ∧ okop dsX6_peakFrom_17 16 = true) ∧ (decode dsX6_peakFrom_17 18 = .ok (.iaload, 1) ∧ okop dsX6_peakFrom_17 18 = true) := by decide +kernel
theorem dX6_peakFrom_17 : decode cX6_peakFrom 17 = .ok (.istore 5, 2) := dgq (p := 0) daX6_peakFrom_17 dbX6_peakFrom_17.1
theorem dX6_peakFrom_19 : decode cX6_peakFrom 19 = .ok (.iload 5, 2) := dgq (p := 2) daX6_peakFrom_17 dbX6_peakFrom_17.2.1
theorem dX6_peakFrom_21 : decode cX6_peakFrom 21 = .ok (.aload_n 0, 1) := dgq (p := 4) daX6_peakFrom_17 dbX6_peakFrom_17.2.2.1
theorem dX6_peakFrom_22 : decode cX6_peakFrom 22 = .ok (.getfield 24, 3) := dgq (p := 5) daX6_peakFrom_17 dbX6_peakFrom_17.2.2.2.1
theorem dX6_peakFrom_25 : decode cX6_peakFrom 25 = .ok (.if_icmp .ge 70, 3) := dgq (p := 8) daX6_peakFrom_17 dbX6_peakFrom_17.2.2.2.2.1
theorem dX6_peakFrom_28 : decode cX6_peakFrom 28 = .ok (.iload_n 2, 1) := dgq (p := 11) daX6_peakFrom_17 dbX6_peakFrom_17.2.2.2.2.2.1
theorem dX6_peakFrom_29 : decode cX6_peakFrom 29 = .ok (.aload_n 0, 1) := dgq (p := 12) daX6_peakFrom_17 dbX6_peakFrom_17.2.2.2.2.2.2.1
theorem dX6_peakFrom_30 : decode cX6_peakFrom 30 = .ok (.getfield 9, 3) := dgq (p := 13) daX6_peakFrom_17 dbX6_peakFrom_17.2.2.2.2.2.2.2.1
theorem dX6_peakFrom_33 : decode cX6_peakFrom 33 = .ok (.iload 5, 2) := dgq (p := 16) daX6_peakFrom_17 dbX6_peakFrom_17.2.2.2.2.2.2.2.2.1
theorem dX6_peakFrom_35 : decode cX6_peakFrom 35 = .ok (.iaload, 1) := dgq (p := 18) daX6_peakFrom_17 dbX6_peakFrom_17.2.2.2.2.2.2.2.2.2
def dsX6_peakFrom_36 : ByteArray := ⟨#[42, 180, 0, 18, 21, 4, 46, 96, 184, 0, 42, 61, 29, 42, 180, 0, 15]⟩
theorem daX6_peakFrom_36 : agB cX6_peakFrom dsX6_peakFrom_36 36 := agB_of (n := 17) (by decide +kernel)
theorem dbX6_peakFrom_36 : (decode dsX6_peakFrom_36 0 = .ok (.aload_n 0, 1) ∧ okop dsX6_peakFrom_36 0 = true) ∧ (decode dsX6_peakFrom_36 1 = .ok (.getfield 18, 3) ∧ okop dsX6_peakFrom_36 1 = true) ∧ (decode dsX6_peakFrom_36 4 = .ok (.iload 4, 2) ∧ okop dsX6_peakFrom_36 4 = true) ∧ (decode dsX6_peakFrom_36 6 = .ok (.iaload, 1) ∧ okop dsX6_peakFrom_36 6 = true) ∧ (decode dsX6_peakFrom_36 7 = .ok (.iadd, 1) ∧ okop dsX6_peakFrom_36 7 = true) ∧ (decode dsX6_peakFrom_36 8 = .ok (.invokestatic 42, 3) ∧ okop dsX6_peakFrom_36 8 = true) ∧ (decode dsX6_peakFrom_36 11 = .ok (.istore_n 2, 1) ∧ okop dsX6_peakFrom_36 11 = true) ∧ (decode dsX6_peakFrom_36 12 = .ok (.iload_n 3, 1) ∧ okop dsX6_peakFrom_36 12 = true) ∧ (decode dsX6_peakFrom_36 13 = .ok (.aload_n 0, 1) ∧ okop dsX6_peakFrom_36 13 = true) ∧ (decode dsX6_peakFrom_36 14 = .ok (.getfield 15, 3) ∧ okop dsX6_peakFrom_36 14 = true) := by decide +kernel
theorem dX6_peakFrom_36 : decode cX6_peakFrom 36 = .ok (.aload_n 0, 1) := dgq (p := 0) daX6_peakFrom_36 dbX6_peakFrom_36.1
theorem dX6_peakFrom_37 : decode cX6_peakFrom 37 = .ok (.getfield 18, 3) := dgq (p := 1) daX6_peakFrom_36 dbX6_peakFrom_36.2.1
theorem dX6_peakFrom_40 : decode cX6_peakFrom 40 = .ok (.iload 4, 2) := dgq (p := 4) daX6_peakFrom_36 dbX6_peakFrom_36.2.2.1
theorem dX6_peakFrom_42 : decode cX6_peakFrom 42 = .ok (.iaload, 1) := dgq (p := 6) daX6_peakFrom_36 dbX6_peakFrom_36.2.2.2.1
theorem dX6_peakFrom_43 : decode cX6_peakFrom 43 = .ok (.iadd, 1) := dgq (p := 7) daX6_peakFrom_36 dbX6_peakFrom_36.2.2.2.2.1
theorem dX6_peakFrom_44 : decode cX6_peakFrom 44 = .ok (.invokestatic 42, 3) := dgq (p := 8) daX6_peakFrom_36 dbX6_peakFrom_36.2.2.2.2.2.1
theorem dX6_peakFrom_47 : decode cX6_peakFrom 47 = .ok (.istore_n 2, 1) := dgq (p := 11) daX6_peakFrom_36 dbX6_peakFrom_36.2.2.2.2.2.2.1
theorem dX6_peakFrom_48 : decode cX6_peakFrom 48 = .ok (.iload_n 3, 1) := dgq (p := 12) daX6_peakFrom_36 dbX6_peakFrom_36.2.2.2.2.2.2.2.1
theorem dX6_peakFrom_49 : decode cX6_peakFrom 49 = .ok (.aload_n 0, 1) := dgq (p := 13) daX6_peakFrom_36 dbX6_peakFrom_36.2.2.2.2.2.2.2.2.1
theorem dX6_peakFrom_50 : decode cX6_peakFrom 50 = .ok (.getfield 15, 3) := dgq (p := 14) daX6_peakFrom_36 dbX6_peakFrom_36.2.2.2.2.2.2.2.2.2
def dsX6_peakFrom_53 : ByteArray := ⟨#[21, 5, 46, 42, 180, 0, 21, 21, 4, 46, 96, 184, 0, 37, 62, 21, 4]⟩
theorem daX6_peakFrom_53 : agB cX6_peakFrom dsX6_peakFrom_53 53 := agB_of (n := 17) (by decide +kernel)
theorem dbX6_peakFrom_53 : (decode dsX6_peakFrom_53 0 = .ok (.iload 5, 2) ∧ okop dsX6_peakFrom_53 0 = true) ∧ (decode dsX6_peakFrom_53 2 = .ok (.iaload, 1) ∧ okop dsX6_peakFrom_53 2 = true) ∧ (decode dsX6_peakFrom_53 3 = .ok (.aload_n 0, 1) ∧ okop dsX6_peakFrom_53 3 = true) ∧ (decode dsX6_peakFrom_53 4 = .ok (.getfield 21, 3) ∧ okop dsX6_peakFrom_53 4 = true) ∧ (decode dsX6_peakFrom_53 7 = .ok (.iload 4, 2) ∧ okop dsX6_peakFrom_53 7 = true) ∧ (decode dsX6_peakFrom_53 9 = .ok (.iaload, 1) ∧ okop dsX6_peakFrom_53 9 = true) ∧ (decode dsX6_peakFrom_53 10 = .ok (.iadd, 1) ∧ okop dsX6_peakFrom_53 10 = true) ∧ (decode dsX6_peakFrom_53 11 = .ok (.invokestatic 37, 3) ∧ okop dsX6_peakFrom_53 11 = true) ∧ (decode dsX6_peakFrom_53 14 = .ok (.istore_n 3, 1) ∧ okop dsX6_peakFrom_53 14 = true) ∧ (decode dsX6_peakFrom_53 15 = .ok (.iload 4, 2) ∧ okop dsX6_peakFrom_53 15 = true) := by decide +kernel
theorem dX6_peakFrom_53 : decode cX6_peakFrom 53 = .ok (.iload 5, 2) := dgq (p := 0) daX6_peakFrom_53 dbX6_peakFrom_53.1
theorem dX6_peakFrom_55 : decode cX6_peakFrom 55 = .ok (.iaload, 1) := dgq (p := 2) daX6_peakFrom_53 dbX6_peakFrom_53.2.1
theorem dX6_peakFrom_56 : decode cX6_peakFrom 56 = .ok (.aload_n 0, 1) := dgq (p := 3) daX6_peakFrom_53 dbX6_peakFrom_53.2.2.1
theorem dX6_peakFrom_57 : decode cX6_peakFrom 57 = .ok (.getfield 21, 3) := dgq (p := 4) daX6_peakFrom_53 dbX6_peakFrom_53.2.2.2.1
theorem dX6_peakFrom_60 : decode cX6_peakFrom 60 = .ok (.iload 4, 2) := dgq (p := 7) daX6_peakFrom_53 dbX6_peakFrom_53.2.2.2.2.1
theorem dX6_peakFrom_62 : decode cX6_peakFrom 62 = .ok (.iaload, 1) := dgq (p := 9) daX6_peakFrom_53 dbX6_peakFrom_53.2.2.2.2.2.1
theorem dX6_peakFrom_63 : decode cX6_peakFrom 63 = .ok (.iadd, 1) := dgq (p := 10) daX6_peakFrom_53 dbX6_peakFrom_53.2.2.2.2.2.2.1
theorem dX6_peakFrom_64 : decode cX6_peakFrom 64 = .ok (.invokestatic 37, 3) := dgq (p := 11) daX6_peakFrom_53 dbX6_peakFrom_53.2.2.2.2.2.2.2.1
theorem dX6_peakFrom_67 : decode cX6_peakFrom 67 = .ok (.istore_n 3, 1) := dgq (p := 14) daX6_peakFrom_53 dbX6_peakFrom_53.2.2.2.2.2.2.2.2.1
theorem dX6_peakFrom_68 : decode cX6_peakFrom 68 = .ok (.iload 4, 2) := dgq (p := 15) daX6_peakFrom_53 dbX6_peakFrom_53.2.2.2.2.2.2.2.2.2
def dsX6_peakFrom_70 : ByteArray := ⟨#[4, 96, 42, 180, 0, 24, 162, 0, 10, 21, 4, 4, 96, 167, 0, 4, 3]⟩
theorem daX6_peakFrom_70 : agB cX6_peakFrom dsX6_peakFrom_70 70 := agB_of (n := 17) (by decide +kernel)
theorem dbX6_peakFrom_70 : (decode dsX6_peakFrom_70 0 = .ok (.iconst 1, 1) ∧ okop dsX6_peakFrom_70 0 = true) ∧ (decode dsX6_peakFrom_70 1 = .ok (.iadd, 1) ∧ okop dsX6_peakFrom_70 1 = true) ∧ (decode dsX6_peakFrom_70 2 = .ok (.aload_n 0, 1) ∧ okop dsX6_peakFrom_70 2 = true) ∧ (decode dsX6_peakFrom_70 3 = .ok (.getfield 24, 3) ∧ okop dsX6_peakFrom_70 3 = true) ∧ (decode dsX6_peakFrom_70 6 = .ok (.if_icmp .ge 10, 3) ∧ okop dsX6_peakFrom_70 6 = true) ∧ (decode dsX6_peakFrom_70 9 = .ok (.iload 4, 2) ∧ okop dsX6_peakFrom_70 9 = true) ∧ (decode dsX6_peakFrom_70 11 = .ok (.iconst 1, 1) ∧ okop dsX6_peakFrom_70 11 = true) ∧ (decode dsX6_peakFrom_70 12 = .ok (.iadd, 1) ∧ okop dsX6_peakFrom_70 12 = true) ∧ (decode dsX6_peakFrom_70 13 = .ok (.goto 4, 3) ∧ okop dsX6_peakFrom_70 13 = true) ∧ (decode dsX6_peakFrom_70 16 = .ok (.iconst 0, 1) ∧ okop dsX6_peakFrom_70 16 = true) := by decide +kernel
theorem dX6_peakFrom_70 : decode cX6_peakFrom 70 = .ok (.iconst 1, 1) := dgq (p := 0) daX6_peakFrom_70 dbX6_peakFrom_70.1
theorem dX6_peakFrom_71 : decode cX6_peakFrom 71 = .ok (.iadd, 1) := dgq (p := 1) daX6_peakFrom_70 dbX6_peakFrom_70.2.1
theorem dX6_peakFrom_72 : decode cX6_peakFrom 72 = .ok (.aload_n 0, 1) := dgq (p := 2) daX6_peakFrom_70 dbX6_peakFrom_70.2.2.1
theorem dX6_peakFrom_73 : decode cX6_peakFrom 73 = .ok (.getfield 24, 3) := dgq (p := 3) daX6_peakFrom_70 dbX6_peakFrom_70.2.2.2.1
theorem dX6_peakFrom_76 : decode cX6_peakFrom 76 = .ok (.if_icmp .ge 10, 3) := dgq (p := 6) daX6_peakFrom_70 dbX6_peakFrom_70.2.2.2.2.1
theorem dX6_peakFrom_79 : decode cX6_peakFrom 79 = .ok (.iload 4, 2) := dgq (p := 9) daX6_peakFrom_70 dbX6_peakFrom_70.2.2.2.2.2.1
theorem dX6_peakFrom_81 : decode cX6_peakFrom 81 = .ok (.iconst 1, 1) := dgq (p := 11) daX6_peakFrom_70 dbX6_peakFrom_70.2.2.2.2.2.2.1
theorem dX6_peakFrom_82 : decode cX6_peakFrom 82 = .ok (.iadd, 1) := dgq (p := 12) daX6_peakFrom_70 dbX6_peakFrom_70.2.2.2.2.2.2.2.1
theorem dX6_peakFrom_83 : decode cX6_peakFrom 83 = .ok (.goto 4, 3) := dgq (p := 13) daX6_peakFrom_70 dbX6_peakFrom_70.2.2.2.2.2.2.2.2.1
theorem dX6_peakFrom_86 : decode cX6_peakFrom 86 = .ok (.iconst 0, 1) := dgq (p := 16) daX6_peakFrom_70 dbX6_peakFrom_70.2.2.2.2.2.2.2.2.2
def dsX6_peakFrom_87 : ByteArray := ⟨#[54, 4, 132, 5, 1, 167, 255, 183, 28, 29, 100, 172]⟩
theorem daX6_peakFrom_87 : agB cX6_peakFrom dsX6_peakFrom_87 87 := agB_of (n := 12) (by decide +kernel)
theorem dbX6_peakFrom_87 : (decode dsX6_peakFrom_87 0 = .ok (.istore 4, 2) ∧ okop dsX6_peakFrom_87 0 = true) ∧ (decode dsX6_peakFrom_87 2 = .ok (.iinc 5 1, 3) ∧ okop dsX6_peakFrom_87 2 = true) ∧ (decode dsX6_peakFrom_87 5 = .ok (.goto (-73), 3) ∧ okop dsX6_peakFrom_87 5 = true) ∧ (decode dsX6_peakFrom_87 8 = .ok (.iload_n 2, 1) ∧ okop dsX6_peakFrom_87 8 = true) ∧ (decode dsX6_peakFrom_87 9 = .ok (.iload_n 3, 1) ∧ okop dsX6_peakFrom_87 9 = true) ∧ (decode dsX6_peakFrom_87 10 = .ok (.isub, 1) ∧ okop dsX6_peakFrom_87 10 = true) ∧ (decode dsX6_peakFrom_87 11 = .ok (.ireturn, 1) ∧ okop dsX6_peakFrom_87 11 = true) := by decide +kernel
theorem dX6_peakFrom_87 : decode cX6_peakFrom 87 = .ok (.istore 4, 2) := dgq (p := 0) daX6_peakFrom_87 dbX6_peakFrom_87.1
theorem dX6_peakFrom_89 : decode cX6_peakFrom 89 = .ok (.iinc 5 1, 3) := dgq (p := 2) daX6_peakFrom_87 dbX6_peakFrom_87.2.1
theorem dX6_peakFrom_92 : decode cX6_peakFrom 92 = .ok (.goto (-73), 3) := dgq (p := 5) daX6_peakFrom_87 dbX6_peakFrom_87.2.2.1
theorem dX6_peakFrom_95 : decode cX6_peakFrom 95 = .ok (.iload_n 2, 1) := dgq (p := 8) daX6_peakFrom_87 dbX6_peakFrom_87.2.2.2.1
theorem dX6_peakFrom_96 : decode cX6_peakFrom 96 = .ok (.iload_n 3, 1) := dgq (p := 9) daX6_peakFrom_87 dbX6_peakFrom_87.2.2.2.2.1
theorem dX6_peakFrom_97 : decode cX6_peakFrom 97 = .ok (.isub, 1) := dgq (p := 10) daX6_peakFrom_87 dbX6_peakFrom_87.2.2.2.2.2.1
theorem dX6_peakFrom_98 : decode cX6_peakFrom 98 = .ok (.ireturn, 1) := dgq (p := 11) daX6_peakFrom_87 dbX6_peakFrom_87.2.2.2.2.2.2
set_option maxRecDepth 20000 in
theorem ggX6_quietStart_X6_peakFrom : GoodIn wsX6_quietStart wsX6_peakFrom := goodIn_ca (goodIn_ca (goodIn_q _ [6, 7, 8, 1, 9, 10, 11, 12, 13, 14, 15, 16, 17, 18, 19, 20, 21, 22, 23] rfl (by decide +kernel)) (goodIn_sub (fun _ h => (List.mem_cons_of_mem _ (List.mem_append_left _ (List.mem_append_right _ h)))) tg_wsX60)) (goodIn_sub (fun _ h => List.mem_cons_of_mem _ (List.mem_append_right _ h)) (by decide +kernel))
set_option maxRecDepth 20000 in
theorem gX6_quietStart_X6_peakFrom : GoodIn wsX6_quietStart (wsV RX6 54 RX6 yX6_peakFrom wsX6_peakFrom) := goodIn_app (goodIn_q _ [2, 3, 4, 5] rfl (by decide +kernel)) ggX6_quietStart_X6_peakFrom
def dsX6_quietStart_0 : ByteArray := ⟨#[3, 60, 42, 3, 182, 0, 54, 61, 4, 62, 29, 42]⟩
theorem daX6_quietStart_0 : agB cX6_quietStart dsX6_quietStart_0 0 := agB_of (n := 12) (by decide +kernel)
theorem dbX6_quietStart_0 : (decode dsX6_quietStart_0 0 = .ok (.iconst 0, 1) ∧ okop dsX6_quietStart_0 0 = true) ∧ (decode dsX6_quietStart_0 1 = .ok (.istore_n 1, 1) ∧ okop dsX6_quietStart_0 1 = true) ∧ (decode dsX6_quietStart_0 2 = .ok (.aload_n 0, 1) ∧ okop dsX6_quietStart_0 2 = true) ∧ (decode dsX6_quietStart_0 3 = .ok (.iconst 0, 1) ∧ okop dsX6_quietStart_0 3 = true) ∧ (decode dsX6_quietStart_0 4 = .ok (.invokevirtual 54, 3) ∧ okop dsX6_quietStart_0 4 = true) ∧ (decode dsX6_quietStart_0 7 = .ok (.istore_n 2, 1) ∧ okop dsX6_quietStart_0 7 = true) ∧ (decode dsX6_quietStart_0 8 = .ok (.iconst 1, 1) ∧ okop dsX6_quietStart_0 8 = true) ∧ (decode dsX6_quietStart_0 9 = .ok (.istore_n 3, 1) ∧ okop dsX6_quietStart_0 9 = true) ∧ (decode dsX6_quietStart_0 10 = .ok (.iload_n 3, 1) ∧ okop dsX6_quietStart_0 10 = true) ∧ (decode dsX6_quietStart_0 11 = .ok (.aload_n 0, 1) ∧ okop dsX6_quietStart_0 11 = true) := by decide +kernel
theorem dX6_quietStart_0 : decode cX6_quietStart 0 = .ok (.iconst 0, 1) := dgq (p := 0) daX6_quietStart_0 dbX6_quietStart_0.1
theorem dX6_quietStart_1 : decode cX6_quietStart 1 = .ok (.istore_n 1, 1) := dgq (p := 1) daX6_quietStart_0 dbX6_quietStart_0.2.1
theorem dX6_quietStart_2 : decode cX6_quietStart 2 = .ok (.aload_n 0, 1) := dgq (p := 2) daX6_quietStart_0 dbX6_quietStart_0.2.2.1
theorem dX6_quietStart_3 : decode cX6_quietStart 3 = .ok (.iconst 0, 1) := dgq (p := 3) daX6_quietStart_0 dbX6_quietStart_0.2.2.2.1
theorem dX6_quietStart_4 : decode cX6_quietStart 4 = .ok (.invokevirtual 54, 3) := dgq (p := 4) daX6_quietStart_0 dbX6_quietStart_0.2.2.2.2.1
theorem dX6_quietStart_7 : decode cX6_quietStart 7 = .ok (.istore_n 2, 1) := dgq (p := 7) daX6_quietStart_0 dbX6_quietStart_0.2.2.2.2.2.1
theorem dX6_quietStart_8 : decode cX6_quietStart 8 = .ok (.iconst 1, 1) := dgq (p := 8) daX6_quietStart_0 dbX6_quietStart_0.2.2.2.2.2.2.1
theorem dX6_quietStart_9 : decode cX6_quietStart 9 = .ok (.istore_n 3, 1) := dgq (p := 9) daX6_quietStart_0 dbX6_quietStart_0.2.2.2.2.2.2.2.1
theorem dX6_quietStart_10 : decode cX6_quietStart 10 = .ok (.iload_n 3, 1) := dgq (p := 10) daX6_quietStart_0 dbX6_quietStart_0.2.2.2.2.2.2.2.2.1
theorem dX6_quietStart_11 : decode cX6_quietStart 11 = .ok (.aload_n 0, 1) := dgq (p := 11) daX6_quietStart_0 dbX6_quietStart_0.2.2.2.2.2.2.2.2.2
def dsX6_quietStart_12 : ByteArray := ⟨#[180, 0, 24, 162, 0, 27, 42, 29, 182, 0, 54, 54, 4]⟩
theorem daX6_quietStart_12 : agB cX6_quietStart dsX6_quietStart_12 12 := agB_of (n := 13) (by decide +kernel)
theorem dbX6_quietStart_12 : (decode dsX6_quietStart_12 0 = .ok (.getfield 24, 3) ∧ okop dsX6_quietStart_12 0 = true) ∧ (decode dsX6_quietStart_12 3 = .ok (.if_icmp .ge 27, 3) ∧ okop dsX6_quietStart_12 3 = true) ∧ (decode dsX6_quietStart_12 6 = .ok (.aload_n 0, 1) ∧ okop dsX6_quietStart_12 6 = true) ∧ (decode dsX6_quietStart_12 7 = .ok (.iload_n 3, 1) ∧ okop dsX6_quietStart_12 7 = true) ∧ (decode dsX6_quietStart_12 8 = .ok (.invokevirtual 54, 3) ∧ okop dsX6_quietStart_12 8 = true) ∧ (decode dsX6_quietStart_12 11 = .ok (.istore 4, 2) ∧ okop dsX6_quietStart_12 11 = true) := by decide +kernel
theorem dX6_quietStart_12 : decode cX6_quietStart 12 = .ok (.getfield 24, 3) := dgq (p := 0) daX6_quietStart_12 dbX6_quietStart_12.1
theorem dX6_quietStart_15 : decode cX6_quietStart 15 = .ok (.if_icmp .ge 27, 3) := dgq (p := 3) daX6_quietStart_12 dbX6_quietStart_12.2.1
theorem dX6_quietStart_18 : decode cX6_quietStart 18 = .ok (.aload_n 0, 1) := dgq (p := 6) daX6_quietStart_12 dbX6_quietStart_12.2.2.1
theorem dX6_quietStart_19 : decode cX6_quietStart 19 = .ok (.iload_n 3, 1) := dgq (p := 7) daX6_quietStart_12 dbX6_quietStart_12.2.2.2.1
theorem dX6_quietStart_20 : decode cX6_quietStart 20 = .ok (.invokevirtual 54, 3) := dgq (p := 8) daX6_quietStart_12 dbX6_quietStart_12.2.2.2.2.1
theorem dX6_quietStart_23 : decode cX6_quietStart 23 = .ok (.istore 4, 2) := dgq (p := 11) daX6_quietStart_12 dbX6_quietStart_12.2.2.2.2.2
