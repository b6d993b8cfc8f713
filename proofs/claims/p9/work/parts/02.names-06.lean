def dsX2_bearsTorque_68 : ByteArray := ⟨#[109, 184, 0, 72, 55, 8, 42, 180, 0, 116, 154, 0, 27, 22, 6, 20, 0, 149, 148, 157, 0, 16, 22, 8, 20, 0, 151, 148, 157, 0, 7, 4, 167, 0, 4, 3, 172, 42, 180, 0, 116, 42, 180, 0, 18, 16, 6, 108]⟩
theorem daX2_bearsTorque_68 : agB cX2_bearsTorque dsX2_bearsTorque_68 68 := agB_of (n := 48) (by decide +kernel)
theorem dbX2_bearsTorque_68 : (decode dsX2_bearsTorque_68 0 = .ok (.ldiv, 1) ∧ okop dsX2_bearsTorque_68 0 = true) ∧ (decode dsX2_bearsTorque_68 1 = .ok (.invokestatic 72, 3) ∧ okop dsX2_bearsTorque_68 1 = true) ∧ (decode dsX2_bearsTorque_68 4 = .ok (.lstore 8, 2) ∧ okop dsX2_bearsTorque_68 4 = true) ∧ (decode dsX2_bearsTorque_68 6 = .ok (.aload_n 0, 1) ∧ okop dsX2_bearsTorque_68 6 = true) ∧ (decode dsX2_bearsTorque_68 7 = .ok (.getfield 116, 3) ∧ okop dsX2_bearsTorque_68 7 = true) ∧ (decode dsX2_bearsTorque_68 10 = .ok (.ifCond .ne 27, 3) ∧ okop dsX2_bearsTorque_68 10 = true) ∧ (decode dsX2_bearsTorque_68 13 = .ok (.lload 6, 2) ∧ okop dsX2_bearsTorque_68 13 = true) ∧ (decode dsX2_bearsTorque_68 15 = .ok (.ldc2_w 149, 3) ∧ okop dsX2_bearsTorque_68 15 = true) ∧ (decode dsX2_bearsTorque_68 18 = .ok (.lcmp, 1) ∧ okop dsX2_bearsTorque_68 18 = true) ∧ (decode dsX2_bearsTorque_68 19 = .ok (.ifCond .gt 16, 3) ∧ okop dsX2_bearsTorque_68 19 = true) ∧ (decode dsX2_bearsTorque_68 22 = .ok (.lload 8, 2) ∧ okop dsX2_bearsTorque_68 22 = true) ∧ (decode dsX2_bearsTorque_68 24 = .ok (.ldc2_w 151, 3) ∧ okop dsX2_bearsTorque_68 24 = true) ∧ (decode dsX2_bearsTorque_68 27 = .ok (.lcmp, 1) ∧ okop dsX2_bearsTorque_68 27 = true) ∧ (decode dsX2_bearsTorque_68 28 = .ok (.ifCond .gt 7, 3) ∧ okop dsX2_bearsTorque_68 28 = true) ∧ (decode dsX2_bearsTorque_68 31 = .ok (.iconst 1, 1) ∧ okop dsX2_bearsTorque_68 31 = true) ∧ (decode dsX2_bearsTorque_68 32 = .ok (.goto 4, 3) ∧ okop dsX2_bearsTorque_68 32 = true) ∧ (decode dsX2_bearsTorque_68 35 = .ok (.iconst 0, 1) ∧ okop dsX2_bearsTorque_68 35 = true) ∧ (decode dsX2_bearsTorque_68 36 = .ok (.ireturn, 1) ∧ okop dsX2_bearsTorque_68 36 = true) ∧ (decode dsX2_bearsTorque_68 37 = .ok (.aload_n 0, 1) ∧ okop dsX2_bearsTorque_68 37 = true) ∧ (decode dsX2_bearsTorque_68 38 = .ok (.getfield 116, 3) ∧ okop dsX2_bearsTorque_68 38 = true) ∧ (decode dsX2_bearsTorque_68 41 = .ok (.aload_n 0, 1) ∧ okop dsX2_bearsTorque_68 41 = true) ∧ (decode dsX2_bearsTorque_68 42 = .ok (.getfield 18, 3) ∧ okop dsX2_bearsTorque_68 42 = true) ∧ (decode dsX2_bearsTorque_68 45 = .ok (.bipush 6, 2) ∧ okop dsX2_bearsTorque_68 45 = true) ∧ (decode dsX2_bearsTorque_68 47 = .ok (.idiv, 1) ∧ okop dsX2_bearsTorque_68 47 = true) := by decide +kernel
theorem dX2_bearsTorque_68 : decode cX2_bearsTorque 68 = .ok (.ldiv, 1) := dgq (p := 0) daX2_bearsTorque_68 dbX2_bearsTorque_68.1
theorem dX2_bearsTorque_69 : decode cX2_bearsTorque 69 = .ok (.invokestatic 72, 3) := dgq (p := 1) daX2_bearsTorque_68 dbX2_bearsTorque_68.2.1
theorem dX2_bearsTorque_72 : decode cX2_bearsTorque 72 = .ok (.lstore 8, 2) := dgq (p := 4) daX2_bearsTorque_68 dbX2_bearsTorque_68.2.2.1
theorem dX2_bearsTorque_74 : decode cX2_bearsTorque 74 = .ok (.aload_n 0, 1) := dgq (p := 6) daX2_bearsTorque_68 dbX2_bearsTorque_68.2.2.2.1
theorem dX2_bearsTorque_75 : decode cX2_bearsTorque 75 = .ok (.getfield 116, 3) := dgq (p := 7) daX2_bearsTorque_68 dbX2_bearsTorque_68.2.2.2.2.1
theorem dX2_bearsTorque_78 : decode cX2_bearsTorque 78 = .ok (.ifCond .ne 27, 3) := dgq (p := 10) daX2_bearsTorque_68 dbX2_bearsTorque_68.2.2.2.2.2.1
theorem dX2_bearsTorque_81 : decode cX2_bearsTorque 81 = .ok (.lload 6, 2) := dgq (p := 13) daX2_bearsTorque_68 dbX2_bearsTorque_68.2.2.2.2.2.2.1
theorem dX2_bearsTorque_83 : decode cX2_bearsTorque 83 = .ok (.ldc2_w 149, 3) := dgq (p := 15) daX2_bearsTorque_68 dbX2_bearsTorque_68.2.2.2.2.2.2.2.1
theorem dX2_bearsTorque_86 : decode cX2_bearsTorque 86 = .ok (.lcmp, 1) := dgq (p := 18) daX2_bearsTorque_68 dbX2_bearsTorque_68.2.2.2.2.2.2.2.2.1
theorem dX2_bearsTorque_87 : decode cX2_bearsTorque 87 = .ok (.ifCond .gt 16, 3) := dgq (p := 19) daX2_bearsTorque_68 dbX2_bearsTorque_68.2.2.2.2.2.2.2.2.2.1
theorem dX2_bearsTorque_90 : decode cX2_bearsTorque 90 = .ok (.lload 8, 2) := dgq (p := 22) daX2_bearsTorque_68 dbX2_bearsTorque_68.2.2.2.2.2.2.2.2.2.2.1
theorem dX2_bearsTorque_92 : decode cX2_bearsTorque 92 = .ok (.ldc2_w 151, 3) := dgq (p := 24) daX2_bearsTorque_68 dbX2_bearsTorque_68.2.2.2.2.2.2.2.2.2.2.2.1
theorem dX2_bearsTorque_95 : decode cX2_bearsTorque 95 = .ok (.lcmp, 1) := dgq (p := 27) daX2_bearsTorque_68 dbX2_bearsTorque_68.2.2.2.2.2.2.2.2.2.2.2.2.1
theorem dX2_bearsTorque_96 : decode cX2_bearsTorque 96 = .ok (.ifCond .gt 7, 3) := dgq (p := 28) daX2_bearsTorque_68 dbX2_bearsTorque_68.2.2.2.2.2.2.2.2.2.2.2.2.2.1
theorem dX2_bearsTorque_99 : decode cX2_bearsTorque 99 = .ok (.iconst 1, 1) := dgq (p := 31) daX2_bearsTorque_68 dbX2_bearsTorque_68.2.2.2.2.2.2.2.2.2.2.2.2.2.2.1
theorem dX2_bearsTorque_100 : decode cX2_bearsTorque 100 = .ok (.goto 4, 3) := dgq (p := 32) daX2_bearsTorque_68 dbX2_bearsTorque_68.2.2.2.2.2.2.2.2.2.2.2.2.2.2.2.1
theorem dX2_bearsTorque_103 : decode cX2_bearsTorque 103 = .ok (.iconst 0, 1) := dgq (p := 35) daX2_bearsTorque_68 dbX2_bearsTorque_68.2.2.2.2.2.2.2.2.2.2.2.2.2.2.2.2.1
theorem dX2_bearsTorque_104 : decode cX2_bearsTorque 104 = .ok (.ireturn, 1) := dgq (p := 36) daX2_bearsTorque_68 dbX2_bearsTorque_68.2.2.2.2.2.2.2.2.2.2.2.2.2.2.2.2.2.1
theorem dX2_bearsTorque_105 : decode cX2_bearsTorque 105 = .ok (.aload_n 0, 1) := dgq (p := 37) daX2_bearsTorque_68 dbX2_bearsTorque_68.2.2.2.2.2.2.2.2.2.2.2.2.2.2.2.2.2.2.1
theorem dX2_bearsTorque_106 : decode cX2_bearsTorque 106 = .ok (.getfield 116, 3) := dgq (p := 38) daX2_bearsTorque_68 dbX2_bearsTorque_68.2.2.2.2.2.2.2.2.2.2.2.2.2.2.2.2.2.2.2.1
theorem dX2_bearsTorque_109 : decode cX2_bearsTorque 109 = .ok (.aload_n 0, 1) := dgq (p := 41) daX2_bearsTorque_68 dbX2_bearsTorque_68.2.2.2.2.2.2.2.2.2.2.2.2.2.2.2.2.2.2.2.2.1
theorem dX2_bearsTorque_110 : decode cX2_bearsTorque 110 = .ok (.getfield 18, 3) := dgq (p := 42) daX2_bearsTorque_68 dbX2_bearsTorque_68.2.2.2.2.2.2.2.2.2.2.2.2.2.2.2.2.2.2.2.2.2.1
theorem dX2_bearsTorque_113 : decode cX2_bearsTorque 113 = .ok (.bipush 6, 2) := dgq (p := 45) daX2_bearsTorque_68 dbX2_bearsTorque_68.2.2.2.2.2.2.2.2.2.2.2.2.2.2.2.2.2.2.2.2.2.2.1
theorem dX2_bearsTorque_115 : decode cX2_bearsTorque 115 = .ok (.idiv, 1) := dgq (p := 47) daX2_bearsTorque_68 dbX2_bearsTorque_68.2.2.2.2.2.2.2.2.2.2.2.2.2.2.2.2.2.2.2.2.2.2.2
def dsX2_bearsTorque_116 : ByteArray := ⟨#[162, 0, 27, 22, 6, 20, 0, 153, 148, 157, 0, 16, 22, 8, 20, 0, 155, 148, 157, 0, 7, 4, 167, 0, 4, 3, 172, 22, 6, 20, 0, 157, 148, 157, 0, 16, 22, 8, 20, 0, 159, 148, 157, 0, 7, 4, 167, 0, 4, 3]⟩
theorem daX2_bearsTorque_116 : agB cX2_bearsTorque dsX2_bearsTorque_116 116 := agB_of (n := 50) (by decide +kernel)
theorem dbX2_bearsTorque_116 : (decode dsX2_bearsTorque_116 0 = .ok (.if_icmp .ge 27, 3) ∧ okop dsX2_bearsTorque_116 0 = true) ∧ (decode dsX2_bearsTorque_116 3 = .ok (.lload 6, 2) ∧ okop dsX2_bearsTorque_116 3 = true) ∧ (decode dsX2_bearsTorque_116 5 = .ok (.ldc2_w 153, 3) ∧ okop dsX2_bearsTorque_116 5 = true) ∧ (decode dsX2_bearsTorque_116 8 = .ok (.lcmp, 1) ∧ okop dsX2_bearsTorque_116 8 = true) ∧ (decode dsX2_bearsTorque_116 9 = .ok (.ifCond .gt 16, 3) ∧ okop dsX2_bearsTorque_116 9 = true) ∧ (decode dsX2_bearsTorque_116 12 = .ok (.lload 8, 2) ∧ okop dsX2_bearsTorque_116 12 = true) ∧ (decode dsX2_bearsTorque_116 14 = .ok (.ldc2_w 155, 3) ∧ okop dsX2_bearsTorque_116 14 = true) ∧ (decode dsX2_bearsTorque_116 17 = .ok (.lcmp, 1) ∧ okop dsX2_bearsTorque_116 17 = true) ∧ (decode dsX2_bearsTorque_116 18 = .ok (.ifCond .gt 7, 3) ∧ okop dsX2_bearsTorque_116 18 = true) ∧ (decode dsX2_bearsTorque_116 21 = .ok (.iconst 1, 1) ∧ okop dsX2_bearsTorque_116 21 = true) ∧ (decode dsX2_bearsTorque_116 22 = .ok (.goto 4, 3) ∧ okop dsX2_bearsTorque_116 22 = true) ∧ (decode dsX2_bearsTorque_116 25 = .ok (.iconst 0, 1) ∧ okop dsX2_bearsTorque_116 25 = true) ∧ (decode dsX2_bearsTorque_116 26 = .ok (.ireturn, 1) ∧ okop dsX2_bearsTorque_116 26 = true) ∧ (decode dsX2_bearsTorque_116 27 = .ok (.lload 6, 2) ∧ okop dsX2_bearsTorque_116 27 = true) ∧ (decode dsX2_bearsTorque_116 29 = .ok (.ldc2_w 157, 3) ∧ okop dsX2_bearsTorque_116 29 = true) ∧ (decode dsX2_bearsTorque_116 32 = .ok (.lcmp, 1) ∧ okop dsX2_bearsTorque_116 32 = true) ∧ (decode dsX2_bearsTorque_116 33 = .ok (.ifCond .gt 16, 3) ∧ okop dsX2_bearsTorque_116 33 = true) ∧ (decode dsX2_bearsTorque_116 36 = .ok (.lload 8, 2) ∧ okop dsX2_bearsTorque_116 36 = true) ∧ (decode dsX2_bearsTorque_116 38 = .ok (.ldc2_w 159, 3) ∧ okop dsX2_bearsTorque_116 38 = true) ∧ (decode dsX2_bearsTorque_116 41 = .ok (.lcmp, 1) ∧ okop dsX2_bearsTorque_116 41 = true) ∧ (decode dsX2_bearsTorque_116 42 = .ok (.ifCond .gt 7, 3) ∧ okop dsX2_bearsTorque_116 42 = true) ∧ (decode dsX2_bearsTorque_116 45 = .ok (.iconst 1, 1) ∧ okop dsX2_bearsTorque_116 45 = true) ∧ (decode dsX2_bearsTorque_116 46 = .ok (.goto 4, 3) ∧ okop dsX2_bearsTorque_116 46 = true) ∧ (decode dsX2_bearsTorque_116 49 = .ok (.iconst 0, 1) ∧ okop dsX2_bearsTorque_116 49 = true) := by decide +kernel
theorem dX2_bearsTorque_116 : decode cX2_bearsTorque 116 = .ok (.if_icmp .ge 27, 3) := dgq (p := 0) daX2_bearsTorque_116 dbX2_bearsTorque_116.1
theorem dX2_bearsTorque_119 : decode cX2_bearsTorque 119 = .ok (.lload 6, 2) := dgq (p := 3) daX2_bearsTorque_116 dbX2_bearsTorque_116.2.1
theorem dX2_bearsTorque_121 : decode cX2_bearsTorque 121 = .ok (.ldc2_w 153, 3) := dgq (p := 5) daX2_bearsTorque_116 dbX2_bearsTorque_116.2.2.1
theorem dX2_bearsTorque_124 : decode cX2_bearsTorque 124 = .ok (.lcmp, 1) := dgq (p := 8) daX2_bearsTorque_116 dbX2_bearsTorque_116.2.2.2.1
theorem dX2_bearsTorque_125 : decode cX2_bearsTorque 125 = .ok (.ifCond .gt 16, 3) := dgq (p := 9) daX2_bearsTorque_116 dbX2_bearsTorque_116.2.2.2.2.1
theorem dX2_bearsTorque_128 : decode cX2_bearsTorque 128 = .ok (.lload 8, 2) := dgq (p := 12) daX2_bearsTorque_116 dbX2_bearsTorque_116.2.2.2.2.2.1
theorem dX2_bearsTorque_130 : decode cX2_bearsTorque 130 = .ok (.ldc2_w 155, 3) := dgq (p := 14) daX2_bearsTorque_116 dbX2_bearsTorque_116.2.2.2.2.2.2.1
theorem dX2_bearsTorque_133 : decode cX2_bearsTorque 133 = .ok (.lcmp, 1) := dgq (p := 17) daX2_bearsTorque_116 dbX2_bearsTorque_116.2.2.2.2.2.2.2.1
theorem dX2_bearsTorque_134 : decode cX2_bearsTorque 134 = .ok (.ifCond .gt 7, 3) := dgq (p := 18) daX2_bearsTorque_116 dbX2_bearsTorque_116.2.2.2.2.2.2.2.2.1
theorem dX2_bearsTorque_137 : decode cX2_bearsTorque 137 = .ok (.iconst 1, 1) := dgq (p := 21) daX2_bearsTorque_116 dbX2_bearsTorque_116.2.2.2.2.2.2.2.2.2.1
theorem dX2_bearsTorque_138 : decode cX2_bearsTorque 138 = .ok (.goto 4, 3) := dgq (p := 22) daX2_bearsTorque_116 dbX2_bearsTorque_116.2.2.2.2.2.2.2.2.2.2.1
theorem dX2_bearsTorque_141 : decode cX2_bearsTorque 141 = .ok (.iconst 0, 1) := dgq (p := 25) daX2_bearsTorque_116 dbX2_bearsTorque_116.2.2.2.2.2.2.2.2.2.2.2.1
theorem dX2_bearsTorque_142 : decode cX2_bearsTorque 142 = .ok (.ireturn, 1) := dgq (p := 26) daX2_bearsTorque_116 dbX2_bearsTorque_116.2.2.2.2.2.2.2.2.2.2.2.2.1
theorem dX2_bearsTorque_143 : decode cX2_bearsTorque 143 = .ok (.lload 6, 2) := dgq (p := 27) daX2_bearsTorque_116 dbX2_bearsTorque_116.2.2.2.2.2.2.2.2.2.2.2.2.2.1
theorem dX2_bearsTorque_145 : decode cX2_bearsTorque 145 = .ok (.ldc2_w 157, 3) := dgq (p := 29) daX2_bearsTorque_116 dbX2_bearsTorque_116.2.2.2.2.2.2.2.2.2.2.2.2.2.2.1
theorem dX2_bearsTorque_148 : decode cX2_bearsTorque 148 = .ok (.lcmp, 1) := dgq (p := 32) daX2_bearsTorque_116 dbX2_bearsTorque_116.2.2.2.2.2.2.2.2.2.2.2.2.2.2.2.1
theorem dX2_bearsTorque_149 : decode cX2_bearsTorque 149 = .ok (.ifCond .gt 16, 3) := dgq (p := 33) daX2_bearsTorque_116 dbX2_bearsTorque_116.2.2.2.2.2.2.2.2.2.2.2.2.2.2.2.2.1
theorem dX2_bearsTorque_152 : decode cX2_bearsTorque 152 = .ok (.lload 8, 2) := dgq (p := 36) daX2_bearsTorque_116 dbX2_bearsTorque_116.2.2.2.2.2.2.2.2.2.2.2.2.2.2.2.2.2.1
theorem dX2_bearsTorque_154 : decode cX2_bearsTorque 154 = .ok (.ldc2_w 159, 3) := dgq (p := 38) daX2_bearsTorque_116 dbX2_bearsTorque_116.2.2.2.2.2.2.2.2.2.2.2.2.2.2.2.2.2.2.1
theorem dX2_bearsTorque_157 : decode cX2_bearsTorque 157 = .ok (.lcmp, 1) := dgq (p := 41) daX2_bearsTorque_116 dbX2_bearsTorque_116.2.2.2.2.2.2.2.2.2.2.2.2.2.2.2.2.2.2.2.1
theorem dX2_bearsTorque_158 : decode cX2_bearsTorque 158 = .ok (.ifCond .gt 7, 3) := dgq (p := 42) daX2_bearsTorque_116 dbX2_bearsTorque_116.2.2.2.2.2.2.2.2.2.2.2.2.2.2.2.2.2.2.2.2.1
theorem dX2_bearsTorque_161 : decode cX2_bearsTorque 161 = .ok (.iconst 1, 1) := dgq (p := 45) daX2_bearsTorque_116 dbX2_bearsTorque_116.2.2.2.2.2.2.2.2.2.2.2.2.2.2.2.2.2.2.2.2.2.1
theorem dX2_bearsTorque_162 : decode cX2_bearsTorque 162 = .ok (.goto 4, 3) := dgq (p := 46) daX2_bearsTorque_116 dbX2_bearsTorque_116.2.2.2.2.2.2.2.2.2.2.2.2.2.2.2.2.2.2.2.2.2.2.1
theorem dX2_bearsTorque_165 : decode cX2_bearsTorque 165 = .ok (.iconst 0, 1) := dgq (p := 49) daX2_bearsTorque_116 dbX2_bearsTorque_116.2.2.2.2.2.2.2.2.2.2.2.2.2.2.2.2.2.2.2.2.2.2.2
theorem dX2_bearsTorque_166 : decode cX2_bearsTorque 166 = .ok (.ireturn, 1) := by decide +kernel
set_option maxRecDepth 20000 in
theorem ggX2_lifeUnder_X2_borneTorque : GoodIn wsX2_lifeUnder wsX2_borneTorque := goodIn_ca (goodIn_q _ [7, 8, 9, 10, 11, 6, 12, 13, 14, 2, 15, 16, 17, 18, 19, 20, 21, 22, 23, 24, 25, 26, 27, 28, 29, 30, 31, 32, 33, 34, 35, 36, 37, 38, 39, 40, 41, 42, 43, 44, 45, 46, 47, 48, 49, 50, 51] rfl (by decide +kernel)) (goodIn_sub (fun _ h => List.mem_cons_of_mem _ (List.mem_append_right _ h)) (by decide +kernel))
set_option maxRecDepth 20000 in
theorem gX2_lifeUnder_X2_borneTorque : GoodIn wsX2_lifeUnder (wsV RX2 161 RX2 yX2_borneTorque wsX2_borneTorque) := goodIn_app (goodIn_q _ [3, 4, 5, 6] rfl (by decide +kernel)) ggX2_lifeUnder_X2_borneTorque
def dsX2_lifeUnder_0 : ByteArray := ⟨#[42, 182, 0, 161, 133, 66, 31, 33, 148, 157, 0, 7, 20, 0, 164, 173, 20, 0, 86, 55, 5, 3, 54, 7, 21, 7, 16, 6, 162, 0, 17, 22, 5, 33, 105, 31, 109, 55, 5, 132, 7, 1]⟩
theorem daX2_lifeUnder_0 : agB cX2_lifeUnder dsX2_lifeUnder_0 0 := agB_of (n := 42) (by decide +kernel)
theorem dbX2_lifeUnder_0 : (decode dsX2_lifeUnder_0 0 = .ok (.aload_n 0, 1) ∧ okop dsX2_lifeUnder_0 0 = true) ∧ (decode dsX2_lifeUnder_0 1 = .ok (.invokevirtual 161, 3) ∧ okop dsX2_lifeUnder_0 1 = true) ∧ (decode dsX2_lifeUnder_0 4 = .ok (.i2l, 1) ∧ okop dsX2_lifeUnder_0 4 = true) ∧ (decode dsX2_lifeUnder_0 5 = .ok (.lstore_n 3, 1) ∧ okop dsX2_lifeUnder_0 5 = true) ∧ (decode dsX2_lifeUnder_0 6 = .ok (.lload_n 1, 1) ∧ okop dsX2_lifeUnder_0 6 = true) ∧ (decode dsX2_lifeUnder_0 7 = .ok (.lload_n 3, 1) ∧ okop dsX2_lifeUnder_0 7 = true) ∧ (decode dsX2_lifeUnder_0 8 = .ok (.lcmp, 1) ∧ okop dsX2_lifeUnder_0 8 = true) ∧ (decode dsX2_lifeUnder_0 9 = .ok (.ifCond .gt 7, 3) ∧ okop dsX2_lifeUnder_0 9 = true) ∧ (decode dsX2_lifeUnder_0 12 = .ok (.ldc2_w 164, 3) ∧ okop dsX2_lifeUnder_0 12 = true) ∧ (decode dsX2_lifeUnder_0 15 = .ok (.lreturn, 1) ∧ okop dsX2_lifeUnder_0 15 = true) ∧ (decode dsX2_lifeUnder_0 16 = .ok (.ldc2_w 86, 3) ∧ okop dsX2_lifeUnder_0 16 = true) ∧ (decode dsX2_lifeUnder_0 19 = .ok (.lstore 5, 2) ∧ okop dsX2_lifeUnder_0 19 = true) ∧ (decode dsX2_lifeUnder_0 21 = .ok (.iconst 0, 1) ∧ okop dsX2_lifeUnder_0 21 = true) ∧ (decode dsX2_lifeUnder_0 22 = .ok (.istore 7, 2) ∧ okop dsX2_lifeUnder_0 22 = true) ∧ (decode dsX2_lifeUnder_0 24 = .ok (.iload 7, 2) ∧ okop dsX2_lifeUnder_0 24 = true) ∧ (decode dsX2_lifeUnder_0 26 = .ok (.bipush 6, 2) ∧ okop dsX2_lifeUnder_0 26 = true) ∧ (decode dsX2_lifeUnder_0 28 = .ok (.if_icmp .ge 17, 3) ∧ okop dsX2_lifeUnder_0 28 = true) ∧ (decode dsX2_lifeUnder_0 31 = .ok (.lload 5, 2) ∧ okop dsX2_lifeUnder_0 31 = true) ∧ (decode dsX2_lifeUnder_0 33 = .ok (.lload_n 3, 1) ∧ okop dsX2_lifeUnder_0 33 = true) ∧ (decode dsX2_lifeUnder_0 34 = .ok (.lmul, 1) ∧ okop dsX2_lifeUnder_0 34 = true) ∧ (decode dsX2_lifeUnder_0 35 = .ok (.lload_n 1, 1) ∧ okop dsX2_lifeUnder_0 35 = true) ∧ (decode dsX2_lifeUnder_0 36 = .ok (.ldiv, 1) ∧ okop dsX2_lifeUnder_0 36 = true) ∧ (decode dsX2_lifeUnder_0 37 = .ok (.lstore 5, 2) ∧ okop dsX2_lifeUnder_0 37 = true) ∧ (decode dsX2_lifeUnder_0 39 = .ok (.iinc 7 1, 3) ∧ okop dsX2_lifeUnder_0 39 = true) := by decide +kernel
theorem dX2_lifeUnder_0 : decode cX2_lifeUnder 0 = .ok (.aload_n 0, 1) := dgq (p := 0) daX2_lifeUnder_0 dbX2_lifeUnder_0.1
theorem dX2_lifeUnder_1 : decode cX2_lifeUnder 1 = .ok (.invokevirtual 161, 3) := dgq (p := 1) daX2_lifeUnder_0 dbX2_lifeUnder_0.2.1
theorem dX2_lifeUnder_4 : decode cX2_lifeUnder 4 = .ok (.i2l, 1) := dgq (p := 4) daX2_lifeUnder_0 dbX2_lifeUnder_0.2.2.1
theorem dX2_lifeUnder_5 : decode cX2_lifeUnder 5 = .ok (.lstore_n 3, 1) := dgq (p := 5) daX2_lifeUnder_0 dbX2_lifeUnder_0.2.2.2.1
theorem dX2_lifeUnder_6 : decode cX2_lifeUnder 6 = .ok (.lload_n 1, 1) := dgq (p := 6) daX2_lifeUnder_0 dbX2_lifeUnder_0.2.2.2.2.1
theorem dX2_lifeUnder_7 : decode cX2_lifeUnder 7 = .ok (.lload_n 3, 1) := dgq (p := 7) daX2_lifeUnder_0 dbX2_lifeUnder_0.2.2.2.2.2.1
theorem dX2_lifeUnder_8 : decode cX2_lifeUnder 8 = .ok (.lcmp, 1) := dgq (p := 8) daX2_lifeUnder_0 dbX2_lifeUnder_0.2.2.2.2.2.2.1
theorem dX2_lifeUnder_9 : decode cX2_lifeUnder 9 = .ok (.ifCond .gt 7, 3) := dgq (p := 9) daX2_lifeUnder_0 dbX2_lifeUnder_0.2.2.2.2.2.2.2.1
theorem dX2_lifeUnder_12 : decode cX2_lifeUnder 12 = .ok (.ldc2_w 164, 3) := dgq (p := 12) daX2_lifeUnder_0 dbX2_lifeUnder_0.2.2.2.2.2.2.2.2.1
theorem dX2_lifeUnder_15 : decode cX2_lifeUnder 15 = .ok (.lreturn, 1) := dgq (p := 15) daX2_lifeUnder_0 dbX2_lifeUnder_0.2.2.2.2.2.2.2.2.2.1
theorem dX2_lifeUnder_16 : decode cX2_lifeUnder 16 = .ok (.ldc2_w 86, 3) := dgq (p := 16) daX2_lifeUnder_0 dbX2_lifeUnder_0.2.2.2.2.2.2.2.2.2.2.1
theorem dX2_lifeUnder_19 : decode cX2_lifeUnder 19 = .ok (.lstore 5, 2) := dgq (p := 19) daX2_lifeUnder_0 dbX2_lifeUnder_0.2.2.2.2.2.2.2.2.2.2.2.1
theorem dX2_lifeUnder_21 : decode cX2_lifeUnder 21 = .ok (.iconst 0, 1) := dgq (p := 21) daX2_lifeUnder_0 dbX2_lifeUnder_0.2.2.2.2.2.2.2.2.2.2.2.2.1
theorem dX2_lifeUnder_22 : decode cX2_lifeUnder 22 = .ok (.istore 7, 2) := dgq (p := 22) daX2_lifeUnder_0 dbX2_lifeUnder_0.2.2.2.2.2.2.2.2.2.2.2.2.2.1
theorem dX2_lifeUnder_24 : decode cX2_lifeUnder 24 = .ok (.iload 7, 2) := dgq (p := 24) daX2_lifeUnder_0 dbX2_lifeUnder_0.2.2.2.2.2.2.2.2.2.2.2.2.2.2.1
theorem dX2_lifeUnder_26 : decode cX2_lifeUnder 26 = .ok (.bipush 6, 2) := dgq (p := 26) daX2_lifeUnder_0 dbX2_lifeUnder_0.2.2.2.2.2.2.2.2.2.2.2.2.2.2.2.1
theorem dX2_lifeUnder_28 : decode cX2_lifeUnder 28 = .ok (.if_icmp .ge 17, 3) := dgq (p := 28) daX2_lifeUnder_0 dbX2_lifeUnder_0.2.2.2.2.2.2.2.2.2.2.2.2.2.2.2.2.1
theorem dX2_lifeUnder_31 : decode cX2_lifeUnder 31 = .ok (.lload 5, 2) := dgq (p := 31) daX2_lifeUnder_0 dbX2_lifeUnder_0.2.2.2.2.2.2.2.2.2.2.2.2.2.2.2.2.2.1
theorem dX2_lifeUnder_33 : decode cX2_lifeUnder 33 = .ok (.lload_n 3, 1) := dgq (p := 33) daX2_lifeUnder_0 dbX2_lifeUnder_0.2.2.2.2.2.2.2.2.2.2.2.2.2.2.2.2.2.2.1
theorem dX2_lifeUnder_34 : decode cX2_lifeUnder 34 = .ok (.lmul, 1) := dgq (p := 34) daX2_lifeUnder_0 dbX2_lifeUnder_0.2.2.2.2.2.2.2.2.2.2.2.2.2.2.2.2.2.2.2.1
theorem dX2_lifeUnder_35 : decode cX2_lifeUnder 35 = .ok (.lload_n 1, 1) := dgq (p := 35) daX2_lifeUnder_0 dbX2_lifeUnder_0.2.2.2.2.2.2.2.2.2.2.2.2.2.2.2.2.2.2.2.2.1
theorem dX2_lifeUnder_36 : decode cX2_lifeUnder 36 = .ok (.ldiv, 1) := dgq (p := 36) daX2_lifeUnder_0 dbX2_lifeUnder_0.2.2.2.2.2.2.2.2.2.2.2.2.2.2.2.2.2.2.2.2.2.1
theorem dX2_lifeUnder_37 : decode cX2_lifeUnder 37 = .ok (.lstore 5, 2) := dgq (p := 37) daX2_lifeUnder_0 dbX2_lifeUnder_0.2.2.2.2.2.2.2.2.2.2.2.2.2.2.2.2.2.2.2.2.2.2.1
theorem dX2_lifeUnder_39 : decode cX2_lifeUnder 39 = .ok (.iinc 7 1, 3) := dgq (p := 39) daX2_lifeUnder_0 dbX2_lifeUnder_0.2.2.2.2.2.2.2.2.2.2.2.2.2.2.2.2.2.2.2.2.2.2.2
def dsX2_lifeUnder_42 : ByteArray := ⟨#[167, 255, 238, 22, 5, 173]⟩
theorem daX2_lifeUnder_42 : agB cX2_lifeUnder dsX2_lifeUnder_42 42 := agB_of (n := 6) (by decide +kernel)
theorem dbX2_lifeUnder_42 : (decode dsX2_lifeUnder_42 0 = .ok (.goto (-18), 3) ∧ okop dsX2_lifeUnder_42 0 = true) ∧ (decode dsX2_lifeUnder_42 3 = .ok (.lload 5, 2) ∧ okop dsX2_lifeUnder_42 3 = true) ∧ (decode dsX2_lifeUnder_42 5 = .ok (.lreturn, 1) ∧ okop dsX2_lifeUnder_42 5 = true) := by decide +kernel
theorem dX2_lifeUnder_42 : decode cX2_lifeUnder 42 = .ok (.goto (-18), 3) := dgq (p := 0) daX2_lifeUnder_42 dbX2_lifeUnder_42.1
theorem dX2_lifeUnder_45 : decode cX2_lifeUnder 45 = .ok (.lload 5, 2) := dgq (p := 3) daX2_lifeUnder_42 dbX2_lifeUnder_42.2.1
theorem dX2_lifeUnder_47 : decode cX2_lifeUnder 47 = .ok (.lreturn, 1) := dgq (p := 5) daX2_lifeUnder_42 dbX2_lifeUnder_42.2.2
set_option maxRecDepth 20000 in
theorem ggX2_turn_X2_lifeUnder : GoodIn wsX2_turn wsX2_lifeUnder := goodIn_ca (goodIn_q _ [7, 8, 2, 9, 10, 11, 6, 12, 13, 14, 15, 16, 17, 18, 19, 20, 21, 22, 23, 24, 25, 26, 27, 28, 29, 30, 31, 32, 33, 34, 35, 36, 37, 38, 39, 40, 41, 42, 43, 44, 45, 46, 47, 48, 49, 50, 51, 52, 53, 54, 55, 56] rfl (by decide +kernel)) (goodIn_sub (fun _ h => List.mem_cons_of_mem _ (List.mem_append_right _ h)) (by decide +kernel))
set_option maxRecDepth 20000 in
theorem gX2_turn_X2_lifeUnder : GoodIn wsX2_turn (wsV RX2 166 RX2 yX2_lifeUnder wsX2_lifeUnder) := goodIn_app (goodIn_q _ [3, 4, 5, 6] rfl (by decide +kernel)) ggX2_turn_X2_lifeUnder
def dsX2_turn_0 : ByteArray := ⟨#[42, 31, 182, 0, 166, 55, 5, 22, 5, 9, 148, 154, 0, 18, 42, 89, 180, 0, 82, 20, 0, 86, 97, 181, 0, 82, 167, 0, 27, 22, 5, 9, 148, 158, 0, 20, 42, 89, 180, 0, 82, 20, 0, 86, 33]⟩
theorem daX2_turn_0 : agB cX2_turn dsX2_turn_0 0 := agB_of (n := 45) (by decide +kernel)
theorem dbX2_turn_0 : (decode dsX2_turn_0 0 = .ok (.aload_n 0, 1) ∧ okop dsX2_turn_0 0 = true) ∧ (decode dsX2_turn_0 1 = .ok (.lload_n 1, 1) ∧ okop dsX2_turn_0 1 = true) ∧ (decode dsX2_turn_0 2 = .ok (.invokevirtual 166, 3) ∧ okop dsX2_turn_0 2 = true) ∧ (decode dsX2_turn_0 5 = .ok (.lstore 5, 2) ∧ okop dsX2_turn_0 5 = true) ∧ (decode dsX2_turn_0 7 = .ok (.lload 5, 2) ∧ okop dsX2_turn_0 7 = true) ∧ (decode dsX2_turn_0 9 = .ok (.lconst 0, 1) ∧ okop dsX2_turn_0 9 = true) ∧ (decode dsX2_turn_0 10 = .ok (.lcmp, 1) ∧ okop dsX2_turn_0 10 = true) ∧ (decode dsX2_turn_0 11 = .ok (.ifCond .ne 18, 3) ∧ okop dsX2_turn_0 11 = true) ∧ (decode dsX2_turn_0 14 = .ok (.aload_n 0, 1) ∧ okop dsX2_turn_0 14 = true) ∧ (decode dsX2_turn_0 15 = .ok (.dup, 1) ∧ okop dsX2_turn_0 15 = true) ∧ (decode dsX2_turn_0 16 = .ok (.getfield 82, 3) ∧ okop dsX2_turn_0 16 = true) ∧ (decode dsX2_turn_0 19 = .ok (.ldc2_w 86, 3) ∧ okop dsX2_turn_0 19 = true) ∧ (decode dsX2_turn_0 22 = .ok (.ladd, 1) ∧ okop dsX2_turn_0 22 = true) ∧ (decode dsX2_turn_0 23 = .ok (.putfield 82, 3) ∧ okop dsX2_turn_0 23 = true) ∧ (decode dsX2_turn_0 26 = .ok (.goto 27, 3) ∧ okop dsX2_turn_0 26 = true) ∧ (decode dsX2_turn_0 29 = .ok (.lload 5, 2) ∧ okop dsX2_turn_0 29 = true) ∧ (decode dsX2_turn_0 31 = .ok (.lconst 0, 1) ∧ okop dsX2_turn_0 31 = true) ∧ (decode dsX2_turn_0 32 = .ok (.lcmp, 1) ∧ okop dsX2_turn_0 32 = true) ∧ (decode dsX2_turn_0 33 = .ok (.ifCond .le 20, 3) ∧ okop dsX2_turn_0 33 = true) ∧ (decode dsX2_turn_0 36 = .ok (.aload_n 0, 1) ∧ okop dsX2_turn_0 36 = true) ∧ (decode dsX2_turn_0 37 = .ok (.dup, 1) ∧ okop dsX2_turn_0 37 = true) ∧ (decode dsX2_turn_0 38 = .ok (.getfield 82, 3) ∧ okop dsX2_turn_0 38 = true) ∧ (decode dsX2_turn_0 41 = .ok (.ldc2_w 86, 3) ∧ okop dsX2_turn_0 41 = true) ∧ (decode dsX2_turn_0 44 = .ok (.lload_n 3, 1) ∧ okop dsX2_turn_0 44 = true) := by decide +kernel
theorem dX2_turn_0 : decode cX2_turn 0 = .ok (.aload_n 0, 1) := dgq (p := 0) daX2_turn_0 dbX2_turn_0.1
theorem dX2_turn_1 : decode cX2_turn 1 = .ok (.lload_n 1, 1) := dgq (p := 1) daX2_turn_0 dbX2_turn_0.2.1
theorem dX2_turn_2 : decode cX2_turn 2 = .ok (.invokevirtual 166, 3) := dgq (p := 2) daX2_turn_0 dbX2_turn_0.2.2.1
theorem dX2_turn_5 : decode cX2_turn 5 = .ok (.lstore 5, 2) := dgq (p := 5) daX2_turn_0 dbX2_turn_0.2.2.2.1
theorem dX2_turn_7 : decode cX2_turn 7 = .ok (.lload 5, 2) := dgq (p := 7) daX2_turn_0 dbX2_turn_0.2.2.2.2.1
theorem dX2_turn_9 : decode cX2_turn 9 = .ok (.lconst 0, 1) := dgq (p := 9) daX2_turn_0 dbX2_turn_0.2.2.2.2.2.1
theorem dX2_turn_10 : decode cX2_turn 10 = .ok (.lcmp, 1) := dgq (p := 10) daX2_turn_0 dbX2_turn_0.2.2.2.2.2.2.1
theorem dX2_turn_11 : decode cX2_turn 11 = .ok (.ifCond .ne 18, 3) := dgq (p := 11) daX2_turn_0 dbX2_turn_0.2.2.2.2.2.2.2.1
theorem dX2_turn_14 : decode cX2_turn 14 = .ok (.aload_n 0, 1) := dgq (p := 14) daX2_turn_0 dbX2_turn_0.2.2.2.2.2.2.2.2.1
theorem dX2_turn_15 : decode cX2_turn 15 = .ok (.dup, 1) := dgq (p := 15) daX2_turn_0 dbX2_turn_0.2.2.2.2.2.2.2.2.2.1
theorem dX2_turn_16 : decode cX2_turn 16 = .ok (.getfield 82, 3) := dgq (p := 16) daX2_turn_0 dbX2_turn_0.2.2.2.2.2.2.2.2.2.2.1
theorem dX2_turn_19 : decode cX2_turn 19 = .ok (.ldc2_w 86, 3) := dgq (p := 19) daX2_turn_0 dbX2_turn_0.2.2.2.2.2.2.2.2.2.2.2.1
theorem dX2_turn_22 : decode cX2_turn 22 = .ok (.ladd, 1) := dgq (p := 22) daX2_turn_0 dbX2_turn_0.2.2.2.2.2.2.2.2.2.2.2.2.1
theorem dX2_turn_23 : decode cX2_turn 23 = .ok (.putfield 82, 3) := dgq (p := 23) daX2_turn_0 dbX2_turn_0.2.2.2.2.2.2.2.2.2.2.2.2.2.1
theorem dX2_turn_26 : decode cX2_turn 26 = .ok (.goto 27, 3) := dgq (p := 26) daX2_turn_0 dbX2_turn_0.2.2.2.2.2.2.2.2.2.2.2.2.2.2.1
theorem dX2_turn_29 : decode cX2_turn 29 = .ok (.lload 5, 2) := dgq (p := 29) daX2_turn_0 dbX2_turn_0.2.2.2.2.2.2.2.2.2.2.2.2.2.2.2.1
theorem dX2_turn_31 : decode cX2_turn 31 = .ok (.lconst 0, 1) := dgq (p := 31) daX2_turn_0 dbX2_turn_0.2.2.2.2.2.2.2.2.2.2.2.2.2.2.2.2.1
theorem dX2_turn_32 : decode cX2_turn 32 = .ok (.lcmp, 1) := dgq (p := 32) daX2_turn_0 dbX2_turn_0.2.2.2.2.2.2.2.2.2.2.2.2.2.2.2.2.2.1
theorem dX2_turn_33 : decode cX2_turn 33 = .ok (.ifCond .le 20, 3) := dgq (p := 33) daX2_turn_0 dbX2_turn_0.2.2.2.2.2.2.2.2.2.2.2.2.2.2.2.2.2.2.1
theorem dX2_turn_36 : decode cX2_turn 36 = .ok (.aload_n 0, 1) := dgq (p := 36) daX2_turn_0 dbX2_turn_0.2.2.2.2.2.2.2.2.2.2.2.2.2.2.2.2.2.2.2.1
theorem dX2_turn_37 : decode cX2_turn 37 = .ok (.dup, 1) := dgq (p := 37) daX2_turn_0 dbX2_turn_0.2.2.2.2.2.2.2.2.2.2.2.2.2.2.2.2.2.2.2.2.1
theorem dX2_turn_38 : decode cX2_turn 38 = .ok (.getfield 82, 3) := dgq (p := 38) daX2_turn_0 dbX2_turn_0.2.2.2.2.2.2.2.2.2.2.2.2.2.2.2.2.2.2.2.2.2.1
theorem dX2_turn_41 : decode cX2_turn 41 = .ok (.ldc2_w 86, 3) := dgq (p := 41) daX2_turn_0 dbX2_turn_0.2.2.2.2.2.2.2.2.2.2.2.2.2.2.2.2.2.2.2.2.2.2.1
theorem dX2_turn_44 : decode cX2_turn 44 = .ok (.lload_n 3, 1) := dgq (p := 44) daX2_turn_0 dbX2_turn_0.2.2.2.2.2.2.2.2.2.2.2.2.2.2.2.2.2.2.2.2.2.2.2
def dsX2_turn_45 : ByteArray := ⟨#[105, 22, 5, 109, 97, 181, 0, 82, 177]⟩
theorem daX2_turn_45 : agB cX2_turn dsX2_turn_45 45 := agB_of (n := 9) (by decide +kernel)
theorem dbX2_turn_45 : (decode dsX2_turn_45 0 = .ok (.lmul, 1) ∧ okop dsX2_turn_45 0 = true) ∧ (decode dsX2_turn_45 1 = .ok (.lload 5, 2) ∧ okop dsX2_turn_45 1 = true) ∧ (decode dsX2_turn_45 3 = .ok (.ldiv, 1) ∧ okop dsX2_turn_45 3 = true) ∧ (decode dsX2_turn_45 4 = .ok (.ladd, 1) ∧ okop dsX2_turn_45 4 = true) ∧ (decode dsX2_turn_45 5 = .ok (.putfield 82, 3) ∧ okop dsX2_turn_45 5 = true) ∧ (decode dsX2_turn_45 8 = .ok (.return_, 1) ∧ okop dsX2_turn_45 8 = true) := by decide +kernel
theorem dX2_turn_45 : decode cX2_turn 45 = .ok (.lmul, 1) := dgq (p := 0) daX2_turn_45 dbX2_turn_45.1
theorem dX2_turn_46 : decode cX2_turn 46 = .ok (.lload 5, 2) := dgq (p := 1) daX2_turn_45 dbX2_turn_45.2.1
theorem dX2_turn_48 : decode cX2_turn 48 = .ok (.ldiv, 1) := dgq (p := 3) daX2_turn_45 dbX2_turn_45.2.2.1
theorem dX2_turn_49 : decode cX2_turn 49 = .ok (.ladd, 1) := dgq (p := 4) daX2_turn_45 dbX2_turn_45.2.2.2.1
theorem dX2_turn_50 : decode cX2_turn 50 = .ok (.putfield 82, 3) := dgq (p := 5) daX2_turn_45 dbX2_turn_45.2.2.2.2.1
theorem dX2_turn_53 : decode cX2_turn 53 = .ok (.return_, 1) := dgq (p := 8) daX2_turn_45 dbX2_turn_45.2.2.2.2.2
theorem dX3_init_22 : decode cX3_init 22 = .ok (.newarray .int, 2) := by decide +kernel
def dsX3_init_0 : ByteArray := ⟨#[42, 183, 0, 3, 42, 27, 181, 0, 9, 42, 28, 181, 0, 15, 42, 29, 181, 0, 18, 42, 21, 4, 188, 10, 181, 0, 21, 177]⟩
theorem daX3_init_0 : agB cX3_init dsX3_init_0 0 := agB_of (n := 28) (by decide +kernel)
theorem dbX3_init_0 : (decode dsX3_init_0 0 = .ok (.aload_n 0, 1) ∧ okop dsX3_init_0 0 = true) ∧ (decode dsX3_init_0 1 = .ok (.invokespecial 3, 3) ∧ okop dsX3_init_0 1 = true) ∧ (decode dsX3_init_0 4 = .ok (.aload_n 0, 1) ∧ okop dsX3_init_0 4 = true) ∧ (decode dsX3_init_0 5 = .ok (.iload_n 1, 1) ∧ okop dsX3_init_0 5 = true) ∧ (decode dsX3_init_0 6 = .ok (.putfield 9, 3) ∧ okop dsX3_init_0 6 = true) ∧ (decode dsX3_init_0 9 = .ok (.aload_n 0, 1) ∧ okop dsX3_init_0 9 = true) ∧ (decode dsX3_init_0 10 = .ok (.iload_n 2, 1) ∧ okop dsX3_init_0 10 = true) ∧ (decode dsX3_init_0 11 = .ok (.putfield 15, 3) ∧ okop dsX3_init_0 11 = true) ∧ (decode dsX3_init_0 14 = .ok (.aload_n 0, 1) ∧ okop dsX3_init_0 14 = true) ∧ (decode dsX3_init_0 15 = .ok (.iload_n 3, 1) ∧ okop dsX3_init_0 15 = true) ∧ (decode dsX3_init_0 16 = .ok (.putfield 18, 3) ∧ okop dsX3_init_0 16 = true) ∧ (decode dsX3_init_0 19 = .ok (.aload_n 0, 1) ∧ okop dsX3_init_0 19 = true) ∧ (decode dsX3_init_0 20 = .ok (.iload 4, 2) ∧ okop dsX3_init_0 20 = true) ∧ (decode dsX3_init_0 24 = .ok (.putfield 21, 3) ∧ okop dsX3_init_0 24 = true) ∧ (decode dsX3_init_0 27 = .ok (.return_, 1) ∧ okop dsX3_init_0 27 = true) := by decide +kernel
theorem dX3_init_0 : decode cX3_init 0 = .ok (.aload_n 0, 1) := dgq (p := 0) daX3_init_0 dbX3_init_0.1
theorem dX3_init_1 : decode cX3_init 1 = .ok (.invokespecial 3, 3) := dgq (p := 1) daX3_init_0 dbX3_init_0.2.1
theorem dX3_init_4 : decode cX3_init 4 = .ok (.aload_n 0, 1) := dgq (p := 4) daX3_init_0 dbX3_init_0.2.2.1
theorem dX3_init_5 : decode cX3_init 5 = .ok (.iload_n 1, 1) := dgq (p := 5) daX3_init_0 dbX3_init_0.2.2.2.1
theorem dX3_init_6 : decode cX3_init 6 = .ok (.putfield 9, 3) := dgq (p := 6) daX3_init_0 dbX3_init_0.2.2.2.2.1
theorem dX3_init_9 : decode cX3_init 9 = .ok (.aload_n 0, 1) := dgq (p := 9) daX3_init_0 dbX3_init_0.2.2.2.2.2.1
theorem dX3_init_10 : decode cX3_init 10 = .ok (.iload_n 2, 1) := dgq (p := 10) daX3_init_0 dbX3_init_0.2.2.2.2.2.2.1
theorem dX3_init_11 : decode cX3_init 11 = .ok (.putfield 15, 3) := dgq (p := 11) daX3_init_0 dbX3_init_0.2.2.2.2.2.2.2.1
theorem dX3_init_14 : decode cX3_init 14 = .ok (.aload_n 0, 1) := dgq (p := 14) daX3_init_0 dbX3_init_0.2.2.2.2.2.2.2.2.1
theorem dX3_init_15 : decode cX3_init 15 = .ok (.iload_n 3, 1) := dgq (p := 15) daX3_init_0 dbX3_init_0.2.2.2.2.2.2.2.2.2.1
theorem dX3_init_16 : decode cX3_init 16 = .ok (.putfield 18, 3) := dgq (p := 16) daX3_init_0 dbX3_init_0.2.2.2.2.2.2.2.2.2.2.1
theorem dX3_init_19 : decode cX3_init 19 = .ok (.aload_n 0, 1) := dgq (p := 19) daX3_init_0 dbX3_init_0.2.2.2.2.2.2.2.2.2.2.2.1
theorem dX3_init_20 : decode cX3_init 20 = .ok (.iload 4, 2) := dgq (p := 20) daX3_init_0 dbX3_init_0.2.2.2.2.2.2.2.2.2.2.2.2.1
theorem dX3_init_24 : decode cX3_init 24 = .ok (.putfield 21, 3) := dgq (p := 24) daX3_init_0 dbX3_init_0.2.2.2.2.2.2.2.2.2.2.2.2.2.1
theorem dX3_init_27 : decode cX3_init 27 = .ok (.return_, 1) := dgq (p := 27) daX3_init_0 dbX3_init_0.2.2.2.2.2.2.2.2.2.2.2.2.2.2
set_option maxRecDepth 20000 in
theorem ggX3_wayIn_X9_root : GoodIn wsX3_wayIn wsX9_root := goodIn_q _ [7] rfl (by decide +kernel)
set_option maxRecDepth 20000 in
theorem gX3_wayIn_X9_root_n29 : GoodIn wsX3_wayIn (wsX9_root) := ggX3_wayIn_X9_root
def dsX3_wayIn_0 : ByteArray := ⟨#[20, 0, 25, 42, 180, 0, 9, 133, 105, 20, 0, 27, 109, 64, 31, 42, 180, 0, 18, 133, 31, 101, 105, 184, 0, 29, 173]⟩
theorem daX3_wayIn_0 : agB cX3_wayIn dsX3_wayIn_0 0 := agB_of (n := 27) (by decide +kernel)
theorem dbX3_wayIn_0 : (decode dsX3_wayIn_0 0 = .ok (.ldc2_w 25, 3) ∧ okop dsX3_wayIn_0 0 = true) ∧ (decode dsX3_wayIn_0 3 = .ok (.aload_n 0, 1) ∧ okop dsX3_wayIn_0 3 = true) ∧ (decode dsX3_wayIn_0 4 = .ok (.getfield 9, 3) ∧ okop dsX3_wayIn_0 4 = true) ∧ (decode dsX3_wayIn_0 7 = .ok (.i2l, 1) ∧ okop dsX3_wayIn_0 7 = true) ∧ (decode dsX3_wayIn_0 8 = .ok (.lmul, 1) ∧ okop dsX3_wayIn_0 8 = true) ∧ (decode dsX3_wayIn_0 9 = .ok (.ldc2_w 27, 3) ∧ okop dsX3_wayIn_0 9 = true) ∧ (decode dsX3_wayIn_0 12 = .ok (.ldiv, 1) ∧ okop dsX3_wayIn_0 12 = true) ∧ (decode dsX3_wayIn_0 13 = .ok (.lstore_n 1, 1) ∧ okop dsX3_wayIn_0 13 = true) ∧ (decode dsX3_wayIn_0 14 = .ok (.lload_n 1, 1) ∧ okop dsX3_wayIn_0 14 = true) ∧ (decode dsX3_wayIn_0 15 = .ok (.aload_n 0, 1) ∧ okop dsX3_wayIn_0 15 = true) ∧ (decode dsX3_wayIn_0 16 = .ok (.getfield 18, 3) ∧ okop dsX3_wayIn_0 16 = true) ∧ (decode dsX3_wayIn_0 19 = .ok (.i2l, 1) ∧ okop dsX3_wayIn_0 19 = true) ∧ (decode dsX3_wayIn_0 20 = .ok (.lload_n 1, 1) ∧ okop dsX3_wayIn_0 20 = true) ∧ (decode dsX3_wayIn_0 21 = .ok (.lsub, 1) ∧ okop dsX3_wayIn_0 21 = true) ∧ (decode dsX3_wayIn_0 22 = .ok (.lmul, 1) ∧ okop dsX3_wayIn_0 22 = true) ∧ (decode dsX3_wayIn_0 23 = .ok (.invokestatic 29, 3) ∧ okop dsX3_wayIn_0 23 = true) ∧ (decode dsX3_wayIn_0 26 = .ok (.lreturn, 1) ∧ okop dsX3_wayIn_0 26 = true) := by decide +kernel
theorem dX3_wayIn_0 : decode cX3_wayIn 0 = .ok (.ldc2_w 25, 3) := dgq (p := 0) daX3_wayIn_0 dbX3_wayIn_0.1
theorem dX3_wayIn_3 : decode cX3_wayIn 3 = .ok (.aload_n 0, 1) := dgq (p := 3) daX3_wayIn_0 dbX3_wayIn_0.2.1
theorem dX3_wayIn_4 : decode cX3_wayIn 4 = .ok (.getfield 9, 3) := dgq (p := 4) daX3_wayIn_0 dbX3_wayIn_0.2.2.1
theorem dX3_wayIn_7 : decode cX3_wayIn 7 = .ok (.i2l, 1) := dgq (p := 7) daX3_wayIn_0 dbX3_wayIn_0.2.2.2.1
theorem dX3_wayIn_8 : decode cX3_wayIn 8 = .ok (.lmul, 1) := dgq (p := 8) daX3_wayIn_0 dbX3_wayIn_0.2.2.2.2.1
theorem dX3_wayIn_9 : decode cX3_wayIn 9 = .ok (.ldc2_w 27, 3) := dgq (p := 9) daX3_wayIn_0 dbX3_wayIn_0.2.2.2.2.2.1
theorem dX3_wayIn_12 : decode cX3_wayIn 12 = .ok (.ldiv, 1) := dgq (p := 12) daX3_wayIn_0 dbX3_wayIn_0.2.2.2.2.2.2.1
theorem dX3_wayIn_13 : decode cX3_wayIn 13 = .ok (.lstore_n 1, 1) := dgq (p := 13) daX3_wayIn_0 dbX3_wayIn_0.2.2.2.2.2.2.2.1
theorem dX3_wayIn_14 : decode cX3_wayIn 14 = .ok (.lload_n 1, 1) := dgq (p := 14) daX3_wayIn_0 dbX3_wayIn_0.2.2.2.2.2.2.2.2.1
theorem dX3_wayIn_15 : decode cX3_wayIn 15 = .ok (.aload_n 0, 1) := dgq (p := 15) daX3_wayIn_0 dbX3_wayIn_0.2.2.2.2.2.2.2.2.2.1
theorem dX3_wayIn_16 : decode cX3_wayIn 16 = .ok (.getfield 18, 3) := dgq (p := 16) daX3_wayIn_0 dbX3_wayIn_0.2.2.2.2.2.2.2.2.2.2.1
theorem dX3_wayIn_19 : decode cX3_wayIn 19 = .ok (.i2l, 1) := dgq (p := 19) daX3_wayIn_0 dbX3_wayIn_0.2.2.2.2.2.2.2.2.2.2.2.1
theorem dX3_wayIn_20 : decode cX3_wayIn 20 = .ok (.lload_n 1, 1) := dgq (p := 20) daX3_wayIn_0 dbX3_wayIn_0.2.2.2.2.2.2.2.2.2.2.2.2.1
theorem dX3_wayIn_21 : decode cX3_wayIn 21 = .ok (.lsub, 1) := dgq (p := 21) daX3_wayIn_0 dbX3_wayIn_0.2.2.2.2.2.2.2.2.2.2.2.2.2.1
theorem dX3_wayIn_22 : decode cX3_wayIn 22 = .ok (.lmul, 1) := dgq (p := 22) daX3_wayIn_0 dbX3_wayIn_0.2.2.2.2.2.2.2.2.2.2.2.2.2.2.1
theorem dX3_wayIn_23 : decode cX3_wayIn 23 = .ok (.invokestatic 29, 3) := dgq (p := 23) daX3_wayIn_0 dbX3_wayIn_0.2.2.2.2.2.2.2.2.2.2.2.2.2.2.2.1
theorem dX3_wayIn_26 : decode cX3_wayIn 26 = .ok (.lreturn, 1) := dgq (p := 26) daX3_wayIn_0 dbX3_wayIn_0.2.2.2.2.2.2.2.2.2.2.2.2.2.2.2.2
set_option maxRecDepth 20000 in
theorem ggX3_fits_X3_wayIn : GoodIn wsX3_fits wsX3_wayIn := goodIn_q _ [11, 12, 2, 13, 14, 15, 16, 17, 38, 39, 40, 41, 42, 43] rfl (by decide +kernel)
set_option maxRecDepth 20000 in
theorem gX3_fits_X3_wayIn : GoodIn wsX3_fits (wsV RX3 45 RX3 yX3_wayIn wsX3_wayIn) := goodIn_app (goodIn_q _ [7, 8, 9, 10] rfl (by decide +kernel)) ggX3_fits_X3_wayIn
def dsX3_fits_0 : ByteArray := ⟨#[43, 180, 0, 33, 42, 180, 0, 9, 160, 0, 54, 43, 180, 0, 36, 42, 180, 0, 15, 161, 0, 43, 42, 180, 0, 15, 4, 159, 0, 10, 43, 180, 0, 39, 155, 0, 28, 43, 180, 0, 42, 2, 159, 0, 16, 42, 182, 0, 45, 43]⟩
theorem daX3_fits_0 : agB cX3_fits dsX3_fits_0 0 := agB_of (n := 50) (by decide +kernel)
theorem dbX3_fits_0 : (decode dsX3_fits_0 0 = .ok (.aload_n 1, 1) ∧ okop dsX3_fits_0 0 = true) ∧ (decode dsX3_fits_0 1 = .ok (.getfield 33, 3) ∧ okop dsX3_fits_0 1 = true) ∧ (decode dsX3_fits_0 4 = .ok (.aload_n 0, 1) ∧ okop dsX3_fits_0 4 = true) ∧ (decode dsX3_fits_0 5 = .ok (.getfield 9, 3) ∧ okop dsX3_fits_0 5 = true) ∧ (decode dsX3_fits_0 8 = .ok (.if_icmp .ne 54, 3) ∧ okop dsX3_fits_0 8 = true) ∧ (decode dsX3_fits_0 11 = .ok (.aload_n 1, 1) ∧ okop dsX3_fits_0 11 = true) ∧ (decode dsX3_fits_0 12 = .ok (.getfield 36, 3) ∧ okop dsX3_fits_0 12 = true) ∧ (decode dsX3_fits_0 15 = .ok (.aload_n 0, 1) ∧ okop dsX3_fits_0 15 = true) ∧ (decode dsX3_fits_0 16 = .ok (.getfield 15, 3) ∧ okop dsX3_fits_0 16 = true) ∧ (decode dsX3_fits_0 19 = .ok (.if_icmp .lt 43, 3) ∧ okop dsX3_fits_0 19 = true) ∧ (decode dsX3_fits_0 22 = .ok (.aload_n 0, 1) ∧ okop dsX3_fits_0 22 = true) ∧ (decode dsX3_fits_0 23 = .ok (.getfield 15, 3) ∧ okop dsX3_fits_0 23 = true) ∧ (decode dsX3_fits_0 26 = .ok (.iconst 1, 1) ∧ okop dsX3_fits_0 26 = true) ∧ (decode dsX3_fits_0 27 = .ok (.if_icmp .eq 10, 3) ∧ okop dsX3_fits_0 27 = true) ∧ (decode dsX3_fits_0 30 = .ok (.aload_n 1, 1) ∧ okop dsX3_fits_0 30 = true) ∧ (decode dsX3_fits_0 31 = .ok (.getfield 39, 3) ∧ okop dsX3_fits_0 31 = true) ∧ (decode dsX3_fits_0 34 = .ok (.ifCond .lt 28, 3) ∧ okop dsX3_fits_0 34 = true) ∧ (decode dsX3_fits_0 37 = .ok (.aload_n 1, 1) ∧ okop dsX3_fits_0 37 = true) ∧ (decode dsX3_fits_0 38 = .ok (.getfield 42, 3) ∧ okop dsX3_fits_0 38 = true) ∧ (decode dsX3_fits_0 41 = .ok (.iconst (-1), 1) ∧ okop dsX3_fits_0 41 = true) ∧ (decode dsX3_fits_0 42 = .ok (.if_icmp .eq 16, 3) ∧ okop dsX3_fits_0 42 = true) ∧ (decode dsX3_fits_0 45 = .ok (.aload_n 0, 1) ∧ okop dsX3_fits_0 45 = true) ∧ (decode dsX3_fits_0 46 = .ok (.invokevirtual 45, 3) ∧ okop dsX3_fits_0 46 = true) ∧ (decode dsX3_fits_0 49 = .ok (.aload_n 1, 1) ∧ okop dsX3_fits_0 49 = true) := by decide +kernel
theorem dX3_fits_0 : decode cX3_fits 0 = .ok (.aload_n 1, 1) := dgq (p := 0) daX3_fits_0 dbX3_fits_0.1
theorem dX3_fits_1 : decode cX3_fits 1 = .ok (.getfield 33, 3) := dgq (p := 1) daX3_fits_0 dbX3_fits_0.2.1
theorem dX3_fits_4 : decode cX3_fits 4 = .ok (.aload_n 0, 1) := dgq (p := 4) daX3_fits_0 dbX3_fits_0.2.2.1
theorem dX3_fits_5 : decode cX3_fits 5 = .ok (.getfield 9, 3) := dgq (p := 5) daX3_fits_0 dbX3_fits_0.2.2.2.1
theorem dX3_fits_8 : decode cX3_fits 8 = .ok (.if_icmp .ne 54, 3) := dgq (p := 8) daX3_fits_0 dbX3_fits_0.2.2.2.2.1
theorem dX3_fits_11 : decode cX3_fits 11 = .ok (.aload_n 1, 1) := dgq (p := 11) daX3_fits_0 dbX3_fits_0.2.2.2.2.2.1
theorem dX3_fits_12 : decode cX3_fits 12 = .ok (.getfield 36, 3) := dgq (p := 12) daX3_fits_0 dbX3_fits_0.2.2.2.2.2.2.1
theorem dX3_fits_15 : decode cX3_fits 15 = .ok (.aload_n 0, 1) := dgq (p := 15) daX3_fits_0 dbX3_fits_0.2.2.2.2.2.2.2.1
theorem dX3_fits_16 : decode cX3_fits 16 = .ok (.getfield 15, 3) := dgq (p := 16) daX3_fits_0 dbX3_fits_0.2.2.2.2.2.2.2.2.1
theorem dX3_fits_19 : decode cX3_fits 19 = .ok (.if_icmp .lt 43, 3) := dgq (p := 19) daX3_fits_0 dbX3_fits_0.2.2.2.2.2.2.2.2.2.1
theorem dX3_fits_22 : decode cX3_fits 22 = .ok (.aload_n 0, 1) := dgq (p := 22) daX3_fits_0 dbX3_fits_0.2.2.2.2.2.2.2.2.2.2.1
theorem dX3_fits_23 : decode cX3_fits 23 = .ok (.getfield 15, 3) := dgq (p := 23) daX3_fits_0 dbX3_fits_0.2.2.2.2.2.2.2.2.2.2.2.1
theorem dX3_fits_26 : decode cX3_fits 26 = .ok (.iconst 1, 1) := dgq (p := 26) daX3_fits_0 dbX3_fits_0.2.2.2.2.2.2.2.2.2.2.2.2.1
theorem dX3_fits_27 : decode cX3_fits 27 = .ok (.if_icmp .eq 10, 3) := dgq (p := 27) daX3_fits_0 dbX3_fits_0.2.2.2.2.2.2.2.2.2.2.2.2.2.1
theorem dX3_fits_30 : decode cX3_fits 30 = .ok (.aload_n 1, 1) := dgq (p := 30) daX3_fits_0 dbX3_fits_0.2.2.2.2.2.2.2.2.2.2.2.2.2.2.1
theorem dX3_fits_31 : decode cX3_fits 31 = .ok (.getfield 39, 3) := dgq (p := 31) daX3_fits_0 dbX3_fits_0.2.2.2.2.2.2.2.2.2.2.2.2.2.2.2.1
theorem dX3_fits_34 : decode cX3_fits 34 = .ok (.ifCond .lt 28, 3) := dgq (p := 34) daX3_fits_0 dbX3_fits_0.2.2.2.2.2.2.2.2.2.2.2.2.2.2.2.2.1
theorem dX3_fits_37 : decode cX3_fits 37 = .ok (.aload_n 1, 1) := dgq (p := 37) daX3_fits_0 dbX3_fits_0.2.2.2.2.2.2.2.2.2.2.2.2.2.2.2.2.2.1
theorem dX3_fits_38 : decode cX3_fits 38 = .ok (.getfield 42, 3) := dgq (p := 38) daX3_fits_0 dbX3_fits_0.2.2.2.2.2.2.2.2.2.2.2.2.2.2.2.2.2.2.1
theorem dX3_fits_41 : decode cX3_fits 41 = .ok (.iconst (-1), 1) := dgq (p := 41) daX3_fits_0 dbX3_fits_0.2.2.2.2.2.2.2.2.2.2.2.2.2.2.2.2.2.2.2.1
theorem dX3_fits_42 : decode cX3_fits 42 = .ok (.if_icmp .eq 16, 3) := dgq (p := 42) daX3_fits_0 dbX3_fits_0.2.2.2.2.2.2.2.2.2.2.2.2.2.2.2.2.2.2.2.2.1
theorem dX3_fits_45 : decode cX3_fits 45 = .ok (.aload_n 0, 1) := dgq (p := 45) daX3_fits_0 dbX3_fits_0.2.2.2.2.2.2.2.2.2.2.2.2.2.2.2.2.2.2.2.2.2.1
theorem dX3_fits_46 : decode cX3_fits 46 = .ok (.invokevirtual 45, 3) := dgq (p := 46) daX3_fits_0 dbX3_fits_0.2.2.2.2.2.2.2.2.2.2.2.2.2.2.2.2.2.2.2.2.2.2.1
theorem dX3_fits_49 : decode cX3_fits 49 = .ok (.aload_n 1, 1) := dgq (p := 49) daX3_fits_0 dbX3_fits_0.2.2.2.2.2.2.2.2.2.2.2.2.2.2.2.2.2.2.2.2.2.2.2
def dsX3_fits_50 : ByteArray := ⟨#[180, 0, 42, 133, 148, 157, 0, 7, 4, 167, 0, 4, 3, 172]⟩
theorem daX3_fits_50 : agB cX3_fits dsX3_fits_50 50 := agB_of (n := 14) (by decide +kernel)
theorem dbX3_fits_50 : (decode dsX3_fits_50 0 = .ok (.getfield 42, 3) ∧ okop dsX3_fits_50 0 = true) ∧ (decode dsX3_fits_50 3 = .ok (.i2l, 1) ∧ okop dsX3_fits_50 3 = true) ∧ (decode dsX3_fits_50 4 = .ok (.lcmp, 1) ∧ okop dsX3_fits_50 4 = true) ∧ (decode dsX3_fits_50 5 = .ok (.ifCond .gt 7, 3) ∧ okop dsX3_fits_50 5 = true) ∧ (decode dsX3_fits_50 8 = .ok (.iconst 1, 1) ∧ okop dsX3_fits_50 8 = true) ∧ (decode dsX3_fits_50 9 = .ok (.goto 4, 3) ∧ okop dsX3_fits_50 9 = true) ∧ (decode dsX3_fits_50 12 = .ok (.iconst 0, 1) ∧ okop dsX3_fits_50 12 = true) ∧ (decode dsX3_fits_50 13 = .ok (.ireturn, 1) ∧ okop dsX3_fits_50 13 = true) := by decide +kernel
theorem dX3_fits_50 : decode cX3_fits 50 = .ok (.getfield 42, 3) := dgq (p := 0) daX3_fits_50 dbX3_fits_50.1
theorem dX3_fits_53 : decode cX3_fits 53 = .ok (.i2l, 1) := dgq (p := 3) daX3_fits_50 dbX3_fits_50.2.1
theorem dX3_fits_54 : decode cX3_fits 54 = .ok (.lcmp, 1) := dgq (p := 4) daX3_fits_50 dbX3_fits_50.2.2.1
theorem dX3_fits_55 : decode cX3_fits 55 = .ok (.ifCond .gt 7, 3) := dgq (p := 5) daX3_fits_50 dbX3_fits_50.2.2.2.1
theorem dX3_fits_58 : decode cX3_fits 58 = .ok (.iconst 1, 1) := dgq (p := 8) daX3_fits_50 dbX3_fits_50.2.2.2.2.1
theorem dX3_fits_59 : decode cX3_fits 59 = .ok (.goto 4, 3) := dgq (p := 9) daX3_fits_50 dbX3_fits_50.2.2.2.2.2.1
theorem dX3_fits_62 : decode cX3_fits 62 = .ok (.iconst 0, 1) := dgq (p := 12) daX3_fits_50 dbX3_fits_50.2.2.2.2.2.2.1
theorem dX3_fits_63 : decode cX3_fits 63 = .ok (.ireturn, 1) := dgq (p := 13) daX3_fits_50 dbX3_fits_50.2.2.2.2.2.2.2
def dsX3_isBlunt_0 : ByteArray := ⟨#[42, 180, 0, 49, 42, 180, 0, 21, 190, 162, 0, 18, 42, 180, 0, 21, 42, 180, 0, 49, 46, 17, 0, 200, 161, 0, 7, 4, 167, 0, 4, 3, 172]⟩
theorem daX3_isBlunt_0 : agB cX3_isBlunt dsX3_isBlunt_0 0 := agB_of (n := 33) (by decide +kernel)
theorem dbX3_isBlunt_0 : (decode dsX3_isBlunt_0 0 = .ok (.aload_n 0, 1) ∧ okop dsX3_isBlunt_0 0 = true) ∧ (decode dsX3_isBlunt_0 1 = .ok (.getfield 49, 3) ∧ okop dsX3_isBlunt_0 1 = true) ∧ (decode dsX3_isBlunt_0 4 = .ok (.aload_n 0, 1) ∧ okop dsX3_isBlunt_0 4 = true) ∧ (decode dsX3_isBlunt_0 5 = .ok (.getfield 21, 3) ∧ okop dsX3_isBlunt_0 5 = true) ∧ (decode dsX3_isBlunt_0 8 = .ok (.arraylength, 1) ∧ okop dsX3_isBlunt_0 8 = true) ∧ (decode dsX3_isBlunt_0 9 = .ok (.if_icmp .ge 18, 3) ∧ okop dsX3_isBlunt_0 9 = true) ∧ (decode dsX3_isBlunt_0 12 = .ok (.aload_n 0, 1) ∧ okop dsX3_isBlunt_0 12 = true) ∧ (decode dsX3_isBlunt_0 13 = .ok (.getfield 21, 3) ∧ okop dsX3_isBlunt_0 13 = true) ∧ (decode dsX3_isBlunt_0 16 = .ok (.aload_n 0, 1) ∧ okop dsX3_isBlunt_0 16 = true) ∧ (decode dsX3_isBlunt_0 17 = .ok (.getfield 49, 3) ∧ okop dsX3_isBlunt_0 17 = true) ∧ (decode dsX3_isBlunt_0 20 = .ok (.iaload, 1) ∧ okop dsX3_isBlunt_0 20 = true) ∧ (decode dsX3_isBlunt_0 21 = .ok (.sipush 200, 3) ∧ okop dsX3_isBlunt_0 21 = true) ∧ (decode dsX3_isBlunt_0 24 = .ok (.if_icmp .lt 7, 3) ∧ okop dsX3_isBlunt_0 24 = true) ∧ (decode dsX3_isBlunt_0 27 = .ok (.iconst 1, 1) ∧ okop dsX3_isBlunt_0 27 = true) ∧ (decode dsX3_isBlunt_0 28 = .ok (.goto 4, 3) ∧ okop dsX3_isBlunt_0 28 = true) ∧ (decode dsX3_isBlunt_0 31 = .ok (.iconst 0, 1) ∧ okop dsX3_isBlunt_0 31 = true) ∧ (decode dsX3_isBlunt_0 32 = .ok (.ireturn, 1) ∧ okop dsX3_isBlunt_0 32 = true) := by decide +kernel
theorem dX3_isBlunt_0 : decode cX3_isBlunt 0 = .ok (.aload_n 0, 1) := dgq (p := 0) daX3_isBlunt_0 dbX3_isBlunt_0.1
theorem dX3_isBlunt_1 : decode cX3_isBlunt 1 = .ok (.getfield 49, 3) := dgq (p := 1) daX3_isBlunt_0 dbX3_isBlunt_0.2.1
theorem dX3_isBlunt_4 : decode cX3_isBlunt 4 = .ok (.aload_n 0, 1) := dgq (p := 4) daX3_isBlunt_0 dbX3_isBlunt_0.2.2.1
theorem dX3_isBlunt_5 : decode cX3_isBlunt 5 = .ok (.getfield 21, 3) := dgq (p := 5) daX3_isBlunt_0 dbX3_isBlunt_0.2.2.2.1
theorem dX3_isBlunt_8 : decode cX3_isBlunt 8 = .ok (.arraylength, 1) := dgq (p := 8) daX3_isBlunt_0 dbX3_isBlunt_0.2.2.2.2.1
theorem dX3_isBlunt_9 : decode cX3_isBlunt 9 = .ok (.if_icmp .ge 18, 3) := dgq (p := 9) daX3_isBlunt_0 dbX3_isBlunt_0.2.2.2.2.2.1
theorem dX3_isBlunt_12 : decode cX3_isBlunt 12 = .ok (.aload_n 0, 1) := dgq (p := 12) daX3_isBlunt_0 dbX3_isBlunt_0.2.2.2.2.2.2.1
theorem dX3_isBlunt_13 : decode cX3_isBlunt 13 = .ok (.getfield 21, 3) := dgq (p := 13) daX3_isBlunt_0 dbX3_isBlunt_0.2.2.2.2.2.2.2.1
theorem dX3_isBlunt_16 : decode cX3_isBlunt 16 = .ok (.aload_n 0, 1) := dgq (p := 16) daX3_isBlunt_0 dbX3_isBlunt_0.2.2.2.2.2.2.2.2.1
theorem dX3_isBlunt_17 : decode cX3_isBlunt 17 = .ok (.getfield 49, 3) := dgq (p := 17) daX3_isBlunt_0 dbX3_isBlunt_0.2.2.2.2.2.2.2.2.2.1
theorem dX3_isBlunt_20 : decode cX3_isBlunt 20 = .ok (.iaload, 1) := dgq (p := 20) daX3_isBlunt_0 dbX3_isBlunt_0.2.2.2.2.2.2.2.2.2.2.1
theorem dX3_isBlunt_21 : decode cX3_isBlunt 21 = .ok (.sipush 200, 3) := dgq (p := 21) daX3_isBlunt_0 dbX3_isBlunt_0.2.2.2.2.2.2.2.2.2.2.2.1
theorem dX3_isBlunt_24 : decode cX3_isBlunt 24 = .ok (.if_icmp .lt 7, 3) := dgq (p := 24) daX3_isBlunt_0 dbX3_isBlunt_0.2.2.2.2.2.2.2.2.2.2.2.2.1
theorem dX3_isBlunt_27 : decode cX3_isBlunt 27 = .ok (.iconst 1, 1) := dgq (p := 27) daX3_isBlunt_0 dbX3_isBlunt_0.2.2.2.2.2.2.2.2.2.2.2.2.2.1
theorem dX3_isBlunt_28 : decode cX3_isBlunt 28 = .ok (.goto 4, 3) := dgq (p := 28) daX3_isBlunt_0 dbX3_isBlunt_0.2.2.2.2.2.2.2.2.2.2.2.2.2.2.1
theorem dX3_isBlunt_31 : decode cX3_isBlunt 31 = .ok (.iconst 0, 1) := dgq (p := 31) daX3_isBlunt_0 dbX3_isBlunt_0.2.2.2.2.2.2.2.2.2.2.2.2.2.2.2.1
theorem dX3_isBlunt_32 : decode cX3_isBlunt 32 = .ok (.ireturn, 1) := dgq (p := 32) daX3_isBlunt_0 dbX3_isBlunt_0.2.2.2.2.2.2.2.2.2.2.2.2.2.2.2.2
def dsX3_turnToNext_0 : ByteArray := ⟨#[42, 180, 0, 49, 61, 28, 42, 180, 0, 21, 190, 162, 0, 47, 42, 180, 0, 15, 158, 0, 40, 42, 180, 0, 21, 28, 92, 46, 27, 42, 180, 0, 15, 108, 96, 79, 42, 28]⟩
theorem daX3_turnToNext_0 : agB cX3_turnToNext dsX3_turnToNext_0 0 := agB_of (n := 38) (by decide +kernel)
theorem dbX3_turnToNext_0 : (decode dsX3_turnToNext_0 0 = .ok (.aload_n 0, 1) ∧ okop dsX3_turnToNext_0 0 = true) ∧ (decode dsX3_turnToNext_0 1 = .ok (.getfield 49, 3) ∧ okop dsX3_turnToNext_0 1 = true) ∧ (decode dsX3_turnToNext_0 4 = .ok (.istore_n 2, 1) ∧ okop dsX3_turnToNext_0 4 = true) ∧ (decode dsX3_turnToNext_0 5 = .ok (.iload_n 2, 1) ∧ okop dsX3_turnToNext_0 5 = true) ∧ (decode dsX3_turnToNext_0 6 = .ok (.aload_n 0, 1) ∧ okop dsX3_turnToNext_0 6 = true) ∧ (decode dsX3_turnToNext_0 7 = .ok (.getfield 21, 3) ∧ okop dsX3_turnToNext_0 7 = true) ∧ (decode dsX3_turnToNext_0 10 = .ok (.arraylength, 1) ∧ okop dsX3_turnToNext_0 10 = true) ∧ (decode dsX3_turnToNext_0 11 = .ok (.if_icmp .ge 47, 3) ∧ okop dsX3_turnToNext_0 11 = true) ∧ (decode dsX3_turnToNext_0 14 = .ok (.aload_n 0, 1) ∧ okop dsX3_turnToNext_0 14 = true) ∧ (decode dsX3_turnToNext_0 15 = .ok (.getfield 15, 3) ∧ okop dsX3_turnToNext_0 15 = true) ∧ (decode dsX3_turnToNext_0 18 = .ok (.ifCond .le 40, 3) ∧ okop dsX3_turnToNext_0 18 = true) ∧ (decode dsX3_turnToNext_0 21 = .ok (.aload_n 0, 1) ∧ okop dsX3_turnToNext_0 21 = true) ∧ (decode dsX3_turnToNext_0 22 = .ok (.getfield 21, 3) ∧ okop dsX3_turnToNext_0 22 = true) ∧ (decode dsX3_turnToNext_0 25 = .ok (.iload_n 2, 1) ∧ okop dsX3_turnToNext_0 25 = true) ∧ (decode dsX3_turnToNext_0 26 = .ok (.dup2, 1) ∧ okop dsX3_turnToNext_0 26 = true) ∧ (decode dsX3_turnToNext_0 27 = .ok (.iaload, 1) ∧ okop dsX3_turnToNext_0 27 = true) ∧ (decode dsX3_turnToNext_0 28 = .ok (.iload_n 1, 1) ∧ okop dsX3_turnToNext_0 28 = true) ∧ (decode dsX3_turnToNext_0 29 = .ok (.aload_n 0, 1) ∧ okop dsX3_turnToNext_0 29 = true) ∧ (decode dsX3_turnToNext_0 30 = .ok (.getfield 15, 3) ∧ okop dsX3_turnToNext_0 30 = true) ∧ (decode dsX3_turnToNext_0 33 = .ok (.idiv, 1) ∧ okop dsX3_turnToNext_0 33 = true) ∧ (decode dsX3_turnToNext_0 34 = .ok (.iadd, 1) ∧ okop dsX3_turnToNext_0 34 = true) ∧ (decode dsX3_turnToNext_0 35 = .ok (.iastore, 1) ∧ okop dsX3_turnToNext_0 35 = true) ∧ (decode dsX3_turnToNext_0 36 = .ok (.aload_n 0, 1) ∧ okop dsX3_turnToNext_0 36 = true) ∧ (decode dsX3_turnToNext_0 37 = .ok (.iload_n 2, 1) ∧ okop dsX3_turnToNext_0 37 = true) := by decide +kernel
theorem dX3_turnToNext_0 : decode cX3_turnToNext 0 = .ok (.aload_n 0, 1) := dgq (p := 0) daX3_turnToNext_0 dbX3_turnToNext_0.1
theorem dX3_turnToNext_1 : decode cX3_turnToNext 1 = .ok (.getfield 49, 3) := dgq (p := 1) daX3_turnToNext_0 dbX3_turnToNext_0.2.1
theorem dX3_turnToNext_4 : decode cX3_turnToNext 4 = .ok (.istore_n 2, 1) := dgq (p := 4) daX3_turnToNext_0 dbX3_turnToNext_0.2.2.1
theorem dX3_turnToNext_5 : decode cX3_turnToNext 5 = .ok (.iload_n 2, 1) := dgq (p := 5) daX3_turnToNext_0 dbX3_turnToNext_0.2.2.2.1
theorem dX3_turnToNext_6 : decode cX3_turnToNext 6 = .ok (.aload_n 0, 1) := dgq (p := 6) daX3_turnToNext_0 dbX3_turnToNext_0.2.2.2.2.1
theorem dX3_turnToNext_7 : decode cX3_turnToNext 7 = .ok (.getfield 21, 3) := dgq (p := 7) daX3_turnToNext_0 dbX3_turnToNext_0.2.2.2.2.2.1
theorem dX3_turnToNext_10 : decode cX3_turnToNext 10 = .ok (.arraylength, 1) := dgq (p := 10) daX3_turnToNext_0 dbX3_turnToNext_0.2.2.2.2.2.2.1
theorem dX3_turnToNext_11 : decode cX3_turnToNext 11 = .ok (.if_icmp .ge 47, 3) := dgq (p := 11) daX3_turnToNext_0 dbX3_turnToNext_0.2.2.2.2.2.2.2.1
theorem dX3_turnToNext_14 : decode cX3_turnToNext 14 = .ok (.aload_n 0, 1) := dgq (p := 14) daX3_turnToNext_0 dbX3_turnToNext_0.2.2.2.2.2.2.2.2.1
theorem dX3_turnToNext_15 : decode cX3_turnToNext 15 = .ok (.getfield 15, 3) := dgq (p := 15) daX3_turnToNext_0 dbX3_turnToNext_0.2.2.2.2.2.2.2.2.2.1
theorem dX3_turnToNext_18 : decode cX3_turnToNext 18 = .ok (.ifCond .le 40, 3) := dgq (p := 18) daX3_turnToNext_0 dbX3_turnToNext_0.2.2.2.2.2.2.2.2.2.2.1
theorem dX3_turnToNext_21 : decode cX3_turnToNext 21 = .ok (.aload_n 0, 1) := dgq (p := 21) daX3_turnToNext_0 dbX3_turnToNext_0.2.2.2.2.2.2.2.2.2.2.2.1
theorem dX3_turnToNext_22 : decode cX3_turnToNext 22 = .ok (.getfield 21, 3) := dgq (p := 22) daX3_turnToNext_0 dbX3_turnToNext_0.2.2.2.2.2.2.2.2.2.2.2.2.1
theorem dX3_turnToNext_25 : decode cX3_turnToNext 25 = .ok (.iload_n 2, 1) := dgq (p := 25) daX3_turnToNext_0 dbX3_turnToNext_0.2.2.2.2.2.2.2.2.2.2.2.2.2.1
theorem dX3_turnToNext_26 : decode cX3_turnToNext 26 = .ok (.dup2, 1) := dgq (p := 26) daX3_turnToNext_0 dbX3_turnToNext_0.2.2.2.2.2.2.2.2.2.2.2.2.2.2.1
theorem dX3_turnToNext_27 : decode cX3_turnToNext 27 = .ok (.iaload, 1) := dgq (p := 27) daX3_turnToNext_0 dbX3_turnToNext_0.2.2.2.2.2.2.2.2.2.2.2.2.2.2.2.1
theorem dX3_turnToNext_28 : decode cX3_turnToNext 28 = .ok (.iload_n 1, 1) := dgq (p := 28) daX3_turnToNext_0 dbX3_turnToNext_0.2.2.2.2.2.2.2.2.2.2.2.2.2.2.2.2.1
theorem dX3_turnToNext_29 : decode cX3_turnToNext 29 = .ok (.aload_n 0, 1) := dgq (p := 29) daX3_turnToNext_0 dbX3_turnToNext_0.2.2.2.2.2.2.2.2.2.2.2.2.2.2.2.2.2.1
theorem dX3_turnToNext_30 : decode cX3_turnToNext 30 = .ok (.getfield 15, 3) := dgq (p := 30) daX3_turnToNext_0 dbX3_turnToNext_0.2.2.2.2.2.2.2.2.2.2.2.2.2.2.2.2.2.2.1
theorem dX3_turnToNext_33 : decode cX3_turnToNext 33 = .ok (.idiv, 1) := dgq (p := 33) daX3_turnToNext_0 dbX3_turnToNext_0.2.2.2.2.2.2.2.2.2.2.2.2.2.2.2.2.2.2.2.1
theorem dX3_turnToNext_34 : decode cX3_turnToNext 34 = .ok (.iadd, 1) := dgq (p := 34) daX3_turnToNext_0 dbX3_turnToNext_0.2.2.2.2.2.2.2.2.2.2.2.2.2.2.2.2.2.2.2.2.1
theorem dX3_turnToNext_35 : decode cX3_turnToNext 35 = .ok (.iastore, 1) := dgq (p := 35) daX3_turnToNext_0 dbX3_turnToNext_0.2.2.2.2.2.2.2.2.2.2.2.2.2.2.2.2.2.2.2.2.2.1
theorem dX3_turnToNext_36 : decode cX3_turnToNext 36 = .ok (.aload_n 0, 1) := dgq (p := 36) daX3_turnToNext_0 dbX3_turnToNext_0.2.2.2.2.2.2.2.2.2.2.2.2.2.2.2.2.2.2.2.2.2.2.1
theorem dX3_turnToNext_37 : decode cX3_turnToNext 37 = .ok (.iload_n 2, 1) := dgq (p := 37) daX3_turnToNext_0 dbX3_turnToNext_0.2.2.2.2.2.2.2.2.2.2.2.2.2.2.2.2.2.2.2.2.2.2.2
def dsX3_turnToNext_38 : ByteArray := ⟨#[4, 96, 42, 180, 0, 21, 190, 162, 0, 9, 28, 4, 96, 167, 0, 4, 3, 181, 0, 49, 28, 172]⟩
theorem daX3_turnToNext_38 : agB cX3_turnToNext dsX3_turnToNext_38 38 := agB_of (n := 22) (by decide +kernel)
theorem dbX3_turnToNext_38 : (decode dsX3_turnToNext_38 0 = .ok (.iconst 1, 1) ∧ okop dsX3_turnToNext_38 0 = true) ∧ (decode dsX3_turnToNext_38 1 = .ok (.iadd, 1) ∧ okop dsX3_turnToNext_38 1 = true) ∧ (decode dsX3_turnToNext_38 2 = .ok (.aload_n 0, 1) ∧ okop dsX3_turnToNext_38 2 = true) ∧ (decode dsX3_turnToNext_38 3 = .ok (.getfield 21, 3) ∧ okop dsX3_turnToNext_38 3 = true) ∧ (decode dsX3_turnToNext_38 6 = .ok (.arraylength, 1) ∧ okop dsX3_turnToNext_38 6 = true) ∧ (decode dsX3_turnToNext_38 7 = .ok (.if_icmp .ge 9, 3) ∧ okop dsX3_turnToNext_38 7 = true) ∧ (decode dsX3_turnToNext_38 10 = .ok (.iload_n 2, 1) ∧ okop dsX3_turnToNext_38 10 = true) ∧ (decode dsX3_turnToNext_38 11 = .ok (.iconst 1, 1) ∧ okop dsX3_turnToNext_38 11 = true) ∧ (decode dsX3_turnToNext_38 12 = .ok (.iadd, 1) ∧ okop dsX3_turnToNext_38 12 = true) ∧ (decode dsX3_turnToNext_38 13 = .ok (.goto 4, 3) ∧ okop dsX3_turnToNext_38 13 = true) ∧ (decode dsX3_turnToNext_38 16 = .ok (.iconst 0, 1) ∧ okop dsX3_turnToNext_38 16 = true) ∧ (decode dsX3_turnToNext_38 17 = .ok (.putfield 49, 3) ∧ okop dsX3_turnToNext_38 17 = true) ∧ (decode dsX3_turnToNext_38 20 = .ok (.iload_n 2, 1) ∧ okop dsX3_turnToNext_38 20 = true) ∧ (decode dsX3_turnToNext_38 21 = .ok (.ireturn, 1) ∧ okop dsX3_turnToNext_38 21 = true) := by decide +kernel
theorem dX3_turnToNext_38 : decode cX3_turnToNext 38 = .ok (.iconst 1, 1) := dgq (p := 0) daX3_turnToNext_38 dbX3_turnToNext_38.1
theorem dX3_turnToNext_39 : decode cX3_turnToNext 39 = .ok (.iadd, 1) := dgq (p := 1) daX3_turnToNext_38 dbX3_turnToNext_38.2.1
theorem dX3_turnToNext_40 : decode cX3_turnToNext 40 = .ok (.aload_n 0, 1) := dgq (p := 2) daX3_turnToNext_38 dbX3_turnToNext_38.2.2.1
theorem dX3_turnToNext_41 : decode cX3_turnToNext 41 = .ok (.getfield 21, 3) := dgq (p := 3) daX3_turnToNext_38 dbX3_turnToNext_38.2.2.2.1
theorem dX3_turnToNext_44 : decode cX3_turnToNext 44 = .ok (.arraylength, 1) := dgq (p := 6) daX3_turnToNext_38 dbX3_turnToNext_38.2.2.2.2.1
theorem dX3_turnToNext_45 : decode cX3_turnToNext 45 = .ok (.if_icmp .ge 9, 3) := dgq (p := 7) daX3_turnToNext_38 dbX3_turnToNext_38.2.2.2.2.2.1
theorem dX3_turnToNext_48 : decode cX3_turnToNext 48 = .ok (.iload_n 2, 1) := dgq (p := 10) daX3_turnToNext_38 dbX3_turnToNext_38.2.2.2.2.2.2.1
theorem dX3_turnToNext_49 : decode cX3_turnToNext 49 = .ok (.iconst 1, 1) := dgq (p := 11) daX3_turnToNext_38 dbX3_turnToNext_38.2.2.2.2.2.2.2.1
theorem dX3_turnToNext_50 : decode cX3_turnToNext 50 = .ok (.iadd, 1) := dgq (p := 12) daX3_turnToNext_38 dbX3_turnToNext_38.2.2.2.2.2.2.2.2.1
theorem dX3_turnToNext_51 : decode cX3_turnToNext 51 = .ok (.goto 4, 3) := dgq (p := 13) daX3_turnToNext_38 dbX3_turnToNext_38.2.2.2.2.2.2.2.2.2.1
theorem dX3_turnToNext_54 : decode cX3_turnToNext 54 = .ok (.iconst 0, 1) := dgq (p := 16) daX3_turnToNext_38 dbX3_turnToNext_38.2.2.2.2.2.2.2.2.2.2.1
theorem dX3_turnToNext_55 : decode cX3_turnToNext 55 = .ok (.putfield 49, 3) := dgq (p := 17) daX3_turnToNext_38 dbX3_turnToNext_38.2.2.2.2.2.2.2.2.2.2.2.1
theorem dX3_turnToNext_58 : decode cX3_turnToNext 58 = .ok (.iload_n 2, 1) := dgq (p := 20) daX3_turnToNext_38 dbX3_turnToNext_38.2.2.2.2.2.2.2.2.2.2.2.2.1
theorem dX3_turnToNext_59 : decode cX3_turnToNext 59 = .ok (.ireturn, 1) := dgq (p := 21) daX3_turnToNext_38 dbX3_turnToNext_38.2.2.2.2.2.2.2.2.2.2.2.2.2
def dsX3_sharpen_0 : ByteArray := ⟨#[42, 89, 180, 0, 18, 16, 100, 100, 181, 0, 18, 42, 89, 180, 0, 52, 4, 96, 181, 0, 52, 3, 60, 27, 42, 180, 0, 21, 190, 162, 0, 16, 42, 180, 0, 21, 27, 3, 79]⟩
theorem daX3_sharpen_0 : agB cX3_sharpen dsX3_sharpen_0 0 := agB_of (n := 39) (by decide +kernel)
theorem dbX3_sharpen_0 : (decode dsX3_sharpen_0 0 = .ok (.aload_n 0, 1) ∧ okop dsX3_sharpen_0 0 = true) ∧ (decode dsX3_sharpen_0 1 = .ok (.dup, 1) ∧ okop dsX3_sharpen_0 1 = true) ∧ (decode dsX3_sharpen_0 2 = .ok (.getfield 18, 3) ∧ okop dsX3_sharpen_0 2 = true) ∧ (decode dsX3_sharpen_0 5 = .ok (.bipush 100, 2) ∧ okop dsX3_sharpen_0 5 = true) ∧ (decode dsX3_sharpen_0 7 = .ok (.isub, 1) ∧ okop dsX3_sharpen_0 7 = true) ∧ (decode dsX3_sharpen_0 8 = .ok (.putfield 18, 3) ∧ okop dsX3_sharpen_0 8 = true) ∧ (decode dsX3_sharpen_0 11 = .ok (.aload_n 0, 1) ∧ okop dsX3_sharpen_0 11 = true) ∧ (decode dsX3_sharpen_0 12 = .ok (.dup, 1) ∧ okop dsX3_sharpen_0 12 = true) ∧ (decode dsX3_sharpen_0 13 = .ok (.getfield 52, 3) ∧ okop dsX3_sharpen_0 13 = true) ∧ (decode dsX3_sharpen_0 16 = .ok (.iconst 1, 1) ∧ okop dsX3_sharpen_0 16 = true) ∧ (decode dsX3_sharpen_0 17 = .ok (.iadd, 1) ∧ okop dsX3_sharpen_0 17 = true) ∧ (decode dsX3_sharpen_0 18 = .ok (.putfield 52, 3) ∧ okop dsX3_sharpen_0 18 = true) ∧ (decode dsX3_sharpen_0 21 = .ok (.iconst 0, 1) ∧ okop dsX3_sharpen_0 21 = true) ∧ (decode dsX3_sharpen_0 22 = .ok (.istore_n 1, 1) ∧ okop dsX3_sharpen_0 22 = true) ∧ (decode dsX3_sharpen_0 23 = .ok (.iload_n 1, 1) ∧ okop dsX3_sharpen_0 23 = true) ∧ (decode dsX3_sharpen_0 24 = .ok (.aload_n 0, 1) ∧ okop dsX3_sharpen_0 24 = true) ∧ (decode dsX3_sharpen_0 25 = .ok (.getfield 21, 3) ∧ okop dsX3_sharpen_0 25 = true) ∧ (decode dsX3_sharpen_0 28 = .ok (.arraylength, 1) ∧ okop dsX3_sharpen_0 28 = true) ∧ (decode dsX3_sharpen_0 29 = .ok (.if_icmp .ge 16, 3) ∧ okop dsX3_sharpen_0 29 = true) ∧ (decode dsX3_sharpen_0 32 = .ok (.aload_n 0, 1) ∧ okop dsX3_sharpen_0 32 = true) ∧ (decode dsX3_sharpen_0 33 = .ok (.getfield 21, 3) ∧ okop dsX3_sharpen_0 33 = true) ∧ (decode dsX3_sharpen_0 36 = .ok (.iload_n 1, 1) ∧ okop dsX3_sharpen_0 36 = true) ∧ (decode dsX3_sharpen_0 37 = .ok (.iconst 0, 1) ∧ okop dsX3_sharpen_0 37 = true) ∧ (decode dsX3_sharpen_0 38 = .ok (.iastore, 1) ∧ okop dsX3_sharpen_0 38 = true) := by decide +kernel
theorem dX3_sharpen_0 : decode cX3_sharpen 0 = .ok (.aload_n 0, 1) := dgq (p := 0) daX3_sharpen_0 dbX3_sharpen_0.1
theorem dX3_sharpen_1 : decode cX3_sharpen 1 = .ok (.dup, 1) := dgq (p := 1) daX3_sharpen_0 dbX3_sharpen_0.2.1
theorem dX3_sharpen_2 : decode cX3_sharpen 2 = .ok (.getfield 18, 3) := dgq (p := 2) daX3_sharpen_0 dbX3_sharpen_0.2.2.1
theorem dX3_sharpen_5 : decode cX3_sharpen 5 = .ok (.bipush 100, 2) := dgq (p := 5) daX3_sharpen_0 dbX3_sharpen_0.2.2.2.1
theorem dX3_sharpen_7 : decode cX3_sharpen 7 = .ok (.isub, 1) := dgq (p := 7) daX3_sharpen_0 dbX3_sharpen_0.2.2.2.2.1
theorem dX3_sharpen_8 : decode cX3_sharpen 8 = .ok (.putfield 18, 3) := dgq (p := 8) daX3_sharpen_0 dbX3_sharpen_0.2.2.2.2.2.1
theorem dX3_sharpen_11 : decode cX3_sharpen 11 = .ok (.aload_n 0, 1) := dgq (p := 11) daX3_sharpen_0 dbX3_sharpen_0.2.2.2.2.2.2.1
theorem dX3_sharpen_12 : decode cX3_sharpen 12 = .ok (.dup, 1) := dgq (p := 12) daX3_sharpen_0 dbX3_sharpen_0.2.2.2.2.2.2.2.1
theorem dX3_sharpen_13 : decode cX3_sharpen 13 = .ok (.getfield 52, 3) := dgq (p := 13) daX3_sharpen_0 dbX3_sharpen_0.2.2.2.2.2.2.2.2.1
theorem dX3_sharpen_16 : decode cX3_sharpen 16 = .ok (.iconst 1, 1) := dgq (p := 16) daX3_sharpen_0 dbX3_sharpen_0.2.2.2.2.2.2.2.2.2.1
theorem dX3_sharpen_17 : decode cX3_sharpen 17 = .ok (.iadd, 1) := dgq (p := 17) daX3_sharpen_0 dbX3_sharpen_0.2.2.2.2.2.2.2.2.2.2.1
theorem dX3_sharpen_18 : decode cX3_sharpen 18 = .ok (.putfield 52, 3) := dgq (p := 18) daX3_sharpen_0 dbX3_sharpen_0.2.2.2.2.2.2.2.2.2.2.2.1
theorem dX3_sharpen_21 : decode cX3_sharpen 21 = .ok (.iconst 0, 1) := dgq (p := 21) daX3_sharpen_0 dbX3_sharpen_0.2.2.2.2.2.2.2.2.2.2.2.2.1
theorem dX3_sharpen_22 : decode cX3_sharpen 22 = .ok (.istore_n 1, 1) := dgq (p := 22) daX3_sharpen_0 dbX3_sharpen_0.2.2.2.2.2.2.2.2.2.2.2.2.2.1
theorem dX3_sharpen_23 : decode cX3_sharpen 23 = .ok (.iload_n 1, 1) := dgq (p := 23) daX3_sharpen_0 dbX3_sharpen_0.2.2.2.2.2.2.2.2.2.2.2.2.2.2.1
theorem dX3_sharpen_24 : decode cX3_sharpen 24 = .ok (.aload_n 0, 1) := dgq (p := 24) daX3_sharpen_0 dbX3_sharpen_0.2.2.2.2.2.2.2.2.2.2.2.2.2.2.2.1
theorem dX3_sharpen_25 : decode cX3_sharpen 25 = .ok (.getfield 21, 3) := dgq (p := 25) daX3_sharpen_0 dbX3_sharpen_0.2.2.2.2.2.2.2.2.2.2.2.2.2.2.2.2.1
theorem dX3_sharpen_28 : decode cX3_sharpen 28 = .ok (.arraylength, 1) := dgq (p := 28) daX3_sharpen_0 dbX3_sharpen_0.2.2.2.2.2.2.2.2.2.2.2.2.2.2.2.2.2.1
theorem dX3_sharpen_29 : decode cX3_sharpen 29 = .ok (.if_icmp .ge 16, 3) := dgq (p := 29) daX3_sharpen_0 dbX3_sharpen_0.2.2.2.2.2.2.2.2.2.2.2.2.2.2.2.2.2.2.1
theorem dX3_sharpen_32 : decode cX3_sharpen 32 = .ok (.aload_n 0, 1) := dgq (p := 32) daX3_sharpen_0 dbX3_sharpen_0.2.2.2.2.2.2.2.2.2.2.2.2.2.2.2.2.2.2.2.1
theorem dX3_sharpen_33 : decode cX3_sharpen 33 = .ok (.getfield 21, 3) := dgq (p := 33) daX3_sharpen_0 dbX3_sharpen_0.2.2.2.2.2.2.2.2.2.2.2.2.2.2.2.2.2.2.2.2.1
theorem dX3_sharpen_36 : decode cX3_sharpen 36 = .ok (.iload_n 1, 1) := dgq (p := 36) daX3_sharpen_0 dbX3_sharpen_0.2.2.2.2.2.2.2.2.2.2.2.2.2.2.2.2.2.2.2.2.2.1
theorem dX3_sharpen_37 : decode cX3_sharpen 37 = .ok (.iconst 0, 1) := dgq (p := 37) daX3_sharpen_0 dbX3_sharpen_0.2.2.2.2.2.2.2.2.2.2.2.2.2.2.2.2.2.2.2.2.2.2.1
theorem dX3_sharpen_38 : decode cX3_sharpen 38 = .ok (.iastore, 1) := dgq (p := 38) daX3_sharpen_0 dbX3_sharpen_0.2.2.2.2.2.2.2.2.2.2.2.2.2.2.2.2.2.2.2.2.2.2.2
def dsX3_sharpen_39 : ByteArray := ⟨#[132, 1, 1, 167, 255, 237, 177]⟩
theorem daX3_sharpen_39 : agB cX3_sharpen dsX3_sharpen_39 39 := agB_of (n := 7) (by decide +kernel)
theorem dbX3_sharpen_39 : (decode dsX3_sharpen_39 0 = .ok (.iinc 1 1, 3) ∧ okop dsX3_sharpen_39 0 = true) ∧ (decode dsX3_sharpen_39 3 = .ok (.goto (-19), 3) ∧ okop dsX3_sharpen_39 3 = true) ∧ (decode dsX3_sharpen_39 6 = .ok (.return_, 1) ∧ okop dsX3_sharpen_39 6 = true) := by decide +kernel
theorem dX3_sharpen_39 : decode cX3_sharpen 39 = .ok (.iinc 1 1, 3) := dgq (p := 0) daX3_sharpen_39 dbX3_sharpen_39.1
theorem dX3_sharpen_42 : decode cX3_sharpen 42 = .ok (.goto (-19), 3) := dgq (p := 3) daX3_sharpen_39 dbX3_sharpen_39.2.1
theorem dX3_sharpen_45 : decode cX3_sharpen 45 = .ok (.return_, 1) := dgq (p := 6) daX3_sharpen_39 dbX3_sharpen_39.2.2
theorem dX4_init_23 : decode cX4_init 23 = .ok (.newarray .int, 2) := by decide +kernel
theorem dX4_init_30 : decode cX4_init 30 = .ok (.newarray .boolean, 2) := by decide +kernel
theorem dX4_init_37 : decode cX4_init 37 = .ok (.newarray .int, 2) := by decide +kernel
theorem dX4_init_44 : decode cX4_init 44 = .ok (.newarray .int, 2) := by decide +kernel
def dsX4_init_0 : ByteArray := ⟨#[42, 183, 0, 3, 42, 8, 189, 0, 9, 181, 0, 11, 42, 8, 189, 0, 9, 181, 0, 17, 42, 16, 25, 188, 10, 181, 0, 20, 42, 8, 188, 4, 181, 0, 24, 42, 8, 188, 10, 181, 0, 28, 42, 8, 188, 10, 181, 0, 31, 177]⟩
theorem daX4_init_0 : agB cX4_init dsX4_init_0 0 := agB_of (n := 50) (by decide +kernel)
theorem dbX4_init_0 : (decode dsX4_init_0 0 = .ok (.aload_n 0, 1) ∧ okop dsX4_init_0 0 = true) ∧ (decode dsX4_init_0 1 = .ok (.invokespecial 3, 3) ∧ okop dsX4_init_0 1 = true) ∧ (decode dsX4_init_0 4 = .ok (.aload_n 0, 1) ∧ okop dsX4_init_0 4 = true) ∧ (decode dsX4_init_0 5 = .ok (.iconst 5, 1) ∧ okop dsX4_init_0 5 = true) ∧ (decode dsX4_init_0 6 = .ok (.anewarray 9, 3) ∧ okop dsX4_init_0 6 = true) ∧ (decode dsX4_init_0 9 = .ok (.putfield 11, 3) ∧ okop dsX4_init_0 9 = true) ∧ (decode dsX4_init_0 12 = .ok (.aload_n 0, 1) ∧ okop dsX4_init_0 12 = true) ∧ (decode dsX4_init_0 13 = .ok (.iconst 5, 1) ∧ okop dsX4_init_0 13 = true) ∧ (decode dsX4_init_0 14 = .ok (.anewarray 9, 3) ∧ okop dsX4_init_0 14 = true) ∧ (decode dsX4_init_0 17 = .ok (.putfield 17, 3) ∧ okop dsX4_init_0 17 = true) ∧ (decode dsX4_init_0 20 = .ok (.aload_n 0, 1) ∧ okop dsX4_init_0 20 = true) ∧ (decode dsX4_init_0 21 = .ok (.bipush 25, 2) ∧ okop dsX4_init_0 21 = true) ∧ (decode dsX4_init_0 25 = .ok (.putfield 20, 3) ∧ okop dsX4_init_0 25 = true) ∧ (decode dsX4_init_0 28 = .ok (.aload_n 0, 1) ∧ okop dsX4_init_0 28 = true) ∧ (decode dsX4_init_0 29 = .ok (.iconst 5, 1) ∧ okop dsX4_init_0 29 = true) ∧ (decode dsX4_init_0 32 = .ok (.putfield 24, 3) ∧ okop dsX4_init_0 32 = true) ∧ (decode dsX4_init_0 35 = .ok (.aload_n 0, 1) ∧ okop dsX4_init_0 35 = true) ∧ (decode dsX4_init_0 36 = .ok (.iconst 5, 1) ∧ okop dsX4_init_0 36 = true) ∧ (decode dsX4_init_0 39 = .ok (.putfield 28, 3) ∧ okop dsX4_init_0 39 = true) ∧ (decode dsX4_init_0 42 = .ok (.aload_n 0, 1) ∧ okop dsX4_init_0 42 = true) ∧ (decode dsX4_init_0 43 = .ok (.iconst 5, 1) ∧ okop dsX4_init_0 43 = true) ∧ (decode dsX4_init_0 46 = .ok (.putfield 31, 3) ∧ okop dsX4_init_0 46 = true) ∧ (decode dsX4_init_0 49 = .ok (.return_, 1) ∧ okop dsX4_init_0 49 = true) := by decide +kernel
theorem dX4_init_0 : decode cX4_init 0 = .ok (.aload_n 0, 1) := dgq (p := 0) daX4_init_0 dbX4_init_0.1
theorem dX4_init_1 : decode cX4_init 1 = .ok (.invokespecial 3, 3) := dgq (p := 1) daX4_init_0 dbX4_init_0.2.1
theorem dX4_init_4 : decode cX4_init 4 = .ok (.aload_n 0, 1) := dgq (p := 4) daX4_init_0 dbX4_init_0.2.2.1
theorem dX4_init_5 : decode cX4_init 5 = .ok (.iconst 5, 1) := dgq (p := 5) daX4_init_0 dbX4_init_0.2.2.2.1
theorem dX4_init_6 : decode cX4_init 6 = .ok (.anewarray 9, 3) := dgq (p := 6) daX4_init_0 dbX4_init_0.2.2.2.2.1
theorem dX4_init_9 : decode cX4_init 9 = .ok (.putfield 11, 3) := dgq (p := 9) daX4_init_0 dbX4_init_0.2.2.2.2.2.1
theorem dX4_init_12 : decode cX4_init 12 = .ok (.aload_n 0, 1) := dgq (p := 12) daX4_init_0 dbX4_init_0.2.2.2.2.2.2.1
theorem dX4_init_13 : decode cX4_init 13 = .ok (.iconst 5, 1) := dgq (p := 13) daX4_init_0 dbX4_init_0.2.2.2.2.2.2.2.1
theorem dX4_init_14 : decode cX4_init 14 = .ok (.anewarray 9, 3) := dgq (p := 14) daX4_init_0 dbX4_init_0.2.2.2.2.2.2.2.2.1
theorem dX4_init_17 : decode cX4_init 17 = .ok (.putfield 17, 3) := dgq (p := 17) daX4_init_0 dbX4_init_0.2.2.2.2.2.2.2.2.2.1
theorem dX4_init_20 : decode cX4_init 20 = .ok (.aload_n 0, 1) := dgq (p := 20) daX4_init_0 dbX4_init_0.2.2.2.2.2.2.2.2.2.2.1
theorem dX4_init_21 : decode cX4_init 21 = .ok (.bipush 25, 2) := dgq (p := 21) daX4_init_0 dbX4_init_0.2.2.2.2.2.2.2.2.2.2.2.1
theorem dX4_init_25 : decode cX4_init 25 = .ok (.putfield 20, 3) := dgq (p := 25) daX4_init_0 dbX4_init_0.2.2.2.2.2.2.2.2.2.2.2.2.1
theorem dX4_init_28 : decode cX4_init 28 = .ok (.aload_n 0, 1) := dgq (p := 28) daX4_init_0 dbX4_init_0.2.2.2.2.2.2.2.2.2.2.2.2.2.1
theorem dX4_init_29 : decode cX4_init 29 = .ok (.iconst 5, 1) := dgq (p := 29) daX4_init_0 dbX4_init_0.2.2.2.2.2.2.2.2.2.2.2.2.2.2.1
theorem dX4_init_32 : decode cX4_init 32 = .ok (.putfield 24, 3) := dgq (p := 32) daX4_init_0 dbX4_init_0.2.2.2.2.2.2.2.2.2.2.2.2.2.2.2.1
theorem dX4_init_35 : decode cX4_init 35 = .ok (.aload_n 0, 1) := dgq (p := 35) daX4_init_0 dbX4_init_0.2.2.2.2.2.2.2.2.2.2.2.2.2.2.2.2.1
theorem dX4_init_36 : decode cX4_init 36 = .ok (.iconst 5, 1) := dgq (p := 36) daX4_init_0 dbX4_init_0.2.2.2.2.2.2.2.2.2.2.2.2.2.2.2.2.2.1
theorem dX4_init_39 : decode cX4_init 39 = .ok (.putfield 28, 3) := dgq (p := 39) daX4_init_0 dbX4_init_0.2.2.2.2.2.2.2.2.2.2.2.2.2.2.2.2.2.2.1
theorem dX4_init_42 : decode cX4_init 42 = .ok (.aload_n 0, 1) := dgq (p := 42) daX4_init_0 dbX4_init_0.2.2.2.2.2.2.2.2.2.2.2.2.2.2.2.2.2.2.2.1
theorem dX4_init_43 : decode cX4_init 43 = .ok (.iconst 5, 1) := dgq (p := 43) daX4_init_0 dbX4_init_0.2.2.2.2.2.2.2.2.2.2.2.2.2.2.2.2.2.2.2.2.1
theorem dX4_init_46 : decode cX4_init 46 = .ok (.putfield 31, 3) := dgq (p := 46) daX4_init_0 dbX4_init_0.2.2.2.2.2.2.2.2.2.2.2.2.2.2.2.2.2.2.2.2.2.1
theorem dX4_init_49 : decode cX4_init 49 = .ok (.return_, 1) := dgq (p := 49) daX4_init_0 dbX4_init_0.2.2.2.2.2.2.2.2.2.2.2.2.2.2.2.2.2.2.2.2.2.2
def dsX4_begin_0 : ByteArray := ⟨#[42, 3, 181, 0, 34, 42, 3, 181, 0, 38, 177]⟩
theorem daX4_begin_0 : agB cX4_begin dsX4_begin_0 0 := agB_of (n := 11) (by decide +kernel)
theorem dbX4_begin_0 : (decode dsX4_begin_0 0 = .ok (.aload_n 0, 1) ∧ okop dsX4_begin_0 0 = true) ∧ (decode dsX4_begin_0 1 = .ok (.iconst 0, 1) ∧ okop dsX4_begin_0 1 = true) ∧ (decode dsX4_begin_0 2 = .ok (.putfield 34, 3) ∧ okop dsX4_begin_0 2 = true) ∧ (decode dsX4_begin_0 5 = .ok (.aload_n 0, 1) ∧ okop dsX4_begin_0 5 = true) ∧ (decode dsX4_begin_0 6 = .ok (.iconst 0, 1) ∧ okop dsX4_begin_0 6 = true) ∧ (decode dsX4_begin_0 7 = .ok (.putfield 38, 3) ∧ okop dsX4_begin_0 7 = true) ∧ (decode dsX4_begin_0 10 = .ok (.return_, 1) ∧ okop dsX4_begin_0 10 = true) := by decide +kernel
theorem dX4_begin_0 : decode cX4_begin 0 = .ok (.aload_n 0, 1) := dgq (p := 0) daX4_begin_0 dbX4_begin_0.1
theorem dX4_begin_1 : decode cX4_begin 1 = .ok (.iconst 0, 1) := dgq (p := 1) daX4_begin_0 dbX4_begin_0.2.1
theorem dX4_begin_2 : decode cX4_begin 2 = .ok (.putfield 34, 3) := dgq (p := 2) daX4_begin_0 dbX4_begin_0.2.2.1
theorem dX4_begin_5 : decode cX4_begin 5 = .ok (.aload_n 0, 1) := dgq (p := 5) daX4_begin_0 dbX4_begin_0.2.2.2.1
theorem dX4_begin_6 : decode cX4_begin 6 = .ok (.iconst 0, 1) := dgq (p := 6) daX4_begin_0 dbX4_begin_0.2.2.2.2.1
theorem dX4_begin_7 : decode cX4_begin 7 = .ok (.putfield 38, 3) := dgq (p := 7) daX4_begin_0 dbX4_begin_0.2.2.2.2.2.1
theorem dX4_begin_10 : decode cX4_begin 10 = .ok (.return_, 1) := dgq (p := 10) daX4_begin_0 dbX4_begin_0.2.2.2.2.2.2
def dsX4_offer_0 : ByteArray := ⟨#[43, 180, 0, 41, 28, 160, 0, 31, 42, 180, 0, 34, 8, 162, 0, 23, 42, 180, 0, 11, 42, 180, 0, 34, 43, 83, 42, 89, 180, 0, 34, 4, 96, 181, 0, 34, 43, 180, 0, 41, 29, 160, 0, 31]⟩
theorem daX4_offer_0 : agB cX4_offer dsX4_offer_0 0 := agB_of (n := 44) (by decide +kernel)
theorem dbX4_offer_0 : (decode dsX4_offer_0 0 = .ok (.aload_n 1, 1) ∧ okop dsX4_offer_0 0 = true) ∧ (decode dsX4_offer_0 1 = .ok (.getfield 41, 3) ∧ okop dsX4_offer_0 1 = true) ∧ (decode dsX4_offer_0 4 = .ok (.iload_n 2, 1) ∧ okop dsX4_offer_0 4 = true) ∧ (decode dsX4_offer_0 5 = .ok (.if_icmp .ne 31, 3) ∧ okop dsX4_offer_0 5 = true) ∧ (decode dsX4_offer_0 8 = .ok (.aload_n 0, 1) ∧ okop dsX4_offer_0 8 = true) ∧ (decode dsX4_offer_0 9 = .ok (.getfield 34, 3) ∧ okop dsX4_offer_0 9 = true) ∧ (decode dsX4_offer_0 12 = .ok (.iconst 5, 1) ∧ okop dsX4_offer_0 12 = true) ∧ (decode dsX4_offer_0 13 = .ok (.if_icmp .ge 23, 3) ∧ okop dsX4_offer_0 13 = true) ∧ (decode dsX4_offer_0 16 = .ok (.aload_n 0, 1) ∧ okop dsX4_offer_0 16 = true) ∧ (decode dsX4_offer_0 17 = .ok (.getfield 11, 3) ∧ okop dsX4_offer_0 17 = true) ∧ (decode dsX4_offer_0 20 = .ok (.aload_n 0, 1) ∧ okop dsX4_offer_0 20 = true) ∧ (decode dsX4_offer_0 21 = .ok (.getfield 34, 3) ∧ okop dsX4_offer_0 21 = true) ∧ (decode dsX4_offer_0 24 = .ok (.aload_n 1, 1) ∧ okop dsX4_offer_0 24 = true) ∧ (decode dsX4_offer_0 25 = .ok (.aastore, 1) ∧ okop dsX4_offer_0 25 = true) ∧ (decode dsX4_offer_0 26 = .ok (.aload_n 0, 1) ∧ okop dsX4_offer_0 26 = true) ∧ (decode dsX4_offer_0 27 = .ok (.dup, 1) ∧ okop dsX4_offer_0 27 = true) ∧ (decode dsX4_offer_0 28 = .ok (.getfield 34, 3) ∧ okop dsX4_offer_0 28 = true) ∧ (decode dsX4_offer_0 31 = .ok (.iconst 1, 1) ∧ okop dsX4_offer_0 31 = true) ∧ (decode dsX4_offer_0 32 = .ok (.iadd, 1) ∧ okop dsX4_offer_0 32 = true) ∧ (decode dsX4_offer_0 33 = .ok (.putfield 34, 3) ∧ okop dsX4_offer_0 33 = true) ∧ (decode dsX4_offer_0 36 = .ok (.aload_n 1, 1) ∧ okop dsX4_offer_0 36 = true) ∧ (decode dsX4_offer_0 37 = .ok (.getfield 41, 3) ∧ okop dsX4_offer_0 37 = true) ∧ (decode dsX4_offer_0 40 = .ok (.iload_n 3, 1) ∧ okop dsX4_offer_0 40 = true) ∧ (decode dsX4_offer_0 41 = .ok (.if_icmp .ne 31, 3) ∧ okop dsX4_offer_0 41 = true) := by decide +kernel
theorem dX4_offer_0 : decode cX4_offer 0 = .ok (.aload_n 1, 1) := dgq (p := 0) daX4_offer_0 dbX4_offer_0.1
theorem dX4_offer_1 : decode cX4_offer 1 = .ok (.getfield 41, 3) := dgq (p := 1) daX4_offer_0 dbX4_offer_0.2.1
theorem dX4_offer_4 : decode cX4_offer 4 = .ok (.iload_n 2, 1) := dgq (p := 4) daX4_offer_0 dbX4_offer_0.2.2.1
theorem dX4_offer_5 : decode cX4_offer 5 = .ok (.if_icmp .ne 31, 3) := dgq (p := 5) daX4_offer_0 dbX4_offer_0.2.2.2.1
theorem dX4_offer_8 : decode cX4_offer 8 = .ok (.aload_n 0, 1) := dgq (p := 8) daX4_offer_0 dbX4_offer_0.2.2.2.2.1
theorem dX4_offer_9 : decode cX4_offer 9 = .ok (.getfield 34, 3) := dgq (p := 9) daX4_offer_0 dbX4_offer_0.2.2.2.2.2.1
theorem dX4_offer_12 : decode cX4_offer 12 = .ok (.iconst 5, 1) := dgq (p := 12) daX4_offer_0 dbX4_offer_0.2.2.2.2.2.2.1
theorem dX4_offer_13 : decode cX4_offer 13 = .ok (.if_icmp .ge 23, 3) := dgq (p := 13) daX4_offer_0 dbX4_offer_0.2.2.2.2.2.2.2.1
theorem dX4_offer_16 : decode cX4_offer 16 = .ok (.aload_n 0, 1) := dgq (p := 16) daX4_offer_0 dbX4_offer_0.2.2.2.2.2.2.2.2.1
theorem dX4_offer_17 : decode cX4_offer 17 = .ok (.getfield 11, 3) := dgq (p := 17) daX4_offer_0 dbX4_offer_0.2.2.2.2.2.2.2.2.2.1
theorem dX4_offer_20 : decode cX4_offer 20 = .ok (.aload_n 0, 1) := dgq (p := 20) daX4_offer_0 dbX4_offer_0.2.2.2.2.2.2.2.2.2.2.1
theorem dX4_offer_21 : decode cX4_offer 21 = .ok (.getfield 34, 3) := dgq (p := 21) daX4_offer_0 dbX4_offer_0.2.2.2.2.2.2.2.2.2.2.2.1
theorem dX4_offer_24 : decode cX4_offer 24 = .ok (.aload_n 1, 1) := dgq (p := 24) daX4_offer_0 dbX4_offer_0.2.2.2.2.2.2.2.2.2.2.2.2.1
theorem dX4_offer_25 : decode cX4_offer 25 = .ok (.aastore, 1) := dgq (p := 25) daX4_offer_0 dbX4_offer_0.2.2.2.2.2.2.2.2.2.2.2.2.2.1
theorem dX4_offer_26 : decode cX4_offer 26 = .ok (.aload_n 0, 1) := dgq (p := 26) daX4_offer_0 dbX4_offer_0.2.2.2.2.2.2.2.2.2.2.2.2.2.2.1
theorem dX4_offer_27 : decode cX4_offer 27 = .ok (.dup, 1) := dgq (p := 27) daX4_offer_0 dbX4_offer_0.2.2.2.2.2.2.2.2.2.2.2.2.2.2.2.1
theorem dX4_offer_28 : decode cX4_offer 28 = .ok (.getfield 34, 3) := dgq (p := 28) daX4_offer_0 dbX4_offer_0.2.2.2.2.2.2.2.2.2.2.2.2.2.2.2.2.1
theorem dX4_offer_31 : decode cX4_offer 31 = .ok (.iconst 1, 1) := dgq (p := 31) daX4_offer_0 dbX4_offer_0.2.2.2.2.2.2.2.2.2.2.2.2.2.2.2.2.2.1
theorem dX4_offer_32 : decode cX4_offer 32 = .ok (.iadd, 1) := dgq (p := 32) daX4_offer_0 dbX4_offer_0.2.2.2.2.2.2.2.2.2.2.2.2.2.2.2.2.2.2.1
theorem dX4_offer_33 : decode cX4_offer 33 = .ok (.putfield 34, 3) := dgq (p := 33) daX4_offer_0 dbX4_offer_0.2.2.2.2.2.2.2.2.2.2.2.2.2.2.2.2.2.2.2.1
theorem dX4_offer_36 : decode cX4_offer 36 = .ok (.aload_n 1, 1) := dgq (p := 36) daX4_offer_0 dbX4_offer_0.2.2.2.2.2.2.2.2.2.2.2.2.2.2.2.2.2.2.2.2.1
theorem dX4_offer_37 : decode cX4_offer 37 = .ok (.getfield 41, 3) := dgq (p := 37) daX4_offer_0 dbX4_offer_0.2.2.2.2.2.2.2.2.2.2.2.2.2.2.2.2.2.2.2.2.2.1
theorem dX4_offer_40 : decode cX4_offer 40 = .ok (.iload_n 3, 1) := dgq (p := 40) daX4_offer_0 dbX4_offer_0.2.2.2.2.2.2.2.2.2.2.2.2.2.2.2.2.2.2.2.2.2.2.1
theorem dX4_offer_41 : decode cX4_offer 41 = .ok (.if_icmp .ne 31, 3) := dgq (p := 41) daX4_offer_0 dbX4_offer_0.2.2.2.2.2.2.2.2.2.2.2.2.2.2.2.2.2.2.2.2.2.2.2
def dsX4_offer_44 : ByteArray := ⟨#[42, 180, 0, 38, 8, 162, 0, 23, 42, 180, 0, 17, 42, 180, 0, 38, 43, 83, 42, 89, 180, 0, 38, 4, 96, 181, 0, 38, 177]⟩
theorem daX4_offer_44 : agB cX4_offer dsX4_offer_44 44 := agB_of (n := 29) (by decide +kernel)
theorem dbX4_offer_44 : (decode dsX4_offer_44 0 = .ok (.aload_n 0, 1) ∧ okop dsX4_offer_44 0 = true) ∧ (decode dsX4_offer_44 1 = .ok (.getfield 38, 3) ∧ okop dsX4_offer_44 1 = true) ∧ (decode dsX4_offer_44 4 = .ok (.iconst 5, 1) ∧ okop dsX4_offer_44 4 = true) ∧ (decode dsX4_offer_44 5 = .ok (.if_icmp .ge 23, 3) ∧ okop dsX4_offer_44 5 = true) ∧ (decode dsX4_offer_44 8 = .ok (.aload_n 0, 1) ∧ okop dsX4_offer_44 8 = true) ∧ (decode dsX4_offer_44 9 = .ok (.getfield 17, 3) ∧ okop dsX4_offer_44 9 = true) ∧ (decode dsX4_offer_44 12 = .ok (.aload_n 0, 1) ∧ okop dsX4_offer_44 12 = true) ∧ (decode dsX4_offer_44 13 = .ok (.getfield 38, 3) ∧ okop dsX4_offer_44 13 = true) ∧ (decode dsX4_offer_44 16 = .ok (.aload_n 1, 1) ∧ okop dsX4_offer_44 16 = true) ∧ (decode dsX4_offer_44 17 = .ok (.aastore, 1) ∧ okop dsX4_offer_44 17 = true) ∧ (decode dsX4_offer_44 18 = .ok (.aload_n 0, 1) ∧ okop dsX4_offer_44 18 = true) ∧ (decode dsX4_offer_44 19 = .ok (.dup, 1) ∧ okop dsX4_offer_44 19 = true) ∧ (decode dsX4_offer_44 20 = .ok (.getfield 38, 3) ∧ okop dsX4_offer_44 20 = true) ∧ (decode dsX4_offer_44 23 = .ok (.iconst 1, 1) ∧ okop dsX4_offer_44 23 = true) ∧ (decode dsX4_offer_44 24 = .ok (.iadd, 1) ∧ okop dsX4_offer_44 24 = true) ∧ (decode dsX4_offer_44 25 = .ok (.putfield 38, 3) ∧ okop dsX4_offer_44 25 = true) ∧ (decode dsX4_offer_44 28 = .ok (.return_, 1) ∧ okop dsX4_offer_44 28 = true) := by decide +kernel
theorem dX4_offer_44 : decode cX4_offer 44 = .ok (.aload_n 0, 1) := dgq (p := 0) daX4_offer_44 dbX4_offer_44.1
theorem dX4_offer_45 : decode cX4_offer 45 = .ok (.getfield 38, 3) := dgq (p := 1) daX4_offer_44 dbX4_offer_44.2.1
theorem dX4_offer_48 : decode cX4_offer 48 = .ok (.iconst 5, 1) := dgq (p := 4) daX4_offer_44 dbX4_offer_44.2.2.1
theorem dX4_offer_49 : decode cX4_offer 49 = .ok (.if_icmp .ge 23, 3) := dgq (p := 5) daX4_offer_44 dbX4_offer_44.2.2.2.1
theorem dX4_offer_52 : decode cX4_offer 52 = .ok (.aload_n 0, 1) := dgq (p := 8) daX4_offer_44 dbX4_offer_44.2.2.2.2.1
theorem dX4_offer_53 : decode cX4_offer 53 = .ok (.getfield 17, 3) := dgq (p := 9) daX4_offer_44 dbX4_offer_44.2.2.2.2.2.1
theorem dX4_offer_56 : decode cX4_offer 56 = .ok (.aload_n 0, 1) := dgq (p := 12) daX4_offer_44 dbX4_offer_44.2.2.2.2.2.2.1
theorem dX4_offer_57 : decode cX4_offer 57 = .ok (.getfield 38, 3) := dgq (p := 13) daX4_offer_44 dbX4_offer_44.2.2.2.2.2.2.2.1
theorem dX4_offer_60 : decode cX4_offer 60 = .ok (.aload_n 1, 1) := dgq (p := 16) daX4_offer_44 dbX4_offer_44.2.2.2.2.2.2.2.2.1
theorem dX4_offer_61 : decode cX4_offer 61 = .ok (.aastore, 1) := dgq (p := 17) daX4_offer_44 dbX4_offer_44.2.2.2.2.2.2.2.2.2.1
theorem dX4_offer_62 : decode cX4_offer 62 = .ok (.aload_n 0, 1) := dgq (p := 18) daX4_offer_44 dbX4_offer_44.2.2.2.2.2.2.2.2.2.2.1
theorem dX4_offer_63 : decode cX4_offer 63 = .ok (.dup, 1) := dgq (p := 19) daX4_offer_44 dbX4_offer_44.2.2.2.2.2.2.2.2.2.2.2.1
theorem dX4_offer_64 : decode cX4_offer 64 = .ok (.getfield 38, 3) := dgq (p := 20) daX4_offer_44 dbX4_offer_44.2.2.2.2.2.2.2.2.2.2.2.2.1
theorem dX4_offer_67 : decode cX4_offer 67 = .ok (.iconst 1, 1) := dgq (p := 23) daX4_offer_44 dbX4_offer_44.2.2.2.2.2.2.2.2.2.2.2.2.2.1
theorem dX4_offer_68 : decode cX4_offer 68 = .ok (.iadd, 1) := dgq (p := 24) daX4_offer_44 dbX4_offer_44.2.2.2.2.2.2.2.2.2.2.2.2.2.2.1
theorem dX4_offer_69 : decode cX4_offer 69 = .ok (.putfield 38, 3) := dgq (p := 25) daX4_offer_44 dbX4_offer_44.2.2.2.2.2.2.2.2.2.2.2.2.2.2.2.1
theorem dX4_offer_72 : decode cX4_offer 72 = .ok (.return_, 1) := dgq (p := 28) daX4_offer_44 dbX4_offer_44.2.2.2.2.2.2.2.2.2.2.2.2.2.2.2.2
set_option maxRecDepth 20000 in
theorem ggX4_rollAll_X2_pairsWith : GoodIn wsX4_rollAll wsX2_pairsWith := goodIn_q _ [11, 12, 13, 64, 65, 66, 67, 68, 69, 70, 71, 72, 73, 74, 75, 76, 77, 78, 79, 80, 81, 82, 83] rfl (by decide +kernel)
set_option maxRecDepth 20000 in
theorem gX4_rollAll_X2_pairsWith : GoodIn wsX4_rollAll (wsV RX4 44 RX2 yX2_pairsWith wsX2_pairsWith) := goodIn_app (goodIn_q _ [7, 8, 9, 10] rfl (by decide +kernel)) ggX4_rollAll_X2_pairsWith
set_option maxRecDepth 20000 in
theorem ggX4_rollAll_X6_take : GoodIn wsX4_rollAll wsX6_take := goodIn_ca (goodIn_ca (goodIn_q _ [18, 19, 20, 21, 22, 23, 24, 25, 26, 27, 28, 29, 30, 31, 32, 33, 34, 35, 36, 37, 38, 17, 39, 84, 85, 86, 87, 88, 89, 90, 91] rfl (by decide +kernel)) (goodIn_sub (fun _ h => List.mem_cons_of_mem _ (List.mem_append_right _ h)) (by decide +kernel))) (goodIn_sub (fun _ h => List.mem_cons_of_mem _ (List.mem_append_left _ (List.mem_append_right _ h))) (by decide +kernel))
set_option maxRecDepth 20000 in
theorem gX4_rollAll_X6_take : GoodIn wsX4_rollAll (wsV RX4 52 RX6 yX6_take wsX6_take) := goodIn_app (goodIn_q _ [14, 15, 16, 17] rfl (by decide +kernel)) ggX4_rollAll_X6_take
set_option maxRecDepth 20000 in
theorem ggX4_rollAll_X6_quietStart : GoodIn wsX4_rollAll wsX6_quietStart := goodIn_ca (goodIn_q _ [43, 27, 44, 45, 46, 17, 47, 48, 49, 28, 30, 24, 25, 22, 26, 29, 31, 20, 21, 23, 50, 51, 52, 53, 87, 88, 89, 90, 91] rfl (by decide +kernel)) (goodIn_sub (fun _ h => List.mem_cons_of_mem _ (List.mem_append_left _ (List.mem_append_right _ h))) (by decide +kernel))
set_option maxRecDepth 20000 in
theorem gX4_rollAll_X6_quietStart : GoodIn wsX4_rollAll (wsV RX4 58 RX6 yX6_quietStart wsX6_quietStart) := goodIn_app (goodIn_q _ [40, 41, 42, 17] rfl (by decide +kernel)) ggX4_rollAll_X6_quietStart
set_option maxRecDepth 20000 in
theorem ggX4_rollAll_X6_peakFrom : GoodIn wsX4_rollAll wsX6_peakFrom := goodIn_ca (goodIn_q _ [47, 48, 49, 27, 28, 30, 24, 25, 22, 26, 29, 31, 20, 21, 23, 50, 51, 52, 53, 87, 88, 89, 90, 91] rfl (by decide +kernel)) (goodIn_sub (fun _ h => List.mem_cons_of_mem _ (List.mem_append_left _ (List.mem_append_right _ h))) (by decide +kernel))
set_option maxRecDepth 20000 in
theorem gX4_rollAll_X6_peakFrom : GoodIn wsX4_rollAll (wsV RX4 62 RX6 yX6_peakFrom wsX6_peakFrom) := goodIn_app (goodIn_q _ [54, 45, 46, 17] rfl (by decide +kernel)) ggX4_rollAll_X6_peakFrom
def dsX4_rollAll_0 : ByteArray := ⟨#[3, 61, 28, 42, 180, 0, 34, 162, 0, 94, 3, 62, 29, 42, 180, 0, 38, 162, 0, 78, 42, 180, 0, 20, 28, 8, 104, 29, 96, 2, 79, 42, 180, 0, 11, 28]⟩
theorem daX4_rollAll_0 : agB cX4_rollAll dsX4_rollAll_0 0 := agB_of (n := 36) (by decide +kernel)
theorem dbX4_rollAll_0 : (decode dsX4_rollAll_0 0 = .ok (.iconst 0, 1) ∧ okop dsX4_rollAll_0 0 = true) ∧ (decode dsX4_rollAll_0 1 = .ok (.istore_n 2, 1) ∧ okop dsX4_rollAll_0 1 = true) ∧ (decode dsX4_rollAll_0 2 = .ok (.iload_n 2, 1) ∧ okop dsX4_rollAll_0 2 = true) ∧ (decode dsX4_rollAll_0 3 = .ok (.aload_n 0, 1) ∧ okop dsX4_rollAll_0 3 = true) ∧ (decode dsX4_rollAll_0 4 = .ok (.getfield 34, 3) ∧ okop dsX4_rollAll_0 4 = true) ∧ (decode dsX4_rollAll_0 7 = .ok (.if_icmp .ge 94, 3) ∧ okop dsX4_rollAll_0 7 = true) ∧ (decode dsX4_rollAll_0 10 = .ok (.iconst 0, 1) ∧ okop dsX4_rollAll_0 10 = true) ∧ (decode dsX4_rollAll_0 11 = .ok (.istore_n 3, 1) ∧ okop dsX4_rollAll_0 11 = true) ∧ (decode dsX4_rollAll_0 12 = .ok (.iload_n 3, 1) ∧ okop dsX4_rollAll_0 12 = true) ∧ (decode dsX4_rollAll_0 13 = .ok (.aload_n 0, 1) ∧ okop dsX4_rollAll_0 13 = true) ∧ (decode dsX4_rollAll_0 14 = .ok (.getfield 38, 3) ∧ okop dsX4_rollAll_0 14 = true) ∧ (decode dsX4_rollAll_0 17 = .ok (.if_icmp .ge 78, 3) ∧ okop dsX4_rollAll_0 17 = true) ∧ (decode dsX4_rollAll_0 20 = .ok (.aload_n 0, 1) ∧ okop dsX4_rollAll_0 20 = true) ∧ (decode dsX4_rollAll_0 21 = .ok (.getfield 20, 3) ∧ okop dsX4_rollAll_0 21 = true) ∧ (decode dsX4_rollAll_0 24 = .ok (.iload_n 2, 1) ∧ okop dsX4_rollAll_0 24 = true) ∧ (decode dsX4_rollAll_0 25 = .ok (.iconst 5, 1) ∧ okop dsX4_rollAll_0 25 = true) ∧ (decode dsX4_rollAll_0 26 = .ok (.imul, 1) ∧ okop dsX4_rollAll_0 26 = true) ∧ (decode dsX4_rollAll_0 27 = .ok (.iload_n 3, 1) ∧ okop dsX4_rollAll_0 27 = true) ∧ (decode dsX4_rollAll_0 28 = .ok (.iadd, 1) ∧ okop dsX4_rollAll_0 28 = true) ∧ (decode dsX4_rollAll_0 29 = .ok (.iconst (-1), 1) ∧ okop dsX4_rollAll_0 29 = true) ∧ (decode dsX4_rollAll_0 30 = .ok (.iastore, 1) ∧ okop dsX4_rollAll_0 30 = true) ∧ (decode dsX4_rollAll_0 31 = .ok (.aload_n 0, 1) ∧ okop dsX4_rollAll_0 31 = true) ∧ (decode dsX4_rollAll_0 32 = .ok (.getfield 11, 3) ∧ okop dsX4_rollAll_0 32 = true) ∧ (decode dsX4_rollAll_0 35 = .ok (.iload_n 2, 1) ∧ okop dsX4_rollAll_0 35 = true) := by decide +kernel
theorem dX4_rollAll_0 : decode cX4_rollAll 0 = .ok (.iconst 0, 1) := dgq (p := 0) daX4_rollAll_0 dbX4_rollAll_0.1
theorem dX4_rollAll_1 : decode cX4_rollAll 1 = .ok (.istore_n 2, 1) := dgq (p := 1) daX4_rollAll_0 dbX4_rollAll_0.2.1
theorem dX4_rollAll_2 : decode cX4_rollAll 2 = .ok (.iload_n 2, 1) := dgq (p := 2) daX4_rollAll_0 dbX4_rollAll_0.2.2.1
theorem dX4_rollAll_3 : decode cX4_rollAll 3 = .ok (.aload_n 0, 1) := dgq (p := 3) daX4_rollAll_0 dbX4_rollAll_0.2.2.2.1
theorem dX4_rollAll_4 : decode cX4_rollAll 4 = .ok (.getfield 34, 3) := dgq (p := 4) daX4_rollAll_0 dbX4_rollAll_0.2.2.2.2.1
theorem dX4_rollAll_7 : decode cX4_rollAll 7 = .ok (.if_icmp .ge 94, 3) := dgq (p := 7) daX4_rollAll_0 dbX4_rollAll_0.2.2.2.2.2.1
theorem dX4_rollAll_10 : decode cX4_rollAll 10 = .ok (.iconst 0, 1) := dgq (p := 10) daX4_rollAll_0 dbX4_rollAll_0.2.2.2.2.2.2.1
theorem dX4_rollAll_11 : decode cX4_rollAll 11 = .ok (.istore_n 3, 1) := dgq (p := 11) daX4_rollAll_0 dbX4_rollAll_0.2.2.2.2.2.2.2.1
theorem dX4_rollAll_12 : decode cX4_rollAll 12 = .ok (.iload_n 3, 1) := dgq (p := 12) daX4_rollAll_0 dbX4_rollAll_0.2.2.2.2.2.2.2.2.1
theorem dX4_rollAll_13 : decode cX4_rollAll 13 = .ok (.aload_n 0, 1) := dgq (p := 13) daX4_rollAll_0 dbX4_rollAll_0.2.2.2.2.2.2.2.2.2.1
theorem dX4_rollAll_14 : decode cX4_rollAll 14 = .ok (.getfield 38, 3) := dgq (p := 14) daX4_rollAll_0 dbX4_rollAll_0.2.2.2.2.2.2.2.2.2.2.1
theorem dX4_rollAll_17 : decode cX4_rollAll 17 = .ok (.if_icmp .ge 78, 3) := dgq (p := 17) daX4_rollAll_0 dbX4_rollAll_0.2.2.2.2.2.2.2.2.2.2.2.1
theorem dX4_rollAll_20 : decode cX4_rollAll 20 = .ok (.aload_n 0, 1) := dgq (p := 20) daX4_rollAll_0 dbX4_rollAll_0.2.2.2.2.2.2.2.2.2.2.2.2.1
theorem dX4_rollAll_21 : decode cX4_rollAll 21 = .ok (.getfield 20, 3) := dgq (p := 21) daX4_rollAll_0 dbX4_rollAll_0.2.2.2.2.2.2.2.2.2.2.2.2.2.1
theorem dX4_rollAll_24 : decode cX4_rollAll 24 = .ok (.iload_n 2, 1) := dgq (p := 24) daX4_rollAll_0 dbX4_rollAll_0.2.2.2.2.2.2.2.2.2.2.2.2.2.2.1
theorem dX4_rollAll_25 : decode cX4_rollAll 25 = .ok (.iconst 5, 1) := dgq (p := 25) daX4_rollAll_0 dbX4_rollAll_0.2.2.2.2.2.2.2.2.2.2.2.2.2.2.2.1
theorem dX4_rollAll_26 : decode cX4_rollAll 26 = .ok (.imul, 1) := dgq (p := 26) daX4_rollAll_0 dbX4_rollAll_0.2.2.2.2.2.2.2.2.2.2.2.2.2.2.2.2.1
theorem dX4_rollAll_27 : decode cX4_rollAll 27 = .ok (.iload_n 3, 1) := dgq (p := 27) daX4_rollAll_0 dbX4_rollAll_0.2.2.2.2.2.2.2.2.2.2.2.2.2.2.2.2.2.1
theorem dX4_rollAll_28 : decode cX4_rollAll 28 = .ok (.iadd, 1) := dgq (p := 28) daX4_rollAll_0 dbX4_rollAll_0.2.2.2.2.2.2.2.2.2.2.2.2.2.2.2.2.2.2.1
theorem dX4_rollAll_29 : decode cX4_rollAll 29 = .ok (.iconst (-1), 1) := dgq (p := 29) daX4_rollAll_0 dbX4_rollAll_0.2.2.2.2.2.2.2.2.2.2.2.2.2.2.2.2.2.2.2.1
theorem dX4_rollAll_30 : decode cX4_rollAll 30 = .ok (.iastore, 1) := dgq (p := 30) daX4_rollAll_0 dbX4_rollAll_0.2.2.2.2.2.2.2.2.2.2.2.2.2.2.2.2.2.2.2.2.1
theorem dX4_rollAll_31 : decode cX4_rollAll 31 = .ok (.aload_n 0, 1) := dgq (p := 31) daX4_rollAll_0 dbX4_rollAll_0.2.2.2.2.2.2.2.2.2.2.2.2.2.2.2.2.2.2.2.2.2.1
theorem dX4_rollAll_32 : decode cX4_rollAll 32 = .ok (.getfield 11, 3) := dgq (p := 32) daX4_rollAll_0 dbX4_rollAll_0.2.2.2.2.2.2.2.2.2.2.2.2.2.2.2.2.2.2.2.2.2.2.1
theorem dX4_rollAll_35 : decode cX4_rollAll 35 = .ok (.iload_n 2, 1) := dgq (p := 35) daX4_rollAll_0 dbX4_rollAll_0.2.2.2.2.2.2.2.2.2.2.2.2.2.2.2.2.2.2.2.2.2.2.2
def dsX4_rollAll_36 : ByteArray := ⟨#[50, 42, 180, 0, 17, 29, 50, 182, 0, 44, 153, 0, 43, 43, 42, 180, 0, 11, 28, 50, 180, 0, 48, 42, 180, 0, 17, 29, 50, 180, 0, 48, 182, 0, 52, 42, 180, 0, 20, 28, 8, 104]⟩
theorem daX4_rollAll_36 : agB cX4_rollAll dsX4_rollAll_36 36 := agB_of (n := 42) (by decide +kernel)
theorem dbX4_rollAll_36 : (decode dsX4_rollAll_36 0 = .ok (.aaload, 1) ∧ okop dsX4_rollAll_36 0 = true) ∧ (decode dsX4_rollAll_36 1 = .ok (.aload_n 0, 1) ∧ okop dsX4_rollAll_36 1 = true) ∧ (decode dsX4_rollAll_36 2 = .ok (.getfield 17, 3) ∧ okop dsX4_rollAll_36 2 = true) ∧ (decode dsX4_rollAll_36 5 = .ok (.iload_n 3, 1) ∧ okop dsX4_rollAll_36 5 = true) ∧ (decode dsX4_rollAll_36 6 = .ok (.aaload, 1) ∧ okop dsX4_rollAll_36 6 = true) ∧ (decode dsX4_rollAll_36 7 = .ok (.invokevirtual 44, 3) ∧ okop dsX4_rollAll_36 7 = true) ∧ (decode dsX4_rollAll_36 10 = .ok (.ifCond .eq 43, 3) ∧ okop dsX4_rollAll_36 10 = true) ∧ (decode dsX4_rollAll_36 13 = .ok (.aload_n 1, 1) ∧ okop dsX4_rollAll_36 13 = true) ∧ (decode dsX4_rollAll_36 14 = .ok (.aload_n 0, 1) ∧ okop dsX4_rollAll_36 14 = true) ∧ (decode dsX4_rollAll_36 15 = .ok (.getfield 11, 3) ∧ okop dsX4_rollAll_36 15 = true) ∧ (decode dsX4_rollAll_36 18 = .ok (.iload_n 2, 1) ∧ okop dsX4_rollAll_36 18 = true) ∧ (decode dsX4_rollAll_36 19 = .ok (.aaload, 1) ∧ okop dsX4_rollAll_36 19 = true) ∧ (decode dsX4_rollAll_36 20 = .ok (.getfield 48, 3) ∧ okop dsX4_rollAll_36 20 = true) ∧ (decode dsX4_rollAll_36 23 = .ok (.aload_n 0, 1) ∧ okop dsX4_rollAll_36 23 = true) ∧ (decode dsX4_rollAll_36 24 = .ok (.getfield 17, 3) ∧ okop dsX4_rollAll_36 24 = true) ∧ (decode dsX4_rollAll_36 27 = .ok (.iload_n 3, 1) ∧ okop dsX4_rollAll_36 27 = true) ∧ (decode dsX4_rollAll_36 28 = .ok (.aaload, 1) ∧ okop dsX4_rollAll_36 28 = true) ∧ (decode dsX4_rollAll_36 29 = .ok (.getfield 48, 3) ∧ okop dsX4_rollAll_36 29 = true) ∧ (decode dsX4_rollAll_36 32 = .ok (.invokevirtual 52, 3) ∧ okop dsX4_rollAll_36 32 = true) ∧ (decode dsX4_rollAll_36 35 = .ok (.aload_n 0, 1) ∧ okop dsX4_rollAll_36 35 = true) ∧ (decode dsX4_rollAll_36 36 = .ok (.getfield 20, 3) ∧ okop dsX4_rollAll_36 36 = true) ∧ (decode dsX4_rollAll_36 39 = .ok (.iload_n 2, 1) ∧ okop dsX4_rollAll_36 39 = true) ∧ (decode dsX4_rollAll_36 40 = .ok (.iconst 5, 1) ∧ okop dsX4_rollAll_36 40 = true) ∧ (decode dsX4_rollAll_36 41 = .ok (.imul, 1) ∧ okop dsX4_rollAll_36 41 = true) := by decide +kernel
theorem dX4_rollAll_36 : decode cX4_rollAll 36 = .ok (.aaload, 1) := dgq (p := 0) daX4_rollAll_36 dbX4_rollAll_36.1
theorem dX4_rollAll_37 : decode cX4_rollAll 37 = .ok (.aload_n 0, 1) := dgq (p := 1) daX4_rollAll_36 dbX4_rollAll_36.2.1
theorem dX4_rollAll_38 : decode cX4_rollAll 38 = .ok (.getfield 17, 3) := dgq (p := 2) daX4_rollAll_36 dbX4_rollAll_36.2.2.1
theorem dX4_rollAll_41 : decode cX4_rollAll 41 = .ok (.iload_n 3, 1) := dgq (p := 5) daX4_rollAll_36 dbX4_rollAll_36.2.2.2.1
theorem dX4_rollAll_42 : decode cX4_rollAll 42 = .ok (.aaload, 1) := dgq (p := 6) daX4_rollAll_36 dbX4_rollAll_36.2.2.2.2.1
theorem dX4_rollAll_43 : decode cX4_rollAll 43 = .ok (.invokevirtual 44, 3) := dgq (p := 7) daX4_rollAll_36 dbX4_rollAll_36.2.2.2.2.2.1
theorem dX4_rollAll_46 : decode cX4_rollAll 46 = .ok (.ifCond .eq 43, 3) := dgq (p := 10) daX4_rollAll_36 dbX4_rollAll_36.2.2.2.2.2.2.1
theorem dX4_rollAll_49 : decode cX4_rollAll 49 = .ok (.aload_n 1, 1) := dgq (p := 13) daX4_rollAll_36 dbX4_rollAll_36.2.2.2.2.2.2.2.1
theorem dX4_rollAll_50 : decode cX4_rollAll 50 = .ok (.aload_n 0, 1) := dgq (p := 14) daX4_rollAll_36 dbX4_rollAll_36.2.2.2.2.2.2.2.2.1
theorem dX4_rollAll_51 : decode cX4_rollAll 51 = .ok (.getfield 11, 3) := dgq (p := 15) daX4_rollAll_36 dbX4_rollAll_36.2.2.2.2.2.2.2.2.2.1
theorem dX4_rollAll_54 : decode cX4_rollAll 54 = .ok (.iload_n 2, 1) := dgq (p := 18) daX4_rollAll_36 dbX4_rollAll_36.2.2.2.2.2.2.2.2.2.2.1
theorem dX4_rollAll_55 : decode cX4_rollAll 55 = .ok (.aaload, 1) := dgq (p := 19) daX4_rollAll_36 dbX4_rollAll_36.2.2.2.2.2.2.2.2.2.2.2.1
theorem dX4_rollAll_56 : decode cX4_rollAll 56 = .ok (.getfield 48, 3) := dgq (p := 20) daX4_rollAll_36 dbX4_rollAll_36.2.2.2.2.2.2.2.2.2.2.2.2.1
theorem dX4_rollAll_59 : decode cX4_rollAll 59 = .ok (.aload_n 0, 1) := dgq (p := 23) daX4_rollAll_36 dbX4_rollAll_36.2.2.2.2.2.2.2.2.2.2.2.2.2.1
theorem dX4_rollAll_60 : decode cX4_rollAll 60 = .ok (.getfield 17, 3) := dgq (p := 24) daX4_rollAll_36 dbX4_rollAll_36.2.2.2.2.2.2.2.2.2.2.2.2.2.2.1
theorem dX4_rollAll_63 : decode cX4_rollAll 63 = .ok (.iload_n 3, 1) := dgq (p := 27) daX4_rollAll_36 dbX4_rollAll_36.2.2.2.2.2.2.2.2.2.2.2.2.2.2.2.1
theorem dX4_rollAll_64 : decode cX4_rollAll 64 = .ok (.aaload, 1) := dgq (p := 28) daX4_rollAll_36 dbX4_rollAll_36.2.2.2.2.2.2.2.2.2.2.2.2.2.2.2.2.1
theorem dX4_rollAll_65 : decode cX4_rollAll 65 = .ok (.getfield 48, 3) := dgq (p := 29) daX4_rollAll_36 dbX4_rollAll_36.2.2.2.2.2.2.2.2.2.2.2.2.2.2.2.2.2.1
theorem dX4_rollAll_68 : decode cX4_rollAll 68 = .ok (.invokevirtual 52, 3) := dgq (p := 32) daX4_rollAll_36 dbX4_rollAll_36.2.2.2.2.2.2.2.2.2.2.2.2.2.2.2.2.2.2.1
theorem dX4_rollAll_71 : decode cX4_rollAll 71 = .ok (.aload_n 0, 1) := dgq (p := 35) daX4_rollAll_36 dbX4_rollAll_36.2.2.2.2.2.2.2.2.2.2.2.2.2.2.2.2.2.2.2.1
theorem dX4_rollAll_72 : decode cX4_rollAll 72 = .ok (.getfield 20, 3) := dgq (p := 36) daX4_rollAll_36 dbX4_rollAll_36.2.2.2.2.2.2.2.2.2.2.2.2.2.2.2.2.2.2.2.2.1
theorem dX4_rollAll_75 : decode cX4_rollAll 75 = .ok (.iload_n 2, 1) := dgq (p := 39) daX4_rollAll_36 dbX4_rollAll_36.2.2.2.2.2.2.2.2.2.2.2.2.2.2.2.2.2.2.2.2.2.1
theorem dX4_rollAll_76 : decode cX4_rollAll 76 = .ok (.iconst 5, 1) := dgq (p := 40) daX4_rollAll_36 dbX4_rollAll_36.2.2.2.2.2.2.2.2.2.2.2.2.2.2.2.2.2.2.2.2.2.2.1
theorem dX4_rollAll_77 : decode cX4_rollAll 77 = .ok (.imul, 1) := dgq (p := 41) daX4_rollAll_36 dbX4_rollAll_36.2.2.2.2.2.2.2.2.2.2.2.2.2.2.2.2.2.2.2.2.2.2.2
def dsX4_rollAll_78 : ByteArray := ⟨#[29, 96, 43, 43, 182, 0, 58, 182, 0, 62, 79, 132, 3, 1, 167, 255, 176, 132, 2, 1, 167, 255, 160, 177]⟩
theorem daX4_rollAll_78 : agB cX4_rollAll dsX4_rollAll_78 78 := agB_of (n := 24) (by decide +kernel)
theorem dbX4_rollAll_78 : (decode dsX4_rollAll_78 0 = .ok (.iload_n 3, 1) ∧ okop dsX4_rollAll_78 0 = true) ∧ (decode dsX4_rollAll_78 1 = .ok (.iadd, 1) ∧ okop dsX4_rollAll_78 1 = true) ∧ (decode dsX4_rollAll_78 2 = .ok (.aload_n 1, 1) ∧ okop dsX4_rollAll_78 2 = true) ∧ (decode dsX4_rollAll_78 3 = .ok (.aload_n 1, 1) ∧ okop dsX4_rollAll_78 3 = true) ∧ (decode dsX4_rollAll_78 4 = .ok (.invokevirtual 58, 3) ∧ okop dsX4_rollAll_78 4 = true) ∧ (decode dsX4_rollAll_78 7 = .ok (.invokevirtual 62, 3) ∧ okop dsX4_rollAll_78 7 = true) ∧ (decode dsX4_rollAll_78 10 = .ok (.iastore, 1) ∧ okop dsX4_rollAll_78 10 = true) ∧ (decode dsX4_rollAll_78 11 = .ok (.iinc 3 1, 3) ∧ okop dsX4_rollAll_78 11 = true) ∧ (decode dsX4_rollAll_78 14 = .ok (.goto (-80), 3) ∧ okop dsX4_rollAll_78 14 = true) ∧ (decode dsX4_rollAll_78 17 = .ok (.iinc 2 1, 3) ∧ okop dsX4_rollAll_78 17 = true) ∧ (decode dsX4_rollAll_78 20 = .ok (.goto (-96), 3) ∧ okop dsX4_rollAll_78 20 = true) ∧ (decode dsX4_rollAll_78 23 = .ok (.return_, 1) ∧ okop dsX4_rollAll_78 23 = true) := by decide +kernel
theorem dX4_rollAll_78 : decode cX4_rollAll 78 = .ok (.iload_n 3, 1) := dgq (p := 0) daX4_rollAll_78 dbX4_rollAll_78.1
theorem dX4_rollAll_79 : decode cX4_rollAll 79 = .ok (.iadd, 1) := dgq (p := 1) daX4_rollAll_78 dbX4_rollAll_78.2.1
theorem dX4_rollAll_80 : decode cX4_rollAll 80 = .ok (.aload_n 1, 1) := dgq (p := 2) daX4_rollAll_78 dbX4_rollAll_78.2.2.1
theorem dX4_rollAll_81 : decode cX4_rollAll 81 = .ok (.aload_n 1, 1) := dgq (p := 3) daX4_rollAll_78 dbX4_rollAll_78.2.2.2.1
theorem dX4_rollAll_82 : decode cX4_rollAll 82 = .ok (.invokevirtual 58, 3) := dgq (p := 4) daX4_rollAll_78 dbX4_rollAll_78.2.2.2.2.1
theorem dX4_rollAll_85 : decode cX4_rollAll 85 = .ok (.invokevirtual 62, 3) := dgq (p := 7) daX4_rollAll_78 dbX4_rollAll_78.2.2.2.2.2.1
theorem dX4_rollAll_88 : decode cX4_rollAll 88 = .ok (.iastore, 1) := dgq (p := 10) daX4_rollAll_78 dbX4_rollAll_78.2.2.2.2.2.2.1
theorem dX4_rollAll_89 : decode cX4_rollAll 89 = .ok (.iinc 3 1, 3) := dgq (p := 11) daX4_rollAll_78 dbX4_rollAll_78.2.2.2.2.2.2.2.1
theorem dX4_rollAll_92 : decode cX4_rollAll 92 = .ok (.goto (-80), 3) := dgq (p := 14) daX4_rollAll_78 dbX4_rollAll_78.2.2.2.2.2.2.2.2.1
theorem dX4_rollAll_95 : decode cX4_rollAll 95 = .ok (.iinc 2 1, 3) := dgq (p := 17) daX4_rollAll_78 dbX4_rollAll_78.2.2.2.2.2.2.2.2.2.1
theorem dX4_rollAll_98 : decode cX4_rollAll 98 = .ok (.goto (-96), 3) := dgq (p := 20) daX4_rollAll_78 dbX4_rollAll_78.2.2.2.2.2.2.2.2.2.2.1
theorem dX4_rollAll_101 : decode cX4_rollAll 101 = .ok (.return_, 1) := dgq (p := 23) daX4_rollAll_78 dbX4_rollAll_78.2.2.2.2.2.2.2.2.2.2.2
set_option maxRecDepth 20000 in
theorem ggX4_search_X4_choose : GoodIn wsX4_search wsX4_choose := goodIn_ca (goodIn_q _ [9, 10, 11, 12, 3, 4, 13, 14, 15, 8, 16, 2, 5, 17, 18, 19, 20, 6, 7, 21, 22, 23, 24, 25, 26, 27, 28, 29] rfl (by decide +kernel)) (goodIn_sub (fun _ h => List.mem_cons_of_mem _ (List.mem_append_right _ h)) (by decide +kernel))
set_option maxRecDepth 20000 in
theorem gX4_search_X4_choose : GoodIn wsX4_search (va_wsS RX4 70 yX4_choose wsX4_choose) := goodIn_app (goodIn_q _ [6, 7, 8] rfl (by decide +kernel)) ggX4_search_X4_choose
def dsX4_search_0 : ByteArray := ⟨#[42, 18, 66, 181, 0, 67, 3, 61, 28, 8, 162, 0, 30, 42, 180, 0, 24, 28, 3, 84, 42, 180, 0, 28, 28, 2, 79, 42, 180, 0, 31, 28, 2, 79, 132, 2, 1]⟩
theorem daX4_search_0 : agB cX4_search dsX4_search_0 0 := agB_of (n := 37) (by decide +kernel)
theorem dbX4_search_0 : (decode dsX4_search_0 0 = .ok (.aload_n 0, 1) ∧ okop dsX4_search_0 0 = true) ∧ (decode dsX4_search_0 1 = .ok (.ldc 66, 2) ∧ okop dsX4_search_0 1 = true) ∧ (decode dsX4_search_0 3 = .ok (.putfield 67, 3) ∧ okop dsX4_search_0 3 = true) ∧ (decode dsX4_search_0 6 = .ok (.iconst 0, 1) ∧ okop dsX4_search_0 6 = true) ∧ (decode dsX4_search_0 7 = .ok (.istore_n 2, 1) ∧ okop dsX4_search_0 7 = true) ∧ (decode dsX4_search_0 8 = .ok (.iload_n 2, 1) ∧ okop dsX4_search_0 8 = true) ∧ (decode dsX4_search_0 9 = .ok (.iconst 5, 1) ∧ okop dsX4_search_0 9 = true) ∧ (decode dsX4_search_0 10 = .ok (.if_icmp .ge 30, 3) ∧ okop dsX4_search_0 10 = true) ∧ (decode dsX4_search_0 13 = .ok (.aload_n 0, 1) ∧ okop dsX4_search_0 13 = true) ∧ (decode dsX4_search_0 14 = .ok (.getfield 24, 3) ∧ okop dsX4_search_0 14 = true) ∧ (decode dsX4_search_0 17 = .ok (.iload_n 2, 1) ∧ okop dsX4_search_0 17 = true) ∧ (decode dsX4_search_0 18 = .ok (.iconst 0, 1) ∧ okop dsX4_search_0 18 = true) ∧ (decode dsX4_search_0 19 = .ok (.bastore, 1) ∧ okop dsX4_search_0 19 = true) ∧ (decode dsX4_search_0 20 = .ok (.aload_n 0, 1) ∧ okop dsX4_search_0 20 = true) ∧ (decode dsX4_search_0 21 = .ok (.getfield 28, 3) ∧ okop dsX4_search_0 21 = true) ∧ (decode dsX4_search_0 24 = .ok (.iload_n 2, 1) ∧ okop dsX4_search_0 24 = true) ∧ (decode dsX4_search_0 25 = .ok (.iconst (-1), 1) ∧ okop dsX4_search_0 25 = true) ∧ (decode dsX4_search_0 26 = .ok (.iastore, 1) ∧ okop dsX4_search_0 26 = true) ∧ (decode dsX4_search_0 27 = .ok (.aload_n 0, 1) ∧ okop dsX4_search_0 27 = true) ∧ (decode dsX4_search_0 28 = .ok (.getfield 31, 3) ∧ okop dsX4_search_0 28 = true) ∧ (decode dsX4_search_0 31 = .ok (.iload_n 2, 1) ∧ okop dsX4_search_0 31 = true) ∧ (decode dsX4_search_0 32 = .ok (.iconst (-1), 1) ∧ okop dsX4_search_0 32 = true) ∧ (decode dsX4_search_0 33 = .ok (.iastore, 1) ∧ okop dsX4_search_0 33 = true) ∧ (decode dsX4_search_0 34 = .ok (.iinc 2 1, 3) ∧ okop dsX4_search_0 34 = true) := by decide +kernel
theorem dX4_search_0 : decode cX4_search 0 = .ok (.aload_n 0, 1) := dgq (p := 0) daX4_search_0 dbX4_search_0.1
theorem dX4_search_1 : decode cX4_search 1 = .ok (.ldc 66, 2) := dgq (p := 1) daX4_search_0 dbX4_search_0.2.1
theorem dX4_search_3 : decode cX4_search 3 = .ok (.putfield 67, 3) := dgq (p := 3) daX4_search_0 dbX4_search_0.2.2.1
theorem dX4_search_6 : decode cX4_search 6 = .ok (.iconst 0, 1) := dgq (p := 6) daX4_search_0 dbX4_search_0.2.2.2.1
theorem dX4_search_7 : decode cX4_search 7 = .ok (.istore_n 2, 1) := dgq (p := 7) daX4_search_0 dbX4_search_0.2.2.2.2.1
theorem dX4_search_8 : decode cX4_search 8 = .ok (.iload_n 2, 1) := dgq (p := 8) daX4_search_0 dbX4_search_0.2.2.2.2.2.1
theorem dX4_search_9 : decode cX4_search 9 = .ok (.iconst 5, 1) := dgq (p := 9) daX4_search_0 dbX4_search_0.2.2.2.2.2.2.1
theorem dX4_search_10 : decode cX4_search 10 = .ok (.if_icmp .ge 30, 3) := dgq (p := 10) daX4_search_0 dbX4_search_0.2.2.2.2.2.2.2.1
theorem dX4_search_13 : decode cX4_search 13 = .ok (.aload_n 0, 1) := dgq (p := 13) daX4_search_0 dbX4_search_0.2.2.2.2.2.2.2.2.1
theorem dX4_search_14 : decode cX4_search 14 = .ok (.getfield 24, 3) := dgq (p := 14) daX4_search_0 dbX4_search_0.2.2.2.2.2.2.2.2.2.1
theorem dX4_search_17 : decode cX4_search 17 = .ok (.iload_n 2, 1) := dgq (p := 17) daX4_search_0 dbX4_search_0.2.2.2.2.2.2.2.2.2.2.1
theorem dX4_search_18 : decode cX4_search 18 = .ok (.iconst 0, 1) := dgq (p := 18) daX4_search_0 dbX4_search_0.2.2.2.2.2.2.2.2.2.2.2.1
theorem dX4_search_19 : decode cX4_search 19 = .ok (.bastore, 1) := dgq (p := 19) daX4_search_0 dbX4_search_0.2.2.2.2.2.2.2.2.2.2.2.2.1
theorem dX4_search_20 : decode cX4_search 20 = .ok (.aload_n 0, 1) := dgq (p := 20) daX4_search_0 dbX4_search_0.2.2.2.2.2.2.2.2.2.2.2.2.2.1
theorem dX4_search_21 : decode cX4_search 21 = .ok (.getfield 28, 3) := dgq (p := 21) daX4_search_0 dbX4_search_0.2.2.2.2.2.2.2.2.2.2.2.2.2.2.1
theorem dX4_search_24 : decode cX4_search 24 = .ok (.iload_n 2, 1) := dgq (p := 24) daX4_search_0 dbX4_search_0.2.2.2.2.2.2.2.2.2.2.2.2.2.2.2.1
theorem dX4_search_25 : decode cX4_search 25 = .ok (.iconst (-1), 1) := dgq (p := 25) daX4_search_0 dbX4_search_0.2.2.2.2.2.2.2.2.2.2.2.2.2.2.2.2.1
theorem dX4_search_26 : decode cX4_search 26 = .ok (.iastore, 1) := dgq (p := 26) daX4_search_0 dbX4_search_0.2.2.2.2.2.2.2.2.2.2.2.2.2.2.2.2.2.1
theorem dX4_search_27 : decode cX4_search 27 = .ok (.aload_n 0, 1) := dgq (p := 27) daX4_search_0 dbX4_search_0.2.2.2.2.2.2.2.2.2.2.2.2.2.2.2.2.2.2.1
theorem dX4_search_28 : decode cX4_search 28 = .ok (.getfield 31, 3) := dgq (p := 28) daX4_search_0 dbX4_search_0.2.2.2.2.2.2.2.2.2.2.2.2.2.2.2.2.2.2.2.1
theorem dX4_search_31 : decode cX4_search 31 = .ok (.iload_n 2, 1) := dgq (p := 31) daX4_search_0 dbX4_search_0.2.2.2.2.2.2.2.2.2.2.2.2.2.2.2.2.2.2.2.2.1
theorem dX4_search_32 : decode cX4_search 32 = .ok (.iconst (-1), 1) := dgq (p := 32) daX4_search_0 dbX4_search_0.2.2.2.2.2.2.2.2.2.2.2.2.2.2.2.2.2.2.2.2.2.1
theorem dX4_search_33 : decode cX4_search 33 = .ok (.iastore, 1) := dgq (p := 33) daX4_search_0 dbX4_search_0.2.2.2.2.2.2.2.2.2.2.2.2.2.2.2.2.2.2.2.2.2.2.1
theorem dX4_search_34 : decode cX4_search 34 = .ok (.iinc 2 1, 3) := dgq (p := 34) daX4_search_0 dbX4_search_0.2.2.2.2.2.2.2.2.2.2.2.2.2.2.2.2.2.2.2.2.2.2.2
def dsX4_search_37 : ByteArray := ⟨#[167, 255, 227, 42, 3, 27, 3, 184, 0, 70, 42, 180, 0, 67, 18, 66, 162, 0, 7, 4, 167, 0, 4, 3, 172]⟩
theorem daX4_search_37 : agB cX4_search dsX4_search_37 37 := agB_of (n := 25) (by decide +kernel)
theorem dbX4_search_37 : (decode dsX4_search_37 0 = .ok (.goto (-29), 3) ∧ okop dsX4_search_37 0 = true) ∧ (decode dsX4_search_37 3 = .ok (.aload_n 0, 1) ∧ okop dsX4_search_37 3 = true) ∧ (decode dsX4_search_37 4 = .ok (.iconst 0, 1) ∧ okop dsX4_search_37 4 = true) ∧ (decode dsX4_search_37 5 = .ok (.iload_n 1, 1) ∧ okop dsX4_search_37 5 = true) ∧ (decode dsX4_search_37 6 = .ok (.iconst 0, 1) ∧ okop dsX4_search_37 6 = true) ∧ (decode dsX4_search_37 7 = .ok (.invokestatic 70, 3) ∧ okop dsX4_search_37 7 = true) ∧ (decode dsX4_search_37 10 = .ok (.aload_n 0, 1) ∧ okop dsX4_search_37 10 = true) ∧ (decode dsX4_search_37 11 = .ok (.getfield 67, 3) ∧ okop dsX4_search_37 11 = true) ∧ (decode dsX4_search_37 14 = .ok (.ldc 66, 2) ∧ okop dsX4_search_37 14 = true) ∧ (decode dsX4_search_37 16 = .ok (.if_icmp .ge 7, 3) ∧ okop dsX4_search_37 16 = true) ∧ (decode dsX4_search_37 19 = .ok (.iconst 1, 1) ∧ okop dsX4_search_37 19 = true) ∧ (decode dsX4_search_37 20 = .ok (.goto 4, 3) ∧ okop dsX4_search_37 20 = true) ∧ (decode dsX4_search_37 23 = .ok (.iconst 0, 1) ∧ okop dsX4_search_37 23 = true) ∧ (decode dsX4_search_37 24 = .ok (.ireturn, 1) ∧ okop dsX4_search_37 24 = true) := by decide +kernel
theorem dX4_search_37 : decode cX4_search 37 = .ok (.goto (-29), 3) := dgq (p := 0) daX4_search_37 dbX4_search_37.1
theorem dX4_search_40 : decode cX4_search 40 = .ok (.aload_n 0, 1) := dgq (p := 3) daX4_search_37 dbX4_search_37.2.1
theorem dX4_search_41 : decode cX4_search 41 = .ok (.iconst 0, 1) := dgq (p := 4) daX4_search_37 dbX4_search_37.2.2.1
theorem dX4_search_42 : decode cX4_search 42 = .ok (.iload_n 1, 1) := dgq (p := 5) daX4_search_37 dbX4_search_37.2.2.2.1
theorem dX4_search_43 : decode cX4_search 43 = .ok (.iconst 0, 1) := dgq (p := 6) daX4_search_37 dbX4_search_37.2.2.2.2.1
theorem dX4_search_44 : decode cX4_search 44 = .ok (.invokestatic 70, 3) := dgq (p := 7) daX4_search_37 dbX4_search_37.2.2.2.2.2.1
theorem dX4_search_47 : decode cX4_search 47 = .ok (.aload_n 0, 1) := dgq (p := 10) daX4_search_37 dbX4_search_37.2.2.2.2.2.2.1
theorem dX4_search_48 : decode cX4_search 48 = .ok (.getfield 67, 3) := dgq (p := 11) daX4_search_37 dbX4_search_37.2.2.2.2.2.2.2.1
theorem dX4_search_51 : decode cX4_search 51 = .ok (.ldc 66, 2) := dgq (p := 14) daX4_search_37 dbX4_search_37.2.2.2.2.2.2.2.2.1
theorem dX4_search_53 : decode cX4_search 53 = .ok (.if_icmp .ge 7, 3) := dgq (p := 16) daX4_search_37 dbX4_search_37.2.2.2.2.2.2.2.2.2.1
theorem dX4_search_56 : decode cX4_search 56 = .ok (.iconst 1, 1) := dgq (p := 19) daX4_search_37 dbX4_search_37.2.2.2.2.2.2.2.2.2.2.1
theorem dX4_search_57 : decode cX4_search 57 = .ok (.goto 4, 3) := dgq (p := 20) daX4_search_37 dbX4_search_37.2.2.2.2.2.2.2.2.2.2.2.1
theorem dX4_search_60 : decode cX4_search 60 = .ok (.iconst 0, 1) := dgq (p := 23) daX4_search_37 dbX4_search_37.2.2.2.2.2.2.2.2.2.2.2.2.1
theorem dX4_search_61 : decode cX4_search 61 = .ok (.ireturn, 1) := dgq (p := 24) daX4_search_37 dbX4_search_37.2.2.2.2.2.2.2.2.2.2.2.2.2
set_option maxRecDepth 20000 in
theorem ggX4_choose_X4_keepIfLess : GoodIn wsX4_choose wsX4_keepIfLess := goodIn_q _ [10, 11, 5, 12, 13, 14, 15, 16, 19, 20, 21, 22, 23, 24, 25, 26, 27] rfl (by decide +kernel)
set_option maxRecDepth 20000 in
theorem gX4_choose_X4_keepIfLess : GoodIn wsX4_choose (wsV RX4 74 RX4 yX4_keepIfLess wsX4_keepIfLess) := goodIn_app (goodIn_q _ [6, 7, 8, 9] rfl (by decide +kernel)) ggX4_choose_X4_keepIfLess
set_option maxRecDepth 20000 in
theorem ggX4_choose_X4_choose : GoodIn wsX4_choose wsX4_choose := goodIn_ca (goodIn_q _ [0, 1, 2, 3, 4, 5, 6, 7, 8, 9, 10, 11, 12, 13, 14, 15, 16, 17, 18, 19, 20, 21, 22, 23, 24, 25, 26, 27] rfl (by decide +kernel)) (goodIn_sub (fun _ h => List.mem_cons_of_mem _ (List.mem_append_right _ h)) (by decide +kernel))
set_option maxRecDepth 20000 in
theorem gX4_choose_X4_choose : GoodIn wsX4_choose (va_wsS RX4 70 yX4_choose wsX4_choose) := goodIn_app (goodIn_q _ [17, 18, 9] rfl (by decide +kernel)) ggX4_choose_X4_choose
def dsX4_choose_0 : ByteArray := ⟨#[28, 154, 0, 9, 42, 29, 182, 0, 74, 177, 27, 42, 180, 0, 34, 162, 0, 8, 27, 8, 161, 0, 4, 177, 3, 54, 4, 21, 4, 42, 180, 0, 38, 162, 0, 83, 42, 180, 0, 20, 27, 8]⟩
theorem daX4_choose_0 : agB cX4_choose dsX4_choose_0 0 := agB_of (n := 42) (by decide +kernel)
theorem dbX4_choose_0 : (decode dsX4_choose_0 0 = .ok (.iload_n 2, 1) ∧ okop dsX4_choose_0 0 = true) ∧ (decode dsX4_choose_0 1 = .ok (.ifCond .ne 9, 3) ∧ okop dsX4_choose_0 1 = true) ∧ (decode dsX4_choose_0 4 = .ok (.aload_n 0, 1) ∧ okop dsX4_choose_0 4 = true) ∧ (decode dsX4_choose_0 5 = .ok (.iload_n 3, 1) ∧ okop dsX4_choose_0 5 = true) ∧ (decode dsX4_choose_0 6 = .ok (.invokevirtual 74, 3) ∧ okop dsX4_choose_0 6 = true) ∧ (decode dsX4_choose_0 9 = .ok (.return_, 1) ∧ okop dsX4_choose_0 9 = true) ∧ (decode dsX4_choose_0 10 = .ok (.iload_n 1, 1) ∧ okop dsX4_choose_0 10 = true) ∧ (decode dsX4_choose_0 11 = .ok (.aload_n 0, 1) ∧ okop dsX4_choose_0 11 = true) ∧ (decode dsX4_choose_0 12 = .ok (.getfield 34, 3) ∧ okop dsX4_choose_0 12 = true) ∧ (decode dsX4_choose_0 15 = .ok (.if_icmp .ge 8, 3) ∧ okop dsX4_choose_0 15 = true) ∧ (decode dsX4_choose_0 18 = .ok (.iload_n 1, 1) ∧ okop dsX4_choose_0 18 = true) ∧ (decode dsX4_choose_0 19 = .ok (.iconst 5, 1) ∧ okop dsX4_choose_0 19 = true) ∧ (decode dsX4_choose_0 20 = .ok (.if_icmp .lt 4, 3) ∧ okop dsX4_choose_0 20 = true) ∧ (decode dsX4_choose_0 23 = .ok (.return_, 1) ∧ okop dsX4_choose_0 23 = true) ∧ (decode dsX4_choose_0 24 = .ok (.iconst 0, 1) ∧ okop dsX4_choose_0 24 = true) ∧ (decode dsX4_choose_0 25 = .ok (.istore 4, 2) ∧ okop dsX4_choose_0 25 = true) ∧ (decode dsX4_choose_0 27 = .ok (.iload 4, 2) ∧ okop dsX4_choose_0 27 = true) ∧ (decode dsX4_choose_0 29 = .ok (.aload_n 0, 1) ∧ okop dsX4_choose_0 29 = true) ∧ (decode dsX4_choose_0 30 = .ok (.getfield 38, 3) ∧ okop dsX4_choose_0 30 = true) ∧ (decode dsX4_choose_0 33 = .ok (.if_icmp .ge 83, 3) ∧ okop dsX4_choose_0 33 = true) ∧ (decode dsX4_choose_0 36 = .ok (.aload_n 0, 1) ∧ okop dsX4_choose_0 36 = true) ∧ (decode dsX4_choose_0 37 = .ok (.getfield 20, 3) ∧ okop dsX4_choose_0 37 = true) ∧ (decode dsX4_choose_0 40 = .ok (.iload_n 1, 1) ∧ okop dsX4_choose_0 40 = true) ∧ (decode dsX4_choose_0 41 = .ok (.iconst 5, 1) ∧ okop dsX4_choose_0 41 = true) := by decide +kernel
theorem dX4_choose_0 : decode cX4_choose 0 = .ok (.iload_n 2, 1) := dgq (p := 0) daX4_choose_0 dbX4_choose_0.1
theorem dX4_choose_1 : decode cX4_choose 1 = .ok (.ifCond .ne 9, 3) := dgq (p := 1) daX4_choose_0 dbX4_choose_0.2.1
theorem dX4_choose_4 : decode cX4_choose 4 = .ok (.aload_n 0, 1) := dgq (p := 4) daX4_choose_0 dbX4_choose_0.2.2.1
theorem dX4_choose_5 : decode cX4_choose 5 = .ok (.iload_n 3, 1) := dgq (p := 5) daX4_choose_0 dbX4_choose_0.2.2.2.1
theorem dX4_choose_6 : decode cX4_choose 6 = .ok (.invokevirtual 74, 3) := dgq (p := 6) daX4_choose_0 dbX4_choose_0.2.2.2.2.1
theorem dX4_choose_9 : decode cX4_choose 9 = .ok (.return_, 1) := dgq (p := 9) daX4_choose_0 dbX4_choose_0.2.2.2.2.2.1
theorem dX4_choose_10 : decode cX4_choose 10 = .ok (.iload_n 1, 1) := dgq (p := 10) daX4_choose_0 dbX4_choose_0.2.2.2.2.2.2.1
theorem dX4_choose_11 : decode cX4_choose 11 = .ok (.aload_n 0, 1) := dgq (p := 11) daX4_choose_0 dbX4_choose_0.2.2.2.2.2.2.2.1
theorem dX4_choose_12 : decode cX4_choose 12 = .ok (.getfield 34, 3) := dgq (p := 12) daX4_choose_0 dbX4_choose_0.2.2.2.2.2.2.2.2.1
theorem dX4_choose_15 : decode cX4_choose 15 = .ok (.if_icmp .ge 8, 3) := dgq (p := 15) daX4_choose_0 dbX4_choose_0.2.2.2.2.2.2.2.2.2.1
theorem dX4_choose_18 : decode cX4_choose 18 = .ok (.iload_n 1, 1) := dgq (p := 18) daX4_choose_0 dbX4_choose_0.2.2.2.2.2.2.2.2.2.2.1
theorem dX4_choose_19 : decode cX4_choose 19 = .ok (.iconst 5, 1) := dgq (p := 19) daX4_choose_0 dbX4_choose_0.2.2.2.2.2.2.2.2.2.2.2.1
theorem dX4_choose_20 : decode cX4_choose 20 = .ok (.if_icmp .lt 4, 3) := dgq (p := 20) daX4_choose_0 dbX4_choose_0.2.2.2.2.2.2.2.2.2.2.2.2.1
theorem dX4_choose_23 : decode cX4_choose 23 = .ok (.return_, 1) := dgq (p := 23) daX4_choose_0 dbX4_choose_0.2.2.2.2.2.2.2.2.2.2.2.2.2.1
theorem dX4_choose_24 : decode cX4_choose 24 = .ok (.iconst 0, 1) := dgq (p := 24) daX4_choose_0 dbX4_choose_0.2.2.2.2.2.2.2.2.2.2.2.2.2.2.1
theorem dX4_choose_25 : decode cX4_choose 25 = .ok (.istore 4, 2) := dgq (p := 25) daX4_choose_0 dbX4_choose_0.2.2.2.2.2.2.2.2.2.2.2.2.2.2.2.1
theorem dX4_choose_27 : decode cX4_choose 27 = .ok (.iload 4, 2) := dgq (p := 27) daX4_choose_0 dbX4_choose_0.2.2.2.2.2.2.2.2.2.2.2.2.2.2.2.2.1
theorem dX4_choose_29 : decode cX4_choose 29 = .ok (.aload_n 0, 1) := dgq (p := 29) daX4_choose_0 dbX4_choose_0.2.2.2.2.2.2.2.2.2.2.2.2.2.2.2.2.2.1
theorem dX4_choose_30 : decode cX4_choose 30 = .ok (.getfield 38, 3) := dgq (p := 30) daX4_choose_0 dbX4_choose_0.2.2.2.2.2.2.2.2.2.2.2.2.2.2.2.2.2.2.1
theorem dX4_choose_33 : decode cX4_choose 33 = .ok (.if_icmp .ge 83, 3) := dgq (p := 33) daX4_choose_0 dbX4_choose_0.2.2.2.2.2.2.2.2.2.2.2.2.2.2.2.2.2.2.2.1
theorem dX4_choose_36 : decode cX4_choose 36 = .ok (.aload_n 0, 1) := dgq (p := 36) daX4_choose_0 dbX4_choose_0.2.2.2.2.2.2.2.2.2.2.2.2.2.2.2.2.2.2.2.2.1
theorem dX4_choose_37 : decode cX4_choose 37 = .ok (.getfield 20, 3) := dgq (p := 37) daX4_choose_0 dbX4_choose_0.2.2.2.2.2.2.2.2.2.2.2.2.2.2.2.2.2.2.2.2.2.1
theorem dX4_choose_40 : decode cX4_choose 40 = .ok (.iload_n 1, 1) := dgq (p := 40) daX4_choose_0 dbX4_choose_0.2.2.2.2.2.2.2.2.2.2.2.2.2.2.2.2.2.2.2.2.2.2.1
theorem dX4_choose_41 : decode cX4_choose 41 = .ok (.iconst 5, 1) := dgq (p := 41) daX4_choose_0 dbX4_choose_0.2.2.2.2.2.2.2.2.2.2.2.2.2.2.2.2.2.2.2.2.2.2.2
def dsX4_choose_42 : ByteArray := ⟨#[104, 21, 4, 96, 46, 54, 5, 21, 5, 2, 159, 0, 58, 42, 180, 0, 24, 21, 4, 51, 154, 0, 48, 42, 180, 0, 24, 21, 4, 4, 84, 42, 180, 0, 28, 27, 21, 4, 79, 42]⟩
theorem daX4_choose_42 : agB cX4_choose dsX4_choose_42 42 := agB_of (n := 40) (by decide +kernel)
theorem dbX4_choose_42 : (decode dsX4_choose_42 0 = .ok (.imul, 1) ∧ okop dsX4_choose_42 0 = true) ∧ (decode dsX4_choose_42 1 = .ok (.iload 4, 2) ∧ okop dsX4_choose_42 1 = true) ∧ (decode dsX4_choose_42 3 = .ok (.iadd, 1) ∧ okop dsX4_choose_42 3 = true) ∧ (decode dsX4_choose_42 4 = .ok (.iaload, 1) ∧ okop dsX4_choose_42 4 = true) ∧ (decode dsX4_choose_42 5 = .ok (.istore 5, 2) ∧ okop dsX4_choose_42 5 = true) ∧ (decode dsX4_choose_42 7 = .ok (.iload 5, 2) ∧ okop dsX4_choose_42 7 = true) ∧ (decode dsX4_choose_42 9 = .ok (.iconst (-1), 1) ∧ okop dsX4_choose_42 9 = true) ∧ (decode dsX4_choose_42 10 = .ok (.if_icmp .eq 58, 3) ∧ okop dsX4_choose_42 10 = true) ∧ (decode dsX4_choose_42 13 = .ok (.aload_n 0, 1) ∧ okop dsX4_choose_42 13 = true) ∧ (decode dsX4_choose_42 14 = .ok (.getfield 24, 3) ∧ okop dsX4_choose_42 14 = true) ∧ (decode dsX4_choose_42 17 = .ok (.iload 4, 2) ∧ okop dsX4_choose_42 17 = true) ∧ (decode dsX4_choose_42 19 = .ok (.baload, 1) ∧ okop dsX4_choose_42 19 = true) ∧ (decode dsX4_choose_42 20 = .ok (.ifCond .ne 48, 3) ∧ okop dsX4_choose_42 20 = true) ∧ (decode dsX4_choose_42 23 = .ok (.aload_n 0, 1) ∧ okop dsX4_choose_42 23 = true) ∧ (decode dsX4_choose_42 24 = .ok (.getfield 24, 3) ∧ okop dsX4_choose_42 24 = true) ∧ (decode dsX4_choose_42 27 = .ok (.iload 4, 2) ∧ okop dsX4_choose_42 27 = true) ∧ (decode dsX4_choose_42 29 = .ok (.iconst 1, 1) ∧ okop dsX4_choose_42 29 = true) ∧ (decode dsX4_choose_42 30 = .ok (.bastore, 1) ∧ okop dsX4_choose_42 30 = true) ∧ (decode dsX4_choose_42 31 = .ok (.aload_n 0, 1) ∧ okop dsX4_choose_42 31 = true) ∧ (decode dsX4_choose_42 32 = .ok (.getfield 28, 3) ∧ okop dsX4_choose_42 32 = true) ∧ (decode dsX4_choose_42 35 = .ok (.iload_n 1, 1) ∧ okop dsX4_choose_42 35 = true) ∧ (decode dsX4_choose_42 36 = .ok (.iload 4, 2) ∧ okop dsX4_choose_42 36 = true) ∧ (decode dsX4_choose_42 38 = .ok (.iastore, 1) ∧ okop dsX4_choose_42 38 = true) ∧ (decode dsX4_choose_42 39 = .ok (.aload_n 0, 1) ∧ okop dsX4_choose_42 39 = true) := by decide +kernel
theorem dX4_choose_42 : decode cX4_choose 42 = .ok (.imul, 1) := dgq (p := 0) daX4_choose_42 dbX4_choose_42.1
theorem dX4_choose_43 : decode cX4_choose 43 = .ok (.iload 4, 2) := dgq (p := 1) daX4_choose_42 dbX4_choose_42.2.1
theorem dX4_choose_45 : decode cX4_choose 45 = .ok (.iadd, 1) := dgq (p := 3) daX4_choose_42 dbX4_choose_42.2.2.1
theorem dX4_choose_46 : decode cX4_choose 46 = .ok (.iaload, 1) := dgq (p := 4) daX4_choose_42 dbX4_choose_42.2.2.2.1
theorem dX4_choose_47 : decode cX4_choose 47 = .ok (.istore 5, 2) := dgq (p := 5) daX4_choose_42 dbX4_choose_42.2.2.2.2.1
theorem dX4_choose_49 : decode cX4_choose 49 = .ok (.iload 5, 2) := dgq (p := 7) daX4_choose_42 dbX4_choose_42.2.2.2.2.2.1
theorem dX4_choose_51 : decode cX4_choose 51 = .ok (.iconst (-1), 1) := dgq (p := 9) daX4_choose_42 dbX4_choose_42.2.2.2.2.2.2.1
theorem dX4_choose_52 : decode cX4_choose 52 = .ok (.if_icmp .eq 58, 3) := dgq (p := 10) daX4_choose_42 dbX4_choose_42.2.2.2.2.2.2.2.1
theorem dX4_choose_55 : decode cX4_choose 55 = .ok (.aload_n 0, 1) := dgq (p := 13) daX4_choose_42 dbX4_choose_42.2.2.2.2.2.2.2.2.1
theorem dX4_choose_56 : decode cX4_choose 56 = .ok (.getfield 24, 3) := dgq (p := 14) daX4_choose_42 dbX4_choose_42.2.2.2.2.2.2.2.2.2.1
theorem dX4_choose_59 : decode cX4_choose 59 = .ok (.iload 4, 2) := dgq (p := 17) daX4_choose_42 dbX4_choose_42.2.2.2.2.2.2.2.2.2.2.1
theorem dX4_choose_61 : decode cX4_choose 61 = .ok (.baload, 1) := dgq (p := 19) daX4_choose_42 dbX4_choose_42.2.2.2.2.2.2.2.2.2.2.2.1
theorem dX4_choose_62 : decode cX4_choose 62 = .ok (.ifCond .ne 48, 3) := dgq (p := 20) daX4_choose_42 dbX4_choose_42.2.2.2.2.2.2.2.2.2.2.2.2.1
theorem dX4_choose_65 : decode cX4_choose 65 = .ok (.aload_n 0, 1) := dgq (p := 23) daX4_choose_42 dbX4_choose_42.2.2.2.2.2.2.2.2.2.2.2.2.2.1
theorem dX4_choose_66 : decode cX4_choose 66 = .ok (.getfield 24, 3) := dgq (p := 24) daX4_choose_42 dbX4_choose_42.2.2.2.2.2.2.2.2.2.2.2.2.2.2.1
theorem dX4_choose_69 : decode cX4_choose 69 = .ok (.iload 4, 2) := dgq (p := 27) daX4_choose_42 dbX4_choose_42.2.2.2.2.2.2.2.2.2.2.2.2.2.2.2.1
theorem dX4_choose_71 : decode cX4_choose 71 = .ok (.iconst 1, 1) := dgq (p := 29) daX4_choose_42 dbX4_choose_42.2.2.2.2.2.2.2.2.2.2.2.2.2.2.2.2.1
theorem dX4_choose_72 : decode cX4_choose 72 = .ok (.bastore, 1) := dgq (p := 30) daX4_choose_42 dbX4_choose_42.2.2.2.2.2.2.2.2.2.2.2.2.2.2.2.2.2.1
theorem dX4_choose_73 : decode cX4_choose 73 = .ok (.aload_n 0, 1) := dgq (p := 31) daX4_choose_42 dbX4_choose_42.2.2.2.2.2.2.2.2.2.2.2.2.2.2.2.2.2.2.1
theorem dX4_choose_74 : decode cX4_choose 74 = .ok (.getfield 28, 3) := dgq (p := 32) daX4_choose_42 dbX4_choose_42.2.2.2.2.2.2.2.2.2.2.2.2.2.2.2.2.2.2.2.1
theorem dX4_choose_77 : decode cX4_choose 77 = .ok (.iload_n 1, 1) := dgq (p := 35) daX4_choose_42 dbX4_choose_42.2.2.2.2.2.2.2.2.2.2.2.2.2.2.2.2.2.2.2.2.1
theorem dX4_choose_78 : decode cX4_choose 78 = .ok (.iload 4, 2) := dgq (p := 36) daX4_choose_42 dbX4_choose_42.2.2.2.2.2.2.2.2.2.2.2.2.2.2.2.2.2.2.2.2.2.1
theorem dX4_choose_80 : decode cX4_choose 80 = .ok (.iastore, 1) := dgq (p := 38) daX4_choose_42 dbX4_choose_42.2.2.2.2.2.2.2.2.2.2.2.2.2.2.2.2.2.2.2.2.2.2.1
theorem dX4_choose_81 : decode cX4_choose 81 = .ok (.aload_n 0, 1) := dgq (p := 39) daX4_choose_42 dbX4_choose_42.2.2.2.2.2.2.2.2.2.2.2.2.2.2.2.2.2.2.2.2.2.2.2
def dsX4_choose_82 : ByteArray := ⟨#[27, 4, 96, 28, 4, 100, 29, 21, 5, 96, 184, 0, 70, 42, 180, 0, 28, 27, 2, 79, 42, 180, 0, 24, 21, 4, 3, 84, 132, 4, 1, 167, 255, 170, 42, 27]⟩
theorem daX4_choose_82 : agB cX4_choose dsX4_choose_82 82 := agB_of (n := 36) (by decide +kernel)
theorem dbX4_choose_82 : (decode dsX4_choose_82 0 = .ok (.iload_n 1, 1) ∧ okop dsX4_choose_82 0 = true) ∧ (decode dsX4_choose_82 1 = .ok (.iconst 1, 1) ∧ okop dsX4_choose_82 1 = true) ∧ (decode dsX4_choose_82 2 = .ok (.iadd, 1) ∧ okop dsX4_choose_82 2 = true) ∧ (decode dsX4_choose_82 3 = .ok (.iload_n 2, 1) ∧ okop dsX4_choose_82 3 = true) ∧ (decode dsX4_choose_82 4 = .ok (.iconst 1, 1) ∧ okop dsX4_choose_82 4 = true) ∧ (decode dsX4_choose_82 5 = .ok (.isub, 1) ∧ okop dsX4_choose_82 5 = true) ∧ (decode dsX4_choose_82 6 = .ok (.iload_n 3, 1) ∧ okop dsX4_choose_82 6 = true) ∧ (decode dsX4_choose_82 7 = .ok (.iload 5, 2) ∧ okop dsX4_choose_82 7 = true) ∧ (decode dsX4_choose_82 9 = .ok (.iadd, 1) ∧ okop dsX4_choose_82 9 = true) ∧ (decode dsX4_choose_82 10 = .ok (.invokestatic 70, 3) ∧ okop dsX4_choose_82 10 = true) ∧ (decode dsX4_choose_82 13 = .ok (.aload_n 0, 1) ∧ okop dsX4_choose_82 13 = true) ∧ (decode dsX4_choose_82 14 = .ok (.getfield 28, 3) ∧ okop dsX4_choose_82 14 = true) ∧ (decode dsX4_choose_82 17 = .ok (.iload_n 1, 1) ∧ okop dsX4_choose_82 17 = true) ∧ (decode dsX4_choose_82 18 = .ok (.iconst (-1), 1) ∧ okop dsX4_choose_82 18 = true) ∧ (decode dsX4_choose_82 19 = .ok (.iastore, 1) ∧ okop dsX4_choose_82 19 = true) ∧ (decode dsX4_choose_82 20 = .ok (.aload_n 0, 1) ∧ okop dsX4_choose_82 20 = true) ∧ (decode dsX4_choose_82 21 = .ok (.getfield 24, 3) ∧ okop dsX4_choose_82 21 = true) ∧ (decode dsX4_choose_82 24 = .ok (.iload 4, 2) ∧ okop dsX4_choose_82 24 = true) ∧ (decode dsX4_choose_82 26 = .ok (.iconst 0, 1) ∧ okop dsX4_choose_82 26 = true) ∧ (decode dsX4_choose_82 27 = .ok (.bastore, 1) ∧ okop dsX4_choose_82 27 = true) ∧ (decode dsX4_choose_82 28 = .ok (.iinc 4 1, 3) ∧ okop dsX4_choose_82 28 = true) ∧ (decode dsX4_choose_82 31 = .ok (.goto (-86), 3) ∧ okop dsX4_choose_82 31 = true) ∧ (decode dsX4_choose_82 34 = .ok (.aload_n 0, 1) ∧ okop dsX4_choose_82 34 = true) ∧ (decode dsX4_choose_82 35 = .ok (.iload_n 1, 1) ∧ okop dsX4_choose_82 35 = true) := by decide +kernel
theorem dX4_choose_82 : decode cX4_choose 82 = .ok (.iload_n 1, 1) := dgq (p := 0) daX4_choose_82 dbX4_choose_82.1
theorem dX4_choose_83 : decode cX4_choose 83 = .ok (.iconst 1, 1) := dgq (p := 1) daX4_choose_82 dbX4_choose_82.2.1
theorem dX4_choose_84 : decode cX4_choose 84 = .ok (.iadd, 1) := dgq (p := 2) daX4_choose_82 dbX4_choose_82.2.2.1
theorem dX4_choose_85 : decode cX4_choose 85 = .ok (.iload_n 2, 1) := dgq (p := 3) daX4_choose_82 dbX4_choose_82.2.2.2.1
theorem dX4_choose_86 : decode cX4_choose 86 = .ok (.iconst 1, 1) := dgq (p := 4) daX4_choose_82 dbX4_choose_82.2.2.2.2.1
theorem dX4_choose_87 : decode cX4_choose 87 = .ok (.isub, 1) := dgq (p := 5) daX4_choose_82 dbX4_choose_82.2.2.2.2.2.1
theorem dX4_choose_88 : decode cX4_choose 88 = .ok (.iload_n 3, 1) := dgq (p := 6) daX4_choose_82 dbX4_choose_82.2.2.2.2.2.2.1
theorem dX4_choose_89 : decode cX4_choose 89 = .ok (.iload 5, 2) := dgq (p := 7) daX4_choose_82 dbX4_choose_82.2.2.2.2.2.2.2.1
theorem dX4_choose_91 : decode cX4_choose 91 = .ok (.iadd, 1) := dgq (p := 9) daX4_choose_82 dbX4_choose_82.2.2.2.2.2.2.2.2.1
theorem dX4_choose_92 : decode cX4_choose 92 = .ok (.invokestatic 70, 3) := dgq (p := 10) daX4_choose_82 dbX4_choose_82.2.2.2.2.2.2.2.2.2.1
theorem dX4_choose_95 : decode cX4_choose 95 = .ok (.aload_n 0, 1) := dgq (p := 13) daX4_choose_82 dbX4_choose_82.2.2.2.2.2.2.2.2.2.2.1
theorem dX4_choose_96 : decode cX4_choose 96 = .ok (.getfield 28, 3) := dgq (p := 14) daX4_choose_82 dbX4_choose_82.2.2.2.2.2.2.2.2.2.2.2.1
theorem dX4_choose_99 : decode cX4_choose 99 = .ok (.iload_n 1, 1) := dgq (p := 17) daX4_choose_82 dbX4_choose_82.2.2.2.2.2.2.2.2.2.2.2.2.1
theorem dX4_choose_100 : decode cX4_choose 100 = .ok (.iconst (-1), 1) := dgq (p := 18) daX4_choose_82 dbX4_choose_82.2.2.2.2.2.2.2.2.2.2.2.2.2.1
theorem dX4_choose_101 : decode cX4_choose 101 = .ok (.iastore, 1) := dgq (p := 19) daX4_choose_82 dbX4_choose_82.2.2.2.2.2.2.2.2.2.2.2.2.2.2.1
theorem dX4_choose_102 : decode cX4_choose 102 = .ok (.aload_n 0, 1) := dgq (p := 20) daX4_choose_82 dbX4_choose_82.2.2.2.2.2.2.2.2.2.2.2.2.2.2.2.1
theorem dX4_choose_103 : decode cX4_choose 103 = .ok (.getfield 24, 3) := dgq (p := 21) daX4_choose_82 dbX4_choose_82.2.2.2.2.2.2.2.2.2.2.2.2.2.2.2.2.1
theorem dX4_choose_106 : decode cX4_choose 106 = .ok (.iload 4, 2) := dgq (p := 24) daX4_choose_82 dbX4_choose_82.2.2.2.2.2.2.2.2.2.2.2.2.2.2.2.2.2.1
theorem dX4_choose_108 : decode cX4_choose 108 = .ok (.iconst 0, 1) := dgq (p := 26) daX4_choose_82 dbX4_choose_82.2.2.2.2.2.2.2.2.2.2.2.2.2.2.2.2.2.2.1
theorem dX4_choose_109 : decode cX4_choose 109 = .ok (.bastore, 1) := dgq (p := 27) daX4_choose_82 dbX4_choose_82.2.2.2.2.2.2.2.2.2.2.2.2.2.2.2.2.2.2.2.1
theorem dX4_choose_110 : decode cX4_choose 110 = .ok (.iinc 4 1, 3) := dgq (p := 28) daX4_choose_82 dbX4_choose_82.2.2.2.2.2.2.2.2.2.2.2.2.2.2.2.2.2.2.2.2.1
theorem dX4_choose_113 : decode cX4_choose 113 = .ok (.goto (-86), 3) := dgq (p := 31) daX4_choose_82 dbX4_choose_82.2.2.2.2.2.2.2.2.2.2.2.2.2.2.2.2.2.2.2.2.2.1
theorem dX4_choose_116 : decode cX4_choose 116 = .ok (.aload_n 0, 1) := dgq (p := 34) daX4_choose_82 dbX4_choose_82.2.2.2.2.2.2.2.2.2.2.2.2.2.2.2.2.2.2.2.2.2.2.1
theorem dX4_choose_117 : decode cX4_choose 117 = .ok (.iload_n 1, 1) := dgq (p := 35) daX4_choose_82 dbX4_choose_82.2.2.2.2.2.2.2.2.2.2.2.2.2.2.2.2.2.2.2.2.2.2.2
def dsX4_choose_118 : ByteArray := ⟨#[4, 96, 28, 29, 184, 0, 70, 177]⟩
theorem daX4_choose_118 : agB cX4_choose dsX4_choose_118 118 := agB_of (n := 8) (by decide +kernel)
theorem dbX4_choose_118 : (decode dsX4_choose_118 0 = .ok (.iconst 1, 1) ∧ okop dsX4_choose_118 0 = true) ∧ (decode dsX4_choose_118 1 = .ok (.iadd, 1) ∧ okop dsX4_choose_118 1 = true) ∧ (decode dsX4_choose_118 2 = .ok (.iload_n 2, 1) ∧ okop dsX4_choose_118 2 = true) ∧ (decode dsX4_choose_118 3 = .ok (.iload_n 3, 1) ∧ okop dsX4_choose_118 3 = true) ∧ (decode dsX4_choose_118 4 = .ok (.invokestatic 70, 3) ∧ okop dsX4_choose_118 4 = true) ∧ (decode dsX4_choose_118 7 = .ok (.return_, 1) ∧ okop dsX4_choose_118 7 = true) := by decide +kernel
theorem dX4_choose_118 : decode cX4_choose 118 = .ok (.iconst 1, 1) := dgq (p := 0) daX4_choose_118 dbX4_choose_118.1
theorem dX4_choose_119 : decode cX4_choose 119 = .ok (.iadd, 1) := dgq (p := 1) daX4_choose_118 dbX4_choose_118.2.1
theorem dX4_choose_120 : decode cX4_choose 120 = .ok (.iload_n 2, 1) := dgq (p := 2) daX4_choose_118 dbX4_choose_118.2.2.1
theorem dX4_choose_121 : decode cX4_choose 121 = .ok (.iload_n 3, 1) := dgq (p := 3) daX4_choose_118 dbX4_choose_118.2.2.2.1
theorem dX4_choose_122 : decode cX4_choose 122 = .ok (.invokestatic 70, 3) := dgq (p := 4) daX4_choose_118 dbX4_choose_118.2.2.2.2.1
theorem dX4_choose_125 : decode cX4_choose 125 = .ok (.return_, 1) := dgq (p := 7) daX4_choose_118 dbX4_choose_118.2.2.2.2.2
def dsX4_keepIfLess_0 : ByteArray := ⟨#[27, 42, 180, 0, 67, 162, 0, 22, 42, 27, 181, 0, 67, 42, 180, 0, 28, 3, 42, 180, 0, 31, 3, 8, 184, 0, 78, 177]⟩
theorem daX4_keepIfLess_0 : agB cX4_keepIfLess dsX4_keepIfLess_0 0 := agB_of (n := 28) (by decide +kernel)
theorem dbX4_keepIfLess_0 : (decode dsX4_keepIfLess_0 0 = .ok (.iload_n 1, 1) ∧ okop dsX4_keepIfLess_0 0 = true) ∧ (decode dsX4_keepIfLess_0 1 = .ok (.aload_n 0, 1) ∧ okop dsX4_keepIfLess_0 1 = true) ∧ (decode dsX4_keepIfLess_0 2 = .ok (.getfield 67, 3) ∧ okop dsX4_keepIfLess_0 2 = true) ∧ (decode dsX4_keepIfLess_0 5 = .ok (.if_icmp .ge 22, 3) ∧ okop dsX4_keepIfLess_0 5 = true) ∧ (decode dsX4_keepIfLess_0 8 = .ok (.aload_n 0, 1) ∧ okop dsX4_keepIfLess_0 8 = true) ∧ (decode dsX4_keepIfLess_0 9 = .ok (.iload_n 1, 1) ∧ okop dsX4_keepIfLess_0 9 = true) ∧ (decode dsX4_keepIfLess_0 10 = .ok (.putfield 67, 3) ∧ okop dsX4_keepIfLess_0 10 = true) ∧ (decode dsX4_keepIfLess_0 13 = .ok (.aload_n 0, 1) ∧ okop dsX4_keepIfLess_0 13 = true) ∧ (decode dsX4_keepIfLess_0 14 = .ok (.getfield 28, 3) ∧ okop dsX4_keepIfLess_0 14 = true) ∧ (decode dsX4_keepIfLess_0 17 = .ok (.iconst 0, 1) ∧ okop dsX4_keepIfLess_0 17 = true) ∧ (decode dsX4_keepIfLess_0 18 = .ok (.aload_n 0, 1) ∧ okop dsX4_keepIfLess_0 18 = true) ∧ (decode dsX4_keepIfLess_0 19 = .ok (.getfield 31, 3) ∧ okop dsX4_keepIfLess_0 19 = true) ∧ (decode dsX4_keepIfLess_0 22 = .ok (.iconst 0, 1) ∧ okop dsX4_keepIfLess_0 22 = true) ∧ (decode dsX4_keepIfLess_0 23 = .ok (.iconst 5, 1) ∧ okop dsX4_keepIfLess_0 23 = true) ∧ (decode dsX4_keepIfLess_0 24 = .ok (.invokestatic 78, 3) ∧ okop dsX4_keepIfLess_0 24 = true) ∧ (decode dsX4_keepIfLess_0 27 = .ok (.return_, 1) ∧ okop dsX4_keepIfLess_0 27 = true) := by decide +kernel
theorem dX4_keepIfLess_0 : decode cX4_keepIfLess 0 = .ok (.iload_n 1, 1) := dgq (p := 0) daX4_keepIfLess_0 dbX4_keepIfLess_0.1
theorem dX4_keepIfLess_1 : decode cX4_keepIfLess 1 = .ok (.aload_n 0, 1) := dgq (p := 1) daX4_keepIfLess_0 dbX4_keepIfLess_0.2.1
theorem dX4_keepIfLess_2 : decode cX4_keepIfLess 2 = .ok (.getfield 67, 3) := dgq (p := 2) daX4_keepIfLess_0 dbX4_keepIfLess_0.2.2.1
theorem dX4_keepIfLess_5 : decode cX4_keepIfLess 5 = .ok (.if_icmp .ge 22, 3) := dgq (p := 5) daX4_keepIfLess_0 dbX4_keepIfLess_0.2.2.2.1
theorem dX4_keepIfLess_8 : decode cX4_keepIfLess 8 = .ok (.aload_n 0, 1) := dgq (p := 8) daX4_keepIfLess_0 dbX4_keepIfLess_0.2.2.2.2.1
theorem dX4_keepIfLess_9 : decode cX4_keepIfLess 9 = .ok (.iload_n 1, 1) := dgq (p := 9) daX4_keepIfLess_0 dbX4_keepIfLess_0.2.2.2.2.2.1
theorem dX4_keepIfLess_10 : decode cX4_keepIfLess 10 = .ok (.putfield 67, 3) := dgq (p := 10) daX4_keepIfLess_0 dbX4_keepIfLess_0.2.2.2.2.2.2.1
theorem dX4_keepIfLess_13 : decode cX4_keepIfLess 13 = .ok (.aload_n 0, 1) := dgq (p := 13) daX4_keepIfLess_0 dbX4_keepIfLess_0.2.2.2.2.2.2.2.1
theorem dX4_keepIfLess_14 : decode cX4_keepIfLess 14 = .ok (.getfield 28, 3) := dgq (p := 14) daX4_keepIfLess_0 dbX4_keepIfLess_0.2.2.2.2.2.2.2.2.1
theorem dX4_keepIfLess_17 : decode cX4_keepIfLess 17 = .ok (.iconst 0, 1) := dgq (p := 17) daX4_keepIfLess_0 dbX4_keepIfLess_0.2.2.2.2.2.2.2.2.2.1
theorem dX4_keepIfLess_18 : decode cX4_keepIfLess 18 = .ok (.aload_n 0, 1) := dgq (p := 18) daX4_keepIfLess_0 dbX4_keepIfLess_0.2.2.2.2.2.2.2.2.2.2.1
theorem dX4_keepIfLess_19 : decode cX4_keepIfLess 19 = .ok (.getfield 31, 3) := dgq (p := 19) daX4_keepIfLess_0 dbX4_keepIfLess_0.2.2.2.2.2.2.2.2.2.2.2.1
theorem dX4_keepIfLess_22 : decode cX4_keepIfLess 22 = .ok (.iconst 0, 1) := dgq (p := 22) daX4_keepIfLess_0 dbX4_keepIfLess_0.2.2.2.2.2.2.2.2.2.2.2.2.1
theorem dX4_keepIfLess_23 : decode cX4_keepIfLess 23 = .ok (.iconst 5, 1) := dgq (p := 23) daX4_keepIfLess_0 dbX4_keepIfLess_0.2.2.2.2.2.2.2.2.2.2.2.2.2.1
theorem dX4_keepIfLess_24 : decode cX4_keepIfLess 24 = .ok (.invokestatic 78, 3) := dgq (p := 24) daX4_keepIfLess_0 dbX4_keepIfLess_0.2.2.2.2.2.2.2.2.2.2.2.2.2.2.1
theorem dX4_keepIfLess_27 : decode cX4_keepIfLess 27 = .ok (.return_, 1) := dgq (p := 27) daX4_keepIfLess_0 dbX4_keepIfLess_0.2.2.2.2.2.2.2.2.2.2.2.2.2.2.2
def dsX4_bind_0 : ByteArray := ⟨#[3, 60, 27, 42, 180, 0, 34, 162, 0, 64, 42, 180, 0, 31, 27, 46, 61, 28, 155, 0, 47, 28, 42, 180, 0, 38, 162, 0, 39, 42, 180, 0, 11, 27, 50, 42, 180, 0, 17, 28]⟩
theorem daX4_bind_0 : agB cX4_bind dsX4_bind_0 0 := agB_of (n := 40) (by decide +kernel)
theorem dbX4_bind_0 : (decode dsX4_bind_0 0 = .ok (.iconst 0, 1) ∧ okop dsX4_bind_0 0 = true) ∧ (decode dsX4_bind_0 1 = .ok (.istore_n 1, 1) ∧ okop dsX4_bind_0 1 = true) ∧ (decode dsX4_bind_0 2 = .ok (.iload_n 1, 1) ∧ okop dsX4_bind_0 2 = true) ∧ (decode dsX4_bind_0 3 = .ok (.aload_n 0, 1) ∧ okop dsX4_bind_0 3 = true) ∧ (decode dsX4_bind_0 4 = .ok (.getfield 34, 3) ∧ okop dsX4_bind_0 4 = true) ∧ (decode dsX4_bind_0 7 = .ok (.if_icmp .ge 64, 3) ∧ okop dsX4_bind_0 7 = true) ∧ (decode dsX4_bind_0 10 = .ok (.aload_n 0, 1) ∧ okop dsX4_bind_0 10 = true) ∧ (decode dsX4_bind_0 11 = .ok (.getfield 31, 3) ∧ okop dsX4_bind_0 11 = true) ∧ (decode dsX4_bind_0 14 = .ok (.iload_n 1, 1) ∧ okop dsX4_bind_0 14 = true) ∧ (decode dsX4_bind_0 15 = .ok (.iaload, 1) ∧ okop dsX4_bind_0 15 = true) ∧ (decode dsX4_bind_0 16 = .ok (.istore_n 2, 1) ∧ okop dsX4_bind_0 16 = true) ∧ (decode dsX4_bind_0 17 = .ok (.iload_n 2, 1) ∧ okop dsX4_bind_0 17 = true) ∧ (decode dsX4_bind_0 18 = .ok (.ifCond .lt 47, 3) ∧ okop dsX4_bind_0 18 = true) ∧ (decode dsX4_bind_0 21 = .ok (.iload_n 2, 1) ∧ okop dsX4_bind_0 21 = true) ∧ (decode dsX4_bind_0 22 = .ok (.aload_n 0, 1) ∧ okop dsX4_bind_0 22 = true) ∧ (decode dsX4_bind_0 23 = .ok (.getfield 38, 3) ∧ okop dsX4_bind_0 23 = true) ∧ (decode dsX4_bind_0 26 = .ok (.if_icmp .ge 39, 3) ∧ okop dsX4_bind_0 26 = true) ∧ (decode dsX4_bind_0 29 = .ok (.aload_n 0, 1) ∧ okop dsX4_bind_0 29 = true) ∧ (decode dsX4_bind_0 30 = .ok (.getfield 11, 3) ∧ okop dsX4_bind_0 30 = true) ∧ (decode dsX4_bind_0 33 = .ok (.iload_n 1, 1) ∧ okop dsX4_bind_0 33 = true) ∧ (decode dsX4_bind_0 34 = .ok (.aaload, 1) ∧ okop dsX4_bind_0 34 = true) ∧ (decode dsX4_bind_0 35 = .ok (.aload_n 0, 1) ∧ okop dsX4_bind_0 35 = true) ∧ (decode dsX4_bind_0 36 = .ok (.getfield 17, 3) ∧ okop dsX4_bind_0 36 = true) ∧ (decode dsX4_bind_0 39 = .ok (.iload_n 2, 1) ∧ okop dsX4_bind_0 39 = true) := by decide +kernel
theorem dX4_bind_0 : decode cX4_bind 0 = .ok (.iconst 0, 1) := dgq (p := 0) daX4_bind_0 dbX4_bind_0.1
theorem dX4_bind_1 : decode cX4_bind 1 = .ok (.istore_n 1, 1) := dgq (p := 1) daX4_bind_0 dbX4_bind_0.2.1
theorem dX4_bind_2 : decode cX4_bind 2 = .ok (.iload_n 1, 1) := dgq (p := 2) daX4_bind_0 dbX4_bind_0.2.2.1
theorem dX4_bind_3 : decode cX4_bind 3 = .ok (.aload_n 0, 1) := dgq (p := 3) daX4_bind_0 dbX4_bind_0.2.2.2.1
theorem dX4_bind_4 : decode cX4_bind 4 = .ok (.getfield 34, 3) := dgq (p := 4) daX4_bind_0 dbX4_bind_0.2.2.2.2.1
theorem dX4_bind_7 : decode cX4_bind 7 = .ok (.if_icmp .ge 64, 3) := dgq (p := 7) daX4_bind_0 dbX4_bind_0.2.2.2.2.2.1
theorem dX4_bind_10 : decode cX4_bind 10 = .ok (.aload_n 0, 1) := dgq (p := 10) daX4_bind_0 dbX4_bind_0.2.2.2.2.2.2.1
theorem dX4_bind_11 : decode cX4_bind 11 = .ok (.getfield 31, 3) := dgq (p := 11) daX4_bind_0 dbX4_bind_0.2.2.2.2.2.2.2.1
theorem dX4_bind_14 : decode cX4_bind 14 = .ok (.iload_n 1, 1) := dgq (p := 14) daX4_bind_0 dbX4_bind_0.2.2.2.2.2.2.2.2.1
theorem dX4_bind_15 : decode cX4_bind 15 = .ok (.iaload, 1) := dgq (p := 15) daX4_bind_0 dbX4_bind_0.2.2.2.2.2.2.2.2.2.1
theorem dX4_bind_16 : decode cX4_bind 16 = .ok (.istore_n 2, 1) := dgq (p := 16) daX4_bind_0 dbX4_bind_0.2.2.2.2.2.2.2.2.2.2.1
theorem dX4_bind_17 : decode cX4_bind 17 = .ok (.iload_n 2, 1) := dgq (p := 17) daX4_bind_0 dbX4_bind_0.2.2.2.2.2.2.2.2.2.2.2.1
theorem dX4_bind_18 : decode cX4_bind 18 = .ok (.ifCond .lt 47, 3) := dgq (p := 18) daX4_bind_0 dbX4_bind_0.2.2.2.2.2.2.2.2.2.2.2.2.1
theorem dX4_bind_21 : decode cX4_bind 21 = .ok (.iload_n 2, 1) := dgq (p := 21) daX4_bind_0 dbX4_bind_0.2.2.2.2.2.2.2.2.2.2.2.2.2.1
theorem dX4_bind_22 : decode cX4_bind 22 = .ok (.aload_n 0, 1) := dgq (p := 22) daX4_bind_0 dbX4_bind_0.2.2.2.2.2.2.2.2.2.2.2.2.2.2.1
theorem dX4_bind_23 : decode cX4_bind 23 = .ok (.getfield 38, 3) := dgq (p := 23) daX4_bind_0 dbX4_bind_0.2.2.2.2.2.2.2.2.2.2.2.2.2.2.2.1
theorem dX4_bind_26 : decode cX4_bind 26 = .ok (.if_icmp .ge 39, 3) := dgq (p := 26) daX4_bind_0 dbX4_bind_0.2.2.2.2.2.2.2.2.2.2.2.2.2.2.2.2.1
theorem dX4_bind_29 : decode cX4_bind 29 = .ok (.aload_n 0, 1) := dgq (p := 29) daX4_bind_0 dbX4_bind_0.2.2.2.2.2.2.2.2.2.2.2.2.2.2.2.2.2.1
theorem dX4_bind_30 : decode cX4_bind 30 = .ok (.getfield 11, 3) := dgq (p := 30) daX4_bind_0 dbX4_bind_0.2.2.2.2.2.2.2.2.2.2.2.2.2.2.2.2.2.2.1
theorem dX4_bind_33 : decode cX4_bind 33 = .ok (.iload_n 1, 1) := dgq (p := 33) daX4_bind_0 dbX4_bind_0.2.2.2.2.2.2.2.2.2.2.2.2.2.2.2.2.2.2.2.1
theorem dX4_bind_34 : decode cX4_bind 34 = .ok (.aaload, 1) := dgq (p := 34) daX4_bind_0 dbX4_bind_0.2.2.2.2.2.2.2.2.2.2.2.2.2.2.2.2.2.2.2.2.1
theorem dX4_bind_35 : decode cX4_bind 35 = .ok (.aload_n 0, 1) := dgq (p := 35) daX4_bind_0 dbX4_bind_0.2.2.2.2.2.2.2.2.2.2.2.2.2.2.2.2.2.2.2.2.2.1
theorem dX4_bind_36 : decode cX4_bind 36 = .ok (.getfield 17, 3) := dgq (p := 36) daX4_bind_0 dbX4_bind_0.2.2.2.2.2.2.2.2.2.2.2.2.2.2.2.2.2.2.2.2.2.2.1
theorem dX4_bind_39 : decode cX4_bind 39 = .ok (.iload_n 2, 1) := dgq (p := 39) daX4_bind_0 dbX4_bind_0.2.2.2.2.2.2.2.2.2.2.2.2.2.2.2.2.2.2.2.2.2.2.2
def dsX4_bind_40 : ByteArray := ⟨#[50, 180, 0, 84, 181, 0, 87, 42, 180, 0, 17, 28, 50, 42, 180, 0, 11, 27, 50, 180, 0, 84, 181, 0, 87, 132, 1, 1, 167, 255, 190, 177]⟩
theorem daX4_bind_40 : agB cX4_bind dsX4_bind_40 40 := agB_of (n := 32) (by decide +kernel)
theorem dbX4_bind_40 : (decode dsX4_bind_40 0 = .ok (.aaload, 1) ∧ okop dsX4_bind_40 0 = true) ∧ (decode dsX4_bind_40 1 = .ok (.getfield 84, 3) ∧ okop dsX4_bind_40 1 = true) ∧ (decode dsX4_bind_40 4 = .ok (.putfield 87, 3) ∧ okop dsX4_bind_40 4 = true) ∧ (decode dsX4_bind_40 7 = .ok (.aload_n 0, 1) ∧ okop dsX4_bind_40 7 = true) ∧ (decode dsX4_bind_40 8 = .ok (.getfield 17, 3) ∧ okop dsX4_bind_40 8 = true) ∧ (decode dsX4_bind_40 11 = .ok (.iload_n 2, 1) ∧ okop dsX4_bind_40 11 = true) ∧ (decode dsX4_bind_40 12 = .ok (.aaload, 1) ∧ okop dsX4_bind_40 12 = true) ∧ (decode dsX4_bind_40 13 = .ok (.aload_n 0, 1) ∧ okop dsX4_bind_40 13 = true) ∧ (decode dsX4_bind_40 14 = .ok (.getfield 11, 3) ∧ okop dsX4_bind_40 14 = true) ∧ (decode dsX4_bind_40 17 = .ok (.iload_n 1, 1) ∧ okop dsX4_bind_40 17 = true) ∧ (decode dsX4_bind_40 18 = .ok (.aaload, 1) ∧ okop dsX4_bind_40 18 = true) ∧ (decode dsX4_bind_40 19 = .ok (.getfield 84, 3) ∧ okop dsX4_bind_40 19 = true) ∧ (decode dsX4_bind_40 22 = .ok (.putfield 87, 3) ∧ okop dsX4_bind_40 22 = true) ∧ (decode dsX4_bind_40 25 = .ok (.iinc 1 1, 3) ∧ okop dsX4_bind_40 25 = true) ∧ (decode dsX4_bind_40 28 = .ok (.goto (-66), 3) ∧ okop dsX4_bind_40 28 = true) ∧ (decode dsX4_bind_40 31 = .ok (.return_, 1) ∧ okop dsX4_bind_40 31 = true) := by decide +kernel
theorem dX4_bind_40 : decode cX4_bind 40 = .ok (.aaload, 1) := dgq (p := 0) daX4_bind_40 dbX4_bind_40.1
theorem dX4_bind_41 : decode cX4_bind 41 = .ok (.getfield 84, 3) := dgq (p := 1) daX4_bind_40 dbX4_bind_40.2.1
theorem dX4_bind_44 : decode cX4_bind 44 = .ok (.putfield 87, 3) := dgq (p := 4) daX4_bind_40 dbX4_bind_40.2.2.1
theorem dX4_bind_47 : decode cX4_bind 47 = .ok (.aload_n 0, 1) := dgq (p := 7) daX4_bind_40 dbX4_bind_40.2.2.2.1
theorem dX4_bind_48 : decode cX4_bind 48 = .ok (.getfield 17, 3) := dgq (p := 8) daX4_bind_40 dbX4_bind_40.2.2.2.2.1
theorem dX4_bind_51 : decode cX4_bind 51 = .ok (.iload_n 2, 1) := dgq (p := 11) daX4_bind_40 dbX4_bind_40.2.2.2.2.2.1
theorem dX4_bind_52 : decode cX4_bind 52 = .ok (.aaload, 1) := dgq (p := 12) daX4_bind_40 dbX4_bind_40.2.2.2.2.2.2.1
theorem dX4_bind_53 : decode cX4_bind 53 = .ok (.aload_n 0, 1) := dgq (p := 13) daX4_bind_40 dbX4_bind_40.2.2.2.2.2.2.2.1
theorem dX4_bind_54 : decode cX4_bind 54 = .ok (.getfield 11, 3) := dgq (p := 14) daX4_bind_40 dbX4_bind_40.2.2.2.2.2.2.2.2.1
theorem dX4_bind_57 : decode cX4_bind 57 = .ok (.iload_n 1, 1) := dgq (p := 17) daX4_bind_40 dbX4_bind_40.2.2.2.2.2.2.2.2.2.1
theorem dX4_bind_58 : decode cX4_bind 58 = .ok (.aaload, 1) := dgq (p := 18) daX4_bind_40 dbX4_bind_40.2.2.2.2.2.2.2.2.2.2.1
theorem dX4_bind_59 : decode cX4_bind 59 = .ok (.getfield 84, 3) := dgq (p := 19) daX4_bind_40 dbX4_bind_40.2.2.2.2.2.2.2.2.2.2.2.1
theorem dX4_bind_62 : decode cX4_bind 62 = .ok (.putfield 87, 3) := dgq (p := 22) daX4_bind_40 dbX4_bind_40.2.2.2.2.2.2.2.2.2.2.2.2.1
theorem dX4_bind_65 : decode cX4_bind 65 = .ok (.iinc 1 1, 3) := dgq (p := 25) daX4_bind_40 dbX4_bind_40.2.2.2.2.2.2.2.2.2.2.2.2.2.1
theorem dX4_bind_68 : decode cX4_bind 68 = .ok (.goto (-66), 3) := dgq (p := 28) daX4_bind_40 dbX4_bind_40.2.2.2.2.2.2.2.2.2.2.2.2.2.2.1
theorem dX4_bind_71 : decode cX4_bind 71 = .ok (.return_, 1) := dgq (p := 31) daX4_bind_40 dbX4_bind_40.2.2.2.2.2.2.2.2.2.2.2.2.2.2.2
def dsX5_init_0 : ByteArray := ⟨#[42, 183, 0, 3, 42, 18, 9, 181, 0, 10, 42, 27, 181, 0, 16, 42, 28, 181, 0, 19, 42, 29, 181, 0, 22, 177]⟩
theorem daX5_init_0 : agB cX5_init dsX5_init_0 0 := agB_of (n := 26) (by decide +kernel)
theorem dbX5_init_0 : (decode dsX5_init_0 0 = .ok (.aload_n 0, 1) ∧ okop dsX5_init_0 0 = true) ∧ (decode dsX5_init_0 1 = .ok (.invokespecial 3, 3) ∧ okop dsX5_init_0 1 = true) ∧ (decode dsX5_init_0 4 = .ok (.aload_n 0, 1) ∧ okop dsX5_init_0 4 = true) ∧ (decode dsX5_init_0 5 = .ok (.ldc 9, 2) ∧ okop dsX5_init_0 5 = true) ∧ (decode dsX5_init_0 7 = .ok (.putfield 10, 3) ∧ okop dsX5_init_0 7 = true) ∧ (decode dsX5_init_0 10 = .ok (.aload_n 0, 1) ∧ okop dsX5_init_0 10 = true) ∧ (decode dsX5_init_0 11 = .ok (.iload_n 1, 1) ∧ okop dsX5_init_0 11 = true) ∧ (decode dsX5_init_0 12 = .ok (.putfield 16, 3) ∧ okop dsX5_init_0 12 = true) ∧ (decode dsX5_init_0 15 = .ok (.aload_n 0, 1) ∧ okop dsX5_init_0 15 = true) ∧ (decode dsX5_init_0 16 = .ok (.iload_n 2, 1) ∧ okop dsX5_init_0 16 = true) ∧ (decode dsX5_init_0 17 = .ok (.putfield 19, 3) ∧ okop dsX5_init_0 17 = true) ∧ (decode dsX5_init_0 20 = .ok (.aload_n 0, 1) ∧ okop dsX5_init_0 20 = true) ∧ (decode dsX5_init_0 21 = .ok (.iload_n 3, 1) ∧ okop dsX5_init_0 21 = true) ∧ (decode dsX5_init_0 22 = .ok (.putfield 22, 3) ∧ okop dsX5_init_0 22 = true) ∧ (decode dsX5_init_0 25 = .ok (.return_, 1) ∧ okop dsX5_init_0 25 = true) := by decide +kernel
theorem dX5_init_0 : decode cX5_init 0 = .ok (.aload_n 0, 1) := dgq (p := 0) daX5_init_0 dbX5_init_0.1
theorem dX5_init_1 : decode cX5_init 1 = .ok (.invokespecial 3, 3) := dgq (p := 1) daX5_init_0 dbX5_init_0.2.1
theorem dX5_init_4 : decode cX5_init 4 = .ok (.aload_n 0, 1) := dgq (p := 4) daX5_init_0 dbX5_init_0.2.2.1
theorem dX5_init_5 : decode cX5_init 5 = .ok (.ldc 9, 2) := dgq (p := 5) daX5_init_0 dbX5_init_0.2.2.2.1
theorem dX5_init_7 : decode cX5_init 7 = .ok (.putfield 10, 3) := dgq (p := 7) daX5_init_0 dbX5_init_0.2.2.2.2.1
theorem dX5_init_10 : decode cX5_init 10 = .ok (.aload_n 0, 1) := dgq (p := 10) daX5_init_0 dbX5_init_0.2.2.2.2.2.1
theorem dX5_init_11 : decode cX5_init 11 = .ok (.iload_n 1, 1) := dgq (p := 11) daX5_init_0 dbX5_init_0.2.2.2.2.2.2.1
theorem dX5_init_12 : decode cX5_init 12 = .ok (.putfield 16, 3) := dgq (p := 12) daX5_init_0 dbX5_init_0.2.2.2.2.2.2.2.1
theorem dX5_init_15 : decode cX5_init 15 = .ok (.aload_n 0, 1) := dgq (p := 15) daX5_init_0 dbX5_init_0.2.2.2.2.2.2.2.2.1
theorem dX5_init_16 : decode cX5_init 16 = .ok (.iload_n 2, 1) := dgq (p := 16) daX5_init_0 dbX5_init_0.2.2.2.2.2.2.2.2.2.1
theorem dX5_init_17 : decode cX5_init 17 = .ok (.putfield 19, 3) := dgq (p := 17) daX5_init_0 dbX5_init_0.2.2.2.2.2.2.2.2.2.2.1
theorem dX5_init_20 : decode cX5_init 20 = .ok (.aload_n 0, 1) := dgq (p := 20) daX5_init_0 dbX5_init_0.2.2.2.2.2.2.2.2.2.2.2.1
theorem dX5_init_21 : decode cX5_init 21 = .ok (.iload_n 3, 1) := dgq (p := 21) daX5_init_0 dbX5_init_0.2.2.2.2.2.2.2.2.2.2.2.2.1
theorem dX5_init_22 : decode cX5_init 22 = .ok (.putfield 22, 3) := dgq (p := 22) daX5_init_0 dbX5_init_0.2.2.2.2.2.2.2.2.2.2.2.2.2.1
theorem dX5_init_25 : decode cX5_init 25 = .ok (.return_, 1) := dgq (p := 25) daX5_init_0 dbX5_init_0.2.2.2.2.2.2.2.2.2.2.2.2.2.2
def dsX5_isFound_0 : ByteArray := ⟨#[42, 180, 0, 10, 18, 9, 162, 0, 7, 4, 167, 0, 4, 3, 172]⟩
theorem daX5_isFound_0 : agB cX5_isFound dsX5_isFound_0 0 := agB_of (n := 15) (by decide +kernel)
theorem dbX5_isFound_0 : (decode dsX5_isFound_0 0 = .ok (.aload_n 0, 1) ∧ okop dsX5_isFound_0 0 = true) ∧ (decode dsX5_isFound_0 1 = .ok (.getfield 10, 3) ∧ okop dsX5_isFound_0 1 = true) ∧ (decode dsX5_isFound_0 4 = .ok (.ldc 9, 2) ∧ okop dsX5_isFound_0 4 = true) ∧ (decode dsX5_isFound_0 6 = .ok (.if_icmp .ge 7, 3) ∧ okop dsX5_isFound_0 6 = true) ∧ (decode dsX5_isFound_0 9 = .ok (.iconst 1, 1) ∧ okop dsX5_isFound_0 9 = true) ∧ (decode dsX5_isFound_0 10 = .ok (.goto 4, 3) ∧ okop dsX5_isFound_0 10 = true) ∧ (decode dsX5_isFound_0 13 = .ok (.iconst 0, 1) ∧ okop dsX5_isFound_0 13 = true) ∧ (decode dsX5_isFound_0 14 = .ok (.ireturn, 1) ∧ okop dsX5_isFound_0 14 = true) := by decide +kernel
theorem dX5_isFound_0 : decode cX5_isFound 0 = .ok (.aload_n 0, 1) := dgq (p := 0) daX5_isFound_0 dbX5_isFound_0.1
theorem dX5_isFound_1 : decode cX5_isFound 1 = .ok (.getfield 10, 3) := dgq (p := 1) daX5_isFound_0 dbX5_isFound_0.2.1
theorem dX5_isFound_4 : decode cX5_isFound 4 = .ok (.ldc 9, 2) := dgq (p := 4) daX5_isFound_0 dbX5_isFound_0.2.2.1
theorem dX5_isFound_6 : decode cX5_isFound 6 = .ok (.if_icmp .ge 7, 3) := dgq (p := 6) daX5_isFound_0 dbX5_isFound_0.2.2.2.1
theorem dX5_isFound_9 : decode cX5_isFound 9 = .ok (.iconst 1, 1) := dgq (p := 9) daX5_isFound_0 dbX5_isFound_0.2.2.2.2.1
theorem dX5_isFound_10 : decode cX5_isFound 10 = .ok (.goto 4, 3) := dgq (p := 10) daX5_isFound_0 dbX5_isFound_0.2.2.2.2.2.1
theorem dX5_isFound_13 : decode cX5_isFound 13 = .ok (.iconst 0, 1) := dgq (p := 13) daX5_isFound_0 dbX5_isFound_0.2.2.2.2.2.2.1
theorem dX5_isFound_14 : decode cX5_isFound 14 = .ok (.ireturn, 1) := dgq (p := 14) daX5_isFound_0 dbX5_isFound_0.2.2.2.2.2.2.2
set_option maxRecDepth 20000 in
theorem ggX5_search_X5_isFound : GoodIn wsX5_search wsX5_isFound := goodIn_q _ [5, 6, 7, 20, 21, 22, 23, 24, 25] rfl (by decide +kernel)
set_option maxRecDepth 20000 in
theorem gX5_search_X5_isFound : GoodIn wsX5_search (wsV RX5 25 RX5 yX5_isFound wsX5_isFound) := goodIn_app (goodIn_q _ [1, 2, 3, 4] rfl (by decide +kernel)) ggX5_search_X5_isFound
set_option maxRecDepth 20000 in
theorem ggX5_search_X5_compare : GoodIn wsX5_search wsX5_compare := goodIn_q _ [11, 12, 13, 14, 6, 15, 16, 17, 18, 19, 20, 21, 22, 23, 24, 25] rfl (by decide +kernel)
set_option maxRecDepth 20000 in
theorem gX5_search_X5_compare : GoodIn wsX5_search (wsV RX5 29 RX5 yX5_compare wsX5_compare) := goodIn_app (goodIn_q _ [8, 9, 10, 4] rfl (by decide +kernel)) ggX5_search_X5_compare
theorem dX5_search_39 : decode cX5_search 39 = .ok (.iinc 2 250, 6) := by decide +kernel
def dsX5_search_0 : ByteArray := ⟨#[3, 60, 27, 16, 50, 163, 0, 49, 42, 182, 0, 25, 154, 0, 42, 17, 1, 244, 61, 28, 17, 39, 16, 163, 0, 25, 42, 28, 27, 182, 0, 29, 42, 28, 27, 116, 182, 0, 29, 196, 132, 0, 2, 0, 250, 167, 255, 230, 132, 1, 1]⟩
theorem daX5_search_0 : agB cX5_search dsX5_search_0 0 := agB_of (n := 51) (by decide +kernel)
theorem dbX5_search_0 : (decode dsX5_search_0 0 = .ok (.iconst 0, 1) ∧ okop dsX5_search_0 0 = true) ∧ (decode dsX5_search_0 1 = .ok (.istore_n 1, 1) ∧ okop dsX5_search_0 1 = true) ∧ (decode dsX5_search_0 2 = .ok (.iload_n 1, 1) ∧ okop dsX5_search_0 2 = true) ∧ (decode dsX5_search_0 3 = .ok (.bipush 50, 2) ∧ okop dsX5_search_0 3 = true) ∧ (decode dsX5_search_0 5 = .ok (.if_icmp .gt 49, 3) ∧ okop dsX5_search_0 5 = true) ∧ (decode dsX5_search_0 8 = .ok (.aload_n 0, 1) ∧ okop dsX5_search_0 8 = true) ∧ (decode dsX5_search_0 9 = .ok (.invokevirtual 25, 3) ∧ okop dsX5_search_0 9 = true) ∧ (decode dsX5_search_0 12 = .ok (.ifCond .ne 42, 3) ∧ okop dsX5_search_0 12 = true) ∧ (decode dsX5_search_0 15 = .ok (.sipush 500, 3) ∧ okop dsX5_search_0 15 = true) ∧ (decode dsX5_search_0 18 = .ok (.istore_n 2, 1) ∧ okop dsX5_search_0 18 = true) ∧ (decode dsX5_search_0 19 = .ok (.iload_n 2, 1) ∧ okop dsX5_search_0 19 = true) ∧ (decode dsX5_search_0 20 = .ok (.sipush 10000, 3) ∧ okop dsX5_search_0 20 = true) ∧ (decode dsX5_search_0 23 = .ok (.if_icmp .gt 25, 3) ∧ okop dsX5_search_0 23 = true) ∧ (decode dsX5_search_0 26 = .ok (.aload_n 0, 1) ∧ okop dsX5_search_0 26 = true) ∧ (decode dsX5_search_0 27 = .ok (.iload_n 2, 1) ∧ okop dsX5_search_0 27 = true) ∧ (decode dsX5_search_0 28 = .ok (.iload_n 1, 1) ∧ okop dsX5_search_0 28 = true) ∧ (decode dsX5_search_0 29 = .ok (.invokevirtual 29, 3) ∧ okop dsX5_search_0 29 = true) ∧ (decode dsX5_search_0 32 = .ok (.aload_n 0, 1) ∧ okop dsX5_search_0 32 = true) ∧ (decode dsX5_search_0 33 = .ok (.iload_n 2, 1) ∧ okop dsX5_search_0 33 = true) ∧ (decode dsX5_search_0 34 = .ok (.iload_n 1, 1) ∧ okop dsX5_search_0 34 = true) ∧ (decode dsX5_search_0 35 = .ok (.ineg, 1) ∧ okop dsX5_search_0 35 = true) ∧ (decode dsX5_search_0 36 = .ok (.invokevirtual 29, 3) ∧ okop dsX5_search_0 36 = true) ∧ (decode dsX5_search_0 45 = .ok (.goto (-26), 3) ∧ okop dsX5_search_0 45 = true) ∧ (decode dsX5_search_0 48 = .ok (.iinc 1 1, 3) ∧ okop dsX5_search_0 48 = true) := by decide +kernel
theorem dX5_search_0 : decode cX5_search 0 = .ok (.iconst 0, 1) := dgq (p := 0) daX5_search_0 dbX5_search_0.1
theorem dX5_search_1 : decode cX5_search 1 = .ok (.istore_n 1, 1) := dgq (p := 1) daX5_search_0 dbX5_search_0.2.1
theorem dX5_search_2 : decode cX5_search 2 = .ok (.iload_n 1, 1) := dgq (p := 2) daX5_search_0 dbX5_search_0.2.2.1
theorem dX5_search_3 : decode cX5_search 3 = .ok (.bipush 50, 2) := dgq (p := 3) daX5_search_0 dbX5_search_0.2.2.2.1
theorem dX5_search_5 : decode cX5_search 5 = .ok (.if_icmp .gt 49, 3) := dgq (p := 5) daX5_search_0 dbX5_search_0.2.2.2.2.1
theorem dX5_search_8 : decode cX5_search 8 = .ok (.aload_n 0, 1) := dgq (p := 8) daX5_search_0 dbX5_search_0.2.2.2.2.2.1
theorem dX5_search_9 : decode cX5_search 9 = .ok (.invokevirtual 25, 3) := dgq (p := 9) daX5_search_0 dbX5_search_0.2.2.2.2.2.2.1
theorem dX5_search_12 : decode cX5_search 12 = .ok (.ifCond .ne 42, 3) := dgq (p := 12) daX5_search_0 dbX5_search_0.2.2.2.2.2.2.2.1
theorem dX5_search_15 : decode cX5_search 15 = .ok (.sipush 500, 3) := dgq (p := 15) daX5_search_0 dbX5_search_0.2.2.2.2.2.2.2.2.1
theorem dX5_search_18 : decode cX5_search 18 = .ok (.istore_n 2, 1) := dgq (p := 18) daX5_search_0 dbX5_search_0.2.2.2.2.2.2.2.2.2.1
theorem dX5_search_19 : decode cX5_search 19 = .ok (.iload_n 2, 1) := dgq (p := 19) daX5_search_0 dbX5_search_0.2.2.2.2.2.2.2.2.2.2.1
theorem dX5_search_20 : decode cX5_search 20 = .ok (.sipush 10000, 3) := dgq (p := 20) daX5_search_0 dbX5_search_0.2.2.2.2.2.2.2.2.2.2.2.1
theorem dX5_search_23 : decode cX5_search 23 = .ok (.if_icmp .gt 25, 3) := dgq (p := 23) daX5_search_0 dbX5_search_0.2.2.2.2.2.2.2.2.2.2.2.2.1
theorem dX5_search_26 : decode cX5_search 26 = .ok (.aload_n 0, 1) := dgq (p := 26) daX5_search_0 dbX5_search_0.2.2.2.2.2.2.2.2.2.2.2.2.2.1
theorem dX5_search_27 : decode cX5_search 27 = .ok (.iload_n 2, 1) := dgq (p := 27) daX5_search_0 dbX5_search_0.2.2.2.2.2.2.2.2.2.2.2.2.2.2.1
theorem dX5_search_28 : decode cX5_search 28 = .ok (.iload_n 1, 1) := dgq (p := 28) daX5_search_0 dbX5_search_0.2.2.2.2.2.2.2.2.2.2.2.2.2.2.2.1
theorem dX5_search_29 : decode cX5_search 29 = .ok (.invokevirtual 29, 3) := dgq (p := 29) daX5_search_0 dbX5_search_0.2.2.2.2.2.2.2.2.2.2.2.2.2.2.2.2.1
theorem dX5_search_32 : decode cX5_search 32 = .ok (.aload_n 0, 1) := dgq (p := 32) daX5_search_0 dbX5_search_0.2.2.2.2.2.2.2.2.2.2.2.2.2.2.2.2.2.1
theorem dX5_search_33 : decode cX5_search 33 = .ok (.iload_n 2, 1) := dgq (p := 33) daX5_search_0 dbX5_search_0.2.2.2.2.2.2.2.2.2.2.2.2.2.2.2.2.2.2.1
theorem dX5_search_34 : decode cX5_search 34 = .ok (.iload_n 1, 1) := dgq (p := 34) daX5_search_0 dbX5_search_0.2.2.2.2.2.2.2.2.2.2.2.2.2.2.2.2.2.2.2.1
theorem dX5_search_35 : decode cX5_search 35 = .ok (.ineg, 1) := dgq (p := 35) daX5_search_0 dbX5_search_0.2.2.2.2.2.2.2.2.2.2.2.2.2.2.2.2.2.2.2.2.1
theorem dX5_search_36 : decode cX5_search 36 = .ok (.invokevirtual 29, 3) := dgq (p := 36) daX5_search_0 dbX5_search_0.2.2.2.2.2.2.2.2.2.2.2.2.2.2.2.2.2.2.2.2.2.1
theorem dX5_search_45 : decode cX5_search 45 = .ok (.goto (-26), 3) := dgq (p := 45) daX5_search_0 dbX5_search_0.2.2.2.2.2.2.2.2.2.2.2.2.2.2.2.2.2.2.2.2.2.2.1
theorem dX5_search_48 : decode cX5_search 48 = .ok (.iinc 1 1, 3) := dgq (p := 48) daX5_search_0 dbX5_search_0.2.2.2.2.2.2.2.2.2.2.2.2.2.2.2.2.2.2.2.2.2.2.2
theorem dX5_search_51 : decode cX5_search 51 = .ok (.goto (-49), 3) := by decide +kernel
theorem dX5_search_54 : decode cX5_search 54 = .ok (.return_, 1) := by decide +kernel
set_option maxRecDepth 20000 in
theorem ggX5_compare_X9_tipOf : GoodIn wsX5_compare wsX9_tipOf := goodIn_q _ [9] rfl (by decide +kernel)
set_option maxRecDepth 20000 in
theorem gX5_compare_X9_tipOf_n33 : GoodIn wsX5_compare (wsX9_tipOf) := ggX5_compare_X9_tipOf
def dsX5_compare_0 : ByteArray := ⟨#[42, 180, 0, 16, 27, 28, 184, 0, 33, 62, 29, 42, 180, 0, 19, 161, 0, 20, 29, 42, 180, 0, 19, 100, 42, 180, 0, 22, 163, 0, 7, 4, 167, 0, 4, 3, 54, 4, 21, 4, 153, 0, 26, 29]⟩
theorem daX5_compare_0 : agB cX5_compare dsX5_compare_0 0 := agB_of (n := 44) (by decide +kernel)
theorem dbX5_compare_0 : (decode dsX5_compare_0 0 = .ok (.aload_n 0, 1) ∧ okop dsX5_compare_0 0 = true) ∧ (decode dsX5_compare_0 1 = .ok (.getfield 16, 3) ∧ okop dsX5_compare_0 1 = true) ∧ (decode dsX5_compare_0 4 = .ok (.iload_n 1, 1) ∧ okop dsX5_compare_0 4 = true) ∧ (decode dsX5_compare_0 5 = .ok (.iload_n 2, 1) ∧ okop dsX5_compare_0 5 = true) ∧ (decode dsX5_compare_0 6 = .ok (.invokestatic 33, 3) ∧ okop dsX5_compare_0 6 = true) ∧ (decode dsX5_compare_0 9 = .ok (.istore_n 3, 1) ∧ okop dsX5_compare_0 9 = true) ∧ (decode dsX5_compare_0 10 = .ok (.iload_n 3, 1) ∧ okop dsX5_compare_0 10 = true) ∧ (decode dsX5_compare_0 11 = .ok (.aload_n 0, 1) ∧ okop dsX5_compare_0 11 = true) ∧ (decode dsX5_compare_0 12 = .ok (.getfield 19, 3) ∧ okop dsX5_compare_0 12 = true) ∧ (decode dsX5_compare_0 15 = .ok (.if_icmp .lt 20, 3) ∧ okop dsX5_compare_0 15 = true) ∧ (decode dsX5_compare_0 18 = .ok (.iload_n 3, 1) ∧ okop dsX5_compare_0 18 = true) ∧ (decode dsX5_compare_0 19 = .ok (.aload_n 0, 1) ∧ okop dsX5_compare_0 19 = true) ∧ (decode dsX5_compare_0 20 = .ok (.getfield 19, 3) ∧ okop dsX5_compare_0 20 = true) ∧ (decode dsX5_compare_0 23 = .ok (.isub, 1) ∧ okop dsX5_compare_0 23 = true) ∧ (decode dsX5_compare_0 24 = .ok (.aload_n 0, 1) ∧ okop dsX5_compare_0 24 = true) ∧ (decode dsX5_compare_0 25 = .ok (.getfield 22, 3) ∧ okop dsX5_compare_0 25 = true) ∧ (decode dsX5_compare_0 28 = .ok (.if_icmp .gt 7, 3) ∧ okop dsX5_compare_0 28 = true) ∧ (decode dsX5_compare_0 31 = .ok (.iconst 1, 1) ∧ okop dsX5_compare_0 31 = true) ∧ (decode dsX5_compare_0 32 = .ok (.goto 4, 3) ∧ okop dsX5_compare_0 32 = true) ∧ (decode dsX5_compare_0 35 = .ok (.iconst 0, 1) ∧ okop dsX5_compare_0 35 = true) ∧ (decode dsX5_compare_0 36 = .ok (.istore 4, 2) ∧ okop dsX5_compare_0 36 = true) ∧ (decode dsX5_compare_0 38 = .ok (.iload 4, 2) ∧ okop dsX5_compare_0 38 = true) ∧ (decode dsX5_compare_0 40 = .ok (.ifCond .eq 26, 3) ∧ okop dsX5_compare_0 40 = true) ∧ (decode dsX5_compare_0 43 = .ok (.iload_n 3, 1) ∧ okop dsX5_compare_0 43 = true) := by decide +kernel
theorem dX5_compare_0 : decode cX5_compare 0 = .ok (.aload_n 0, 1) := dgq (p := 0) daX5_compare_0 dbX5_compare_0.1
theorem dX5_compare_1 : decode cX5_compare 1 = .ok (.getfield 16, 3) := dgq (p := 1) daX5_compare_0 dbX5_compare_0.2.1
theorem dX5_compare_4 : decode cX5_compare 4 = .ok (.iload_n 1, 1) := dgq (p := 4) daX5_compare_0 dbX5_compare_0.2.2.1
theorem dX5_compare_5 : decode cX5_compare 5 = .ok (.iload_n 2, 1) := dgq (p := 5) daX5_compare_0 dbX5_compare_0.2.2.2.1
theorem dX5_compare_6 : decode cX5_compare 6 = .ok (.invokestatic 33, 3) := dgq (p := 6) daX5_compare_0 dbX5_compare_0.2.2.2.2.1
theorem dX5_compare_9 : decode cX5_compare 9 = .ok (.istore_n 3, 1) := dgq (p := 9) daX5_compare_0 dbX5_compare_0.2.2.2.2.2.1
theorem dX5_compare_10 : decode cX5_compare 10 = .ok (.iload_n 3, 1) := dgq (p := 10) daX5_compare_0 dbX5_compare_0.2.2.2.2.2.2.1
theorem dX5_compare_11 : decode cX5_compare 11 = .ok (.aload_n 0, 1) := dgq (p := 11) daX5_compare_0 dbX5_compare_0.2.2.2.2.2.2.2.1
theorem dX5_compare_12 : decode cX5_compare 12 = .ok (.getfield 19, 3) := dgq (p := 12) daX5_compare_0 dbX5_compare_0.2.2.2.2.2.2.2.2.1
theorem dX5_compare_15 : decode cX5_compare 15 = .ok (.if_icmp .lt 20, 3) := dgq (p := 15) daX5_compare_0 dbX5_compare_0.2.2.2.2.2.2.2.2.2.1
theorem dX5_compare_18 : decode cX5_compare 18 = .ok (.iload_n 3, 1) := dgq (p := 18) daX5_compare_0 dbX5_compare_0.2.2.2.2.2.2.2.2.2.2.1
theorem dX5_compare_19 : decode cX5_compare 19 = .ok (.aload_n 0, 1) := dgq (p := 19) daX5_compare_0 dbX5_compare_0.2.2.2.2.2.2.2.2.2.2.2.1
theorem dX5_compare_20 : decode cX5_compare 20 = .ok (.getfield 19, 3) := dgq (p := 20) daX5_compare_0 dbX5_compare_0.2.2.2.2.2.2.2.2.2.2.2.2.1
theorem dX5_compare_23 : decode cX5_compare 23 = .ok (.isub, 1) := dgq (p := 23) daX5_compare_0 dbX5_compare_0.2.2.2.2.2.2.2.2.2.2.2.2.2.1
theorem dX5_compare_24 : decode cX5_compare 24 = .ok (.aload_n 0, 1) := dgq (p := 24) daX5_compare_0 dbX5_compare_0.2.2.2.2.2.2.2.2.2.2.2.2.2.2.1
theorem dX5_compare_25 : decode cX5_compare 25 = .ok (.getfield 22, 3) := dgq (p := 25) daX5_compare_0 dbX5_compare_0.2.2.2.2.2.2.2.2.2.2.2.2.2.2.2.1
theorem dX5_compare_28 : decode cX5_compare 28 = .ok (.if_icmp .gt 7, 3) := dgq (p := 28) daX5_compare_0 dbX5_compare_0.2.2.2.2.2.2.2.2.2.2.2.2.2.2.2.2.1
theorem dX5_compare_31 : decode cX5_compare 31 = .ok (.iconst 1, 1) := dgq (p := 31) daX5_compare_0 dbX5_compare_0.2.2.2.2.2.2.2.2.2.2.2.2.2.2.2.2.2.1
theorem dX5_compare_32 : decode cX5_compare 32 = .ok (.goto 4, 3) := dgq (p := 32) daX5_compare_0 dbX5_compare_0.2.2.2.2.2.2.2.2.2.2.2.2.2.2.2.2.2.2.1
theorem dX5_compare_35 : decode cX5_compare 35 = .ok (.iconst 0, 1) := dgq (p := 35) daX5_compare_0 dbX5_compare_0.2.2.2.2.2.2.2.2.2.2.2.2.2.2.2.2.2.2.2.1
theorem dX5_compare_36 : decode cX5_compare 36 = .ok (.istore 4, 2) := dgq (p := 36) daX5_compare_0 dbX5_compare_0.2.2.2.2.2.2.2.2.2.2.2.2.2.2.2.2.2.2.2.2.1
theorem dX5_compare_38 : decode cX5_compare 38 = .ok (.iload 4, 2) := dgq (p := 38) daX5_compare_0 dbX5_compare_0.2.2.2.2.2.2.2.2.2.2.2.2.2.2.2.2.2.2.2.2.2.1
theorem dX5_compare_40 : decode cX5_compare 40 = .ok (.ifCond .eq 26, 3) := dgq (p := 40) daX5_compare_0 dbX5_compare_0.2.2.2.2.2.2.2.2.2.2.2.2.2.2.2.2.2.2.2.2.2.2.1
theorem dX5_compare_43 : decode cX5_compare 43 = .ok (.iload_n 3, 1) := dgq (p := 43) daX5_compare_0 dbX5_compare_0.2.2.2.2.2.2.2.2.2.2.2.2.2.2.2.2.2.2.2.2.2.2.2
def dsX5_compare_44 : ByteArray := ⟨#[42, 180, 0, 10, 162, 0, 18, 42, 29, 181, 0, 10, 42, 27, 181, 0, 37, 42, 28, 181, 0, 40, 177]⟩
theorem daX5_compare_44 : agB cX5_compare dsX5_compare_44 44 := agB_of (n := 23) (by decide +kernel)
theorem dbX5_compare_44 : (decode dsX5_compare_44 0 = .ok (.aload_n 0, 1) ∧ okop dsX5_compare_44 0 = true) ∧ (decode dsX5_compare_44 1 = .ok (.getfield 10, 3) ∧ okop dsX5_compare_44 1 = true) ∧ (decode dsX5_compare_44 4 = .ok (.if_icmp .ge 18, 3) ∧ okop dsX5_compare_44 4 = true) ∧ (decode dsX5_compare_44 7 = .ok (.aload_n 0, 1) ∧ okop dsX5_compare_44 7 = true) ∧ (decode dsX5_compare_44 8 = .ok (.iload_n 3, 1) ∧ okop dsX5_compare_44 8 = true) ∧ (decode dsX5_compare_44 9 = .ok (.putfield 10, 3) ∧ okop dsX5_compare_44 9 = true) ∧ (decode dsX5_compare_44 12 = .ok (.aload_n 0, 1) ∧ okop dsX5_compare_44 12 = true) ∧ (decode dsX5_compare_44 13 = .ok (.iload_n 1, 1) ∧ okop dsX5_compare_44 13 = true) ∧ (decode dsX5_compare_44 14 = .ok (.putfield 37, 3) ∧ okop dsX5_compare_44 14 = true) ∧ (decode dsX5_compare_44 17 = .ok (.aload_n 0, 1) ∧ okop dsX5_compare_44 17 = true) ∧ (decode dsX5_compare_44 18 = .ok (.iload_n 2, 1) ∧ okop dsX5_compare_44 18 = true) ∧ (decode dsX5_compare_44 19 = .ok (.putfield 40, 3) ∧ okop dsX5_compare_44 19 = true) ∧ (decode dsX5_compare_44 22 = .ok (.return_, 1) ∧ okop dsX5_compare_44 22 = true) := by decide +kernel
theorem dX5_compare_44 : decode cX5_compare 44 = .ok (.aload_n 0, 1) := dgq (p := 0) daX5_compare_44 dbX5_compare_44.1
theorem dX5_compare_45 : decode cX5_compare 45 = .ok (.getfield 10, 3) := dgq (p := 1) daX5_compare_44 dbX5_compare_44.2.1
theorem dX5_compare_48 : decode cX5_compare 48 = .ok (.if_icmp .ge 18, 3) := dgq (p := 4) daX5_compare_44 dbX5_compare_44.2.2.1
theorem dX5_compare_51 : decode cX5_compare 51 = .ok (.aload_n 0, 1) := dgq (p := 7) daX5_compare_44 dbX5_compare_44.2.2.2.1
theorem dX5_compare_52 : decode cX5_compare 52 = .ok (.iload_n 3, 1) := dgq (p := 8) daX5_compare_44 dbX5_compare_44.2.2.2.2.1
theorem dX5_compare_53 : decode cX5_compare 53 = .ok (.putfield 10, 3) := dgq (p := 9) daX5_compare_44 dbX5_compare_44.2.2.2.2.2.1
theorem dX5_compare_56 : decode cX5_compare 56 = .ok (.aload_n 0, 1) := dgq (p := 12) daX5_compare_44 dbX5_compare_44.2.2.2.2.2.2.1
theorem dX5_compare_57 : decode cX5_compare 57 = .ok (.iload_n 1, 1) := dgq (p := 13) daX5_compare_44 dbX5_compare_44.2.2.2.2.2.2.2.1
theorem dX5_compare_58 : decode cX5_compare 58 = .ok (.putfield 37, 3) := dgq (p := 14) daX5_compare_44 dbX5_compare_44.2.2.2.2.2.2.2.2.1
theorem dX5_compare_61 : decode cX5_compare 61 = .ok (.aload_n 0, 1) := dgq (p := 17) daX5_compare_44 dbX5_compare_44.2.2.2.2.2.2.2.2.2.1
theorem dX5_compare_62 : decode cX5_compare 62 = .ok (.iload_n 2, 1) := dgq (p := 18) daX5_compare_44 dbX5_compare_44.2.2.2.2.2.2.2.2.2.2.1
theorem dX5_compare_63 : decode cX5_compare 63 = .ok (.putfield 40, 3) := dgq (p := 19) daX5_compare_44 dbX5_compare_44.2.2.2.2.2.2.2.2.2.2.2.1
theorem dX5_compare_66 : decode cX5_compare 66 = .ok (.return_, 1) := dgq (p := 22) daX5_compare_44 dbX5_compare_44.2.2.2.2.2.2.2.2.2.2.2.2
theorem dX6_init_8 : decode cX6_init 8 = .ok (.newarray .int, 2) := by decide +kernel
theorem dX6_init_17 : decode cX6_init 17 = .ok (.newarray .int, 2) := by decide +kernel
theorem dX6_init_26 : decode cX6_init 26 = .ok (.newarray .int, 2) := by decide +kernel
theorem dX6_init_35 : decode cX6_init 35 = .ok (.newarray .int, 2) := by decide +kernel
def dsX6_init_0 : ByteArray := ⟨#[42, 183, 0, 3, 42, 17, 0, 200, 188, 10, 181, 0, 9, 42, 17, 0, 200, 188, 10, 181, 0, 15, 42, 17, 0, 200, 188, 10, 181, 0, 18, 42, 17, 0, 200, 188, 10, 181, 0, 21, 42, 4, 181, 0, 24, 177]⟩
theorem daX6_init_0 : agB cX6_init dsX6_init_0 0 := agB_of (n := 46) (by decide +kernel)
theorem dbX6_init_0 : (decode dsX6_init_0 0 = .ok (.aload_n 0, 1) ∧ okop dsX6_init_0 0 = true) ∧ (decode dsX6_init_0 1 = .ok (.invokespecial 3, 3) ∧ okop dsX6_init_0 1 = true) ∧ (decode dsX6_init_0 4 = .ok (.aload_n 0, 1) ∧ okop dsX6_init_0 4 = true) ∧ (decode dsX6_init_0 5 = .ok (.sipush 200, 3) ∧ okop dsX6_init_0 5 = true) ∧ (decode dsX6_init_0 10 = .ok (.putfield 9, 3) ∧ okop dsX6_init_0 10 = true) ∧ (decode dsX6_init_0 13 = .ok (.aload_n 0, 1) ∧ okop dsX6_init_0 13 = true) ∧ (decode dsX6_init_0 14 = .ok (.sipush 200, 3) ∧ okop dsX6_init_0 14 = true) ∧ (decode dsX6_init_0 19 = .ok (.putfield 15, 3) ∧ okop dsX6_init_0 19 = true) ∧ (decode dsX6_init_0 22 = .ok (.aload_n 0, 1) ∧ okop dsX6_init_0 22 = true) ∧ (decode dsX6_init_0 23 = .ok (.sipush 200, 3) ∧ okop dsX6_init_0 23 = true) ∧ (decode dsX6_init_0 28 = .ok (.putfield 18, 3) ∧ okop dsX6_init_0 28 = true) ∧ (decode dsX6_init_0 31 = .ok (.aload_n 0, 1) ∧ okop dsX6_init_0 31 = true) ∧ (decode dsX6_init_0 32 = .ok (.sipush 200, 3) ∧ okop dsX6_init_0 32 = true) ∧ (decode dsX6_init_0 37 = .ok (.putfield 21, 3) ∧ okop dsX6_init_0 37 = true) ∧ (decode dsX6_init_0 40 = .ok (.aload_n 0, 1) ∧ okop dsX6_init_0 40 = true) ∧ (decode dsX6_init_0 41 = .ok (.iconst 1, 1) ∧ okop dsX6_init_0 41 = true) ∧ (decode dsX6_init_0 42 = .ok (.putfield 24, 3) ∧ okop dsX6_init_0 42 = true) ∧ (decode dsX6_init_0 45 = .ok (.return_, 1) ∧ okop dsX6_init_0 45 = true) := by decide +kernel
theorem dX6_init_0 : decode cX6_init 0 = .ok (.aload_n 0, 1) := dgq (p := 0) daX6_init_0 dbX6_init_0.1
theorem dX6_init_1 : decode cX6_init 1 = .ok (.invokespecial 3, 3) := dgq (p := 1) daX6_init_0 dbX6_init_0.2.1
theorem dX6_init_4 : decode cX6_init 4 = .ok (.aload_n 0, 1) := dgq (p := 4) daX6_init_0 dbX6_init_0.2.2.1
theorem dX6_init_5 : decode cX6_init 5 = .ok (.sipush 200, 3) := dgq (p := 5) daX6_init_0 dbX6_init_0.2.2.2.1
theorem dX6_init_10 : decode cX6_init 10 = .ok (.putfield 9, 3) := dgq (p := 10) daX6_init_0 dbX6_init_0.2.2.2.2.1
theorem dX6_init_13 : decode cX6_init 13 = .ok (.aload_n 0, 1) := dgq (p := 13) daX6_init_0 dbX6_init_0.2.2.2.2.2.1
theorem dX6_init_14 : decode cX6_init 14 = .ok (.sipush 200, 3) := dgq (p := 14) daX6_init_0 dbX6_init_0.2.2.2.2.2.2.1
theorem dX6_init_19 : decode cX6_init 19 = .ok (.putfield 15, 3) := dgq (p := 19) daX6_init_0 dbX6_init_0.2.2.2.2.2.2.2.1
theorem dX6_init_22 : decode cX6_init 22 = .ok (.aload_n 0, 1) := dgq (p := 22) daX6_init_0 dbX6_init_0.2.2.2.2.2.2.2.2.1
theorem dX6_init_23 : decode cX6_init 23 = .ok (.sipush 200, 3) := dgq (p := 23) daX6_init_0 dbX6_init_0.2.2.2.2.2.2.2.2.2.1
theorem dX6_init_28 : decode cX6_init 28 = .ok (.putfield 18, 3) := dgq (p := 28) daX6_init_0 dbX6_init_0.2.2.2.2.2.2.2.2.2.2.1
theorem dX6_init_31 : decode cX6_init 31 = .ok (.aload_n 0, 1) := dgq (p := 31) daX6_init_0 dbX6_init_0.2.2.2.2.2.2.2.2.2.2.2.1
theorem dX6_init_32 : decode cX6_init 32 = .ok (.sipush 200, 3) := dgq (p := 32) daX6_init_0 dbX6_init_0.2.2.2.2.2.2.2.2.2.2.2.2.1
theorem dX6_init_37 : decode cX6_init 37 = .ok (.putfield 21, 3) := dgq (p := 37) daX6_init_0 dbX6_init_0.2.2.2.2.2.2.2.2.2.2.2.2.2.1
theorem dX6_init_40 : decode cX6_init 40 = .ok (.aload_n 0, 1) := dgq (p := 40) daX6_init_0 dbX6_init_0.2.2.2.2.2.2.2.2.2.2.2.2.2.2.1
theorem dX6_init_41 : decode cX6_init 41 = .ok (.iconst 1, 1) := dgq (p := 41) daX6_init_0 dbX6_init_0.2.2.2.2.2.2.2.2.2.2.2.2.2.2.2.1
theorem dX6_init_42 : decode cX6_init 42 = .ok (.putfield 24, 3) := dgq (p := 42) daX6_init_0 dbX6_init_0.2.2.2.2.2.2.2.2.2.2.2.2.2.2.2.2.1
theorem dX6_init_45 : decode cX6_init 45 = .ok (.return_, 1) := dgq (p := 45) daX6_init_0 dbX6_init_0.2.2.2.2.2.2.2.2.2.2.2.2.2.2.2.2.2
set_option maxRecDepth 20000 in
theorem ggX6_take_X9_commonDivisor : GoodIn wsX6_take wsX9_commonDivisor := goodIn_ca (goodIn_q _ [16, 17, 7, 4, 8] rfl (by decide +kernel)) (goodIn_sub (fun _ h => List.mem_cons_of_mem _ (List.mem_append_left _ (List.mem_append_right _ h))) (by decide +kernel))
set_option maxRecDepth 20000 in
theorem gX6_take_X9_commonDivisor_n33 : GoodIn wsX6_take (wsX9_commonDivisor) := ggX6_take_X9_commonDivisor
set_option maxRecDepth 20000 in
theorem ggX6_take_X6_sortOut : GoodIn wsX6_take wsX6_sortOut := goodIn_ca (goodIn_ca (goodIn_q _ [22, 9, 6, 7, 4, 8, 2, 3, 5, 26, 27, 28, 29, 30] rfl (by decide +kernel)) (goodIn_sub (fun _ h => List.mem_cons_of_mem _ (List.mem_append_left _ (List.mem_append_right _ h))) (by decide +kernel))) (goodIn_sub (fun _ h => List.mem_cons_of_mem _ (List.mem_append_right _ h)) (by decide +kernel))
set_option maxRecDepth 20000 in
theorem gX6_take_X6_sortOut : GoodIn wsX6_take (wsV RX6 45 RX6 yX6_sortOut wsX6_sortOut) := goodIn_app (goodIn_q _ [18, 19, 20, 21] rfl (by decide +kernel)) ggX6_take_X6_sortOut
def dsX6_take_0 : ByteArray := ⟨#[43, 180, 0, 28, 190, 44, 180, 0, 28, 190, 184, 0, 33, 62, 42, 4, 29, 17, 0, 200, 184, 0, 37, 184, 0, 42, 181, 0, 24, 42, 43, 180, 0, 28, 42, 180, 0, 9, 42, 180, 0, 15, 182, 0, 45, 42]⟩
theorem daX6_take_0 : agB cX6_take dsX6_take_0 0 := agB_of (n := 46) (by decide +kernel)
theorem dbX6_take_0 : (decode dsX6_take_0 0 = .ok (.aload_n 1, 1) ∧ okop dsX6_take_0 0 = true) ∧ (decode dsX6_take_0 1 = .ok (.getfield 28, 3) ∧ okop dsX6_take_0 1 = true) ∧ (decode dsX6_take_0 4 = .ok (.arraylength, 1) ∧ okop dsX6_take_0 4 = true) ∧ (decode dsX6_take_0 5 = .ok (.aload_n 2, 1) ∧ okop dsX6_take_0 5 = true) ∧ (decode dsX6_take_0 6 = .ok (.getfield 28, 3) ∧ okop dsX6_take_0 6 = true) ∧ (decode dsX6_take_0 9 = .ok (.arraylength, 1) ∧ okop dsX6_take_0 9 = true) ∧ (decode dsX6_take_0 10 = .ok (.invokestatic 33, 3) ∧ okop dsX6_take_0 10 = true) ∧ (decode dsX6_take_0 13 = .ok (.istore_n 3, 1) ∧ okop dsX6_take_0 13 = true) ∧ (decode dsX6_take_0 14 = .ok (.aload_n 0, 1) ∧ okop dsX6_take_0 14 = true) ∧ (decode dsX6_take_0 15 = .ok (.iconst 1, 1) ∧ okop dsX6_take_0 15 = true) ∧ (decode dsX6_take_0 16 = .ok (.iload_n 3, 1) ∧ okop dsX6_take_0 16 = true) ∧ (decode dsX6_take_0 17 = .ok (.sipush 200, 3) ∧ okop dsX6_take_0 17 = true) ∧ (decode dsX6_take_0 20 = .ok (.invokestatic 37, 3) ∧ okop dsX6_take_0 20 = true) ∧ (decode dsX6_take_0 23 = .ok (.invokestatic 42, 3) ∧ okop dsX6_take_0 23 = true) ∧ (decode dsX6_take_0 26 = .ok (.putfield 24, 3) ∧ okop dsX6_take_0 26 = true) ∧ (decode dsX6_take_0 29 = .ok (.aload_n 0, 1) ∧ okop dsX6_take_0 29 = true) ∧ (decode dsX6_take_0 30 = .ok (.aload_n 1, 1) ∧ okop dsX6_take_0 30 = true) ∧ (decode dsX6_take_0 31 = .ok (.getfield 28, 3) ∧ okop dsX6_take_0 31 = true) ∧ (decode dsX6_take_0 34 = .ok (.aload_n 0, 1) ∧ okop dsX6_take_0 34 = true) ∧ (decode dsX6_take_0 35 = .ok (.getfield 9, 3) ∧ okop dsX6_take_0 35 = true) ∧ (decode dsX6_take_0 38 = .ok (.aload_n 0, 1) ∧ okop dsX6_take_0 38 = true) ∧ (decode dsX6_take_0 39 = .ok (.getfield 15, 3) ∧ okop dsX6_take_0 39 = true) ∧ (decode dsX6_take_0 42 = .ok (.invokevirtual 45, 3) ∧ okop dsX6_take_0 42 = true) ∧ (decode dsX6_take_0 45 = .ok (.aload_n 0, 1) ∧ okop dsX6_take_0 45 = true) := by decide +kernel
theorem dX6_take_0 : decode cX6_take 0 = .ok (.aload_n 1, 1) := dgq (p := 0) daX6_take_0 dbX6_take_0.1
theorem dX6_take_1 : decode cX6_take 1 = .ok (.getfield 28, 3) := dgq (p := 1) daX6_take_0 dbX6_take_0.2.1
theorem dX6_take_4 : decode cX6_take 4 = .ok (.arraylength, 1) := dgq (p := 4) daX6_take_0 dbX6_take_0.2.2.1
theorem dX6_take_5 : decode cX6_take 5 = .ok (.aload_n 2, 1) := dgq (p := 5) daX6_take_0 dbX6_take_0.2.2.2.1
theorem dX6_take_6 : decode cX6_take 6 = .ok (.getfield 28, 3) := dgq (p := 6) daX6_take_0 dbX6_take_0.2.2.2.2.1
theorem dX6_take_9 : decode cX6_take 9 = .ok (.arraylength, 1) := dgq (p := 9) daX6_take_0 dbX6_take_0.2.2.2.2.2.1
theorem dX6_take_10 : decode cX6_take 10 = .ok (.invokestatic 33, 3) := dgq (p := 10) daX6_take_0 dbX6_take_0.2.2.2.2.2.2.1
theorem dX6_take_13 : decode cX6_take 13 = .ok (.istore_n 3, 1) := dgq (p := 13) daX6_take_0 dbX6_take_0.2.2.2.2.2.2.2.1
theorem dX6_take_14 : decode cX6_take 14 = .ok (.aload_n 0, 1) := dgq (p := 14) daX6_take_0 dbX6_take_0.2.2.2.2.2.2.2.2.1
theorem dX6_take_15 : decode cX6_take 15 = .ok (.iconst 1, 1) := dgq (p := 15) daX6_take_0 dbX6_take_0.2.2.2.2.2.2.2.2.2.1
theorem dX6_take_16 : decode cX6_take 16 = .ok (.iload_n 3, 1) := dgq (p := 16) daX6_take_0 dbX6_take_0.2.2.2.2.2.2.2.2.2.2.1
theorem dX6_take_17 : decode cX6_take 17 = .ok (.sipush 200, 3) := dgq (p := 17) daX6_take_0 dbX6_take_0.2.2.2.2.2.2.2.2.2.2.2.1
theorem dX6_take_20 : decode cX6_take 20 = .ok (.invokestatic 37, 3) := dgq (p := 20) daX6_take_0 dbX6_take_0.2.2.2.2.2.2.2.2.2.2.2.2.1
theorem dX6_take_23 : decode cX6_take 23 = .ok (.invokestatic 42, 3) := dgq (p := 23) daX6_take_0 dbX6_take_0.2.2.2.2.2.2.2.2.2.2.2.2.2.1
theorem dX6_take_26 : decode cX6_take 26 = .ok (.putfield 24, 3) := dgq (p := 26) daX6_take_0 dbX6_take_0.2.2.2.2.2.2.2.2.2.2.2.2.2.2.1
theorem dX6_take_29 : decode cX6_take 29 = .ok (.aload_n 0, 1) := dgq (p := 29) daX6_take_0 dbX6_take_0.2.2.2.2.2.2.2.2.2.2.2.2.2.2.2.1
theorem dX6_take_30 : decode cX6_take 30 = .ok (.aload_n 1, 1) := dgq (p := 30) daX6_take_0 dbX6_take_0.2.2.2.2.2.2.2.2.2.2.2.2.2.2.2.2.1
theorem dX6_take_31 : decode cX6_take 31 = .ok (.getfield 28, 3) := dgq (p := 31) daX6_take_0 dbX6_take_0.2.2.2.2.2.2.2.2.2.2.2.2.2.2.2.2.2.1
theorem dX6_take_34 : decode cX6_take 34 = .ok (.aload_n 0, 1) := dgq (p := 34) daX6_take_0 dbX6_take_0.2.2.2.2.2.2.2.2.2.2.2.2.2.2.2.2.2.2.1
theorem dX6_take_35 : decode cX6_take 35 = .ok (.getfield 9, 3) := dgq (p := 35) daX6_take_0 dbX6_take_0.2.2.2.2.2.2.2.2.2.2.2.2.2.2.2.2.2.2.2.1
theorem dX6_take_38 : decode cX6_take 38 = .ok (.aload_n 0, 1) := dgq (p := 38) daX6_take_0 dbX6_take_0.2.2.2.2.2.2.2.2.2.2.2.2.2.2.2.2.2.2.2.2.1
theorem dX6_take_39 : decode cX6_take 39 = .ok (.getfield 15, 3) := dgq (p := 39) daX6_take_0 dbX6_take_0.2.2.2.2.2.2.2.2.2.2.2.2.2.2.2.2.2.2.2.2.2.1
theorem dX6_take_42 : decode cX6_take 42 = .ok (.invokevirtual 45, 3) := dgq (p := 42) daX6_take_0 dbX6_take_0.2.2.2.2.2.2.2.2.2.2.2.2.2.2.2.2.2.2.2.2.2.2.1
theorem dX6_take_45 : decode cX6_take 45 = .ok (.aload_n 0, 1) := dgq (p := 45) daX6_take_0 dbX6_take_0.2.2.2.2.2.2.2.2.2.2.2.2.2.2.2.2.2.2.2.2.2.2.2
def dsX6_take_46 : ByteArray := ⟨#[44, 180, 0, 28, 42, 180, 0, 18, 42, 180, 0, 21, 182, 0, 45, 177]⟩
theorem daX6_take_46 : agB cX6_take dsX6_take_46 46 := agB_of (n := 16) (by decide +kernel)
theorem dbX6_take_46 : (decode dsX6_take_46 0 = .ok (.aload_n 2, 1) ∧ okop dsX6_take_46 0 = true) ∧ (decode dsX6_take_46 1 = .ok (.getfield 28, 3) ∧ okop dsX6_take_46 1 = true) ∧ (decode dsX6_take_46 4 = .ok (.aload_n 0, 1) ∧ okop dsX6_take_46 4 = true) ∧ (decode dsX6_take_46 5 = .ok (.getfield 18, 3) ∧ okop dsX6_take_46 5 = true) ∧ (decode dsX6_take_46 8 = .ok (.aload_n 0, 1) ∧ okop dsX6_take_46 8 = true) ∧ (decode dsX6_take_46 9 = .ok (.getfield 21, 3) ∧ okop dsX6_take_46 9 = true) ∧ (decode dsX6_take_46 12 = .ok (.invokevirtual 45, 3) ∧ okop dsX6_take_46 12 = true) ∧ (decode dsX6_take_46 15 = .ok (.return_, 1) ∧ okop dsX6_take_46 15 = true) := by decide +kernel
theorem dX6_take_46 : decode cX6_take 46 = .ok (.aload_n 2, 1) := dgq (p := 0) daX6_take_46 dbX6_take_46.1
theorem dX6_take_47 : decode cX6_take 47 = .ok (.getfield 28, 3) := dgq (p := 1) daX6_take_46 dbX6_take_46.2.1
theorem dX6_take_50 : decode cX6_take 50 = .ok (.aload_n 0, 1) := dgq (p := 4) daX6_take_46 dbX6_take_46.2.2.1
theorem dX6_take_51 : decode cX6_take 51 = .ok (.getfield 18, 3) := dgq (p := 5) daX6_take_46 dbX6_take_46.2.2.2.1
theorem dX6_take_54 : decode cX6_take 54 = .ok (.aload_n 0, 1) := dgq (p := 8) daX6_take_46 dbX6_take_46.2.2.2.2.1
theorem dX6_take_55 : decode cX6_take 55 = .ok (.getfield 21, 3) := dgq (p := 9) daX6_take_46 dbX6_take_46.2.2.2.2.2.1
theorem dX6_take_58 : decode cX6_take 58 = .ok (.invokevirtual 45, 3) := dgq (p := 12) daX6_take_46 dbX6_take_46.2.2.2.2.2.2.1
theorem dX6_take_61 : decode cX6_take 61 = .ok (.return_, 1) := dgq (p := 15) daX6_take_46 dbX6_take_46.2.2.2.2.2.2.2
def dsX6_sortOut_0 : ByteArray := ⟨#[3, 54, 4, 21, 4, 43, 190, 162, 0, 88, 21, 4, 42, 180, 0, 24, 112, 54, 5, 21, 4, 42, 180, 0, 24, 162, 0, 7, 4, 167, 0, 4, 3, 54, 6, 44, 21, 5, 21, 6, 153, 0, 10, 43]⟩
theorem daX6_sortOut_0 : agB cX6_sortOut dsX6_sortOut_0 0 := agB_of (n := 44) (by decide +kernel)
theorem dbX6_sortOut_0 : (decode dsX6_sortOut_0 0 = .ok (.iconst 0, 1) ∧ okop dsX6_sortOut_0 0 = true) ∧ (decode dsX6_sortOut_0 1 = .ok (.istore 4, 2) ∧ okop dsX6_sortOut_0 1 = true) ∧ (decode dsX6_sortOut_0 3 = .ok (.iload 4, 2) ∧ okop dsX6_sortOut_0 3 = true) ∧ (decode dsX6_sortOut_0 5 = .ok (.aload_n 1, 1) ∧ okop dsX6_sortOut_0 5 = true) ∧ (decode dsX6_sortOut_0 6 = .ok (.arraylength, 1) ∧ okop dsX6_sortOut_0 6 = true) ∧ (decode dsX6_sortOut_0 7 = .ok (.if_icmp .ge 88, 3) ∧ okop dsX6_sortOut_0 7 = true) ∧ (decode dsX6_sortOut_0 10 = .ok (.iload 4, 2) ∧ okop dsX6_sortOut_0 10 = true) ∧ (decode dsX6_sortOut_0 12 = .ok (.aload_n 0, 1) ∧ okop dsX6_sortOut_0 12 = true) ∧ (decode dsX6_sortOut_0 13 = .ok (.getfield 24, 3) ∧ okop dsX6_sortOut_0 13 = true) ∧ (decode dsX6_sortOut_0 16 = .ok (.irem, 1) ∧ okop dsX6_sortOut_0 16 = true) ∧ (decode dsX6_sortOut_0 17 = .ok (.istore 5, 2) ∧ okop dsX6_sortOut_0 17 = true) ∧ (decode dsX6_sortOut_0 19 = .ok (.iload 4, 2) ∧ okop dsX6_sortOut_0 19 = true) ∧ (decode dsX6_sortOut_0 21 = .ok (.aload_n 0, 1) ∧ okop dsX6_sortOut_0 21 = true) ∧ (decode dsX6_sortOut_0 22 = .ok (.getfield 24, 3) ∧ okop dsX6_sortOut_0 22 = true) ∧ (decode dsX6_sortOut_0 25 = .ok (.if_icmp .ge 7, 3) ∧ okop dsX6_sortOut_0 25 = true) ∧ (decode dsX6_sortOut_0 28 = .ok (.iconst 1, 1) ∧ okop dsX6_sortOut_0 28 = true) ∧ (decode dsX6_sortOut_0 29 = .ok (.goto 4, 3) ∧ okop dsX6_sortOut_0 29 = true) ∧ (decode dsX6_sortOut_0 32 = .ok (.iconst 0, 1) ∧ okop dsX6_sortOut_0 32 = true) ∧ (decode dsX6_sortOut_0 33 = .ok (.istore 6, 2) ∧ okop dsX6_sortOut_0 33 = true) ∧ (decode dsX6_sortOut_0 35 = .ok (.aload_n 2, 1) ∧ okop dsX6_sortOut_0 35 = true) ∧ (decode dsX6_sortOut_0 36 = .ok (.iload 5, 2) ∧ okop dsX6_sortOut_0 36 = true) ∧ (decode dsX6_sortOut_0 38 = .ok (.iload 6, 2) ∧ okop dsX6_sortOut_0 38 = true) ∧ (decode dsX6_sortOut_0 40 = .ok (.ifCond .eq 10, 3) ∧ okop dsX6_sortOut_0 40 = true) ∧ (decode dsX6_sortOut_0 43 = .ok (.aload_n 1, 1) ∧ okop dsX6_sortOut_0 43 = true) := by decide +kernel
theorem dX6_sortOut_0 : decode cX6_sortOut 0 = .ok (.iconst 0, 1) := dgq (p := 0) daX6_sortOut_0 dbX6_sortOut_0.1
theorem dX6_sortOut_1 : decode cX6_sortOut 1 = .ok (.istore 4, 2) := dgq (p := 1) daX6_sortOut_0 dbX6_sortOut_0.2.1
theorem dX6_sortOut_3 : decode cX6_sortOut 3 = .ok (.iload 4, 2) := dgq (p := 3) daX6_sortOut_0 dbX6_sortOut_0.2.2.1
theorem dX6_sortOut_5 : decode cX6_sortOut 5 = .ok (.aload_n 1, 1) := dgq (p := 5) daX6_sortOut_0 dbX6_sortOut_0.2.2.2.1
theorem dX6_sortOut_6 : decode cX6_sortOut 6 = .ok (.arraylength, 1) := dgq (p := 6) daX6_sortOut_0 dbX6_sortOut_0.2.2.2.2.1
theorem dX6_sortOut_7 : decode cX6_sortOut 7 = .ok (.if_icmp .ge 88, 3) := dgq (p := 7) daX6_sortOut_0 dbX6_sortOut_0.2.2.2.2.2.1
theorem dX6_sortOut_10 : decode cX6_sortOut 10 = .ok (.iload 4, 2) := dgq (p := 10) daX6_sortOut_0 dbX6_sortOut_0.2.2.2.2.2.2.1
theorem dX6_sortOut_12 : decode cX6_sortOut 12 = .ok (.aload_n 0, 1) := dgq (p := 12) daX6_sortOut_0 dbX6_sortOut_0.2.2.2.2.2.2.2.1
theorem dX6_sortOut_13 : decode cX6_sortOut 13 = .ok (.getfield 24, 3) := dgq (p := 13) daX6_sortOut_0 dbX6_sortOut_0.2.2.2.2.2.2.2.2.1
theorem dX6_sortOut_16 : decode cX6_sortOut 16 = .ok (.irem, 1) := dgq (p := 16) daX6_sortOut_0 dbX6_sortOut_0.2.2.2.2.2.2.2.2.2.1
theorem dX6_sortOut_17 : decode cX6_sortOut 17 = .ok (.istore 5, 2) := dgq (p := 17) daX6_sortOut_0 dbX6_sortOut_0.2.2.2.2.2.2.2.2.2.2.1
theorem dX6_sortOut_19 : decode cX6_sortOut 19 = .ok (.iload 4, 2) := dgq (p := 19) daX6_sortOut_0 dbX6_sortOut_0.2.2.2.2.2.2.2.2.2.2.2.1
theorem dX6_sortOut_21 : decode cX6_sortOut 21 = .ok (.aload_n 0, 1) := dgq (p := 21) daX6_sortOut_0 dbX6_sortOut_0.2.2.2.2.2.2.2.2.2.2.2.2.1
theorem dX6_sortOut_22 : decode cX6_sortOut 22 = .ok (.getfield 24, 3) := dgq (p := 22) daX6_sortOut_0 dbX6_sortOut_0.2.2.2.2.2.2.2.2.2.2.2.2.2.1
theorem dX6_sortOut_25 : decode cX6_sortOut 25 = .ok (.if_icmp .ge 7, 3) := dgq (p := 25) daX6_sortOut_0 dbX6_sortOut_0.2.2.2.2.2.2.2.2.2.2.2.2.2.2.1
theorem dX6_sortOut_28 : decode cX6_sortOut 28 = .ok (.iconst 1, 1) := dgq (p := 28) daX6_sortOut_0 dbX6_sortOut_0.2.2.2.2.2.2.2.2.2.2.2.2.2.2.2.1
theorem dX6_sortOut_29 : decode cX6_sortOut 29 = .ok (.goto 4, 3) := dgq (p := 29) daX6_sortOut_0 dbX6_sortOut_0.2.2.2.2.2.2.2.2.2.2.2.2.2.2.2.2.1
theorem dX6_sortOut_32 : decode cX6_sortOut 32 = .ok (.iconst 0, 1) := dgq (p := 32) daX6_sortOut_0 dbX6_sortOut_0.2.2.2.2.2.2.2.2.2.2.2.2.2.2.2.2.2.1
theorem dX6_sortOut_33 : decode cX6_sortOut 33 = .ok (.istore 6, 2) := dgq (p := 33) daX6_sortOut_0 dbX6_sortOut_0.2.2.2.2.2.2.2.2.2.2.2.2.2.2.2.2.2.2.1
theorem dX6_sortOut_35 : decode cX6_sortOut 35 = .ok (.aload_n 2, 1) := dgq (p := 35) daX6_sortOut_0 dbX6_sortOut_0.2.2.2.2.2.2.2.2.2.2.2.2.2.2.2.2.2.2.2.1
theorem dX6_sortOut_36 : decode cX6_sortOut 36 = .ok (.iload 5, 2) := dgq (p := 36) daX6_sortOut_0 dbX6_sortOut_0.2.2.2.2.2.2.2.2.2.2.2.2.2.2.2.2.2.2.2.2.1
theorem dX6_sortOut_38 : decode cX6_sortOut 38 = .ok (.iload 6, 2) := dgq (p := 38) daX6_sortOut_0 dbX6_sortOut_0.2.2.2.2.2.2.2.2.2.2.2.2.2.2.2.2.2.2.2.2.2.1
theorem dX6_sortOut_40 : decode cX6_sortOut 40 = .ok (.ifCond .eq 10, 3) := dgq (p := 40) daX6_sortOut_0 dbX6_sortOut_0.2.2.2.2.2.2.2.2.2.2.2.2.2.2.2.2.2.2.2.2.2.2.1
theorem dX6_sortOut_43 : decode cX6_sortOut 43 = .ok (.aload_n 1, 1) := dgq (p := 43) daX6_sortOut_0 dbX6_sortOut_0.2.2.2.2.2.2.2.2.2.2.2.2.2.2.2.2.2.2.2.2.2.2.2
def dsX6_sortOut_44 : ByteArray := ⟨#[21, 4, 46, 167, 0, 14, 44, 21, 5, 46, 43, 21, 4, 46, 184, 0, 42, 79, 45, 21, 5, 21, 6, 153, 0, 10, 43, 21, 4, 46, 167, 0, 14, 45, 21, 5, 46, 43, 21, 4]⟩
theorem daX6_sortOut_44 : agB cX6_sortOut dsX6_sortOut_44 44 := agB_of (n := 40) (by decide +kernel)
theorem dbX6_sortOut_44 : (decode dsX6_sortOut_44 0 = .ok (.iload 4, 2) ∧ okop dsX6_sortOut_44 0 = true) ∧ (decode dsX6_sortOut_44 2 = .ok (.iaload, 1) ∧ okop dsX6_sortOut_44 2 = true) ∧ (decode dsX6_sortOut_44 3 = .ok (.goto 14, 3) ∧ okop dsX6_sortOut_44 3 = true) ∧ (decode dsX6_sortOut_44 6 = .ok (.aload_n 2, 1) ∧ okop dsX6_sortOut_44 6 = true) ∧ (decode dsX6_sortOut_44 7 = .ok (.iload 5, 2) ∧ okop dsX6_sortOut_44 7 = true) ∧ (decode dsX6_sortOut_44 9 = .ok (.iaload, 1) ∧ okop dsX6_sortOut_44 9 = true) ∧ (decode dsX6_sortOut_44 10 = .ok (.aload_n 1, 1) ∧ okop dsX6_sortOut_44 10 = true) ∧ (decode dsX6_sortOut_44 11 = .ok (.iload 4, 2) ∧ okop dsX6_sortOut_44 11 = true) ∧ (decode dsX6_sortOut_44 13 = .ok (.iaload, 1) ∧ okop dsX6_sortOut_44 13 = true) ∧ (decode dsX6_sortOut_44 14 = .ok (.invokestatic 42, 3) ∧ okop dsX6_sortOut_44 14 = true) ∧ (decode dsX6_sortOut_44 17 = .ok (.iastore, 1) ∧ okop dsX6_sortOut_44 17 = true) ∧ (decode dsX6_sortOut_44 18 = .ok (.aload_n 3, 1) ∧ okop dsX6_sortOut_44 18 = true) ∧ (decode dsX6_sortOut_44 19 = .ok (.iload 5, 2) ∧ okop dsX6_sortOut_44 19 = true) ∧ (decode dsX6_sortOut_44 21 = .ok (.iload 6, 2) ∧ okop dsX6_sortOut_44 21 = true) ∧ (decode dsX6_sortOut_44 23 = .ok (.ifCond .eq 10, 3) ∧ okop dsX6_sortOut_44 23 = true) ∧ (decode dsX6_sortOut_44 26 = .ok (.aload_n 1, 1) ∧ okop dsX6_sortOut_44 26 = true) ∧ (decode dsX6_sortOut_44 27 = .ok (.iload 4, 2) ∧ okop dsX6_sortOut_44 27 = true) ∧ (decode dsX6_sortOut_44 29 = .ok (.iaload, 1) ∧ okop dsX6_sortOut_44 29 = true) ∧ (decode dsX6_sortOut_44 30 = .ok (.goto 14, 3) ∧ okop dsX6_sortOut_44 30 = true) ∧ (decode dsX6_sortOut_44 33 = .ok (.aload_n 3, 1) ∧ okop dsX6_sortOut_44 33 = true) ∧ (decode dsX6_sortOut_44 34 = .ok (.iload 5, 2) ∧ okop dsX6_sortOut_44 34 = true) ∧ (decode dsX6_sortOut_44 36 = .ok (.iaload, 1) ∧ okop dsX6_sortOut_44 36 = true) ∧ (decode dsX6_sortOut_44 37 = .ok (.aload_n 1, 1) ∧ okop dsX6_sortOut_44 37 = true) ∧ (decode dsX6_sortOut_44 38 = .ok (.iload 4, 2) ∧ okop dsX6_sortOut_44 38 = true) := by decide +kernel
theorem dX6_sortOut_44 : decode cX6_sortOut 44 = .ok (.iload 4, 2) := dgq (p := 0) daX6_sortOut_44 dbX6_sortOut_44.1
theorem dX6_sortOut_46 : decode cX6_sortOut 46 = .ok (.iaload, 1) := dgq (p := 2) daX6_sortOut_44 dbX6_sortOut_44.2.1
theorem dX6_sortOut_47 : decode cX6_sortOut 47 = .ok (.goto 14, 3) := dgq (p := 3) daX6_sortOut_44 dbX6_sortOut_44.2.2.1
theorem dX6_sortOut_50 : decode cX6_sortOut 50 = .ok (.aload_n 2, 1) := dgq (p := 6) daX6_sortOut_44 dbX6_sortOut_44.2.2.2.1
theorem dX6_sortOut_51 : decode cX6_sortOut 51 = .ok (.iload 5, 2) := dgq (p := 7) daX6_sortOut_44 dbX6_sortOut_44.2.2.2.2.1
theorem dX6_sortOut_53 : decode cX6_sortOut 53 = .ok (.iaload, 1) := dgq (p := 9) daX6_sortOut_44 dbX6_sortOut_44.2.2.2.2.2.1
theorem dX6_sortOut_54 : decode cX6_sortOut 54 = .ok (.aload_n 1, 1) := dgq (p := 10) daX6_sortOut_44 dbX6_sortOut_44.2.2.2.2.2.2.1
theorem dX6_sortOut_55 : decode cX6_sortOut 55 = .ok (.iload 4, 2) := dgq (p := 11) daX6_sortOut_44 dbX6_sortOut_44.2.2.2.2.2.2.2.1
theorem dX6_sortOut_57 : decode cX6_sortOut 57 = .ok (.iaload, 1) := dgq (p := 13) daX6_sortOut_44 dbX6_sortOut_44.2.2.2.2.2.2.2.2.1
theorem dX6_sortOut_58 : decode cX6_sortOut 58 = .ok (.invokestatic 42, 3) := dgq (p := 14) daX6_sortOut_44 dbX6_sortOut_44.2.2.2.2.2.2.2.2.2.1
theorem dX6_sortOut_61 : decode cX6_sortOut 61 = .ok (.iastore, 1) := dgq (p := 17) daX6_sortOut_44 dbX6_sortOut_44.2.2.2.2.2.2.2.2.2.2.1
theorem dX6_sortOut_62 : decode cX6_sortOut 62 = .ok (.aload_n 3, 1) := dgq (p := 18) daX6_sortOut_44 dbX6_sortOut_44.2.2.2.2.2.2.2.2.2.2.2.1
theorem dX6_sortOut_63 : decode cX6_sortOut 63 = .ok (.iload 5, 2) := dgq (p := 19) daX6_sortOut_44 dbX6_sortOut_44.2.2.2.2.2.2.2.2.2.2.2.2.1
theorem dX6_sortOut_65 : decode cX6_sortOut 65 = .ok (.iload 6, 2) := dgq (p := 21) daX6_sortOut_44 dbX6_sortOut_44.2.2.2.2.2.2.2.2.2.2.2.2.2.1
theorem dX6_sortOut_67 : decode cX6_sortOut 67 = .ok (.ifCond .eq 10, 3) := dgq (p := 23) daX6_sortOut_44 dbX6_sortOut_44.2.2.2.2.2.2.2.2.2.2.2.2.2.2.1
theorem dX6_sortOut_70 : decode cX6_sortOut 70 = .ok (.aload_n 1, 1) := dgq (p := 26) daX6_sortOut_44 dbX6_sortOut_44.2.2.2.2.2.2.2.2.2.2.2.2.2.2.2.1
theorem dX6_sortOut_71 : decode cX6_sortOut 71 = .ok (.iload 4, 2) := dgq (p := 27) daX6_sortOut_44 dbX6_sortOut_44.2.2.2.2.2.2.2.2.2.2.2.2.2.2.2.2.1
theorem dX6_sortOut_73 : decode cX6_sortOut 73 = .ok (.iaload, 1) := dgq (p := 29) daX6_sortOut_44 dbX6_sortOut_44.2.2.2.2.2.2.2.2.2.2.2.2.2.2.2.2.2.1
theorem dX6_sortOut_74 : decode cX6_sortOut 74 = .ok (.goto 14, 3) := dgq (p := 30) daX6_sortOut_44 dbX6_sortOut_44.2.2.2.2.2.2.2.2.2.2.2.2.2.2.2.2.2.2.1
theorem dX6_sortOut_77 : decode cX6_sortOut 77 = .ok (.aload_n 3, 1) := dgq (p := 33) daX6_sortOut_44 dbX6_sortOut_44.2.2.2.2.2.2.2.2.2.2.2.2.2.2.2.2.2.2.2.1
theorem dX6_sortOut_78 : decode cX6_sortOut 78 = .ok (.iload 5, 2) := dgq (p := 34) daX6_sortOut_44 dbX6_sortOut_44.2.2.2.2.2.2.2.2.2.2.2.2.2.2.2.2.2.2.2.2.1
theorem dX6_sortOut_80 : decode cX6_sortOut 80 = .ok (.iaload, 1) := dgq (p := 36) daX6_sortOut_44 dbX6_sortOut_44.2.2.2.2.2.2.2.2.2.2.2.2.2.2.2.2.2.2.2.2.2.1
theorem dX6_sortOut_81 : decode cX6_sortOut 81 = .ok (.aload_n 1, 1) := dgq (p := 37) daX6_sortOut_44 dbX6_sortOut_44.2.2.2.2.2.2.2.2.2.2.2.2.2.2.2.2.2.2.2.2.2.2.1
theorem dX6_sortOut_82 : decode cX6_sortOut 82 = .ok (.iload 4, 2) := dgq (p := 38) daX6_sortOut_44 dbX6_sortOut_44.2.2.2.2.2.2.2.2.2.2.2.2.2.2.2.2.2.2.2.2.2.2.2
def dsX6_sortOut_84 : ByteArray := ⟨#[46, 184, 0, 37, 79, 132, 4, 1, 167, 255, 167, 177]⟩
theorem daX6_sortOut_84 : agB cX6_sortOut dsX6_sortOut_84 84 := agB_of (n := 12) (by decide +kernel)
theorem dbX6_sortOut_84 : (decode dsX6_sortOut_84 0 = .ok (.iaload, 1) ∧ okop dsX6_sortOut_84 0 = true) ∧ (decode dsX6_sortOut_84 1 = .ok (.invokestatic 37, 3) ∧ okop dsX6_sortOut_84 1 = true) ∧ (decode dsX6_sortOut_84 4 = .ok (.iastore, 1) ∧ okop dsX6_sortOut_84 4 = true) ∧ (decode dsX6_sortOut_84 5 = .ok (.iinc 4 1, 3) ∧ okop dsX6_sortOut_84 5 = true) ∧ (decode dsX6_sortOut_84 8 = .ok (.goto (-89), 3) ∧ okop dsX6_sortOut_84 8 = true) ∧ (decode dsX6_sortOut_84 11 = .ok (.return_, 1) ∧ okop dsX6_sortOut_84 11 = true) := by decide +kernel
theorem dX6_sortOut_84 : decode cX6_sortOut 84 = .ok (.iaload, 1) := dgq (p := 0) daX6_sortOut_84 dbX6_sortOut_84.1
theorem dX6_sortOut_85 : decode cX6_sortOut 85 = .ok (.invokestatic 37, 3) := dgq (p := 1) daX6_sortOut_84 dbX6_sortOut_84.2.1
theorem dX6_sortOut_88 : decode cX6_sortOut 88 = .ok (.iastore, 1) := dgq (p := 4) daX6_sortOut_84 dbX6_sortOut_84.2.2.1
theorem dX6_sortOut_89 : decode cX6_sortOut 89 = .ok (.iinc 4 1, 3) := dgq (p := 5) daX6_sortOut_84 dbX6_sortOut_84.2.2.2.1
theorem dX6_sortOut_92 : decode cX6_sortOut 92 = .ok (.goto (-89), 3) := dgq (p := 8) daX6_sortOut_84 dbX6_sortOut_84.2.2.2.2.1
theorem dX6_sortOut_95 : decode cX6_sortOut 95 = .ok (.return_, 1) := dgq (p := 11) daX6_sortOut_84 dbX6_sortOut_84.2.2.2.2.2
set_option maxRecDepth 20000 in
theorem ggX6_peakFrom_J9_floorMod_7cf53 : GoodIn wsX6_peakFrom wsJ9_floorMod_7cf53 := goodIn_q _ [18] rfl (by decide +kernel)
set_option maxRecDepth 20000 in
theorem gX6_peakFrom_J9_floorMod_7cf53 : GoodIn wsX6_peakFrom (va_wsS RX6 51 yJ9_floorMod_7cf53 wsJ9_floorMod_7cf53) := goodIn_app (goodIn_q _ [15, 16, 17] rfl (by decide +kernel)) ggX6_peakFrom_J9_floorMod_7cf53
def dsX6_peakFrom_0 : ByteArray := ⟨#[18, 49, 61, 18, 50, 62, 27, 42, 180, 0, 24, 184, 0, 51, 54, 4, 3, 54, 5, 21, 5, 42, 180, 0, 24, 162, 0, 70, 28, 42, 180, 0, 9, 21, 5, 46, 42, 180, 0, 18, 21, 4, 46]⟩
theorem daX6_peakFrom_0 : agB cX6_peakFrom dsX6_peakFrom_0 0 := agB_of (n := 43) (by decide +kernel)
theorem dbX6_peakFrom_0 : (decode dsX6_peakFrom_0 0 = .ok (.ldc 49, 2) ∧ okop dsX6_peakFrom_0 0 = true) ∧ (decode dsX6_peakFrom_0 2 = .ok (.istore_n 2, 1) ∧ okop dsX6_peakFrom_0 2 = true) ∧ (decode dsX6_peakFrom_0 3 = .ok (.ldc 50, 2) ∧ okop dsX6_peakFrom_0 3 = true) ∧ (decode dsX6_peakFrom_0 5 = .ok (.istore_n 3, 1) ∧ okop dsX6_peakFrom_0 5 = true) ∧ (decode dsX6_peakFrom_0 6 = .ok (.iload_n 1, 1) ∧ okop dsX6_peakFrom_0 6 = true) ∧ (decode dsX6_peakFrom_0 7 = .ok (.aload_n 0, 1) ∧ okop dsX6_peakFrom_0 7 = true) ∧ (decode dsX6_peakFrom_0 8 = .ok (.getfield 24, 3) ∧ okop dsX6_peakFrom_0 8 = true) ∧ (decode dsX6_peakFrom_0 11 = .ok (.invokestatic 51, 3) ∧ okop dsX6_peakFrom_0 11 = true) ∧ (decode dsX6_peakFrom_0 14 = .ok (.istore 4, 2) ∧ okop dsX6_peakFrom_0 14 = true) ∧ (decode dsX6_peakFrom_0 16 = .ok (.iconst 0, 1) ∧ okop dsX6_peakFrom_0 16 = true) ∧ (decode dsX6_peakFrom_0 17 = .ok (.istore 5, 2) ∧ okop dsX6_peakFrom_0 17 = true) ∧ (decode dsX6_peakFrom_0 19 = .ok (.iload 5, 2) ∧ okop dsX6_peakFrom_0 19 = true) ∧ (decode dsX6_peakFrom_0 21 = .ok (.aload_n 0, 1) ∧ okop dsX6_peakFrom_0 21 = true) ∧ (decode dsX6_peakFrom_0 22 = .ok (.getfield 24, 3) ∧ okop dsX6_peakFrom_0 22 = true) ∧ (decode dsX6_peakFrom_0 25 = .ok (.if_icmp .ge 70, 3) ∧ okop dsX6_peakFrom_0 25 = true) ∧ (decode dsX6_peakFrom_0 28 = .ok (.iload_n 2, 1) ∧ okop dsX6_peakFrom_0 28 = true) ∧ (decode dsX6_peakFrom_0 29 = .ok (.aload_n 0, 1) ∧ okop dsX6_peakFrom_0 29 = true) ∧ (decode dsX6_peakFrom_0 30 = .ok (.getfield 9, 3) ∧ okop dsX6_peakFrom_0 30 = true) ∧ (decode dsX6_peakFrom_0 33 = .ok (.iload 5, 2) ∧ okop dsX6_peakFrom_0 33 = true) ∧ (decode dsX6_peakFrom_0 35 = .ok (.iaload, 1) ∧ okop dsX6_peakFrom_0 35 = true) ∧ (decode dsX6_peakFrom_0 36 = .ok (.aload_n 0, 1) ∧ okop dsX6_peakFrom_0 36 = true) ∧ (decode dsX6_peakFrom_0 37 = .ok (.getfield 18, 3) ∧ okop dsX6_peakFrom_0 37 = true) ∧ (decode dsX6_peakFrom_0 40 = .ok (.iload 4, 2) ∧ okop dsX6_peakFrom_0 40 = true) ∧ (decode dsX6_peakFrom_0 42 = .ok (.iaload, 1) ∧ okop dsX6_peakFrom_0 42 = true) := by decide +kernel
theorem dX6_peakFrom_0 : decode cX6_peakFrom 0 = .ok (.ldc 49, 2) := dgq (p := 0) daX6_peakFrom_0 dbX6_peakFrom_0.1
theorem dX6_peakFrom_2 : decode cX6_peakFrom 2 = .ok (.istore_n 2, 1) := dgq (p := 2) daX6_peakFrom_0 dbX6_peakFrom_0.2.1
theorem dX6_peakFrom_3 : decode cX6_peakFrom 3 = .ok (.ldc 50, 2) := dgq (p := 3) daX6_peakFrom_0 dbX6_peakFrom_0.2.2.1
theorem dX6_peakFrom_5 : decode cX6_peakFrom 5 = .ok (.istore_n 3, 1) := dgq (p := 5) daX6_peakFrom_0 dbX6_peakFrom_0.2.2.2.1
theorem dX6_peakFrom_6 : decode cX6_peakFrom 6 = .ok (.iload_n 1, 1) := dgq (p := 6) daX6_peakFrom_0 dbX6_peakFrom_0.2.2.2.2.1
theorem dX6_peakFrom_7 : decode cX6_peakFrom 7 = .ok (.aload_n 0, 1) := dgq (p := 7) daX6_peakFrom_0 dbX6_peakFrom_0.2.2.2.2.2.1
theorem dX6_peakFrom_8 : decode cX6_peakFrom 8 = .ok (.getfield 24, 3) := dgq (p := 8) daX6_peakFrom_0 dbX6_peakFrom_0.2.2.2.2.2.2.1
theorem dX6_peakFrom_11 : decode cX6_peakFrom 11 = .ok (.invokestatic 51, 3) := dgq (p := 11) daX6_peakFrom_0 dbX6_peakFrom_0.2.2.2.2.2.2.2.1
theorem dX6_peakFrom_14 : decode cX6_peakFrom 14 = .ok (.istore 4, 2) := dgq (p := 14) daX6_peakFrom_0 dbX6_peakFrom_0.2.2.2.2.2.2.2.2.1
theorem dX6_peakFrom_16 : decode cX6_peakFrom 16 = .ok (.iconst 0, 1) := dgq (p := 16) daX6_peakFrom_0 dbX6_peakFrom_0.2.2.2.2.2.2.2.2.2.1
theorem dX6_peakFrom_17 : decode cX6_peakFrom 17 = .ok (.istore 5, 2) := dgq (p := 17) daX6_peakFrom_0 dbX6_peakFrom_0.2.2.2.2.2.2.2.2.2.2.1
theorem dX6_peakFrom_19 : decode cX6_peakFrom 19 = .ok (.iload 5, 2) := dgq (p := 19) daX6_peakFrom_0 dbX6_peakFrom_0.2.2.2.2.2.2.2.2.2.2.2.1
theorem dX6_peakFrom_21 : decode cX6_peakFrom 21 = .ok (.aload_n 0, 1) := dgq (p := 21) daX6_peakFrom_0 dbX6_peakFrom_0.2.2.2.2.2.2.2.2.2.2.2.2.1
theorem dX6_peakFrom_22 : decode cX6_peakFrom 22 = .ok (.getfield 24, 3) := dgq (p := 22) daX6_peakFrom_0 dbX6_peakFrom_0.2.2.2.2.2.2.2.2.2.2.2.2.2.1
theorem dX6_peakFrom_25 : decode cX6_peakFrom 25 = .ok (.if_icmp .ge 70, 3) := dgq (p := 25) daX6_peakFrom_0 dbX6_peakFrom_0.2.2.2.2.2.2.2.2.2.2.2.2.2.2.1
theorem dX6_peakFrom_28 : decode cX6_peakFrom 28 = .ok (.iload_n 2, 1) := dgq (p := 28) daX6_peakFrom_0 dbX6_peakFrom_0.2.2.2.2.2.2.2.2.2.2.2.2.2.2.2.1
theorem dX6_peakFrom_29 : decode cX6_peakFrom 29 = .ok (.aload_n 0, 1) := dgq (p := 29) daX6_peakFrom_0 dbX6_peakFrom_0.2.2.2.2.2.2.2.2.2.2.2.2.2.2.2.2.1
theorem dX6_peakFrom_30 : decode cX6_peakFrom 30 = .ok (.getfield 9, 3) := dgq (p := 30) daX6_peakFrom_0 dbX6_peakFrom_0.2.2.2.2.2.2.2.2.2.2.2.2.2.2.2.2.2.1
theorem dX6_peakFrom_33 : decode cX6_peakFrom 33 = .ok (.iload 5, 2) := dgq (p := 33) daX6_peakFrom_0 dbX6_peakFrom_0.2.2.2.2.2.2.2.2.2.2.2.2.2.2.2.2.2.2.1
theorem dX6_peakFrom_35 : decode cX6_peakFrom 35 = .ok (.iaload, 1) := dgq (p := 35) daX6_peakFrom_0 dbX6_peakFrom_0.2.2.2.2.2.2.2.2.2.2.2.2.2.2.2.2.2.2.2.1
theorem dX6_peakFrom_36 : decode cX6_peakFrom 36 = .ok (.aload_n 0, 1) := dgq (p := 36) daX6_peakFrom_0 dbX6_peakFrom_0.2.2.2.2.2.2.2.2.2.2.2.2.2.2.2.2.2.2.2.2.1
theorem dX6_peakFrom_37 : decode cX6_peakFrom 37 = .ok (.getfield 18, 3) := dgq (p := 37) daX6_peakFrom_0 dbX6_peakFrom_0.2.2.2.2.2.2.2.2.2.2.2.2.2.2.2.2.2.2.2.2.2.1
theorem dX6_peakFrom_40 : decode cX6_peakFrom 40 = .ok (.iload 4, 2) := dgq (p := 40) daX6_peakFrom_0 dbX6_peakFrom_0.2.2.2.2.2.2.2.2.2.2.2.2.2.2.2.2.2.2.2.2.2.2.1
theorem dX6_peakFrom_42 : decode cX6_peakFrom 42 = .ok (.iaload, 1) := dgq (p := 42) daX6_peakFrom_0 dbX6_peakFrom_0.2.2.2.2.2.2.2.2.2.2.2.2.2.2.2.2.2.2.2.2.2.2.2
def dsX6_peakFrom_43 : ByteArray := ⟨#[96, 184, 0, 42, 61, 29, 42, 180, 0, 15, 21, 5, 46, 42, 180, 0, 21, 21, 4, 46, 96, 184, 0, 37, 62, 21, 4, 4, 96, 42, 180, 0, 24, 162, 0, 10, 21, 4, 4, 96]⟩
theorem daX6_peakFrom_43 : agB cX6_peakFrom dsX6_peakFrom_43 43 := agB_of (n := 40) (by decide +kernel)
theorem dbX6_peakFrom_43 : (decode dsX6_peakFrom_43 0 = .ok (.iadd, 1) ∧ okop dsX6_peakFrom_43 0 = true) ∧ (decode dsX6_peakFrom_43 1 = .ok (.invokestatic 42, 3) ∧ okop dsX6_peakFrom_43 1 = true) ∧ (decode dsX6_peakFrom_43 4 = .ok (.istore_n 2, 1) ∧ okop dsX6_peakFrom_43 4 = true) ∧ (decode dsX6_peakFrom_43 5 = .ok (.iload_n 3, 1) ∧ okop dsX6_peakFrom_43 5 = true) ∧ (decode dsX6_peakFrom_43 6 = .ok (.aload_n 0, 1) ∧ okop dsX6_peakFrom_43 6 = true) ∧ (decode dsX6_peakFrom_43 7 = .ok (.getfield 15, 3) ∧ okop dsX6_peakFrom_43 7 = true) ∧ (decode dsX6_peakFrom_43 10 = .ok (.iload 5, 2) ∧ okop dsX6_peakFrom_43 10 = true) ∧ (decode dsX6_peakFrom_43 12 = .ok (.iaload, 1) ∧ okop dsX6_peakFrom_43 12 = true) ∧ (decode dsX6_peakFrom_43 13 = .ok (.aload_n 0, 1) ∧ okop dsX6_peakFrom_43 13 = true) ∧ (decode dsX6_peakFrom_43 14 = .ok (.getfield 21, 3) ∧ okop dsX6_peakFrom_43 14 = true) ∧ (decode dsX6_peakFrom_43 17 = .ok (.iload 4, 2) ∧ okop dsX6_peakFrom_43 17 = true) ∧ (decode dsX6_peakFrom_43 19 = .ok (.iaload, 1) ∧ okop dsX6_peakFrom_43 19 = true) ∧ (decode dsX6_peakFrom_43 20 = .ok (.iadd, 1) ∧ okop dsX6_peakFrom_43 20 = true) ∧ (decode dsX6_peakFrom_43 21 = .ok (.invokestatic 37, 3) ∧ okop dsX6_peakFrom_43 21 = true) ∧ (decode dsX6_peakFrom_43 24 = .ok (.istore_n 3, 1) ∧ okop dsX6_peakFrom_43 24 = true) ∧ (decode dsX6_peakFrom_43 25 = .ok (.iload 4, 2) ∧ okop dsX6_peakFrom_43 25 = true) ∧ (decode dsX6_peakFrom_43 27 = .ok (.iconst 1, 1) ∧ okop dsX6_peakFrom_43 27 = true) ∧ (decode dsX6_peakFrom_43 28 = .ok (.iadd, 1) ∧ okop dsX6_peakFrom_43 28 = true) ∧ (decode dsX6_peakFrom_43 29 = .ok (.aload_n 0, 1) ∧ okop dsX6_peakFrom_43 29 = true) ∧ (decode dsX6_peakFrom_43 30 = .ok (.getfield 24, 3) ∧ okop dsX6_peakFrom_43 30 = true) ∧ (decode dsX6_peakFrom_43 33 = .ok (.if_icmp .ge 10, 3) ∧ okop dsX6_peakFrom_43 33 = true) ∧ (decode dsX6_peakFrom_43 36 = .ok (.iload 4, 2) ∧ okop dsX6_peakFrom_43 36 = true) ∧ (decode dsX6_peakFrom_43 38 = .ok (.iconst 1, 1) ∧ okop dsX6_peakFrom_43 38 = true) ∧ (decode dsX6_peakFrom_43 39 = .ok (.iadd, 1) ∧ okop dsX6_peakFrom_43 39 = true) := by decide +kernel
theorem dX6_peakFrom_43 : decode cX6_peakFrom 43 = .ok (.iadd, 1) := dgq (p := 0) daX6_peakFrom_43 dbX6_peakFrom_43.1
theorem dX6_peakFrom_44 : decode cX6_peakFrom 44 = .ok (.invokestatic 42, 3) := dgq (p := 1) daX6_peakFrom_43 dbX6_peakFrom_43.2.1
theorem dX6_peakFrom_47 : decode cX6_peakFrom 47 = .ok (.istore_n 2, 1) := dgq (p := 4) daX6_peakFrom_43 dbX6_peakFrom_43.2.2.1
theorem dX6_peakFrom_48 : decode cX6_peakFrom 48 = .ok (.iload_n 3, 1) := dgq (p := 5) daX6_peakFrom_43 dbX6_peakFrom_43.2.2.2.1
theorem dX6_peakFrom_49 : decode cX6_peakFrom 49 = .ok (.aload_n 0, 1) := dgq (p := 6) daX6_peakFrom_43 dbX6_peakFrom_43.2.2.2.2.1
theorem dX6_peakFrom_50 : decode cX6_peakFrom 50 = .ok (.getfield 15, 3) := dgq (p := 7) daX6_peakFrom_43 dbX6_peakFrom_43.2.2.2.2.2.1
theorem dX6_peakFrom_53 : decode cX6_peakFrom 53 = .ok (.iload 5, 2) := dgq (p := 10) daX6_peakFrom_43 dbX6_peakFrom_43.2.2.2.2.2.2.1
theorem dX6_peakFrom_55 : decode cX6_peakFrom 55 = .ok (.iaload, 1) := dgq (p := 12) daX6_peakFrom_43 dbX6_peakFrom_43.2.2.2.2.2.2.2.1
theorem dX6_peakFrom_56 : decode cX6_peakFrom 56 = .ok (.aload_n 0, 1) := dgq (p := 13) daX6_peakFrom_43 dbX6_peakFrom_43.2.2.2.2.2.2.2.2.1
theorem dX6_peakFrom_57 : decode cX6_peakFrom 57 = .ok (.getfield 21, 3) := dgq (p := 14) daX6_peakFrom_43 dbX6_peakFrom_43.2.2.2.2.2.2.2.2.2.1
theorem dX6_peakFrom_60 : decode cX6_peakFrom 60 = .ok (.iload 4, 2) := dgq (p := 17) daX6_peakFrom_43 dbX6_peakFrom_43.2.2.2.2.2.2.2.2.2.2.1
theorem dX6_peakFrom_62 : decode cX6_peakFrom 62 = .ok (.iaload, 1) := dgq (p := 19) daX6_peakFrom_43 dbX6_peakFrom_43.2.2.2.2.2.2.2.2.2.2.2.1
theorem dX6_peakFrom_63 : decode cX6_peakFrom 63 = .ok (.iadd, 1) := dgq (p := 20) daX6_peakFrom_43 dbX6_peakFrom_43.2.2.2.2.2.2.2.2.2.2.2.2.1
theorem dX6_peakFrom_64 : decode cX6_peakFrom 64 = .ok (.invokestatic 37, 3) := dgq (p := 21) daX6_peakFrom_43 dbX6_peakFrom_43.2.2.2.2.2.2.2.2.2.2.2.2.2.1
theorem dX6_peakFrom_67 : decode cX6_peakFrom 67 = .ok (.istore_n 3, 1) := dgq (p := 24) daX6_peakFrom_43 dbX6_peakFrom_43.2.2.2.2.2.2.2.2.2.2.2.2.2.2.1
theorem dX6_peakFrom_68 : decode cX6_peakFrom 68 = .ok (.iload 4, 2) := dgq (p := 25) daX6_peakFrom_43 dbX6_peakFrom_43.2.2.2.2.2.2.2.2.2.2.2.2.2.2.2.1
theorem dX6_peakFrom_70 : decode cX6_peakFrom 70 = .ok (.iconst 1, 1) := dgq (p := 27) daX6_peakFrom_43 dbX6_peakFrom_43.2.2.2.2.2.2.2.2.2.2.2.2.2.2.2.2.1
theorem dX6_peakFrom_71 : decode cX6_peakFrom 71 = .ok (.iadd, 1) := dgq (p := 28) daX6_peakFrom_43 dbX6_peakFrom_43.2.2.2.2.2.2.2.2.2.2.2.2.2.2.2.2.2.1
theorem dX6_peakFrom_72 : decode cX6_peakFrom 72 = .ok (.aload_n 0, 1) := dgq (p := 29) daX6_peakFrom_43 dbX6_peakFrom_43.2.2.2.2.2.2.2.2.2.2.2.2.2.2.2.2.2.2.1
theorem dX6_peakFrom_73 : decode cX6_peakFrom 73 = .ok (.getfield 24, 3) := dgq (p := 30) daX6_peakFrom_43 dbX6_peakFrom_43.2.2.2.2.2.2.2.2.2.2.2.2.2.2.2.2.2.2.2.1
theorem dX6_peakFrom_76 : decode cX6_peakFrom 76 = .ok (.if_icmp .ge 10, 3) := dgq (p := 33) daX6_peakFrom_43 dbX6_peakFrom_43.2.2.2.2.2.2.2.2.2.2.2.2.2.2.2.2.2.2.2.2.1
theorem dX6_peakFrom_79 : decode cX6_peakFrom 79 = .ok (.iload 4, 2) := dgq (p := 36) daX6_peakFrom_43 dbX6_peakFrom_43.2.2.2.2.2.2.2.2.2.2.2.2.2.2.2.2.2.2.2.2.2.1
theorem dX6_peakFrom_81 : decode cX6_peakFrom 81 = .ok (.iconst 1, 1) := dgq (p := 38) daX6_peakFrom_43 dbX6_peakFrom_43.2.2.2.2.2.2.2.2.2.2.2.2.2.2.2.2.2.2.2.2.2.2.1
theorem dX6_peakFrom_82 : decode cX6_peakFrom 82 = .ok (.iadd, 1) := dgq (p := 39) daX6_peakFrom_43 dbX6_peakFrom_43.2.2.2.2.2.2.2.2.2.2.2.2.2.2.2.2.2.2.2.2.2.2.2
def dsX6_peakFrom_83 : ByteArray := ⟨#[167, 0, 4, 3, 54, 4, 132, 5, 1, 167, 255, 183, 28, 29, 100, 172]⟩
theorem daX6_peakFrom_83 : agB cX6_peakFrom dsX6_peakFrom_83 83 := agB_of (n := 16) (by decide +kernel)
theorem dbX6_peakFrom_83 : (decode dsX6_peakFrom_83 0 = .ok (.goto 4, 3) ∧ okop dsX6_peakFrom_83 0 = true) ∧ (decode dsX6_peakFrom_83 3 = .ok (.iconst 0, 1) ∧ okop dsX6_peakFrom_83 3 = true) ∧ (decode dsX6_peakFrom_83 4 = .ok (.istore 4, 2) ∧ okop dsX6_peakFrom_83 4 = true) ∧ (decode dsX6_peakFrom_83 6 = .ok (.iinc 5 1, 3) ∧ okop dsX6_peakFrom_83 6 = true) ∧ (decode dsX6_peakFrom_83 9 = .ok (.goto (-73), 3) ∧ okop dsX6_peakFrom_83 9 = true) ∧ (decode dsX6_peakFrom_83 12 = .ok (.iload_n 2, 1) ∧ okop dsX6_peakFrom_83 12 = true) ∧ (decode dsX6_peakFrom_83 13 = .ok (.iload_n 3, 1) ∧ okop dsX6_peakFrom_83 13 = true) ∧ (decode dsX6_peakFrom_83 14 = .ok (.isub, 1) ∧ okop dsX6_peakFrom_83 14 = true) ∧ (decode dsX6_peakFrom_83 15 = .ok (.ireturn, 1) ∧ okop dsX6_peakFrom_83 15 = true) := by decide +kernel
theorem dX6_peakFrom_83 : decode cX6_peakFrom 83 = .ok (.goto 4, 3) := dgq (p := 0) daX6_peakFrom_83 dbX6_peakFrom_83.1
theorem dX6_peakFrom_86 : decode cX6_peakFrom 86 = .ok (.iconst 0, 1) := dgq (p := 3) daX6_peakFrom_83 dbX6_peakFrom_83.2.1
theorem dX6_peakFrom_87 : decode cX6_peakFrom 87 = .ok (.istore 4, 2) := dgq (p := 4) daX6_peakFrom_83 dbX6_peakFrom_83.2.2.1
theorem dX6_peakFrom_89 : decode cX6_peakFrom 89 = .ok (.iinc 5 1, 3) := dgq (p := 6) daX6_peakFrom_83 dbX6_peakFrom_83.2.2.2.1
theorem dX6_peakFrom_92 : decode cX6_peakFrom 92 = .ok (.goto (-73), 3) := dgq (p := 9) daX6_peakFrom_83 dbX6_peakFrom_83.2.2.2.2.1
theorem dX6_peakFrom_95 : decode cX6_peakFrom 95 = .ok (.iload_n 2, 1) := dgq (p := 12) daX6_peakFrom_83 dbX6_peakFrom_83.2.2.2.2.2.1
theorem dX6_peakFrom_96 : decode cX6_peakFrom 96 = .ok (.iload_n 3, 1) := dgq (p := 13) daX6_peakFrom_83 dbX6_peakFrom_83.2.2.2.2.2.2.1
theorem dX6_peakFrom_97 : decode cX6_peakFrom 97 = .ok (.isub, 1) := dgq (p := 14) daX6_peakFrom_83 dbX6_peakFrom_83.2.2.2.2.2.2.2.1
theorem dX6_peakFrom_98 : decode cX6_peakFrom 98 = .ok (.ireturn, 1) := dgq (p := 15) daX6_peakFrom_83 dbX6_peakFrom_83.2.2.2.2.2.2.2.2
set_option maxRecDepth 20000 in
theorem ggX6_quietStart_X6_peakFrom : GoodIn wsX6_quietStart wsX6_peakFrom := goodIn_ca (goodIn_q _ [6, 7, 8, 1, 9, 10, 11, 12, 13, 14, 15, 16, 17, 18, 19, 20, 21, 22, 23, 24, 25, 26, 27, 28] rfl (by decide +kernel)) (goodIn_sub (fun _ h => List.mem_cons_of_mem _ (List.mem_append_right _ h)) (by decide +kernel))
set_option maxRecDepth 20000 in
theorem gX6_quietStart_X6_peakFrom : GoodIn wsX6_quietStart (wsV RX6 54 RX6 yX6_peakFrom wsX6_peakFrom) := goodIn_app (goodIn_q _ [2, 3, 4, 5] rfl (by decide +kernel)) ggX6_quietStart_X6_peakFrom
def dsX6_quietStart_0 : ByteArray := ⟨#[3, 60, 42, 3, 182, 0, 54, 61, 4, 62, 29, 42, 180, 0, 24, 162, 0, 27, 42, 29, 182, 0, 54, 54, 4]⟩
theorem daX6_quietStart_0 : agB cX6_quietStart dsX6_quietStart_0 0 := agB_of (n := 25) (by decide +kernel)
theorem dbX6_quietStart_0 : (decode dsX6_quietStart_0 0 = .ok (.iconst 0, 1) ∧ okop dsX6_quietStart_0 0 = true) ∧ (decode dsX6_quietStart_0 1 = .ok (.istore_n 1, 1) ∧ okop dsX6_quietStart_0 1 = true) ∧ (decode dsX6_quietStart_0 2 = .ok (.aload_n 0, 1) ∧ okop dsX6_quietStart_0 2 = true) ∧ (decode dsX6_quietStart_0 3 = .ok (.iconst 0, 1) ∧ okop dsX6_quietStart_0 3 = true) ∧ (decode dsX6_quietStart_0 4 = .ok (.invokevirtual 54, 3) ∧ okop dsX6_quietStart_0 4 = true) ∧ (decode dsX6_quietStart_0 7 = .ok (.istore_n 2, 1) ∧ okop dsX6_quietStart_0 7 = true) ∧ (decode dsX6_quietStart_0 8 = .ok (.iconst 1, 1) ∧ okop dsX6_quietStart_0 8 = true) ∧ (decode dsX6_quietStart_0 9 = .ok (.istore_n 3, 1) ∧ okop dsX6_quietStart_0 9 = true) ∧ (decode dsX6_quietStart_0 10 = .ok (.iload_n 3, 1) ∧ okop dsX6_quietStart_0 10 = true) ∧ (decode dsX6_quietStart_0 11 = .ok (.aload_n 0, 1) ∧ okop dsX6_quietStart_0 11 = true) ∧ (decode dsX6_quietStart_0 12 = .ok (.getfield 24, 3) ∧ okop dsX6_quietStart_0 12 = true) ∧ (decode dsX6_quietStart_0 15 = .ok (.if_icmp .ge 27, 3) ∧ okop dsX6_quietStart_0 15 = true) ∧ (decode dsX6_quietStart_0 18 = .ok (.aload_n 0, 1) ∧ okop dsX6_quietStart_0 18 = true) ∧ (decode dsX6_quietStart_0 19 = .ok (.iload_n 3, 1) ∧ okop dsX6_quietStart_0 19 = true) ∧ (decode dsX6_quietStart_0 20 = .ok (.invokevirtual 54, 3) ∧ okop dsX6_quietStart_0 20 = true) ∧ (decode dsX6_quietStart_0 23 = .ok (.istore 4, 2) ∧ okop dsX6_quietStart_0 23 = true) := by decide +kernel
theorem dX6_quietStart_0 : decode cX6_quietStart 0 = .ok (.iconst 0, 1) := dgq (p := 0) daX6_quietStart_0 dbX6_quietStart_0.1
theorem dX6_quietStart_1 : decode cX6_quietStart 1 = .ok (.istore_n 1, 1) := dgq (p := 1) daX6_quietStart_0 dbX6_quietStart_0.2.1
theorem dX6_quietStart_2 : decode cX6_quietStart 2 = .ok (.aload_n 0, 1) := dgq (p := 2) daX6_quietStart_0 dbX6_quietStart_0.2.2.1
theorem dX6_quietStart_3 : decode cX6_quietStart 3 = .ok (.iconst 0, 1) := dgq (p := 3) daX6_quietStart_0 dbX6_quietStart_0.2.2.2.1
theorem dX6_quietStart_4 : decode cX6_quietStart 4 = .ok (.invokevirtual 54, 3) := dgq (p := 4) daX6_quietStart_0 dbX6_quietStart_0.2.2.2.2.1
theorem dX6_quietStart_7 : decode cX6_quietStart 7 = .ok (.istore_n 2, 1) := dgq (p := 7) daX6_quietStart_0 dbX6_quietStart_0.2.2.2.2.2.1
theorem dX6_quietStart_8 : decode cX6_quietStart 8 = .ok (.iconst 1, 1) := dgq (p := 8) daX6_quietStart_0 dbX6_quietStart_0.2.2.2.2.2.2.1
theorem dX6_quietStart_9 : decode cX6_quietStart 9 = .ok (.istore_n 3, 1) := dgq (p := 9) daX6_quietStart_0 dbX6_quietStart_0.2.2.2.2.2.2.2.1
theorem dX6_quietStart_10 : decode cX6_quietStart 10 = .ok (.iload_n 3, 1) := dgq (p := 10) daX6_quietStart_0 dbX6_quietStart_0.2.2.2.2.2.2.2.2.1
theorem dX6_quietStart_11 : decode cX6_quietStart 11 = .ok (.aload_n 0, 1) := dgq (p := 11) daX6_quietStart_0 dbX6_quietStart_0.2.2.2.2.2.2.2.2.2.1
theorem dX6_quietStart_12 : decode cX6_quietStart 12 = .ok (.getfield 24, 3) := dgq (p := 12) daX6_quietStart_0 dbX6_quietStart_0.2.2.2.2.2.2.2.2.2.2.1
theorem dX6_quietStart_15 : decode cX6_quietStart 15 = .ok (.if_icmp .ge 27, 3) := dgq (p := 15) daX6_quietStart_0 dbX6_quietStart_0.2.2.2.2.2.2.2.2.2.2.2.1
theorem dX6_quietStart_18 : decode cX6_quietStart 18 = .ok (.aload_n 0, 1) := dgq (p := 18) daX6_quietStart_0 dbX6_quietStart_0.2.2.2.2.2.2.2.2.2.2.2.2.1
theorem dX6_quietStart_19 : decode cX6_quietStart 19 = .ok (.iload_n 3, 1) := dgq (p := 19) daX6_quietStart_0 dbX6_quietStart_0.2.2.2.2.2.2.2.2.2.2.2.2.2.1
theorem dX6_quietStart_20 : decode cX6_quietStart 20 = .ok (.invokevirtual 54, 3) := dgq (p := 20) daX6_quietStart_0 dbX6_quietStart_0.2.2.2.2.2.2.2.2.2.2.2.2.2.2.1
theorem dX6_quietStart_23 : decode cX6_quietStart 23 = .ok (.istore 4, 2) := dgq (p := 23) daX6_quietStart_0 dbX6_quietStart_0.2.2.2.2.2.2.2.2.2.2.2.2.2.2.2
