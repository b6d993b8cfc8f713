def dsX9_balancedShift_0 : ByteArray := ⟨#[16, 51, 61, 20, 0, 192, 66, 3, 54, 5, 21, 5, 16, 100, 163, 0, 67, 21, 5]⟩
theorem daX9_balancedShift_0 : agB cX9_balancedShift dsX9_balancedShift_0 0 := agB_of (n := 19) (by decide +kernel)
theorem dbX9_balancedShift_0 : (decode dsX9_balancedShift_0 0 = .ok (.bipush 51, 2) ∧ okop dsX9_balancedShift_0 0 = true) ∧ (decode dsX9_balancedShift_0 2 = .ok (.istore_n 2, 1) ∧ okop dsX9_balancedShift_0 2 = true) ∧ (decode dsX9_balancedShift_0 3 = .ok (.ldc2_w 192, 3) ∧ okop dsX9_balancedShift_0 3 = true) ∧ (decode dsX9_balancedShift_0 6 = .ok (.lstore_n 3, 1) ∧ okop dsX9_balancedShift_0 6 = true) ∧ (decode dsX9_balancedShift_0 7 = .ok (.iconst 0, 1) ∧ okop dsX9_balancedShift_0 7 = true) ∧ (decode dsX9_balancedShift_0 8 = .ok (.istore 5, 2) ∧ okop dsX9_balancedShift_0 8 = true) ∧ (decode dsX9_balancedShift_0 10 = .ok (.iload 5, 2) ∧ okop dsX9_balancedShift_0 10 = true) ∧ (decode dsX9_balancedShift_0 12 = .ok (.bipush 100, 2) ∧ okop dsX9_balancedShift_0 12 = true) ∧ (decode dsX9_balancedShift_0 14 = .ok (.if_icmp .gt 67, 3) ∧ okop dsX9_balancedShift_0 14 = true) ∧ (decode dsX9_balancedShift_0 17 = .ok (.iload 5, 2) ∧ okop dsX9_balancedShift_0 17 = true) := by decide +kernel
theorem dX9_balancedShift_0 : decode cX9_balancedShift 0 = .ok (.bipush 51, 2) := dgq (p := 0) daX9_balancedShift_0 dbX9_balancedShift_0.1
theorem dX9_balancedShift_2 : decode cX9_balancedShift 2 = .ok (.istore_n 2, 1) := dgq (p := 2) daX9_balancedShift_0 dbX9_balancedShift_0.2.1
theorem dX9_balancedShift_3 : decode cX9_balancedShift 3 = .ok (.ldc2_w 192, 3) := dgq (p := 3) daX9_balancedShift_0 dbX9_balancedShift_0.2.2.1
theorem dX9_balancedShift_6 : decode cX9_balancedShift 6 = .ok (.lstore_n 3, 1) := dgq (p := 6) daX9_balancedShift_0 dbX9_balancedShift_0.2.2.2.1
theorem dX9_balancedShift_7 : decode cX9_balancedShift 7 = .ok (.iconst 0, 1) := dgq (p := 7) daX9_balancedShift_0 dbX9_balancedShift_0.2.2.2.2.1
theorem dX9_balancedShift_8 : decode cX9_balancedShift 8 = .ok (.istore 5, 2) := dgq (p := 8) daX9_balancedShift_0 dbX9_balancedShift_0.2.2.2.2.2.1
theorem dX9_balancedShift_10 : decode cX9_balancedShift 10 = .ok (.iload 5, 2) := dgq (p := 10) daX9_balancedShift_0 dbX9_balancedShift_0.2.2.2.2.2.2.1
theorem dX9_balancedShift_12 : decode cX9_balancedShift 12 = .ok (.bipush 100, 2) := dgq (p := 12) daX9_balancedShift_0 dbX9_balancedShift_0.2.2.2.2.2.2.2.1
theorem dX9_balancedShift_14 : decode cX9_balancedShift 14 = .ok (.if_icmp .gt 67, 3) := dgq (p := 14) daX9_balancedShift_0 dbX9_balancedShift_0.2.2.2.2.2.2.2.2.1
theorem dX9_balancedShift_17 : decode cX9_balancedShift 17 = .ok (.iload 5, 2) := dgq (p := 17) daX9_balancedShift_0 dbX9_balancedShift_0.2.2.2.2.2.2.2.2.2
def dsX9_balancedShift_19 : ByteArray := ⟨#[184, 0, 194, 54, 6, 42, 21, 6, 182, 0, 130, 153, 0, 45, 43, 21, 6, 116, 182, 0, 130]⟩
theorem daX9_balancedShift_19 : agB cX9_balancedShift dsX9_balancedShift_19 19 := agB_of (n := 21) (by decide +kernel)
theorem dbX9_balancedShift_19 : (decode dsX9_balancedShift_19 0 = .ok (.invokestatic 194, 3) ∧ okop dsX9_balancedShift_19 0 = true) ∧ (decode dsX9_balancedShift_19 3 = .ok (.istore 6, 2) ∧ okop dsX9_balancedShift_19 3 = true) ∧ (decode dsX9_balancedShift_19 5 = .ok (.aload_n 0, 1) ∧ okop dsX9_balancedShift_19 5 = true) ∧ (decode dsX9_balancedShift_19 6 = .ok (.iload 6, 2) ∧ okop dsX9_balancedShift_19 6 = true) ∧ (decode dsX9_balancedShift_19 8 = .ok (.invokevirtual 130, 3) ∧ okop dsX9_balancedShift_19 8 = true) ∧ (decode dsX9_balancedShift_19 11 = .ok (.ifCond .eq 45, 3) ∧ okop dsX9_balancedShift_19 11 = true) ∧ (decode dsX9_balancedShift_19 14 = .ok (.aload_n 1, 1) ∧ okop dsX9_balancedShift_19 14 = true) ∧ (decode dsX9_balancedShift_19 15 = .ok (.iload 6, 2) ∧ okop dsX9_balancedShift_19 15 = true) ∧ (decode dsX9_balancedShift_19 17 = .ok (.ineg, 1) ∧ okop dsX9_balancedShift_19 17 = true) ∧ (decode dsX9_balancedShift_19 18 = .ok (.invokevirtual 130, 3) ∧ okop dsX9_balancedShift_19 18 = true) := by decide +kernel
theorem dX9_balancedShift_19 : decode cX9_balancedShift 19 = .ok (.invokestatic 194, 3) := dgq (p := 0) daX9_balancedShift_19 dbX9_balancedShift_19.1
theorem dX9_balancedShift_22 : decode cX9_balancedShift 22 = .ok (.istore 6, 2) := dgq (p := 3) daX9_balancedShift_19 dbX9_balancedShift_19.2.1
theorem dX9_balancedShift_24 : decode cX9_balancedShift 24 = .ok (.aload_n 0, 1) := dgq (p := 5) daX9_balancedShift_19 dbX9_balancedShift_19.2.2.1
theorem dX9_balancedShift_25 : decode cX9_balancedShift 25 = .ok (.iload 6, 2) := dgq (p := 6) daX9_balancedShift_19 dbX9_balancedShift_19.2.2.2.1
theorem dX9_balancedShift_27 : decode cX9_balancedShift 27 = .ok (.invokevirtual 130, 3) := dgq (p := 8) daX9_balancedShift_19 dbX9_balancedShift_19.2.2.2.2.1
theorem dX9_balancedShift_30 : decode cX9_balancedShift 30 = .ok (.ifCond .eq 45, 3) := dgq (p := 11) daX9_balancedShift_19 dbX9_balancedShift_19.2.2.2.2.2.1
theorem dX9_balancedShift_33 : decode cX9_balancedShift 33 = .ok (.aload_n 1, 1) := dgq (p := 14) daX9_balancedShift_19 dbX9_balancedShift_19.2.2.2.2.2.2.1
theorem dX9_balancedShift_34 : decode cX9_balancedShift 34 = .ok (.iload 6, 2) := dgq (p := 15) daX9_balancedShift_19 dbX9_balancedShift_19.2.2.2.2.2.2.2.1
theorem dX9_balancedShift_36 : decode cX9_balancedShift 36 = .ok (.ineg, 1) := dgq (p := 17) daX9_balancedShift_19 dbX9_balancedShift_19.2.2.2.2.2.2.2.2.1
theorem dX9_balancedShift_37 : decode cX9_balancedShift 37 = .ok (.invokevirtual 130, 3) := dgq (p := 18) daX9_balancedShift_19 dbX9_balancedShift_19.2.2.2.2.2.2.2.2.2
def dsX9_balancedShift_40 : ByteArray := ⟨#[153, 0, 35, 42, 21, 6, 182, 0, 136, 43, 21, 6, 116, 182, 0, 136, 101, 184, 0, 140]⟩
theorem daX9_balancedShift_40 : agB cX9_balancedShift dsX9_balancedShift_40 40 := agB_of (n := 20) (by decide +kernel)
theorem dbX9_balancedShift_40 : (decode dsX9_balancedShift_40 0 = .ok (.ifCond .eq 35, 3) ∧ okop dsX9_balancedShift_40 0 = true) ∧ (decode dsX9_balancedShift_40 3 = .ok (.aload_n 0, 1) ∧ okop dsX9_balancedShift_40 3 = true) ∧ (decode dsX9_balancedShift_40 4 = .ok (.iload 6, 2) ∧ okop dsX9_balancedShift_40 4 = true) ∧ (decode dsX9_balancedShift_40 6 = .ok (.invokevirtual 136, 3) ∧ okop dsX9_balancedShift_40 6 = true) ∧ (decode dsX9_balancedShift_40 9 = .ok (.aload_n 1, 1) ∧ okop dsX9_balancedShift_40 9 = true) ∧ (decode dsX9_balancedShift_40 10 = .ok (.iload 6, 2) ∧ okop dsX9_balancedShift_40 10 = true) ∧ (decode dsX9_balancedShift_40 12 = .ok (.ineg, 1) ∧ okop dsX9_balancedShift_40 12 = true) ∧ (decode dsX9_balancedShift_40 13 = .ok (.invokevirtual 136, 3) ∧ okop dsX9_balancedShift_40 13 = true) ∧ (decode dsX9_balancedShift_40 16 = .ok (.lsub, 1) ∧ okop dsX9_balancedShift_40 16 = true) ∧ (decode dsX9_balancedShift_40 17 = .ok (.invokestatic 140, 3) ∧ okop dsX9_balancedShift_40 17 = true) := by decide +kernel
theorem dX9_balancedShift_40 : decode cX9_balancedShift 40 = .ok (.ifCond .eq 35, 3) := dgq (p := 0) daX9_balancedShift_40 dbX9_balancedShift_40.1
theorem dX9_balancedShift_43 : decode cX9_balancedShift 43 = .ok (.aload_n 0, 1) := dgq (p := 3) daX9_balancedShift_40 dbX9_balancedShift_40.2.1
theorem dX9_balancedShift_44 : decode cX9_balancedShift 44 = .ok (.iload 6, 2) := dgq (p := 4) daX9_balancedShift_40 dbX9_balancedShift_40.2.2.1
theorem dX9_balancedShift_46 : decode cX9_balancedShift 46 = .ok (.invokevirtual 136, 3) := dgq (p := 6) daX9_balancedShift_40 dbX9_balancedShift_40.2.2.2.1
theorem dX9_balancedShift_49 : decode cX9_balancedShift 49 = .ok (.aload_n 1, 1) := dgq (p := 9) daX9_balancedShift_40 dbX9_balancedShift_40.2.2.2.2.1
theorem dX9_balancedShift_50 : decode cX9_balancedShift 50 = .ok (.iload 6, 2) := dgq (p := 10) daX9_balancedShift_40 dbX9_balancedShift_40.2.2.2.2.2.1
theorem dX9_balancedShift_52 : decode cX9_balancedShift 52 = .ok (.ineg, 1) := dgq (p := 12) daX9_balancedShift_40 dbX9_balancedShift_40.2.2.2.2.2.2.1
theorem dX9_balancedShift_53 : decode cX9_balancedShift 53 = .ok (.invokevirtual 136, 3) := dgq (p := 13) daX9_balancedShift_40 dbX9_balancedShift_40.2.2.2.2.2.2.2.1
theorem dX9_balancedShift_56 : decode cX9_balancedShift 56 = .ok (.lsub, 1) := dgq (p := 16) daX9_balancedShift_40 dbX9_balancedShift_40.2.2.2.2.2.2.2.2.1
theorem dX9_balancedShift_57 : decode cX9_balancedShift 57 = .ok (.invokestatic 140, 3) := dgq (p := 17) daX9_balancedShift_40 dbX9_balancedShift_40.2.2.2.2.2.2.2.2.2
def dsX9_balancedShift_60 : ByteArray := ⟨#[55, 7, 22, 7, 33, 148, 156, 0, 9, 22, 7, 66, 21, 6, 61, 132, 5, 1]⟩
theorem daX9_balancedShift_60 : agB cX9_balancedShift dsX9_balancedShift_60 60 := agB_of (n := 18) (by decide +kernel)
theorem dbX9_balancedShift_60 : (decode dsX9_balancedShift_60 0 = .ok (.lstore 7, 2) ∧ okop dsX9_balancedShift_60 0 = true) ∧ (decode dsX9_balancedShift_60 2 = .ok (.lload 7, 2) ∧ okop dsX9_balancedShift_60 2 = true) ∧ (decode dsX9_balancedShift_60 4 = .ok (.lload_n 3, 1) ∧ okop dsX9_balancedShift_60 4 = true) ∧ (decode dsX9_balancedShift_60 5 = .ok (.lcmp, 1) ∧ okop dsX9_balancedShift_60 5 = true) ∧ (decode dsX9_balancedShift_60 6 = .ok (.ifCond .ge 9, 3) ∧ okop dsX9_balancedShift_60 6 = true) ∧ (decode dsX9_balancedShift_60 9 = .ok (.lload 7, 2) ∧ okop dsX9_balancedShift_60 9 = true) ∧ (decode dsX9_balancedShift_60 11 = .ok (.lstore_n 3, 1) ∧ okop dsX9_balancedShift_60 11 = true) ∧ (decode dsX9_balancedShift_60 12 = .ok (.iload 6, 2) ∧ okop dsX9_balancedShift_60 12 = true) ∧ (decode dsX9_balancedShift_60 14 = .ok (.istore_n 2, 1) ∧ okop dsX9_balancedShift_60 14 = true) ∧ (decode dsX9_balancedShift_60 15 = .ok (.iinc 5 1, 3) ∧ okop dsX9_balancedShift_60 15 = true) := by decide +kernel
theorem dX9_balancedShift_60 : decode cX9_balancedShift 60 = .ok (.lstore 7, 2) := dgq (p := 0) daX9_balancedShift_60 dbX9_balancedShift_60.1
theorem dX9_balancedShift_62 : decode cX9_balancedShift 62 = .ok (.lload 7, 2) := dgq (p := 2) daX9_balancedShift_60 dbX9_balancedShift_60.2.1
theorem dX9_balancedShift_64 : decode cX9_balancedShift 64 = .ok (.lload_n 3, 1) := dgq (p := 4) daX9_balancedShift_60 dbX9_balancedShift_60.2.2.1
theorem dX9_balancedShift_65 : decode cX9_balancedShift 65 = .ok (.lcmp, 1) := dgq (p := 5) daX9_balancedShift_60 dbX9_balancedShift_60.2.2.2.1
theorem dX9_balancedShift_66 : decode cX9_balancedShift 66 = .ok (.ifCond .ge 9, 3) := dgq (p := 6) daX9_balancedShift_60 dbX9_balancedShift_60.2.2.2.2.1
theorem dX9_balancedShift_69 : decode cX9_balancedShift 69 = .ok (.lload 7, 2) := dgq (p := 9) daX9_balancedShift_60 dbX9_balancedShift_60.2.2.2.2.2.1
theorem dX9_balancedShift_71 : decode cX9_balancedShift 71 = .ok (.lstore_n 3, 1) := dgq (p := 11) daX9_balancedShift_60 dbX9_balancedShift_60.2.2.2.2.2.2.1
theorem dX9_balancedShift_72 : decode cX9_balancedShift 72 = .ok (.iload 6, 2) := dgq (p := 12) daX9_balancedShift_60 dbX9_balancedShift_60.2.2.2.2.2.2.2.1
theorem dX9_balancedShift_74 : decode cX9_balancedShift 74 = .ok (.istore_n 2, 1) := dgq (p := 14) daX9_balancedShift_60 dbX9_balancedShift_60.2.2.2.2.2.2.2.2.1
theorem dX9_balancedShift_75 : decode cX9_balancedShift 75 = .ok (.iinc 5 1, 3) := dgq (p := 15) daX9_balancedShift_60 dbX9_balancedShift_60.2.2.2.2.2.2.2.2.2
def dsX9_balancedShift_78 : ByteArray := ⟨#[167, 255, 188, 28, 172]⟩
theorem daX9_balancedShift_78 : agB cX9_balancedShift dsX9_balancedShift_78 78 := agB_of (n := 5) (by decide +kernel)
theorem dbX9_balancedShift_78 : (decode dsX9_balancedShift_78 0 = .ok (.goto (-68), 3) ∧ okop dsX9_balancedShift_78 0 = true) ∧ (decode dsX9_balancedShift_78 3 = .ok (.iload_n 2, 1) ∧ okop dsX9_balancedShift_78 3 = true) ∧ (decode dsX9_balancedShift_78 4 = .ok (.ireturn, 1) ∧ okop dsX9_balancedShift_78 4 = true) := by decide +kernel
theorem dX9_balancedShift_78 : decode cX9_balancedShift 78 = .ok (.goto (-68), 3) := dgq (p := 0) daX9_balancedShift_78 dbX9_balancedShift_78.1
theorem dX9_balancedShift_81 : decode cX9_balancedShift 81 = .ok (.iload_n 2, 1) := dgq (p := 3) daX9_balancedShift_78 dbX9_balancedShift_78.2.1
theorem dX9_balancedShift_82 : decode cX9_balancedShift 82 = .ok (.ireturn, 1) := dgq (p := 4) daX9_balancedShift_78 dbX9_balancedShift_78.2.2
def dsX9_nearestToZero_0 : ByteArray := ⟨#[26, 4, 96, 5, 108, 60, 26, 5, 112, 4]⟩
theorem daX9_nearestToZero_0 : agB cX9_nearestToZero dsX9_nearestToZero_0 0 := agB_of (n := 10) (by decide +kernel)
theorem dbX9_nearestToZero_0 : (decode dsX9_nearestToZero_0 0 = .ok (.iload_n 0, 1) ∧ okop dsX9_nearestToZero_0 0 = true) ∧ (decode dsX9_nearestToZero_0 1 = .ok (.iconst 1, 1) ∧ okop dsX9_nearestToZero_0 1 = true) ∧ (decode dsX9_nearestToZero_0 2 = .ok (.iadd, 1) ∧ okop dsX9_nearestToZero_0 2 = true) ∧ (decode dsX9_nearestToZero_0 3 = .ok (.iconst 2, 1) ∧ okop dsX9_nearestToZero_0 3 = true) ∧ (decode dsX9_nearestToZero_0 4 = .ok (.idiv, 1) ∧ okop dsX9_nearestToZero_0 4 = true) ∧ (decode dsX9_nearestToZero_0 5 = .ok (.istore_n 1, 1) ∧ okop dsX9_nearestToZero_0 5 = true) ∧ (decode dsX9_nearestToZero_0 6 = .ok (.iload_n 0, 1) ∧ okop dsX9_nearestToZero_0 6 = true) ∧ (decode dsX9_nearestToZero_0 7 = .ok (.iconst 2, 1) ∧ okop dsX9_nearestToZero_0 7 = true) ∧ (decode dsX9_nearestToZero_0 8 = .ok (.irem, 1) ∧ okop dsX9_nearestToZero_0 8 = true) ∧ (decode dsX9_nearestToZero_0 9 = .ok (.iconst 1, 1) ∧ okop dsX9_nearestToZero_0 9 = true) := by decide +kernel
theorem dX9_nearestToZero_0 : decode cX9_nearestToZero 0 = .ok (.iload_n 0, 1) := dgq (p := 0) daX9_nearestToZero_0 dbX9_nearestToZero_0.1
theorem dX9_nearestToZero_1 : decode cX9_nearestToZero 1 = .ok (.iconst 1, 1) := dgq (p := 1) daX9_nearestToZero_0 dbX9_nearestToZero_0.2.1
theorem dX9_nearestToZero_2 : decode cX9_nearestToZero 2 = .ok (.iadd, 1) := dgq (p := 2) daX9_nearestToZero_0 dbX9_nearestToZero_0.2.2.1
theorem dX9_nearestToZero_3 : decode cX9_nearestToZero 3 = .ok (.iconst 2, 1) := dgq (p := 3) daX9_nearestToZero_0 dbX9_nearestToZero_0.2.2.2.1
theorem dX9_nearestToZero_4 : decode cX9_nearestToZero 4 = .ok (.idiv, 1) := dgq (p := 4) daX9_nearestToZero_0 dbX9_nearestToZero_0.2.2.2.2.1
theorem dX9_nearestToZero_5 : decode cX9_nearestToZero 5 = .ok (.istore_n 1, 1) := dgq (p := 5) daX9_nearestToZero_0 dbX9_nearestToZero_0.2.2.2.2.2.1
theorem dX9_nearestToZero_6 : decode cX9_nearestToZero 6 = .ok (.iload_n 0, 1) := dgq (p := 6) daX9_nearestToZero_0 dbX9_nearestToZero_0.2.2.2.2.2.2.1
theorem dX9_nearestToZero_7 : decode cX9_nearestToZero 7 = .ok (.iconst 2, 1) := dgq (p := 7) daX9_nearestToZero_0 dbX9_nearestToZero_0.2.2.2.2.2.2.2.1
theorem dX9_nearestToZero_8 : decode cX9_nearestToZero 8 = .ok (.irem, 1) := dgq (p := 8) daX9_nearestToZero_0 dbX9_nearestToZero_0.2.2.2.2.2.2.2.2.1
theorem dX9_nearestToZero_9 : decode cX9_nearestToZero 9 = .ok (.iconst 1, 1) := dgq (p := 9) daX9_nearestToZero_0 dbX9_nearestToZero_0.2.2.2.2.2.2.2.2.2
def dsX9_nearestToZero_10 : ByteArray := ⟨#[160, 0, 7, 27, 167, 0, 5, 27, 116, 172]⟩
theorem daX9_nearestToZero_10 : agB cX9_nearestToZero dsX9_nearestToZero_10 10 := agB_of (n := 10) (by decide +kernel)
theorem dbX9_nearestToZero_10 : (decode dsX9_nearestToZero_10 0 = .ok (.if_icmp .ne 7, 3) ∧ okop dsX9_nearestToZero_10 0 = true) ∧ (decode dsX9_nearestToZero_10 3 = .ok (.iload_n 1, 1) ∧ okop dsX9_nearestToZero_10 3 = true) ∧ (decode dsX9_nearestToZero_10 4 = .ok (.goto 5, 3) ∧ okop dsX9_nearestToZero_10 4 = true) ∧ (decode dsX9_nearestToZero_10 7 = .ok (.iload_n 1, 1) ∧ okop dsX9_nearestToZero_10 7 = true) ∧ (decode dsX9_nearestToZero_10 8 = .ok (.ineg, 1) ∧ okop dsX9_nearestToZero_10 8 = true) ∧ (decode dsX9_nearestToZero_10 9 = .ok (.ireturn, 1) ∧ okop dsX9_nearestToZero_10 9 = true) := by decide +kernel
theorem dX9_nearestToZero_10 : decode cX9_nearestToZero 10 = .ok (.if_icmp .ne 7, 3) := dgq (p := 0) daX9_nearestToZero_10 dbX9_nearestToZero_10.1
theorem dX9_nearestToZero_13 : decode cX9_nearestToZero 13 = .ok (.iload_n 1, 1) := dgq (p := 3) daX9_nearestToZero_10 dbX9_nearestToZero_10.2.1
theorem dX9_nearestToZero_14 : decode cX9_nearestToZero 14 = .ok (.goto 5, 3) := dgq (p := 4) daX9_nearestToZero_10 dbX9_nearestToZero_10.2.2.1
theorem dX9_nearestToZero_17 : decode cX9_nearestToZero 17 = .ok (.iload_n 1, 1) := dgq (p := 7) daX9_nearestToZero_10 dbX9_nearestToZero_10.2.2.2.1
theorem dX9_nearestToZero_18 : decode cX9_nearestToZero 18 = .ok (.ineg, 1) := dgq (p := 8) daX9_nearestToZero_10 dbX9_nearestToZero_10.2.2.2.2.1
theorem dX9_nearestToZero_19 : decode cX9_nearestToZero 19 = .ok (.ireturn, 1) := dgq (p := 9) daX9_nearestToZero_10 dbX9_nearestToZero_10.2.2.2.2.2
set_option maxRecDepth 20000 in
theorem ggX9_bestPair_X9_bestTrain : GoodIn wsX9_bestPair wsX9_bestTrain := goodIn_ca (goodIn_ca (goodIn_ca (goodIn_q _ [4, 5, 6, 7, 8, 9, 3, 10, 11, 12, 13, 14, 15, 16, 17, 18, 19, 20, 21, 22, 23, 24, 25, 26, 27, 28, 29, 30, 31, 32, 33, 34, 35, 36, 37, 38, 39, 40, 41, 42, 43, 44, 45, 46, 47, 48, 49, 50, 51, 52, 53, 54, 55, 56] rfl (by decide +kernel)) (goodIn_sub (fun _ h => (List.mem_cons_of_mem _ (List.mem_append_left _ (List.mem_append_left _ (List.mem_append_right _ h))))) tg_wsX80)) (goodIn_sub (fun _ h => List.mem_cons_of_mem _ (List.mem_append_left _ (List.mem_append_right _ h))) (by decide +kernel))) (goodIn_sub (fun _ h => List.mem_cons_of_mem _ (List.mem_append_right _ h)) (by decide +kernel))
set_option maxRecDepth 20000 in
theorem gX9_bestPair_X9_bestTrain : GoodIn wsX9_bestPair (va_wsS RX9 197 yX9_bestTrain wsX9_bestTrain) := goodIn_app (goodIn_q _ [1, 2, 3] rfl (by decide +kernel)) ggX9_bestPair_X9_bestTrain
def dsX9_bestPair_0 : ByteArray := ⟨#[27, 28, 29, 21, 4, 184, 0, 197, 180, 0, 201, 172]⟩
theorem daX9_bestPair_0 : agB cX9_bestPair dsX9_bestPair_0 0 := agB_of (n := 12) (by decide +kernel)
theorem dbX9_bestPair_0 : (decode dsX9_bestPair_0 0 = .ok (.iload_n 1, 1) ∧ okop dsX9_bestPair_0 0 = true) ∧ (decode dsX9_bestPair_0 1 = .ok (.iload_n 2, 1) ∧ okop dsX9_bestPair_0 1 = true) ∧ (decode dsX9_bestPair_0 2 = .ok (.iload_n 3, 1) ∧ okop dsX9_bestPair_0 2 = true) ∧ (decode dsX9_bestPair_0 3 = .ok (.iload 4, 2) ∧ okop dsX9_bestPair_0 3 = true) ∧ (decode dsX9_bestPair_0 5 = .ok (.invokestatic 197, 3) ∧ okop dsX9_bestPair_0 5 = true) ∧ (decode dsX9_bestPair_0 8 = .ok (.getfield 201, 3) ∧ okop dsX9_bestPair_0 8 = true) ∧ (decode dsX9_bestPair_0 11 = .ok (.ireturn, 1) ∧ okop dsX9_bestPair_0 11 = true) := by decide +kernel
theorem dX9_bestPair_0 : decode cX9_bestPair 0 = .ok (.iload_n 1, 1) := dgq (p := 0) daX9_bestPair_0 dbX9_bestPair_0.1
theorem dX9_bestPair_1 : decode cX9_bestPair 1 = .ok (.iload_n 2, 1) := dgq (p := 1) daX9_bestPair_0 dbX9_bestPair_0.2.1
theorem dX9_bestPair_2 : decode cX9_bestPair 2 = .ok (.iload_n 3, 1) := dgq (p := 2) daX9_bestPair_0 dbX9_bestPair_0.2.2.1
theorem dX9_bestPair_3 : decode cX9_bestPair 3 = .ok (.iload 4, 2) := dgq (p := 3) daX9_bestPair_0 dbX9_bestPair_0.2.2.2.1
theorem dX9_bestPair_5 : decode cX9_bestPair 5 = .ok (.invokestatic 197, 3) := dgq (p := 5) daX9_bestPair_0 dbX9_bestPair_0.2.2.2.2.1
theorem dX9_bestPair_8 : decode cX9_bestPair 8 = .ok (.getfield 201, 3) := dgq (p := 8) daX9_bestPair_0 dbX9_bestPair_0.2.2.2.2.2.1
theorem dX9_bestPair_11 : decode cX9_bestPair 11 = .ok (.ireturn, 1) := dgq (p := 11) daX9_bestPair_0 dbX9_bestPair_0.2.2.2.2.2.2
set_option maxRecDepth 20000 in
theorem ggX9_bestMate_X9_bestTrain : GoodIn wsX9_bestMate wsX9_bestTrain := goodIn_ca (goodIn_ca (goodIn_ca (goodIn_q _ [4, 5, 6, 7, 8, 9, 3, 10, 11, 12, 13, 14, 15, 16, 17, 18, 19, 20, 21, 22, 23, 24, 25, 26, 27, 28, 29, 30, 31, 32, 33, 34, 35, 36, 37, 38, 39, 40, 41, 42, 43, 44, 45, 46, 47, 48, 49, 50, 51, 52, 53, 54, 55, 56] rfl (by decide +kernel)) (goodIn_sub (fun _ h => (List.mem_cons_of_mem _ (List.mem_append_left _ (List.mem_append_left _ (List.mem_append_right _ h))))) tg_wsX80)) (goodIn_sub (fun _ h => List.mem_cons_of_mem _ (List.mem_append_left _ (List.mem_append_right _ h))) (by decide +kernel))) (goodIn_sub (fun _ h => List.mem_cons_of_mem _ (List.mem_append_right _ h)) (by decide +kernel))
set_option maxRecDepth 20000 in
theorem gX9_bestMate_X9_bestTrain : GoodIn wsX9_bestMate (va_wsS RX9 197 yX9_bestTrain wsX9_bestTrain) := goodIn_app (goodIn_q _ [1, 2, 3] rfl (by decide +kernel)) ggX9_bestMate_X9_bestTrain
def dsX9_bestMate_0 : ByteArray := ⟨#[27, 28, 29, 21, 4, 184, 0, 197, 180, 0, 206, 172]⟩
theorem daX9_bestMate_0 : agB cX9_bestMate dsX9_bestMate_0 0 := agB_of (n := 12) (by decide +kernel)
theorem dbX9_bestMate_0 : (decode dsX9_bestMate_0 0 = .ok (.iload_n 1, 1) ∧ okop dsX9_bestMate_0 0 = true) ∧ (decode dsX9_bestMate_0 1 = .ok (.iload_n 2, 1) ∧ okop dsX9_bestMate_0 1 = true) ∧ (decode dsX9_bestMate_0 2 = .ok (.iload_n 3, 1) ∧ okop dsX9_bestMate_0 2 = true) ∧ (decode dsX9_bestMate_0 3 = .ok (.iload 4, 2) ∧ okop dsX9_bestMate_0 3 = true) ∧ (decode dsX9_bestMate_0 5 = .ok (.invokestatic 197, 3) ∧ okop dsX9_bestMate_0 5 = true) ∧ (decode dsX9_bestMate_0 8 = .ok (.getfield 206, 3) ∧ okop dsX9_bestMate_0 8 = true) ∧ (decode dsX9_bestMate_0 11 = .ok (.ireturn, 1) ∧ okop dsX9_bestMate_0 11 = true) := by decide +kernel
theorem dX9_bestMate_0 : decode cX9_bestMate 0 = .ok (.iload_n 1, 1) := dgq (p := 0) daX9_bestMate_0 dbX9_bestMate_0.1
theorem dX9_bestMate_1 : decode cX9_bestMate 1 = .ok (.iload_n 2, 1) := dgq (p := 1) daX9_bestMate_0 dbX9_bestMate_0.2.1
theorem dX9_bestMate_2 : decode cX9_bestMate 2 = .ok (.iload_n 3, 1) := dgq (p := 2) daX9_bestMate_0 dbX9_bestMate_0.2.2.1
theorem dX9_bestMate_3 : decode cX9_bestMate 3 = .ok (.iload 4, 2) := dgq (p := 3) daX9_bestMate_0 dbX9_bestMate_0.2.2.2.1
theorem dX9_bestMate_5 : decode cX9_bestMate 5 = .ok (.invokestatic 197, 3) := dgq (p := 5) daX9_bestMate_0 dbX9_bestMate_0.2.2.2.2.1
theorem dX9_bestMate_8 : decode cX9_bestMate 8 = .ok (.getfield 206, 3) := dgq (p := 8) daX9_bestMate_0 dbX9_bestMate_0.2.2.2.2.2.1
theorem dX9_bestMate_11 : decode cX9_bestMate 11 = .ok (.ireturn, 1) := dgq (p := 11) daX9_bestMate_0 dbX9_bestMate_0.2.2.2.2.2.2
set_option maxRecDepth 20000 in
theorem ggX9_planets_X9_needTeeth : GoodIn wsX9_planets wsX9_needTeeth := goodIn_ca (goodIn_q _ [4, 5, 6, 3, 7, 8, 9] rfl (by decide +kernel)) (goodIn_sub (fun _ h => List.mem_cons_of_mem _ (List.mem_append_left _ (List.mem_append_left _ (List.mem_append_right _ h)))) (by decide +kernel))
set_option maxRecDepth 20000 in
theorem gX9_planets_X9_needTeeth : GoodIn wsX9_planets (va_wsS RX9 55 yX9_needTeeth wsX9_needTeeth) := goodIn_app (goodIn_q _ [1, 2, 3] rfl (by decide +kernel)) ggX9_planets_X9_needTeeth
set_option maxRecDepth 20000 in
theorem ggX9_planets_X9_needRange : GoodIn wsX9_planets wsX9_needRange := goodIn_ca (goodIn_q _ [7, 8, 9] rfl (by decide +kernel)) (goodIn_sub (fun _ h => List.mem_cons_of_mem _ (List.mem_append_left _ (List.mem_append_left _ (List.mem_append_right _ h)))) (by decide +kernel))
set_option maxRecDepth 20000 in
theorem gX9_planets_X9_needRange : GoodIn wsX9_planets (va_wsS RX9 59 yX9_needRange wsX9_needRange) := goodIn_app (goodIn_q _ [5, 6, 3] rfl (by decide +kernel)) ggX9_planets_X9_needRange
set_option maxRecDepth 20000 in
theorem ggX9_planets_X9_planetSign : GoodIn wsX9_planets wsX9_planetSign := goodIn_ca (goodIn_ca (goodIn_q _ [12, 13] rfl (by decide +kernel)) (goodIn_sub (fun _ h => List.mem_cons_of_mem _ (List.mem_append_left _ (List.mem_append_right _ h))) (by decide +kernel))) (goodIn_sub (fun _ h => List.mem_cons_of_mem _ (List.mem_append_right _ h)) (by decide +kernel))
set_option maxRecDepth 20000 in
theorem gX9_planets_X9_planetSign : GoodIn wsX9_planets (va_wsS RX9 209 yX9_planetSign wsX9_planetSign) := goodIn_app (goodIn_q _ [10, 11, 3] rfl (by decide +kernel)) ggX9_planets_X9_planetSign
def dsX9_planets_0 : ByteArray := ⟨#[27, 184, 0, 55, 28, 27, 4, 96, 17, 2, 88, 184, 0, 59, 29, 6]⟩
theorem daX9_planets_0 : agB cX9_planets dsX9_planets_0 0 := agB_of (n := 16) (by decide +kernel)
theorem dbX9_planets_0 : (decode dsX9_planets_0 0 = .ok (.iload_n 1, 1) ∧ okop dsX9_planets_0 0 = true) ∧ (decode dsX9_planets_0 1 = .ok (.invokestatic 55, 3) ∧ okop dsX9_planets_0 1 = true) ∧ (decode dsX9_planets_0 4 = .ok (.iload_n 2, 1) ∧ okop dsX9_planets_0 4 = true) ∧ (decode dsX9_planets_0 5 = .ok (.iload_n 1, 1) ∧ okop dsX9_planets_0 5 = true) ∧ (decode dsX9_planets_0 6 = .ok (.iconst 1, 1) ∧ okop dsX9_planets_0 6 = true) ∧ (decode dsX9_planets_0 7 = .ok (.iadd, 1) ∧ okop dsX9_planets_0 7 = true) ∧ (decode dsX9_planets_0 8 = .ok (.sipush 600, 3) ∧ okop dsX9_planets_0 8 = true) ∧ (decode dsX9_planets_0 11 = .ok (.invokestatic 59, 3) ∧ okop dsX9_planets_0 11 = true) ∧ (decode dsX9_planets_0 14 = .ok (.iload_n 3, 1) ∧ okop dsX9_planets_0 14 = true) ∧ (decode dsX9_planets_0 15 = .ok (.iconst 3, 1) ∧ okop dsX9_planets_0 15 = true) := by decide +kernel
theorem dX9_planets_0 : decode cX9_planets 0 = .ok (.iload_n 1, 1) := dgq (p := 0) daX9_planets_0 dbX9_planets_0.1
theorem dX9_planets_1 : decode cX9_planets 1 = .ok (.invokestatic 55, 3) := dgq (p := 1) daX9_planets_0 dbX9_planets_0.2.1
theorem dX9_planets_4 : decode cX9_planets 4 = .ok (.iload_n 2, 1) := dgq (p := 4) daX9_planets_0 dbX9_planets_0.2.2.1
theorem dX9_planets_5 : decode cX9_planets 5 = .ok (.iload_n 1, 1) := dgq (p := 5) daX9_planets_0 dbX9_planets_0.2.2.2.1
theorem dX9_planets_6 : decode cX9_planets 6 = .ok (.iconst 1, 1) := dgq (p := 6) daX9_planets_0 dbX9_planets_0.2.2.2.2.1
theorem dX9_planets_7 : decode cX9_planets 7 = .ok (.iadd, 1) := dgq (p := 7) daX9_planets_0 dbX9_planets_0.2.2.2.2.2.1
theorem dX9_planets_8 : decode cX9_planets 8 = .ok (.sipush 600, 3) := dgq (p := 8) daX9_planets_0 dbX9_planets_0.2.2.2.2.2.2.1
theorem dX9_planets_11 : decode cX9_planets 11 = .ok (.invokestatic 59, 3) := dgq (p := 11) daX9_planets_0 dbX9_planets_0.2.2.2.2.2.2.2.1
theorem dX9_planets_14 : decode cX9_planets 14 = .ok (.iload_n 3, 1) := dgq (p := 14) daX9_planets_0 dbX9_planets_0.2.2.2.2.2.2.2.2.1
theorem dX9_planets_15 : decode cX9_planets 15 = .ok (.iconst 3, 1) := dgq (p := 15) daX9_planets_0 dbX9_planets_0.2.2.2.2.2.2.2.2.2
def dsX9_planets_16 : ByteArray := ⟨#[16, 6, 184, 0, 59, 27, 28, 29, 184, 0, 209, 172]⟩
theorem daX9_planets_16 : agB cX9_planets dsX9_planets_16 16 := agB_of (n := 12) (by decide +kernel)
theorem dbX9_planets_16 : (decode dsX9_planets_16 0 = .ok (.bipush 6, 2) ∧ okop dsX9_planets_16 0 = true) ∧ (decode dsX9_planets_16 2 = .ok (.invokestatic 59, 3) ∧ okop dsX9_planets_16 2 = true) ∧ (decode dsX9_planets_16 5 = .ok (.iload_n 1, 1) ∧ okop dsX9_planets_16 5 = true) ∧ (decode dsX9_planets_16 6 = .ok (.iload_n 2, 1) ∧ okop dsX9_planets_16 6 = true) ∧ (decode dsX9_planets_16 7 = .ok (.iload_n 3, 1) ∧ okop dsX9_planets_16 7 = true) ∧ (decode dsX9_planets_16 8 = .ok (.invokestatic 209, 3) ∧ okop dsX9_planets_16 8 = true) ∧ (decode dsX9_planets_16 11 = .ok (.ireturn, 1) ∧ okop dsX9_planets_16 11 = true) := by decide +kernel
theorem dX9_planets_16 : decode cX9_planets 16 = .ok (.bipush 6, 2) := dgq (p := 0) daX9_planets_16 dbX9_planets_16.1
theorem dX9_planets_18 : decode cX9_planets 18 = .ok (.invokestatic 59, 3) := dgq (p := 2) daX9_planets_16 dbX9_planets_16.2.1
theorem dX9_planets_21 : decode cX9_planets 21 = .ok (.iload_n 1, 1) := dgq (p := 5) daX9_planets_16 dbX9_planets_16.2.2.1
theorem dX9_planets_22 : decode cX9_planets 22 = .ok (.iload_n 2, 1) := dgq (p := 6) daX9_planets_16 dbX9_planets_16.2.2.2.1
theorem dX9_planets_23 : decode cX9_planets 23 = .ok (.iload_n 3, 1) := dgq (p := 7) daX9_planets_16 dbX9_planets_16.2.2.2.2.1
theorem dX9_planets_24 : decode cX9_planets 24 = .ok (.invokestatic 209, 3) := dgq (p := 8) daX9_planets_16 dbX9_planets_16.2.2.2.2.2.1
theorem dX9_planets_27 : decode cX9_planets 27 = .ok (.ireturn, 1) := dgq (p := 11) daX9_planets_16 dbX9_planets_16.2.2.2.2.2.2
set_option maxRecDepth 20000 in
theorem ggX9_rings_X9_needTeeth : GoodIn wsX9_rings wsX9_needTeeth := goodIn_ca (goodIn_q _ [4, 5, 6, 3, 7, 8, 9] rfl (by decide +kernel)) (goodIn_sub (fun _ h => List.mem_cons_of_mem _ (List.mem_append_left _ (List.mem_append_left _ (List.mem_append_right _ h)))) (by decide +kernel))
set_option maxRecDepth 20000 in
theorem gX9_rings_X9_needTeeth : GoodIn wsX9_rings (va_wsS RX9 55 yX9_needTeeth wsX9_needTeeth) := goodIn_app (goodIn_q _ [1, 2, 3] rfl (by decide +kernel)) ggX9_rings_X9_needTeeth
set_option maxRecDepth 20000 in
theorem ggX9_rings_X9_needRange : GoodIn wsX9_rings wsX9_needRange := goodIn_ca (goodIn_q _ [7, 8, 9] rfl (by decide +kernel)) (goodIn_sub (fun _ h => List.mem_cons_of_mem _ (List.mem_append_left _ (List.mem_append_left _ (List.mem_append_right _ h)))) (by decide +kernel))
set_option maxRecDepth 20000 in
theorem gX9_rings_X9_needRange : GoodIn wsX9_rings (va_wsS RX9 59 yX9_needRange wsX9_needRange) := goodIn_app (goodIn_q _ [5, 6, 3] rfl (by decide +kernel)) ggX9_rings_X9_needRange
set_option maxRecDepth 20000 in
theorem ggX9_rings_X9_planetSign : GoodIn wsX9_rings wsX9_planetSign := goodIn_ca (goodIn_ca (goodIn_q _ [12, 13] rfl (by decide +kernel)) (goodIn_sub (fun _ h => List.mem_cons_of_mem _ (List.mem_append_left _ (List.mem_append_right _ h))) (by decide +kernel))) (goodIn_sub (fun _ h => List.mem_cons_of_mem _ (List.mem_append_right _ h)) (by decide +kernel))
set_option maxRecDepth 20000 in
theorem gX9_rings_X9_planetSign : GoodIn wsX9_rings (va_wsS RX9 209 yX9_planetSign wsX9_planetSign) := goodIn_app (goodIn_q _ [10, 11, 3] rfl (by decide +kernel)) ggX9_rings_X9_planetSign
def dsX9_rings_0 : ByteArray := ⟨#[27, 184, 0, 55, 28, 6, 16, 6, 184, 0, 59, 29, 17, 0, 200, 17, 39, 15, 184, 0, 59]⟩
theorem daX9_rings_0 : agB cX9_rings dsX9_rings_0 0 := agB_of (n := 21) (by decide +kernel)
theorem dbX9_rings_0 : (decode dsX9_rings_0 0 = .ok (.iload_n 1, 1) ∧ okop dsX9_rings_0 0 = true) ∧ (decode dsX9_rings_0 1 = .ok (.invokestatic 55, 3) ∧ okop dsX9_rings_0 1 = true) ∧ (decode dsX9_rings_0 4 = .ok (.iload_n 2, 1) ∧ okop dsX9_rings_0 4 = true) ∧ (decode dsX9_rings_0 5 = .ok (.iconst 3, 1) ∧ okop dsX9_rings_0 5 = true) ∧ (decode dsX9_rings_0 6 = .ok (.bipush 6, 2) ∧ okop dsX9_rings_0 6 = true) ∧ (decode dsX9_rings_0 8 = .ok (.invokestatic 59, 3) ∧ okop dsX9_rings_0 8 = true) ∧ (decode dsX9_rings_0 11 = .ok (.iload_n 3, 1) ∧ okop dsX9_rings_0 11 = true) ∧ (decode dsX9_rings_0 12 = .ok (.sipush 200, 3) ∧ okop dsX9_rings_0 12 = true) ∧ (decode dsX9_rings_0 15 = .ok (.sipush 9999, 3) ∧ okop dsX9_rings_0 15 = true) ∧ (decode dsX9_rings_0 18 = .ok (.invokestatic 59, 3) ∧ okop dsX9_rings_0 18 = true) := by decide +kernel
theorem dX9_rings_0 : decode cX9_rings 0 = .ok (.iload_n 1, 1) := dgq (p := 0) daX9_rings_0 dbX9_rings_0.1
theorem dX9_rings_1 : decode cX9_rings 1 = .ok (.invokestatic 55, 3) := dgq (p := 1) daX9_rings_0 dbX9_rings_0.2.1
theorem dX9_rings_4 : decode cX9_rings 4 = .ok (.iload_n 2, 1) := dgq (p := 4) daX9_rings_0 dbX9_rings_0.2.2.1
theorem dX9_rings_5 : decode cX9_rings 5 = .ok (.iconst 3, 1) := dgq (p := 5) daX9_rings_0 dbX9_rings_0.2.2.2.1
theorem dX9_rings_6 : decode cX9_rings 6 = .ok (.bipush 6, 2) := dgq (p := 6) daX9_rings_0 dbX9_rings_0.2.2.2.2.1
theorem dX9_rings_8 : decode cX9_rings 8 = .ok (.invokestatic 59, 3) := dgq (p := 8) daX9_rings_0 dbX9_rings_0.2.2.2.2.2.1
theorem dX9_rings_11 : decode cX9_rings 11 = .ok (.iload_n 3, 1) := dgq (p := 11) daX9_rings_0 dbX9_rings_0.2.2.2.2.2.2.1
theorem dX9_rings_12 : decode cX9_rings 12 = .ok (.sipush 200, 3) := dgq (p := 12) daX9_rings_0 dbX9_rings_0.2.2.2.2.2.2.2.1
theorem dX9_rings_15 : decode cX9_rings 15 = .ok (.sipush 9999, 3) := dgq (p := 15) daX9_rings_0 dbX9_rings_0.2.2.2.2.2.2.2.2.1
theorem dX9_rings_18 : decode cX9_rings 18 = .ok (.invokestatic 59, 3) := dgq (p := 18) daX9_rings_0 dbX9_rings_0.2.2.2.2.2.2.2.2.2
def dsX9_rings_21 : ByteArray := ⟨#[21, 4, 17, 0, 200, 17, 39, 15, 184, 0, 59, 3, 54, 5, 27, 4, 96, 54, 6]⟩
theorem daX9_rings_21 : agB cX9_rings dsX9_rings_21 21 := agB_of (n := 19) (by decide +kernel)
theorem dbX9_rings_21 : (decode dsX9_rings_21 0 = .ok (.iload 4, 2) ∧ okop dsX9_rings_21 0 = true) ∧ (decode dsX9_rings_21 2 = .ok (.sipush 200, 3) ∧ okop dsX9_rings_21 2 = true) ∧ (decode dsX9_rings_21 5 = .ok (.sipush 9999, 3) ∧ okop dsX9_rings_21 5 = true) ∧ (decode dsX9_rings_21 8 = .ok (.invokestatic 59, 3) ∧ okop dsX9_rings_21 8 = true) ∧ (decode dsX9_rings_21 11 = .ok (.iconst 0, 1) ∧ okop dsX9_rings_21 11 = true) ∧ (decode dsX9_rings_21 12 = .ok (.istore 5, 2) ∧ okop dsX9_rings_21 12 = true) ∧ (decode dsX9_rings_21 14 = .ok (.iload_n 1, 1) ∧ okop dsX9_rings_21 14 = true) ∧ (decode dsX9_rings_21 15 = .ok (.iconst 1, 1) ∧ okop dsX9_rings_21 15 = true) ∧ (decode dsX9_rings_21 16 = .ok (.iadd, 1) ∧ okop dsX9_rings_21 16 = true) ∧ (decode dsX9_rings_21 17 = .ok (.istore 6, 2) ∧ okop dsX9_rings_21 17 = true) := by decide +kernel
theorem dX9_rings_21 : decode cX9_rings 21 = .ok (.iload 4, 2) := dgq (p := 0) daX9_rings_21 dbX9_rings_21.1
theorem dX9_rings_23 : decode cX9_rings 23 = .ok (.sipush 200, 3) := dgq (p := 2) daX9_rings_21 dbX9_rings_21.2.1
theorem dX9_rings_26 : decode cX9_rings 26 = .ok (.sipush 9999, 3) := dgq (p := 5) daX9_rings_21 dbX9_rings_21.2.2.1
theorem dX9_rings_29 : decode cX9_rings 29 = .ok (.invokestatic 59, 3) := dgq (p := 8) daX9_rings_21 dbX9_rings_21.2.2.2.1
theorem dX9_rings_32 : decode cX9_rings 32 = .ok (.iconst 0, 1) := dgq (p := 11) daX9_rings_21 dbX9_rings_21.2.2.2.2.1
theorem dX9_rings_33 : decode cX9_rings 33 = .ok (.istore 5, 2) := dgq (p := 12) daX9_rings_21 dbX9_rings_21.2.2.2.2.2.1
theorem dX9_rings_35 : decode cX9_rings 35 = .ok (.iload_n 1, 1) := dgq (p := 14) daX9_rings_21 dbX9_rings_21.2.2.2.2.2.2.1
theorem dX9_rings_36 : decode cX9_rings 36 = .ok (.iconst 1, 1) := dgq (p := 15) daX9_rings_21 dbX9_rings_21.2.2.2.2.2.2.2.1
theorem dX9_rings_37 : decode cX9_rings 37 = .ok (.iadd, 1) := dgq (p := 16) daX9_rings_21 dbX9_rings_21.2.2.2.2.2.2.2.2.1
theorem dX9_rings_38 : decode cX9_rings 38 = .ok (.istore 6, 2) := dgq (p := 17) daX9_rings_21 dbX9_rings_21.2.2.2.2.2.2.2.2.2
def dsX9_rings_40 : ByteArray := ⟨#[21, 6, 17, 2, 88, 163, 0, 62, 16, 100, 27, 21, 6, 96, 104, 54, 7, 21, 7]⟩
theorem daX9_rings_40 : agB cX9_rings dsX9_rings_40 40 := agB_of (n := 19) (by decide +kernel)
theorem dbX9_rings_40 : (decode dsX9_rings_40 0 = .ok (.iload 6, 2) ∧ okop dsX9_rings_40 0 = true) ∧ (decode dsX9_rings_40 2 = .ok (.sipush 600, 3) ∧ okop dsX9_rings_40 2 = true) ∧ (decode dsX9_rings_40 5 = .ok (.if_icmp .gt 62, 3) ∧ okop dsX9_rings_40 5 = true) ∧ (decode dsX9_rings_40 8 = .ok (.bipush 100, 2) ∧ okop dsX9_rings_40 8 = true) ∧ (decode dsX9_rings_40 10 = .ok (.iload_n 1, 1) ∧ okop dsX9_rings_40 10 = true) ∧ (decode dsX9_rings_40 11 = .ok (.iload 6, 2) ∧ okop dsX9_rings_40 11 = true) ∧ (decode dsX9_rings_40 13 = .ok (.iadd, 1) ∧ okop dsX9_rings_40 13 = true) ∧ (decode dsX9_rings_40 14 = .ok (.imul, 1) ∧ okop dsX9_rings_40 14 = true) ∧ (decode dsX9_rings_40 15 = .ok (.istore 7, 2) ∧ okop dsX9_rings_40 15 = true) ∧ (decode dsX9_rings_40 17 = .ok (.iload 7, 2) ∧ okop dsX9_rings_40 17 = true) := by decide +kernel
theorem dX9_rings_40 : decode cX9_rings 40 = .ok (.iload 6, 2) := dgq (p := 0) daX9_rings_40 dbX9_rings_40.1
theorem dX9_rings_42 : decode cX9_rings 42 = .ok (.sipush 600, 3) := dgq (p := 2) daX9_rings_40 dbX9_rings_40.2.1
theorem dX9_rings_45 : decode cX9_rings 45 = .ok (.if_icmp .gt 62, 3) := dgq (p := 5) daX9_rings_40 dbX9_rings_40.2.2.1
theorem dX9_rings_48 : decode cX9_rings 48 = .ok (.bipush 100, 2) := dgq (p := 8) daX9_rings_40 dbX9_rings_40.2.2.2.1
theorem dX9_rings_50 : decode cX9_rings 50 = .ok (.iload_n 1, 1) := dgq (p := 10) daX9_rings_40 dbX9_rings_40.2.2.2.2.1
theorem dX9_rings_51 : decode cX9_rings 51 = .ok (.iload 6, 2) := dgq (p := 11) daX9_rings_40 dbX9_rings_40.2.2.2.2.2.1
theorem dX9_rings_53 : decode cX9_rings 53 = .ok (.iadd, 1) := dgq (p := 13) daX9_rings_40 dbX9_rings_40.2.2.2.2.2.2.1
theorem dX9_rings_54 : decode cX9_rings 54 = .ok (.imul, 1) := dgq (p := 14) daX9_rings_40 dbX9_rings_40.2.2.2.2.2.2.2.1
theorem dX9_rings_55 : decode cX9_rings 55 = .ok (.istore 7, 2) := dgq (p := 15) daX9_rings_40 dbX9_rings_40.2.2.2.2.2.2.2.2.1
theorem dX9_rings_57 : decode cX9_rings 57 = .ok (.iload 7, 2) := dgq (p := 17) daX9_rings_40 dbX9_rings_40.2.2.2.2.2.2.2.2.2
def dsX9_rings_59 : ByteArray := ⟨#[29, 27, 104, 161, 0, 16, 21, 7, 21, 4, 27, 104, 163, 0, 7, 4]⟩
theorem daX9_rings_59 : agB cX9_rings dsX9_rings_59 59 := agB_of (n := 16) (by decide +kernel)
theorem dbX9_rings_59 : (decode dsX9_rings_59 0 = .ok (.iload_n 3, 1) ∧ okop dsX9_rings_59 0 = true) ∧ (decode dsX9_rings_59 1 = .ok (.iload_n 1, 1) ∧ okop dsX9_rings_59 1 = true) ∧ (decode dsX9_rings_59 2 = .ok (.imul, 1) ∧ okop dsX9_rings_59 2 = true) ∧ (decode dsX9_rings_59 3 = .ok (.if_icmp .lt 16, 3) ∧ okop dsX9_rings_59 3 = true) ∧ (decode dsX9_rings_59 6 = .ok (.iload 7, 2) ∧ okop dsX9_rings_59 6 = true) ∧ (decode dsX9_rings_59 8 = .ok (.iload 4, 2) ∧ okop dsX9_rings_59 8 = true) ∧ (decode dsX9_rings_59 10 = .ok (.iload_n 1, 1) ∧ okop dsX9_rings_59 10 = true) ∧ (decode dsX9_rings_59 11 = .ok (.imul, 1) ∧ okop dsX9_rings_59 11 = true) ∧ (decode dsX9_rings_59 12 = .ok (.if_icmp .gt 7, 3) ∧ okop dsX9_rings_59 12 = true) ∧ (decode dsX9_rings_59 15 = .ok (.iconst 1, 1) ∧ okop dsX9_rings_59 15 = true) := by decide +kernel
theorem dX9_rings_59 : decode cX9_rings 59 = .ok (.iload_n 3, 1) := dgq (p := 0) daX9_rings_59 dbX9_rings_59.1
theorem dX9_rings_60 : decode cX9_rings 60 = .ok (.iload_n 1, 1) := dgq (p := 1) daX9_rings_59 dbX9_rings_59.2.1
theorem dX9_rings_61 : decode cX9_rings 61 = .ok (.imul, 1) := dgq (p := 2) daX9_rings_59 dbX9_rings_59.2.2.1
theorem dX9_rings_62 : decode cX9_rings 62 = .ok (.if_icmp .lt 16, 3) := dgq (p := 3) daX9_rings_59 dbX9_rings_59.2.2.2.1
theorem dX9_rings_65 : decode cX9_rings 65 = .ok (.iload 7, 2) := dgq (p := 6) daX9_rings_59 dbX9_rings_59.2.2.2.2.1
theorem dX9_rings_67 : decode cX9_rings 67 = .ok (.iload 4, 2) := dgq (p := 8) daX9_rings_59 dbX9_rings_59.2.2.2.2.2.1
theorem dX9_rings_69 : decode cX9_rings 69 = .ok (.iload_n 1, 1) := dgq (p := 10) daX9_rings_59 dbX9_rings_59.2.2.2.2.2.2.1
theorem dX9_rings_70 : decode cX9_rings 70 = .ok (.imul, 1) := dgq (p := 11) daX9_rings_59 dbX9_rings_59.2.2.2.2.2.2.2.1
theorem dX9_rings_71 : decode cX9_rings 71 = .ok (.if_icmp .gt 7, 3) := dgq (p := 12) daX9_rings_59 dbX9_rings_59.2.2.2.2.2.2.2.2.1
theorem dX9_rings_74 : decode cX9_rings 74 = .ok (.iconst 1, 1) := dgq (p := 15) daX9_rings_59 dbX9_rings_59.2.2.2.2.2.2.2.2.2
def dsX9_rings_75 : ByteArray := ⟨#[167, 0, 4, 3, 54, 8, 21, 8, 153, 0, 18, 27, 21, 6, 28, 184, 0, 209, 16, 103]⟩
theorem daX9_rings_75 : agB cX9_rings dsX9_rings_75 75 := agB_of (n := 20) (by decide +kernel)
theorem dbX9_rings_75 : (decode dsX9_rings_75 0 = .ok (.goto 4, 3) ∧ okop dsX9_rings_75 0 = true) ∧ (decode dsX9_rings_75 3 = .ok (.iconst 0, 1) ∧ okop dsX9_rings_75 3 = true) ∧ (decode dsX9_rings_75 4 = .ok (.istore 8, 2) ∧ okop dsX9_rings_75 4 = true) ∧ (decode dsX9_rings_75 6 = .ok (.iload 8, 2) ∧ okop dsX9_rings_75 6 = true) ∧ (decode dsX9_rings_75 8 = .ok (.ifCond .eq 18, 3) ∧ okop dsX9_rings_75 8 = true) ∧ (decode dsX9_rings_75 11 = .ok (.iload_n 1, 1) ∧ okop dsX9_rings_75 11 = true) ∧ (decode dsX9_rings_75 12 = .ok (.iload 6, 2) ∧ okop dsX9_rings_75 12 = true) ∧ (decode dsX9_rings_75 14 = .ok (.iload_n 2, 1) ∧ okop dsX9_rings_75 14 = true) ∧ (decode dsX9_rings_75 15 = .ok (.invokestatic 209, 3) ∧ okop dsX9_rings_75 15 = true) ∧ (decode dsX9_rings_75 18 = .ok (.bipush 103, 2) ∧ okop dsX9_rings_75 18 = true) := by decide +kernel
theorem dX9_rings_75 : decode cX9_rings 75 = .ok (.goto 4, 3) := dgq (p := 0) daX9_rings_75 dbX9_rings_75.1
theorem dX9_rings_78 : decode cX9_rings 78 = .ok (.iconst 0, 1) := dgq (p := 3) daX9_rings_75 dbX9_rings_75.2.1
theorem dX9_rings_79 : decode cX9_rings 79 = .ok (.istore 8, 2) := dgq (p := 4) daX9_rings_75 dbX9_rings_75.2.2.1
theorem dX9_rings_81 : decode cX9_rings 81 = .ok (.iload 8, 2) := dgq (p := 6) daX9_rings_75 dbX9_rings_75.2.2.2.1
theorem dX9_rings_83 : decode cX9_rings 83 = .ok (.ifCond .eq 18, 3) := dgq (p := 8) daX9_rings_75 dbX9_rings_75.2.2.2.2.1
theorem dX9_rings_86 : decode cX9_rings 86 = .ok (.iload_n 1, 1) := dgq (p := 11) daX9_rings_75 dbX9_rings_75.2.2.2.2.2.1
theorem dX9_rings_87 : decode cX9_rings 87 = .ok (.iload 6, 2) := dgq (p := 12) daX9_rings_75 dbX9_rings_75.2.2.2.2.2.2.1
theorem dX9_rings_89 : decode cX9_rings 89 = .ok (.iload_n 2, 1) := dgq (p := 14) daX9_rings_75 dbX9_rings_75.2.2.2.2.2.2.2.1
theorem dX9_rings_90 : decode cX9_rings 90 = .ok (.invokestatic 209, 3) := dgq (p := 15) daX9_rings_75 dbX9_rings_75.2.2.2.2.2.2.2.2.1
theorem dX9_rings_93 : decode cX9_rings 93 = .ok (.bipush 103, 2) := dgq (p := 18) daX9_rings_75 dbX9_rings_75.2.2.2.2.2.2.2.2.2
def dsX9_rings_95 : ByteArray := ⟨#[160, 0, 6, 132, 5, 1, 132, 6, 1, 167, 255, 192, 21, 5, 172]⟩
theorem daX9_rings_95 : agB cX9_rings dsX9_rings_95 95 := agB_of (n := 15) (by decide +kernel)
theorem dbX9_rings_95 : (decode dsX9_rings_95 0 = .ok (.if_icmp .ne 6, 3) ∧ okop dsX9_rings_95 0 = true) ∧ (decode dsX9_rings_95 3 = .ok (.iinc 5 1, 3) ∧ okop dsX9_rings_95 3 = true) ∧ (decode dsX9_rings_95 6 = .ok (.iinc 6 1, 3) ∧ okop dsX9_rings_95 6 = true) ∧ (decode dsX9_rings_95 9 = .ok (.goto (-64), 3) ∧ okop dsX9_rings_95 9 = true) ∧ (decode dsX9_rings_95 12 = .ok (.iload 5, 2) ∧ okop dsX9_rings_95 12 = true) ∧ (decode dsX9_rings_95 14 = .ok (.ireturn, 1) ∧ okop dsX9_rings_95 14 = true) := by decide +kernel
theorem dX9_rings_95 : decode cX9_rings 95 = .ok (.if_icmp .ne 6, 3) := dgq (p := 0) daX9_rings_95 dbX9_rings_95.1
theorem dX9_rings_98 : decode cX9_rings 98 = .ok (.iinc 5 1, 3) := dgq (p := 3) daX9_rings_95 dbX9_rings_95.2.1
theorem dX9_rings_101 : decode cX9_rings 101 = .ok (.iinc 6 1, 3) := dgq (p := 6) daX9_rings_95 dbX9_rings_95.2.2.1
theorem dX9_rings_104 : decode cX9_rings 104 = .ok (.goto (-64), 3) := dgq (p := 9) daX9_rings_95 dbX9_rings_95.2.2.2.1
theorem dX9_rings_107 : decode cX9_rings 107 = .ok (.iload 5, 2) := dgq (p := 12) daX9_rings_95 dbX9_rings_95.2.2.2.2.1
theorem dX9_rings_109 : decode cX9_rings 109 = .ok (.ireturn, 1) := dgq (p := 14) daX9_rings_95 dbX9_rings_95.2.2.2.2.2
set_option maxRecDepth 20000 in
theorem ggX9_bestTrain_X9_needRatio : GoodIn wsX9_bestTrain wsX9_needRatio := goodIn_ca (goodIn_q _ [7, 8, 9, 6, 10, 11, 12] rfl (by decide +kernel)) (goodIn_sub (fun _ h => List.mem_cons_of_mem _ (List.mem_append_left _ (List.mem_append_right _ h))) (by decide +kernel))
set_option maxRecDepth 20000 in
theorem gX9_bestTrain_X9_needRatio : GoodIn wsX9_bestTrain (va_wsS RX9 213 yX9_needRatio wsX9_needRatio) := goodIn_app (goodIn_q _ [4, 5, 6] rfl (by decide +kernel)) ggX9_bestTrain_X9_needRatio
set_option maxRecDepth 20000 in
theorem ggX9_bestTrain_X9_needRange : GoodIn wsX9_bestTrain wsX9_needRange := goodIn_ca (goodIn_q _ [10, 11, 12] rfl (by decide +kernel)) (goodIn_sub (fun _ h => List.mem_cons_of_mem _ (List.mem_append_left _ (List.mem_append_right _ h))) (by decide +kernel))
set_option maxRecDepth 20000 in
theorem gX9_bestTrain_X9_needRange : GoodIn wsX9_bestTrain (va_wsS RX9 59 yX9_needRange wsX9_needRange) := goodIn_app (goodIn_q _ [8, 9, 6] rfl (by decide +kernel)) ggX9_bestTrain_X9_needRange
set_option maxRecDepth 20000 in
theorem ggX9_bestTrain_X8_init : GoodIn wsX9_bestTrain wsX8_init := goodIn_ca (goodIn_q _ [15, 16, 17, 18, 19, 20] rfl (by decide +kernel)) (goodIn_sub (fun _ h => (List.mem_cons_of_mem _ (List.mem_append_left _ (List.mem_append_left _ (List.mem_append_right _ h))))) tg_wsX80)
set_option maxRecDepth 20000 in
theorem gX9_bestTrain_X8_init : GoodIn wsX9_bestTrain (wsX8_init) := ggX9_bestTrain_X8_init
set_option maxRecDepth 20000 in
theorem ggX9_bestTrain_X8_search : GoodIn wsX9_bestTrain wsX8_search := goodIn_ca (goodIn_ca (goodIn_q _ [24, 20, 19, 25, 26, 27, 28, 29, 30, 31, 32, 33, 34, 35, 36, 37, 3, 38, 39, 40, 41, 42, 43, 44, 45, 46, 47, 48, 49, 6, 50, 51, 52, 53] rfl (by decide +kernel)) (goodIn_sub (fun _ h => (List.mem_cons_of_mem _ (List.mem_append_left _ (List.mem_append_left _ (List.mem_append_right _ h))))) tg_wsX80)) (goodIn_sub (fun _ h => List.mem_cons_of_mem _ (List.mem_append_right _ h)) (by decide +kernel))
set_option maxRecDepth 20000 in
theorem gX9_bestTrain_X8_search : GoodIn wsX9_bestTrain (wsV RX9 219 RX8 yX8_search wsX8_search) := goodIn_app (goodIn_q _ [21, 22, 23, 3] rfl (by decide +kernel)) ggX9_bestTrain_X8_search
def dsX9_bestTrain_0 : ByteArray := ⟨#[26, 27, 184, 0, 213, 28, 16, 6, 17, 0, 200, 184, 0, 59, 29, 28, 17, 0, 200]⟩
theorem daX9_bestTrain_0 : agB cX9_bestTrain dsX9_bestTrain_0 0 := agB_of (n := 19) (by decide +kernel)
theorem dbX9_bestTrain_0 : (decode dsX9_bestTrain_0 0 = .ok (.iload_n 0, 1) ∧ okop dsX9_bestTrain_0 0 = true) ∧ (decode dsX9_bestTrain_0 1 = .ok (.iload_n 1, 1) ∧ okop dsX9_bestTrain_0 1 = true) ∧ (decode dsX9_bestTrain_0 2 = .ok (.invokestatic 213, 3) ∧ okop dsX9_bestTrain_0 2 = true) ∧ (decode dsX9_bestTrain_0 5 = .ok (.iload_n 2, 1) ∧ okop dsX9_bestTrain_0 5 = true) ∧ (decode dsX9_bestTrain_0 6 = .ok (.bipush 6, 2) ∧ okop dsX9_bestTrain_0 6 = true) ∧ (decode dsX9_bestTrain_0 8 = .ok (.sipush 200, 3) ∧ okop dsX9_bestTrain_0 8 = true) ∧ (decode dsX9_bestTrain_0 11 = .ok (.invokestatic 59, 3) ∧ okop dsX9_bestTrain_0 11 = true) ∧ (decode dsX9_bestTrain_0 14 = .ok (.iload_n 3, 1) ∧ okop dsX9_bestTrain_0 14 = true) ∧ (decode dsX9_bestTrain_0 15 = .ok (.iload_n 2, 1) ∧ okop dsX9_bestTrain_0 15 = true) ∧ (decode dsX9_bestTrain_0 16 = .ok (.sipush 200, 3) ∧ okop dsX9_bestTrain_0 16 = true) := by decide +kernel
theorem dX9_bestTrain_0 : decode cX9_bestTrain 0 = .ok (.iload_n 0, 1) := dgq (p := 0) daX9_bestTrain_0 dbX9_bestTrain_0.1
theorem dX9_bestTrain_1 : decode cX9_bestTrain 1 = .ok (.iload_n 1, 1) := dgq (p := 1) daX9_bestTrain_0 dbX9_bestTrain_0.2.1
theorem dX9_bestTrain_2 : decode cX9_bestTrain 2 = .ok (.invokestatic 213, 3) := dgq (p := 2) daX9_bestTrain_0 dbX9_bestTrain_0.2.2.1
theorem dX9_bestTrain_5 : decode cX9_bestTrain 5 = .ok (.iload_n 2, 1) := dgq (p := 5) daX9_bestTrain_0 dbX9_bestTrain_0.2.2.2.1
theorem dX9_bestTrain_6 : decode cX9_bestTrain 6 = .ok (.bipush 6, 2) := dgq (p := 6) daX9_bestTrain_0 dbX9_bestTrain_0.2.2.2.2.1
theorem dX9_bestTrain_8 : decode cX9_bestTrain 8 = .ok (.sipush 200, 3) := dgq (p := 8) daX9_bestTrain_0 dbX9_bestTrain_0.2.2.2.2.2.1
theorem dX9_bestTrain_11 : decode cX9_bestTrain 11 = .ok (.invokestatic 59, 3) := dgq (p := 11) daX9_bestTrain_0 dbX9_bestTrain_0.2.2.2.2.2.2.1
theorem dX9_bestTrain_14 : decode cX9_bestTrain 14 = .ok (.iload_n 3, 1) := dgq (p := 14) daX9_bestTrain_0 dbX9_bestTrain_0.2.2.2.2.2.2.2.1
theorem dX9_bestTrain_15 : decode cX9_bestTrain 15 = .ok (.iload_n 2, 1) := dgq (p := 15) daX9_bestTrain_0 dbX9_bestTrain_0.2.2.2.2.2.2.2.2.1
theorem dX9_bestTrain_16 : decode cX9_bestTrain 16 = .ok (.sipush 200, 3) := dgq (p := 16) daX9_bestTrain_0 dbX9_bestTrain_0.2.2.2.2.2.2.2.2.2
def dsX9_bestTrain_19 : ByteArray := ⟨#[184, 0, 59, 187, 0, 202, 89, 26, 27, 183, 0, 217, 58, 4, 25, 4, 28, 29]⟩
theorem daX9_bestTrain_19 : agB cX9_bestTrain dsX9_bestTrain_19 19 := agB_of (n := 18) (by decide +kernel)
theorem dbX9_bestTrain_19 : (decode dsX9_bestTrain_19 0 = .ok (.invokestatic 59, 3) ∧ okop dsX9_bestTrain_19 0 = true) ∧ (decode dsX9_bestTrain_19 3 = .ok (.new 202, 3) ∧ okop dsX9_bestTrain_19 3 = true) ∧ (decode dsX9_bestTrain_19 6 = .ok (.dup, 1) ∧ okop dsX9_bestTrain_19 6 = true) ∧ (decode dsX9_bestTrain_19 7 = .ok (.iload_n 0, 1) ∧ okop dsX9_bestTrain_19 7 = true) ∧ (decode dsX9_bestTrain_19 8 = .ok (.iload_n 1, 1) ∧ okop dsX9_bestTrain_19 8 = true) ∧ (decode dsX9_bestTrain_19 9 = .ok (.invokespecial 217, 3) ∧ okop dsX9_bestTrain_19 9 = true) ∧ (decode dsX9_bestTrain_19 12 = .ok (.astore 4, 2) ∧ okop dsX9_bestTrain_19 12 = true) ∧ (decode dsX9_bestTrain_19 14 = .ok (.aload 4, 2) ∧ okop dsX9_bestTrain_19 14 = true) ∧ (decode dsX9_bestTrain_19 16 = .ok (.iload_n 2, 1) ∧ okop dsX9_bestTrain_19 16 = true) ∧ (decode dsX9_bestTrain_19 17 = .ok (.iload_n 3, 1) ∧ okop dsX9_bestTrain_19 17 = true) := by decide +kernel
theorem dX9_bestTrain_19 : decode cX9_bestTrain 19 = .ok (.invokestatic 59, 3) := dgq (p := 0) daX9_bestTrain_19 dbX9_bestTrain_19.1
theorem dX9_bestTrain_22 : decode cX9_bestTrain 22 = .ok (.new 202, 3) := dgq (p := 3) daX9_bestTrain_19 dbX9_bestTrain_19.2.1
theorem dX9_bestTrain_25 : decode cX9_bestTrain 25 = .ok (.dup, 1) := dgq (p := 6) daX9_bestTrain_19 dbX9_bestTrain_19.2.2.1
theorem dX9_bestTrain_26 : decode cX9_bestTrain 26 = .ok (.iload_n 0, 1) := dgq (p := 7) daX9_bestTrain_19 dbX9_bestTrain_19.2.2.2.1
theorem dX9_bestTrain_27 : decode cX9_bestTrain 27 = .ok (.iload_n 1, 1) := dgq (p := 8) daX9_bestTrain_19 dbX9_bestTrain_19.2.2.2.2.1
theorem dX9_bestTrain_28 : decode cX9_bestTrain 28 = .ok (.invokespecial 217, 3) := dgq (p := 9) daX9_bestTrain_19 dbX9_bestTrain_19.2.2.2.2.2.1
theorem dX9_bestTrain_31 : decode cX9_bestTrain 31 = .ok (.astore 4, 2) := dgq (p := 12) daX9_bestTrain_19 dbX9_bestTrain_19.2.2.2.2.2.2.1
theorem dX9_bestTrain_33 : decode cX9_bestTrain 33 = .ok (.aload 4, 2) := dgq (p := 14) daX9_bestTrain_19 dbX9_bestTrain_19.2.2.2.2.2.2.2.1
theorem dX9_bestTrain_35 : decode cX9_bestTrain 35 = .ok (.iload_n 2, 1) := dgq (p := 16) daX9_bestTrain_19 dbX9_bestTrain_19.2.2.2.2.2.2.2.2.1
theorem dX9_bestTrain_36 : decode cX9_bestTrain 36 = .ok (.iload_n 3, 1) := dgq (p := 17) daX9_bestTrain_19 dbX9_bestTrain_19.2.2.2.2.2.2.2.2.2
def dsX9_bestTrain_37 : ByteArray := ⟨#[182, 0, 219, 25, 4, 176]⟩
theorem daX9_bestTrain_37 : agB cX9_bestTrain dsX9_bestTrain_37 37 := agB_of (n := 6) (by decide +kernel)
theorem dbX9_bestTrain_37 : (decode dsX9_bestTrain_37 0 = .ok (.invokevirtual 219, 3) ∧ okop dsX9_bestTrain_37 0 = true) ∧ (decode dsX9_bestTrain_37 3 = .ok (.aload 4, 2) ∧ okop dsX9_bestTrain_37 3 = true) ∧ (decode dsX9_bestTrain_37 5 = .ok (.areturn, 1) ∧ okop dsX9_bestTrain_37 5 = true) := by decide +kernel
theorem dX9_bestTrain_37 : decode cX9_bestTrain 37 = .ok (.invokevirtual 219, 3) := dgq (p := 0) daX9_bestTrain_37 dbX9_bestTrain_37.1
theorem dX9_bestTrain_40 : decode cX9_bestTrain 40 = .ok (.aload 4, 2) := dgq (p := 3) daX9_bestTrain_37 dbX9_bestTrain_37.2.1
theorem dX9_bestTrain_42 : decode cX9_bestTrain 42 = .ok (.areturn, 1) := dgq (p := 5) daX9_bestTrain_37 dbX9_bestTrain_37.2.2
def dsX9_planetSign_0 : ByteArray := ⟨#[27, 26, 100, 5, 108, 62, 27, 26, 100, 5]⟩
theorem daX9_planetSign_0 : agB cX9_planetSign dsX9_planetSign_0 0 := agB_of (n := 10) (by decide +kernel)
theorem dbX9_planetSign_0 : (decode dsX9_planetSign_0 0 = .ok (.iload_n 1, 1) ∧ okop dsX9_planetSign_0 0 = true) ∧ (decode dsX9_planetSign_0 1 = .ok (.iload_n 0, 1) ∧ okop dsX9_planetSign_0 1 = true) ∧ (decode dsX9_planetSign_0 2 = .ok (.isub, 1) ∧ okop dsX9_planetSign_0 2 = true) ∧ (decode dsX9_planetSign_0 3 = .ok (.iconst 2, 1) ∧ okop dsX9_planetSign_0 3 = true) ∧ (decode dsX9_planetSign_0 4 = .ok (.idiv, 1) ∧ okop dsX9_planetSign_0 4 = true) ∧ (decode dsX9_planetSign_0 5 = .ok (.istore_n 3, 1) ∧ okop dsX9_planetSign_0 5 = true) ∧ (decode dsX9_planetSign_0 6 = .ok (.iload_n 1, 1) ∧ okop dsX9_planetSign_0 6 = true) ∧ (decode dsX9_planetSign_0 7 = .ok (.iload_n 0, 1) ∧ okop dsX9_planetSign_0 7 = true) ∧ (decode dsX9_planetSign_0 8 = .ok (.isub, 1) ∧ okop dsX9_planetSign_0 8 = true) ∧ (decode dsX9_planetSign_0 9 = .ok (.iconst 2, 1) ∧ okop dsX9_planetSign_0 9 = true) := by decide +kernel
theorem dX9_planetSign_0 : decode cX9_planetSign 0 = .ok (.iload_n 1, 1) := dgq (p := 0) daX9_planetSign_0 dbX9_planetSign_0.1
theorem dX9_planetSign_1 : decode cX9_planetSign 1 = .ok (.iload_n 0, 1) := dgq (p := 1) daX9_planetSign_0 dbX9_planetSign_0.2.1
theorem dX9_planetSign_2 : decode cX9_planetSign 2 = .ok (.isub, 1) := dgq (p := 2) daX9_planetSign_0 dbX9_planetSign_0.2.2.1
theorem dX9_planetSign_3 : decode cX9_planetSign 3 = .ok (.iconst 2, 1) := dgq (p := 3) daX9_planetSign_0 dbX9_planetSign_0.2.2.2.1
theorem dX9_planetSign_4 : decode cX9_planetSign 4 = .ok (.idiv, 1) := dgq (p := 4) daX9_planetSign_0 dbX9_planetSign_0.2.2.2.2.1
theorem dX9_planetSign_5 : decode cX9_planetSign 5 = .ok (.istore_n 3, 1) := dgq (p := 5) daX9_planetSign_0 dbX9_planetSign_0.2.2.2.2.2.1
theorem dX9_planetSign_6 : decode cX9_planetSign 6 = .ok (.iload_n 1, 1) := dgq (p := 6) daX9_planetSign_0 dbX9_planetSign_0.2.2.2.2.2.2.1
theorem dX9_planetSign_7 : decode cX9_planetSign 7 = .ok (.iload_n 0, 1) := dgq (p := 7) daX9_planetSign_0 dbX9_planetSign_0.2.2.2.2.2.2.2.1
theorem dX9_planetSign_8 : decode cX9_planetSign 8 = .ok (.isub, 1) := dgq (p := 8) daX9_planetSign_0 dbX9_planetSign_0.2.2.2.2.2.2.2.2.1
theorem dX9_planetSign_9 : decode cX9_planetSign 9 = .ok (.iconst 2, 1) := dgq (p := 9) daX9_planetSign_0 dbX9_planetSign_0.2.2.2.2.2.2.2.2.2
def dsX9_planetSign_10 : ByteArray := ⟨#[112, 154, 0, 9, 29, 16, 6, 162, 0, 6, 16, 119, 172, 28, 6, 161, 0, 21]⟩
theorem daX9_planetSign_10 : agB cX9_planetSign dsX9_planetSign_10 10 := agB_of (n := 18) (by decide +kernel)
theorem dbX9_planetSign_10 : (decode dsX9_planetSign_10 0 = .ok (.irem, 1) ∧ okop dsX9_planetSign_10 0 = true) ∧ (decode dsX9_planetSign_10 1 = .ok (.ifCond .ne 9, 3) ∧ okop dsX9_planetSign_10 1 = true) ∧ (decode dsX9_planetSign_10 4 = .ok (.iload_n 3, 1) ∧ okop dsX9_planetSign_10 4 = true) ∧ (decode dsX9_planetSign_10 5 = .ok (.bipush 6, 2) ∧ okop dsX9_planetSign_10 5 = true) ∧ (decode dsX9_planetSign_10 7 = .ok (.if_icmp .ge 6, 3) ∧ okop dsX9_planetSign_10 7 = true) ∧ (decode dsX9_planetSign_10 10 = .ok (.bipush 119, 2) ∧ okop dsX9_planetSign_10 10 = true) ∧ (decode dsX9_planetSign_10 12 = .ok (.ireturn, 1) ∧ okop dsX9_planetSign_10 12 = true) ∧ (decode dsX9_planetSign_10 13 = .ok (.iload_n 2, 1) ∧ okop dsX9_planetSign_10 13 = true) ∧ (decode dsX9_planetSign_10 14 = .ok (.iconst 3, 1) ∧ okop dsX9_planetSign_10 14 = true) ∧ (decode dsX9_planetSign_10 15 = .ok (.if_icmp .lt 21, 3) ∧ okop dsX9_planetSign_10 15 = true) := by decide +kernel
theorem dX9_planetSign_10 : decode cX9_planetSign 10 = .ok (.irem, 1) := dgq (p := 0) daX9_planetSign_10 dbX9_planetSign_10.1
theorem dX9_planetSign_11 : decode cX9_planetSign 11 = .ok (.ifCond .ne 9, 3) := dgq (p := 1) daX9_planetSign_10 dbX9_planetSign_10.2.1
theorem dX9_planetSign_14 : decode cX9_planetSign 14 = .ok (.iload_n 3, 1) := dgq (p := 4) daX9_planetSign_10 dbX9_planetSign_10.2.2.1
theorem dX9_planetSign_15 : decode cX9_planetSign 15 = .ok (.bipush 6, 2) := dgq (p := 5) daX9_planetSign_10 dbX9_planetSign_10.2.2.2.1
theorem dX9_planetSign_17 : decode cX9_planetSign 17 = .ok (.if_icmp .ge 6, 3) := dgq (p := 7) daX9_planetSign_10 dbX9_planetSign_10.2.2.2.2.1
theorem dX9_planetSign_20 : decode cX9_planetSign 20 = .ok (.bipush 119, 2) := dgq (p := 10) daX9_planetSign_10 dbX9_planetSign_10.2.2.2.2.2.1
theorem dX9_planetSign_22 : decode cX9_planetSign 22 = .ok (.ireturn, 1) := dgq (p := 12) daX9_planetSign_10 dbX9_planetSign_10.2.2.2.2.2.2.1
theorem dX9_planetSign_23 : decode cX9_planetSign 23 = .ok (.iload_n 2, 1) := dgq (p := 13) daX9_planetSign_10 dbX9_planetSign_10.2.2.2.2.2.2.2.1
theorem dX9_planetSign_24 : decode cX9_planetSign 24 = .ok (.iconst 3, 1) := dgq (p := 14) daX9_planetSign_10 dbX9_planetSign_10.2.2.2.2.2.2.2.2.1
theorem dX9_planetSign_25 : decode cX9_planetSign 25 = .ok (.if_icmp .lt 21, 3) := dgq (p := 15) daX9_planetSign_10 dbX9_planetSign_10.2.2.2.2.2.2.2.2.2
def dsX9_planetSign_28 : ByteArray := ⟨#[28, 6, 100, 178, 0, 222, 190, 162, 0, 11, 26, 27, 96, 28]⟩
theorem daX9_planetSign_28 : agB cX9_planetSign dsX9_planetSign_28 28 := agB_of (n := 14) (by decide +kernel)
theorem dbX9_planetSign_28 : (decode dsX9_planetSign_28 0 = .ok (.iload_n 2, 1) ∧ okop dsX9_planetSign_28 0 = true) ∧ (decode dsX9_planetSign_28 1 = .ok (.iconst 3, 1) ∧ okop dsX9_planetSign_28 1 = true) ∧ (decode dsX9_planetSign_28 2 = .ok (.isub, 1) ∧ okop dsX9_planetSign_28 2 = true) ∧ (decode dsX9_planetSign_28 3 = .ok (.getstatic 222, 3) ∧ okop dsX9_planetSign_28 3 = true) ∧ (decode dsX9_planetSign_28 6 = .ok (.arraylength, 1) ∧ okop dsX9_planetSign_28 6 = true) ∧ (decode dsX9_planetSign_28 7 = .ok (.if_icmp .ge 11, 3) ∧ okop dsX9_planetSign_28 7 = true) ∧ (decode dsX9_planetSign_28 10 = .ok (.iload_n 0, 1) ∧ okop dsX9_planetSign_28 10 = true) ∧ (decode dsX9_planetSign_28 11 = .ok (.iload_n 1, 1) ∧ okop dsX9_planetSign_28 11 = true) ∧ (decode dsX9_planetSign_28 12 = .ok (.iadd, 1) ∧ okop dsX9_planetSign_28 12 = true) ∧ (decode dsX9_planetSign_28 13 = .ok (.iload_n 2, 1) ∧ okop dsX9_planetSign_28 13 = true) := by decide +kernel
theorem dX9_planetSign_28 : decode cX9_planetSign 28 = .ok (.iload_n 2, 1) := dgq (p := 0) daX9_planetSign_28 dbX9_planetSign_28.1
theorem dX9_planetSign_29 : decode cX9_planetSign 29 = .ok (.iconst 3, 1) := dgq (p := 1) daX9_planetSign_28 dbX9_planetSign_28.2.1
theorem dX9_planetSign_30 : decode cX9_planetSign 30 = .ok (.isub, 1) := dgq (p := 2) daX9_planetSign_28 dbX9_planetSign_28.2.2.1
theorem dX9_planetSign_31 : decode cX9_planetSign 31 = .ok (.getstatic 222, 3) := dgq (p := 3) daX9_planetSign_28 dbX9_planetSign_28.2.2.2.1
theorem dX9_planetSign_34 : decode cX9_planetSign 34 = .ok (.arraylength, 1) := dgq (p := 6) daX9_planetSign_28 dbX9_planetSign_28.2.2.2.2.1
theorem dX9_planetSign_35 : decode cX9_planetSign 35 = .ok (.if_icmp .ge 11, 3) := dgq (p := 7) daX9_planetSign_28 dbX9_planetSign_28.2.2.2.2.2.1
theorem dX9_planetSign_38 : decode cX9_planetSign 38 = .ok (.iload_n 0, 1) := dgq (p := 10) daX9_planetSign_28 dbX9_planetSign_28.2.2.2.2.2.2.1
theorem dX9_planetSign_39 : decode cX9_planetSign 39 = .ok (.iload_n 1, 1) := dgq (p := 11) daX9_planetSign_28 dbX9_planetSign_28.2.2.2.2.2.2.2.1
theorem dX9_planetSign_40 : decode cX9_planetSign 40 = .ok (.iadd, 1) := dgq (p := 12) daX9_planetSign_28 dbX9_planetSign_28.2.2.2.2.2.2.2.2.1
theorem dX9_planetSign_41 : decode cX9_planetSign 41 = .ok (.iload_n 2, 1) := dgq (p := 13) daX9_planetSign_28 dbX9_planetSign_28.2.2.2.2.2.2.2.2.2
def dsX9_planetSign_42 : ByteArray := ⟨#[112, 153, 0, 6, 16, 97, 172, 26, 29, 96, 178, 0, 222, 28, 6]⟩
theorem daX9_planetSign_42 : agB cX9_planetSign dsX9_planetSign_42 42 := agB_of (n := 15) (by decide +kernel)
theorem dbX9_planetSign_42 : (decode dsX9_planetSign_42 0 = .ok (.irem, 1) ∧ okop dsX9_planetSign_42 0 = true) ∧ (decode dsX9_planetSign_42 1 = .ok (.ifCond .eq 6, 3) ∧ okop dsX9_planetSign_42 1 = true) ∧ (decode dsX9_planetSign_42 4 = .ok (.bipush 97, 2) ∧ okop dsX9_planetSign_42 4 = true) ∧ (decode dsX9_planetSign_42 6 = .ok (.ireturn, 1) ∧ okop dsX9_planetSign_42 6 = true) ∧ (decode dsX9_planetSign_42 7 = .ok (.iload_n 0, 1) ∧ okop dsX9_planetSign_42 7 = true) ∧ (decode dsX9_planetSign_42 8 = .ok (.iload_n 3, 1) ∧ okop dsX9_planetSign_42 8 = true) ∧ (decode dsX9_planetSign_42 9 = .ok (.iadd, 1) ∧ okop dsX9_planetSign_42 9 = true) ∧ (decode dsX9_planetSign_42 10 = .ok (.getstatic 222, 3) ∧ okop dsX9_planetSign_42 10 = true) ∧ (decode dsX9_planetSign_42 13 = .ok (.iload_n 2, 1) ∧ okop dsX9_planetSign_42 13 = true) ∧ (decode dsX9_planetSign_42 14 = .ok (.iconst 3, 1) ∧ okop dsX9_planetSign_42 14 = true) := by decide +kernel
theorem dX9_planetSign_42 : decode cX9_planetSign 42 = .ok (.irem, 1) := dgq (p := 0) daX9_planetSign_42 dbX9_planetSign_42.1
theorem dX9_planetSign_43 : decode cX9_planetSign 43 = .ok (.ifCond .eq 6, 3) := dgq (p := 1) daX9_planetSign_42 dbX9_planetSign_42.2.1
theorem dX9_planetSign_46 : decode cX9_planetSign 46 = .ok (.bipush 97, 2) := dgq (p := 4) daX9_planetSign_42 dbX9_planetSign_42.2.2.1
theorem dX9_planetSign_48 : decode cX9_planetSign 48 = .ok (.ireturn, 1) := dgq (p := 6) daX9_planetSign_42 dbX9_planetSign_42.2.2.2.1
theorem dX9_planetSign_49 : decode cX9_planetSign 49 = .ok (.iload_n 0, 1) := dgq (p := 7) daX9_planetSign_42 dbX9_planetSign_42.2.2.2.2.1
theorem dX9_planetSign_50 : decode cX9_planetSign 50 = .ok (.iload_n 3, 1) := dgq (p := 8) daX9_planetSign_42 dbX9_planetSign_42.2.2.2.2.2.1
theorem dX9_planetSign_51 : decode cX9_planetSign 51 = .ok (.iadd, 1) := dgq (p := 9) daX9_planetSign_42 dbX9_planetSign_42.2.2.2.2.2.2.1
theorem dX9_planetSign_52 : decode cX9_planetSign 52 = .ok (.getstatic 222, 3) := dgq (p := 10) daX9_planetSign_42 dbX9_planetSign_42.2.2.2.2.2.2.2.1
theorem dX9_planetSign_55 : decode cX9_planetSign 55 = .ok (.iload_n 2, 1) := dgq (p := 13) daX9_planetSign_42 dbX9_planetSign_42.2.2.2.2.2.2.2.2.1
theorem dX9_planetSign_56 : decode cX9_planetSign 56 = .ok (.iconst 3, 1) := dgq (p := 14) daX9_planetSign_42 dbX9_planetSign_42.2.2.2.2.2.2.2.2.2
def dsX9_planetSign_57 : ByteArray := ⟨#[100, 46, 104, 17, 3, 232, 29, 5, 96, 104, 164, 0, 8, 16, 103]⟩
theorem daX9_planetSign_57 : agB cX9_planetSign dsX9_planetSign_57 57 := agB_of (n := 15) (by decide +kernel)
theorem dbX9_planetSign_57 : (decode dsX9_planetSign_57 0 = .ok (.isub, 1) ∧ okop dsX9_planetSign_57 0 = true) ∧ (decode dsX9_planetSign_57 1 = .ok (.iaload, 1) ∧ okop dsX9_planetSign_57 1 = true) ∧ (decode dsX9_planetSign_57 2 = .ok (.imul, 1) ∧ okop dsX9_planetSign_57 2 = true) ∧ (decode dsX9_planetSign_57 3 = .ok (.sipush 1000, 3) ∧ okop dsX9_planetSign_57 3 = true) ∧ (decode dsX9_planetSign_57 6 = .ok (.iload_n 3, 1) ∧ okop dsX9_planetSign_57 6 = true) ∧ (decode dsX9_planetSign_57 7 = .ok (.iconst 2, 1) ∧ okop dsX9_planetSign_57 7 = true) ∧ (decode dsX9_planetSign_57 8 = .ok (.iadd, 1) ∧ okop dsX9_planetSign_57 8 = true) ∧ (decode dsX9_planetSign_57 9 = .ok (.imul, 1) ∧ okop dsX9_planetSign_57 9 = true) ∧ (decode dsX9_planetSign_57 10 = .ok (.if_icmp .le 8, 3) ∧ okop dsX9_planetSign_57 10 = true) ∧ (decode dsX9_planetSign_57 13 = .ok (.bipush 103, 2) ∧ okop dsX9_planetSign_57 13 = true) := by decide +kernel
theorem dX9_planetSign_57 : decode cX9_planetSign 57 = .ok (.isub, 1) := dgq (p := 0) daX9_planetSign_57 dbX9_planetSign_57.1
theorem dX9_planetSign_58 : decode cX9_planetSign 58 = .ok (.iaload, 1) := dgq (p := 1) daX9_planetSign_57 dbX9_planetSign_57.2.1
theorem dX9_planetSign_59 : decode cX9_planetSign 59 = .ok (.imul, 1) := dgq (p := 2) daX9_planetSign_57 dbX9_planetSign_57.2.2.1
theorem dX9_planetSign_60 : decode cX9_planetSign 60 = .ok (.sipush 1000, 3) := dgq (p := 3) daX9_planetSign_57 dbX9_planetSign_57.2.2.2.1
theorem dX9_planetSign_63 : decode cX9_planetSign 63 = .ok (.iload_n 3, 1) := dgq (p := 6) daX9_planetSign_57 dbX9_planetSign_57.2.2.2.2.1
theorem dX9_planetSign_64 : decode cX9_planetSign 64 = .ok (.iconst 2, 1) := dgq (p := 7) daX9_planetSign_57 dbX9_planetSign_57.2.2.2.2.2.1
theorem dX9_planetSign_65 : decode cX9_planetSign 65 = .ok (.iadd, 1) := dgq (p := 8) daX9_planetSign_57 dbX9_planetSign_57.2.2.2.2.2.2.1
theorem dX9_planetSign_66 : decode cX9_planetSign 66 = .ok (.imul, 1) := dgq (p := 9) daX9_planetSign_57 dbX9_planetSign_57.2.2.2.2.2.2.2.1
theorem dX9_planetSign_67 : decode cX9_planetSign 67 = .ok (.if_icmp .le 8, 3) := dgq (p := 10) daX9_planetSign_57 dbX9_planetSign_57.2.2.2.2.2.2.2.2.1
theorem dX9_planetSign_70 : decode cX9_planetSign 70 = .ok (.bipush 103, 2) := dgq (p := 13) daX9_planetSign_57 dbX9_planetSign_57.2.2.2.2.2.2.2.2.2
def dsX9_planetSign_72 : ByteArray := ⟨#[167, 0, 5, 16, 114, 172]⟩
theorem daX9_planetSign_72 : agB cX9_planetSign dsX9_planetSign_72 72 := agB_of (n := 6) (by decide +kernel)
theorem dbX9_planetSign_72 : (decode dsX9_planetSign_72 0 = .ok (.goto 5, 3) ∧ okop dsX9_planetSign_72 0 = true) ∧ (decode dsX9_planetSign_72 3 = .ok (.bipush 114, 2) ∧ okop dsX9_planetSign_72 3 = true) ∧ (decode dsX9_planetSign_72 5 = .ok (.ireturn, 1) ∧ okop dsX9_planetSign_72 5 = true) := by decide +kernel
theorem dX9_planetSign_72 : decode cX9_planetSign 72 = .ok (.goto 5, 3) := dgq (p := 0) daX9_planetSign_72 dbX9_planetSign_72.1
theorem dX9_planetSign_75 : decode cX9_planetSign 75 = .ok (.bipush 114, 2) := dgq (p := 3) daX9_planetSign_72 dbX9_planetSign_72.2.1
theorem dX9_planetSign_77 : decode cX9_planetSign 77 = .ok (.ireturn, 1) := dgq (p := 5) daX9_planetSign_72 dbX9_planetSign_72.2.2
set_option maxRecDepth 20000 in
theorem ggX9_wheel_X9_needRange : GoodIn wsX9_wheel wsX9_needRange := goodIn_ca (goodIn_q _ [7, 8, 9] rfl (by decide +kernel)) (goodIn_sub (fun _ h => List.mem_cons_of_mem _ (List.mem_append_left _ (List.mem_append_right _ h))) (by decide +kernel))
set_option maxRecDepth 20000 in
theorem gX9_wheel_X9_needRange : GoodIn wsX9_wheel (va_wsS RX9 59 yX9_needRange wsX9_needRange) := goodIn_app (goodIn_q _ [4, 5, 6] rfl (by decide +kernel)) ggX9_wheel_X9_needRange
set_option maxRecDepth 20000 in
theorem ggX9_wheel_X0_isFull : GoodIn wsX9_wheel wsX0_isFull := goodIn_ca (goodIn_q _ [14, 15] rfl (by decide +kernel)) (goodIn_sub (fun _ h => (List.mem_cons_of_mem _ (List.mem_append_left _ (List.mem_append_left _ (List.mem_append_left _ (List.mem_append_right _ h)))))) tg_wsX00)
set_option maxRecDepth 20000 in
theorem gX9_wheel_X0_isFull : GoodIn wsX9_wheel (wsV RX9 226 RX0 yX0_isFull wsX0_isFull) := goodIn_app (goodIn_q _ [10, 11, 12, 13] rfl (by decide +kernel)) ggX9_wheel_X0_isFull
set_option maxRecDepth 20000 in
theorem ggX9_wheel_X0_put : GoodIn wsX9_wheel wsX0_put := goodIn_ca (goodIn_ca (goodIn_q _ [19, 15, 20] rfl (by decide +kernel)) (goodIn_sub (fun _ h => (List.mem_cons_of_mem _ (List.mem_append_left _ (List.mem_append_left _ (List.mem_append_left _ (List.mem_append_right _ h)))))) tg_wsX00)) (goodIn_sub (fun _ h => List.mem_cons_of_mem _ (List.mem_append_right _ h)) (by decide +kernel))
set_option maxRecDepth 20000 in
theorem gX9_wheel_X0_put : GoodIn wsX9_wheel (wsV RX9 232 RX0 yX0_put wsX0_put) := goodIn_app (goodIn_q _ [16, 17, 18, 13] rfl (by decide +kernel)) ggX9_wheel_X0_put
def dsX9_wheel_0 : ByteArray := ⟨#[27, 16, 15, 16, 127, 184, 0, 59, 42, 180, 0, 30, 182, 0, 226, 153, 0, 13, 187, 0, 67, 89]⟩
theorem daX9_wheel_0 : agB cX9_wheel dsX9_wheel_0 0 := agB_of (n := 22) (by decide +kernel)
theorem dbX9_wheel_0 : (decode dsX9_wheel_0 0 = .ok (.iload_n 1, 1) ∧ okop dsX9_wheel_0 0 = true) ∧ (decode dsX9_wheel_0 1 = .ok (.bipush 15, 2) ∧ okop dsX9_wheel_0 1 = true) ∧ (decode dsX9_wheel_0 3 = .ok (.bipush 127, 2) ∧ okop dsX9_wheel_0 3 = true) ∧ (decode dsX9_wheel_0 5 = .ok (.invokestatic 59, 3) ∧ okop dsX9_wheel_0 5 = true) ∧ (decode dsX9_wheel_0 8 = .ok (.aload_n 0, 1) ∧ okop dsX9_wheel_0 8 = true) ∧ (decode dsX9_wheel_0 9 = .ok (.getfield 30, 3) ∧ okop dsX9_wheel_0 9 = true) ∧ (decode dsX9_wheel_0 12 = .ok (.invokevirtual 226, 3) ∧ okop dsX9_wheel_0 12 = true) ∧ (decode dsX9_wheel_0 15 = .ok (.ifCond .eq 13, 3) ∧ okop dsX9_wheel_0 15 = true) ∧ (decode dsX9_wheel_0 18 = .ok (.new 67, 3) ∧ okop dsX9_wheel_0 18 = true) ∧ (decode dsX9_wheel_0 21 = .ok (.dup, 1) ∧ okop dsX9_wheel_0 21 = true) := by decide +kernel
theorem dX9_wheel_0 : decode cX9_wheel 0 = .ok (.iload_n 1, 1) := dgq (p := 0) daX9_wheel_0 dbX9_wheel_0.1
theorem dX9_wheel_1 : decode cX9_wheel 1 = .ok (.bipush 15, 2) := dgq (p := 1) daX9_wheel_0 dbX9_wheel_0.2.1
theorem dX9_wheel_3 : decode cX9_wheel 3 = .ok (.bipush 127, 2) := dgq (p := 3) daX9_wheel_0 dbX9_wheel_0.2.2.1
theorem dX9_wheel_5 : decode cX9_wheel 5 = .ok (.invokestatic 59, 3) := dgq (p := 5) daX9_wheel_0 dbX9_wheel_0.2.2.2.1
theorem dX9_wheel_8 : decode cX9_wheel 8 = .ok (.aload_n 0, 1) := dgq (p := 8) daX9_wheel_0 dbX9_wheel_0.2.2.2.2.1
theorem dX9_wheel_9 : decode cX9_wheel 9 = .ok (.getfield 30, 3) := dgq (p := 9) daX9_wheel_0 dbX9_wheel_0.2.2.2.2.2.1
theorem dX9_wheel_12 : decode cX9_wheel 12 = .ok (.invokevirtual 226, 3) := dgq (p := 12) daX9_wheel_0 dbX9_wheel_0.2.2.2.2.2.2.1
theorem dX9_wheel_15 : decode cX9_wheel 15 = .ok (.ifCond .eq 13, 3) := dgq (p := 15) daX9_wheel_0 dbX9_wheel_0.2.2.2.2.2.2.2.1
theorem dX9_wheel_18 : decode cX9_wheel 18 = .ok (.new 67, 3) := dgq (p := 18) daX9_wheel_0 dbX9_wheel_0.2.2.2.2.2.2.2.2.1
theorem dX9_wheel_21 : decode cX9_wheel 21 = .ok (.dup, 1) := dgq (p := 21) daX9_wheel_0 dbX9_wheel_0.2.2.2.2.2.2.2.2.2
def dsX9_wheel_22 : ByteArray := ⟨#[18, 230, 183, 0, 71, 191, 42, 180, 0, 30, 27, 182, 0, 232, 172]⟩
theorem daX9_wheel_22 : agB cX9_wheel dsX9_wheel_22 22 := agB_of (n := 15) (by decide +kernel)
theorem dbX9_wheel_22 : (decode dsX9_wheel_22 0 = .ok (.ldc 230, 2) ∧ okop dsX9_wheel_22 0 = true) ∧ (decode dsX9_wheel_22 2 = .ok (.invokespecial 71, 3) ∧ okop dsX9_wheel_22 2 = true) ∧ (decode dsX9_wheel_22 5 = .ok (.athrow, 1) ∧ okop dsX9_wheel_22 5 = true) ∧ (decode dsX9_wheel_22 6 = .ok (.aload_n 0, 1) ∧ okop dsX9_wheel_22 6 = true) ∧ (decode dsX9_wheel_22 7 = .ok (.getfield 30, 3) ∧ okop dsX9_wheel_22 7 = true) ∧ (decode dsX9_wheel_22 10 = .ok (.iload_n 1, 1) ∧ okop dsX9_wheel_22 10 = true) ∧ (decode dsX9_wheel_22 11 = .ok (.invokevirtual 232, 3) ∧ okop dsX9_wheel_22 11 = true) ∧ (decode dsX9_wheel_22 14 = .ok (.ireturn, 1) ∧ okop dsX9_wheel_22 14 = true) := by decide +kernel
theorem dX9_wheel_22 : decode cX9_wheel 22 = .ok (.ldc 230, 2) := dgq (p := 0) daX9_wheel_22 dbX9_wheel_22.1
theorem dX9_wheel_24 : decode cX9_wheel 24 = .ok (.invokespecial 71, 3) := dgq (p := 2) daX9_wheel_22 dbX9_wheel_22.2.1
theorem dX9_wheel_27 : decode cX9_wheel 27 = .ok (.athrow, 1) := dgq (p := 5) daX9_wheel_22 dbX9_wheel_22.2.2.1
theorem dX9_wheel_28 : decode cX9_wheel 28 = .ok (.aload_n 0, 1) := dgq (p := 6) daX9_wheel_22 dbX9_wheel_22.2.2.2.1
theorem dX9_wheel_29 : decode cX9_wheel 29 = .ok (.getfield 30, 3) := dgq (p := 7) daX9_wheel_22 dbX9_wheel_22.2.2.2.2.1
theorem dX9_wheel_32 : decode cX9_wheel 32 = .ok (.iload_n 1, 1) := dgq (p := 10) daX9_wheel_22 dbX9_wheel_22.2.2.2.2.2.1
theorem dX9_wheel_33 : decode cX9_wheel 33 = .ok (.invokevirtual 232, 3) := dgq (p := 11) daX9_wheel_22 dbX9_wheel_22.2.2.2.2.2.2.1
theorem dX9_wheel_36 : decode cX9_wheel 36 = .ok (.ireturn, 1) := dgq (p := 14) daX9_wheel_22 dbX9_wheel_22.2.2.2.2.2.2.2
set_option maxRecDepth 20000 in
theorem ggX9_change_X9_needRatio : GoodIn wsX9_change wsX9_needRatio := goodIn_ca (goodIn_q _ [5, 6, 7, 4, 8, 9, 10] rfl (by decide +kernel)) (goodIn_sub (fun _ h => List.mem_cons_of_mem _ (List.mem_append_left _ (List.mem_append_left _ (List.mem_append_right _ h)))) (by decide +kernel))
set_option maxRecDepth 20000 in
theorem gX9_change_X9_needRatio : GoodIn wsX9_change (va_wsS RX9 213 yX9_needRatio wsX9_needRatio) := goodIn_app (goodIn_q _ [2, 3, 4] rfl (by decide +kernel)) ggX9_change_X9_needRatio
set_option maxRecDepth 20000 in
theorem ggX9_change_X9_needRange : GoodIn wsX9_change wsX9_needRange := goodIn_ca (goodIn_q _ [8, 9, 10] rfl (by decide +kernel)) (goodIn_sub (fun _ h => List.mem_cons_of_mem _ (List.mem_append_left _ (List.mem_append_left _ (List.mem_append_right _ h)))) (by decide +kernel))
set_option maxRecDepth 20000 in
theorem gX9_change_X9_needRange : GoodIn wsX9_change (va_wsS RX9 59 yX9_needRange wsX9_needRange) := goodIn_app (goodIn_q _ [6, 7, 4] rfl (by decide +kernel)) ggX9_change_X9_needRange
set_option maxRecDepth 20000 in
theorem ggX9_change_X9_needFourWheels : GoodIn wsX9_change wsX9_needFourWheels := goodIn_ca (goodIn_ca (goodIn_ca (goodIn_q _ [14, 15, 16, 1, 17, 18, 19, 20, 21, 22] rfl (by decide +kernel)) (goodIn_sub (fun _ h => (List.mem_cons_of_mem _ (List.mem_append_left _ (List.mem_append_left _ (List.mem_append_left _ (List.mem_append_left _ (List.mem_append_right _ h))))))) tg_wsX90)) (goodIn_sub (fun _ h => (List.mem_cons_of_mem _ (List.mem_append_left _ (List.mem_append_left _ (List.mem_append_left _ (List.mem_append_right _ h)))))) tg_wsX00)) (goodIn_sub (fun _ h => List.mem_cons_of_mem _ (List.mem_append_left _ (List.mem_append_right _ h))) (by decide +kernel))
set_option maxRecDepth 20000 in
theorem gX9_change_X9_needFourWheels : GoodIn wsX9_change (wsV RX9 235 RX9 yX9_needFourWheels wsX9_needFourWheels) := goodIn_app (goodIn_q _ [11, 12, 13, 4] rfl (by decide +kernel)) ggX9_change_X9_needFourWheels
set_option maxRecDepth 20000 in
theorem ggX9_change_X0_search : GoodIn wsX9_change wsX0_search := goodIn_ca (goodIn_ca (goodIn_q _ [26, 27, 28, 29, 30, 31, 22, 32, 33, 34, 20, 35, 36, 37, 38, 39, 40, 41, 42, 43, 44, 45] rfl (by decide +kernel)) (goodIn_sub (fun _ h => (List.mem_cons_of_mem _ (List.mem_append_left _ (List.mem_append_left _ (List.mem_append_left _ (List.mem_append_right _ h)))))) tg_wsX00)) (goodIn_sub (fun _ h => List.mem_cons_of_mem _ (List.mem_append_right _ h)) (by decide +kernel))
set_option maxRecDepth 20000 in
theorem gX9_change_X0_search : GoodIn wsX9_change (wsV RX9 238 RX0 yX0_search wsX0_search) := goodIn_app (goodIn_q _ [23, 24, 25, 20] rfl (by decide +kernel)) ggX9_change_X0_search
set_option maxRecDepth 20000 in
theorem ggX9_change_X0_bestWheel : GoodIn wsX9_change wsX0_bestWheel := goodIn_ca (goodIn_ca (goodIn_q _ [49, 45] rfl (by decide +kernel)) (goodIn_sub (fun _ h => (List.mem_cons_of_mem _ (List.mem_append_left _ (List.mem_append_left _ (List.mem_append_left _ (List.mem_append_right _ h)))))) tg_wsX00)) (goodIn_sub (fun _ h => List.mem_cons_of_mem _ (List.mem_append_right _ h)) (by decide +kernel))
set_option maxRecDepth 20000 in
theorem gX9_change_X0_bestWheel : GoodIn wsX9_change (wsV RX9 241 RX0 yX0_bestWheel wsX0_bestWheel) := goodIn_app (goodIn_q _ [46, 47, 48, 20] rfl (by decide +kernel)) ggX9_change_X0_bestWheel
def dsX9_change_0 : ByteArray := ⟨#[27, 28, 184, 0, 213, 29, 3, 6, 184, 0, 59, 42, 182, 0, 235, 42]⟩
theorem daX9_change_0 : agB cX9_change dsX9_change_0 0 := agB_of (n := 16) (by decide +kernel)
theorem dbX9_change_0 : (decode dsX9_change_0 0 = .ok (.iload_n 1, 1) ∧ okop dsX9_change_0 0 = true) ∧ (decode dsX9_change_0 1 = .ok (.iload_n 2, 1) ∧ okop dsX9_change_0 1 = true) ∧ (decode dsX9_change_0 2 = .ok (.invokestatic 213, 3) ∧ okop dsX9_change_0 2 = true) ∧ (decode dsX9_change_0 5 = .ok (.iload_n 3, 1) ∧ okop dsX9_change_0 5 = true) ∧ (decode dsX9_change_0 6 = .ok (.iconst 0, 1) ∧ okop dsX9_change_0 6 = true) ∧ (decode dsX9_change_0 7 = .ok (.iconst 3, 1) ∧ okop dsX9_change_0 7 = true) ∧ (decode dsX9_change_0 8 = .ok (.invokestatic 59, 3) ∧ okop dsX9_change_0 8 = true) ∧ (decode dsX9_change_0 11 = .ok (.aload_n 0, 1) ∧ okop dsX9_change_0 11 = true) ∧ (decode dsX9_change_0 12 = .ok (.invokevirtual 235, 3) ∧ okop dsX9_change_0 12 = true) ∧ (decode dsX9_change_0 15 = .ok (.aload_n 0, 1) ∧ okop dsX9_change_0 15 = true) := by decide +kernel
theorem dX9_change_0 : decode cX9_change 0 = .ok (.iload_n 1, 1) := dgq (p := 0) daX9_change_0 dbX9_change_0.1
theorem dX9_change_1 : decode cX9_change 1 = .ok (.iload_n 2, 1) := dgq (p := 1) daX9_change_0 dbX9_change_0.2.1
theorem dX9_change_2 : decode cX9_change 2 = .ok (.invokestatic 213, 3) := dgq (p := 2) daX9_change_0 dbX9_change_0.2.2.1
theorem dX9_change_5 : decode cX9_change 5 = .ok (.iload_n 3, 1) := dgq (p := 5) daX9_change_0 dbX9_change_0.2.2.2.1
theorem dX9_change_6 : decode cX9_change 6 = .ok (.iconst 0, 1) := dgq (p := 6) daX9_change_0 dbX9_change_0.2.2.2.2.1
theorem dX9_change_7 : decode cX9_change 7 = .ok (.iconst 3, 1) := dgq (p := 7) daX9_change_0 dbX9_change_0.2.2.2.2.2.1
theorem dX9_change_8 : decode cX9_change 8 = .ok (.invokestatic 59, 3) := dgq (p := 8) daX9_change_0 dbX9_change_0.2.2.2.2.2.2.1
theorem dX9_change_11 : decode cX9_change 11 = .ok (.aload_n 0, 1) := dgq (p := 11) daX9_change_0 dbX9_change_0.2.2.2.2.2.2.2.1
theorem dX9_change_12 : decode cX9_change 12 = .ok (.invokevirtual 235, 3) := dgq (p := 12) daX9_change_0 dbX9_change_0.2.2.2.2.2.2.2.2.1
theorem dX9_change_15 : decode cX9_change 15 = .ok (.aload_n 0, 1) := dgq (p := 15) daX9_change_0 dbX9_change_0.2.2.2.2.2.2.2.2.2
def dsX9_change_16 : ByteArray := ⟨#[180, 0, 30, 27, 133, 28, 133, 182, 0, 238, 42, 180, 0, 30, 29, 182, 0, 241]⟩
theorem daX9_change_16 : agB cX9_change dsX9_change_16 16 := agB_of (n := 18) (by decide +kernel)
theorem dbX9_change_16 : (decode dsX9_change_16 0 = .ok (.getfield 30, 3) ∧ okop dsX9_change_16 0 = true) ∧ (decode dsX9_change_16 3 = .ok (.iload_n 1, 1) ∧ okop dsX9_change_16 3 = true) ∧ (decode dsX9_change_16 4 = .ok (.i2l, 1) ∧ okop dsX9_change_16 4 = true) ∧ (decode dsX9_change_16 5 = .ok (.iload_n 2, 1) ∧ okop dsX9_change_16 5 = true) ∧ (decode dsX9_change_16 6 = .ok (.i2l, 1) ∧ okop dsX9_change_16 6 = true) ∧ (decode dsX9_change_16 7 = .ok (.invokevirtual 238, 3) ∧ okop dsX9_change_16 7 = true) ∧ (decode dsX9_change_16 10 = .ok (.aload_n 0, 1) ∧ okop dsX9_change_16 10 = true) ∧ (decode dsX9_change_16 11 = .ok (.getfield 30, 3) ∧ okop dsX9_change_16 11 = true) ∧ (decode dsX9_change_16 14 = .ok (.iload_n 3, 1) ∧ okop dsX9_change_16 14 = true) ∧ (decode dsX9_change_16 15 = .ok (.invokevirtual 241, 3) ∧ okop dsX9_change_16 15 = true) := by decide +kernel
theorem dX9_change_16 : decode cX9_change 16 = .ok (.getfield 30, 3) := dgq (p := 0) daX9_change_16 dbX9_change_16.1
theorem dX9_change_19 : decode cX9_change 19 = .ok (.iload_n 1, 1) := dgq (p := 3) daX9_change_16 dbX9_change_16.2.1
theorem dX9_change_20 : decode cX9_change 20 = .ok (.i2l, 1) := dgq (p := 4) daX9_change_16 dbX9_change_16.2.2.1
theorem dX9_change_21 : decode cX9_change 21 = .ok (.iload_n 2, 1) := dgq (p := 5) daX9_change_16 dbX9_change_16.2.2.2.1
theorem dX9_change_22 : decode cX9_change 22 = .ok (.i2l, 1) := dgq (p := 6) daX9_change_16 dbX9_change_16.2.2.2.2.1
theorem dX9_change_23 : decode cX9_change 23 = .ok (.invokevirtual 238, 3) := dgq (p := 7) daX9_change_16 dbX9_change_16.2.2.2.2.2.1
theorem dX9_change_26 : decode cX9_change 26 = .ok (.aload_n 0, 1) := dgq (p := 10) daX9_change_16 dbX9_change_16.2.2.2.2.2.2.1
theorem dX9_change_27 : decode cX9_change 27 = .ok (.getfield 30, 3) := dgq (p := 11) daX9_change_16 dbX9_change_16.2.2.2.2.2.2.2.1
theorem dX9_change_30 : decode cX9_change 30 = .ok (.iload_n 3, 1) := dgq (p := 14) daX9_change_16 dbX9_change_16.2.2.2.2.2.2.2.2.1
theorem dX9_change_31 : decode cX9_change 31 = .ok (.invokevirtual 241, 3) := dgq (p := 15) daX9_change_16 dbX9_change_16.2.2.2.2.2.2.2.2.2
theorem dX9_change_34 : decode cX9_change 34 = .ok (.ireturn, 1) := by decide +kernel
set_option maxRecDepth 20000 in
theorem ggX9_meets_X9_needRatio : GoodIn wsX9_meets wsX9_needRatio := goodIn_ca (goodIn_q _ [6, 7, 8, 5, 9, 10, 11] rfl (by decide +kernel)) (goodIn_sub (fun _ h => List.mem_cons_of_mem _ (List.mem_append_left _ (List.mem_append_left _ (List.mem_append_right _ h)))) (by decide +kernel))
set_option maxRecDepth 20000 in
theorem gX9_meets_X9_needRatio : GoodIn wsX9_meets (va_wsS RX9 213 yX9_needRatio wsX9_needRatio) := goodIn_app (goodIn_q _ [3, 4, 5] rfl (by decide +kernel)) ggX9_meets_X9_needRatio
set_option maxRecDepth 20000 in
theorem ggX9_meets_X9_needRange : GoodIn wsX9_meets wsX9_needRange := goodIn_ca (goodIn_q _ [9, 10, 11] rfl (by decide +kernel)) (goodIn_sub (fun _ h => List.mem_cons_of_mem _ (List.mem_append_left _ (List.mem_append_left _ (List.mem_append_right _ h)))) (by decide +kernel))
set_option maxRecDepth 20000 in
theorem gX9_meets_X9_needRange : GoodIn wsX9_meets (va_wsS RX9 59 yX9_needRange wsX9_needRange) := goodIn_app (goodIn_q _ [7, 8, 5] rfl (by decide +kernel)) ggX9_meets_X9_needRange
set_option maxRecDepth 20000 in
theorem ggX9_meets_X9_needFourWheels : GoodIn wsX9_meets wsX9_needFourWheels := goodIn_ca (goodIn_ca (goodIn_ca (goodIn_q _ [15, 16, 17, 2, 18, 19, 20, 21, 22, 23] rfl (by decide +kernel)) (goodIn_sub (fun _ h => (List.mem_cons_of_mem _ (List.mem_append_left _ (List.mem_append_left _ (List.mem_append_left _ (List.mem_append_left _ (List.mem_append_right _ h))))))) tg_wsX90)) (goodIn_sub (fun _ h => (List.mem_cons_of_mem _ (List.mem_append_left _ (List.mem_append_left _ (List.mem_append_left _ (List.mem_append_right _ h)))))) tg_wsX00)) (goodIn_sub (fun _ h => List.mem_cons_of_mem _ (List.mem_append_left _ (List.mem_append_right _ h))) (by decide +kernel))
set_option maxRecDepth 20000 in
theorem gX9_meets_X9_needFourWheels : GoodIn wsX9_meets (wsV RX9 235 RX9 yX9_needFourWheels wsX9_needFourWheels) := goodIn_app (goodIn_q _ [12, 13, 14, 5] rfl (by decide +kernel)) ggX9_meets_X9_needFourWheels
set_option maxRecDepth 20000 in
theorem ggX9_meets_X0_search : GoodIn wsX9_meets wsX0_search := goodIn_ca (goodIn_ca (goodIn_q _ [27, 28, 29, 30, 31, 32, 23, 33, 34, 35, 21, 36, 37, 38, 39, 40, 41, 42, 43, 44, 45, 46] rfl (by decide +kernel)) (goodIn_sub (fun _ h => (List.mem_cons_of_mem _ (List.mem_append_left _ (List.mem_append_left _ (List.mem_append_left _ (List.mem_append_right _ h)))))) tg_wsX00)) (goodIn_sub (fun _ h => List.mem_cons_of_mem _ (List.mem_append_right _ h)) (by decide +kernel))
set_option maxRecDepth 20000 in
theorem gX9_meets_X0_search : GoodIn wsX9_meets (wsV RX9 238 RX0 yX0_search wsX0_search) := goodIn_app (goodIn_q _ [24, 25, 26, 21] rfl (by decide +kernel)) ggX9_meets_X0_search
set_option maxRecDepth 20000 in
theorem ggX9_meets_X0_isMet : GoodIn wsX9_meets wsX0_isMet := goodIn_ca (goodIn_q _ [50, 51, 31, 28, 32] rfl (by decide +kernel)) (goodIn_sub (fun _ h => (List.mem_cons_of_mem _ (List.mem_append_left _ (List.mem_append_left _ (List.mem_append_left _ (List.mem_append_right _ h)))))) tg_wsX00)
set_option maxRecDepth 20000 in
theorem gX9_meets_X0_isMet : GoodIn wsX9_meets (wsV RX9 245 RX0 yX0_isMet wsX0_isMet) := goodIn_app (goodIn_q _ [47, 48, 49, 21] rfl (by decide +kernel)) ggX9_meets_X0_isMet
def dsX9_meets_0 : ByteArray := ⟨#[27, 28, 184, 0, 213, 29, 3, 18, 244, 184, 0, 59, 42, 182, 0, 235, 42]⟩
theorem daX9_meets_0 : agB cX9_meets dsX9_meets_0 0 := agB_of (n := 17) (by decide +kernel)
theorem dbX9_meets_0 : (decode dsX9_meets_0 0 = .ok (.iload_n 1, 1) ∧ okop dsX9_meets_0 0 = true) ∧ (decode dsX9_meets_0 1 = .ok (.iload_n 2, 1) ∧ okop dsX9_meets_0 1 = true) ∧ (decode dsX9_meets_0 2 = .ok (.invokestatic 213, 3) ∧ okop dsX9_meets_0 2 = true) ∧ (decode dsX9_meets_0 5 = .ok (.iload_n 3, 1) ∧ okop dsX9_meets_0 5 = true) ∧ (decode dsX9_meets_0 6 = .ok (.iconst 0, 1) ∧ okop dsX9_meets_0 6 = true) ∧ (decode dsX9_meets_0 7 = .ok (.ldc 244, 2) ∧ okop dsX9_meets_0 7 = true) ∧ (decode dsX9_meets_0 9 = .ok (.invokestatic 59, 3) ∧ okop dsX9_meets_0 9 = true) ∧ (decode dsX9_meets_0 12 = .ok (.aload_n 0, 1) ∧ okop dsX9_meets_0 12 = true) ∧ (decode dsX9_meets_0 13 = .ok (.invokevirtual 235, 3) ∧ okop dsX9_meets_0 13 = true) ∧ (decode dsX9_meets_0 16 = .ok (.aload_n 0, 1) ∧ okop dsX9_meets_0 16 = true) := by decide +kernel
theorem dX9_meets_0 : decode cX9_meets 0 = .ok (.iload_n 1, 1) := dgq (p := 0) daX9_meets_0 dbX9_meets_0.1
theorem dX9_meets_1 : decode cX9_meets 1 = .ok (.iload_n 2, 1) := dgq (p := 1) daX9_meets_0 dbX9_meets_0.2.1
theorem dX9_meets_2 : decode cX9_meets 2 = .ok (.invokestatic 213, 3) := dgq (p := 2) daX9_meets_0 dbX9_meets_0.2.2.1
theorem dX9_meets_5 : decode cX9_meets 5 = .ok (.iload_n 3, 1) := dgq (p := 5) daX9_meets_0 dbX9_meets_0.2.2.2.1
theorem dX9_meets_6 : decode cX9_meets 6 = .ok (.iconst 0, 1) := dgq (p := 6) daX9_meets_0 dbX9_meets_0.2.2.2.2.1
theorem dX9_meets_7 : decode cX9_meets 7 = .ok (.ldc 244, 2) := dgq (p := 7) daX9_meets_0 dbX9_meets_0.2.2.2.2.2.1
theorem dX9_meets_9 : decode cX9_meets 9 = .ok (.invokestatic 59, 3) := dgq (p := 9) daX9_meets_0 dbX9_meets_0.2.2.2.2.2.2.1
theorem dX9_meets_12 : decode cX9_meets 12 = .ok (.aload_n 0, 1) := dgq (p := 12) daX9_meets_0 dbX9_meets_0.2.2.2.2.2.2.2.1
theorem dX9_meets_13 : decode cX9_meets 13 = .ok (.invokevirtual 235, 3) := dgq (p := 13) daX9_meets_0 dbX9_meets_0.2.2.2.2.2.2.2.2.1
theorem dX9_meets_16 : decode cX9_meets 16 = .ok (.aload_n 0, 1) := dgq (p := 16) daX9_meets_0 dbX9_meets_0.2.2.2.2.2.2.2.2.2
def dsX9_meets_17 : ByteArray := ⟨#[180, 0, 30, 27, 133, 28, 133, 182, 0, 238, 42, 180, 0, 30, 29, 182, 0, 245]⟩
theorem daX9_meets_17 : agB cX9_meets dsX9_meets_17 17 := agB_of (n := 18) (by decide +kernel)
theorem dbX9_meets_17 : (decode dsX9_meets_17 0 = .ok (.getfield 30, 3) ∧ okop dsX9_meets_17 0 = true) ∧ (decode dsX9_meets_17 3 = .ok (.iload_n 1, 1) ∧ okop dsX9_meets_17 3 = true) ∧ (decode dsX9_meets_17 4 = .ok (.i2l, 1) ∧ okop dsX9_meets_17 4 = true) ∧ (decode dsX9_meets_17 5 = .ok (.iload_n 2, 1) ∧ okop dsX9_meets_17 5 = true) ∧ (decode dsX9_meets_17 6 = .ok (.i2l, 1) ∧ okop dsX9_meets_17 6 = true) ∧ (decode dsX9_meets_17 7 = .ok (.invokevirtual 238, 3) ∧ okop dsX9_meets_17 7 = true) ∧ (decode dsX9_meets_17 10 = .ok (.aload_n 0, 1) ∧ okop dsX9_meets_17 10 = true) ∧ (decode dsX9_meets_17 11 = .ok (.getfield 30, 3) ∧ okop dsX9_meets_17 11 = true) ∧ (decode dsX9_meets_17 14 = .ok (.iload_n 3, 1) ∧ okop dsX9_meets_17 14 = true) ∧ (decode dsX9_meets_17 15 = .ok (.invokevirtual 245, 3) ∧ okop dsX9_meets_17 15 = true) := by decide +kernel
theorem dX9_meets_17 : decode cX9_meets 17 = .ok (.getfield 30, 3) := dgq (p := 0) daX9_meets_17 dbX9_meets_17.1
theorem dX9_meets_20 : decode cX9_meets 20 = .ok (.iload_n 1, 1) := dgq (p := 3) daX9_meets_17 dbX9_meets_17.2.1
theorem dX9_meets_21 : decode cX9_meets 21 = .ok (.i2l, 1) := dgq (p := 4) daX9_meets_17 dbX9_meets_17.2.2.1
theorem dX9_meets_22 : decode cX9_meets 22 = .ok (.iload_n 2, 1) := dgq (p := 5) daX9_meets_17 dbX9_meets_17.2.2.2.1
theorem dX9_meets_23 : decode cX9_meets 23 = .ok (.i2l, 1) := dgq (p := 6) daX9_meets_17 dbX9_meets_17.2.2.2.2.1
theorem dX9_meets_24 : decode cX9_meets 24 = .ok (.invokevirtual 238, 3) := dgq (p := 7) daX9_meets_17 dbX9_meets_17.2.2.2.2.2.1
theorem dX9_meets_27 : decode cX9_meets 27 = .ok (.aload_n 0, 1) := dgq (p := 10) daX9_meets_17 dbX9_meets_17.2.2.2.2.2.2.1
theorem dX9_meets_28 : decode cX9_meets 28 = .ok (.getfield 30, 3) := dgq (p := 11) daX9_meets_17 dbX9_meets_17.2.2.2.2.2.2.2.1
theorem dX9_meets_31 : decode cX9_meets 31 = .ok (.iload_n 3, 1) := dgq (p := 14) daX9_meets_17 dbX9_meets_17.2.2.2.2.2.2.2.2.1
theorem dX9_meets_32 : decode cX9_meets 32 = .ok (.invokevirtual 245, 3) := dgq (p := 15) daX9_meets_17 dbX9_meets_17.2.2.2.2.2.2.2.2.2
theorem dX9_meets_35 : decode cX9_meets 35 = .ok (.ireturn, 1) := by decide +kernel
set_option maxRecDepth 20000 in
theorem ggX9_setMachine_X9_needRange : GoodIn wsX9_setMachine wsX9_needRange := goodIn_ca (goodIn_q _ [6, 7, 8] rfl (by decide +kernel)) (goodIn_sub (fun _ h => List.mem_cons_of_mem _ (List.mem_append_right _ h)) (by decide +kernel))
set_option maxRecDepth 20000 in
theorem gX9_setMachine_X9_needRange : GoodIn wsX9_setMachine (va_wsS RX9 59 yX9_needRange wsX9_needRange) := goodIn_app (goodIn_q _ [3, 4, 5] rfl (by decide +kernel)) ggX9_setMachine_X9_needRange
def dsX9_setMachine_0 : ByteArray := ⟨#[27, 4, 16, 99, 184, 0, 59, 28, 5, 17, 0, 200, 184, 0, 59, 42, 180, 0, 48]⟩
theorem daX9_setMachine_0 : agB cX9_setMachine dsX9_setMachine_0 0 := agB_of (n := 19) (by decide +kernel)
theorem dbX9_setMachine_0 : (decode dsX9_setMachine_0 0 = .ok (.iload_n 1, 1) ∧ okop dsX9_setMachine_0 0 = true) ∧ (decode dsX9_setMachine_0 1 = .ok (.iconst 1, 1) ∧ okop dsX9_setMachine_0 1 = true) ∧ (decode dsX9_setMachine_0 2 = .ok (.bipush 99, 2) ∧ okop dsX9_setMachine_0 2 = true) ∧ (decode dsX9_setMachine_0 4 = .ok (.invokestatic 59, 3) ∧ okop dsX9_setMachine_0 4 = true) ∧ (decode dsX9_setMachine_0 7 = .ok (.iload_n 2, 1) ∧ okop dsX9_setMachine_0 7 = true) ∧ (decode dsX9_setMachine_0 8 = .ok (.iconst 2, 1) ∧ okop dsX9_setMachine_0 8 = true) ∧ (decode dsX9_setMachine_0 9 = .ok (.sipush 200, 3) ∧ okop dsX9_setMachine_0 9 = true) ∧ (decode dsX9_setMachine_0 12 = .ok (.invokestatic 59, 3) ∧ okop dsX9_setMachine_0 12 = true) ∧ (decode dsX9_setMachine_0 15 = .ok (.aload_n 0, 1) ∧ okop dsX9_setMachine_0 15 = true) ∧ (decode dsX9_setMachine_0 16 = .ok (.getfield 48, 3) ∧ okop dsX9_setMachine_0 16 = true) := by decide +kernel
theorem dX9_setMachine_0 : decode cX9_setMachine 0 = .ok (.iload_n 1, 1) := dgq (p := 0) daX9_setMachine_0 dbX9_setMachine_0.1
theorem dX9_setMachine_1 : decode cX9_setMachine 1 = .ok (.iconst 1, 1) := dgq (p := 1) daX9_setMachine_0 dbX9_setMachine_0.2.1
theorem dX9_setMachine_2 : decode cX9_setMachine 2 = .ok (.bipush 99, 2) := dgq (p := 2) daX9_setMachine_0 dbX9_setMachine_0.2.2.1
theorem dX9_setMachine_4 : decode cX9_setMachine 4 = .ok (.invokestatic 59, 3) := dgq (p := 4) daX9_setMachine_0 dbX9_setMachine_0.2.2.2.1
theorem dX9_setMachine_7 : decode cX9_setMachine 7 = .ok (.iload_n 2, 1) := dgq (p := 7) daX9_setMachine_0 dbX9_setMachine_0.2.2.2.2.1
theorem dX9_setMachine_8 : decode cX9_setMachine 8 = .ok (.iconst 2, 1) := dgq (p := 8) daX9_setMachine_0 dbX9_setMachine_0.2.2.2.2.2.1
theorem dX9_setMachine_9 : decode cX9_setMachine 9 = .ok (.sipush 200, 3) := dgq (p := 9) daX9_setMachine_0 dbX9_setMachine_0.2.2.2.2.2.2.1
theorem dX9_setMachine_12 : decode cX9_setMachine 12 = .ok (.invokestatic 59, 3) := dgq (p := 12) daX9_setMachine_0 dbX9_setMachine_0.2.2.2.2.2.2.2.1
theorem dX9_setMachine_15 : decode cX9_setMachine 15 = .ok (.aload_n 0, 1) := dgq (p := 15) daX9_setMachine_0 dbX9_setMachine_0.2.2.2.2.2.2.2.2.1
theorem dX9_setMachine_16 : decode cX9_setMachine 16 = .ok (.getfield 48, 3) := dgq (p := 16) daX9_setMachine_0 dbX9_setMachine_0.2.2.2.2.2.2.2.2.2
def dsX9_setMachine_19 : ByteArray := ⟨#[62, 42, 27, 181, 0, 48, 42, 28, 181, 0, 52, 29, 172]⟩
theorem daX9_setMachine_19 : agB cX9_setMachine dsX9_setMachine_19 19 := agB_of (n := 13) (by decide +kernel)
theorem dbX9_setMachine_19 : (decode dsX9_setMachine_19 0 = .ok (.istore_n 3, 1) ∧ okop dsX9_setMachine_19 0 = true) ∧ (decode dsX9_setMachine_19 1 = .ok (.aload_n 0, 1) ∧ okop dsX9_setMachine_19 1 = true) ∧ (decode dsX9_setMachine_19 2 = .ok (.iload_n 1, 1) ∧ okop dsX9_setMachine_19 2 = true) ∧ (decode dsX9_setMachine_19 3 = .ok (.putfield 48, 3) ∧ okop dsX9_setMachine_19 3 = true) ∧ (decode dsX9_setMachine_19 6 = .ok (.aload_n 0, 1) ∧ okop dsX9_setMachine_19 6 = true) ∧ (decode dsX9_setMachine_19 7 = .ok (.iload_n 2, 1) ∧ okop dsX9_setMachine_19 7 = true) ∧ (decode dsX9_setMachine_19 8 = .ok (.putfield 52, 3) ∧ okop dsX9_setMachine_19 8 = true) ∧ (decode dsX9_setMachine_19 11 = .ok (.iload_n 3, 1) ∧ okop dsX9_setMachine_19 11 = true) ∧ (decode dsX9_setMachine_19 12 = .ok (.ireturn, 1) ∧ okop dsX9_setMachine_19 12 = true) := by decide +kernel
theorem dX9_setMachine_19 : decode cX9_setMachine 19 = .ok (.istore_n 3, 1) := dgq (p := 0) daX9_setMachine_19 dbX9_setMachine_19.1
theorem dX9_setMachine_20 : decode cX9_setMachine 20 = .ok (.aload_n 0, 1) := dgq (p := 1) daX9_setMachine_19 dbX9_setMachine_19.2.1
theorem dX9_setMachine_21 : decode cX9_setMachine 21 = .ok (.iload_n 1, 1) := dgq (p := 2) daX9_setMachine_19 dbX9_setMachine_19.2.2.1
theorem dX9_setMachine_22 : decode cX9_setMachine 22 = .ok (.putfield 48, 3) := dgq (p := 3) daX9_setMachine_19 dbX9_setMachine_19.2.2.2.1
theorem dX9_setMachine_25 : decode cX9_setMachine 25 = .ok (.aload_n 0, 1) := dgq (p := 6) daX9_setMachine_19 dbX9_setMachine_19.2.2.2.2.1
theorem dX9_setMachine_26 : decode cX9_setMachine 26 = .ok (.iload_n 2, 1) := dgq (p := 7) daX9_setMachine_19 dbX9_setMachine_19.2.2.2.2.2.1
theorem dX9_setMachine_27 : decode cX9_setMachine 27 = .ok (.putfield 52, 3) := dgq (p := 8) daX9_setMachine_19 dbX9_setMachine_19.2.2.2.2.2.2.1
theorem dX9_setMachine_30 : decode cX9_setMachine 30 = .ok (.iload_n 3, 1) := dgq (p := 11) daX9_setMachine_19 dbX9_setMachine_19.2.2.2.2.2.2.2.1
theorem dX9_setMachine_31 : decode cX9_setMachine 31 = .ok (.ireturn, 1) := dgq (p := 12) daX9_setMachine_19 dbX9_setMachine_19.2.2.2.2.2.2.2.2
set_option maxRecDepth 20000 in
theorem ggX9_hob_X9_needRange : GoodIn wsX9_hob wsX9_needRange := goodIn_ca (goodIn_q _ [12, 13, 14] rfl (by decide +kernel)) (goodIn_sub (fun _ h => List.mem_cons_of_mem _ (List.mem_append_right _ h)) (by decide +kernel))
set_option maxRecDepth 20000 in
theorem gX9_hob_X9_needRange : GoodIn wsX9_hob (va_wsS RX9 59 yX9_needRange wsX9_needRange) := goodIn_app (goodIn_q _ [9, 10, 11] rfl (by decide +kernel)) ggX9_hob_X9_needRange
set_option maxRecDepth 20000 in
theorem ggX9_hob_X3_init : GoodIn wsX9_hob wsX3_init := goodIn_ca (goodIn_q _ [17, 18, 19, 20, 21, 22, 23, 24, 25] rfl (by decide +kernel)) (goodIn_sub (fun _ h => (List.mem_cons_of_mem _ (List.mem_append_left _ (List.mem_append_left _ (List.mem_append_right _ h))))) tg_wsX30)
set_option maxRecDepth 20000 in
theorem gX9_hob_X3_init : GoodIn wsX9_hob (wsX3_init) := ggX9_hob_X3_init
def dsX9_hob_0 : ByteArray := ⟨#[27, 17, 1, 244, 17, 39, 16, 184, 0, 59, 28, 4, 7, 184, 0, 59, 29, 17, 78, 32]⟩
theorem daX9_hob_0 : agB cX9_hob dsX9_hob_0 0 := agB_of (n := 20) (by decide +kernel)
theorem dbX9_hob_0 : (decode dsX9_hob_0 0 = .ok (.iload_n 1, 1) ∧ okop dsX9_hob_0 0 = true) ∧ (decode dsX9_hob_0 1 = .ok (.sipush 500, 3) ∧ okop dsX9_hob_0 1 = true) ∧ (decode dsX9_hob_0 4 = .ok (.sipush 10000, 3) ∧ okop dsX9_hob_0 4 = true) ∧ (decode dsX9_hob_0 7 = .ok (.invokestatic 59, 3) ∧ okop dsX9_hob_0 7 = true) ∧ (decode dsX9_hob_0 10 = .ok (.iload_n 2, 1) ∧ okop dsX9_hob_0 10 = true) ∧ (decode dsX9_hob_0 11 = .ok (.iconst 1, 1) ∧ okop dsX9_hob_0 11 = true) ∧ (decode dsX9_hob_0 12 = .ok (.iconst 4, 1) ∧ okop dsX9_hob_0 12 = true) ∧ (decode dsX9_hob_0 13 = .ok (.invokestatic 59, 3) ∧ okop dsX9_hob_0 13 = true) ∧ (decode dsX9_hob_0 16 = .ok (.iload_n 3, 1) ∧ okop dsX9_hob_0 16 = true) ∧ (decode dsX9_hob_0 17 = .ok (.sipush 20000, 3) ∧ okop dsX9_hob_0 17 = true) := by decide +kernel
theorem dX9_hob_0 : decode cX9_hob 0 = .ok (.iload_n 1, 1) := dgq (p := 0) daX9_hob_0 dbX9_hob_0.1
theorem dX9_hob_1 : decode cX9_hob 1 = .ok (.sipush 500, 3) := dgq (p := 1) daX9_hob_0 dbX9_hob_0.2.1
theorem dX9_hob_4 : decode cX9_hob 4 = .ok (.sipush 10000, 3) := dgq (p := 4) daX9_hob_0 dbX9_hob_0.2.2.1
theorem dX9_hob_7 : decode cX9_hob 7 = .ok (.invokestatic 59, 3) := dgq (p := 7) daX9_hob_0 dbX9_hob_0.2.2.2.1
theorem dX9_hob_10 : decode cX9_hob 10 = .ok (.iload_n 2, 1) := dgq (p := 10) daX9_hob_0 dbX9_hob_0.2.2.2.2.1
theorem dX9_hob_11 : decode cX9_hob 11 = .ok (.iconst 1, 1) := dgq (p := 11) daX9_hob_0 dbX9_hob_0.2.2.2.2.2.1
theorem dX9_hob_12 : decode cX9_hob 12 = .ok (.iconst 4, 1) := dgq (p := 12) daX9_hob_0 dbX9_hob_0.2.2.2.2.2.2.1
theorem dX9_hob_13 : decode cX9_hob 13 = .ok (.invokestatic 59, 3) := dgq (p := 13) daX9_hob_0 dbX9_hob_0.2.2.2.2.2.2.2.1
theorem dX9_hob_16 : decode cX9_hob 16 = .ok (.iload_n 3, 1) := dgq (p := 16) daX9_hob_0 dbX9_hob_0.2.2.2.2.2.2.2.2.1
theorem dX9_hob_17 : decode cX9_hob 17 = .ok (.sipush 20000, 3) := dgq (p := 17) daX9_hob_0 dbX9_hob_0.2.2.2.2.2.2.2.2.2
def dsX9_hob_20 : ByteArray := ⟨#[18, 248, 184, 0, 59, 21, 4, 4, 16, 20, 184, 0, 59, 42, 180, 0, 249, 42, 180, 0, 17]⟩
theorem daX9_hob_20 : agB cX9_hob dsX9_hob_20 20 := agB_of (n := 21) (by decide +kernel)
theorem dbX9_hob_20 : (decode dsX9_hob_20 0 = .ok (.ldc 248, 2) ∧ okop dsX9_hob_20 0 = true) ∧ (decode dsX9_hob_20 2 = .ok (.invokestatic 59, 3) ∧ okop dsX9_hob_20 2 = true) ∧ (decode dsX9_hob_20 5 = .ok (.iload 4, 2) ∧ okop dsX9_hob_20 5 = true) ∧ (decode dsX9_hob_20 7 = .ok (.iconst 1, 1) ∧ okop dsX9_hob_20 7 = true) ∧ (decode dsX9_hob_20 8 = .ok (.bipush 20, 2) ∧ okop dsX9_hob_20 8 = true) ∧ (decode dsX9_hob_20 10 = .ok (.invokestatic 59, 3) ∧ okop dsX9_hob_20 10 = true) ∧ (decode dsX9_hob_20 13 = .ok (.aload_n 0, 1) ∧ okop dsX9_hob_20 13 = true) ∧ (decode dsX9_hob_20 14 = .ok (.getfield 249, 3) ∧ okop dsX9_hob_20 14 = true) ∧ (decode dsX9_hob_20 17 = .ok (.aload_n 0, 1) ∧ okop dsX9_hob_20 17 = true) ∧ (decode dsX9_hob_20 18 = .ok (.getfield 17, 3) ∧ okop dsX9_hob_20 18 = true) := by decide +kernel
theorem dX9_hob_20 : decode cX9_hob 20 = .ok (.ldc 248, 2) := dgq (p := 0) daX9_hob_20 dbX9_hob_20.1
theorem dX9_hob_22 : decode cX9_hob 22 = .ok (.invokestatic 59, 3) := dgq (p := 2) daX9_hob_20 dbX9_hob_20.2.1
theorem dX9_hob_25 : decode cX9_hob 25 = .ok (.iload 4, 2) := dgq (p := 5) daX9_hob_20 dbX9_hob_20.2.2.1
theorem dX9_hob_27 : decode cX9_hob 27 = .ok (.iconst 1, 1) := dgq (p := 7) daX9_hob_20 dbX9_hob_20.2.2.2.1
theorem dX9_hob_28 : decode cX9_hob 28 = .ok (.bipush 20, 2) := dgq (p := 8) daX9_hob_20 dbX9_hob_20.2.2.2.2.1
theorem dX9_hob_30 : decode cX9_hob 30 = .ok (.invokestatic 59, 3) := dgq (p := 10) daX9_hob_20 dbX9_hob_20.2.2.2.2.2.1
theorem dX9_hob_33 : decode cX9_hob 33 = .ok (.aload_n 0, 1) := dgq (p := 13) daX9_hob_20 dbX9_hob_20.2.2.2.2.2.2.1
theorem dX9_hob_34 : decode cX9_hob 34 = .ok (.getfield 249, 3) := dgq (p := 14) daX9_hob_20 dbX9_hob_20.2.2.2.2.2.2.2.1
theorem dX9_hob_37 : decode cX9_hob 37 = .ok (.aload_n 0, 1) := dgq (p := 17) daX9_hob_20 dbX9_hob_20.2.2.2.2.2.2.2.2.1
theorem dX9_hob_38 : decode cX9_hob 38 = .ok (.getfield 17, 3) := dgq (p := 18) daX9_hob_20 dbX9_hob_20.2.2.2.2.2.2.2.2.2
def dsX9_hob_41 : ByteArray := ⟨#[190, 161, 0, 13, 187, 0, 67, 89, 18, 252, 183, 0, 71, 191, 42, 180, 0, 249, 54, 5]⟩
theorem daX9_hob_41 : agB cX9_hob dsX9_hob_41 41 := agB_of (n := 20) (by decide +kernel)
theorem dbX9_hob_41 : (decode dsX9_hob_41 0 = .ok (.arraylength, 1) ∧ okop dsX9_hob_41 0 = true) ∧ (decode dsX9_hob_41 1 = .ok (.if_icmp .lt 13, 3) ∧ okop dsX9_hob_41 1 = true) ∧ (decode dsX9_hob_41 4 = .ok (.new 67, 3) ∧ okop dsX9_hob_41 4 = true) ∧ (decode dsX9_hob_41 7 = .ok (.dup, 1) ∧ okop dsX9_hob_41 7 = true) ∧ (decode dsX9_hob_41 8 = .ok (.ldc 252, 2) ∧ okop dsX9_hob_41 8 = true) ∧ (decode dsX9_hob_41 10 = .ok (.invokespecial 71, 3) ∧ okop dsX9_hob_41 10 = true) ∧ (decode dsX9_hob_41 13 = .ok (.athrow, 1) ∧ okop dsX9_hob_41 13 = true) ∧ (decode dsX9_hob_41 14 = .ok (.aload_n 0, 1) ∧ okop dsX9_hob_41 14 = true) ∧ (decode dsX9_hob_41 15 = .ok (.getfield 249, 3) ∧ okop dsX9_hob_41 15 = true) ∧ (decode dsX9_hob_41 18 = .ok (.istore 5, 2) ∧ okop dsX9_hob_41 18 = true) := by decide +kernel
theorem dX9_hob_41 : decode cX9_hob 41 = .ok (.arraylength, 1) := dgq (p := 0) daX9_hob_41 dbX9_hob_41.1
theorem dX9_hob_42 : decode cX9_hob 42 = .ok (.if_icmp .lt 13, 3) := dgq (p := 1) daX9_hob_41 dbX9_hob_41.2.1
theorem dX9_hob_45 : decode cX9_hob 45 = .ok (.new 67, 3) := dgq (p := 4) daX9_hob_41 dbX9_hob_41.2.2.1
theorem dX9_hob_48 : decode cX9_hob 48 = .ok (.dup, 1) := dgq (p := 7) daX9_hob_41 dbX9_hob_41.2.2.2.1
theorem dX9_hob_49 : decode cX9_hob 49 = .ok (.ldc 252, 2) := dgq (p := 8) daX9_hob_41 dbX9_hob_41.2.2.2.2.1
theorem dX9_hob_51 : decode cX9_hob 51 = .ok (.invokespecial 71, 3) := dgq (p := 10) daX9_hob_41 dbX9_hob_41.2.2.2.2.2.1
theorem dX9_hob_54 : decode cX9_hob 54 = .ok (.athrow, 1) := dgq (p := 13) daX9_hob_41 dbX9_hob_41.2.2.2.2.2.2.1
theorem dX9_hob_55 : decode cX9_hob 55 = .ok (.aload_n 0, 1) := dgq (p := 14) daX9_hob_41 dbX9_hob_41.2.2.2.2.2.2.2.1
theorem dX9_hob_56 : decode cX9_hob 56 = .ok (.getfield 249, 3) := dgq (p := 15) daX9_hob_41 dbX9_hob_41.2.2.2.2.2.2.2.2.1
theorem dX9_hob_59 : decode cX9_hob 59 = .ok (.istore 5, 2) := dgq (p := 18) daX9_hob_41 dbX9_hob_41.2.2.2.2.2.2.2.2.2
def dsX9_hob_61 : ByteArray := ⟨#[42, 180, 0, 17, 21, 5, 187, 0, 15, 89, 27, 28, 29, 21, 4, 183, 0, 254]⟩
theorem daX9_hob_61 : agB cX9_hob dsX9_hob_61 61 := agB_of (n := 18) (by decide +kernel)
theorem dbX9_hob_61 : (decode dsX9_hob_61 0 = .ok (.aload_n 0, 1) ∧ okop dsX9_hob_61 0 = true) ∧ (decode dsX9_hob_61 1 = .ok (.getfield 17, 3) ∧ okop dsX9_hob_61 1 = true) ∧ (decode dsX9_hob_61 4 = .ok (.iload 5, 2) ∧ okop dsX9_hob_61 4 = true) ∧ (decode dsX9_hob_61 6 = .ok (.new 15, 3) ∧ okop dsX9_hob_61 6 = true) ∧ (decode dsX9_hob_61 9 = .ok (.dup, 1) ∧ okop dsX9_hob_61 9 = true) ∧ (decode dsX9_hob_61 10 = .ok (.iload_n 1, 1) ∧ okop dsX9_hob_61 10 = true) ∧ (decode dsX9_hob_61 11 = .ok (.iload_n 2, 1) ∧ okop dsX9_hob_61 11 = true) ∧ (decode dsX9_hob_61 12 = .ok (.iload_n 3, 1) ∧ okop dsX9_hob_61 12 = true) ∧ (decode dsX9_hob_61 13 = .ok (.iload 4, 2) ∧ okop dsX9_hob_61 13 = true) ∧ (decode dsX9_hob_61 15 = .ok (.invokespecial 254, 3) ∧ okop dsX9_hob_61 15 = true) := by decide +kernel
theorem dX9_hob_61 : decode cX9_hob 61 = .ok (.aload_n 0, 1) := dgq (p := 0) daX9_hob_61 dbX9_hob_61.1
theorem dX9_hob_62 : decode cX9_hob 62 = .ok (.getfield 17, 3) := dgq (p := 1) daX9_hob_61 dbX9_hob_61.2.1
theorem dX9_hob_65 : decode cX9_hob 65 = .ok (.iload 5, 2) := dgq (p := 4) daX9_hob_61 dbX9_hob_61.2.2.1
theorem dX9_hob_67 : decode cX9_hob 67 = .ok (.new 15, 3) := dgq (p := 6) daX9_hob_61 dbX9_hob_61.2.2.2.1
theorem dX9_hob_70 : decode cX9_hob 70 = .ok (.dup, 1) := dgq (p := 9) daX9_hob_61 dbX9_hob_61.2.2.2.2.1
theorem dX9_hob_71 : decode cX9_hob 71 = .ok (.iload_n 1, 1) := dgq (p := 10) daX9_hob_61 dbX9_hob_61.2.2.2.2.2.1
theorem dX9_hob_72 : decode cX9_hob 72 = .ok (.iload_n 2, 1) := dgq (p := 11) daX9_hob_61 dbX9_hob_61.2.2.2.2.2.2.1
theorem dX9_hob_73 : decode cX9_hob 73 = .ok (.iload_n 3, 1) := dgq (p := 12) daX9_hob_61 dbX9_hob_61.2.2.2.2.2.2.2.1
theorem dX9_hob_74 : decode cX9_hob 74 = .ok (.iload 4, 2) := dgq (p := 13) daX9_hob_61 dbX9_hob_61.2.2.2.2.2.2.2.2.1
theorem dX9_hob_76 : decode cX9_hob 76 = .ok (.invokespecial 254, 3) := dgq (p := 15) daX9_hob_61 dbX9_hob_61.2.2.2.2.2.2.2.2.2
def dsX9_hob_79 : ByteArray := ⟨#[83, 42, 89, 180, 0, 249, 4, 96, 181, 0, 249, 21, 5, 172]⟩
theorem daX9_hob_79 : agB cX9_hob dsX9_hob_79 79 := agB_of (n := 14) (by decide +kernel)
theorem dbX9_hob_79 : (decode dsX9_hob_79 0 = .ok (.aastore, 1) ∧ okop dsX9_hob_79 0 = true) ∧ (decode dsX9_hob_79 1 = .ok (.aload_n 0, 1) ∧ okop dsX9_hob_79 1 = true) ∧ (decode dsX9_hob_79 2 = .ok (.dup, 1) ∧ okop dsX9_hob_79 2 = true) ∧ (decode dsX9_hob_79 3 = .ok (.getfield 249, 3) ∧ okop dsX9_hob_79 3 = true) ∧ (decode dsX9_hob_79 6 = .ok (.iconst 1, 1) ∧ okop dsX9_hob_79 6 = true) ∧ (decode dsX9_hob_79 7 = .ok (.iadd, 1) ∧ okop dsX9_hob_79 7 = true) ∧ (decode dsX9_hob_79 8 = .ok (.putfield 249, 3) ∧ okop dsX9_hob_79 8 = true) ∧ (decode dsX9_hob_79 11 = .ok (.iload 5, 2) ∧ okop dsX9_hob_79 11 = true) ∧ (decode dsX9_hob_79 13 = .ok (.ireturn, 1) ∧ okop dsX9_hob_79 13 = true) := by decide +kernel
theorem dX9_hob_79 : decode cX9_hob 79 = .ok (.aastore, 1) := dgq (p := 0) daX9_hob_79 dbX9_hob_79.1
theorem dX9_hob_80 : decode cX9_hob 80 = .ok (.aload_n 0, 1) := dgq (p := 1) daX9_hob_79 dbX9_hob_79.2.1
theorem dX9_hob_81 : decode cX9_hob 81 = .ok (.dup, 1) := dgq (p := 2) daX9_hob_79 dbX9_hob_79.2.2.1
theorem dX9_hob_82 : decode cX9_hob 82 = .ok (.getfield 249, 3) := dgq (p := 3) daX9_hob_79 dbX9_hob_79.2.2.2.1
theorem dX9_hob_85 : decode cX9_hob 85 = .ok (.iconst 1, 1) := dgq (p := 6) daX9_hob_79 dbX9_hob_79.2.2.2.2.1
theorem dX9_hob_86 : decode cX9_hob 86 = .ok (.iadd, 1) := dgq (p := 7) daX9_hob_79 dbX9_hob_79.2.2.2.2.2.1
theorem dX9_hob_87 : decode cX9_hob 87 = .ok (.putfield 249, 3) := dgq (p := 8) daX9_hob_79 dbX9_hob_79.2.2.2.2.2.2.1
theorem dX9_hob_90 : decode cX9_hob 90 = .ok (.iload 5, 2) := dgq (p := 11) daX9_hob_79 dbX9_hob_79.2.2.2.2.2.2.2.1
theorem dX9_hob_92 : decode cX9_hob 92 = .ok (.ireturn, 1) := dgq (p := 13) daX9_hob_79 dbX9_hob_79.2.2.2.2.2.2.2.2
set_option maxRecDepth 20000 in
theorem ggX9_indexes_X9_gearAt : GoodIn wsX9_indexes wsX9_gearAt := goodIn_ca (goodIn_ca (goodIn_q _ [10, 11, 12, 13, 14] rfl (by decide +kernel)) (goodIn_sub (fun _ h => (List.mem_cons_of_mem _ (List.mem_append_left _ (List.mem_append_left _ (List.mem_append_left _ (List.mem_append_left _ (List.mem_append_left _ (List.mem_append_left _ (List.mem_append_left _ (List.mem_append_right _ h)))))))))) tg_wsX90)) (goodIn_sub (fun _ h => List.mem_cons_of_mem _ (List.mem_append_left _ (List.mem_append_left _ (List.mem_append_left _ (List.mem_append_right _ h))))) (by decide +kernel))
set_option maxRecDepth 20000 in
theorem gX9_indexes_X9_gearAt : GoodIn wsX9_indexes (wsV RX9 77 RX9 yX9_gearAt wsX9_gearAt) := goodIn_app (goodIn_q _ [6, 7, 8, 9] rfl (by decide +kernel)) ggX9_indexes_X9_gearAt
set_option maxRecDepth 20000 in
theorem ggX9_indexes_X9_hobAt : GoodIn wsX9_indexes wsX9_hobAt := goodIn_ca (goodIn_ca (goodIn_q _ [18, 11, 12, 19, 20] rfl (by decide +kernel)) (goodIn_sub (fun _ h => (List.mem_cons_of_mem _ (List.mem_append_left _ (List.mem_append_left _ (List.mem_append_left _ (List.mem_append_left _ (List.mem_append_left _ (List.mem_append_left _ (List.mem_append_left _ (List.mem_append_right _ h)))))))))) tg_wsX90)) (goodIn_sub (fun _ h => List.mem_cons_of_mem _ (List.mem_append_left _ (List.mem_append_left _ (List.mem_append_left _ (List.mem_append_right _ h))))) (by decide +kernel))
set_option maxRecDepth 20000 in
theorem gX9_indexes_X9_hobAt : GoodIn wsX9_indexes (wsV RX9 257 RX9 yX9_hobAt wsX9_hobAt) := goodIn_app (goodIn_q _ [15, 16, 17, 9] rfl (by decide +kernel)) ggX9_indexes_X9_hobAt
set_option maxRecDepth 20000 in
theorem ggX9_indexes_X9_needRange : GoodIn wsX9_indexes wsX9_needRange := goodIn_ca (goodIn_q _ [23, 24, 25] rfl (by decide +kernel)) (goodIn_sub (fun _ h => List.mem_cons_of_mem _ (List.mem_append_left _ (List.mem_append_left _ (List.mem_append_right _ h)))) (by decide +kernel))
set_option maxRecDepth 20000 in
theorem gX9_indexes_X9_needRange : GoodIn wsX9_indexes (va_wsS RX9 59 yX9_needRange wsX9_needRange) := goodIn_app (goodIn_q _ [21, 22, 9] rfl (by decide +kernel)) ggX9_indexes_X9_needRange
set_option maxRecDepth 20000 in
theorem ggX9_indexes_X9_needFourWheels : GoodIn wsX9_indexes wsX9_needFourWheels := goodIn_ca (goodIn_ca (goodIn_ca (goodIn_q _ [29, 30, 31, 2, 32, 33, 34, 35, 36, 37] rfl (by decide +kernel)) (goodIn_sub (fun _ h => (List.mem_cons_of_mem _ (List.mem_append_left _ (List.mem_append_left _ (List.mem_append_left _ (List.mem_append_left _ (List.mem_append_left _ (List.mem_append_left _ (List.mem_append_left _ (List.mem_append_right _ h)))))))))) tg_wsX90)) (goodIn_sub (fun _ h => (List.mem_cons_of_mem _ (List.mem_append_left _ (List.mem_append_left _ (List.mem_append_left _ (List.mem_append_left _ (List.mem_append_right _ h))))))) tg_wsX00)) (goodIn_sub (fun _ h => List.mem_cons_of_mem _ (List.mem_append_left _ (List.mem_append_right _ h))) (by decide +kernel))
set_option maxRecDepth 20000 in
theorem gX9_indexes_X9_needFourWheels : GoodIn wsX9_indexes (wsV RX9 235 RX9 yX9_needFourWheels wsX9_needFourWheels) := goodIn_app (goodIn_q _ [26, 27, 28, 9] rfl (by decide +kernel)) ggX9_indexes_X9_needFourWheels
set_option maxRecDepth 20000 in
theorem ggX9_indexes_X0_search : GoodIn wsX9_indexes wsX0_search := goodIn_ca (goodIn_ca (goodIn_q _ [41, 42, 43, 44, 45, 46, 37, 47, 48, 49, 35, 50, 51, 52, 53, 54, 55, 56, 57, 58, 59, 60] rfl (by decide +kernel)) (goodIn_sub (fun _ h => (List.mem_cons_of_mem _ (List.mem_append_left _ (List.mem_append_left _ (List.mem_append_left _ (List.mem_append_left _ (List.mem_append_right _ h))))))) tg_wsX00)) (goodIn_sub (fun _ h => List.mem_cons_of_mem _ (List.mem_append_right _ h)) (by decide +kernel))
set_option maxRecDepth 20000 in
theorem gX9_indexes_X0_search : GoodIn wsX9_indexes (wsV RX9 238 RX0 yX0_search wsX0_search) := goodIn_app (goodIn_q _ [38, 39, 40, 35] rfl (by decide +kernel)) ggX9_indexes_X0_search
set_option maxRecDepth 20000 in
theorem ggX9_indexes_X0_isMet : GoodIn wsX9_indexes wsX0_isMet := goodIn_ca (goodIn_q _ [64, 65, 45, 42, 46] rfl (by decide +kernel)) (goodIn_sub (fun _ h => (List.mem_cons_of_mem _ (List.mem_append_left _ (List.mem_append_left _ (List.mem_append_left _ (List.mem_append_left _ (List.mem_append_right _ h))))))) tg_wsX00)
set_option maxRecDepth 20000 in
theorem gX9_indexes_X0_isMet : GoodIn wsX9_indexes (wsV RX9 245 RX0 yX0_isMet wsX0_isMet) := goodIn_app (goodIn_q _ [61, 62, 63, 35] rfl (by decide +kernel)) ggX9_indexes_X0_isMet
def dsX9_indexes_0 : ByteArray := ⟨#[42, 27, 182, 0, 77, 58, 4, 42, 28, 182, 1, 1, 58, 5, 29, 3]⟩
theorem daX9_indexes_0 : agB cX9_indexes dsX9_indexes_0 0 := agB_of (n := 16) (by decide +kernel)
theorem dbX9_indexes_0 : (decode dsX9_indexes_0 0 = .ok (.aload_n 0, 1) ∧ okop dsX9_indexes_0 0 = true) ∧ (decode dsX9_indexes_0 1 = .ok (.iload_n 1, 1) ∧ okop dsX9_indexes_0 1 = true) ∧ (decode dsX9_indexes_0 2 = .ok (.invokevirtual 77, 3) ∧ okop dsX9_indexes_0 2 = true) ∧ (decode dsX9_indexes_0 5 = .ok (.astore 4, 2) ∧ okop dsX9_indexes_0 5 = true) ∧ (decode dsX9_indexes_0 7 = .ok (.aload_n 0, 1) ∧ okop dsX9_indexes_0 7 = true) ∧ (decode dsX9_indexes_0 8 = .ok (.iload_n 2, 1) ∧ okop dsX9_indexes_0 8 = true) ∧ (decode dsX9_indexes_0 9 = .ok (.invokevirtual 257, 3) ∧ okop dsX9_indexes_0 9 = true) ∧ (decode dsX9_indexes_0 12 = .ok (.astore 5, 2) ∧ okop dsX9_indexes_0 12 = true) ∧ (decode dsX9_indexes_0 14 = .ok (.iload_n 3, 1) ∧ okop dsX9_indexes_0 14 = true) ∧ (decode dsX9_indexes_0 15 = .ok (.iconst 0, 1) ∧ okop dsX9_indexes_0 15 = true) := by decide +kernel
theorem dX9_indexes_0 : decode cX9_indexes 0 = .ok (.aload_n 0, 1) := dgq (p := 0) daX9_indexes_0 dbX9_indexes_0.1
theorem dX9_indexes_1 : decode cX9_indexes 1 = .ok (.iload_n 1, 1) := dgq (p := 1) daX9_indexes_0 dbX9_indexes_0.2.1
theorem dX9_indexes_2 : decode cX9_indexes 2 = .ok (.invokevirtual 77, 3) := dgq (p := 2) daX9_indexes_0 dbX9_indexes_0.2.2.1
theorem dX9_indexes_5 : decode cX9_indexes 5 = .ok (.astore 4, 2) := dgq (p := 5) daX9_indexes_0 dbX9_indexes_0.2.2.2.1
theorem dX9_indexes_7 : decode cX9_indexes 7 = .ok (.aload_n 0, 1) := dgq (p := 7) daX9_indexes_0 dbX9_indexes_0.2.2.2.2.1
theorem dX9_indexes_8 : decode cX9_indexes 8 = .ok (.iload_n 2, 1) := dgq (p := 8) daX9_indexes_0 dbX9_indexes_0.2.2.2.2.2.1
theorem dX9_indexes_9 : decode cX9_indexes 9 = .ok (.invokevirtual 257, 3) := dgq (p := 9) daX9_indexes_0 dbX9_indexes_0.2.2.2.2.2.2.1
theorem dX9_indexes_12 : decode cX9_indexes 12 = .ok (.astore 5, 2) := dgq (p := 12) daX9_indexes_0 dbX9_indexes_0.2.2.2.2.2.2.2.1
theorem dX9_indexes_14 : decode cX9_indexes 14 = .ok (.iload_n 3, 1) := dgq (p := 14) daX9_indexes_0 dbX9_indexes_0.2.2.2.2.2.2.2.2.1
theorem dX9_indexes_15 : decode cX9_indexes 15 = .ok (.iconst 0, 1) := dgq (p := 15) daX9_indexes_0 dbX9_indexes_0.2.2.2.2.2.2.2.2.2
def dsX9_indexes_16 : ByteArray := ⟨#[18, 244, 184, 0, 59, 42, 182, 0, 235, 42, 180, 0, 30, 42, 180, 0, 48, 25, 5, 180, 1, 5]⟩
theorem daX9_indexes_16 : agB cX9_indexes dsX9_indexes_16 16 := agB_of (n := 22) (by decide +kernel)
theorem dbX9_indexes_16 : (decode dsX9_indexes_16 0 = .ok (.ldc 244, 2) ∧ okop dsX9_indexes_16 0 = true) ∧ (decode dsX9_indexes_16 2 = .ok (.invokestatic 59, 3) ∧ okop dsX9_indexes_16 2 = true) ∧ (decode dsX9_indexes_16 5 = .ok (.aload_n 0, 1) ∧ okop dsX9_indexes_16 5 = true) ∧ (decode dsX9_indexes_16 6 = .ok (.invokevirtual 235, 3) ∧ okop dsX9_indexes_16 6 = true) ∧ (decode dsX9_indexes_16 9 = .ok (.aload_n 0, 1) ∧ okop dsX9_indexes_16 9 = true) ∧ (decode dsX9_indexes_16 10 = .ok (.getfield 30, 3) ∧ okop dsX9_indexes_16 10 = true) ∧ (decode dsX9_indexes_16 13 = .ok (.aload_n 0, 1) ∧ okop dsX9_indexes_16 13 = true) ∧ (decode dsX9_indexes_16 14 = .ok (.getfield 48, 3) ∧ okop dsX9_indexes_16 14 = true) ∧ (decode dsX9_indexes_16 17 = .ok (.aload 5, 2) ∧ okop dsX9_indexes_16 17 = true) ∧ (decode dsX9_indexes_16 19 = .ok (.getfield 261, 3) ∧ okop dsX9_indexes_16 19 = true) := by decide +kernel
theorem dX9_indexes_16 : decode cX9_indexes 16 = .ok (.ldc 244, 2) := dgq (p := 0) daX9_indexes_16 dbX9_indexes_16.1
theorem dX9_indexes_18 : decode cX9_indexes 18 = .ok (.invokestatic 59, 3) := dgq (p := 2) daX9_indexes_16 dbX9_indexes_16.2.1
theorem dX9_indexes_21 : decode cX9_indexes 21 = .ok (.aload_n 0, 1) := dgq (p := 5) daX9_indexes_16 dbX9_indexes_16.2.2.1
theorem dX9_indexes_22 : decode cX9_indexes 22 = .ok (.invokevirtual 235, 3) := dgq (p := 6) daX9_indexes_16 dbX9_indexes_16.2.2.2.1
theorem dX9_indexes_25 : decode cX9_indexes 25 = .ok (.aload_n 0, 1) := dgq (p := 9) daX9_indexes_16 dbX9_indexes_16.2.2.2.2.1
theorem dX9_indexes_26 : decode cX9_indexes 26 = .ok (.getfield 30, 3) := dgq (p := 10) daX9_indexes_16 dbX9_indexes_16.2.2.2.2.2.1
theorem dX9_indexes_29 : decode cX9_indexes 29 = .ok (.aload_n 0, 1) := dgq (p := 13) daX9_indexes_16 dbX9_indexes_16.2.2.2.2.2.2.1
theorem dX9_indexes_30 : decode cX9_indexes 30 = .ok (.getfield 48, 3) := dgq (p := 14) daX9_indexes_16 dbX9_indexes_16.2.2.2.2.2.2.2.1
theorem dX9_indexes_33 : decode cX9_indexes 33 = .ok (.aload 5, 2) := dgq (p := 17) daX9_indexes_16 dbX9_indexes_16.2.2.2.2.2.2.2.2.1
theorem dX9_indexes_35 : decode cX9_indexes 35 = .ok (.getfield 261, 3) := dgq (p := 19) daX9_indexes_16 dbX9_indexes_16.2.2.2.2.2.2.2.2.2
def dsX9_indexes_38 : ByteArray := ⟨#[104, 133, 25, 4, 180, 0, 100, 133, 182, 0, 238, 42, 180, 0, 30, 29, 182, 0, 245]⟩
theorem daX9_indexes_38 : agB cX9_indexes dsX9_indexes_38 38 := agB_of (n := 19) (by decide +kernel)
theorem dbX9_indexes_38 : (decode dsX9_indexes_38 0 = .ok (.imul, 1) ∧ okop dsX9_indexes_38 0 = true) ∧ (decode dsX9_indexes_38 1 = .ok (.i2l, 1) ∧ okop dsX9_indexes_38 1 = true) ∧ (decode dsX9_indexes_38 2 = .ok (.aload 4, 2) ∧ okop dsX9_indexes_38 2 = true) ∧ (decode dsX9_indexes_38 4 = .ok (.getfield 100, 3) ∧ okop dsX9_indexes_38 4 = true) ∧ (decode dsX9_indexes_38 7 = .ok (.i2l, 1) ∧ okop dsX9_indexes_38 7 = true) ∧ (decode dsX9_indexes_38 8 = .ok (.invokevirtual 238, 3) ∧ okop dsX9_indexes_38 8 = true) ∧ (decode dsX9_indexes_38 11 = .ok (.aload_n 0, 1) ∧ okop dsX9_indexes_38 11 = true) ∧ (decode dsX9_indexes_38 12 = .ok (.getfield 30, 3) ∧ okop dsX9_indexes_38 12 = true) ∧ (decode dsX9_indexes_38 15 = .ok (.iload_n 3, 1) ∧ okop dsX9_indexes_38 15 = true) ∧ (decode dsX9_indexes_38 16 = .ok (.invokevirtual 245, 3) ∧ okop dsX9_indexes_38 16 = true) := by decide +kernel
theorem dX9_indexes_38 : decode cX9_indexes 38 = .ok (.imul, 1) := dgq (p := 0) daX9_indexes_38 dbX9_indexes_38.1
theorem dX9_indexes_39 : decode cX9_indexes 39 = .ok (.i2l, 1) := dgq (p := 1) daX9_indexes_38 dbX9_indexes_38.2.1
theorem dX9_indexes_40 : decode cX9_indexes 40 = .ok (.aload 4, 2) := dgq (p := 2) daX9_indexes_38 dbX9_indexes_38.2.2.1
theorem dX9_indexes_42 : decode cX9_indexes 42 = .ok (.getfield 100, 3) := dgq (p := 4) daX9_indexes_38 dbX9_indexes_38.2.2.2.1
theorem dX9_indexes_45 : decode cX9_indexes 45 = .ok (.i2l, 1) := dgq (p := 7) daX9_indexes_38 dbX9_indexes_38.2.2.2.2.1
theorem dX9_indexes_46 : decode cX9_indexes 46 = .ok (.invokevirtual 238, 3) := dgq (p := 8) daX9_indexes_38 dbX9_indexes_38.2.2.2.2.2.1
theorem dX9_indexes_49 : decode cX9_indexes 49 = .ok (.aload_n 0, 1) := dgq (p := 11) daX9_indexes_38 dbX9_indexes_38.2.2.2.2.2.2.1
theorem dX9_indexes_50 : decode cX9_indexes 50 = .ok (.getfield 30, 3) := dgq (p := 12) daX9_indexes_38 dbX9_indexes_38.2.2.2.2.2.2.2.1
theorem dX9_indexes_53 : decode cX9_indexes 53 = .ok (.iload_n 3, 1) := dgq (p := 15) daX9_indexes_38 dbX9_indexes_38.2.2.2.2.2.2.2.2.1
theorem dX9_indexes_54 : decode cX9_indexes 54 = .ok (.invokevirtual 245, 3) := dgq (p := 16) daX9_indexes_38 dbX9_indexes_38.2.2.2.2.2.2.2.2.2
theorem dX9_indexes_57 : decode cX9_indexes 57 = .ok (.ireturn, 1) := by decide +kernel
set_option maxRecDepth 20000 in
theorem ggX9_differs_X9_gearAt : GoodIn wsX9_differs wsX9_gearAt := goodIn_ca (goodIn_ca (goodIn_q _ [15, 16, 17, 18, 19] rfl (by decide +kernel)) (goodIn_sub (fun _ h => (List.mem_cons_of_mem _ (List.mem_append_left _ (List.mem_append_left _ (List.mem_append_left _ (List.mem_append_left _ (List.mem_append_left _ (List.mem_append_left _ (List.mem_append_left _ (List.mem_append_right _ h)))))))))) tg_wsX90)) (goodIn_sub (fun _ h => List.mem_cons_of_mem _ (List.mem_append_left _ (List.mem_append_left _ (List.mem_append_left _ (List.mem_append_left _ (List.mem_append_right _ h)))))) (by decide +kernel))
set_option maxRecDepth 20000 in
theorem gX9_differs_X9_gearAt : GoodIn wsX9_differs (wsV RX9 77 RX9 yX9_gearAt wsX9_gearAt) := goodIn_app (goodIn_q _ [11, 12, 13, 14] rfl (by decide +kernel)) ggX9_differs_X9_gearAt
set_option maxRecDepth 20000 in
theorem ggX9_differs_X9_hobAt : GoodIn wsX9_differs wsX9_hobAt := goodIn_ca (goodIn_ca (goodIn_q _ [23, 16, 17, 24, 25] rfl (by decide +kernel)) (goodIn_sub (fun _ h => (List.mem_cons_of_mem _ (List.mem_append_left _ (List.mem_append_left _ (List.mem_append_left _ (List.mem_append_left _ (List.mem_append_left _ (List.mem_append_left _ (List.mem_append_left _ (List.mem_append_right _ h)))))))))) tg_wsX90)) (goodIn_sub (fun _ h => List.mem_cons_of_mem _ (List.mem_append_left _ (List.mem_append_left _ (List.mem_append_left _ (List.mem_append_left _ (List.mem_append_right _ h)))))) (by decide +kernel))
set_option maxRecDepth 20000 in
theorem gX9_differs_X9_hobAt : GoodIn wsX9_differs (wsV RX9 257 RX9 yX9_hobAt wsX9_hobAt) := goodIn_app (goodIn_q _ [20, 21, 22, 14] rfl (by decide +kernel)) ggX9_differs_X9_hobAt
set_option maxRecDepth 20000 in
theorem ggX9_differs_X9_needRange : GoodIn wsX9_differs wsX9_needRange := goodIn_ca (goodIn_q _ [28, 29, 30] rfl (by decide +kernel)) (goodIn_sub (fun _ h => List.mem_cons_of_mem _ (List.mem_append_left _ (List.mem_append_left _ (List.mem_append_left _ (List.mem_append_right _ h))))) (by decide +kernel))
set_option maxRecDepth 20000 in
theorem gX9_differs_X9_needRange : GoodIn wsX9_differs (va_wsS RX9 59 yX9_needRange wsX9_needRange) := goodIn_app (goodIn_q _ [26, 27, 14] rfl (by decide +kernel)) ggX9_differs_X9_needRange
set_option maxRecDepth 20000 in
theorem ggX9_differs_X9_allowOnly : GoodIn wsX9_differs wsX9_allowOnly := goodIn_ca (goodIn_q _ [33, 34, 35] rfl (by decide +kernel)) (goodIn_sub (fun _ h => List.mem_cons_of_mem _ (List.mem_append_left _ (List.mem_append_left _ (List.mem_append_right _ h)))) (by decide +kernel))
set_option maxRecDepth 20000 in
theorem gX9_differs_X9_allowOnly : GoodIn wsX9_differs (va_wsS RX9 85 yX9_allowOnly wsX9_allowOnly) := goodIn_app (goodIn_q _ [31, 32, 14] rfl (by decide +kernel)) ggX9_differs_X9_allowOnly
set_option maxRecDepth 20000 in
theorem ggX9_differs_X9_needFourWheels : GoodIn wsX9_differs wsX9_needFourWheels := goodIn_ca (goodIn_ca (goodIn_ca (goodIn_q _ [39, 40, 41, 3, 42, 43, 44, 45, 46, 47] rfl (by decide +kernel)) (goodIn_sub (fun _ h => (List.mem_cons_of_mem _ (List.mem_append_left _ (List.mem_append_left _ (List.mem_append_left _ (List.mem_append_left _ (List.mem_append_left _ (List.mem_append_left _ (List.mem_append_left _ (List.mem_append_right _ h)))))))))) tg_wsX90)) (goodIn_sub (fun _ h => (List.mem_cons_of_mem _ (List.mem_append_left _ (List.mem_append_left _ (List.mem_append_left _ (List.mem_append_left _ (List.mem_append_left _ (List.mem_append_right _ h)))))))) tg_wsX00)) (goodIn_sub (fun _ h => List.mem_cons_of_mem _ (List.mem_append_left _ (List.mem_append_right _ h))) (by decide +kernel))
set_option maxRecDepth 20000 in
theorem gX9_differs_X9_needFourWheels : GoodIn wsX9_differs (wsV RX9 235 RX9 yX9_needFourWheels wsX9_needFourWheels) := goodIn_app (goodIn_q _ [36, 37, 38, 14] rfl (by decide +kernel)) ggX9_differs_X9_needFourWheels
set_option maxRecDepth 20000 in
theorem ggX9_differs_X0_search : GoodIn wsX9_differs wsX0_search := goodIn_ca (goodIn_ca (goodIn_q _ [51, 52, 53, 54, 55, 56, 47, 57, 58, 59, 45, 60, 61, 62, 63, 64, 65, 66, 67, 6, 68, 69] rfl (by decide +kernel)) (goodIn_sub (fun _ h => (List.mem_cons_of_mem _ (List.mem_append_left _ (List.mem_append_left _ (List.mem_append_left _ (List.mem_append_left _ (List.mem_append_left _ (List.mem_append_right _ h)))))))) tg_wsX00)) (goodIn_sub (fun _ h => List.mem_cons_of_mem _ (List.mem_append_right _ h)) (by decide +kernel))
set_option maxRecDepth 20000 in
theorem gX9_differs_X0_search : GoodIn wsX9_differs (wsV RX9 238 RX0 yX0_search wsX0_search) := goodIn_app (goodIn_q _ [48, 49, 50, 45] rfl (by decide +kernel)) ggX9_differs_X0_search
set_option maxRecDepth 20000 in
theorem ggX9_differs_X0_isMet : GoodIn wsX9_differs wsX0_isMet := goodIn_ca (goodIn_q _ [73, 74, 55, 52, 56] rfl (by decide +kernel)) (goodIn_sub (fun _ h => (List.mem_cons_of_mem _ (List.mem_append_left _ (List.mem_append_left _ (List.mem_append_left _ (List.mem_append_left _ (List.mem_append_left _ (List.mem_append_right _ h)))))))) tg_wsX00)
set_option maxRecDepth 20000 in
theorem gX9_differs_X0_isMet : GoodIn wsX9_differs (wsV RX9 245 RX0 yX0_isMet wsX0_isMet) := goodIn_app (goodIn_q _ [70, 71, 72, 45] rfl (by decide +kernel)) ggX9_differs_X0_isMet
def dsX9_differs_0 : ByteArray := ⟨#[42, 27, 182, 0, 77, 58, 4, 42, 28, 182, 1, 1, 58, 5, 29, 3]⟩
theorem daX9_differs_0 : agB cX9_differs dsX9_differs_0 0 := agB_of (n := 16) (by decide +kernel)
theorem dbX9_differs_0 : (decode dsX9_differs_0 0 = .ok (.aload_n 0, 1) ∧ okop dsX9_differs_0 0 = true) ∧ (decode dsX9_differs_0 1 = .ok (.iload_n 1, 1) ∧ okop dsX9_differs_0 1 = true) ∧ (decode dsX9_differs_0 2 = .ok (.invokevirtual 77, 3) ∧ okop dsX9_differs_0 2 = true) ∧ (decode dsX9_differs_0 5 = .ok (.astore 4, 2) ∧ okop dsX9_differs_0 5 = true) ∧ (decode dsX9_differs_0 7 = .ok (.aload_n 0, 1) ∧ okop dsX9_differs_0 7 = true) ∧ (decode dsX9_differs_0 8 = .ok (.iload_n 2, 1) ∧ okop dsX9_differs_0 8 = true) ∧ (decode dsX9_differs_0 9 = .ok (.invokevirtual 257, 3) ∧ okop dsX9_differs_0 9 = true) ∧ (decode dsX9_differs_0 12 = .ok (.astore 5, 2) ∧ okop dsX9_differs_0 12 = true) ∧ (decode dsX9_differs_0 14 = .ok (.iload_n 3, 1) ∧ okop dsX9_differs_0 14 = true) ∧ (decode dsX9_differs_0 15 = .ok (.iconst 0, 1) ∧ okop dsX9_differs_0 15 = true) := by decide +kernel
theorem dX9_differs_0 : decode cX9_differs 0 = .ok (.aload_n 0, 1) := dgq (p := 0) daX9_differs_0 dbX9_differs_0.1
theorem dX9_differs_1 : decode cX9_differs 1 = .ok (.iload_n 1, 1) := dgq (p := 1) daX9_differs_0 dbX9_differs_0.2.1
theorem dX9_differs_2 : decode cX9_differs 2 = .ok (.invokevirtual 77, 3) := dgq (p := 2) daX9_differs_0 dbX9_differs_0.2.2.1
theorem dX9_differs_5 : decode cX9_differs 5 = .ok (.astore 4, 2) := dgq (p := 5) daX9_differs_0 dbX9_differs_0.2.2.2.1
theorem dX9_differs_7 : decode cX9_differs 7 = .ok (.aload_n 0, 1) := dgq (p := 7) daX9_differs_0 dbX9_differs_0.2.2.2.2.1
theorem dX9_differs_8 : decode cX9_differs 8 = .ok (.iload_n 2, 1) := dgq (p := 8) daX9_differs_0 dbX9_differs_0.2.2.2.2.2.1
theorem dX9_differs_9 : decode cX9_differs 9 = .ok (.invokevirtual 257, 3) := dgq (p := 9) daX9_differs_0 dbX9_differs_0.2.2.2.2.2.2.1
theorem dX9_differs_12 : decode cX9_differs 12 = .ok (.astore 5, 2) := dgq (p := 12) daX9_differs_0 dbX9_differs_0.2.2.2.2.2.2.2.1
theorem dX9_differs_14 : decode cX9_differs 14 = .ok (.iload_n 3, 1) := dgq (p := 14) daX9_differs_0 dbX9_differs_0.2.2.2.2.2.2.2.2.1
theorem dX9_differs_15 : decode cX9_differs 15 = .ok (.iconst 0, 1) := dgq (p := 15) daX9_differs_0 dbX9_differs_0.2.2.2.2.2.2.2.2.2
def dsX9_differs_16 : ByteArray := ⟨#[18, 244, 184, 0, 59, 25, 4, 180, 0, 185, 153, 0, 7, 4, 167, 0, 4, 3, 184, 0, 85, 42]⟩
theorem daX9_differs_16 : agB cX9_differs dsX9_differs_16 16 := agB_of (n := 22) (by decide +kernel)
theorem dbX9_differs_16 : (decode dsX9_differs_16 0 = .ok (.ldc 244, 2) ∧ okop dsX9_differs_16 0 = true) ∧ (decode dsX9_differs_16 2 = .ok (.invokestatic 59, 3) ∧ okop dsX9_differs_16 2 = true) ∧ (decode dsX9_differs_16 5 = .ok (.aload 4, 2) ∧ okop dsX9_differs_16 5 = true) ∧ (decode dsX9_differs_16 7 = .ok (.getfield 185, 3) ∧ okop dsX9_differs_16 7 = true) ∧ (decode dsX9_differs_16 10 = .ok (.ifCond .eq 7, 3) ∧ okop dsX9_differs_16 10 = true) ∧ (decode dsX9_differs_16 13 = .ok (.iconst 1, 1) ∧ okop dsX9_differs_16 13 = true) ∧ (decode dsX9_differs_16 14 = .ok (.goto 4, 3) ∧ okop dsX9_differs_16 14 = true) ∧ (decode dsX9_differs_16 17 = .ok (.iconst 0, 1) ∧ okop dsX9_differs_16 17 = true) ∧ (decode dsX9_differs_16 18 = .ok (.invokestatic 85, 3) ∧ okop dsX9_differs_16 18 = true) ∧ (decode dsX9_differs_16 21 = .ok (.aload_n 0, 1) ∧ okop dsX9_differs_16 21 = true) := by decide +kernel
theorem dX9_differs_16 : decode cX9_differs 16 = .ok (.ldc 244, 2) := dgq (p := 0) daX9_differs_16 dbX9_differs_16.1
theorem dX9_differs_18 : decode cX9_differs 18 = .ok (.invokestatic 59, 3) := dgq (p := 2) daX9_differs_16 dbX9_differs_16.2.1
theorem dX9_differs_21 : decode cX9_differs 21 = .ok (.aload 4, 2) := dgq (p := 5) daX9_differs_16 dbX9_differs_16.2.2.1
theorem dX9_differs_23 : decode cX9_differs 23 = .ok (.getfield 185, 3) := dgq (p := 7) daX9_differs_16 dbX9_differs_16.2.2.2.1
theorem dX9_differs_26 : decode cX9_differs 26 = .ok (.ifCond .eq 7, 3) := dgq (p := 10) daX9_differs_16 dbX9_differs_16.2.2.2.2.1
theorem dX9_differs_29 : decode cX9_differs 29 = .ok (.iconst 1, 1) := dgq (p := 13) daX9_differs_16 dbX9_differs_16.2.2.2.2.2.1
theorem dX9_differs_30 : decode cX9_differs 30 = .ok (.goto 4, 3) := dgq (p := 14) daX9_differs_16 dbX9_differs_16.2.2.2.2.2.2.1
theorem dX9_differs_33 : decode cX9_differs 33 = .ok (.iconst 0, 1) := dgq (p := 17) daX9_differs_16 dbX9_differs_16.2.2.2.2.2.2.2.1
theorem dX9_differs_34 : decode cX9_differs 34 = .ok (.invokestatic 85, 3) := dgq (p := 18) daX9_differs_16 dbX9_differs_16.2.2.2.2.2.2.2.2.1
theorem dX9_differs_37 : decode cX9_differs 37 = .ok (.aload_n 0, 1) := dgq (p := 21) daX9_differs_16 dbX9_differs_16.2.2.2.2.2.2.2.2.2
def dsX9_differs_38 : ByteArray := ⟨#[182, 0, 235, 42, 180, 0, 30, 25, 4, 180, 0, 185, 184, 0, 188, 42, 180, 0, 48, 104, 133]⟩
theorem daX9_differs_38 : agB cX9_differs dsX9_differs_38 38 := agB_of (n := 21) (by decide +kernel)
theorem dbX9_differs_38 : (decode dsX9_differs_38 0 = .ok (.invokevirtual 235, 3) ∧ okop dsX9_differs_38 0 = true) ∧ (decode dsX9_differs_38 3 = .ok (.aload_n 0, 1) ∧ okop dsX9_differs_38 3 = true) ∧ (decode dsX9_differs_38 4 = .ok (.getfield 30, 3) ∧ okop dsX9_differs_38 4 = true) ∧ (decode dsX9_differs_38 7 = .ok (.aload 4, 2) ∧ okop dsX9_differs_38 7 = true) ∧ (decode dsX9_differs_38 9 = .ok (.getfield 185, 3) ∧ okop dsX9_differs_38 9 = true) ∧ (decode dsX9_differs_38 12 = .ok (.invokestatic 188, 3) ∧ okop dsX9_differs_38 12 = true) ∧ (decode dsX9_differs_38 15 = .ok (.aload_n 0, 1) ∧ okop dsX9_differs_38 15 = true) ∧ (decode dsX9_differs_38 16 = .ok (.getfield 48, 3) ∧ okop dsX9_differs_38 16 = true) ∧ (decode dsX9_differs_38 19 = .ok (.imul, 1) ∧ okop dsX9_differs_38 19 = true) ∧ (decode dsX9_differs_38 20 = .ok (.i2l, 1) ∧ okop dsX9_differs_38 20 = true) := by decide +kernel
theorem dX9_differs_38 : decode cX9_differs 38 = .ok (.invokevirtual 235, 3) := dgq (p := 0) daX9_differs_38 dbX9_differs_38.1
theorem dX9_differs_41 : decode cX9_differs 41 = .ok (.aload_n 0, 1) := dgq (p := 3) daX9_differs_38 dbX9_differs_38.2.1
theorem dX9_differs_42 : decode cX9_differs 42 = .ok (.getfield 30, 3) := dgq (p := 4) daX9_differs_38 dbX9_differs_38.2.2.1
theorem dX9_differs_45 : decode cX9_differs 45 = .ok (.aload 4, 2) := dgq (p := 7) daX9_differs_38 dbX9_differs_38.2.2.2.1
theorem dX9_differs_47 : decode cX9_differs 47 = .ok (.getfield 185, 3) := dgq (p := 9) daX9_differs_38 dbX9_differs_38.2.2.2.2.1
theorem dX9_differs_50 : decode cX9_differs 50 = .ok (.invokestatic 188, 3) := dgq (p := 12) daX9_differs_38 dbX9_differs_38.2.2.2.2.2.1
theorem dX9_differs_53 : decode cX9_differs 53 = .ok (.aload_n 0, 1) := dgq (p := 15) daX9_differs_38 dbX9_differs_38.2.2.2.2.2.2.1
theorem dX9_differs_54 : decode cX9_differs 54 = .ok (.getfield 48, 3) := dgq (p := 16) daX9_differs_38 dbX9_differs_38.2.2.2.2.2.2.2.1
theorem dX9_differs_57 : decode cX9_differs 57 = .ok (.imul, 1) := dgq (p := 19) daX9_differs_38 dbX9_differs_38.2.2.2.2.2.2.2.2.1
theorem dX9_differs_58 : decode cX9_differs 58 = .ok (.i2l, 1) := dgq (p := 20) daX9_differs_38 dbX9_differs_38.2.2.2.2.2.2.2.2.2
def dsX9_differs_59 : ByteArray := ⟨#[25, 4, 180, 0, 165, 25, 5, 180, 1, 5, 104, 133, 182, 0, 238, 42, 180, 0, 30, 29]⟩
theorem daX9_differs_59 : agB cX9_differs dsX9_differs_59 59 := agB_of (n := 20) (by decide +kernel)
theorem dbX9_differs_59 : (decode dsX9_differs_59 0 = .ok (.aload 4, 2) ∧ okop dsX9_differs_59 0 = true) ∧ (decode dsX9_differs_59 2 = .ok (.getfield 165, 3) ∧ okop dsX9_differs_59 2 = true) ∧ (decode dsX9_differs_59 5 = .ok (.aload 5, 2) ∧ okop dsX9_differs_59 5 = true) ∧ (decode dsX9_differs_59 7 = .ok (.getfield 261, 3) ∧ okop dsX9_differs_59 7 = true) ∧ (decode dsX9_differs_59 10 = .ok (.imul, 1) ∧ okop dsX9_differs_59 10 = true) ∧ (decode dsX9_differs_59 11 = .ok (.i2l, 1) ∧ okop dsX9_differs_59 11 = true) ∧ (decode dsX9_differs_59 12 = .ok (.invokevirtual 238, 3) ∧ okop dsX9_differs_59 12 = true) ∧ (decode dsX9_differs_59 15 = .ok (.aload_n 0, 1) ∧ okop dsX9_differs_59 15 = true) ∧ (decode dsX9_differs_59 16 = .ok (.getfield 30, 3) ∧ okop dsX9_differs_59 16 = true) ∧ (decode dsX9_differs_59 19 = .ok (.iload_n 3, 1) ∧ okop dsX9_differs_59 19 = true) := by decide +kernel
theorem dX9_differs_59 : decode cX9_differs 59 = .ok (.aload 4, 2) := dgq (p := 0) daX9_differs_59 dbX9_differs_59.1
theorem dX9_differs_61 : decode cX9_differs 61 = .ok (.getfield 165, 3) := dgq (p := 2) daX9_differs_59 dbX9_differs_59.2.1
theorem dX9_differs_64 : decode cX9_differs 64 = .ok (.aload 5, 2) := dgq (p := 5) daX9_differs_59 dbX9_differs_59.2.2.1
theorem dX9_differs_66 : decode cX9_differs 66 = .ok (.getfield 261, 3) := dgq (p := 7) daX9_differs_59 dbX9_differs_59.2.2.2.1
theorem dX9_differs_69 : decode cX9_differs 69 = .ok (.imul, 1) := dgq (p := 10) daX9_differs_59 dbX9_differs_59.2.2.2.2.1
theorem dX9_differs_70 : decode cX9_differs 70 = .ok (.i2l, 1) := dgq (p := 11) daX9_differs_59 dbX9_differs_59.2.2.2.2.2.1
theorem dX9_differs_71 : decode cX9_differs 71 = .ok (.invokevirtual 238, 3) := dgq (p := 12) daX9_differs_59 dbX9_differs_59.2.2.2.2.2.2.1
theorem dX9_differs_74 : decode cX9_differs 74 = .ok (.aload_n 0, 1) := dgq (p := 15) daX9_differs_59 dbX9_differs_59.2.2.2.2.2.2.2.1
theorem dX9_differs_75 : decode cX9_differs 75 = .ok (.getfield 30, 3) := dgq (p := 16) daX9_differs_59 dbX9_differs_59.2.2.2.2.2.2.2.2.1
theorem dX9_differs_78 : decode cX9_differs 78 = .ok (.iload_n 3, 1) := dgq (p := 19) daX9_differs_59 dbX9_differs_59.2.2.2.2.2.2.2.2.2
theorem dX9_differs_79 : decode cX9_differs 79 = .ok (.invokevirtual 245, 3) := by decide +kernel
theorem dX9_differs_82 : decode cX9_differs 82 = .ok (.ireturn, 1) := by decide +kernel
set_option maxRecDepth 20000 in
theorem ggX9_shoulder_X9_gearAt : GoodIn wsX9_shoulder wsX9_gearAt := goodIn_ca (goodIn_ca (goodIn_q _ [7, 8, 9, 10, 11] rfl (by decide +kernel)) (goodIn_sub (fun _ h => (List.mem_cons_of_mem _ (List.mem_append_left _ (List.mem_append_left _ (List.mem_append_right _ h))))) tg_wsX90)) (goodIn_sub (fun _ h => List.mem_cons_of_mem _ (List.mem_append_left _ (List.mem_append_right _ h))) (by decide +kernel))
set_option maxRecDepth 20000 in
theorem gX9_shoulder_X9_gearAt : GoodIn wsX9_shoulder (wsV RX9 77 RX9 yX9_gearAt wsX9_gearAt) := goodIn_app (goodIn_q _ [3, 4, 5, 6] rfl (by decide +kernel)) ggX9_shoulder_X9_gearAt
set_option maxRecDepth 20000 in
theorem ggX9_shoulder_X9_needRange : GoodIn wsX9_shoulder wsX9_needRange := goodIn_ca (goodIn_q _ [14, 15, 16] rfl (by decide +kernel)) (goodIn_sub (fun _ h => List.mem_cons_of_mem _ (List.mem_append_right _ h)) (by decide +kernel))
set_option maxRecDepth 20000 in
theorem gX9_shoulder_X9_needRange : GoodIn wsX9_shoulder (va_wsS RX9 59 yX9_needRange wsX9_needRange) := goodIn_app (goodIn_q _ [12, 13, 6] rfl (by decide +kernel)) ggX9_shoulder_X9_needRange
def dsX9_shoulder_0 : ByteArray := ⟨#[42, 27, 182, 0, 77, 78, 28, 2, 18, 63, 184, 0, 59, 45, 180, 1, 8]⟩
theorem daX9_shoulder_0 : agB cX9_shoulder dsX9_shoulder_0 0 := agB_of (n := 17) (by decide +kernel)
theorem dbX9_shoulder_0 : (decode dsX9_shoulder_0 0 = .ok (.aload_n 0, 1) ∧ okop dsX9_shoulder_0 0 = true) ∧ (decode dsX9_shoulder_0 1 = .ok (.iload_n 1, 1) ∧ okop dsX9_shoulder_0 1 = true) ∧ (decode dsX9_shoulder_0 2 = .ok (.invokevirtual 77, 3) ∧ okop dsX9_shoulder_0 2 = true) ∧ (decode dsX9_shoulder_0 5 = .ok (.astore_n 3, 1) ∧ okop dsX9_shoulder_0 5 = true) ∧ (decode dsX9_shoulder_0 6 = .ok (.iload_n 2, 1) ∧ okop dsX9_shoulder_0 6 = true) ∧ (decode dsX9_shoulder_0 7 = .ok (.iconst (-1), 1) ∧ okop dsX9_shoulder_0 7 = true) ∧ (decode dsX9_shoulder_0 8 = .ok (.ldc 63, 2) ∧ okop dsX9_shoulder_0 8 = true) ∧ (decode dsX9_shoulder_0 10 = .ok (.invokestatic 59, 3) ∧ okop dsX9_shoulder_0 10 = true) ∧ (decode dsX9_shoulder_0 13 = .ok (.aload_n 3, 1) ∧ okop dsX9_shoulder_0 13 = true) ∧ (decode dsX9_shoulder_0 14 = .ok (.getfield 264, 3) ∧ okop dsX9_shoulder_0 14 = true) := by decide +kernel
theorem dX9_shoulder_0 : decode cX9_shoulder 0 = .ok (.aload_n 0, 1) := dgq (p := 0) daX9_shoulder_0 dbX9_shoulder_0.1
theorem dX9_shoulder_1 : decode cX9_shoulder 1 = .ok (.iload_n 1, 1) := dgq (p := 1) daX9_shoulder_0 dbX9_shoulder_0.2.1
theorem dX9_shoulder_2 : decode cX9_shoulder 2 = .ok (.invokevirtual 77, 3) := dgq (p := 2) daX9_shoulder_0 dbX9_shoulder_0.2.2.1
theorem dX9_shoulder_5 : decode cX9_shoulder 5 = .ok (.astore_n 3, 1) := dgq (p := 5) daX9_shoulder_0 dbX9_shoulder_0.2.2.2.1
theorem dX9_shoulder_6 : decode cX9_shoulder 6 = .ok (.iload_n 2, 1) := dgq (p := 6) daX9_shoulder_0 dbX9_shoulder_0.2.2.2.2.1
theorem dX9_shoulder_7 : decode cX9_shoulder 7 = .ok (.iconst (-1), 1) := dgq (p := 7) daX9_shoulder_0 dbX9_shoulder_0.2.2.2.2.2.1
theorem dX9_shoulder_8 : decode cX9_shoulder 8 = .ok (.ldc 63, 2) := dgq (p := 8) daX9_shoulder_0 dbX9_shoulder_0.2.2.2.2.2.2.1
theorem dX9_shoulder_10 : decode cX9_shoulder 10 = .ok (.invokestatic 59, 3) := dgq (p := 10) daX9_shoulder_0 dbX9_shoulder_0.2.2.2.2.2.2.2.1
theorem dX9_shoulder_13 : decode cX9_shoulder 13 = .ok (.aload_n 3, 1) := dgq (p := 13) daX9_shoulder_0 dbX9_shoulder_0.2.2.2.2.2.2.2.2.1
theorem dX9_shoulder_14 : decode cX9_shoulder 14 = .ok (.getfield 264, 3) := dgq (p := 14) daX9_shoulder_0 dbX9_shoulder_0.2.2.2.2.2.2.2.2.2
def dsX9_shoulder_17 : ByteArray := ⟨#[54, 4, 45, 28, 181, 1, 8, 21, 4, 172]⟩
theorem daX9_shoulder_17 : agB cX9_shoulder dsX9_shoulder_17 17 := agB_of (n := 10) (by decide +kernel)
theorem dbX9_shoulder_17 : (decode dsX9_shoulder_17 0 = .ok (.istore 4, 2) ∧ okop dsX9_shoulder_17 0 = true) ∧ (decode dsX9_shoulder_17 2 = .ok (.aload_n 3, 1) ∧ okop dsX9_shoulder_17 2 = true) ∧ (decode dsX9_shoulder_17 3 = .ok (.iload_n 2, 1) ∧ okop dsX9_shoulder_17 3 = true) ∧ (decode dsX9_shoulder_17 4 = .ok (.putfield 264, 3) ∧ okop dsX9_shoulder_17 4 = true) ∧ (decode dsX9_shoulder_17 7 = .ok (.iload 4, 2) ∧ okop dsX9_shoulder_17 7 = true) ∧ (decode dsX9_shoulder_17 9 = .ok (.ireturn, 1) ∧ okop dsX9_shoulder_17 9 = true) := by decide +kernel
theorem dX9_shoulder_17 : decode cX9_shoulder 17 = .ok (.istore 4, 2) := dgq (p := 0) daX9_shoulder_17 dbX9_shoulder_17.1
theorem dX9_shoulder_19 : decode cX9_shoulder 19 = .ok (.aload_n 3, 1) := dgq (p := 2) daX9_shoulder_17 dbX9_shoulder_17.2.1
theorem dX9_shoulder_20 : decode cX9_shoulder 20 = .ok (.iload_n 2, 1) := dgq (p := 3) daX9_shoulder_17 dbX9_shoulder_17.2.2.1
theorem dX9_shoulder_21 : decode cX9_shoulder 21 = .ok (.putfield 264, 3) := dgq (p := 4) daX9_shoulder_17 dbX9_shoulder_17.2.2.2.1
theorem dX9_shoulder_24 : decode cX9_shoulder 24 = .ok (.iload 4, 2) := dgq (p := 7) daX9_shoulder_17 dbX9_shoulder_17.2.2.2.2.1
theorem dX9_shoulder_26 : decode cX9_shoulder 26 = .ok (.ireturn, 1) := dgq (p := 9) daX9_shoulder_17 dbX9_shoulder_17.2.2.2.2.2
set_option maxRecDepth 20000 in
theorem ggX9_approach_X9_hobAt : GoodIn wsX9_approach wsX9_hobAt := goodIn_ca (goodIn_ca (goodIn_q _ [5, 6, 7, 8, 9] rfl (by decide +kernel)) (goodIn_sub (fun _ h => (List.mem_cons_of_mem _ (List.mem_append_left _ (List.mem_append_left _ (List.mem_append_right _ h))))) tg_wsX90)) (goodIn_sub (fun _ h => List.mem_cons_of_mem _ (List.mem_append_right _ h)) (by decide +kernel))
set_option maxRecDepth 20000 in
theorem gX9_approach_X9_hobAt : GoodIn wsX9_approach (wsV RX9 257 RX9 yX9_hobAt wsX9_hobAt) := goodIn_app (goodIn_q _ [1, 2, 3, 4] rfl (by decide +kernel)) ggX9_approach_X9_hobAt
set_option maxRecDepth 20000 in
theorem ggX9_approach_X3_wayIn : GoodIn wsX9_approach wsX3_wayIn := goodIn_ca (goodIn_q _ [14, 15, 16, 17, 18, 19, 4, 20] rfl (by decide +kernel)) (goodIn_sub (fun _ h => (List.mem_cons_of_mem _ (List.mem_append_left _ (List.mem_append_right _ h)))) tg_wsX30)
set_option maxRecDepth 20000 in
theorem gX9_approach_X3_wayIn : GoodIn wsX9_approach (wsV RX9 267 RX3 yX3_wayIn wsX3_wayIn) := goodIn_app (goodIn_q _ [10, 11, 12, 13] rfl (by decide +kernel)) ggX9_approach_X3_wayIn
def dsX9_approach_0 : ByteArray := ⟨#[42, 27, 182, 1, 1, 182, 1, 11, 136, 172]⟩
theorem daX9_approach_0 : agB cX9_approach dsX9_approach_0 0 := agB_of (n := 10) (by decide +kernel)
theorem dbX9_approach_0 : (decode dsX9_approach_0 0 = .ok (.aload_n 0, 1) ∧ okop dsX9_approach_0 0 = true) ∧ (decode dsX9_approach_0 1 = .ok (.iload_n 1, 1) ∧ okop dsX9_approach_0 1 = true) ∧ (decode dsX9_approach_0 2 = .ok (.invokevirtual 257, 3) ∧ okop dsX9_approach_0 2 = true) ∧ (decode dsX9_approach_0 5 = .ok (.invokevirtual 267, 3) ∧ okop dsX9_approach_0 5 = true) ∧ (decode dsX9_approach_0 8 = .ok (.l2i, 1) ∧ okop dsX9_approach_0 8 = true) ∧ (decode dsX9_approach_0 9 = .ok (.ireturn, 1) ∧ okop dsX9_approach_0 9 = true) := by decide +kernel
theorem dX9_approach_0 : decode cX9_approach 0 = .ok (.aload_n 0, 1) := dgq (p := 0) daX9_approach_0 dbX9_approach_0.1
theorem dX9_approach_1 : decode cX9_approach 1 = .ok (.iload_n 1, 1) := dgq (p := 1) daX9_approach_0 dbX9_approach_0.2.1
theorem dX9_approach_2 : decode cX9_approach 2 = .ok (.invokevirtual 257, 3) := dgq (p := 2) daX9_approach_0 dbX9_approach_0.2.2.1
theorem dX9_approach_5 : decode cX9_approach 5 = .ok (.invokevirtual 267, 3) := dgq (p := 5) daX9_approach_0 dbX9_approach_0.2.2.2.1
theorem dX9_approach_8 : decode cX9_approach 8 = .ok (.l2i, 1) := dgq (p := 8) daX9_approach_0 dbX9_approach_0.2.2.2.2.1
theorem dX9_approach_9 : decode cX9_approach 9 = .ok (.ireturn, 1) := dgq (p := 9) daX9_approach_0 dbX9_approach_0.2.2.2.2.2
set_option maxRecDepth 20000 in
theorem ggX9_cut_X9_gearAt : GoodIn wsX9_cut wsX9_gearAt := goodIn_ca (goodIn_ca (goodIn_q _ [12, 13, 14, 15, 16] rfl (by decide +kernel)) (goodIn_sub (fun _ h => (List.mem_cons_of_mem _ (List.mem_append_left _ (List.mem_append_left _ (List.mem_append_left _ (List.mem_append_left _ (List.mem_append_left _ (List.mem_append_right _ h)))))))) tg_wsX90)) (goodIn_sub (fun _ h => List.mem_cons_of_mem _ (List.mem_append_left _ (List.mem_append_left _ (List.mem_append_left _ (List.mem_append_left _ (List.mem_append_right _ h)))))) (by decide +kernel))
set_option maxRecDepth 20000 in
theorem gX9_cut_X9_gearAt : GoodIn wsX9_cut (wsV RX9 77 RX9 yX9_gearAt wsX9_gearAt) := goodIn_app (goodIn_q _ [8, 9, 10, 11] rfl (by decide +kernel)) ggX9_cut_X9_gearAt
set_option maxRecDepth 20000 in
theorem ggX9_cut_X9_hobAt : GoodIn wsX9_cut wsX9_hobAt := goodIn_ca (goodIn_ca (goodIn_q _ [20, 13, 14, 21, 22] rfl (by decide +kernel)) (goodIn_sub (fun _ h => (List.mem_cons_of_mem _ (List.mem_append_left _ (List.mem_append_left _ (List.mem_append_left _ (List.mem_append_left _ (List.mem_append_left _ (List.mem_append_right _ h)))))))) tg_wsX90)) (goodIn_sub (fun _ h => List.mem_cons_of_mem _ (List.mem_append_left _ (List.mem_append_left _ (List.mem_append_left _ (List.mem_append_left _ (List.mem_append_right _ h)))))) (by decide +kernel))
set_option maxRecDepth 20000 in
theorem gX9_cut_X9_hobAt : GoodIn wsX9_cut (wsV RX9 257 RX9 yX9_hobAt wsX9_hobAt) := goodIn_app (goodIn_q _ [17, 18, 19, 11] rfl (by decide +kernel)) ggX9_cut_X9_hobAt
set_option maxRecDepth 20000 in
theorem ggX9_cut_X9_needRange : GoodIn wsX9_cut wsX9_needRange := goodIn_ca (goodIn_q _ [25, 26, 27] rfl (by decide +kernel)) (goodIn_sub (fun _ h => List.mem_cons_of_mem _ (List.mem_append_left _ (List.mem_append_left _ (List.mem_append_left _ (List.mem_append_right _ h))))) (by decide +kernel))
set_option maxRecDepth 20000 in
theorem gX9_cut_X9_needRange : GoodIn wsX9_cut (va_wsS RX9 59 yX9_needRange wsX9_needRange) := goodIn_app (goodIn_q _ [23, 24, 11] rfl (by decide +kernel)) ggX9_cut_X9_needRange
set_option maxRecDepth 20000 in
theorem ggX9_cut_X3_fits : GoodIn wsX9_cut wsX3_fits := goodIn_ca (goodIn_ca (goodIn_q _ [32, 33, 34, 35, 36, 37, 38, 39, 40, 41, 31, 42, 43, 44, 45, 46, 11, 47] rfl (by decide +kernel)) (goodIn_sub (fun _ h => (List.mem_cons_of_mem _ (List.mem_append_left _ (List.mem_append_left _ (List.mem_append_left _ (List.mem_append_left _ (List.mem_append_left _ (List.mem_append_left _ (List.mem_append_left _ (List.mem_append_right _ h)))))))))) tg_wsX20)) (goodIn_sub (fun _ h => (List.mem_cons_of_mem _ (List.mem_append_left _ (List.mem_append_left _ (List.mem_append_left _ (List.mem_append_left _ (List.mem_append_left _ (List.mem_append_left _ (List.mem_append_right _ h))))))))) tg_wsX30)
set_option maxRecDepth 20000 in
theorem gX9_cut_X3_fits : GoodIn wsX9_cut (wsV RX9 271 RX3 yX3_fits wsX3_fits) := goodIn_app (goodIn_q _ [28, 29, 30, 31] rfl (by decide +kernel)) ggX9_cut_X3_fits
set_option maxRecDepth 20000 in
theorem ggX9_cut_X3_isBlunt : GoodIn wsX9_cut wsX3_isBlunt := goodIn_ca (goodIn_ca (goodIn_q _ [51, 52, 53] rfl (by decide +kernel)) (goodIn_sub (fun _ h => (List.mem_cons_of_mem _ (List.mem_append_left _ (List.mem_append_left _ (List.mem_append_left _ (List.mem_append_left _ (List.mem_append_left _ (List.mem_append_left _ (List.mem_append_right _ h))))))))) tg_wsX30)) (goodIn_sub (fun _ h => List.mem_cons_of_mem _ (List.mem_append_left _ (List.mem_append_left _ (List.mem_append_right _ h)))) (by decide +kernel))
set_option maxRecDepth 20000 in
theorem gX9_cut_X3_isBlunt : GoodIn wsX9_cut (wsV RX9 274 RX3 yX3_isBlunt wsX3_isBlunt) := goodIn_app (goodIn_q _ [48, 49, 50, 31] rfl (by decide +kernel)) ggX9_cut_X3_isBlunt
set_option maxRecDepth 20000 in
theorem ggX9_cut_X9_allowOnly : GoodIn wsX9_cut wsX9_allowOnly := goodIn_ca (goodIn_q _ [56, 57, 58] rfl (by decide +kernel)) (goodIn_sub (fun _ h => List.mem_cons_of_mem _ (List.mem_append_left _ (List.mem_append_right _ h))) (by decide +kernel))
set_option maxRecDepth 20000 in
theorem gX9_cut_X9_allowOnly : GoodIn wsX9_cut (va_wsS RX9 85 yX9_allowOnly wsX9_allowOnly) := goodIn_app (goodIn_q _ [54, 55, 11] rfl (by decide +kernel)) ggX9_cut_X9_allowOnly
set_option maxRecDepth 20000 in
theorem ggX9_cut_X3_turnToNext : GoodIn wsX9_cut wsX3_turnToNext := goodIn_ca (goodIn_ca (goodIn_ca (goodIn_q _ [62, 52, 53, 36] rfl (by decide +kernel)) (goodIn_sub (fun _ h => (List.mem_cons_of_mem _ (List.mem_append_left _ (List.mem_append_left _ (List.mem_append_left _ (List.mem_append_left _ (List.mem_append_left _ (List.mem_append_left _ (List.mem_append_right _ h))))))))) tg_wsX30)) (goodIn_sub (fun _ h => List.mem_cons_of_mem _ (List.mem_append_left _ (List.mem_append_left _ (List.mem_append_right _ h)))) (by decide +kernel))) (goodIn_sub (fun _ h => List.mem_cons_of_mem _ (List.mem_append_right _ h)) (by decide +kernel))
set_option maxRecDepth 20000 in
theorem gX9_cut_X3_turnToNext : GoodIn wsX9_cut (wsV RX9 287 RX3 yX3_turnToNext wsX3_turnToNext) := goodIn_app (goodIn_q _ [59, 60, 61, 31] rfl (by decide +kernel)) ggX9_cut_X3_turnToNext
def dsX9_cut_0 : ByteArray := ⟨#[42, 27, 182, 0, 77, 58, 4, 42, 28, 182, 1, 1, 58, 5, 29, 3]⟩
theorem daX9_cut_0 : agB cX9_cut dsX9_cut_0 0 := agB_of (n := 16) (by decide +kernel)
theorem dbX9_cut_0 : (decode dsX9_cut_0 0 = .ok (.aload_n 0, 1) ∧ okop dsX9_cut_0 0 = true) ∧ (decode dsX9_cut_0 1 = .ok (.iload_n 1, 1) ∧ okop dsX9_cut_0 1 = true) ∧ (decode dsX9_cut_0 2 = .ok (.invokevirtual 77, 3) ∧ okop dsX9_cut_0 2 = true) ∧ (decode dsX9_cut_0 5 = .ok (.astore 4, 2) ∧ okop dsX9_cut_0 5 = true) ∧ (decode dsX9_cut_0 7 = .ok (.aload_n 0, 1) ∧ okop dsX9_cut_0 7 = true) ∧ (decode dsX9_cut_0 8 = .ok (.iload_n 2, 1) ∧ okop dsX9_cut_0 8 = true) ∧ (decode dsX9_cut_0 9 = .ok (.invokevirtual 257, 3) ∧ okop dsX9_cut_0 9 = true) ∧ (decode dsX9_cut_0 12 = .ok (.astore 5, 2) ∧ okop dsX9_cut_0 12 = true) ∧ (decode dsX9_cut_0 14 = .ok (.iload_n 3, 1) ∧ okop dsX9_cut_0 14 = true) ∧ (decode dsX9_cut_0 15 = .ok (.iconst 0, 1) ∧ okop dsX9_cut_0 15 = true) := by decide +kernel
theorem dX9_cut_0 : decode cX9_cut 0 = .ok (.aload_n 0, 1) := dgq (p := 0) daX9_cut_0 dbX9_cut_0.1
theorem dX9_cut_1 : decode cX9_cut 1 = .ok (.iload_n 1, 1) := dgq (p := 1) daX9_cut_0 dbX9_cut_0.2.1
theorem dX9_cut_2 : decode cX9_cut 2 = .ok (.invokevirtual 77, 3) := dgq (p := 2) daX9_cut_0 dbX9_cut_0.2.2.1
theorem dX9_cut_5 : decode cX9_cut 5 = .ok (.astore 4, 2) := dgq (p := 5) daX9_cut_0 dbX9_cut_0.2.2.2.1
theorem dX9_cut_7 : decode cX9_cut 7 = .ok (.aload_n 0, 1) := dgq (p := 7) daX9_cut_0 dbX9_cut_0.2.2.2.2.1
theorem dX9_cut_8 : decode cX9_cut 8 = .ok (.iload_n 2, 1) := dgq (p := 8) daX9_cut_0 dbX9_cut_0.2.2.2.2.2.1
theorem dX9_cut_9 : decode cX9_cut 9 = .ok (.invokevirtual 257, 3) := dgq (p := 9) daX9_cut_0 dbX9_cut_0.2.2.2.2.2.2.1
theorem dX9_cut_12 : decode cX9_cut 12 = .ok (.astore 5, 2) := dgq (p := 12) daX9_cut_0 dbX9_cut_0.2.2.2.2.2.2.2.1
theorem dX9_cut_14 : decode cX9_cut 14 = .ok (.iload_n 3, 1) := dgq (p := 14) daX9_cut_0 dbX9_cut_0.2.2.2.2.2.2.2.2.1
theorem dX9_cut_15 : decode cX9_cut 15 = .ok (.iconst 0, 1) := dgq (p := 15) daX9_cut_0 dbX9_cut_0.2.2.2.2.2.2.2.2.2
def dsX9_cut_16 : ByteArray := ⟨#[17, 1, 244, 184, 0, 59, 25, 4, 180, 0, 81, 154, 0, 25, 25, 5, 25, 4, 182, 1, 15, 153, 0, 15, 25, 5]⟩
theorem daX9_cut_16 : agB cX9_cut dsX9_cut_16 16 := agB_of (n := 26) (by decide +kernel)
theorem dbX9_cut_16 : (decode dsX9_cut_16 0 = .ok (.sipush 500, 3) ∧ okop dsX9_cut_16 0 = true) ∧ (decode dsX9_cut_16 3 = .ok (.invokestatic 59, 3) ∧ okop dsX9_cut_16 3 = true) ∧ (decode dsX9_cut_16 6 = .ok (.aload 4, 2) ∧ okop dsX9_cut_16 6 = true) ∧ (decode dsX9_cut_16 8 = .ok (.getfield 81, 3) ∧ okop dsX9_cut_16 8 = true) ∧ (decode dsX9_cut_16 11 = .ok (.ifCond .ne 25, 3) ∧ okop dsX9_cut_16 11 = true) ∧ (decode dsX9_cut_16 14 = .ok (.aload 5, 2) ∧ okop dsX9_cut_16 14 = true) ∧ (decode dsX9_cut_16 16 = .ok (.aload 4, 2) ∧ okop dsX9_cut_16 16 = true) ∧ (decode dsX9_cut_16 18 = .ok (.invokevirtual 271, 3) ∧ okop dsX9_cut_16 18 = true) ∧ (decode dsX9_cut_16 21 = .ok (.ifCond .eq 15, 3) ∧ okop dsX9_cut_16 21 = true) ∧ (decode dsX9_cut_16 24 = .ok (.aload 5, 2) ∧ okop dsX9_cut_16 24 = true) := by decide +kernel
theorem dX9_cut_16 : decode cX9_cut 16 = .ok (.sipush 500, 3) := dgq (p := 0) daX9_cut_16 dbX9_cut_16.1
theorem dX9_cut_19 : decode cX9_cut 19 = .ok (.invokestatic 59, 3) := dgq (p := 3) daX9_cut_16 dbX9_cut_16.2.1
theorem dX9_cut_22 : decode cX9_cut 22 = .ok (.aload 4, 2) := dgq (p := 6) daX9_cut_16 dbX9_cut_16.2.2.1
theorem dX9_cut_24 : decode cX9_cut 24 = .ok (.getfield 81, 3) := dgq (p := 8) daX9_cut_16 dbX9_cut_16.2.2.2.1
theorem dX9_cut_27 : decode cX9_cut 27 = .ok (.ifCond .ne 25, 3) := dgq (p := 11) daX9_cut_16 dbX9_cut_16.2.2.2.2.1
theorem dX9_cut_30 : decode cX9_cut 30 = .ok (.aload 5, 2) := dgq (p := 14) daX9_cut_16 dbX9_cut_16.2.2.2.2.2.1
theorem dX9_cut_32 : decode cX9_cut 32 = .ok (.aload 4, 2) := dgq (p := 16) daX9_cut_16 dbX9_cut_16.2.2.2.2.2.2.1
theorem dX9_cut_34 : decode cX9_cut 34 = .ok (.invokevirtual 271, 3) := dgq (p := 18) daX9_cut_16 dbX9_cut_16.2.2.2.2.2.2.2.1
theorem dX9_cut_37 : decode cX9_cut 37 = .ok (.ifCond .eq 15, 3) := dgq (p := 21) daX9_cut_16 dbX9_cut_16.2.2.2.2.2.2.2.2.1
theorem dX9_cut_40 : decode cX9_cut 40 = .ok (.aload 5, 2) := dgq (p := 24) daX9_cut_16 dbX9_cut_16.2.2.2.2.2.2.2.2.2
def dsX9_cut_42 : ByteArray := ⟨#[182, 1, 18, 154, 0, 7, 4, 167, 0, 4, 3, 184, 0, 85, 25, 4, 4, 181, 0, 81, 25, 4]⟩
theorem daX9_cut_42 : agB cX9_cut dsX9_cut_42 42 := agB_of (n := 22) (by decide +kernel)
theorem dbX9_cut_42 : (decode dsX9_cut_42 0 = .ok (.invokevirtual 274, 3) ∧ okop dsX9_cut_42 0 = true) ∧ (decode dsX9_cut_42 3 = .ok (.ifCond .ne 7, 3) ∧ okop dsX9_cut_42 3 = true) ∧ (decode dsX9_cut_42 6 = .ok (.iconst 1, 1) ∧ okop dsX9_cut_42 6 = true) ∧ (decode dsX9_cut_42 7 = .ok (.goto 4, 3) ∧ okop dsX9_cut_42 7 = true) ∧ (decode dsX9_cut_42 10 = .ok (.iconst 0, 1) ∧ okop dsX9_cut_42 10 = true) ∧ (decode dsX9_cut_42 11 = .ok (.invokestatic 85, 3) ∧ okop dsX9_cut_42 11 = true) ∧ (decode dsX9_cut_42 14 = .ok (.aload 4, 2) ∧ okop dsX9_cut_42 14 = true) ∧ (decode dsX9_cut_42 16 = .ok (.iconst 1, 1) ∧ okop dsX9_cut_42 16 = true) ∧ (decode dsX9_cut_42 17 = .ok (.putfield 81, 3) ∧ okop dsX9_cut_42 17 = true) ∧ (decode dsX9_cut_42 20 = .ok (.aload 4, 2) ∧ okop dsX9_cut_42 20 = true) := by decide +kernel
theorem dX9_cut_42 : decode cX9_cut 42 = .ok (.invokevirtual 274, 3) := dgq (p := 0) daX9_cut_42 dbX9_cut_42.1
theorem dX9_cut_45 : decode cX9_cut 45 = .ok (.ifCond .ne 7, 3) := dgq (p := 3) daX9_cut_42 dbX9_cut_42.2.1
theorem dX9_cut_48 : decode cX9_cut 48 = .ok (.iconst 1, 1) := dgq (p := 6) daX9_cut_42 dbX9_cut_42.2.2.1
theorem dX9_cut_49 : decode cX9_cut 49 = .ok (.goto 4, 3) := dgq (p := 7) daX9_cut_42 dbX9_cut_42.2.2.2.1
theorem dX9_cut_52 : decode cX9_cut 52 = .ok (.iconst 0, 1) := dgq (p := 10) daX9_cut_42 dbX9_cut_42.2.2.2.2.1
theorem dX9_cut_53 : decode cX9_cut 53 = .ok (.invokestatic 85, 3) := dgq (p := 11) daX9_cut_42 dbX9_cut_42.2.2.2.2.2.1
theorem dX9_cut_56 : decode cX9_cut 56 = .ok (.aload 4, 2) := dgq (p := 14) daX9_cut_42 dbX9_cut_42.2.2.2.2.2.2.1
theorem dX9_cut_58 : decode cX9_cut 58 = .ok (.iconst 1, 1) := dgq (p := 16) daX9_cut_42 dbX9_cut_42.2.2.2.2.2.2.2.1
theorem dX9_cut_59 : decode cX9_cut 59 = .ok (.putfield 81, 3) := dgq (p := 17) daX9_cut_42 dbX9_cut_42.2.2.2.2.2.2.2.2.1
theorem dX9_cut_62 : decode cX9_cut 62 = .ok (.aload 4, 2) := dgq (p := 20) daX9_cut_42 dbX9_cut_42.2.2.2.2.2.2.2.2.2
def dsX9_cut_64 : ByteArray := ⟨#[25, 5, 180, 1, 5, 181, 1, 21, 25, 4, 25, 5, 180, 1, 24, 181, 1, 27, 25, 4, 29, 181, 1, 28]⟩
theorem daX9_cut_64 : agB cX9_cut dsX9_cut_64 64 := agB_of (n := 24) (by decide +kernel)
theorem dbX9_cut_64 : (decode dsX9_cut_64 0 = .ok (.aload 5, 2) ∧ okop dsX9_cut_64 0 = true) ∧ (decode dsX9_cut_64 2 = .ok (.getfield 261, 3) ∧ okop dsX9_cut_64 2 = true) ∧ (decode dsX9_cut_64 5 = .ok (.putfield 277, 3) ∧ okop dsX9_cut_64 5 = true) ∧ (decode dsX9_cut_64 8 = .ok (.aload 4, 2) ∧ okop dsX9_cut_64 8 = true) ∧ (decode dsX9_cut_64 10 = .ok (.aload 5, 2) ∧ okop dsX9_cut_64 10 = true) ∧ (decode dsX9_cut_64 12 = .ok (.getfield 280, 3) ∧ okop dsX9_cut_64 12 = true) ∧ (decode dsX9_cut_64 15 = .ok (.putfield 283, 3) ∧ okop dsX9_cut_64 15 = true) ∧ (decode dsX9_cut_64 18 = .ok (.aload 4, 2) ∧ okop dsX9_cut_64 18 = true) ∧ (decode dsX9_cut_64 20 = .ok (.iload_n 3, 1) ∧ okop dsX9_cut_64 20 = true) ∧ (decode dsX9_cut_64 21 = .ok (.putfield 284, 3) ∧ okop dsX9_cut_64 21 = true) := by decide +kernel
theorem dX9_cut_64 : decode cX9_cut 64 = .ok (.aload 5, 2) := dgq (p := 0) daX9_cut_64 dbX9_cut_64.1
theorem dX9_cut_66 : decode cX9_cut 66 = .ok (.getfield 261, 3) := dgq (p := 2) daX9_cut_64 dbX9_cut_64.2.1
theorem dX9_cut_69 : decode cX9_cut 69 = .ok (.putfield 277, 3) := dgq (p := 5) daX9_cut_64 dbX9_cut_64.2.2.1
theorem dX9_cut_72 : decode cX9_cut 72 = .ok (.aload 4, 2) := dgq (p := 8) daX9_cut_64 dbX9_cut_64.2.2.2.1
theorem dX9_cut_74 : decode cX9_cut 74 = .ok (.aload 5, 2) := dgq (p := 10) daX9_cut_64 dbX9_cut_64.2.2.2.2.1
theorem dX9_cut_76 : decode cX9_cut 76 = .ok (.getfield 280, 3) := dgq (p := 12) daX9_cut_64 dbX9_cut_64.2.2.2.2.2.1
theorem dX9_cut_79 : decode cX9_cut 79 = .ok (.putfield 283, 3) := dgq (p := 15) daX9_cut_64 dbX9_cut_64.2.2.2.2.2.2.1
theorem dX9_cut_82 : decode cX9_cut 82 = .ok (.aload 4, 2) := dgq (p := 18) daX9_cut_64 dbX9_cut_64.2.2.2.2.2.2.2.1
theorem dX9_cut_84 : decode cX9_cut 84 = .ok (.iload_n 3, 1) := dgq (p := 20) daX9_cut_64 dbX9_cut_64.2.2.2.2.2.2.2.2.1
theorem dX9_cut_85 : decode cX9_cut 85 = .ok (.putfield 284, 3) := dgq (p := 21) daX9_cut_64 dbX9_cut_64.2.2.2.2.2.2.2.2.2
def dsX9_cut_88 : ByteArray := ⟨#[25, 5, 25, 4, 180, 0, 100, 182, 1, 31, 172]⟩
theorem daX9_cut_88 : agB cX9_cut dsX9_cut_88 88 := agB_of (n := 11) (by decide +kernel)
theorem dbX9_cut_88 : (decode dsX9_cut_88 0 = .ok (.aload 5, 2) ∧ okop dsX9_cut_88 0 = true) ∧ (decode dsX9_cut_88 2 = .ok (.aload 4, 2) ∧ okop dsX9_cut_88 2 = true) ∧ (decode dsX9_cut_88 4 = .ok (.getfield 100, 3) ∧ okop dsX9_cut_88 4 = true) ∧ (decode dsX9_cut_88 7 = .ok (.invokevirtual 287, 3) ∧ okop dsX9_cut_88 7 = true) ∧ (decode dsX9_cut_88 10 = .ok (.ireturn, 1) ∧ okop dsX9_cut_88 10 = true) := by decide +kernel
theorem dX9_cut_88 : decode cX9_cut 88 = .ok (.aload 5, 2) := dgq (p := 0) daX9_cut_88 dbX9_cut_88.1
theorem dX9_cut_90 : decode cX9_cut 90 = .ok (.aload 4, 2) := dgq (p := 2) daX9_cut_88 dbX9_cut_88.2.1
theorem dX9_cut_92 : decode cX9_cut 92 = .ok (.getfield 100, 3) := dgq (p := 4) daX9_cut_88 dbX9_cut_88.2.2.1
theorem dX9_cut_95 : decode cX9_cut 95 = .ok (.invokevirtual 287, 3) := dgq (p := 7) daX9_cut_88 dbX9_cut_88.2.2.2.1
theorem dX9_cut_98 : decode cX9_cut 98 = .ok (.ireturn, 1) := dgq (p := 10) daX9_cut_88 dbX9_cut_88.2.2.2.2
set_option maxRecDepth 20000 in
theorem ggX9_wear_X9_hobAt : GoodIn wsX9_wear wsX9_hobAt := goodIn_ca (goodIn_ca (goodIn_q _ [8, 1, 2, 9, 10] rfl (by decide +kernel)) (goodIn_sub (fun _ h => (List.mem_cons_of_mem _ (List.mem_append_left _ (List.mem_append_left _ (List.mem_append_right _ h))))) tg_wsX90)) (goodIn_sub (fun _ h => List.mem_cons_of_mem _ (List.mem_append_left _ (List.mem_append_right _ h))) (by decide +kernel))
set_option maxRecDepth 20000 in
theorem gX9_wear_X9_hobAt : GoodIn wsX9_wear (wsV RX9 257 RX9 yX9_hobAt wsX9_hobAt) := goodIn_app (goodIn_q _ [4, 5, 6, 7] rfl (by decide +kernel)) ggX9_wear_X9_hobAt
def dsX9_wear_0 : ByteArray := ⟨#[42, 27, 182, 1, 1, 78, 28, 155, 0, 12, 28, 45, 180, 1, 34, 190]⟩
theorem daX9_wear_0 : agB cX9_wear dsX9_wear_0 0 := agB_of (n := 16) (by decide +kernel)
theorem dbX9_wear_0 : (decode dsX9_wear_0 0 = .ok (.aload_n 0, 1) ∧ okop dsX9_wear_0 0 = true) ∧ (decode dsX9_wear_0 1 = .ok (.iload_n 1, 1) ∧ okop dsX9_wear_0 1 = true) ∧ (decode dsX9_wear_0 2 = .ok (.invokevirtual 257, 3) ∧ okop dsX9_wear_0 2 = true) ∧ (decode dsX9_wear_0 5 = .ok (.astore_n 3, 1) ∧ okop dsX9_wear_0 5 = true) ∧ (decode dsX9_wear_0 6 = .ok (.iload_n 2, 1) ∧ okop dsX9_wear_0 6 = true) ∧ (decode dsX9_wear_0 7 = .ok (.ifCond .lt 12, 3) ∧ okop dsX9_wear_0 7 = true) ∧ (decode dsX9_wear_0 10 = .ok (.iload_n 2, 1) ∧ okop dsX9_wear_0 10 = true) ∧ (decode dsX9_wear_0 11 = .ok (.aload_n 3, 1) ∧ okop dsX9_wear_0 11 = true) ∧ (decode dsX9_wear_0 12 = .ok (.getfield 290, 3) ∧ okop dsX9_wear_0 12 = true) ∧ (decode dsX9_wear_0 15 = .ok (.arraylength, 1) ∧ okop dsX9_wear_0 15 = true) := by decide +kernel
theorem dX9_wear_0 : decode cX9_wear 0 = .ok (.aload_n 0, 1) := dgq (p := 0) daX9_wear_0 dbX9_wear_0.1
theorem dX9_wear_1 : decode cX9_wear 1 = .ok (.iload_n 1, 1) := dgq (p := 1) daX9_wear_0 dbX9_wear_0.2.1
theorem dX9_wear_2 : decode cX9_wear 2 = .ok (.invokevirtual 257, 3) := dgq (p := 2) daX9_wear_0 dbX9_wear_0.2.2.1
theorem dX9_wear_5 : decode cX9_wear 5 = .ok (.astore_n 3, 1) := dgq (p := 5) daX9_wear_0 dbX9_wear_0.2.2.2.1
theorem dX9_wear_6 : decode cX9_wear 6 = .ok (.iload_n 2, 1) := dgq (p := 6) daX9_wear_0 dbX9_wear_0.2.2.2.2.1
theorem dX9_wear_7 : decode cX9_wear 7 = .ok (.ifCond .lt 12, 3) := dgq (p := 7) daX9_wear_0 dbX9_wear_0.2.2.2.2.2.1
theorem dX9_wear_10 : decode cX9_wear 10 = .ok (.iload_n 2, 1) := dgq (p := 10) daX9_wear_0 dbX9_wear_0.2.2.2.2.2.2.1
theorem dX9_wear_11 : decode cX9_wear 11 = .ok (.aload_n 3, 1) := dgq (p := 11) daX9_wear_0 dbX9_wear_0.2.2.2.2.2.2.2.1
theorem dX9_wear_12 : decode cX9_wear 12 = .ok (.getfield 290, 3) := dgq (p := 12) daX9_wear_0 dbX9_wear_0.2.2.2.2.2.2.2.2.1
theorem dX9_wear_15 : decode cX9_wear 15 = .ok (.arraylength, 1) := dgq (p := 15) daX9_wear_0 dbX9_wear_0.2.2.2.2.2.2.2.2.2
def dsX9_wear_16 : ByteArray := ⟨#[161, 0, 14, 187, 1, 37, 89, 19, 1, 39, 183, 1, 41, 191, 45, 180, 1, 34, 28, 46]⟩
theorem daX9_wear_16 : agB cX9_wear dsX9_wear_16 16 := agB_of (n := 20) (by decide +kernel)
theorem dbX9_wear_16 : (decode dsX9_wear_16 0 = .ok (.if_icmp .lt 14, 3) ∧ okop dsX9_wear_16 0 = true) ∧ (decode dsX9_wear_16 3 = .ok (.new 293, 3) ∧ okop dsX9_wear_16 3 = true) ∧ (decode dsX9_wear_16 6 = .ok (.dup, 1) ∧ okop dsX9_wear_16 6 = true) ∧ (decode dsX9_wear_16 7 = .ok (.ldc_w 295, 3) ∧ okop dsX9_wear_16 7 = true) ∧ (decode dsX9_wear_16 10 = .ok (.invokespecial 297, 3) ∧ okop dsX9_wear_16 10 = true) ∧ (decode dsX9_wear_16 13 = .ok (.athrow, 1) ∧ okop dsX9_wear_16 13 = true) ∧ (decode dsX9_wear_16 14 = .ok (.aload_n 3, 1) ∧ okop dsX9_wear_16 14 = true) ∧ (decode dsX9_wear_16 15 = .ok (.getfield 290, 3) ∧ okop dsX9_wear_16 15 = true) ∧ (decode dsX9_wear_16 18 = .ok (.iload_n 2, 1) ∧ okop dsX9_wear_16 18 = true) ∧ (decode dsX9_wear_16 19 = .ok (.iaload, 1) ∧ okop dsX9_wear_16 19 = true) := by decide +kernel
theorem dX9_wear_16 : decode cX9_wear 16 = .ok (.if_icmp .lt 14, 3) := dgq (p := 0) daX9_wear_16 dbX9_wear_16.1
theorem dX9_wear_19 : decode cX9_wear 19 = .ok (.new 293, 3) := dgq (p := 3) daX9_wear_16 dbX9_wear_16.2.1
theorem dX9_wear_22 : decode cX9_wear 22 = .ok (.dup, 1) := dgq (p := 6) daX9_wear_16 dbX9_wear_16.2.2.1
theorem dX9_wear_23 : decode cX9_wear 23 = .ok (.ldc_w 295, 3) := dgq (p := 7) daX9_wear_16 dbX9_wear_16.2.2.2.1
theorem dX9_wear_26 : decode cX9_wear 26 = .ok (.invokespecial 297, 3) := dgq (p := 10) daX9_wear_16 dbX9_wear_16.2.2.2.2.1
theorem dX9_wear_29 : decode cX9_wear 29 = .ok (.athrow, 1) := dgq (p := 13) daX9_wear_16 dbX9_wear_16.2.2.2.2.2.1
theorem dX9_wear_30 : decode cX9_wear 30 = .ok (.aload_n 3, 1) := dgq (p := 14) daX9_wear_16 dbX9_wear_16.2.2.2.2.2.2.1
theorem dX9_wear_31 : decode cX9_wear 31 = .ok (.getfield 290, 3) := dgq (p := 15) daX9_wear_16 dbX9_wear_16.2.2.2.2.2.2.2.1
theorem dX9_wear_34 : decode cX9_wear 34 = .ok (.iload_n 2, 1) := dgq (p := 18) daX9_wear_16 dbX9_wear_16.2.2.2.2.2.2.2.2.1
theorem dX9_wear_35 : decode cX9_wear 35 = .ok (.iaload, 1) := dgq (p := 19) daX9_wear_16 dbX9_wear_16.2.2.2.2.2.2.2.2.2
theorem dX9_wear_36 : decode cX9_wear 36 = .ok (.ireturn, 1) := by decide +kernel
set_option maxRecDepth 20000 in
theorem ggX9_regrind_X9_hobAt : GoodIn wsX9_regrind wsX9_hobAt := goodIn_ca (goodIn_ca (goodIn_q _ [7, 8, 9, 10, 11] rfl (by decide +kernel)) (goodIn_sub (fun _ h => (List.mem_cons_of_mem _ (List.mem_append_left _ (List.mem_append_left _ (List.mem_append_left _ (List.mem_append_right _ h)))))) tg_wsX90)) (goodIn_sub (fun _ h => List.mem_cons_of_mem _ (List.mem_append_left _ (List.mem_append_left _ (List.mem_append_right _ h)))) (by decide +kernel))
set_option maxRecDepth 20000 in
theorem gX9_regrind_X9_hobAt : GoodIn wsX9_regrind (wsV RX9 257 RX9 yX9_hobAt wsX9_hobAt) := goodIn_app (goodIn_q _ [3, 4, 5, 6] rfl (by decide +kernel)) ggX9_regrind_X9_hobAt
set_option maxRecDepth 20000 in
theorem ggX9_regrind_X9_allowOnly : GoodIn wsX9_regrind wsX9_allowOnly := goodIn_ca (goodIn_q _ [14, 15, 16] rfl (by decide +kernel)) (goodIn_sub (fun _ h => List.mem_cons_of_mem _ (List.mem_append_left _ (List.mem_append_right _ h))) (by decide +kernel))
set_option maxRecDepth 20000 in
theorem gX9_regrind_X9_allowOnly : GoodIn wsX9_regrind (va_wsS RX9 85 yX9_allowOnly wsX9_allowOnly) := goodIn_app (goodIn_q _ [12, 13, 6] rfl (by decide +kernel)) ggX9_regrind_X9_allowOnly
set_option maxRecDepth 20000 in
theorem ggX9_regrind_X3_sharpen : GoodIn wsX9_regrind wsX3_sharpen := goodIn_ca (goodIn_ca (goodIn_q _ [21, 22, 23, 24] rfl (by decide +kernel)) (goodIn_sub (fun _ h => (List.mem_cons_of_mem _ (List.mem_append_left _ (List.mem_append_left _ (List.mem_append_left _ (List.mem_append_left _ (List.mem_append_right _ h))))))) tg_wsX30)) (goodIn_sub (fun _ h => List.mem_cons_of_mem _ (List.mem_append_right _ h)) (by decide +kernel))
set_option maxRecDepth 20000 in
theorem gX9_regrind_X3_sharpen : GoodIn wsX9_regrind (wsV RX9 301 RX3 yX3_sharpen wsX3_sharpen) := goodIn_app (goodIn_q _ [17, 18, 19, 20] rfl (by decide +kernel)) ggX9_regrind_X3_sharpen
def dsX9_regrind_0 : ByteArray := ⟨#[42, 27, 182, 1, 1, 77, 44, 180, 1, 24, 16, 8, 162, 0, 17, 44, 180, 1, 42]⟩
theorem daX9_regrind_0 : agB cX9_regrind dsX9_regrind_0 0 := agB_of (n := 19) (by decide +kernel)
theorem dbX9_regrind_0 : (decode dsX9_regrind_0 0 = .ok (.aload_n 0, 1) ∧ okop dsX9_regrind_0 0 = true) ∧ (decode dsX9_regrind_0 1 = .ok (.iload_n 1, 1) ∧ okop dsX9_regrind_0 1 = true) ∧ (decode dsX9_regrind_0 2 = .ok (.invokevirtual 257, 3) ∧ okop dsX9_regrind_0 2 = true) ∧ (decode dsX9_regrind_0 5 = .ok (.astore_n 2, 1) ∧ okop dsX9_regrind_0 5 = true) ∧ (decode dsX9_regrind_0 6 = .ok (.aload_n 2, 1) ∧ okop dsX9_regrind_0 6 = true) ∧ (decode dsX9_regrind_0 7 = .ok (.getfield 280, 3) ∧ okop dsX9_regrind_0 7 = true) ∧ (decode dsX9_regrind_0 10 = .ok (.bipush 8, 2) ∧ okop dsX9_regrind_0 10 = true) ∧ (decode dsX9_regrind_0 12 = .ok (.if_icmp .ge 17, 3) ∧ okop dsX9_regrind_0 12 = true) ∧ (decode dsX9_regrind_0 15 = .ok (.aload_n 2, 1) ∧ okop dsX9_regrind_0 15 = true) ∧ (decode dsX9_regrind_0 16 = .ok (.getfield 298, 3) ∧ okop dsX9_regrind_0 16 = true) := by decide +kernel
theorem dX9_regrind_0 : decode cX9_regrind 0 = .ok (.aload_n 0, 1) := dgq (p := 0) daX9_regrind_0 dbX9_regrind_0.1
theorem dX9_regrind_1 : decode cX9_regrind 1 = .ok (.iload_n 1, 1) := dgq (p := 1) daX9_regrind_0 dbX9_regrind_0.2.1
theorem dX9_regrind_2 : decode cX9_regrind 2 = .ok (.invokevirtual 257, 3) := dgq (p := 2) daX9_regrind_0 dbX9_regrind_0.2.2.1
theorem dX9_regrind_5 : decode cX9_regrind 5 = .ok (.astore_n 2, 1) := dgq (p := 5) daX9_regrind_0 dbX9_regrind_0.2.2.2.1
theorem dX9_regrind_6 : decode cX9_regrind 6 = .ok (.aload_n 2, 1) := dgq (p := 6) daX9_regrind_0 dbX9_regrind_0.2.2.2.2.1
theorem dX9_regrind_7 : decode cX9_regrind 7 = .ok (.getfield 280, 3) := dgq (p := 7) daX9_regrind_0 dbX9_regrind_0.2.2.2.2.2.1
theorem dX9_regrind_10 : decode cX9_regrind 10 = .ok (.bipush 8, 2) := dgq (p := 10) daX9_regrind_0 dbX9_regrind_0.2.2.2.2.2.2.1
theorem dX9_regrind_12 : decode cX9_regrind 12 = .ok (.if_icmp .ge 17, 3) := dgq (p := 12) daX9_regrind_0 dbX9_regrind_0.2.2.2.2.2.2.2.1
theorem dX9_regrind_15 : decode cX9_regrind 15 = .ok (.aload_n 2, 1) := dgq (p := 15) daX9_regrind_0 dbX9_regrind_0.2.2.2.2.2.2.2.2.1
theorem dX9_regrind_16 : decode cX9_regrind 16 = .ok (.getfield 298, 3) := dgq (p := 16) daX9_regrind_0 dbX9_regrind_0.2.2.2.2.2.2.2.2.2
def dsX9_regrind_19 : ByteArray := ⟨#[17, 78, 132, 161, 0, 7, 4, 167, 0, 4, 3, 184, 0, 85, 44, 182, 1, 45, 44, 180, 1, 24]⟩
theorem daX9_regrind_19 : agB cX9_regrind dsX9_regrind_19 19 := agB_of (n := 22) (by decide +kernel)
theorem dbX9_regrind_19 : (decode dsX9_regrind_19 0 = .ok (.sipush 20100, 3) ∧ okop dsX9_regrind_19 0 = true) ∧ (decode dsX9_regrind_19 3 = .ok (.if_icmp .lt 7, 3) ∧ okop dsX9_regrind_19 3 = true) ∧ (decode dsX9_regrind_19 6 = .ok (.iconst 1, 1) ∧ okop dsX9_regrind_19 6 = true) ∧ (decode dsX9_regrind_19 7 = .ok (.goto 4, 3) ∧ okop dsX9_regrind_19 7 = true) ∧ (decode dsX9_regrind_19 10 = .ok (.iconst 0, 1) ∧ okop dsX9_regrind_19 10 = true) ∧ (decode dsX9_regrind_19 11 = .ok (.invokestatic 85, 3) ∧ okop dsX9_regrind_19 11 = true) ∧ (decode dsX9_regrind_19 14 = .ok (.aload_n 2, 1) ∧ okop dsX9_regrind_19 14 = true) ∧ (decode dsX9_regrind_19 15 = .ok (.invokevirtual 301, 3) ∧ okop dsX9_regrind_19 15 = true) ∧ (decode dsX9_regrind_19 18 = .ok (.aload_n 2, 1) ∧ okop dsX9_regrind_19 18 = true) ∧ (decode dsX9_regrind_19 19 = .ok (.getfield 280, 3) ∧ okop dsX9_regrind_19 19 = true) := by decide +kernel
theorem dX9_regrind_19 : decode cX9_regrind 19 = .ok (.sipush 20100, 3) := dgq (p := 0) daX9_regrind_19 dbX9_regrind_19.1
theorem dX9_regrind_22 : decode cX9_regrind 22 = .ok (.if_icmp .lt 7, 3) := dgq (p := 3) daX9_regrind_19 dbX9_regrind_19.2.1
theorem dX9_regrind_25 : decode cX9_regrind 25 = .ok (.iconst 1, 1) := dgq (p := 6) daX9_regrind_19 dbX9_regrind_19.2.2.1
theorem dX9_regrind_26 : decode cX9_regrind 26 = .ok (.goto 4, 3) := dgq (p := 7) daX9_regrind_19 dbX9_regrind_19.2.2.2.1
theorem dX9_regrind_29 : decode cX9_regrind 29 = .ok (.iconst 0, 1) := dgq (p := 10) daX9_regrind_19 dbX9_regrind_19.2.2.2.2.1
theorem dX9_regrind_30 : decode cX9_regrind 30 = .ok (.invokestatic 85, 3) := dgq (p := 11) daX9_regrind_19 dbX9_regrind_19.2.2.2.2.2.1
theorem dX9_regrind_33 : decode cX9_regrind 33 = .ok (.aload_n 2, 1) := dgq (p := 14) daX9_regrind_19 dbX9_regrind_19.2.2.2.2.2.2.1
theorem dX9_regrind_34 : decode cX9_regrind 34 = .ok (.invokevirtual 301, 3) := dgq (p := 15) daX9_regrind_19 dbX9_regrind_19.2.2.2.2.2.2.2.1
theorem dX9_regrind_37 : decode cX9_regrind 37 = .ok (.aload_n 2, 1) := dgq (p := 18) daX9_regrind_19 dbX9_regrind_19.2.2.2.2.2.2.2.2.1
theorem dX9_regrind_38 : decode cX9_regrind 38 = .ok (.getfield 280, 3) := dgq (p := 19) daX9_regrind_19 dbX9_regrind_19.2.2.2.2.2.2.2.2.2
theorem dX9_regrind_41 : decode cX9_regrind 41 = .ok (.ireturn, 1) := by decide +kernel
set_option maxRecDepth 20000 in
theorem ggX9_inStep_X9_needTeeth : GoodIn wsX9_inStep wsX9_needTeeth := goodIn_ca (goodIn_q _ [5, 6, 7, 4, 8, 9, 10] rfl (by decide +kernel)) (goodIn_sub (fun _ h => List.mem_cons_of_mem _ (List.mem_append_right _ h)) (by decide +kernel))
set_option maxRecDepth 20000 in
theorem gX9_inStep_X9_needTeeth : GoodIn wsX9_inStep (va_wsS RX9 55 yX9_needTeeth wsX9_needTeeth) := goodIn_app (goodIn_q _ [2, 3, 4] rfl (by decide +kernel)) ggX9_inStep_X9_needTeeth
set_option maxRecDepth 20000 in
theorem ggX9_inStep_X9_needRange : GoodIn wsX9_inStep wsX9_needRange := goodIn_ca (goodIn_q _ [8, 9, 10] rfl (by decide +kernel)) (goodIn_sub (fun _ h => List.mem_cons_of_mem _ (List.mem_append_right _ h)) (by decide +kernel))
set_option maxRecDepth 20000 in
theorem gX9_inStep_X9_needRange : GoodIn wsX9_inStep (va_wsS RX9 59 yX9_needRange wsX9_needRange) := goodIn_app (goodIn_q _ [6, 7, 4] rfl (by decide +kernel)) ggX9_inStep_X9_needRange
set_option maxRecDepth 20000 in
theorem ggX9_inStep_X9_commonMultiple : GoodIn wsX9_inStep wsX9_commonMultiple := goodIn_ca (goodIn_q _ [13, 14, 15, 4, 16, 17, 18, 19, 20] rfl (by decide +kernel)) (goodIn_sub (fun _ h => List.mem_cons_of_mem _ (List.mem_append_left _ (List.mem_append_right _ h))) (by decide +kernel))
set_option maxRecDepth 20000 in
theorem gX9_inStep_X9_commonMultiple : GoodIn wsX9_inStep (va_wsS RX9 305 yX9_commonMultiple wsX9_commonMultiple) := goodIn_app (goodIn_q _ [11, 12, 4] rfl (by decide +kernel)) ggX9_inStep_X9_commonMultiple
def dsX9_inStep_0 : ByteArray := ⟨#[27, 184, 0, 55, 28, 184, 0, 55, 29, 3, 19, 1, 48, 184, 0, 59, 21, 4, 4]⟩
theorem daX9_inStep_0 : agB cX9_inStep dsX9_inStep_0 0 := agB_of (n := 19) (by decide +kernel)
theorem dbX9_inStep_0 : (decode dsX9_inStep_0 0 = .ok (.iload_n 1, 1) ∧ okop dsX9_inStep_0 0 = true) ∧ (decode dsX9_inStep_0 1 = .ok (.invokestatic 55, 3) ∧ okop dsX9_inStep_0 1 = true) ∧ (decode dsX9_inStep_0 4 = .ok (.iload_n 2, 1) ∧ okop dsX9_inStep_0 4 = true) ∧ (decode dsX9_inStep_0 5 = .ok (.invokestatic 55, 3) ∧ okop dsX9_inStep_0 5 = true) ∧ (decode dsX9_inStep_0 8 = .ok (.iload_n 3, 1) ∧ okop dsX9_inStep_0 8 = true) ∧ (decode dsX9_inStep_0 9 = .ok (.iconst 0, 1) ∧ okop dsX9_inStep_0 9 = true) ∧ (decode dsX9_inStep_0 10 = .ok (.ldc_w 304, 3) ∧ okop dsX9_inStep_0 10 = true) ∧ (decode dsX9_inStep_0 13 = .ok (.invokestatic 59, 3) ∧ okop dsX9_inStep_0 13 = true) ∧ (decode dsX9_inStep_0 16 = .ok (.iload 4, 2) ∧ okop dsX9_inStep_0 16 = true) ∧ (decode dsX9_inStep_0 18 = .ok (.iconst 1, 1) ∧ okop dsX9_inStep_0 18 = true) := by decide +kernel
theorem dX9_inStep_0 : decode cX9_inStep 0 = .ok (.iload_n 1, 1) := dgq (p := 0) daX9_inStep_0 dbX9_inStep_0.1
theorem dX9_inStep_1 : decode cX9_inStep 1 = .ok (.invokestatic 55, 3) := dgq (p := 1) daX9_inStep_0 dbX9_inStep_0.2.1
theorem dX9_inStep_4 : decode cX9_inStep 4 = .ok (.iload_n 2, 1) := dgq (p := 4) daX9_inStep_0 dbX9_inStep_0.2.2.1
theorem dX9_inStep_5 : decode cX9_inStep 5 = .ok (.invokestatic 55, 3) := dgq (p := 5) daX9_inStep_0 dbX9_inStep_0.2.2.2.1
theorem dX9_inStep_8 : decode cX9_inStep 8 = .ok (.iload_n 3, 1) := dgq (p := 8) daX9_inStep_0 dbX9_inStep_0.2.2.2.2.1
theorem dX9_inStep_9 : decode cX9_inStep 9 = .ok (.iconst 0, 1) := dgq (p := 9) daX9_inStep_0 dbX9_inStep_0.2.2.2.2.2.1
theorem dX9_inStep_10 : decode cX9_inStep 10 = .ok (.ldc_w 304, 3) := dgq (p := 10) daX9_inStep_0 dbX9_inStep_0.2.2.2.2.2.2.1
theorem dX9_inStep_13 : decode cX9_inStep 13 = .ok (.invokestatic 59, 3) := dgq (p := 13) daX9_inStep_0 dbX9_inStep_0.2.2.2.2.2.2.2.1
theorem dX9_inStep_16 : decode cX9_inStep 16 = .ok (.iload 4, 2) := dgq (p := 16) daX9_inStep_0 dbX9_inStep_0.2.2.2.2.2.2.2.2.1
theorem dX9_inStep_18 : decode cX9_inStep 18 = .ok (.iconst 1, 1) := dgq (p := 18) daX9_inStep_0 dbX9_inStep_0.2.2.2.2.2.2.2.2.2
def dsX9_inStep_19 : ByteArray := ⟨#[17, 39, 15, 184, 0, 59, 29, 133, 27, 28, 184, 1, 49, 133, 105, 21, 4]⟩
theorem daX9_inStep_19 : agB cX9_inStep dsX9_inStep_19 19 := agB_of (n := 17) (by decide +kernel)
theorem dbX9_inStep_19 : (decode dsX9_inStep_19 0 = .ok (.sipush 9999, 3) ∧ okop dsX9_inStep_19 0 = true) ∧ (decode dsX9_inStep_19 3 = .ok (.invokestatic 59, 3) ∧ okop dsX9_inStep_19 3 = true) ∧ (decode dsX9_inStep_19 6 = .ok (.iload_n 3, 1) ∧ okop dsX9_inStep_19 6 = true) ∧ (decode dsX9_inStep_19 7 = .ok (.i2l, 1) ∧ okop dsX9_inStep_19 7 = true) ∧ (decode dsX9_inStep_19 8 = .ok (.iload_n 1, 1) ∧ okop dsX9_inStep_19 8 = true) ∧ (decode dsX9_inStep_19 9 = .ok (.iload_n 2, 1) ∧ okop dsX9_inStep_19 9 = true) ∧ (decode dsX9_inStep_19 10 = .ok (.invokestatic 305, 3) ∧ okop dsX9_inStep_19 10 = true) ∧ (decode dsX9_inStep_19 13 = .ok (.i2l, 1) ∧ okop dsX9_inStep_19 13 = true) ∧ (decode dsX9_inStep_19 14 = .ok (.lmul, 1) ∧ okop dsX9_inStep_19 14 = true) ∧ (decode dsX9_inStep_19 15 = .ok (.iload 4, 2) ∧ okop dsX9_inStep_19 15 = true) := by decide +kernel
theorem dX9_inStep_19 : decode cX9_inStep 19 = .ok (.sipush 9999, 3) := dgq (p := 0) daX9_inStep_19 dbX9_inStep_19.1
theorem dX9_inStep_22 : decode cX9_inStep 22 = .ok (.invokestatic 59, 3) := dgq (p := 3) daX9_inStep_19 dbX9_inStep_19.2.1
theorem dX9_inStep_25 : decode cX9_inStep 25 = .ok (.iload_n 3, 1) := dgq (p := 6) daX9_inStep_19 dbX9_inStep_19.2.2.1
theorem dX9_inStep_26 : decode cX9_inStep 26 = .ok (.i2l, 1) := dgq (p := 7) daX9_inStep_19 dbX9_inStep_19.2.2.2.1
theorem dX9_inStep_27 : decode cX9_inStep 27 = .ok (.iload_n 1, 1) := dgq (p := 8) daX9_inStep_19 dbX9_inStep_19.2.2.2.2.1
theorem dX9_inStep_28 : decode cX9_inStep 28 = .ok (.iload_n 2, 1) := dgq (p := 9) daX9_inStep_19 dbX9_inStep_19.2.2.2.2.2.1
theorem dX9_inStep_29 : decode cX9_inStep 29 = .ok (.invokestatic 305, 3) := dgq (p := 10) daX9_inStep_19 dbX9_inStep_19.2.2.2.2.2.2.1
theorem dX9_inStep_32 : decode cX9_inStep 32 = .ok (.i2l, 1) := dgq (p := 13) daX9_inStep_19 dbX9_inStep_19.2.2.2.2.2.2.2.1
theorem dX9_inStep_33 : decode cX9_inStep 33 = .ok (.lmul, 1) := dgq (p := 14) daX9_inStep_19 dbX9_inStep_19.2.2.2.2.2.2.2.2.1
theorem dX9_inStep_34 : decode cX9_inStep 34 = .ok (.iload 4, 2) := dgq (p := 15) daX9_inStep_19 dbX9_inStep_19.2.2.2.2.2.2.2.2.2
def dsX9_inStep_36 : ByteArray := ⟨#[133, 113, 9, 148, 154, 0, 7, 4, 167, 0, 4, 3, 172]⟩
theorem daX9_inStep_36 : agB cX9_inStep dsX9_inStep_36 36 := agB_of (n := 13) (by decide +kernel)
theorem dbX9_inStep_36 : (decode dsX9_inStep_36 0 = .ok (.i2l, 1) ∧ okop dsX9_inStep_36 0 = true) ∧ (decode dsX9_inStep_36 1 = .ok (.lrem, 1) ∧ okop dsX9_inStep_36 1 = true) ∧ (decode dsX9_inStep_36 2 = .ok (.lconst 0, 1) ∧ okop dsX9_inStep_36 2 = true) ∧ (decode dsX9_inStep_36 3 = .ok (.lcmp, 1) ∧ okop dsX9_inStep_36 3 = true) ∧ (decode dsX9_inStep_36 4 = .ok (.ifCond .ne 7, 3) ∧ okop dsX9_inStep_36 4 = true) ∧ (decode dsX9_inStep_36 7 = .ok (.iconst 1, 1) ∧ okop dsX9_inStep_36 7 = true) ∧ (decode dsX9_inStep_36 8 = .ok (.goto 4, 3) ∧ okop dsX9_inStep_36 8 = true) ∧ (decode dsX9_inStep_36 11 = .ok (.iconst 0, 1) ∧ okop dsX9_inStep_36 11 = true) ∧ (decode dsX9_inStep_36 12 = .ok (.ireturn, 1) ∧ okop dsX9_inStep_36 12 = true) := by decide +kernel
theorem dX9_inStep_36 : decode cX9_inStep 36 = .ok (.i2l, 1) := dgq (p := 0) daX9_inStep_36 dbX9_inStep_36.1
theorem dX9_inStep_37 : decode cX9_inStep 37 = .ok (.lrem, 1) := dgq (p := 1) daX9_inStep_36 dbX9_inStep_36.2.1
theorem dX9_inStep_38 : decode cX9_inStep 38 = .ok (.lconst 0, 1) := dgq (p := 2) daX9_inStep_36 dbX9_inStep_36.2.2.1
theorem dX9_inStep_39 : decode cX9_inStep 39 = .ok (.lcmp, 1) := dgq (p := 3) daX9_inStep_36 dbX9_inStep_36.2.2.2.1
theorem dX9_inStep_40 : decode cX9_inStep 40 = .ok (.ifCond .ne 7, 3) := dgq (p := 4) daX9_inStep_36 dbX9_inStep_36.2.2.2.2.1
theorem dX9_inStep_43 : decode cX9_inStep 43 = .ok (.iconst 1, 1) := dgq (p := 7) daX9_inStep_36 dbX9_inStep_36.2.2.2.2.2.1
theorem dX9_inStep_44 : decode cX9_inStep 44 = .ok (.goto 4, 3) := dgq (p := 8) daX9_inStep_36 dbX9_inStep_36.2.2.2.2.2.2.1
theorem dX9_inStep_47 : decode cX9_inStep 47 = .ok (.iconst 0, 1) := dgq (p := 11) daX9_inStep_36 dbX9_inStep_36.2.2.2.2.2.2.2.1
theorem dX9_inStep_48 : decode cX9_inStep 48 = .ok (.ireturn, 1) := dgq (p := 12) daX9_inStep_36 dbX9_inStep_36.2.2.2.2.2.2.2.2
set_option maxRecDepth 20000 in
theorem ggX9_clock_X9_needTeeth : GoodIn wsX9_clock wsX9_needTeeth := goodIn_ca (goodIn_q _ [4, 5, 6, 3, 7, 8, 9] rfl (by decide +kernel)) (goodIn_sub (fun _ h => List.mem_cons_of_mem _ (List.mem_append_right _ h)) (by decide +kernel))
set_option maxRecDepth 20000 in
theorem gX9_clock_X9_needTeeth : GoodIn wsX9_clock (va_wsS RX9 55 yX9_needTeeth wsX9_needTeeth) := goodIn_app (goodIn_q _ [1, 2, 3] rfl (by decide +kernel)) ggX9_clock_X9_needTeeth
set_option maxRecDepth 20000 in
theorem ggX9_clock_X9_needRange : GoodIn wsX9_clock wsX9_needRange := goodIn_ca (goodIn_q _ [7, 8, 9] rfl (by decide +kernel)) (goodIn_sub (fun _ h => List.mem_cons_of_mem _ (List.mem_append_right _ h)) (by decide +kernel))
set_option maxRecDepth 20000 in
theorem gX9_clock_X9_needRange : GoodIn wsX9_clock (va_wsS RX9 59 yX9_needRange wsX9_needRange) := goodIn_app (goodIn_q _ [5, 6, 3] rfl (by decide +kernel)) ggX9_clock_X9_needRange
set_option maxRecDepth 20000 in
theorem ggX9_clock_J9_floorMod_7cf53 : GoodIn wsX9_clock wsJ9_floorMod_7cf53 := goodIn_q _ [13] rfl (by decide +kernel)
set_option maxRecDepth 20000 in
theorem gX9_clock_J9_floorMod_7cf53 : GoodIn wsX9_clock (va_wsS RX9 308 yJ9_floorMod_7cf53 wsJ9_floorMod_7cf53) := goodIn_app (goodIn_q _ [10, 11, 12] rfl (by decide +kernel)) ggX9_clock_J9_floorMod_7cf53
def dsX9_clock_0 : ByteArray := ⟨#[27, 184, 0, 55, 28, 184, 0, 55, 29, 3, 27, 4, 100, 184, 0, 59]⟩
theorem daX9_clock_0 : agB cX9_clock dsX9_clock_0 0 := agB_of (n := 16) (by decide +kernel)
theorem dbX9_clock_0 : (decode dsX9_clock_0 0 = .ok (.iload_n 1, 1) ∧ okop dsX9_clock_0 0 = true) ∧ (decode dsX9_clock_0 1 = .ok (.invokestatic 55, 3) ∧ okop dsX9_clock_0 1 = true) ∧ (decode dsX9_clock_0 4 = .ok (.iload_n 2, 1) ∧ okop dsX9_clock_0 4 = true) ∧ (decode dsX9_clock_0 5 = .ok (.invokestatic 55, 3) ∧ okop dsX9_clock_0 5 = true) ∧ (decode dsX9_clock_0 8 = .ok (.iload_n 3, 1) ∧ okop dsX9_clock_0 8 = true) ∧ (decode dsX9_clock_0 9 = .ok (.iconst 0, 1) ∧ okop dsX9_clock_0 9 = true) ∧ (decode dsX9_clock_0 10 = .ok (.iload_n 1, 1) ∧ okop dsX9_clock_0 10 = true) ∧ (decode dsX9_clock_0 11 = .ok (.iconst 1, 1) ∧ okop dsX9_clock_0 11 = true) ∧ (decode dsX9_clock_0 12 = .ok (.isub, 1) ∧ okop dsX9_clock_0 12 = true) ∧ (decode dsX9_clock_0 13 = .ok (.invokestatic 59, 3) ∧ okop dsX9_clock_0 13 = true) := by decide +kernel
theorem dX9_clock_0 : decode cX9_clock 0 = .ok (.iload_n 1, 1) := dgq (p := 0) daX9_clock_0 dbX9_clock_0.1
theorem dX9_clock_1 : decode cX9_clock 1 = .ok (.invokestatic 55, 3) := dgq (p := 1) daX9_clock_0 dbX9_clock_0.2.1
theorem dX9_clock_4 : decode cX9_clock 4 = .ok (.iload_n 2, 1) := dgq (p := 4) daX9_clock_0 dbX9_clock_0.2.2.1
theorem dX9_clock_5 : decode cX9_clock 5 = .ok (.invokestatic 55, 3) := dgq (p := 5) daX9_clock_0 dbX9_clock_0.2.2.2.1
theorem dX9_clock_8 : decode cX9_clock 8 = .ok (.iload_n 3, 1) := dgq (p := 8) daX9_clock_0 dbX9_clock_0.2.2.2.2.1
theorem dX9_clock_9 : decode cX9_clock 9 = .ok (.iconst 0, 1) := dgq (p := 9) daX9_clock_0 dbX9_clock_0.2.2.2.2.2.1
theorem dX9_clock_10 : decode cX9_clock 10 = .ok (.iload_n 1, 1) := dgq (p := 10) daX9_clock_0 dbX9_clock_0.2.2.2.2.2.2.1
theorem dX9_clock_11 : decode cX9_clock 11 = .ok (.iconst 1, 1) := dgq (p := 11) daX9_clock_0 dbX9_clock_0.2.2.2.2.2.2.2.1
theorem dX9_clock_12 : decode cX9_clock 12 = .ok (.isub, 1) := dgq (p := 12) daX9_clock_0 dbX9_clock_0.2.2.2.2.2.2.2.2.1
theorem dX9_clock_13 : decode cX9_clock 13 = .ok (.invokestatic 59, 3) := dgq (p := 13) daX9_clock_0 dbX9_clock_0.2.2.2.2.2.2.2.2.2
def dsX9_clock_16 : ByteArray := ⟨#[29, 116, 28, 104, 27, 184, 1, 52, 172]⟩
theorem daX9_clock_16 : agB cX9_clock dsX9_clock_16 16 := agB_of (n := 9) (by decide +kernel)
theorem dbX9_clock_16 : (decode dsX9_clock_16 0 = .ok (.iload_n 3, 1) ∧ okop dsX9_clock_16 0 = true) ∧ (decode dsX9_clock_16 1 = .ok (.ineg, 1) ∧ okop dsX9_clock_16 1 = true) ∧ (decode dsX9_clock_16 2 = .ok (.iload_n 2, 1) ∧ okop dsX9_clock_16 2 = true) ∧ (decode dsX9_clock_16 3 = .ok (.imul, 1) ∧ okop dsX9_clock_16 3 = true) ∧ (decode dsX9_clock_16 4 = .ok (.iload_n 1, 1) ∧ okop dsX9_clock_16 4 = true) ∧ (decode dsX9_clock_16 5 = .ok (.invokestatic 308, 3) ∧ okop dsX9_clock_16 5 = true) ∧ (decode dsX9_clock_16 8 = .ok (.ireturn, 1) ∧ okop dsX9_clock_16 8 = true) := by decide +kernel
theorem dX9_clock_16 : decode cX9_clock 16 = .ok (.iload_n 3, 1) := dgq (p := 0) daX9_clock_16 dbX9_clock_16.1
theorem dX9_clock_17 : decode cX9_clock 17 = .ok (.ineg, 1) := dgq (p := 1) daX9_clock_16 dbX9_clock_16.2.1
theorem dX9_clock_18 : decode cX9_clock 18 = .ok (.iload_n 2, 1) := dgq (p := 2) daX9_clock_16 dbX9_clock_16.2.2.1
theorem dX9_clock_19 : decode cX9_clock 19 = .ok (.imul, 1) := dgq (p := 3) daX9_clock_16 dbX9_clock_16.2.2.2.1
theorem dX9_clock_20 : decode cX9_clock 20 = .ok (.iload_n 1, 1) := dgq (p := 4) daX9_clock_16 dbX9_clock_16.2.2.2.2.1
theorem dX9_clock_21 : decode cX9_clock 21 = .ok (.invokestatic 308, 3) := dgq (p := 5) daX9_clock_16 dbX9_clock_16.2.2.2.2.2.1
theorem dX9_clock_24 : decode cX9_clock 24 = .ok (.ireturn, 1) := dgq (p := 8) daX9_clock_16 dbX9_clock_16.2.2.2.2.2.2
set_option maxRecDepth 20000 in
theorem ggX9_harden_X9_gearAt : GoodIn wsX9_harden wsX9_gearAt := goodIn_ca (goodIn_ca (goodIn_q _ [6, 7, 8, 9, 10] rfl (by decide +kernel)) (goodIn_sub (fun _ h => (List.mem_cons_of_mem _ (List.mem_append_left _ (List.mem_append_left _ (List.mem_append_left _ (List.mem_append_left _ (List.mem_append_right _ h))))))) tg_wsX90)) (goodIn_sub (fun _ h => List.mem_cons_of_mem _ (List.mem_append_left _ (List.mem_append_left _ (List.mem_append_left _ (List.mem_append_right _ h))))) (by decide +kernel))
set_option maxRecDepth 20000 in
theorem gX9_harden_X9_gearAt : GoodIn wsX9_harden (wsV RX9 77 RX9 yX9_gearAt wsX9_gearAt) := goodIn_app (goodIn_q _ [2, 3, 4, 5] rfl (by decide +kernel)) ggX9_harden_X9_gearAt
set_option maxRecDepth 20000 in
theorem ggX9_harden_X9_needRange : GoodIn wsX9_harden wsX9_needRange := goodIn_ca (goodIn_q _ [13, 14, 15] rfl (by decide +kernel)) (goodIn_sub (fun _ h => List.mem_cons_of_mem _ (List.mem_append_left _ (List.mem_append_left _ (List.mem_append_right _ h)))) (by decide +kernel))
set_option maxRecDepth 20000 in
theorem gX9_harden_X9_needRange : GoodIn wsX9_harden (va_wsS RX9 59 yX9_needRange wsX9_needRange) := goodIn_app (goodIn_q _ [11, 12, 5] rfl (by decide +kernel)) ggX9_harden_X9_needRange
set_option maxRecDepth 20000 in
theorem ggX9_harden_X2_isWhole : GoodIn wsX9_harden wsX2_isWhole := goodIn_ca (goodIn_q _ [20, 21, 22, 23, 24, 25, 19, 26, 27, 28] rfl (by decide +kernel)) (goodIn_sub (fun _ h => (List.mem_cons_of_mem _ (List.mem_append_left _ (List.mem_append_left _ (List.mem_append_left _ (List.mem_append_left _ (List.mem_append_left _ (List.mem_append_right _ h)))))))) tg_wsX20)
set_option maxRecDepth 20000 in
theorem gX9_harden_X2_isWhole : GoodIn wsX9_harden (wsV RX9 311 RX2 yX2_isWhole wsX2_isWhole) := goodIn_app (goodIn_q _ [16, 17, 18, 19] rfl (by decide +kernel)) ggX9_harden_X2_isWhole
set_option maxRecDepth 20000 in
theorem ggX9_harden_X9_allowOnly : GoodIn wsX9_harden wsX9_allowOnly := goodIn_ca (goodIn_q _ [31, 32, 33] rfl (by decide +kernel)) (goodIn_sub (fun _ h => List.mem_cons_of_mem _ (List.mem_append_left _ (List.mem_append_right _ h))) (by decide +kernel))
set_option maxRecDepth 20000 in
theorem gX9_harden_X9_allowOnly : GoodIn wsX9_harden (va_wsS RX9 85 yX9_allowOnly wsX9_allowOnly) := goodIn_app (goodIn_q _ [29, 30, 5] rfl (by decide +kernel)) ggX9_harden_X9_allowOnly
set_option maxRecDepth 20000 in
theorem ggX9_harden_X2_heat : GoodIn wsX9_harden wsX2_heat := goodIn_ca (goodIn_ca (goodIn_q _ [37, 38, 39, 40, 41, 42, 43, 44, 45, 46, 47, 48, 49, 19, 50, 51, 52, 53, 5, 54] rfl (by decide +kernel)) (goodIn_sub (fun _ h => (List.mem_cons_of_mem _ (List.mem_append_left _ (List.mem_append_left _ (List.mem_append_left _ (List.mem_append_left _ (List.mem_append_left _ (List.mem_append_right _ h)))))))) tg_wsX20)) (goodIn_sub (fun _ h => List.mem_cons_of_mem _ (List.mem_append_right _ h)) (by decide +kernel))
set_option maxRecDepth 20000 in
theorem gX9_harden_X2_heat : GoodIn wsX9_harden (wsV RX9 317 RX2 yX2_heat wsX2_heat) := goodIn_app (goodIn_q _ [34, 35, 36, 19] rfl (by decide +kernel)) ggX9_harden_X2_heat
def dsX9_harden_0 : ByteArray := ⟨#[42, 27, 182, 0, 77, 58, 4, 28, 4, 16, 99, 184, 0, 59, 25, 4, 182, 1, 55]⟩
theorem daX9_harden_0 : agB cX9_harden dsX9_harden_0 0 := agB_of (n := 19) (by decide +kernel)
theorem dbX9_harden_0 : (decode dsX9_harden_0 0 = .ok (.aload_n 0, 1) ∧ okop dsX9_harden_0 0 = true) ∧ (decode dsX9_harden_0 1 = .ok (.iload_n 1, 1) ∧ okop dsX9_harden_0 1 = true) ∧ (decode dsX9_harden_0 2 = .ok (.invokevirtual 77, 3) ∧ okop dsX9_harden_0 2 = true) ∧ (decode dsX9_harden_0 5 = .ok (.astore 4, 2) ∧ okop dsX9_harden_0 5 = true) ∧ (decode dsX9_harden_0 7 = .ok (.iload_n 2, 1) ∧ okop dsX9_harden_0 7 = true) ∧ (decode dsX9_harden_0 8 = .ok (.iconst 1, 1) ∧ okop dsX9_harden_0 8 = true) ∧ (decode dsX9_harden_0 9 = .ok (.bipush 99, 2) ∧ okop dsX9_harden_0 9 = true) ∧ (decode dsX9_harden_0 11 = .ok (.invokestatic 59, 3) ∧ okop dsX9_harden_0 11 = true) ∧ (decode dsX9_harden_0 14 = .ok (.aload 4, 2) ∧ okop dsX9_harden_0 14 = true) ∧ (decode dsX9_harden_0 16 = .ok (.invokevirtual 311, 3) ∧ okop dsX9_harden_0 16 = true) := by decide +kernel
theorem dX9_harden_0 : decode cX9_harden 0 = .ok (.aload_n 0, 1) := dgq (p := 0) daX9_harden_0 dbX9_harden_0.1
theorem dX9_harden_1 : decode cX9_harden 1 = .ok (.iload_n 1, 1) := dgq (p := 1) daX9_harden_0 dbX9_harden_0.2.1
theorem dX9_harden_2 : decode cX9_harden 2 = .ok (.invokevirtual 77, 3) := dgq (p := 2) daX9_harden_0 dbX9_harden_0.2.2.1
theorem dX9_harden_5 : decode cX9_harden 5 = .ok (.astore 4, 2) := dgq (p := 5) daX9_harden_0 dbX9_harden_0.2.2.2.1
theorem dX9_harden_7 : decode cX9_harden 7 = .ok (.iload_n 2, 1) := dgq (p := 7) daX9_harden_0 dbX9_harden_0.2.2.2.2.1
theorem dX9_harden_8 : decode cX9_harden 8 = .ok (.iconst 1, 1) := dgq (p := 8) daX9_harden_0 dbX9_harden_0.2.2.2.2.2.1
theorem dX9_harden_9 : decode cX9_harden 9 = .ok (.bipush 99, 2) := dgq (p := 9) daX9_harden_0 dbX9_harden_0.2.2.2.2.2.2.1
theorem dX9_harden_11 : decode cX9_harden 11 = .ok (.invokestatic 59, 3) := dgq (p := 11) daX9_harden_0 dbX9_harden_0.2.2.2.2.2.2.2.1
theorem dX9_harden_14 : decode cX9_harden 14 = .ok (.aload 4, 2) := dgq (p := 14) daX9_harden_0 dbX9_harden_0.2.2.2.2.2.2.2.2.1
theorem dX9_harden_16 : decode cX9_harden 16 = .ok (.invokevirtual 311, 3) := dgq (p := 16) daX9_harden_0 dbX9_harden_0.2.2.2.2.2.2.2.2.2
def dsX9_harden_19 : ByteArray := ⟨#[153, 0, 15, 25, 4, 180, 1, 58, 154, 0, 7, 4, 167, 0, 4, 3, 184, 0, 85, 25, 4, 28]⟩
theorem daX9_harden_19 : agB cX9_harden dsX9_harden_19 19 := agB_of (n := 22) (by decide +kernel)
theorem dbX9_harden_19 : (decode dsX9_harden_19 0 = .ok (.ifCond .eq 15, 3) ∧ okop dsX9_harden_19 0 = true) ∧ (decode dsX9_harden_19 3 = .ok (.aload 4, 2) ∧ okop dsX9_harden_19 3 = true) ∧ (decode dsX9_harden_19 5 = .ok (.getfield 314, 3) ∧ okop dsX9_harden_19 5 = true) ∧ (decode dsX9_harden_19 8 = .ok (.ifCond .ne 7, 3) ∧ okop dsX9_harden_19 8 = true) ∧ (decode dsX9_harden_19 11 = .ok (.iconst 1, 1) ∧ okop dsX9_harden_19 11 = true) ∧ (decode dsX9_harden_19 12 = .ok (.goto 4, 3) ∧ okop dsX9_harden_19 12 = true) ∧ (decode dsX9_harden_19 15 = .ok (.iconst 0, 1) ∧ okop dsX9_harden_19 15 = true) ∧ (decode dsX9_harden_19 16 = .ok (.invokestatic 85, 3) ∧ okop dsX9_harden_19 16 = true) ∧ (decode dsX9_harden_19 19 = .ok (.aload 4, 2) ∧ okop dsX9_harden_19 19 = true) ∧ (decode dsX9_harden_19 21 = .ok (.iload_n 2, 1) ∧ okop dsX9_harden_19 21 = true) := by decide +kernel
theorem dX9_harden_19 : decode cX9_harden 19 = .ok (.ifCond .eq 15, 3) := dgq (p := 0) daX9_harden_19 dbX9_harden_19.1
theorem dX9_harden_22 : decode cX9_harden 22 = .ok (.aload 4, 2) := dgq (p := 3) daX9_harden_19 dbX9_harden_19.2.1
theorem dX9_harden_24 : decode cX9_harden 24 = .ok (.getfield 314, 3) := dgq (p := 5) daX9_harden_19 dbX9_harden_19.2.2.1
theorem dX9_harden_27 : decode cX9_harden 27 = .ok (.ifCond .ne 7, 3) := dgq (p := 8) daX9_harden_19 dbX9_harden_19.2.2.2.1
theorem dX9_harden_30 : decode cX9_harden 30 = .ok (.iconst 1, 1) := dgq (p := 11) daX9_harden_19 dbX9_harden_19.2.2.2.2.1
theorem dX9_harden_31 : decode cX9_harden 31 = .ok (.goto 4, 3) := dgq (p := 12) daX9_harden_19 dbX9_harden_19.2.2.2.2.2.1
theorem dX9_harden_34 : decode cX9_harden 34 = .ok (.iconst 0, 1) := dgq (p := 15) daX9_harden_19 dbX9_harden_19.2.2.2.2.2.2.1
theorem dX9_harden_35 : decode cX9_harden 35 = .ok (.invokestatic 85, 3) := dgq (p := 16) daX9_harden_19 dbX9_harden_19.2.2.2.2.2.2.2.1
theorem dX9_harden_38 : decode cX9_harden 38 = .ok (.aload 4, 2) := dgq (p := 19) daX9_harden_19 dbX9_harden_19.2.2.2.2.2.2.2.2.1
theorem dX9_harden_40 : decode cX9_harden 40 = .ok (.iload_n 2, 1) := dgq (p := 21) daX9_harden_19 dbX9_harden_19.2.2.2.2.2.2.2.2.2
def dsX9_harden_41 : ByteArray := ⟨#[29, 182, 1, 61, 172]⟩
theorem daX9_harden_41 : agB cX9_harden dsX9_harden_41 41 := agB_of (n := 5) (by decide +kernel)
theorem dbX9_harden_41 : (decode dsX9_harden_41 0 = .ok (.iload_n 3, 1) ∧ okop dsX9_harden_41 0 = true) ∧ (decode dsX9_harden_41 1 = .ok (.invokevirtual 317, 3) ∧ okop dsX9_harden_41 1 = true) ∧ (decode dsX9_harden_41 4 = .ok (.ireturn, 1) ∧ okop dsX9_harden_41 4 = true) := by decide +kernel
theorem dX9_harden_41 : decode cX9_harden 41 = .ok (.iload_n 3, 1) := dgq (p := 0) daX9_harden_41 dbX9_harden_41.1
theorem dX9_harden_42 : decode cX9_harden 42 = .ok (.invokevirtual 317, 3) := dgq (p := 1) daX9_harden_41 dbX9_harden_41.2.1
theorem dX9_harden_45 : decode cX9_harden 45 = .ok (.ireturn, 1) := dgq (p := 4) daX9_harden_41 dbX9_harden_41.2.2
set_option maxRecDepth 20000 in
theorem ggX9_caseOf_X9_gearAt : GoodIn wsX9_caseOf wsX9_gearAt := goodIn_ca (goodIn_ca (goodIn_q _ [6, 7, 8, 9, 10] rfl (by decide +kernel)) (goodIn_sub (fun _ h => (List.mem_cons_of_mem _ (List.mem_append_left _ (List.mem_append_right _ h)))) tg_wsX90)) (goodIn_sub (fun _ h => List.mem_cons_of_mem _ (List.mem_append_right _ h)) (by decide +kernel))
set_option maxRecDepth 20000 in
theorem gX9_caseOf_X9_gearAt : GoodIn wsX9_caseOf (wsV RX9 77 RX9 yX9_gearAt wsX9_gearAt) := goodIn_app (goodIn_q _ [2, 3, 4, 5] rfl (by decide +kernel)) ggX9_caseOf_X9_gearAt
def dsX9_caseOf_0 : ByteArray := ⟨#[42, 27, 182, 0, 77, 180, 1, 65, 172]⟩
theorem daX9_caseOf_0 : agB cX9_caseOf dsX9_caseOf_0 0 := agB_of (n := 9) (by decide +kernel)
theorem dbX9_caseOf_0 : (decode dsX9_caseOf_0 0 = .ok (.aload_n 0, 1) ∧ okop dsX9_caseOf_0 0 = true) ∧ (decode dsX9_caseOf_0 1 = .ok (.iload_n 1, 1) ∧ okop dsX9_caseOf_0 1 = true) ∧ (decode dsX9_caseOf_0 2 = .ok (.invokevirtual 77, 3) ∧ okop dsX9_caseOf_0 2 = true) ∧ (decode dsX9_caseOf_0 5 = .ok (.getfield 321, 3) ∧ okop dsX9_caseOf_0 5 = true) ∧ (decode dsX9_caseOf_0 8 = .ok (.ireturn, 1) ∧ okop dsX9_caseOf_0 8 = true) := by decide +kernel
theorem dX9_caseOf_0 : decode cX9_caseOf 0 = .ok (.aload_n 0, 1) := dgq (p := 0) daX9_caseOf_0 dbX9_caseOf_0.1
theorem dX9_caseOf_1 : decode cX9_caseOf 1 = .ok (.iload_n 1, 1) := dgq (p := 1) daX9_caseOf_0 dbX9_caseOf_0.2.1
theorem dX9_caseOf_2 : decode cX9_caseOf 2 = .ok (.invokevirtual 77, 3) := dgq (p := 2) daX9_caseOf_0 dbX9_caseOf_0.2.2.1
theorem dX9_caseOf_5 : decode cX9_caseOf 5 = .ok (.getfield 321, 3) := dgq (p := 5) daX9_caseOf_0 dbX9_caseOf_0.2.2.2.1
theorem dX9_caseOf_8 : decode cX9_caseOf 8 = .ok (.ireturn, 1) := dgq (p := 8) daX9_caseOf_0 dbX9_caseOf_0.2.2.2.2
set_option maxRecDepth 20000 in
theorem ggX9_isClean_X9_gearAt : GoodIn wsX9_isClean wsX9_gearAt := goodIn_ca (goodIn_ca (goodIn_q _ [7, 8, 9, 10, 11] rfl (by decide +kernel)) (goodIn_sub (fun _ h => (List.mem_cons_of_mem _ (List.mem_append_left _ (List.mem_append_left _ (List.mem_append_right _ h))))) tg_wsX90)) (goodIn_sub (fun _ h => List.mem_cons_of_mem _ (List.mem_append_left _ (List.mem_append_right _ h))) (by decide +kernel))
set_option maxRecDepth 20000 in
theorem gX9_isClean_X9_gearAt : GoodIn wsX9_isClean (wsV RX9 77 RX9 yX9_gearAt wsX9_gearAt) := goodIn_app (goodIn_q _ [3, 4, 5, 6] rfl (by decide +kernel)) ggX9_isClean_X9_gearAt
set_option maxRecDepth 20000 in
theorem ggX9_isClean_X9_allowOnly : GoodIn wsX9_isClean wsX9_allowOnly := goodIn_ca (goodIn_q _ [14, 15, 16] rfl (by decide +kernel)) (goodIn_sub (fun _ h => List.mem_cons_of_mem _ (List.mem_append_right _ h)) (by decide +kernel))
set_option maxRecDepth 20000 in
theorem gX9_isClean_X9_allowOnly : GoodIn wsX9_isClean (va_wsS RX9 85 yX9_allowOnly wsX9_allowOnly) := goodIn_app (goodIn_q _ [12, 13, 6] rfl (by decide +kernel)) ggX9_isClean_X9_allowOnly
def dsX9_isClean_0 : ByteArray := ⟨#[42, 27, 182, 0, 77, 77, 44, 180, 1, 58, 184, 0, 85, 44, 180, 1, 68, 172]⟩
theorem daX9_isClean_0 : agB cX9_isClean dsX9_isClean_0 0 := agB_of (n := 18) (by decide +kernel)
theorem dbX9_isClean_0 : (decode dsX9_isClean_0 0 = .ok (.aload_n 0, 1) ∧ okop dsX9_isClean_0 0 = true) ∧ (decode dsX9_isClean_0 1 = .ok (.iload_n 1, 1) ∧ okop dsX9_isClean_0 1 = true) ∧ (decode dsX9_isClean_0 2 = .ok (.invokevirtual 77, 3) ∧ okop dsX9_isClean_0 2 = true) ∧ (decode dsX9_isClean_0 5 = .ok (.astore_n 2, 1) ∧ okop dsX9_isClean_0 5 = true) ∧ (decode dsX9_isClean_0 6 = .ok (.aload_n 2, 1) ∧ okop dsX9_isClean_0 6 = true) ∧ (decode dsX9_isClean_0 7 = .ok (.getfield 314, 3) ∧ okop dsX9_isClean_0 7 = true) ∧ (decode dsX9_isClean_0 10 = .ok (.invokestatic 85, 3) ∧ okop dsX9_isClean_0 10 = true) ∧ (decode dsX9_isClean_0 13 = .ok (.aload_n 2, 1) ∧ okop dsX9_isClean_0 13 = true) ∧ (decode dsX9_isClean_0 14 = .ok (.getfield 324, 3) ∧ okop dsX9_isClean_0 14 = true) ∧ (decode dsX9_isClean_0 17 = .ok (.ireturn, 1) ∧ okop dsX9_isClean_0 17 = true) := by decide +kernel
theorem dX9_isClean_0 : decode cX9_isClean 0 = .ok (.aload_n 0, 1) := dgq (p := 0) daX9_isClean_0 dbX9_isClean_0.1
theorem dX9_isClean_1 : decode cX9_isClean 1 = .ok (.iload_n 1, 1) := dgq (p := 1) daX9_isClean_0 dbX9_isClean_0.2.1
theorem dX9_isClean_2 : decode cX9_isClean 2 = .ok (.invokevirtual 77, 3) := dgq (p := 2) daX9_isClean_0 dbX9_isClean_0.2.2.1
theorem dX9_isClean_5 : decode cX9_isClean 5 = .ok (.astore_n 2, 1) := dgq (p := 5) daX9_isClean_0 dbX9_isClean_0.2.2.2.1
theorem dX9_isClean_6 : decode cX9_isClean 6 = .ok (.aload_n 2, 1) := dgq (p := 6) daX9_isClean_0 dbX9_isClean_0.2.2.2.2.1
theorem dX9_isClean_7 : decode cX9_isClean 7 = .ok (.getfield 314, 3) := dgq (p := 7) daX9_isClean_0 dbX9_isClean_0.2.2.2.2.2.1
theorem dX9_isClean_10 : decode cX9_isClean 10 = .ok (.invokestatic 85, 3) := dgq (p := 10) daX9_isClean_0 dbX9_isClean_0.2.2.2.2.2.2.1
theorem dX9_isClean_13 : decode cX9_isClean 13 = .ok (.aload_n 2, 1) := dgq (p := 13) daX9_isClean_0 dbX9_isClean_0.2.2.2.2.2.2.2.1
theorem dX9_isClean_14 : decode cX9_isClean 14 = .ok (.getfield 324, 3) := dgq (p := 14) daX9_isClean_0 dbX9_isClean_0.2.2.2.2.2.2.2.2.1
theorem dX9_isClean_17 : decode cX9_isClean 17 = .ok (.ireturn, 1) := dgq (p := 17) daX9_isClean_0 dbX9_isClean_0.2.2.2.2.2.2.2.2.2
set_option maxRecDepth 20000 in
theorem ggX9_grind_X9_gearAt : GoodIn wsX9_grind wsX9_gearAt := goodIn_ca (goodIn_ca (goodIn_q _ [10, 11, 12, 13, 14] rfl (by decide +kernel)) (goodIn_sub (fun _ h => (List.mem_cons_of_mem _ (List.mem_append_left _ (List.mem_append_left _ (List.mem_append_left _ (List.mem_append_right _ h)))))) tg_wsX90)) (goodIn_sub (fun _ h => List.mem_cons_of_mem _ (List.mem_append_left _ (List.mem_append_left _ (List.mem_append_right _ h)))) (by decide +kernel))
set_option maxRecDepth 20000 in
theorem gX9_grind_X9_gearAt : GoodIn wsX9_grind (wsV RX9 77 RX9 yX9_gearAt wsX9_gearAt) := goodIn_app (goodIn_q _ [6, 7, 8, 9] rfl (by decide +kernel)) ggX9_grind_X9_gearAt
set_option maxRecDepth 20000 in
theorem ggX9_grind_X9_needRange : GoodIn wsX9_grind wsX9_needRange := goodIn_ca (goodIn_q _ [17, 18, 19] rfl (by decide +kernel)) (goodIn_sub (fun _ h => List.mem_cons_of_mem _ (List.mem_append_left _ (List.mem_append_right _ h))) (by decide +kernel))
set_option maxRecDepth 20000 in
theorem gX9_grind_X9_needRange : GoodIn wsX9_grind (va_wsS RX9 59 yX9_needRange wsX9_needRange) := goodIn_app (goodIn_q _ [15, 16, 9] rfl (by decide +kernel)) ggX9_grind_X9_needRange
set_option maxRecDepth 20000 in
theorem ggX9_grind_X2_isWhole : GoodIn wsX9_grind wsX2_isWhole := goodIn_ca (goodIn_q _ [24, 25, 26, 27, 28, 29, 23, 30, 31, 32] rfl (by decide +kernel)) (goodIn_sub (fun _ h => (List.mem_cons_of_mem _ (List.mem_append_left _ (List.mem_append_left _ (List.mem_append_left _ (List.mem_append_left _ (List.mem_append_right _ h))))))) tg_wsX20)
set_option maxRecDepth 20000 in
theorem gX9_grind_X2_isWhole : GoodIn wsX9_grind (wsV RX9 311 RX2 yX2_isWhole wsX2_isWhole) := goodIn_app (goodIn_q _ [20, 21, 22, 23] rfl (by decide +kernel)) ggX9_grind_X2_isWhole
set_option maxRecDepth 20000 in
theorem ggX9_grind_X9_allowOnly : GoodIn wsX9_grind wsX9_allowOnly := goodIn_ca (goodIn_q _ [35, 36, 37] rfl (by decide +kernel)) (goodIn_sub (fun _ h => List.mem_cons_of_mem _ (List.mem_append_right _ h)) (by decide +kernel))
set_option maxRecDepth 20000 in
theorem gX9_grind_X9_allowOnly : GoodIn wsX9_grind (va_wsS RX9 85 yX9_allowOnly wsX9_allowOnly) := goodIn_app (goodIn_q _ [33, 34, 9] rfl (by decide +kernel)) ggX9_grind_X9_allowOnly
set_option maxRecDepth 20000 in
theorem ggX9_grind_X2_takeOff : GoodIn wsX9_grind wsX2_takeOff := goodIn_ca (goodIn_q _ [41, 42, 43, 44, 45, 4, 46, 47, 26] rfl (by decide +kernel)) (goodIn_sub (fun _ h => (List.mem_cons_of_mem _ (List.mem_append_left _ (List.mem_append_left _ (List.mem_append_left _ (List.mem_append_left _ (List.mem_append_right _ h))))))) tg_wsX20)
set_option maxRecDepth 20000 in
theorem gX9_grind_X2_takeOff : GoodIn wsX9_grind (wsV RX9 327 RX2 yX2_takeOff wsX2_takeOff) := goodIn_app (goodIn_q _ [38, 39, 40, 23] rfl (by decide +kernel)) ggX9_grind_X2_takeOff
