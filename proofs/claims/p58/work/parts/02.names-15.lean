def dsX12_harden_0 : ByteArray := ⟨#[42, 27, 182, 0, 121, 154, 0, 9, 42, 4, 182, 0, 143, 172, 28, 133]⟩
theorem daX12_harden_0 : agB cX12_harden dsX12_harden_0 0 := agB_of (n := 16) (by decide +kernel)
theorem dbX12_harden_0 : (decode dsX12_harden_0 0 = .ok (.aload_n 0, 1) ∧ okop dsX12_harden_0 0 = true) ∧ (decode dsX12_harden_0 1 = .ok (.iload_n 1, 1) ∧ okop dsX12_harden_0 1 = true) ∧ (decode dsX12_harden_0 2 = .ok (.invokevirtual 121, 3) ∧ okop dsX12_harden_0 2 = true) ∧ (decode dsX12_harden_0 5 = .ok (.ifCond .ne 9, 3) ∧ okop dsX12_harden_0 5 = true) ∧ (decode dsX12_harden_0 8 = .ok (.aload_n 0, 1) ∧ okop dsX12_harden_0 8 = true) ∧ (decode dsX12_harden_0 9 = .ok (.iconst 1, 1) ∧ okop dsX12_harden_0 9 = true) ∧ (decode dsX12_harden_0 10 = .ok (.invokevirtual 143, 3) ∧ okop dsX12_harden_0 10 = true) ∧ (decode dsX12_harden_0 13 = .ok (.ireturn, 1) ∧ okop dsX12_harden_0 13 = true) ∧ (decode dsX12_harden_0 14 = .ok (.iload_n 2, 1) ∧ okop dsX12_harden_0 14 = true) ∧ (decode dsX12_harden_0 15 = .ok (.i2l, 1) ∧ okop dsX12_harden_0 15 = true) := by decide +kernel
theorem dX12_harden_0 : decode cX12_harden 0 = .ok (.aload_n 0, 1) := dgq (p := 0) daX12_harden_0 dbX12_harden_0.1
theorem dX12_harden_1 : decode cX12_harden 1 = .ok (.iload_n 1, 1) := dgq (p := 1) daX12_harden_0 dbX12_harden_0.2.1
theorem dX12_harden_2 : decode cX12_harden 2 = .ok (.invokevirtual 121, 3) := dgq (p := 2) daX12_harden_0 dbX12_harden_0.2.2.1
theorem dX12_harden_5 : decode cX12_harden 5 = .ok (.ifCond .ne 9, 3) := dgq (p := 5) daX12_harden_0 dbX12_harden_0.2.2.2.1
theorem dX12_harden_8 : decode cX12_harden 8 = .ok (.aload_n 0, 1) := dgq (p := 8) daX12_harden_0 dbX12_harden_0.2.2.2.2.1
theorem dX12_harden_9 : decode cX12_harden 9 = .ok (.iconst 1, 1) := dgq (p := 9) daX12_harden_0 dbX12_harden_0.2.2.2.2.2.1
theorem dX12_harden_10 : decode cX12_harden 10 = .ok (.invokevirtual 143, 3) := dgq (p := 10) daX12_harden_0 dbX12_harden_0.2.2.2.2.2.2.1
theorem dX12_harden_13 : decode cX12_harden 13 = .ok (.ireturn, 1) := dgq (p := 13) daX12_harden_0 dbX12_harden_0.2.2.2.2.2.2.2.1
theorem dX12_harden_14 : decode cX12_harden 14 = .ok (.iload_n 2, 1) := dgq (p := 14) daX12_harden_0 dbX12_harden_0.2.2.2.2.2.2.2.2.1
theorem dX12_harden_15 : decode cX12_harden 15 = .ok (.i2l, 1) := dgq (p := 15) daX12_harden_0 dbX12_harden_0.2.2.2.2.2.2.2.2.2
def dsX12_harden_16 : ByteArray := ⟨#[10, 20, 1, 56, 184, 0, 101, 154, 0, 9, 42, 5, 182, 0, 143, 172, 42, 27]⟩
theorem daX12_harden_16 : agB cX12_harden dsX12_harden_16 16 := agB_of (n := 18) (by decide +kernel)
theorem dbX12_harden_16 : (decode dsX12_harden_16 0 = .ok (.lconst 1, 1) ∧ okop dsX12_harden_16 0 = true) ∧ (decode dsX12_harden_16 1 = .ok (.ldc2_w 312, 3) ∧ okop dsX12_harden_16 1 = true) ∧ (decode dsX12_harden_16 4 = .ok (.invokestatic 101, 3) ∧ okop dsX12_harden_16 4 = true) ∧ (decode dsX12_harden_16 7 = .ok (.ifCond .ne 9, 3) ∧ okop dsX12_harden_16 7 = true) ∧ (decode dsX12_harden_16 10 = .ok (.aload_n 0, 1) ∧ okop dsX12_harden_16 10 = true) ∧ (decode dsX12_harden_16 11 = .ok (.iconst 2, 1) ∧ okop dsX12_harden_16 11 = true) ∧ (decode dsX12_harden_16 12 = .ok (.invokevirtual 143, 3) ∧ okop dsX12_harden_16 12 = true) ∧ (decode dsX12_harden_16 15 = .ok (.ireturn, 1) ∧ okop dsX12_harden_16 15 = true) ∧ (decode dsX12_harden_16 16 = .ok (.aload_n 0, 1) ∧ okop dsX12_harden_16 16 = true) ∧ (decode dsX12_harden_16 17 = .ok (.iload_n 1, 1) ∧ okop dsX12_harden_16 17 = true) := by decide +kernel
theorem dX12_harden_16 : decode cX12_harden 16 = .ok (.lconst 1, 1) := dgq (p := 0) daX12_harden_16 dbX12_harden_16.1
theorem dX12_harden_17 : decode cX12_harden 17 = .ok (.ldc2_w 312, 3) := dgq (p := 1) daX12_harden_16 dbX12_harden_16.2.1
theorem dX12_harden_20 : decode cX12_harden 20 = .ok (.invokestatic 101, 3) := dgq (p := 4) daX12_harden_16 dbX12_harden_16.2.2.1
theorem dX12_harden_23 : decode cX12_harden 23 = .ok (.ifCond .ne 9, 3) := dgq (p := 7) daX12_harden_16 dbX12_harden_16.2.2.2.1
theorem dX12_harden_26 : decode cX12_harden 26 = .ok (.aload_n 0, 1) := dgq (p := 10) daX12_harden_16 dbX12_harden_16.2.2.2.2.1
theorem dX12_harden_27 : decode cX12_harden 27 = .ok (.iconst 2, 1) := dgq (p := 11) daX12_harden_16 dbX12_harden_16.2.2.2.2.2.1
theorem dX12_harden_28 : decode cX12_harden 28 = .ok (.invokevirtual 143, 3) := dgq (p := 12) daX12_harden_16 dbX12_harden_16.2.2.2.2.2.2.1
theorem dX12_harden_31 : decode cX12_harden 31 = .ok (.ireturn, 1) := dgq (p := 15) daX12_harden_16 dbX12_harden_16.2.2.2.2.2.2.2.1
theorem dX12_harden_32 : decode cX12_harden 32 = .ok (.aload_n 0, 1) := dgq (p := 16) daX12_harden_16 dbX12_harden_16.2.2.2.2.2.2.2.2.1
theorem dX12_harden_33 : decode cX12_harden 33 = .ok (.iload_n 1, 1) := dgq (p := 17) daX12_harden_16 dbX12_harden_16.2.2.2.2.2.2.2.2.2
def dsX12_harden_34 : ByteArray := ⟨#[182, 0, 111, 58, 4, 25, 4, 180, 0, 160, 153, 0, 27, 25, 4, 180, 1, 113, 154, 0, 19, 25, 4, 180, 1, 116]⟩
theorem daX12_harden_34 : agB cX12_harden dsX12_harden_34 34 := agB_of (n := 26) (by decide +kernel)
theorem dbX12_harden_34 : (decode dsX12_harden_34 0 = .ok (.invokevirtual 111, 3) ∧ okop dsX12_harden_34 0 = true) ∧ (decode dsX12_harden_34 3 = .ok (.astore 4, 2) ∧ okop dsX12_harden_34 3 = true) ∧ (decode dsX12_harden_34 5 = .ok (.aload 4, 2) ∧ okop dsX12_harden_34 5 = true) ∧ (decode dsX12_harden_34 7 = .ok (.getfield 160, 3) ∧ okop dsX12_harden_34 7 = true) ∧ (decode dsX12_harden_34 10 = .ok (.ifCond .eq 27, 3) ∧ okop dsX12_harden_34 10 = true) ∧ (decode dsX12_harden_34 13 = .ok (.aload 4, 2) ∧ okop dsX12_harden_34 13 = true) ∧ (decode dsX12_harden_34 15 = .ok (.getfield 369, 3) ∧ okop dsX12_harden_34 15 = true) ∧ (decode dsX12_harden_34 18 = .ok (.ifCond .ne 19, 3) ∧ okop dsX12_harden_34 18 = true) ∧ (decode dsX12_harden_34 21 = .ok (.aload 4, 2) ∧ okop dsX12_harden_34 21 = true) ∧ (decode dsX12_harden_34 23 = .ok (.getfield 372, 3) ∧ okop dsX12_harden_34 23 = true) := by decide +kernel
theorem dX12_harden_34 : decode cX12_harden 34 = .ok (.invokevirtual 111, 3) := dgq (p := 0) daX12_harden_34 dbX12_harden_34.1
theorem dX12_harden_37 : decode cX12_harden 37 = .ok (.astore 4, 2) := dgq (p := 3) daX12_harden_34 dbX12_harden_34.2.1
theorem dX12_harden_39 : decode cX12_harden 39 = .ok (.aload 4, 2) := dgq (p := 5) daX12_harden_34 dbX12_harden_34.2.2.1
theorem dX12_harden_41 : decode cX12_harden 41 = .ok (.getfield 160, 3) := dgq (p := 7) daX12_harden_34 dbX12_harden_34.2.2.2.1
theorem dX12_harden_44 : decode cX12_harden 44 = .ok (.ifCond .eq 27, 3) := dgq (p := 10) daX12_harden_34 dbX12_harden_34.2.2.2.2.1
theorem dX12_harden_47 : decode cX12_harden 47 = .ok (.aload 4, 2) := dgq (p := 13) daX12_harden_34 dbX12_harden_34.2.2.2.2.2.1
theorem dX12_harden_49 : decode cX12_harden 49 = .ok (.getfield 369, 3) := dgq (p := 15) daX12_harden_34 dbX12_harden_34.2.2.2.2.2.2.1
theorem dX12_harden_52 : decode cX12_harden 52 = .ok (.ifCond .ne 19, 3) := dgq (p := 18) daX12_harden_34 dbX12_harden_34.2.2.2.2.2.2.2.1
theorem dX12_harden_55 : decode cX12_harden 55 = .ok (.aload 4, 2) := dgq (p := 21) daX12_harden_34 dbX12_harden_34.2.2.2.2.2.2.2.2.1
theorem dX12_harden_57 : decode cX12_harden 57 = .ok (.getfield 372, 3) := dgq (p := 23) daX12_harden_34 dbX12_harden_34.2.2.2.2.2.2.2.2.2
def dsX12_harden_60 : ByteArray := ⟨#[154, 0, 11, 25, 4, 182, 1, 119, 153, 0, 9, 42, 6, 182, 0, 143, 172, 25, 4, 182, 0, 167]⟩
theorem daX12_harden_60 : agB cX12_harden dsX12_harden_60 60 := agB_of (n := 22) (by decide +kernel)
theorem dbX12_harden_60 : (decode dsX12_harden_60 0 = .ok (.ifCond .ne 11, 3) ∧ okop dsX12_harden_60 0 = true) ∧ (decode dsX12_harden_60 3 = .ok (.aload 4, 2) ∧ okop dsX12_harden_60 3 = true) ∧ (decode dsX12_harden_60 5 = .ok (.invokevirtual 375, 3) ∧ okop dsX12_harden_60 5 = true) ∧ (decode dsX12_harden_60 8 = .ok (.ifCond .eq 9, 3) ∧ okop dsX12_harden_60 8 = true) ∧ (decode dsX12_harden_60 11 = .ok (.aload_n 0, 1) ∧ okop dsX12_harden_60 11 = true) ∧ (decode dsX12_harden_60 12 = .ok (.iconst 3, 1) ∧ okop dsX12_harden_60 12 = true) ∧ (decode dsX12_harden_60 13 = .ok (.invokevirtual 143, 3) ∧ okop dsX12_harden_60 13 = true) ∧ (decode dsX12_harden_60 16 = .ok (.ireturn, 1) ∧ okop dsX12_harden_60 16 = true) ∧ (decode dsX12_harden_60 17 = .ok (.aload 4, 2) ∧ okop dsX12_harden_60 17 = true) ∧ (decode dsX12_harden_60 19 = .ok (.invokevirtual 167, 3) ∧ okop dsX12_harden_60 19 = true) := by decide +kernel
theorem dX12_harden_60 : decode cX12_harden 60 = .ok (.ifCond .ne 11, 3) := dgq (p := 0) daX12_harden_60 dbX12_harden_60.1
theorem dX12_harden_63 : decode cX12_harden 63 = .ok (.aload 4, 2) := dgq (p := 3) daX12_harden_60 dbX12_harden_60.2.1
theorem dX12_harden_65 : decode cX12_harden 65 = .ok (.invokevirtual 375, 3) := dgq (p := 5) daX12_harden_60 dbX12_harden_60.2.2.1
theorem dX12_harden_68 : decode cX12_harden 68 = .ok (.ifCond .eq 9, 3) := dgq (p := 8) daX12_harden_60 dbX12_harden_60.2.2.2.1
theorem dX12_harden_71 : decode cX12_harden 71 = .ok (.aload_n 0, 1) := dgq (p := 11) daX12_harden_60 dbX12_harden_60.2.2.2.2.1
theorem dX12_harden_72 : decode cX12_harden 72 = .ok (.iconst 3, 1) := dgq (p := 12) daX12_harden_60 dbX12_harden_60.2.2.2.2.2.1
theorem dX12_harden_73 : decode cX12_harden 73 = .ok (.invokevirtual 143, 3) := dgq (p := 13) daX12_harden_60 dbX12_harden_60.2.2.2.2.2.2.1
theorem dX12_harden_76 : decode cX12_harden 76 = .ok (.ireturn, 1) := dgq (p := 16) daX12_harden_60 dbX12_harden_60.2.2.2.2.2.2.2.1
theorem dX12_harden_77 : decode cX12_harden 77 = .ok (.aload 4, 2) := dgq (p := 17) daX12_harden_60 dbX12_harden_60.2.2.2.2.2.2.2.2.1
theorem dX12_harden_79 : decode cX12_harden 79 = .ok (.invokevirtual 167, 3) := dgq (p := 19) daX12_harden_60 dbX12_harden_60.2.2.2.2.2.2.2.2.2
def dsX12_harden_82 : ByteArray := ⟨#[25, 4, 182, 0, 167, 105, 25, 4, 180, 0, 209, 133, 109, 20, 1, 123, 109, 55, 5]⟩
theorem daX12_harden_82 : agB cX12_harden dsX12_harden_82 82 := agB_of (n := 19) (by decide +kernel)
theorem dbX12_harden_82 : (decode dsX12_harden_82 0 = .ok (.aload 4, 2) ∧ okop dsX12_harden_82 0 = true) ∧ (decode dsX12_harden_82 2 = .ok (.invokevirtual 167, 3) ∧ okop dsX12_harden_82 2 = true) ∧ (decode dsX12_harden_82 5 = .ok (.lmul, 1) ∧ okop dsX12_harden_82 5 = true) ∧ (decode dsX12_harden_82 6 = .ok (.aload 4, 2) ∧ okop dsX12_harden_82 6 = true) ∧ (decode dsX12_harden_82 8 = .ok (.getfield 209, 3) ∧ okop dsX12_harden_82 8 = true) ∧ (decode dsX12_harden_82 11 = .ok (.i2l, 1) ∧ okop dsX12_harden_82 11 = true) ∧ (decode dsX12_harden_82 12 = .ok (.ldiv, 1) ∧ okop dsX12_harden_82 12 = true) ∧ (decode dsX12_harden_82 13 = .ok (.ldc2_w 379, 3) ∧ okop dsX12_harden_82 13 = true) ∧ (decode dsX12_harden_82 16 = .ok (.ldiv, 1) ∧ okop dsX12_harden_82 16 = true) ∧ (decode dsX12_harden_82 17 = .ok (.lstore 5, 2) ∧ okop dsX12_harden_82 17 = true) := by decide +kernel
theorem dX12_harden_82 : decode cX12_harden 82 = .ok (.aload 4, 2) := dgq (p := 0) daX12_harden_82 dbX12_harden_82.1
theorem dX12_harden_84 : decode cX12_harden 84 = .ok (.invokevirtual 167, 3) := dgq (p := 2) daX12_harden_82 dbX12_harden_82.2.1
theorem dX12_harden_87 : decode cX12_harden 87 = .ok (.lmul, 1) := dgq (p := 5) daX12_harden_82 dbX12_harden_82.2.2.1
theorem dX12_harden_88 : decode cX12_harden 88 = .ok (.aload 4, 2) := dgq (p := 6) daX12_harden_82 dbX12_harden_82.2.2.2.1
theorem dX12_harden_90 : decode cX12_harden 90 = .ok (.getfield 209, 3) := dgq (p := 8) daX12_harden_82 dbX12_harden_82.2.2.2.2.1
theorem dX12_harden_93 : decode cX12_harden 93 = .ok (.i2l, 1) := dgq (p := 11) daX12_harden_82 dbX12_harden_82.2.2.2.2.2.1
theorem dX12_harden_94 : decode cX12_harden 94 = .ok (.ldiv, 1) := dgq (p := 12) daX12_harden_82 dbX12_harden_82.2.2.2.2.2.2.1
theorem dX12_harden_95 : decode cX12_harden 95 = .ok (.ldc2_w 379, 3) := dgq (p := 13) daX12_harden_82 dbX12_harden_82.2.2.2.2.2.2.2.1
theorem dX12_harden_98 : decode cX12_harden 98 = .ok (.ldiv, 1) := dgq (p := 16) daX12_harden_82 dbX12_harden_82.2.2.2.2.2.2.2.2.1
theorem dX12_harden_99 : decode cX12_harden 99 = .ok (.lstore 5, 2) := dgq (p := 17) daX12_harden_82 dbX12_harden_82.2.2.2.2.2.2.2.2.2
def dsX12_harden_101 : ByteArray := ⟨#[25, 4, 4, 181, 1, 113, 25, 4, 28, 133, 20, 1, 125, 105, 184, 0, 195, 136]⟩
theorem daX12_harden_101 : agB cX12_harden dsX12_harden_101 101 := agB_of (n := 18) (by decide +kernel)
theorem dbX12_harden_101 : (decode dsX12_harden_101 0 = .ok (.aload 4, 2) ∧ okop dsX12_harden_101 0 = true) ∧ (decode dsX12_harden_101 2 = .ok (.iconst 1, 1) ∧ okop dsX12_harden_101 2 = true) ∧ (decode dsX12_harden_101 3 = .ok (.putfield 369, 3) ∧ okop dsX12_harden_101 3 = true) ∧ (decode dsX12_harden_101 6 = .ok (.aload 4, 2) ∧ okop dsX12_harden_101 6 = true) ∧ (decode dsX12_harden_101 8 = .ok (.iload_n 2, 1) ∧ okop dsX12_harden_101 8 = true) ∧ (decode dsX12_harden_101 9 = .ok (.i2l, 1) ∧ okop dsX12_harden_101 9 = true) ∧ (decode dsX12_harden_101 10 = .ok (.ldc2_w 381, 3) ∧ okop dsX12_harden_101 10 = true) ∧ (decode dsX12_harden_101 13 = .ok (.lmul, 1) ∧ okop dsX12_harden_101 13 = true) ∧ (decode dsX12_harden_101 14 = .ok (.invokestatic 195, 3) ∧ okop dsX12_harden_101 14 = true) ∧ (decode dsX12_harden_101 17 = .ok (.l2i, 1) ∧ okop dsX12_harden_101 17 = true) := by decide +kernel
theorem dX12_harden_101 : decode cX12_harden 101 = .ok (.aload 4, 2) := dgq (p := 0) daX12_harden_101 dbX12_harden_101.1
theorem dX12_harden_103 : decode cX12_harden 103 = .ok (.iconst 1, 1) := dgq (p := 2) daX12_harden_101 dbX12_harden_101.2.1
theorem dX12_harden_104 : decode cX12_harden 104 = .ok (.putfield 369, 3) := dgq (p := 3) daX12_harden_101 dbX12_harden_101.2.2.1
theorem dX12_harden_107 : decode cX12_harden 107 = .ok (.aload 4, 2) := dgq (p := 6) daX12_harden_101 dbX12_harden_101.2.2.2.1
theorem dX12_harden_109 : decode cX12_harden 109 = .ok (.iload_n 2, 1) := dgq (p := 8) daX12_harden_101 dbX12_harden_101.2.2.2.2.1
theorem dX12_harden_110 : decode cX12_harden 110 = .ok (.i2l, 1) := dgq (p := 9) daX12_harden_101 dbX12_harden_101.2.2.2.2.2.1
theorem dX12_harden_111 : decode cX12_harden 111 = .ok (.ldc2_w 381, 3) := dgq (p := 10) daX12_harden_101 dbX12_harden_101.2.2.2.2.2.2.1
theorem dX12_harden_114 : decode cX12_harden 114 = .ok (.lmul, 1) := dgq (p := 13) daX12_harden_101 dbX12_harden_101.2.2.2.2.2.2.2.1
theorem dX12_harden_115 : decode cX12_harden 115 = .ok (.invokestatic 195, 3) := dgq (p := 14) daX12_harden_101 dbX12_harden_101.2.2.2.2.2.2.2.2.1
theorem dX12_harden_118 : decode cX12_harden 118 = .ok (.l2i, 1) := dgq (p := 17) daX12_harden_101 dbX12_harden_101.2.2.2.2.2.2.2.2.2
def dsX12_harden_119 : ByteArray := ⟨#[181, 1, 127, 25, 4, 25, 4, 182, 0, 167, 20, 0, 247, 105, 20, 0, 135, 109, 29, 153, 0, 12]⟩
theorem daX12_harden_119 : agB cX12_harden dsX12_harden_119 119 := agB_of (n := 22) (by decide +kernel)
theorem dbX12_harden_119 : (decode dsX12_harden_119 0 = .ok (.putfield 383, 3) ∧ okop dsX12_harden_119 0 = true) ∧ (decode dsX12_harden_119 3 = .ok (.aload 4, 2) ∧ okop dsX12_harden_119 3 = true) ∧ (decode dsX12_harden_119 5 = .ok (.aload 4, 2) ∧ okop dsX12_harden_119 5 = true) ∧ (decode dsX12_harden_119 7 = .ok (.invokevirtual 167, 3) ∧ okop dsX12_harden_119 7 = true) ∧ (decode dsX12_harden_119 10 = .ok (.ldc2_w 247, 3) ∧ okop dsX12_harden_119 10 = true) ∧ (decode dsX12_harden_119 13 = .ok (.lmul, 1) ∧ okop dsX12_harden_119 13 = true) ∧ (decode dsX12_harden_119 14 = .ok (.ldc2_w 135, 3) ∧ okop dsX12_harden_119 14 = true) ∧ (decode dsX12_harden_119 17 = .ok (.ldiv, 1) ∧ okop dsX12_harden_119 17 = true) ∧ (decode dsX12_harden_119 18 = .ok (.iload_n 3, 1) ∧ okop dsX12_harden_119 18 = true) ∧ (decode dsX12_harden_119 19 = .ok (.ifCond .eq 12, 3) ∧ okop dsX12_harden_119 19 = true) := by decide +kernel
theorem dX12_harden_119 : decode cX12_harden 119 = .ok (.putfield 383, 3) := dgq (p := 0) daX12_harden_119 dbX12_harden_119.1
theorem dX12_harden_122 : decode cX12_harden 122 = .ok (.aload 4, 2) := dgq (p := 3) daX12_harden_119 dbX12_harden_119.2.1
theorem dX12_harden_124 : decode cX12_harden 124 = .ok (.aload 4, 2) := dgq (p := 5) daX12_harden_119 dbX12_harden_119.2.2.1
theorem dX12_harden_126 : decode cX12_harden 126 = .ok (.invokevirtual 167, 3) := dgq (p := 7) daX12_harden_119 dbX12_harden_119.2.2.2.1
theorem dX12_harden_129 : decode cX12_harden 129 = .ok (.ldc2_w 247, 3) := dgq (p := 10) daX12_harden_119 dbX12_harden_119.2.2.2.2.1
theorem dX12_harden_132 : decode cX12_harden 132 = .ok (.lmul, 1) := dgq (p := 13) daX12_harden_119 dbX12_harden_119.2.2.2.2.2.1
theorem dX12_harden_133 : decode cX12_harden 133 = .ok (.ldc2_w 135, 3) := dgq (p := 14) daX12_harden_119 dbX12_harden_119.2.2.2.2.2.2.1
theorem dX12_harden_136 : decode cX12_harden 136 = .ok (.ldiv, 1) := dgq (p := 17) daX12_harden_119 dbX12_harden_119.2.2.2.2.2.2.2.1
theorem dX12_harden_137 : decode cX12_harden 137 = .ok (.iload_n 3, 1) := dgq (p := 18) daX12_harden_119 dbX12_harden_119.2.2.2.2.2.2.2.2.1
theorem dX12_harden_138 : decode cX12_harden 138 = .ok (.ifCond .eq 12, 3) := dgq (p := 19) daX12_harden_119 dbX12_harden_119.2.2.2.2.2.2.2.2.2
def dsX12_harden_141 : ByteArray := ⟨#[22, 5, 20, 0, 3, 109, 167, 0, 5, 22, 5, 97, 136, 181, 1, 130, 25, 4, 25, 4]⟩
theorem daX12_harden_141 : agB cX12_harden dsX12_harden_141 141 := agB_of (n := 20) (by decide +kernel)
theorem dbX12_harden_141 : (decode dsX12_harden_141 0 = .ok (.lload 5, 2) ∧ okop dsX12_harden_141 0 = true) ∧ (decode dsX12_harden_141 2 = .ok (.ldc2_w 3, 3) ∧ okop dsX12_harden_141 2 = true) ∧ (decode dsX12_harden_141 5 = .ok (.ldiv, 1) ∧ okop dsX12_harden_141 5 = true) ∧ (decode dsX12_harden_141 6 = .ok (.goto 5, 3) ∧ okop dsX12_harden_141 6 = true) ∧ (decode dsX12_harden_141 9 = .ok (.lload 5, 2) ∧ okop dsX12_harden_141 9 = true) ∧ (decode dsX12_harden_141 11 = .ok (.ladd, 1) ∧ okop dsX12_harden_141 11 = true) ∧ (decode dsX12_harden_141 12 = .ok (.l2i, 1) ∧ okop dsX12_harden_141 12 = true) ∧ (decode dsX12_harden_141 13 = .ok (.putfield 386, 3) ∧ okop dsX12_harden_141 13 = true) ∧ (decode dsX12_harden_141 16 = .ok (.aload 4, 2) ∧ okop dsX12_harden_141 16 = true) ∧ (decode dsX12_harden_141 18 = .ok (.aload 4, 2) ∧ okop dsX12_harden_141 18 = true) := by decide +kernel
theorem dX12_harden_141 : decode cX12_harden 141 = .ok (.lload 5, 2) := dgq (p := 0) daX12_harden_141 dbX12_harden_141.1
theorem dX12_harden_143 : decode cX12_harden 143 = .ok (.ldc2_w 3, 3) := dgq (p := 2) daX12_harden_141 dbX12_harden_141.2.1
theorem dX12_harden_146 : decode cX12_harden 146 = .ok (.ldiv, 1) := dgq (p := 5) daX12_harden_141 dbX12_harden_141.2.2.1
theorem dX12_harden_147 : decode cX12_harden 147 = .ok (.goto 5, 3) := dgq (p := 6) daX12_harden_141 dbX12_harden_141.2.2.2.1
theorem dX12_harden_150 : decode cX12_harden 150 = .ok (.lload 5, 2) := dgq (p := 9) daX12_harden_141 dbX12_harden_141.2.2.2.2.1
theorem dX12_harden_152 : decode cX12_harden 152 = .ok (.ladd, 1) := dgq (p := 11) daX12_harden_141 dbX12_harden_141.2.2.2.2.2.1
theorem dX12_harden_153 : decode cX12_harden 153 = .ok (.l2i, 1) := dgq (p := 12) daX12_harden_141 dbX12_harden_141.2.2.2.2.2.2.1
theorem dX12_harden_154 : decode cX12_harden 154 = .ok (.putfield 386, 3) := dgq (p := 13) daX12_harden_141 dbX12_harden_141.2.2.2.2.2.2.2.1
theorem dX12_harden_157 : decode cX12_harden 157 = .ok (.aload 4, 2) := dgq (p := 16) daX12_harden_141 dbX12_harden_141.2.2.2.2.2.2.2.2.1
theorem dX12_harden_159 : decode cX12_harden 159 = .ok (.aload 4, 2) := dgq (p := 18) daX12_harden_141 dbX12_harden_141.2.2.2.2.2.2.2.2.2
def dsX12_harden_161 : ByteArray := ⟨#[180, 1, 100, 181, 1, 133, 42, 25, 4, 180, 1, 130, 182, 0, 153, 172]⟩
theorem daX12_harden_161 : agB cX12_harden dsX12_harden_161 161 := agB_of (n := 16) (by decide +kernel)
theorem dbX12_harden_161 : (decode dsX12_harden_161 0 = .ok (.getfield 356, 3) ∧ okop dsX12_harden_161 0 = true) ∧ (decode dsX12_harden_161 3 = .ok (.putfield 389, 3) ∧ okop dsX12_harden_161 3 = true) ∧ (decode dsX12_harden_161 6 = .ok (.aload_n 0, 1) ∧ okop dsX12_harden_161 6 = true) ∧ (decode dsX12_harden_161 7 = .ok (.aload 4, 2) ∧ okop dsX12_harden_161 7 = true) ∧ (decode dsX12_harden_161 9 = .ok (.getfield 386, 3) ∧ okop dsX12_harden_161 9 = true) ∧ (decode dsX12_harden_161 12 = .ok (.invokevirtual 153, 3) ∧ okop dsX12_harden_161 12 = true) ∧ (decode dsX12_harden_161 15 = .ok (.ireturn, 1) ∧ okop dsX12_harden_161 15 = true) := by decide +kernel
theorem dX12_harden_161 : decode cX12_harden 161 = .ok (.getfield 356, 3) := dgq (p := 0) daX12_harden_161 dbX12_harden_161.1
theorem dX12_harden_164 : decode cX12_harden 164 = .ok (.putfield 389, 3) := dgq (p := 3) daX12_harden_161 dbX12_harden_161.2.1
theorem dX12_harden_167 : decode cX12_harden 167 = .ok (.aload_n 0, 1) := dgq (p := 6) daX12_harden_161 dbX12_harden_161.2.2.1
theorem dX12_harden_168 : decode cX12_harden 168 = .ok (.aload 4, 2) := dgq (p := 7) daX12_harden_161 dbX12_harden_161.2.2.2.1
theorem dX12_harden_170 : decode cX12_harden 170 = .ok (.getfield 386, 3) := dgq (p := 9) daX12_harden_161 dbX12_harden_161.2.2.2.2.1
theorem dX12_harden_173 : decode cX12_harden 173 = .ok (.invokevirtual 153, 3) := dgq (p := 12) daX12_harden_161 dbX12_harden_161.2.2.2.2.2.1
theorem dX12_harden_176 : decode cX12_harden 176 = .ok (.ireturn, 1) := dgq (p := 15) daX12_harden_161 dbX12_harden_161.2.2.2.2.2.2
set_option maxRecDepth 20000 in
theorem ggX12_caseOf_X12_isGear : GoodIn wsX12_caseOf wsX12_isGear := goodIn_ca (goodIn_ca (goodIn_q _ [5, 6, 7, 8, 9, 10, 11, 12, 13, 14, 4, 15] rfl (by decide +kernel)) (goodIn_sub (fun _ h => (List.mem_cons_of_mem _ (List.mem_append_left _ (List.mem_append_left _ (List.mem_append_right _ h))))) tg_wsX120)) (goodIn_sub (fun _ h => (List.mem_cons_of_mem _ (List.mem_append_left _ (List.mem_append_right _ h)))) tg_wsJx4a65c0)
set_option maxRecDepth 20000 in
theorem gX12_caseOf_X12_isGear : GoodIn wsX12_caseOf (wsV RX12 121 RX12 yX12_isGear wsX12_isGear) := goodIn_app (goodIn_q _ [1, 2, 3, 4] rfl (by decide +kernel)) ggX12_caseOf_X12_isGear
set_option maxRecDepth 20000 in
theorem ggX12_caseOf_X12_gearAt : GoodIn wsX12_caseOf wsX12_gearAt := goodIn_ca (goodIn_ca (goodIn_q _ [19, 6, 20, 21, 22, 23, 10, 24, 12, 25, 26, 27, 28, 29, 30, 31, 32, 33, 34, 35, 36, 37] rfl (by decide +kernel)) (goodIn_sub (fun _ h => (List.mem_cons_of_mem _ (List.mem_append_left _ (List.mem_append_left _ (List.mem_append_right _ h))))) tg_wsX120)) (goodIn_sub (fun _ h => (List.mem_cons_of_mem _ (List.mem_append_left _ (List.mem_append_right _ h)))) tg_wsJx4a65c0)
set_option maxRecDepth 20000 in
theorem gX12_caseOf_X12_gearAt : GoodIn wsX12_caseOf (wsV RX12 111 RX12 yX12_gearAt wsX12_gearAt) := goodIn_app (goodIn_q _ [16, 17, 18, 4] rfl (by decide +kernel)) ggX12_caseOf_X12_gearAt
set_option maxRecDepth 20000 in
theorem ggX12_caseOf_X10_caseLeft : GoodIn wsX12_caseOf wsX10_caseLeft := goodIn_ca (goodIn_q _ [42, 43, 44, 45, 46, 47, 48, 49] rfl (by decide +kernel)) (goodIn_sub (fun _ h => (List.mem_cons_of_mem _ (List.mem_append_right _ h))) tg_wsX100)
set_option maxRecDepth 20000 in
theorem gX12_caseOf_X10_caseLeft : GoodIn wsX12_caseOf (wsV RX12 392 RX10 yX10_caseLeft wsX10_caseLeft) := goodIn_app (goodIn_q _ [38, 39, 40, 41] rfl (by decide +kernel)) ggX12_caseOf_X10_caseLeft
set_option maxRecDepth 20000 in
theorem ggX12_caseOf_X12_answer : GoodIn wsX12_caseOf wsX12_answer := goodIn_ca (goodIn_q _ [53, 54] rfl (by decide +kernel)) (goodIn_sub (fun _ h => (List.mem_cons_of_mem _ (List.mem_append_left _ (List.mem_append_left _ (List.mem_append_right _ h))))) tg_wsX120)
set_option maxRecDepth 20000 in
theorem gX12_caseOf_X12_answer : GoodIn wsX12_caseOf (wsV RX12 153 RX12 yX12_answer wsX12_answer) := goodIn_app (goodIn_q _ [50, 51, 52, 4] rfl (by decide +kernel)) ggX12_caseOf_X12_answer
set_option maxRecDepth 20000 in
theorem ggX12_caseOf_X12_fails : GoodIn wsX12_caseOf wsX12_fails := goodIn_ca (goodIn_q _ [58, 54] rfl (by decide +kernel)) (goodIn_sub (fun _ h => (List.mem_cons_of_mem _ (List.mem_append_left _ (List.mem_append_left _ (List.mem_append_right _ h))))) tg_wsX120)
set_option maxRecDepth 20000 in
theorem gX12_caseOf_X12_fails : GoodIn wsX12_caseOf (wsV RX12 143 RX12 yX12_fails wsX12_fails) := goodIn_app (goodIn_q _ [55, 56, 57, 4] rfl (by decide +kernel)) ggX12_caseOf_X12_fails
def dsX12_caseOf_0 : ByteArray := ⟨#[42, 27, 182, 0, 121, 153, 0, 18, 42, 42, 27, 182, 0, 111, 182, 1, 136, 182, 0, 153]⟩
theorem daX12_caseOf_0 : agB cX12_caseOf dsX12_caseOf_0 0 := agB_of (n := 20) (by decide +kernel)
theorem dbX12_caseOf_0 : (decode dsX12_caseOf_0 0 = .ok (.aload_n 0, 1) ∧ okop dsX12_caseOf_0 0 = true) ∧ (decode dsX12_caseOf_0 1 = .ok (.iload_n 1, 1) ∧ okop dsX12_caseOf_0 1 = true) ∧ (decode dsX12_caseOf_0 2 = .ok (.invokevirtual 121, 3) ∧ okop dsX12_caseOf_0 2 = true) ∧ (decode dsX12_caseOf_0 5 = .ok (.ifCond .eq 18, 3) ∧ okop dsX12_caseOf_0 5 = true) ∧ (decode dsX12_caseOf_0 8 = .ok (.aload_n 0, 1) ∧ okop dsX12_caseOf_0 8 = true) ∧ (decode dsX12_caseOf_0 9 = .ok (.aload_n 0, 1) ∧ okop dsX12_caseOf_0 9 = true) ∧ (decode dsX12_caseOf_0 10 = .ok (.iload_n 1, 1) ∧ okop dsX12_caseOf_0 10 = true) ∧ (decode dsX12_caseOf_0 11 = .ok (.invokevirtual 111, 3) ∧ okop dsX12_caseOf_0 11 = true) ∧ (decode dsX12_caseOf_0 14 = .ok (.invokevirtual 392, 3) ∧ okop dsX12_caseOf_0 14 = true) ∧ (decode dsX12_caseOf_0 17 = .ok (.invokevirtual 153, 3) ∧ okop dsX12_caseOf_0 17 = true) := by decide +kernel
theorem dX12_caseOf_0 : decode cX12_caseOf 0 = .ok (.aload_n 0, 1) := dgq (p := 0) daX12_caseOf_0 dbX12_caseOf_0.1
theorem dX12_caseOf_1 : decode cX12_caseOf 1 = .ok (.iload_n 1, 1) := dgq (p := 1) daX12_caseOf_0 dbX12_caseOf_0.2.1
theorem dX12_caseOf_2 : decode cX12_caseOf 2 = .ok (.invokevirtual 121, 3) := dgq (p := 2) daX12_caseOf_0 dbX12_caseOf_0.2.2.1
theorem dX12_caseOf_5 : decode cX12_caseOf 5 = .ok (.ifCond .eq 18, 3) := dgq (p := 5) daX12_caseOf_0 dbX12_caseOf_0.2.2.2.1
theorem dX12_caseOf_8 : decode cX12_caseOf 8 = .ok (.aload_n 0, 1) := dgq (p := 8) daX12_caseOf_0 dbX12_caseOf_0.2.2.2.2.1
theorem dX12_caseOf_9 : decode cX12_caseOf 9 = .ok (.aload_n 0, 1) := dgq (p := 9) daX12_caseOf_0 dbX12_caseOf_0.2.2.2.2.2.1
theorem dX12_caseOf_10 : decode cX12_caseOf 10 = .ok (.iload_n 1, 1) := dgq (p := 10) daX12_caseOf_0 dbX12_caseOf_0.2.2.2.2.2.2.1
theorem dX12_caseOf_11 : decode cX12_caseOf 11 = .ok (.invokevirtual 111, 3) := dgq (p := 11) daX12_caseOf_0 dbX12_caseOf_0.2.2.2.2.2.2.2.1
theorem dX12_caseOf_14 : decode cX12_caseOf 14 = .ok (.invokevirtual 392, 3) := dgq (p := 14) daX12_caseOf_0 dbX12_caseOf_0.2.2.2.2.2.2.2.2.1
theorem dX12_caseOf_17 : decode cX12_caseOf 17 = .ok (.invokevirtual 153, 3) := dgq (p := 17) daX12_caseOf_0 dbX12_caseOf_0.2.2.2.2.2.2.2.2.2
def dsX12_caseOf_20 : ByteArray := ⟨#[167, 0, 8, 42, 4, 182, 0, 143, 172]⟩
theorem daX12_caseOf_20 : agB cX12_caseOf dsX12_caseOf_20 20 := agB_of (n := 9) (by decide +kernel)
theorem dbX12_caseOf_20 : (decode dsX12_caseOf_20 0 = .ok (.goto 8, 3) ∧ okop dsX12_caseOf_20 0 = true) ∧ (decode dsX12_caseOf_20 3 = .ok (.aload_n 0, 1) ∧ okop dsX12_caseOf_20 3 = true) ∧ (decode dsX12_caseOf_20 4 = .ok (.iconst 1, 1) ∧ okop dsX12_caseOf_20 4 = true) ∧ (decode dsX12_caseOf_20 5 = .ok (.invokevirtual 143, 3) ∧ okop dsX12_caseOf_20 5 = true) ∧ (decode dsX12_caseOf_20 8 = .ok (.ireturn, 1) ∧ okop dsX12_caseOf_20 8 = true) := by decide +kernel
theorem dX12_caseOf_20 : decode cX12_caseOf 20 = .ok (.goto 8, 3) := dgq (p := 0) daX12_caseOf_20 dbX12_caseOf_20.1
theorem dX12_caseOf_23 : decode cX12_caseOf 23 = .ok (.aload_n 0, 1) := dgq (p := 3) daX12_caseOf_20 dbX12_caseOf_20.2.1
theorem dX12_caseOf_24 : decode cX12_caseOf 24 = .ok (.iconst 1, 1) := dgq (p := 4) daX12_caseOf_20 dbX12_caseOf_20.2.2.1
theorem dX12_caseOf_25 : decode cX12_caseOf 25 = .ok (.invokevirtual 143, 3) := dgq (p := 5) daX12_caseOf_20 dbX12_caseOf_20.2.2.2.1
theorem dX12_caseOf_28 : decode cX12_caseOf 28 = .ok (.ireturn, 1) := dgq (p := 8) daX12_caseOf_20 dbX12_caseOf_20.2.2.2.2
set_option maxRecDepth 20000 in
theorem ggX12_isClean_X12_isGear : GoodIn wsX12_isClean wsX12_isGear := goodIn_ca (goodIn_ca (goodIn_q _ [5, 6, 7, 8, 9, 10, 11, 12, 13, 14, 4, 15] rfl (by decide +kernel)) (goodIn_sub (fun _ h => (List.mem_cons_of_mem _ (List.mem_append_left _ (List.mem_append_right _ h)))) tg_wsX120)) (goodIn_sub (fun _ h => (List.mem_cons_of_mem _ (List.mem_append_right _ h))) tg_wsJx4a65c0)
set_option maxRecDepth 20000 in
theorem gX12_isClean_X12_isGear : GoodIn wsX12_isClean (wsV RX12 121 RX12 yX12_isGear wsX12_isGear) := goodIn_app (goodIn_q _ [1, 2, 3, 4] rfl (by decide +kernel)) ggX12_isClean_X12_isGear
set_option maxRecDepth 20000 in
theorem ggX12_isClean_X12_refuses : GoodIn wsX12_isClean wsX12_refuses := goodIn_ca (goodIn_q _ [19, 20] rfl (by decide +kernel)) (goodIn_sub (fun _ h => (List.mem_cons_of_mem _ (List.mem_append_left _ (List.mem_append_right _ h)))) tg_wsX120)
set_option maxRecDepth 20000 in
theorem gX12_isClean_X12_refuses : GoodIn wsX12_isClean (wsV RX12 182 RX12 yX12_refuses wsX12_refuses) := goodIn_app (goodIn_q _ [16, 17, 18, 4] rfl (by decide +kernel)) ggX12_isClean_X12_refuses
set_option maxRecDepth 20000 in
theorem ggX12_isClean_X12_gearAt : GoodIn wsX12_isClean wsX12_gearAt := goodIn_ca (goodIn_ca (goodIn_q _ [24, 6, 25, 26, 27, 28, 10, 29, 12, 30, 31, 32, 33, 34, 35, 36, 37, 38, 39, 40, 41, 42] rfl (by decide +kernel)) (goodIn_sub (fun _ h => (List.mem_cons_of_mem _ (List.mem_append_left _ (List.mem_append_right _ h)))) tg_wsX120)) (goodIn_sub (fun _ h => (List.mem_cons_of_mem _ (List.mem_append_right _ h))) tg_wsJx4a65c0)
set_option maxRecDepth 20000 in
theorem gX12_isClean_X12_gearAt : GoodIn wsX12_isClean (wsV RX12 111 RX12 yX12_gearAt wsX12_gearAt) := goodIn_app (goodIn_q _ [21, 22, 23, 4] rfl (by decide +kernel)) ggX12_isClean_X12_gearAt
set_option maxRecDepth 20000 in
theorem ggX12_isClean_X12_says : GoodIn wsX12_isClean wsX12_says := goodIn_ca (goodIn_q _ [46, 20] rfl (by decide +kernel)) (goodIn_sub (fun _ h => (List.mem_cons_of_mem _ (List.mem_append_left _ (List.mem_append_right _ h)))) tg_wsX120)
set_option maxRecDepth 20000 in
theorem gX12_isClean_X12_says : GoodIn wsX12_isClean (wsV RX12 178 RX12 yX12_says wsX12_says) := goodIn_app (goodIn_q _ [43, 44, 45, 4] rfl (by decide +kernel)) ggX12_isClean_X12_says
def dsX12_isClean_0 : ByteArray := ⟨#[42, 27, 182, 0, 121, 154, 0, 9, 42, 4, 182, 0, 182, 172, 42, 27]⟩
theorem daX12_isClean_0 : agB cX12_isClean dsX12_isClean_0 0 := agB_of (n := 16) (by decide +kernel)
theorem dbX12_isClean_0 : (decode dsX12_isClean_0 0 = .ok (.aload_n 0, 1) ∧ okop dsX12_isClean_0 0 = true) ∧ (decode dsX12_isClean_0 1 = .ok (.iload_n 1, 1) ∧ okop dsX12_isClean_0 1 = true) ∧ (decode dsX12_isClean_0 2 = .ok (.invokevirtual 121, 3) ∧ okop dsX12_isClean_0 2 = true) ∧ (decode dsX12_isClean_0 5 = .ok (.ifCond .ne 9, 3) ∧ okop dsX12_isClean_0 5 = true) ∧ (decode dsX12_isClean_0 8 = .ok (.aload_n 0, 1) ∧ okop dsX12_isClean_0 8 = true) ∧ (decode dsX12_isClean_0 9 = .ok (.iconst 1, 1) ∧ okop dsX12_isClean_0 9 = true) ∧ (decode dsX12_isClean_0 10 = .ok (.invokevirtual 182, 3) ∧ okop dsX12_isClean_0 10 = true) ∧ (decode dsX12_isClean_0 13 = .ok (.ireturn, 1) ∧ okop dsX12_isClean_0 13 = true) ∧ (decode dsX12_isClean_0 14 = .ok (.aload_n 0, 1) ∧ okop dsX12_isClean_0 14 = true) ∧ (decode dsX12_isClean_0 15 = .ok (.iload_n 1, 1) ∧ okop dsX12_isClean_0 15 = true) := by decide +kernel
theorem dX12_isClean_0 : decode cX12_isClean 0 = .ok (.aload_n 0, 1) := dgq (p := 0) daX12_isClean_0 dbX12_isClean_0.1
theorem dX12_isClean_1 : decode cX12_isClean 1 = .ok (.iload_n 1, 1) := dgq (p := 1) daX12_isClean_0 dbX12_isClean_0.2.1
theorem dX12_isClean_2 : decode cX12_isClean 2 = .ok (.invokevirtual 121, 3) := dgq (p := 2) daX12_isClean_0 dbX12_isClean_0.2.2.1
theorem dX12_isClean_5 : decode cX12_isClean 5 = .ok (.ifCond .ne 9, 3) := dgq (p := 5) daX12_isClean_0 dbX12_isClean_0.2.2.2.1
theorem dX12_isClean_8 : decode cX12_isClean 8 = .ok (.aload_n 0, 1) := dgq (p := 8) daX12_isClean_0 dbX12_isClean_0.2.2.2.2.1
theorem dX12_isClean_9 : decode cX12_isClean 9 = .ok (.iconst 1, 1) := dgq (p := 9) daX12_isClean_0 dbX12_isClean_0.2.2.2.2.2.1
theorem dX12_isClean_10 : decode cX12_isClean 10 = .ok (.invokevirtual 182, 3) := dgq (p := 10) daX12_isClean_0 dbX12_isClean_0.2.2.2.2.2.2.1
theorem dX12_isClean_13 : decode cX12_isClean 13 = .ok (.ireturn, 1) := dgq (p := 13) daX12_isClean_0 dbX12_isClean_0.2.2.2.2.2.2.2.1
theorem dX12_isClean_14 : decode cX12_isClean 14 = .ok (.aload_n 0, 1) := dgq (p := 14) daX12_isClean_0 dbX12_isClean_0.2.2.2.2.2.2.2.2.1
theorem dX12_isClean_15 : decode cX12_isClean 15 = .ok (.iload_n 1, 1) := dgq (p := 15) daX12_isClean_0 dbX12_isClean_0.2.2.2.2.2.2.2.2.2
def dsX12_isClean_16 : ByteArray := ⟨#[182, 0, 111, 180, 1, 113, 153, 0, 34, 42, 42, 27, 182, 0, 111, 180, 1, 133, 42, 27]⟩
theorem daX12_isClean_16 : agB cX12_isClean dsX12_isClean_16 16 := agB_of (n := 20) (by decide +kernel)
theorem dbX12_isClean_16 : (decode dsX12_isClean_16 0 = .ok (.invokevirtual 111, 3) ∧ okop dsX12_isClean_16 0 = true) ∧ (decode dsX12_isClean_16 3 = .ok (.getfield 369, 3) ∧ okop dsX12_isClean_16 3 = true) ∧ (decode dsX12_isClean_16 6 = .ok (.ifCond .eq 34, 3) ∧ okop dsX12_isClean_16 6 = true) ∧ (decode dsX12_isClean_16 9 = .ok (.aload_n 0, 1) ∧ okop dsX12_isClean_16 9 = true) ∧ (decode dsX12_isClean_16 10 = .ok (.aload_n 0, 1) ∧ okop dsX12_isClean_16 10 = true) ∧ (decode dsX12_isClean_16 11 = .ok (.iload_n 1, 1) ∧ okop dsX12_isClean_16 11 = true) ∧ (decode dsX12_isClean_16 12 = .ok (.invokevirtual 111, 3) ∧ okop dsX12_isClean_16 12 = true) ∧ (decode dsX12_isClean_16 15 = .ok (.getfield 389, 3) ∧ okop dsX12_isClean_16 15 = true) ∧ (decode dsX12_isClean_16 18 = .ok (.aload_n 0, 1) ∧ okop dsX12_isClean_16 18 = true) ∧ (decode dsX12_isClean_16 19 = .ok (.iload_n 1, 1) ∧ okop dsX12_isClean_16 19 = true) := by decide +kernel
theorem dX12_isClean_16 : decode cX12_isClean 16 = .ok (.invokevirtual 111, 3) := dgq (p := 0) daX12_isClean_16 dbX12_isClean_16.1
theorem dX12_isClean_19 : decode cX12_isClean 19 = .ok (.getfield 369, 3) := dgq (p := 3) daX12_isClean_16 dbX12_isClean_16.2.1
theorem dX12_isClean_22 : decode cX12_isClean 22 = .ok (.ifCond .eq 34, 3) := dgq (p := 6) daX12_isClean_16 dbX12_isClean_16.2.2.1
theorem dX12_isClean_25 : decode cX12_isClean 25 = .ok (.aload_n 0, 1) := dgq (p := 9) daX12_isClean_16 dbX12_isClean_16.2.2.2.1
theorem dX12_isClean_26 : decode cX12_isClean 26 = .ok (.aload_n 0, 1) := dgq (p := 10) daX12_isClean_16 dbX12_isClean_16.2.2.2.2.1
theorem dX12_isClean_27 : decode cX12_isClean 27 = .ok (.iload_n 1, 1) := dgq (p := 11) daX12_isClean_16 dbX12_isClean_16.2.2.2.2.2.1
theorem dX12_isClean_28 : decode cX12_isClean 28 = .ok (.invokevirtual 111, 3) := dgq (p := 12) daX12_isClean_16 dbX12_isClean_16.2.2.2.2.2.2.1
theorem dX12_isClean_31 : decode cX12_isClean 31 = .ok (.getfield 389, 3) := dgq (p := 15) daX12_isClean_16 dbX12_isClean_16.2.2.2.2.2.2.2.1
theorem dX12_isClean_34 : decode cX12_isClean 34 = .ok (.aload_n 0, 1) := dgq (p := 18) daX12_isClean_16 dbX12_isClean_16.2.2.2.2.2.2.2.2.1
theorem dX12_isClean_35 : decode cX12_isClean 35 = .ok (.iload_n 1, 1) := dgq (p := 19) daX12_isClean_16 dbX12_isClean_16.2.2.2.2.2.2.2.2.2
def dsX12_isClean_36 : ByteArray := ⟨#[182, 0, 111, 180, 1, 130, 161, 0, 7, 4, 167, 0, 4, 3, 182, 0, 178, 167, 0, 8, 42, 5]⟩
theorem daX12_isClean_36 : agB cX12_isClean dsX12_isClean_36 36 := agB_of (n := 22) (by decide +kernel)
theorem dbX12_isClean_36 : (decode dsX12_isClean_36 0 = .ok (.invokevirtual 111, 3) ∧ okop dsX12_isClean_36 0 = true) ∧ (decode dsX12_isClean_36 3 = .ok (.getfield 386, 3) ∧ okop dsX12_isClean_36 3 = true) ∧ (decode dsX12_isClean_36 6 = .ok (.if_icmp .lt 7, 3) ∧ okop dsX12_isClean_36 6 = true) ∧ (decode dsX12_isClean_36 9 = .ok (.iconst 1, 1) ∧ okop dsX12_isClean_36 9 = true) ∧ (decode dsX12_isClean_36 10 = .ok (.goto 4, 3) ∧ okop dsX12_isClean_36 10 = true) ∧ (decode dsX12_isClean_36 13 = .ok (.iconst 0, 1) ∧ okop dsX12_isClean_36 13 = true) ∧ (decode dsX12_isClean_36 14 = .ok (.invokevirtual 178, 3) ∧ okop dsX12_isClean_36 14 = true) ∧ (decode dsX12_isClean_36 17 = .ok (.goto 8, 3) ∧ okop dsX12_isClean_36 17 = true) ∧ (decode dsX12_isClean_36 20 = .ok (.aload_n 0, 1) ∧ okop dsX12_isClean_36 20 = true) ∧ (decode dsX12_isClean_36 21 = .ok (.iconst 2, 1) ∧ okop dsX12_isClean_36 21 = true) := by decide +kernel
theorem dX12_isClean_36 : decode cX12_isClean 36 = .ok (.invokevirtual 111, 3) := dgq (p := 0) daX12_isClean_36 dbX12_isClean_36.1
theorem dX12_isClean_39 : decode cX12_isClean 39 = .ok (.getfield 386, 3) := dgq (p := 3) daX12_isClean_36 dbX12_isClean_36.2.1
theorem dX12_isClean_42 : decode cX12_isClean 42 = .ok (.if_icmp .lt 7, 3) := dgq (p := 6) daX12_isClean_36 dbX12_isClean_36.2.2.1
theorem dX12_isClean_45 : decode cX12_isClean 45 = .ok (.iconst 1, 1) := dgq (p := 9) daX12_isClean_36 dbX12_isClean_36.2.2.2.1
theorem dX12_isClean_46 : decode cX12_isClean 46 = .ok (.goto 4, 3) := dgq (p := 10) daX12_isClean_36 dbX12_isClean_36.2.2.2.2.1
theorem dX12_isClean_49 : decode cX12_isClean 49 = .ok (.iconst 0, 1) := dgq (p := 13) daX12_isClean_36 dbX12_isClean_36.2.2.2.2.2.1
theorem dX12_isClean_50 : decode cX12_isClean 50 = .ok (.invokevirtual 178, 3) := dgq (p := 14) daX12_isClean_36 dbX12_isClean_36.2.2.2.2.2.2.1
theorem dX12_isClean_53 : decode cX12_isClean 53 = .ok (.goto 8, 3) := dgq (p := 17) daX12_isClean_36 dbX12_isClean_36.2.2.2.2.2.2.2.1
theorem dX12_isClean_56 : decode cX12_isClean 56 = .ok (.aload_n 0, 1) := dgq (p := 20) daX12_isClean_36 dbX12_isClean_36.2.2.2.2.2.2.2.2.1
theorem dX12_isClean_57 : decode cX12_isClean 57 = .ok (.iconst 2, 1) := dgq (p := 21) daX12_isClean_36 dbX12_isClean_36.2.2.2.2.2.2.2.2.2
theorem dX12_isClean_58 : decode cX12_isClean 58 = .ok (.invokevirtual 182, 3) := by decide +kernel
theorem dX12_isClean_61 : decode cX12_isClean 61 = .ok (.ireturn, 1) := by decide +kernel
set_option maxRecDepth 20000 in
theorem ggX12_grind_X12_isGear : GoodIn wsX12_grind wsX12_isGear := goodIn_ca (goodIn_ca (goodIn_q _ [11, 12, 13, 14, 15, 16, 17, 18, 19, 20, 10, 21] rfl (by decide +kernel)) (goodIn_sub (fun _ h => (List.mem_cons_of_mem _ (List.mem_append_left _ (List.mem_append_right _ h)))) tg_wsX120)) (goodIn_sub (fun _ h => (List.mem_cons_of_mem _ (List.mem_append_right _ h))) tg_wsJx4a65c0)
set_option maxRecDepth 20000 in
theorem gX12_grind_X12_isGear : GoodIn wsX12_grind (wsV RX12 121 RX12 yX12_isGear wsX12_isGear) := goodIn_app (goodIn_q _ [7, 8, 9, 10] rfl (by decide +kernel)) ggX12_grind_X12_isGear
set_option maxRecDepth 20000 in
theorem ggX12_grind_X12_fails : GoodIn wsX12_grind wsX12_fails := goodIn_ca (goodIn_q _ [25, 26] rfl (by decide +kernel)) (goodIn_sub (fun _ h => (List.mem_cons_of_mem _ (List.mem_append_left _ (List.mem_append_right _ h)))) tg_wsX120)
set_option maxRecDepth 20000 in
theorem gX12_grind_X12_fails : GoodIn wsX12_grind (wsV RX12 143 RX12 yX12_fails wsX12_fails) := goodIn_app (goodIn_q _ [22, 23, 24, 10] rfl (by decide +kernel)) ggX12_grind_X12_fails
set_option maxRecDepth 20000 in
theorem ggX12_grind_X12_in : GoodIn wsX12_grind wsX12_in := goodIn_q _ [21] rfl (by decide +kernel)
set_option maxRecDepth 20000 in
theorem gX12_grind_X12_in : GoodIn wsX12_grind (va_wsS RX12 101 yX12_in wsX12_in) := goodIn_app (goodIn_q _ [19, 20, 10] rfl (by decide +kernel)) ggX12_grind_X12_in
set_option maxRecDepth 20000 in
theorem ggX12_grind_X12_gearAt : GoodIn wsX12_grind wsX12_gearAt := goodIn_ca (goodIn_ca (goodIn_q _ [30, 12, 31, 32, 33, 34, 16, 35, 18, 36, 37, 38, 39, 40, 41, 42, 43, 44, 45, 46, 47, 48] rfl (by decide +kernel)) (goodIn_sub (fun _ h => (List.mem_cons_of_mem _ (List.mem_append_left _ (List.mem_append_right _ h)))) tg_wsX120)) (goodIn_sub (fun _ h => (List.mem_cons_of_mem _ (List.mem_append_right _ h))) tg_wsJx4a65c0)
set_option maxRecDepth 20000 in
theorem gX12_grind_X12_gearAt : GoodIn wsX12_grind (wsV RX12 111 RX12 yX12_gearAt wsX12_gearAt) := goodIn_app (goodIn_q _ [27, 28, 29, 10] rfl (by decide +kernel)) ggX12_grind_X12_gearAt
set_option maxRecDepth 20000 in
theorem ggX12_grind_X10_isBroken : GoodIn wsX12_grind wsX10_isBroken := goodIn_ca (goodIn_q _ [53, 54, 55] rfl (by decide +kernel)) (goodIn_sub (fun _ h => (List.mem_cons_of_mem _ (List.mem_append_left _ (List.mem_append_left _ (List.mem_append_right _ h))))) tg_wsX100)
set_option maxRecDepth 20000 in
theorem gX12_grind_X10_isBroken : GoodIn wsX12_grind (wsV RX12 375 RX10 yX10_isBroken wsX10_isBroken) := goodIn_app (goodIn_q _ [49, 50, 51, 52] rfl (by decide +kernel)) ggX12_grind_X10_isBroken
set_option maxRecDepth 20000 in
theorem ggX12_grind_X12_answer : GoodIn wsX12_grind wsX12_answer := goodIn_ca (goodIn_q _ [59, 26] rfl (by decide +kernel)) (goodIn_sub (fun _ h => (List.mem_cons_of_mem _ (List.mem_append_left _ (List.mem_append_right _ h)))) tg_wsX120)
set_option maxRecDepth 20000 in
theorem gX12_grind_X12_answer : GoodIn wsX12_grind (wsV RX12 153 RX12 yX12_answer wsX12_answer) := goodIn_app (goodIn_q _ [56, 57, 58, 10] rfl (by decide +kernel)) ggX12_grind_X12_answer
def dsX12_grind_0 : ByteArray := ⟨#[42, 27, 182, 0, 121, 154, 0, 9, 42, 4, 182, 0, 143, 172, 28, 133]⟩
theorem daX12_grind_0 : agB cX12_grind dsX12_grind_0 0 := agB_of (n := 16) (by decide +kernel)
theorem dbX12_grind_0 : (decode dsX12_grind_0 0 = .ok (.aload_n 0, 1) ∧ okop dsX12_grind_0 0 = true) ∧ (decode dsX12_grind_0 1 = .ok (.iload_n 1, 1) ∧ okop dsX12_grind_0 1 = true) ∧ (decode dsX12_grind_0 2 = .ok (.invokevirtual 121, 3) ∧ okop dsX12_grind_0 2 = true) ∧ (decode dsX12_grind_0 5 = .ok (.ifCond .ne 9, 3) ∧ okop dsX12_grind_0 5 = true) ∧ (decode dsX12_grind_0 8 = .ok (.aload_n 0, 1) ∧ okop dsX12_grind_0 8 = true) ∧ (decode dsX12_grind_0 9 = .ok (.iconst 1, 1) ∧ okop dsX12_grind_0 9 = true) ∧ (decode dsX12_grind_0 10 = .ok (.invokevirtual 143, 3) ∧ okop dsX12_grind_0 10 = true) ∧ (decode dsX12_grind_0 13 = .ok (.ireturn, 1) ∧ okop dsX12_grind_0 13 = true) ∧ (decode dsX12_grind_0 14 = .ok (.iload_n 2, 1) ∧ okop dsX12_grind_0 14 = true) ∧ (decode dsX12_grind_0 15 = .ok (.i2l, 1) ∧ okop dsX12_grind_0 15 = true) := by decide +kernel
theorem dX12_grind_0 : decode cX12_grind 0 = .ok (.aload_n 0, 1) := dgq (p := 0) daX12_grind_0 dbX12_grind_0.1
theorem dX12_grind_1 : decode cX12_grind 1 = .ok (.iload_n 1, 1) := dgq (p := 1) daX12_grind_0 dbX12_grind_0.2.1
theorem dX12_grind_2 : decode cX12_grind 2 = .ok (.invokevirtual 121, 3) := dgq (p := 2) daX12_grind_0 dbX12_grind_0.2.2.1
theorem dX12_grind_5 : decode cX12_grind 5 = .ok (.ifCond .ne 9, 3) := dgq (p := 5) daX12_grind_0 dbX12_grind_0.2.2.2.1
theorem dX12_grind_8 : decode cX12_grind 8 = .ok (.aload_n 0, 1) := dgq (p := 8) daX12_grind_0 dbX12_grind_0.2.2.2.2.1
theorem dX12_grind_9 : decode cX12_grind 9 = .ok (.iconst 1, 1) := dgq (p := 9) daX12_grind_0 dbX12_grind_0.2.2.2.2.2.1
theorem dX12_grind_10 : decode cX12_grind 10 = .ok (.invokevirtual 143, 3) := dgq (p := 10) daX12_grind_0 dbX12_grind_0.2.2.2.2.2.2.1
theorem dX12_grind_13 : decode cX12_grind 13 = .ok (.ireturn, 1) := dgq (p := 13) daX12_grind_0 dbX12_grind_0.2.2.2.2.2.2.2.1
theorem dX12_grind_14 : decode cX12_grind 14 = .ok (.iload_n 2, 1) := dgq (p := 14) daX12_grind_0 dbX12_grind_0.2.2.2.2.2.2.2.2.1
theorem dX12_grind_15 : decode cX12_grind 15 = .ok (.i2l, 1) := dgq (p := 15) daX12_grind_0 dbX12_grind_0.2.2.2.2.2.2.2.2.2
def dsX12_grind_16 : ByteArray := ⟨#[10, 20, 1, 56, 184, 0, 101, 153, 0, 15, 29, 133, 10, 20, 1, 139, 184, 0, 101, 154, 0, 9]⟩
theorem daX12_grind_16 : agB cX12_grind dsX12_grind_16 16 := agB_of (n := 22) (by decide +kernel)
theorem dbX12_grind_16 : (decode dsX12_grind_16 0 = .ok (.lconst 1, 1) ∧ okop dsX12_grind_16 0 = true) ∧ (decode dsX12_grind_16 1 = .ok (.ldc2_w 312, 3) ∧ okop dsX12_grind_16 1 = true) ∧ (decode dsX12_grind_16 4 = .ok (.invokestatic 101, 3) ∧ okop dsX12_grind_16 4 = true) ∧ (decode dsX12_grind_16 7 = .ok (.ifCond .eq 15, 3) ∧ okop dsX12_grind_16 7 = true) ∧ (decode dsX12_grind_16 10 = .ok (.iload_n 3, 1) ∧ okop dsX12_grind_16 10 = true) ∧ (decode dsX12_grind_16 11 = .ok (.i2l, 1) ∧ okop dsX12_grind_16 11 = true) ∧ (decode dsX12_grind_16 12 = .ok (.lconst 1, 1) ∧ okop dsX12_grind_16 12 = true) ∧ (decode dsX12_grind_16 13 = .ok (.ldc2_w 395, 3) ∧ okop dsX12_grind_16 13 = true) ∧ (decode dsX12_grind_16 16 = .ok (.invokestatic 101, 3) ∧ okop dsX12_grind_16 16 = true) ∧ (decode dsX12_grind_16 19 = .ok (.ifCond .ne 9, 3) ∧ okop dsX12_grind_16 19 = true) := by decide +kernel
theorem dX12_grind_16 : decode cX12_grind 16 = .ok (.lconst 1, 1) := dgq (p := 0) daX12_grind_16 dbX12_grind_16.1
theorem dX12_grind_17 : decode cX12_grind 17 = .ok (.ldc2_w 312, 3) := dgq (p := 1) daX12_grind_16 dbX12_grind_16.2.1
theorem dX12_grind_20 : decode cX12_grind 20 = .ok (.invokestatic 101, 3) := dgq (p := 4) daX12_grind_16 dbX12_grind_16.2.2.1
theorem dX12_grind_23 : decode cX12_grind 23 = .ok (.ifCond .eq 15, 3) := dgq (p := 7) daX12_grind_16 dbX12_grind_16.2.2.2.1
theorem dX12_grind_26 : decode cX12_grind 26 = .ok (.iload_n 3, 1) := dgq (p := 10) daX12_grind_16 dbX12_grind_16.2.2.2.2.1
theorem dX12_grind_27 : decode cX12_grind 27 = .ok (.i2l, 1) := dgq (p := 11) daX12_grind_16 dbX12_grind_16.2.2.2.2.2.1
theorem dX12_grind_28 : decode cX12_grind 28 = .ok (.lconst 1, 1) := dgq (p := 12) daX12_grind_16 dbX12_grind_16.2.2.2.2.2.2.1
theorem dX12_grind_29 : decode cX12_grind 29 = .ok (.ldc2_w 395, 3) := dgq (p := 13) daX12_grind_16 dbX12_grind_16.2.2.2.2.2.2.2.1
theorem dX12_grind_32 : decode cX12_grind 32 = .ok (.invokestatic 101, 3) := dgq (p := 16) daX12_grind_16 dbX12_grind_16.2.2.2.2.2.2.2.2.1
theorem dX12_grind_35 : decode cX12_grind 35 = .ok (.ifCond .ne 9, 3) := dgq (p := 19) daX12_grind_16 dbX12_grind_16.2.2.2.2.2.2.2.2.2
def dsX12_grind_38 : ByteArray := ⟨#[42, 5, 182, 0, 143, 172, 42, 27, 182, 0, 111, 58, 4, 25, 4, 180, 0, 160]⟩
theorem daX12_grind_38 : agB cX12_grind dsX12_grind_38 38 := agB_of (n := 18) (by decide +kernel)
theorem dbX12_grind_38 : (decode dsX12_grind_38 0 = .ok (.aload_n 0, 1) ∧ okop dsX12_grind_38 0 = true) ∧ (decode dsX12_grind_38 1 = .ok (.iconst 2, 1) ∧ okop dsX12_grind_38 1 = true) ∧ (decode dsX12_grind_38 2 = .ok (.invokevirtual 143, 3) ∧ okop dsX12_grind_38 2 = true) ∧ (decode dsX12_grind_38 5 = .ok (.ireturn, 1) ∧ okop dsX12_grind_38 5 = true) ∧ (decode dsX12_grind_38 6 = .ok (.aload_n 0, 1) ∧ okop dsX12_grind_38 6 = true) ∧ (decode dsX12_grind_38 7 = .ok (.iload_n 1, 1) ∧ okop dsX12_grind_38 7 = true) ∧ (decode dsX12_grind_38 8 = .ok (.invokevirtual 111, 3) ∧ okop dsX12_grind_38 8 = true) ∧ (decode dsX12_grind_38 11 = .ok (.astore 4, 2) ∧ okop dsX12_grind_38 11 = true) ∧ (decode dsX12_grind_38 13 = .ok (.aload 4, 2) ∧ okop dsX12_grind_38 13 = true) ∧ (decode dsX12_grind_38 15 = .ok (.getfield 160, 3) ∧ okop dsX12_grind_38 15 = true) := by decide +kernel
theorem dX12_grind_38 : decode cX12_grind 38 = .ok (.aload_n 0, 1) := dgq (p := 0) daX12_grind_38 dbX12_grind_38.1
theorem dX12_grind_39 : decode cX12_grind 39 = .ok (.iconst 2, 1) := dgq (p := 1) daX12_grind_38 dbX12_grind_38.2.1
theorem dX12_grind_40 : decode cX12_grind 40 = .ok (.invokevirtual 143, 3) := dgq (p := 2) daX12_grind_38 dbX12_grind_38.2.2.1
theorem dX12_grind_43 : decode cX12_grind 43 = .ok (.ireturn, 1) := dgq (p := 5) daX12_grind_38 dbX12_grind_38.2.2.2.1
theorem dX12_grind_44 : decode cX12_grind 44 = .ok (.aload_n 0, 1) := dgq (p := 6) daX12_grind_38 dbX12_grind_38.2.2.2.2.1
theorem dX12_grind_45 : decode cX12_grind 45 = .ok (.iload_n 1, 1) := dgq (p := 7) daX12_grind_38 dbX12_grind_38.2.2.2.2.2.1
theorem dX12_grind_46 : decode cX12_grind 46 = .ok (.invokevirtual 111, 3) := dgq (p := 8) daX12_grind_38 dbX12_grind_38.2.2.2.2.2.2.1
theorem dX12_grind_49 : decode cX12_grind 49 = .ok (.astore 4, 2) := dgq (p := 11) daX12_grind_38 dbX12_grind_38.2.2.2.2.2.2.2.1
theorem dX12_grind_51 : decode cX12_grind 51 = .ok (.aload 4, 2) := dgq (p := 13) daX12_grind_38 dbX12_grind_38.2.2.2.2.2.2.2.2.1
theorem dX12_grind_53 : decode cX12_grind 53 = .ok (.getfield 160, 3) := dgq (p := 15) daX12_grind_38 dbX12_grind_38.2.2.2.2.2.2.2.2.2
def dsX12_grind_56 : ByteArray := ⟨#[153, 0, 27, 25, 4, 180, 1, 116, 154, 0, 19, 25, 4, 182, 1, 119, 154, 0, 11, 25, 4, 180, 1, 100, 154, 0, 9]⟩
theorem daX12_grind_56 : agB cX12_grind dsX12_grind_56 56 := agB_of (n := 27) (by decide +kernel)
theorem dbX12_grind_56 : (decode dsX12_grind_56 0 = .ok (.ifCond .eq 27, 3) ∧ okop dsX12_grind_56 0 = true) ∧ (decode dsX12_grind_56 3 = .ok (.aload 4, 2) ∧ okop dsX12_grind_56 3 = true) ∧ (decode dsX12_grind_56 5 = .ok (.getfield 372, 3) ∧ okop dsX12_grind_56 5 = true) ∧ (decode dsX12_grind_56 8 = .ok (.ifCond .ne 19, 3) ∧ okop dsX12_grind_56 8 = true) ∧ (decode dsX12_grind_56 11 = .ok (.aload 4, 2) ∧ okop dsX12_grind_56 11 = true) ∧ (decode dsX12_grind_56 13 = .ok (.invokevirtual 375, 3) ∧ okop dsX12_grind_56 13 = true) ∧ (decode dsX12_grind_56 16 = .ok (.ifCond .ne 11, 3) ∧ okop dsX12_grind_56 16 = true) ∧ (decode dsX12_grind_56 19 = .ok (.aload 4, 2) ∧ okop dsX12_grind_56 19 = true) ∧ (decode dsX12_grind_56 21 = .ok (.getfield 356, 3) ∧ okop dsX12_grind_56 21 = true) ∧ (decode dsX12_grind_56 24 = .ok (.ifCond .ne 9, 3) ∧ okop dsX12_grind_56 24 = true) := by decide +kernel
theorem dX12_grind_56 : decode cX12_grind 56 = .ok (.ifCond .eq 27, 3) := dgq (p := 0) daX12_grind_56 dbX12_grind_56.1
theorem dX12_grind_59 : decode cX12_grind 59 = .ok (.aload 4, 2) := dgq (p := 3) daX12_grind_56 dbX12_grind_56.2.1
theorem dX12_grind_61 : decode cX12_grind 61 = .ok (.getfield 372, 3) := dgq (p := 5) daX12_grind_56 dbX12_grind_56.2.2.1
theorem dX12_grind_64 : decode cX12_grind 64 = .ok (.ifCond .ne 19, 3) := dgq (p := 8) daX12_grind_56 dbX12_grind_56.2.2.2.1
theorem dX12_grind_67 : decode cX12_grind 67 = .ok (.aload 4, 2) := dgq (p := 11) daX12_grind_56 dbX12_grind_56.2.2.2.2.1
theorem dX12_grind_69 : decode cX12_grind 69 = .ok (.invokevirtual 375, 3) := dgq (p := 13) daX12_grind_56 dbX12_grind_56.2.2.2.2.2.1
theorem dX12_grind_72 : decode cX12_grind 72 = .ok (.ifCond .ne 11, 3) := dgq (p := 16) daX12_grind_56 dbX12_grind_56.2.2.2.2.2.2.1
theorem dX12_grind_75 : decode cX12_grind 75 = .ok (.aload 4, 2) := dgq (p := 19) daX12_grind_56 dbX12_grind_56.2.2.2.2.2.2.2.1
theorem dX12_grind_77 : decode cX12_grind 77 = .ok (.getfield 356, 3) := dgq (p := 21) daX12_grind_56 dbX12_grind_56.2.2.2.2.2.2.2.2.1
theorem dX12_grind_80 : decode cX12_grind 80 = .ok (.ifCond .ne 9, 3) := dgq (p := 24) daX12_grind_56 dbX12_grind_56.2.2.2.2.2.2.2.2.2
def dsX12_grind_83 : ByteArray := ⟨#[42, 6, 182, 0, 143, 172, 28, 25, 4, 180, 1, 100, 184, 0, 212, 54, 5, 25, 4]⟩
theorem daX12_grind_83 : agB cX12_grind dsX12_grind_83 83 := agB_of (n := 19) (by decide +kernel)
theorem dbX12_grind_83 : (decode dsX12_grind_83 0 = .ok (.aload_n 0, 1) ∧ okop dsX12_grind_83 0 = true) ∧ (decode dsX12_grind_83 1 = .ok (.iconst 3, 1) ∧ okop dsX12_grind_83 1 = true) ∧ (decode dsX12_grind_83 2 = .ok (.invokevirtual 143, 3) ∧ okop dsX12_grind_83 2 = true) ∧ (decode dsX12_grind_83 5 = .ok (.ireturn, 1) ∧ okop dsX12_grind_83 5 = true) ∧ (decode dsX12_grind_83 6 = .ok (.iload_n 2, 1) ∧ okop dsX12_grind_83 6 = true) ∧ (decode dsX12_grind_83 7 = .ok (.aload 4, 2) ∧ okop dsX12_grind_83 7 = true) ∧ (decode dsX12_grind_83 9 = .ok (.getfield 356, 3) ∧ okop dsX12_grind_83 9 = true) ∧ (decode dsX12_grind_83 12 = .ok (.invokestatic 212, 3) ∧ okop dsX12_grind_83 12 = true) ∧ (decode dsX12_grind_83 15 = .ok (.istore 5, 2) ∧ okop dsX12_grind_83 15 = true) ∧ (decode dsX12_grind_83 17 = .ok (.aload 4, 2) ∧ okop dsX12_grind_83 17 = true) := by decide +kernel
theorem dX12_grind_83 : decode cX12_grind 83 = .ok (.aload_n 0, 1) := dgq (p := 0) daX12_grind_83 dbX12_grind_83.1
theorem dX12_grind_84 : decode cX12_grind 84 = .ok (.iconst 3, 1) := dgq (p := 1) daX12_grind_83 dbX12_grind_83.2.1
theorem dX12_grind_85 : decode cX12_grind 85 = .ok (.invokevirtual 143, 3) := dgq (p := 2) daX12_grind_83 dbX12_grind_83.2.2.1
theorem dX12_grind_88 : decode cX12_grind 88 = .ok (.ireturn, 1) := dgq (p := 5) daX12_grind_83 dbX12_grind_83.2.2.2.1
theorem dX12_grind_89 : decode cX12_grind 89 = .ok (.iload_n 2, 1) := dgq (p := 6) daX12_grind_83 dbX12_grind_83.2.2.2.2.1
theorem dX12_grind_90 : decode cX12_grind 90 = .ok (.aload 4, 2) := dgq (p := 7) daX12_grind_83 dbX12_grind_83.2.2.2.2.2.1
theorem dX12_grind_92 : decode cX12_grind 92 = .ok (.getfield 356, 3) := dgq (p := 9) daX12_grind_83 dbX12_grind_83.2.2.2.2.2.2.1
theorem dX12_grind_95 : decode cX12_grind 95 = .ok (.invokestatic 212, 3) := dgq (p := 12) daX12_grind_83 dbX12_grind_83.2.2.2.2.2.2.2.1
theorem dX12_grind_98 : decode cX12_grind 98 = .ok (.istore 5, 2) := dgq (p := 15) daX12_grind_83 dbX12_grind_83.2.2.2.2.2.2.2.2.1
theorem dX12_grind_100 : decode cX12_grind 100 = .ok (.aload 4, 2) := dgq (p := 17) daX12_grind_83 dbX12_grind_83.2.2.2.2.2.2.2.2.2
def dsX12_grind_102 : ByteArray := ⟨#[89, 180, 1, 100, 21, 5, 100, 181, 1, 100, 25, 4, 89, 180, 1, 141, 25, 4, 180, 1, 113]⟩
theorem daX12_grind_102 : agB cX12_grind dsX12_grind_102 102 := agB_of (n := 21) (by decide +kernel)
theorem dbX12_grind_102 : (decode dsX12_grind_102 0 = .ok (.dup, 1) ∧ okop dsX12_grind_102 0 = true) ∧ (decode dsX12_grind_102 1 = .ok (.getfield 356, 3) ∧ okop dsX12_grind_102 1 = true) ∧ (decode dsX12_grind_102 4 = .ok (.iload 5, 2) ∧ okop dsX12_grind_102 4 = true) ∧ (decode dsX12_grind_102 6 = .ok (.isub, 1) ∧ okop dsX12_grind_102 6 = true) ∧ (decode dsX12_grind_102 7 = .ok (.putfield 356, 3) ∧ okop dsX12_grind_102 7 = true) ∧ (decode dsX12_grind_102 10 = .ok (.aload 4, 2) ∧ okop dsX12_grind_102 10 = true) ∧ (decode dsX12_grind_102 12 = .ok (.dup, 1) ∧ okop dsX12_grind_102 12 = true) ∧ (decode dsX12_grind_102 13 = .ok (.getfield 397, 3) ∧ okop dsX12_grind_102 13 = true) ∧ (decode dsX12_grind_102 16 = .ok (.aload 4, 2) ∧ okop dsX12_grind_102 16 = true) ∧ (decode dsX12_grind_102 18 = .ok (.getfield 369, 3) ∧ okop dsX12_grind_102 18 = true) := by decide +kernel
theorem dX12_grind_102 : decode cX12_grind 102 = .ok (.dup, 1) := dgq (p := 0) daX12_grind_102 dbX12_grind_102.1
theorem dX12_grind_103 : decode cX12_grind 103 = .ok (.getfield 356, 3) := dgq (p := 1) daX12_grind_102 dbX12_grind_102.2.1
theorem dX12_grind_106 : decode cX12_grind 106 = .ok (.iload 5, 2) := dgq (p := 4) daX12_grind_102 dbX12_grind_102.2.2.1
theorem dX12_grind_108 : decode cX12_grind 108 = .ok (.isub, 1) := dgq (p := 6) daX12_grind_102 dbX12_grind_102.2.2.2.1
theorem dX12_grind_109 : decode cX12_grind 109 = .ok (.putfield 356, 3) := dgq (p := 7) daX12_grind_102 dbX12_grind_102.2.2.2.2.1
theorem dX12_grind_112 : decode cX12_grind 112 = .ok (.aload 4, 2) := dgq (p := 10) daX12_grind_102 dbX12_grind_102.2.2.2.2.2.1
theorem dX12_grind_114 : decode cX12_grind 114 = .ok (.dup, 1) := dgq (p := 12) daX12_grind_102 dbX12_grind_102.2.2.2.2.2.2.1
theorem dX12_grind_115 : decode cX12_grind 115 = .ok (.getfield 397, 3) := dgq (p := 13) daX12_grind_102 dbX12_grind_102.2.2.2.2.2.2.2.1
theorem dX12_grind_118 : decode cX12_grind 118 = .ok (.aload 4, 2) := dgq (p := 16) daX12_grind_102 dbX12_grind_102.2.2.2.2.2.2.2.2.1
theorem dX12_grind_120 : decode cX12_grind 120 = .ok (.getfield 369, 3) := dgq (p := 18) daX12_grind_102 dbX12_grind_102.2.2.2.2.2.2.2.2.2
def dsX12_grind_123 : ByteArray := ⟨#[153, 0, 8, 21, 5, 167, 0, 4, 3, 96, 181, 1, 141, 25, 4, 25, 4, 180, 1, 100, 154, 0, 7]⟩
theorem daX12_grind_123 : agB cX12_grind dsX12_grind_123 123 := agB_of (n := 23) (by decide +kernel)
theorem dbX12_grind_123 : (decode dsX12_grind_123 0 = .ok (.ifCond .eq 8, 3) ∧ okop dsX12_grind_123 0 = true) ∧ (decode dsX12_grind_123 3 = .ok (.iload 5, 2) ∧ okop dsX12_grind_123 3 = true) ∧ (decode dsX12_grind_123 5 = .ok (.goto 4, 3) ∧ okop dsX12_grind_123 5 = true) ∧ (decode dsX12_grind_123 8 = .ok (.iconst 0, 1) ∧ okop dsX12_grind_123 8 = true) ∧ (decode dsX12_grind_123 9 = .ok (.iadd, 1) ∧ okop dsX12_grind_123 9 = true) ∧ (decode dsX12_grind_123 10 = .ok (.putfield 397, 3) ∧ okop dsX12_grind_123 10 = true) ∧ (decode dsX12_grind_123 13 = .ok (.aload 4, 2) ∧ okop dsX12_grind_123 13 = true) ∧ (decode dsX12_grind_123 15 = .ok (.aload 4, 2) ∧ okop dsX12_grind_123 15 = true) ∧ (decode dsX12_grind_123 17 = .ok (.getfield 356, 3) ∧ okop dsX12_grind_123 17 = true) ∧ (decode dsX12_grind_123 20 = .ok (.ifCond .ne 7, 3) ∧ okop dsX12_grind_123 20 = true) := by decide +kernel
theorem dX12_grind_123 : decode cX12_grind 123 = .ok (.ifCond .eq 8, 3) := dgq (p := 0) daX12_grind_123 dbX12_grind_123.1
theorem dX12_grind_126 : decode cX12_grind 126 = .ok (.iload 5, 2) := dgq (p := 3) daX12_grind_123 dbX12_grind_123.2.1
theorem dX12_grind_128 : decode cX12_grind 128 = .ok (.goto 4, 3) := dgq (p := 5) daX12_grind_123 dbX12_grind_123.2.2.1
theorem dX12_grind_131 : decode cX12_grind 131 = .ok (.iconst 0, 1) := dgq (p := 8) daX12_grind_123 dbX12_grind_123.2.2.2.1
theorem dX12_grind_132 : decode cX12_grind 132 = .ok (.iadd, 1) := dgq (p := 9) daX12_grind_123 dbX12_grind_123.2.2.2.2.1
theorem dX12_grind_133 : decode cX12_grind 133 = .ok (.putfield 397, 3) := dgq (p := 10) daX12_grind_123 dbX12_grind_123.2.2.2.2.2.1
theorem dX12_grind_136 : decode cX12_grind 136 = .ok (.aload 4, 2) := dgq (p := 13) daX12_grind_123 dbX12_grind_123.2.2.2.2.2.2.1
theorem dX12_grind_138 : decode cX12_grind 138 = .ok (.aload 4, 2) := dgq (p := 15) daX12_grind_123 dbX12_grind_123.2.2.2.2.2.2.2.1
theorem dX12_grind_140 : decode cX12_grind 140 = .ok (.getfield 356, 3) := dgq (p := 17) daX12_grind_123 dbX12_grind_123.2.2.2.2.2.2.2.2.1
theorem dX12_grind_143 : decode cX12_grind 143 = .ok (.ifCond .ne 7, 3) := dgq (p := 20) daX12_grind_123 dbX12_grind_123.2.2.2.2.2.2.2.2.2
def dsX12_grind_146 : ByteArray := ⟨#[4, 167, 0, 4, 3, 181, 1, 144, 25, 4, 21, 5, 16, 30, 163, 0, 16, 21, 5, 16, 20]⟩
theorem daX12_grind_146 : agB cX12_grind dsX12_grind_146 146 := agB_of (n := 21) (by decide +kernel)
theorem dbX12_grind_146 : (decode dsX12_grind_146 0 = .ok (.iconst 1, 1) ∧ okop dsX12_grind_146 0 = true) ∧ (decode dsX12_grind_146 1 = .ok (.goto 4, 3) ∧ okop dsX12_grind_146 1 = true) ∧ (decode dsX12_grind_146 4 = .ok (.iconst 0, 1) ∧ okop dsX12_grind_146 4 = true) ∧ (decode dsX12_grind_146 5 = .ok (.putfield 400, 3) ∧ okop dsX12_grind_146 5 = true) ∧ (decode dsX12_grind_146 8 = .ok (.aload 4, 2) ∧ okop dsX12_grind_146 8 = true) ∧ (decode dsX12_grind_146 10 = .ok (.iload 5, 2) ∧ okop dsX12_grind_146 10 = true) ∧ (decode dsX12_grind_146 12 = .ok (.bipush 30, 2) ∧ okop dsX12_grind_146 12 = true) ∧ (decode dsX12_grind_146 14 = .ok (.if_icmp .gt 16, 3) ∧ okop dsX12_grind_146 14 = true) ∧ (decode dsX12_grind_146 17 = .ok (.iload 5, 2) ∧ okop dsX12_grind_146 17 = true) ∧ (decode dsX12_grind_146 19 = .ok (.bipush 20, 2) ∧ okop dsX12_grind_146 19 = true) := by decide +kernel
theorem dX12_grind_146 : decode cX12_grind 146 = .ok (.iconst 1, 1) := dgq (p := 0) daX12_grind_146 dbX12_grind_146.1
theorem dX12_grind_147 : decode cX12_grind 147 = .ok (.goto 4, 3) := dgq (p := 1) daX12_grind_146 dbX12_grind_146.2.1
theorem dX12_grind_150 : decode cX12_grind 150 = .ok (.iconst 0, 1) := dgq (p := 4) daX12_grind_146 dbX12_grind_146.2.2.1
theorem dX12_grind_151 : decode cX12_grind 151 = .ok (.putfield 400, 3) := dgq (p := 5) daX12_grind_146 dbX12_grind_146.2.2.2.1
theorem dX12_grind_154 : decode cX12_grind 154 = .ok (.aload 4, 2) := dgq (p := 8) daX12_grind_146 dbX12_grind_146.2.2.2.2.1
theorem dX12_grind_156 : decode cX12_grind 156 = .ok (.iload 5, 2) := dgq (p := 10) daX12_grind_146 dbX12_grind_146.2.2.2.2.2.1
theorem dX12_grind_158 : decode cX12_grind 158 = .ok (.bipush 30, 2) := dgq (p := 12) daX12_grind_146 dbX12_grind_146.2.2.2.2.2.2.1
theorem dX12_grind_160 : decode cX12_grind 160 = .ok (.if_icmp .gt 16, 3) := dgq (p := 14) daX12_grind_146 dbX12_grind_146.2.2.2.2.2.2.2.1
theorem dX12_grind_163 : decode cX12_grind 163 = .ok (.iload 5, 2) := dgq (p := 17) daX12_grind_146 dbX12_grind_146.2.2.2.2.2.2.2.2.1
theorem dX12_grind_165 : decode cX12_grind 165 = .ok (.bipush 20, 2) := dgq (p := 19) daX12_grind_146 dbX12_grind_146.2.2.2.2.2.2.2.2.2
def dsX12_grind_167 : ByteArray := ⟨#[164, 0, 13, 29, 16, 100, 164, 0, 7, 4, 167, 0, 4, 3, 181, 1, 116, 42, 25, 4]⟩
theorem daX12_grind_167 : agB cX12_grind dsX12_grind_167 167 := agB_of (n := 20) (by decide +kernel)
theorem dbX12_grind_167 : (decode dsX12_grind_167 0 = .ok (.if_icmp .le 13, 3) ∧ okop dsX12_grind_167 0 = true) ∧ (decode dsX12_grind_167 3 = .ok (.iload_n 3, 1) ∧ okop dsX12_grind_167 3 = true) ∧ (decode dsX12_grind_167 4 = .ok (.bipush 100, 2) ∧ okop dsX12_grind_167 4 = true) ∧ (decode dsX12_grind_167 6 = .ok (.if_icmp .le 7, 3) ∧ okop dsX12_grind_167 6 = true) ∧ (decode dsX12_grind_167 9 = .ok (.iconst 1, 1) ∧ okop dsX12_grind_167 9 = true) ∧ (decode dsX12_grind_167 10 = .ok (.goto 4, 3) ∧ okop dsX12_grind_167 10 = true) ∧ (decode dsX12_grind_167 13 = .ok (.iconst 0, 1) ∧ okop dsX12_grind_167 13 = true) ∧ (decode dsX12_grind_167 14 = .ok (.putfield 372, 3) ∧ okop dsX12_grind_167 14 = true) ∧ (decode dsX12_grind_167 17 = .ok (.aload_n 0, 1) ∧ okop dsX12_grind_167 17 = true) ∧ (decode dsX12_grind_167 18 = .ok (.aload 4, 2) ∧ okop dsX12_grind_167 18 = true) := by decide +kernel
theorem dX12_grind_167 : decode cX12_grind 167 = .ok (.if_icmp .le 13, 3) := dgq (p := 0) daX12_grind_167 dbX12_grind_167.1
theorem dX12_grind_170 : decode cX12_grind 170 = .ok (.iload_n 3, 1) := dgq (p := 3) daX12_grind_167 dbX12_grind_167.2.1
theorem dX12_grind_171 : decode cX12_grind 171 = .ok (.bipush 100, 2) := dgq (p := 4) daX12_grind_167 dbX12_grind_167.2.2.1
theorem dX12_grind_173 : decode cX12_grind 173 = .ok (.if_icmp .le 7, 3) := dgq (p := 6) daX12_grind_167 dbX12_grind_167.2.2.2.1
theorem dX12_grind_176 : decode cX12_grind 176 = .ok (.iconst 1, 1) := dgq (p := 9) daX12_grind_167 dbX12_grind_167.2.2.2.2.1
theorem dX12_grind_177 : decode cX12_grind 177 = .ok (.goto 4, 3) := dgq (p := 10) daX12_grind_167 dbX12_grind_167.2.2.2.2.2.1
theorem dX12_grind_180 : decode cX12_grind 180 = .ok (.iconst 0, 1) := dgq (p := 13) daX12_grind_167 dbX12_grind_167.2.2.2.2.2.2.1
theorem dX12_grind_181 : decode cX12_grind 181 = .ok (.putfield 372, 3) := dgq (p := 14) daX12_grind_167 dbX12_grind_167.2.2.2.2.2.2.2.1
theorem dX12_grind_184 : decode cX12_grind 184 = .ok (.aload_n 0, 1) := dgq (p := 17) daX12_grind_167 dbX12_grind_167.2.2.2.2.2.2.2.2.1
theorem dX12_grind_185 : decode cX12_grind 185 = .ok (.aload 4, 2) := dgq (p := 18) daX12_grind_167 dbX12_grind_167.2.2.2.2.2.2.2.2.2
def dsX12_grind_187 : ByteArray := ⟨#[180, 1, 100, 182, 0, 153, 172]⟩
theorem daX12_grind_187 : agB cX12_grind dsX12_grind_187 187 := agB_of (n := 7) (by decide +kernel)
theorem dbX12_grind_187 : (decode dsX12_grind_187 0 = .ok (.getfield 356, 3) ∧ okop dsX12_grind_187 0 = true) ∧ (decode dsX12_grind_187 3 = .ok (.invokevirtual 153, 3) ∧ okop dsX12_grind_187 3 = true) ∧ (decode dsX12_grind_187 6 = .ok (.ireturn, 1) ∧ okop dsX12_grind_187 6 = true) := by decide +kernel
theorem dX12_grind_187 : decode cX12_grind 187 = .ok (.getfield 356, 3) := dgq (p := 0) daX12_grind_187 dbX12_grind_187.1
theorem dX12_grind_190 : decode cX12_grind 190 = .ok (.invokevirtual 153, 3) := dgq (p := 3) daX12_grind_187 dbX12_grind_187.2.1
theorem dX12_grind_193 : decode cX12_grind 193 = .ok (.ireturn, 1) := dgq (p := 6) daX12_grind_187 dbX12_grind_187.2.2
set_option maxRecDepth 20000 in
theorem ggX12_stateOf_X12_isGear : GoodIn wsX12_stateOf wsX12_isGear := goodIn_ca (goodIn_ca (goodIn_q _ [6, 7, 8, 9, 10, 11, 12, 13, 14, 15, 5, 16] rfl (by decide +kernel)) (goodIn_sub (fun _ h => (List.mem_cons_of_mem _ (List.mem_append_left _ (List.mem_append_left _ (List.mem_append_right _ h))))) tg_wsX120)) (goodIn_sub (fun _ h => (List.mem_cons_of_mem _ (List.mem_append_right _ h))) tg_wsJx4a65c0)
set_option maxRecDepth 20000 in
theorem gX12_stateOf_X12_isGear : GoodIn wsX12_stateOf (wsV RX12 121 RX12 yX12_isGear wsX12_isGear) := goodIn_app (goodIn_q _ [2, 3, 4, 5] rfl (by decide +kernel)) ggX12_stateOf_X12_isGear
set_option maxRecDepth 20000 in
theorem ggX12_stateOf_X12_gearAt : GoodIn wsX12_stateOf wsX12_gearAt := goodIn_ca (goodIn_ca (goodIn_q _ [20, 7, 21, 22, 23, 24, 11, 25, 13, 26, 27, 28, 29, 30, 31, 32, 33, 34, 35, 36, 37, 38] rfl (by decide +kernel)) (goodIn_sub (fun _ h => (List.mem_cons_of_mem _ (List.mem_append_left _ (List.mem_append_left _ (List.mem_append_right _ h))))) tg_wsX120)) (goodIn_sub (fun _ h => (List.mem_cons_of_mem _ (List.mem_append_right _ h))) tg_wsJx4a65c0)
set_option maxRecDepth 20000 in
theorem gX12_stateOf_X12_gearAt : GoodIn wsX12_stateOf (wsV RX12 111 RX12 yX12_gearAt wsX12_gearAt) := goodIn_app (goodIn_q _ [17, 18, 19, 5] rfl (by decide +kernel)) ggX12_stateOf_X12_gearAt
set_option maxRecDepth 20000 in
theorem ggX12_stateOf_X10_isBroken : GoodIn wsX12_stateOf wsX10_isBroken := goodIn_ca (goodIn_q _ [43, 44, 45] rfl (by decide +kernel)) (goodIn_sub (fun _ h => (List.mem_cons_of_mem _ (List.mem_append_left _ (List.mem_append_right _ h)))) tg_wsX100)
set_option maxRecDepth 20000 in
theorem gX12_stateOf_X10_isBroken : GoodIn wsX12_stateOf (wsV RX12 375 RX10 yX10_isBroken wsX10_isBroken) := goodIn_app (goodIn_q _ [39, 40, 41, 42] rfl (by decide +kernel)) ggX12_stateOf_X10_isBroken
def dsX12_stateOf_0 : ByteArray := ⟨#[42, 42, 27, 182, 0, 121, 153, 0, 7, 3, 167, 0, 4, 4, 181, 0, 94, 42]⟩
theorem daX12_stateOf_0 : agB cX12_stateOf dsX12_stateOf_0 0 := agB_of (n := 18) (by decide +kernel)
theorem dbX12_stateOf_0 : (decode dsX12_stateOf_0 0 = .ok (.aload_n 0, 1) ∧ okop dsX12_stateOf_0 0 = true) ∧ (decode dsX12_stateOf_0 1 = .ok (.aload_n 0, 1) ∧ okop dsX12_stateOf_0 1 = true) ∧ (decode dsX12_stateOf_0 2 = .ok (.iload_n 1, 1) ∧ okop dsX12_stateOf_0 2 = true) ∧ (decode dsX12_stateOf_0 3 = .ok (.invokevirtual 121, 3) ∧ okop dsX12_stateOf_0 3 = true) ∧ (decode dsX12_stateOf_0 6 = .ok (.ifCond .eq 7, 3) ∧ okop dsX12_stateOf_0 6 = true) ∧ (decode dsX12_stateOf_0 9 = .ok (.iconst 0, 1) ∧ okop dsX12_stateOf_0 9 = true) ∧ (decode dsX12_stateOf_0 10 = .ok (.goto 4, 3) ∧ okop dsX12_stateOf_0 10 = true) ∧ (decode dsX12_stateOf_0 13 = .ok (.iconst 1, 1) ∧ okop dsX12_stateOf_0 13 = true) ∧ (decode dsX12_stateOf_0 14 = .ok (.putfield 94, 3) ∧ okop dsX12_stateOf_0 14 = true) ∧ (decode dsX12_stateOf_0 17 = .ok (.aload_n 0, 1) ∧ okop dsX12_stateOf_0 17 = true) := by decide +kernel
theorem dX12_stateOf_0 : decode cX12_stateOf 0 = .ok (.aload_n 0, 1) := dgq (p := 0) daX12_stateOf_0 dbX12_stateOf_0.1
theorem dX12_stateOf_1 : decode cX12_stateOf 1 = .ok (.aload_n 0, 1) := dgq (p := 1) daX12_stateOf_0 dbX12_stateOf_0.2.1
theorem dX12_stateOf_2 : decode cX12_stateOf 2 = .ok (.iload_n 1, 1) := dgq (p := 2) daX12_stateOf_0 dbX12_stateOf_0.2.2.1
theorem dX12_stateOf_3 : decode cX12_stateOf 3 = .ok (.invokevirtual 121, 3) := dgq (p := 3) daX12_stateOf_0 dbX12_stateOf_0.2.2.2.1
theorem dX12_stateOf_6 : decode cX12_stateOf 6 = .ok (.ifCond .eq 7, 3) := dgq (p := 6) daX12_stateOf_0 dbX12_stateOf_0.2.2.2.2.1
theorem dX12_stateOf_9 : decode cX12_stateOf 9 = .ok (.iconst 0, 1) := dgq (p := 9) daX12_stateOf_0 dbX12_stateOf_0.2.2.2.2.2.1
theorem dX12_stateOf_10 : decode cX12_stateOf 10 = .ok (.goto 4, 3) := dgq (p := 10) daX12_stateOf_0 dbX12_stateOf_0.2.2.2.2.2.2.1
theorem dX12_stateOf_13 : decode cX12_stateOf 13 = .ok (.iconst 1, 1) := dgq (p := 13) daX12_stateOf_0 dbX12_stateOf_0.2.2.2.2.2.2.2.1
theorem dX12_stateOf_14 : decode cX12_stateOf 14 = .ok (.putfield 94, 3) := dgq (p := 14) daX12_stateOf_0 dbX12_stateOf_0.2.2.2.2.2.2.2.2.1
theorem dX12_stateOf_17 : decode cX12_stateOf 17 = .ok (.aload_n 0, 1) := dgq (p := 17) daX12_stateOf_0 dbX12_stateOf_0.2.2.2.2.2.2.2.2.2
def dsX12_stateOf_18 : ByteArray := ⟨#[180, 0, 94, 158, 0, 5, 3, 172, 42, 27, 182, 0, 111, 77, 44, 182, 1, 119]⟩
theorem daX12_stateOf_18 : agB cX12_stateOf dsX12_stateOf_18 18 := agB_of (n := 18) (by decide +kernel)
theorem dbX12_stateOf_18 : (decode dsX12_stateOf_18 0 = .ok (.getfield 94, 3) ∧ okop dsX12_stateOf_18 0 = true) ∧ (decode dsX12_stateOf_18 3 = .ok (.ifCond .le 5, 3) ∧ okop dsX12_stateOf_18 3 = true) ∧ (decode dsX12_stateOf_18 6 = .ok (.iconst 0, 1) ∧ okop dsX12_stateOf_18 6 = true) ∧ (decode dsX12_stateOf_18 7 = .ok (.ireturn, 1) ∧ okop dsX12_stateOf_18 7 = true) ∧ (decode dsX12_stateOf_18 8 = .ok (.aload_n 0, 1) ∧ okop dsX12_stateOf_18 8 = true) ∧ (decode dsX12_stateOf_18 9 = .ok (.iload_n 1, 1) ∧ okop dsX12_stateOf_18 9 = true) ∧ (decode dsX12_stateOf_18 10 = .ok (.invokevirtual 111, 3) ∧ okop dsX12_stateOf_18 10 = true) ∧ (decode dsX12_stateOf_18 13 = .ok (.astore_n 2, 1) ∧ okop dsX12_stateOf_18 13 = true) ∧ (decode dsX12_stateOf_18 14 = .ok (.aload_n 2, 1) ∧ okop dsX12_stateOf_18 14 = true) ∧ (decode dsX12_stateOf_18 15 = .ok (.invokevirtual 375, 3) ∧ okop dsX12_stateOf_18 15 = true) := by decide +kernel
theorem dX12_stateOf_18 : decode cX12_stateOf 18 = .ok (.getfield 94, 3) := dgq (p := 0) daX12_stateOf_18 dbX12_stateOf_18.1
theorem dX12_stateOf_21 : decode cX12_stateOf 21 = .ok (.ifCond .le 5, 3) := dgq (p := 3) daX12_stateOf_18 dbX12_stateOf_18.2.1
theorem dX12_stateOf_24 : decode cX12_stateOf 24 = .ok (.iconst 0, 1) := dgq (p := 6) daX12_stateOf_18 dbX12_stateOf_18.2.2.1
theorem dX12_stateOf_25 : decode cX12_stateOf 25 = .ok (.ireturn, 1) := dgq (p := 7) daX12_stateOf_18 dbX12_stateOf_18.2.2.2.1
theorem dX12_stateOf_26 : decode cX12_stateOf 26 = .ok (.aload_n 0, 1) := dgq (p := 8) daX12_stateOf_18 dbX12_stateOf_18.2.2.2.2.1
theorem dX12_stateOf_27 : decode cX12_stateOf 27 = .ok (.iload_n 1, 1) := dgq (p := 9) daX12_stateOf_18 dbX12_stateOf_18.2.2.2.2.2.1
theorem dX12_stateOf_28 : decode cX12_stateOf 28 = .ok (.invokevirtual 111, 3) := dgq (p := 10) daX12_stateOf_18 dbX12_stateOf_18.2.2.2.2.2.2.1
theorem dX12_stateOf_31 : decode cX12_stateOf 31 = .ok (.astore_n 2, 1) := dgq (p := 13) daX12_stateOf_18 dbX12_stateOf_18.2.2.2.2.2.2.2.1
theorem dX12_stateOf_32 : decode cX12_stateOf 32 = .ok (.aload_n 2, 1) := dgq (p := 14) daX12_stateOf_18 dbX12_stateOf_18.2.2.2.2.2.2.2.2.1
theorem dX12_stateOf_33 : decode cX12_stateOf 33 = .ok (.invokevirtual 375, 3) := dgq (p := 15) daX12_stateOf_18 dbX12_stateOf_18.2.2.2.2.2.2.2.2.2
def dsX12_stateOf_36 : ByteArray := ⟨#[153, 0, 6, 16, 47, 172, 44, 180, 1, 116, 153, 0, 6, 16, 120, 172, 44, 180, 1, 144]⟩
theorem daX12_stateOf_36 : agB cX12_stateOf dsX12_stateOf_36 36 := agB_of (n := 20) (by decide +kernel)
theorem dbX12_stateOf_36 : (decode dsX12_stateOf_36 0 = .ok (.ifCond .eq 6, 3) ∧ okop dsX12_stateOf_36 0 = true) ∧ (decode dsX12_stateOf_36 3 = .ok (.bipush 47, 2) ∧ okop dsX12_stateOf_36 3 = true) ∧ (decode dsX12_stateOf_36 5 = .ok (.ireturn, 1) ∧ okop dsX12_stateOf_36 5 = true) ∧ (decode dsX12_stateOf_36 6 = .ok (.aload_n 2, 1) ∧ okop dsX12_stateOf_36 6 = true) ∧ (decode dsX12_stateOf_36 7 = .ok (.getfield 372, 3) ∧ okop dsX12_stateOf_36 7 = true) ∧ (decode dsX12_stateOf_36 10 = .ok (.ifCond .eq 6, 3) ∧ okop dsX12_stateOf_36 10 = true) ∧ (decode dsX12_stateOf_36 13 = .ok (.bipush 120, 2) ∧ okop dsX12_stateOf_36 13 = true) ∧ (decode dsX12_stateOf_36 15 = .ok (.ireturn, 1) ∧ okop dsX12_stateOf_36 15 = true) ∧ (decode dsX12_stateOf_36 16 = .ok (.aload_n 2, 1) ∧ okop dsX12_stateOf_36 16 = true) ∧ (decode dsX12_stateOf_36 17 = .ok (.getfield 400, 3) ∧ okop dsX12_stateOf_36 17 = true) := by decide +kernel
theorem dX12_stateOf_36 : decode cX12_stateOf 36 = .ok (.ifCond .eq 6, 3) := dgq (p := 0) daX12_stateOf_36 dbX12_stateOf_36.1
theorem dX12_stateOf_39 : decode cX12_stateOf 39 = .ok (.bipush 47, 2) := dgq (p := 3) daX12_stateOf_36 dbX12_stateOf_36.2.1
theorem dX12_stateOf_41 : decode cX12_stateOf 41 = .ok (.ireturn, 1) := dgq (p := 5) daX12_stateOf_36 dbX12_stateOf_36.2.2.1
theorem dX12_stateOf_42 : decode cX12_stateOf 42 = .ok (.aload_n 2, 1) := dgq (p := 6) daX12_stateOf_36 dbX12_stateOf_36.2.2.2.1
theorem dX12_stateOf_43 : decode cX12_stateOf 43 = .ok (.getfield 372, 3) := dgq (p := 7) daX12_stateOf_36 dbX12_stateOf_36.2.2.2.2.1
theorem dX12_stateOf_46 : decode cX12_stateOf 46 = .ok (.ifCond .eq 6, 3) := dgq (p := 10) daX12_stateOf_36 dbX12_stateOf_36.2.2.2.2.2.1
theorem dX12_stateOf_49 : decode cX12_stateOf 49 = .ok (.bipush 120, 2) := dgq (p := 13) daX12_stateOf_36 dbX12_stateOf_36.2.2.2.2.2.2.1
theorem dX12_stateOf_51 : decode cX12_stateOf 51 = .ok (.ireturn, 1) := dgq (p := 15) daX12_stateOf_36 dbX12_stateOf_36.2.2.2.2.2.2.2.1
theorem dX12_stateOf_52 : decode cX12_stateOf 52 = .ok (.aload_n 2, 1) := dgq (p := 16) daX12_stateOf_36 dbX12_stateOf_36.2.2.2.2.2.2.2.2.1
theorem dX12_stateOf_53 : decode cX12_stateOf 53 = .ok (.getfield 400, 3) := dgq (p := 17) daX12_stateOf_36 dbX12_stateOf_36.2.2.2.2.2.2.2.2.2
def dsX12_stateOf_56 : ByteArray := ⟨#[153, 0, 6, 16, 103, 172, 44, 180, 1, 113, 153, 0, 8, 16, 104, 167, 0, 17, 44, 180, 0, 160]⟩
theorem daX12_stateOf_56 : agB cX12_stateOf dsX12_stateOf_56 56 := agB_of (n := 22) (by decide +kernel)
theorem dbX12_stateOf_56 : (decode dsX12_stateOf_56 0 = .ok (.ifCond .eq 6, 3) ∧ okop dsX12_stateOf_56 0 = true) ∧ (decode dsX12_stateOf_56 3 = .ok (.bipush 103, 2) ∧ okop dsX12_stateOf_56 3 = true) ∧ (decode dsX12_stateOf_56 5 = .ok (.ireturn, 1) ∧ okop dsX12_stateOf_56 5 = true) ∧ (decode dsX12_stateOf_56 6 = .ok (.aload_n 2, 1) ∧ okop dsX12_stateOf_56 6 = true) ∧ (decode dsX12_stateOf_56 7 = .ok (.getfield 369, 3) ∧ okop dsX12_stateOf_56 7 = true) ∧ (decode dsX12_stateOf_56 10 = .ok (.ifCond .eq 8, 3) ∧ okop dsX12_stateOf_56 10 = true) ∧ (decode dsX12_stateOf_56 13 = .ok (.bipush 104, 2) ∧ okop dsX12_stateOf_56 13 = true) ∧ (decode dsX12_stateOf_56 15 = .ok (.goto 17, 3) ∧ okop dsX12_stateOf_56 15 = true) ∧ (decode dsX12_stateOf_56 18 = .ok (.aload_n 2, 1) ∧ okop dsX12_stateOf_56 18 = true) ∧ (decode dsX12_stateOf_56 19 = .ok (.getfield 160, 3) ∧ okop dsX12_stateOf_56 19 = true) := by decide +kernel
theorem dX12_stateOf_56 : decode cX12_stateOf 56 = .ok (.ifCond .eq 6, 3) := dgq (p := 0) daX12_stateOf_56 dbX12_stateOf_56.1
theorem dX12_stateOf_59 : decode cX12_stateOf 59 = .ok (.bipush 103, 2) := dgq (p := 3) daX12_stateOf_56 dbX12_stateOf_56.2.1
theorem dX12_stateOf_61 : decode cX12_stateOf 61 = .ok (.ireturn, 1) := dgq (p := 5) daX12_stateOf_56 dbX12_stateOf_56.2.2.1
theorem dX12_stateOf_62 : decode cX12_stateOf 62 = .ok (.aload_n 2, 1) := dgq (p := 6) daX12_stateOf_56 dbX12_stateOf_56.2.2.2.1
theorem dX12_stateOf_63 : decode cX12_stateOf 63 = .ok (.getfield 369, 3) := dgq (p := 7) daX12_stateOf_56 dbX12_stateOf_56.2.2.2.2.1
theorem dX12_stateOf_66 : decode cX12_stateOf 66 = .ok (.ifCond .eq 8, 3) := dgq (p := 10) daX12_stateOf_56 dbX12_stateOf_56.2.2.2.2.2.1
theorem dX12_stateOf_69 : decode cX12_stateOf 69 = .ok (.bipush 104, 2) := dgq (p := 13) daX12_stateOf_56 dbX12_stateOf_56.2.2.2.2.2.2.1
theorem dX12_stateOf_71 : decode cX12_stateOf 71 = .ok (.goto 17, 3) := dgq (p := 15) daX12_stateOf_56 dbX12_stateOf_56.2.2.2.2.2.2.2.1
theorem dX12_stateOf_74 : decode cX12_stateOf 74 = .ok (.aload_n 2, 1) := dgq (p := 18) daX12_stateOf_56 dbX12_stateOf_56.2.2.2.2.2.2.2.2.1
theorem dX12_stateOf_75 : decode cX12_stateOf 75 = .ok (.getfield 160, 3) := dgq (p := 19) daX12_stateOf_56 dbX12_stateOf_56.2.2.2.2.2.2.2.2.2
def dsX12_stateOf_78 : ByteArray := ⟨#[153, 0, 8, 16, 99, 167, 0, 5, 16, 98, 172]⟩
theorem daX12_stateOf_78 : agB cX12_stateOf dsX12_stateOf_78 78 := agB_of (n := 11) (by decide +kernel)
theorem dbX12_stateOf_78 : (decode dsX12_stateOf_78 0 = .ok (.ifCond .eq 8, 3) ∧ okop dsX12_stateOf_78 0 = true) ∧ (decode dsX12_stateOf_78 3 = .ok (.bipush 99, 2) ∧ okop dsX12_stateOf_78 3 = true) ∧ (decode dsX12_stateOf_78 5 = .ok (.goto 5, 3) ∧ okop dsX12_stateOf_78 5 = true) ∧ (decode dsX12_stateOf_78 8 = .ok (.bipush 98, 2) ∧ okop dsX12_stateOf_78 8 = true) ∧ (decode dsX12_stateOf_78 10 = .ok (.ireturn, 1) ∧ okop dsX12_stateOf_78 10 = true) := by decide +kernel
theorem dX12_stateOf_78 : decode cX12_stateOf 78 = .ok (.ifCond .eq 8, 3) := dgq (p := 0) daX12_stateOf_78 dbX12_stateOf_78.1
theorem dX12_stateOf_81 : decode cX12_stateOf 81 = .ok (.bipush 99, 2) := dgq (p := 3) daX12_stateOf_78 dbX12_stateOf_78.2.1
theorem dX12_stateOf_83 : decode cX12_stateOf 83 = .ok (.goto 5, 3) := dgq (p := 5) daX12_stateOf_78 dbX12_stateOf_78.2.2.1
theorem dX12_stateOf_86 : decode cX12_stateOf 86 = .ok (.bipush 98, 2) := dgq (p := 8) daX12_stateOf_78 dbX12_stateOf_78.2.2.2.1
theorem dX12_stateOf_88 : decode cX12_stateOf 88 = .ok (.ireturn, 1) := dgq (p := 10) daX12_stateOf_78 dbX12_stateOf_78.2.2.2.2
set_option maxRecDepth 20000 in
theorem ggX12_chart_X12_isGear : GoodIn wsX12_chart wsX12_isGear := goodIn_ca (goodIn_ca (goodIn_q _ [7, 8, 9, 10, 11, 12, 13, 14, 15, 16, 6, 17] rfl (by decide +kernel)) (goodIn_sub (fun _ h => (List.mem_cons_of_mem _ (List.mem_append_left _ (List.mem_append_left _ (List.mem_append_right _ h))))) tg_wsX120)) (goodIn_sub (fun _ h => (List.mem_cons_of_mem _ (List.mem_append_left _ (List.mem_append_right _ h)))) tg_wsJx4a65c0)
set_option maxRecDepth 20000 in
theorem gX12_chart_X12_isGear : GoodIn wsX12_chart (wsV RX12 121 RX12 yX12_isGear wsX12_isGear) := goodIn_app (goodIn_q _ [3, 4, 5, 6] rfl (by decide +kernel)) ggX12_chart_X12_isGear
set_option maxRecDepth 20000 in
theorem ggX12_chart_X12_fails : GoodIn wsX12_chart wsX12_fails := goodIn_ca (goodIn_q _ [21, 22] rfl (by decide +kernel)) (goodIn_sub (fun _ h => (List.mem_cons_of_mem _ (List.mem_append_left _ (List.mem_append_left _ (List.mem_append_right _ h))))) tg_wsX120)
set_option maxRecDepth 20000 in
theorem gX12_chart_X12_fails : GoodIn wsX12_chart (wsV RX12 143 RX12 yX12_fails wsX12_fails) := goodIn_app (goodIn_q _ [18, 19, 20, 6] rfl (by decide +kernel)) ggX12_chart_X12_fails
set_option maxRecDepth 20000 in
theorem ggX12_chart_X12_gearAt : GoodIn wsX12_chart wsX12_gearAt := goodIn_ca (goodIn_ca (goodIn_q _ [26, 8, 27, 28, 29, 30, 12, 31, 14, 32, 33, 34, 35, 36, 37, 38, 39, 40, 41, 42, 43, 44] rfl (by decide +kernel)) (goodIn_sub (fun _ h => (List.mem_cons_of_mem _ (List.mem_append_left _ (List.mem_append_left _ (List.mem_append_right _ h))))) tg_wsX120)) (goodIn_sub (fun _ h => (List.mem_cons_of_mem _ (List.mem_append_left _ (List.mem_append_right _ h)))) tg_wsJx4a65c0)
set_option maxRecDepth 20000 in
theorem gX12_chart_X12_gearAt : GoodIn wsX12_chart (wsV RX12 111 RX12 yX12_gearAt wsX12_gearAt) := goodIn_app (goodIn_q _ [23, 24, 25, 6] rfl (by decide +kernel)) ggX12_chart_X12_gearAt
set_option maxRecDepth 20000 in
theorem ggX12_chart_X12_in : GoodIn wsX12_chart wsX12_in := goodIn_q _ [17] rfl (by decide +kernel)
set_option maxRecDepth 20000 in
theorem gX12_chart_X12_in : GoodIn wsX12_chart (va_wsS RX12 101 yX12_in wsX12_in) := goodIn_app (goodIn_q _ [15, 16, 6] rfl (by decide +kernel)) ggX12_chart_X12_in
set_option maxRecDepth 20000 in
theorem ggX12_chart_X12_answer : GoodIn wsX12_chart wsX12_answer := goodIn_ca (goodIn_q _ [48, 22] rfl (by decide +kernel)) (goodIn_sub (fun _ h => (List.mem_cons_of_mem _ (List.mem_append_left _ (List.mem_append_left _ (List.mem_append_right _ h))))) tg_wsX120)
set_option maxRecDepth 20000 in
theorem gX12_chart_X12_answer : GoodIn wsX12_chart (wsV RX12 153 RX12 yX12_answer wsX12_answer) := goodIn_app (goodIn_q _ [45, 46, 47, 6] rfl (by decide +kernel)) ggX12_chart_X12_answer
def dsX12_chart_0 : ByteArray := ⟨#[42, 27, 182, 0, 121, 154, 0, 9, 42, 4, 182, 0, 143, 172, 28, 133]⟩
theorem daX12_chart_0 : agB cX12_chart dsX12_chart_0 0 := agB_of (n := 16) (by decide +kernel)
theorem dbX12_chart_0 : (decode dsX12_chart_0 0 = .ok (.aload_n 0, 1) ∧ okop dsX12_chart_0 0 = true) ∧ (decode dsX12_chart_0 1 = .ok (.iload_n 1, 1) ∧ okop dsX12_chart_0 1 = true) ∧ (decode dsX12_chart_0 2 = .ok (.invokevirtual 121, 3) ∧ okop dsX12_chart_0 2 = true) ∧ (decode dsX12_chart_0 5 = .ok (.ifCond .ne 9, 3) ∧ okop dsX12_chart_0 5 = true) ∧ (decode dsX12_chart_0 8 = .ok (.aload_n 0, 1) ∧ okop dsX12_chart_0 8 = true) ∧ (decode dsX12_chart_0 9 = .ok (.iconst 1, 1) ∧ okop dsX12_chart_0 9 = true) ∧ (decode dsX12_chart_0 10 = .ok (.invokevirtual 143, 3) ∧ okop dsX12_chart_0 10 = true) ∧ (decode dsX12_chart_0 13 = .ok (.ireturn, 1) ∧ okop dsX12_chart_0 13 = true) ∧ (decode dsX12_chart_0 14 = .ok (.iload_n 2, 1) ∧ okop dsX12_chart_0 14 = true) ∧ (decode dsX12_chart_0 15 = .ok (.i2l, 1) ∧ okop dsX12_chart_0 15 = true) := by decide +kernel
theorem dX12_chart_0 : decode cX12_chart 0 = .ok (.aload_n 0, 1) := dgq (p := 0) daX12_chart_0 dbX12_chart_0.1
theorem dX12_chart_1 : decode cX12_chart 1 = .ok (.iload_n 1, 1) := dgq (p := 1) daX12_chart_0 dbX12_chart_0.2.1
theorem dX12_chart_2 : decode cX12_chart 2 = .ok (.invokevirtual 121, 3) := dgq (p := 2) daX12_chart_0 dbX12_chart_0.2.2.1
theorem dX12_chart_5 : decode cX12_chart 5 = .ok (.ifCond .ne 9, 3) := dgq (p := 5) daX12_chart_0 dbX12_chart_0.2.2.2.1
theorem dX12_chart_8 : decode cX12_chart 8 = .ok (.aload_n 0, 1) := dgq (p := 8) daX12_chart_0 dbX12_chart_0.2.2.2.2.1
theorem dX12_chart_9 : decode cX12_chart 9 = .ok (.iconst 1, 1) := dgq (p := 9) daX12_chart_0 dbX12_chart_0.2.2.2.2.2.1
theorem dX12_chart_10 : decode cX12_chart 10 = .ok (.invokevirtual 143, 3) := dgq (p := 10) daX12_chart_0 dbX12_chart_0.2.2.2.2.2.2.1
theorem dX12_chart_13 : decode cX12_chart 13 = .ok (.ireturn, 1) := dgq (p := 13) daX12_chart_0 dbX12_chart_0.2.2.2.2.2.2.2.1
theorem dX12_chart_14 : decode cX12_chart 14 = .ok (.iload_n 2, 1) := dgq (p := 14) daX12_chart_0 dbX12_chart_0.2.2.2.2.2.2.2.2.1
theorem dX12_chart_15 : decode cX12_chart 15 = .ok (.i2l, 1) := dgq (p := 15) daX12_chart_0 dbX12_chart_0.2.2.2.2.2.2.2.2.2
def dsX12_chart_16 : ByteArray := ⟨#[9, 42, 27, 182, 0, 111, 180, 1, 76, 4, 100, 133, 184, 0, 101, 153, 0, 17]⟩
theorem daX12_chart_16 : agB cX12_chart dsX12_chart_16 16 := agB_of (n := 18) (by decide +kernel)
theorem dbX12_chart_16 : (decode dsX12_chart_16 0 = .ok (.lconst 0, 1) ∧ okop dsX12_chart_16 0 = true) ∧ (decode dsX12_chart_16 1 = .ok (.aload_n 0, 1) ∧ okop dsX12_chart_16 1 = true) ∧ (decode dsX12_chart_16 2 = .ok (.iload_n 1, 1) ∧ okop dsX12_chart_16 2 = true) ∧ (decode dsX12_chart_16 3 = .ok (.invokevirtual 111, 3) ∧ okop dsX12_chart_16 3 = true) ∧ (decode dsX12_chart_16 6 = .ok (.getfield 332, 3) ∧ okop dsX12_chart_16 6 = true) ∧ (decode dsX12_chart_16 9 = .ok (.iconst 1, 1) ∧ okop dsX12_chart_16 9 = true) ∧ (decode dsX12_chart_16 10 = .ok (.isub, 1) ∧ okop dsX12_chart_16 10 = true) ∧ (decode dsX12_chart_16 11 = .ok (.i2l, 1) ∧ okop dsX12_chart_16 11 = true) ∧ (decode dsX12_chart_16 12 = .ok (.invokestatic 101, 3) ∧ okop dsX12_chart_16 12 = true) ∧ (decode dsX12_chart_16 15 = .ok (.ifCond .eq 17, 3) ∧ okop dsX12_chart_16 15 = true) := by decide +kernel
theorem dX12_chart_16 : decode cX12_chart 16 = .ok (.lconst 0, 1) := dgq (p := 0) daX12_chart_16 dbX12_chart_16.1
theorem dX12_chart_17 : decode cX12_chart 17 = .ok (.aload_n 0, 1) := dgq (p := 1) daX12_chart_16 dbX12_chart_16.2.1
theorem dX12_chart_18 : decode cX12_chart 18 = .ok (.iload_n 1, 1) := dgq (p := 2) daX12_chart_16 dbX12_chart_16.2.2.1
theorem dX12_chart_19 : decode cX12_chart 19 = .ok (.invokevirtual 111, 3) := dgq (p := 3) daX12_chart_16 dbX12_chart_16.2.2.2.1
theorem dX12_chart_22 : decode cX12_chart 22 = .ok (.getfield 332, 3) := dgq (p := 6) daX12_chart_16 dbX12_chart_16.2.2.2.2.1
theorem dX12_chart_25 : decode cX12_chart 25 = .ok (.iconst 1, 1) := dgq (p := 9) daX12_chart_16 dbX12_chart_16.2.2.2.2.2.1
theorem dX12_chart_26 : decode cX12_chart 26 = .ok (.isub, 1) := dgq (p := 10) daX12_chart_16 dbX12_chart_16.2.2.2.2.2.2.1
theorem dX12_chart_27 : decode cX12_chart 27 = .ok (.i2l, 1) := dgq (p := 11) daX12_chart_16 dbX12_chart_16.2.2.2.2.2.2.2.1
theorem dX12_chart_28 : decode cX12_chart 28 = .ok (.invokestatic 101, 3) := dgq (p := 12) daX12_chart_16 dbX12_chart_16.2.2.2.2.2.2.2.2.1
theorem dX12_chart_31 : decode cX12_chart 31 = .ok (.ifCond .eq 17, 3) := dgq (p := 15) daX12_chart_16 dbX12_chart_16.2.2.2.2.2.2.2.2.2
def dsX12_chart_34 : ByteArray := ⟨#[29, 133, 20, 0, 137, 20, 0, 133, 184, 0, 101, 154, 0, 9, 42, 5, 182, 0, 143, 172]⟩
theorem daX12_chart_34 : agB cX12_chart dsX12_chart_34 34 := agB_of (n := 20) (by decide +kernel)
theorem dbX12_chart_34 : (decode dsX12_chart_34 0 = .ok (.iload_n 3, 1) ∧ okop dsX12_chart_34 0 = true) ∧ (decode dsX12_chart_34 1 = .ok (.i2l, 1) ∧ okop dsX12_chart_34 1 = true) ∧ (decode dsX12_chart_34 2 = .ok (.ldc2_w 137, 3) ∧ okop dsX12_chart_34 2 = true) ∧ (decode dsX12_chart_34 5 = .ok (.ldc2_w 133, 3) ∧ okop dsX12_chart_34 5 = true) ∧ (decode dsX12_chart_34 8 = .ok (.invokestatic 101, 3) ∧ okop dsX12_chart_34 8 = true) ∧ (decode dsX12_chart_34 11 = .ok (.ifCond .ne 9, 3) ∧ okop dsX12_chart_34 11 = true) ∧ (decode dsX12_chart_34 14 = .ok (.aload_n 0, 1) ∧ okop dsX12_chart_34 14 = true) ∧ (decode dsX12_chart_34 15 = .ok (.iconst 2, 1) ∧ okop dsX12_chart_34 15 = true) ∧ (decode dsX12_chart_34 16 = .ok (.invokevirtual 143, 3) ∧ okop dsX12_chart_34 16 = true) ∧ (decode dsX12_chart_34 19 = .ok (.ireturn, 1) ∧ okop dsX12_chart_34 19 = true) := by decide +kernel
theorem dX12_chart_34 : decode cX12_chart 34 = .ok (.iload_n 3, 1) := dgq (p := 0) daX12_chart_34 dbX12_chart_34.1
theorem dX12_chart_35 : decode cX12_chart 35 = .ok (.i2l, 1) := dgq (p := 1) daX12_chart_34 dbX12_chart_34.2.1
theorem dX12_chart_36 : decode cX12_chart 36 = .ok (.ldc2_w 137, 3) := dgq (p := 2) daX12_chart_34 dbX12_chart_34.2.2.1
theorem dX12_chart_39 : decode cX12_chart 39 = .ok (.ldc2_w 133, 3) := dgq (p := 5) daX12_chart_34 dbX12_chart_34.2.2.2.1
theorem dX12_chart_42 : decode cX12_chart 42 = .ok (.invokestatic 101, 3) := dgq (p := 8) daX12_chart_34 dbX12_chart_34.2.2.2.2.1
theorem dX12_chart_45 : decode cX12_chart 45 = .ok (.ifCond .ne 9, 3) := dgq (p := 11) daX12_chart_34 dbX12_chart_34.2.2.2.2.2.1
theorem dX12_chart_48 : decode cX12_chart 48 = .ok (.aload_n 0, 1) := dgq (p := 14) daX12_chart_34 dbX12_chart_34.2.2.2.2.2.2.1
theorem dX12_chart_49 : decode cX12_chart 49 = .ok (.iconst 2, 1) := dgq (p := 15) daX12_chart_34 dbX12_chart_34.2.2.2.2.2.2.2.1
theorem dX12_chart_50 : decode cX12_chart 50 = .ok (.invokevirtual 143, 3) := dgq (p := 16) daX12_chart_34 dbX12_chart_34.2.2.2.2.2.2.2.2.1
theorem dX12_chart_53 : decode cX12_chart 53 = .ok (.ireturn, 1) := dgq (p := 19) daX12_chart_34 dbX12_chart_34.2.2.2.2.2.2.2.2.2
def dsX12_chart_54 : ByteArray := ⟨#[42, 27, 182, 0, 111, 180, 1, 147, 28, 46, 54, 4, 42, 27, 182, 0, 111]⟩
theorem daX12_chart_54 : agB cX12_chart dsX12_chart_54 54 := agB_of (n := 17) (by decide +kernel)
theorem dbX12_chart_54 : (decode dsX12_chart_54 0 = .ok (.aload_n 0, 1) ∧ okop dsX12_chart_54 0 = true) ∧ (decode dsX12_chart_54 1 = .ok (.iload_n 1, 1) ∧ okop dsX12_chart_54 1 = true) ∧ (decode dsX12_chart_54 2 = .ok (.invokevirtual 111, 3) ∧ okop dsX12_chart_54 2 = true) ∧ (decode dsX12_chart_54 5 = .ok (.getfield 403, 3) ∧ okop dsX12_chart_54 5 = true) ∧ (decode dsX12_chart_54 8 = .ok (.iload_n 2, 1) ∧ okop dsX12_chart_54 8 = true) ∧ (decode dsX12_chart_54 9 = .ok (.iaload, 1) ∧ okop dsX12_chart_54 9 = true) ∧ (decode dsX12_chart_54 10 = .ok (.istore 4, 2) ∧ okop dsX12_chart_54 10 = true) ∧ (decode dsX12_chart_54 12 = .ok (.aload_n 0, 1) ∧ okop dsX12_chart_54 12 = true) ∧ (decode dsX12_chart_54 13 = .ok (.iload_n 1, 1) ∧ okop dsX12_chart_54 13 = true) ∧ (decode dsX12_chart_54 14 = .ok (.invokevirtual 111, 3) ∧ okop dsX12_chart_54 14 = true) := by decide +kernel
theorem dX12_chart_54 : decode cX12_chart 54 = .ok (.aload_n 0, 1) := dgq (p := 0) daX12_chart_54 dbX12_chart_54.1
theorem dX12_chart_55 : decode cX12_chart 55 = .ok (.iload_n 1, 1) := dgq (p := 1) daX12_chart_54 dbX12_chart_54.2.1
theorem dX12_chart_56 : decode cX12_chart 56 = .ok (.invokevirtual 111, 3) := dgq (p := 2) daX12_chart_54 dbX12_chart_54.2.2.1
theorem dX12_chart_59 : decode cX12_chart 59 = .ok (.getfield 403, 3) := dgq (p := 5) daX12_chart_54 dbX12_chart_54.2.2.2.1
theorem dX12_chart_62 : decode cX12_chart 62 = .ok (.iload_n 2, 1) := dgq (p := 8) daX12_chart_54 dbX12_chart_54.2.2.2.2.1
theorem dX12_chart_63 : decode cX12_chart 63 = .ok (.iaload, 1) := dgq (p := 9) daX12_chart_54 dbX12_chart_54.2.2.2.2.2.1
theorem dX12_chart_64 : decode cX12_chart 64 = .ok (.istore 4, 2) := dgq (p := 10) daX12_chart_54 dbX12_chart_54.2.2.2.2.2.2.1
theorem dX12_chart_66 : decode cX12_chart 66 = .ok (.aload_n 0, 1) := dgq (p := 12) daX12_chart_54 dbX12_chart_54.2.2.2.2.2.2.2.1
theorem dX12_chart_67 : decode cX12_chart 67 = .ok (.iload_n 1, 1) := dgq (p := 13) daX12_chart_54 dbX12_chart_54.2.2.2.2.2.2.2.2.1
theorem dX12_chart_68 : decode cX12_chart 68 = .ok (.invokevirtual 111, 3) := dgq (p := 14) daX12_chart_54 dbX12_chart_54.2.2.2.2.2.2.2.2.2
def dsX12_chart_71 : ByteArray := ⟨#[180, 1, 147, 28, 29, 79, 42, 21, 4, 182, 0, 153, 172]⟩
theorem daX12_chart_71 : agB cX12_chart dsX12_chart_71 71 := agB_of (n := 13) (by decide +kernel)
theorem dbX12_chart_71 : (decode dsX12_chart_71 0 = .ok (.getfield 403, 3) ∧ okop dsX12_chart_71 0 = true) ∧ (decode dsX12_chart_71 3 = .ok (.iload_n 2, 1) ∧ okop dsX12_chart_71 3 = true) ∧ (decode dsX12_chart_71 4 = .ok (.iload_n 3, 1) ∧ okop dsX12_chart_71 4 = true) ∧ (decode dsX12_chart_71 5 = .ok (.iastore, 1) ∧ okop dsX12_chart_71 5 = true) ∧ (decode dsX12_chart_71 6 = .ok (.aload_n 0, 1) ∧ okop dsX12_chart_71 6 = true) ∧ (decode dsX12_chart_71 7 = .ok (.iload 4, 2) ∧ okop dsX12_chart_71 7 = true) ∧ (decode dsX12_chart_71 9 = .ok (.invokevirtual 153, 3) ∧ okop dsX12_chart_71 9 = true) ∧ (decode dsX12_chart_71 12 = .ok (.ireturn, 1) ∧ okop dsX12_chart_71 12 = true) := by decide +kernel
theorem dX12_chart_71 : decode cX12_chart 71 = .ok (.getfield 403, 3) := dgq (p := 0) daX12_chart_71 dbX12_chart_71.1
theorem dX12_chart_74 : decode cX12_chart 74 = .ok (.iload_n 2, 1) := dgq (p := 3) daX12_chart_71 dbX12_chart_71.2.1
theorem dX12_chart_75 : decode cX12_chart 75 = .ok (.iload_n 3, 1) := dgq (p := 4) daX12_chart_71 dbX12_chart_71.2.2.1
theorem dX12_chart_76 : decode cX12_chart 76 = .ok (.iastore, 1) := dgq (p := 5) daX12_chart_71 dbX12_chart_71.2.2.2.1
theorem dX12_chart_77 : decode cX12_chart 77 = .ok (.aload_n 0, 1) := dgq (p := 6) daX12_chart_71 dbX12_chart_71.2.2.2.2.1
theorem dX12_chart_78 : decode cX12_chart 78 = .ok (.iload 4, 2) := dgq (p := 7) daX12_chart_71 dbX12_chart_71.2.2.2.2.2.1
theorem dX12_chart_80 : decode cX12_chart 80 = .ok (.invokevirtual 153, 3) := dgq (p := 9) daX12_chart_71 dbX12_chart_71.2.2.2.2.2.2.1
theorem dX12_chart_83 : decode cX12_chart 83 = .ok (.ireturn, 1) := dgq (p := 12) daX12_chart_71 dbX12_chart_71.2.2.2.2.2.2.2
set_option maxRecDepth 20000 in
theorem ggX12_total_X12_isGear : GoodIn wsX12_total wsX12_isGear := goodIn_ca (goodIn_ca (goodIn_q _ [5, 6, 7, 8, 9, 10, 11, 12, 13, 14, 4, 15] rfl (by decide +kernel)) (goodIn_sub (fun _ h => (List.mem_cons_of_mem _ (List.mem_append_left _ (List.mem_append_left _ (List.mem_append_left _ (List.mem_append_left _ (List.mem_append_right _ h))))))) tg_wsX120)) (goodIn_sub (fun _ h => (List.mem_cons_of_mem _ (List.mem_append_left _ (List.mem_append_left _ (List.mem_append_left _ (List.mem_append_right _ h)))))) tg_wsJx4a65c0)
set_option maxRecDepth 20000 in
theorem gX12_total_X12_isGear : GoodIn wsX12_total (wsV RX12 121 RX12 yX12_isGear wsX12_isGear) := goodIn_app (goodIn_q _ [1, 2, 3, 4] rfl (by decide +kernel)) ggX12_total_X12_isGear
set_option maxRecDepth 20000 in
theorem ggX12_total_X12_gearAt : GoodIn wsX12_total wsX12_gearAt := goodIn_ca (goodIn_ca (goodIn_q _ [19, 6, 20, 21, 22, 23, 10, 24, 12, 25, 26, 27, 28, 29, 30, 31, 32, 33, 34, 35, 36, 37] rfl (by decide +kernel)) (goodIn_sub (fun _ h => (List.mem_cons_of_mem _ (List.mem_append_left _ (List.mem_append_left _ (List.mem_append_left _ (List.mem_append_left _ (List.mem_append_right _ h))))))) tg_wsX120)) (goodIn_sub (fun _ h => (List.mem_cons_of_mem _ (List.mem_append_left _ (List.mem_append_left _ (List.mem_append_left _ (List.mem_append_right _ h)))))) tg_wsJx4a65c0)
set_option maxRecDepth 20000 in
theorem gX12_total_X12_gearAt : GoodIn wsX12_total (wsV RX12 111 RX12 yX12_gearAt wsX12_gearAt) := goodIn_app (goodIn_q _ [16, 17, 18, 4] rfl (by decide +kernel)) ggX12_total_X12_gearAt
set_option maxRecDepth 20000 in
theorem ggX12_total_X10_total : GoodIn wsX12_total wsX10_total := goodIn_ca (goodIn_ca (goodIn_ca (goodIn_q _ [42, 43, 44, 45, 46, 47, 48, 49, 50, 51, 52, 53, 54, 41, 55] rfl (by decide +kernel)) (goodIn_sub (fun _ h => (List.mem_cons_of_mem _ (List.mem_append_left _ (List.mem_append_left _ (List.mem_append_right _ h))))) tg_wsX100)) (goodIn_sub (fun _ h => List.mem_cons_of_mem _ (List.mem_append_left _ (List.mem_append_right _ h))) (by decide +kernel))) (goodIn_sub (fun _ h => List.mem_cons_of_mem _ (List.mem_append_right _ h)) (by decide +kernel))
set_option maxRecDepth 20000 in
theorem gX12_total_X10_total : GoodIn wsX12_total (wsV RX12 406 RX10 yX10_total wsX10_total) := goodIn_app (goodIn_q _ [38, 39, 40, 41] rfl (by decide +kernel)) ggX12_total_X10_total
set_option maxRecDepth 20000 in
theorem ggX12_total_X12_answer : GoodIn wsX12_total wsX12_answer := goodIn_ca (goodIn_q _ [59, 60] rfl (by decide +kernel)) (goodIn_sub (fun _ h => (List.mem_cons_of_mem _ (List.mem_append_left _ (List.mem_append_left _ (List.mem_append_left _ (List.mem_append_left _ (List.mem_append_right _ h))))))) tg_wsX120)
set_option maxRecDepth 20000 in
theorem gX12_total_X12_answer : GoodIn wsX12_total (wsV RX12 153 RX12 yX12_answer wsX12_answer) := goodIn_app (goodIn_q _ [56, 57, 58, 4] rfl (by decide +kernel)) ggX12_total_X12_answer
set_option maxRecDepth 20000 in
theorem ggX12_total_X12_fails : GoodIn wsX12_total wsX12_fails := goodIn_ca (goodIn_q _ [64, 60] rfl (by decide +kernel)) (goodIn_sub (fun _ h => (List.mem_cons_of_mem _ (List.mem_append_left _ (List.mem_append_left _ (List.mem_append_left _ (List.mem_append_left _ (List.mem_append_right _ h))))))) tg_wsX120)
set_option maxRecDepth 20000 in
theorem gX12_total_X12_fails : GoodIn wsX12_total (wsV RX12 143 RX12 yX12_fails wsX12_fails) := goodIn_app (goodIn_q _ [61, 62, 63, 4] rfl (by decide +kernel)) ggX12_total_X12_fails
def dsX12_total_0 : ByteArray := ⟨#[42, 27, 182, 0, 121, 153, 0, 18, 42, 42, 27, 182, 0, 111, 182, 1, 150, 182, 0, 153]⟩
theorem daX12_total_0 : agB cX12_total dsX12_total_0 0 := agB_of (n := 20) (by decide +kernel)
theorem dbX12_total_0 : (decode dsX12_total_0 0 = .ok (.aload_n 0, 1) ∧ okop dsX12_total_0 0 = true) ∧ (decode dsX12_total_0 1 = .ok (.iload_n 1, 1) ∧ okop dsX12_total_0 1 = true) ∧ (decode dsX12_total_0 2 = .ok (.invokevirtual 121, 3) ∧ okop dsX12_total_0 2 = true) ∧ (decode dsX12_total_0 5 = .ok (.ifCond .eq 18, 3) ∧ okop dsX12_total_0 5 = true) ∧ (decode dsX12_total_0 8 = .ok (.aload_n 0, 1) ∧ okop dsX12_total_0 8 = true) ∧ (decode dsX12_total_0 9 = .ok (.aload_n 0, 1) ∧ okop dsX12_total_0 9 = true) ∧ (decode dsX12_total_0 10 = .ok (.iload_n 1, 1) ∧ okop dsX12_total_0 10 = true) ∧ (decode dsX12_total_0 11 = .ok (.invokevirtual 111, 3) ∧ okop dsX12_total_0 11 = true) ∧ (decode dsX12_total_0 14 = .ok (.invokevirtual 406, 3) ∧ okop dsX12_total_0 14 = true) ∧ (decode dsX12_total_0 17 = .ok (.invokevirtual 153, 3) ∧ okop dsX12_total_0 17 = true) := by decide +kernel
theorem dX12_total_0 : decode cX12_total 0 = .ok (.aload_n 0, 1) := dgq (p := 0) daX12_total_0 dbX12_total_0.1
theorem dX12_total_1 : decode cX12_total 1 = .ok (.iload_n 1, 1) := dgq (p := 1) daX12_total_0 dbX12_total_0.2.1
theorem dX12_total_2 : decode cX12_total 2 = .ok (.invokevirtual 121, 3) := dgq (p := 2) daX12_total_0 dbX12_total_0.2.2.1
theorem dX12_total_5 : decode cX12_total 5 = .ok (.ifCond .eq 18, 3) := dgq (p := 5) daX12_total_0 dbX12_total_0.2.2.2.1
theorem dX12_total_8 : decode cX12_total 8 = .ok (.aload_n 0, 1) := dgq (p := 8) daX12_total_0 dbX12_total_0.2.2.2.2.1
theorem dX12_total_9 : decode cX12_total 9 = .ok (.aload_n 0, 1) := dgq (p := 9) daX12_total_0 dbX12_total_0.2.2.2.2.2.1
theorem dX12_total_10 : decode cX12_total 10 = .ok (.iload_n 1, 1) := dgq (p := 10) daX12_total_0 dbX12_total_0.2.2.2.2.2.2.1
theorem dX12_total_11 : decode cX12_total 11 = .ok (.invokevirtual 111, 3) := dgq (p := 11) daX12_total_0 dbX12_total_0.2.2.2.2.2.2.2.1
theorem dX12_total_14 : decode cX12_total 14 = .ok (.invokevirtual 406, 3) := dgq (p := 14) daX12_total_0 dbX12_total_0.2.2.2.2.2.2.2.2.1
theorem dX12_total_17 : decode cX12_total 17 = .ok (.invokevirtual 153, 3) := dgq (p := 17) daX12_total_0 dbX12_total_0.2.2.2.2.2.2.2.2.2
def dsX12_total_20 : ByteArray := ⟨#[167, 0, 8, 42, 4, 182, 0, 143, 172]⟩
theorem daX12_total_20 : agB cX12_total dsX12_total_20 20 := agB_of (n := 9) (by decide +kernel)
theorem dbX12_total_20 : (decode dsX12_total_20 0 = .ok (.goto 8, 3) ∧ okop dsX12_total_20 0 = true) ∧ (decode dsX12_total_20 3 = .ok (.aload_n 0, 1) ∧ okop dsX12_total_20 3 = true) ∧ (decode dsX12_total_20 4 = .ok (.iconst 1, 1) ∧ okop dsX12_total_20 4 = true) ∧ (decode dsX12_total_20 5 = .ok (.invokevirtual 143, 3) ∧ okop dsX12_total_20 5 = true) ∧ (decode dsX12_total_20 8 = .ok (.ireturn, 1) ∧ okop dsX12_total_20 8 = true) := by decide +kernel
theorem dX12_total_20 : decode cX12_total 20 = .ok (.goto 8, 3) := dgq (p := 0) daX12_total_20 dbX12_total_20.1
theorem dX12_total_23 : decode cX12_total 23 = .ok (.aload_n 0, 1) := dgq (p := 3) daX12_total_20 dbX12_total_20.2.1
theorem dX12_total_24 : decode cX12_total 24 = .ok (.iconst 1, 1) := dgq (p := 4) daX12_total_20 dbX12_total_20.2.2.1
theorem dX12_total_25 : decode cX12_total 25 = .ok (.invokevirtual 143, 3) := dgq (p := 5) daX12_total_20 dbX12_total_20.2.2.2.1
theorem dX12_total_28 : decode cX12_total 28 = .ok (.ireturn, 1) := dgq (p := 8) daX12_total_20 dbX12_total_20.2.2.2.2
set_option maxRecDepth 20000 in
theorem ggX12_grade_X12_isGear : GoodIn wsX12_grade wsX12_isGear := goodIn_ca (goodIn_ca (goodIn_q _ [5, 6, 7, 8, 9, 10, 11, 12, 13, 14, 4, 15] rfl (by decide +kernel)) (goodIn_sub (fun _ h => (List.mem_cons_of_mem _ (List.mem_append_left _ (List.mem_append_left _ (List.mem_append_left _ (List.mem_append_left _ (List.mem_append_right _ h))))))) tg_wsX120)) (goodIn_sub (fun _ h => (List.mem_cons_of_mem _ (List.mem_append_left _ (List.mem_append_left _ (List.mem_append_left _ (List.mem_append_right _ h)))))) tg_wsJx4a65c0)
set_option maxRecDepth 20000 in
theorem gX12_grade_X12_isGear : GoodIn wsX12_grade (wsV RX12 121 RX12 yX12_isGear wsX12_isGear) := goodIn_app (goodIn_q _ [1, 2, 3, 4] rfl (by decide +kernel)) ggX12_grade_X12_isGear
set_option maxRecDepth 20000 in
theorem ggX12_grade_X12_gearAt : GoodIn wsX12_grade wsX12_gearAt := goodIn_ca (goodIn_ca (goodIn_q _ [19, 6, 20, 21, 22, 23, 10, 24, 12, 25, 26, 27, 28, 29, 30, 31, 32, 33, 34, 35, 36, 37] rfl (by decide +kernel)) (goodIn_sub (fun _ h => (List.mem_cons_of_mem _ (List.mem_append_left _ (List.mem_append_left _ (List.mem_append_left _ (List.mem_append_left _ (List.mem_append_right _ h))))))) tg_wsX120)) (goodIn_sub (fun _ h => (List.mem_cons_of_mem _ (List.mem_append_left _ (List.mem_append_left _ (List.mem_append_left _ (List.mem_append_right _ h)))))) tg_wsJx4a65c0)
set_option maxRecDepth 20000 in
theorem gX12_grade_X12_gearAt : GoodIn wsX12_grade (wsV RX12 111 RX12 yX12_gearAt wsX12_gearAt) := goodIn_app (goodIn_q _ [16, 17, 18, 4] rfl (by decide +kernel)) ggX12_grade_X12_gearAt
set_option maxRecDepth 20000 in
theorem ggX12_grade_X10_grade : GoodIn wsX12_grade wsX10_grade := goodIn_ca (goodIn_ca (goodIn_ca (goodIn_q _ [42, 43, 44, 45, 46, 47, 48, 49, 50, 41, 51, 52, 53, 54, 55, 56, 57, 4, 58, 59, 60, 61, 62, 63, 64, 65, 66, 67, 68, 69, 70, 71, 72] rfl (by decide +kernel)) (goodIn_sub (fun _ h => (List.mem_cons_of_mem _ (List.mem_append_left _ (List.mem_append_left _ (List.mem_append_right _ h))))) tg_wsX100)) (goodIn_sub (fun _ h => List.mem_cons_of_mem _ (List.mem_append_left _ (List.mem_append_right _ h))) (by decide +kernel))) (goodIn_sub (fun _ h => List.mem_cons_of_mem _ (List.mem_append_right _ h)) (by decide +kernel))
set_option maxRecDepth 20000 in
theorem gX12_grade_X10_grade : GoodIn wsX12_grade (wsV RX12 409 RX10 yX10_grade wsX10_grade) := goodIn_app (goodIn_q _ [38, 39, 40, 41] rfl (by decide +kernel)) ggX12_grade_X10_grade
set_option maxRecDepth 20000 in
theorem ggX12_grade_X12_answer : GoodIn wsX12_grade wsX12_answer := goodIn_ca (goodIn_q _ [76, 77] rfl (by decide +kernel)) (goodIn_sub (fun _ h => (List.mem_cons_of_mem _ (List.mem_append_left _ (List.mem_append_left _ (List.mem_append_left _ (List.mem_append_left _ (List.mem_append_right _ h))))))) tg_wsX120)
set_option maxRecDepth 20000 in
theorem gX12_grade_X12_answer : GoodIn wsX12_grade (wsV RX12 153 RX12 yX12_answer wsX12_answer) := goodIn_app (goodIn_q _ [73, 74, 75, 4] rfl (by decide +kernel)) ggX12_grade_X12_answer
set_option maxRecDepth 20000 in
theorem ggX12_grade_X12_fails : GoodIn wsX12_grade wsX12_fails := goodIn_ca (goodIn_q _ [81, 77] rfl (by decide +kernel)) (goodIn_sub (fun _ h => (List.mem_cons_of_mem _ (List.mem_append_left _ (List.mem_append_left _ (List.mem_append_left _ (List.mem_append_left _ (List.mem_append_right _ h))))))) tg_wsX120)
set_option maxRecDepth 20000 in
theorem gX12_grade_X12_fails : GoodIn wsX12_grade (wsV RX12 143 RX12 yX12_fails wsX12_fails) := goodIn_app (goodIn_q _ [78, 79, 80, 4] rfl (by decide +kernel)) ggX12_grade_X12_fails
def dsX12_grade_0 : ByteArray := ⟨#[42, 27, 182, 0, 121, 153, 0, 18, 42, 42, 27, 182, 0, 111, 182, 1, 153, 182, 0, 153]⟩
theorem daX12_grade_0 : agB cX12_grade dsX12_grade_0 0 := agB_of (n := 20) (by decide +kernel)
theorem dbX12_grade_0 : (decode dsX12_grade_0 0 = .ok (.aload_n 0, 1) ∧ okop dsX12_grade_0 0 = true) ∧ (decode dsX12_grade_0 1 = .ok (.iload_n 1, 1) ∧ okop dsX12_grade_0 1 = true) ∧ (decode dsX12_grade_0 2 = .ok (.invokevirtual 121, 3) ∧ okop dsX12_grade_0 2 = true) ∧ (decode dsX12_grade_0 5 = .ok (.ifCond .eq 18, 3) ∧ okop dsX12_grade_0 5 = true) ∧ (decode dsX12_grade_0 8 = .ok (.aload_n 0, 1) ∧ okop dsX12_grade_0 8 = true) ∧ (decode dsX12_grade_0 9 = .ok (.aload_n 0, 1) ∧ okop dsX12_grade_0 9 = true) ∧ (decode dsX12_grade_0 10 = .ok (.iload_n 1, 1) ∧ okop dsX12_grade_0 10 = true) ∧ (decode dsX12_grade_0 11 = .ok (.invokevirtual 111, 3) ∧ okop dsX12_grade_0 11 = true) ∧ (decode dsX12_grade_0 14 = .ok (.invokevirtual 409, 3) ∧ okop dsX12_grade_0 14 = true) ∧ (decode dsX12_grade_0 17 = .ok (.invokevirtual 153, 3) ∧ okop dsX12_grade_0 17 = true) := by decide +kernel
theorem dX12_grade_0 : decode cX12_grade 0 = .ok (.aload_n 0, 1) := dgq (p := 0) daX12_grade_0 dbX12_grade_0.1
theorem dX12_grade_1 : decode cX12_grade 1 = .ok (.iload_n 1, 1) := dgq (p := 1) daX12_grade_0 dbX12_grade_0.2.1
theorem dX12_grade_2 : decode cX12_grade 2 = .ok (.invokevirtual 121, 3) := dgq (p := 2) daX12_grade_0 dbX12_grade_0.2.2.1
theorem dX12_grade_5 : decode cX12_grade 5 = .ok (.ifCond .eq 18, 3) := dgq (p := 5) daX12_grade_0 dbX12_grade_0.2.2.2.1
theorem dX12_grade_8 : decode cX12_grade 8 = .ok (.aload_n 0, 1) := dgq (p := 8) daX12_grade_0 dbX12_grade_0.2.2.2.2.1
theorem dX12_grade_9 : decode cX12_grade 9 = .ok (.aload_n 0, 1) := dgq (p := 9) daX12_grade_0 dbX12_grade_0.2.2.2.2.2.1
theorem dX12_grade_10 : decode cX12_grade 10 = .ok (.iload_n 1, 1) := dgq (p := 10) daX12_grade_0 dbX12_grade_0.2.2.2.2.2.2.1
theorem dX12_grade_11 : decode cX12_grade 11 = .ok (.invokevirtual 111, 3) := dgq (p := 11) daX12_grade_0 dbX12_grade_0.2.2.2.2.2.2.2.1
theorem dX12_grade_14 : decode cX12_grade 14 = .ok (.invokevirtual 409, 3) := dgq (p := 14) daX12_grade_0 dbX12_grade_0.2.2.2.2.2.2.2.2.1
theorem dX12_grade_17 : decode cX12_grade 17 = .ok (.invokevirtual 153, 3) := dgq (p := 17) daX12_grade_0 dbX12_grade_0.2.2.2.2.2.2.2.2.2
def dsX12_grade_20 : ByteArray := ⟨#[167, 0, 8, 42, 4, 182, 0, 143, 172]⟩
theorem daX12_grade_20 : agB cX12_grade dsX12_grade_20 20 := agB_of (n := 9) (by decide +kernel)
theorem dbX12_grade_20 : (decode dsX12_grade_20 0 = .ok (.goto 8, 3) ∧ okop dsX12_grade_20 0 = true) ∧ (decode dsX12_grade_20 3 = .ok (.aload_n 0, 1) ∧ okop dsX12_grade_20 3 = true) ∧ (decode dsX12_grade_20 4 = .ok (.iconst 1, 1) ∧ okop dsX12_grade_20 4 = true) ∧ (decode dsX12_grade_20 5 = .ok (.invokevirtual 143, 3) ∧ okop dsX12_grade_20 5 = true) ∧ (decode dsX12_grade_20 8 = .ok (.ireturn, 1) ∧ okop dsX12_grade_20 8 = true) := by decide +kernel
theorem dX12_grade_20 : decode cX12_grade 20 = .ok (.goto 8, 3) := dgq (p := 0) daX12_grade_20 dbX12_grade_20.1
theorem dX12_grade_23 : decode cX12_grade 23 = .ok (.aload_n 0, 1) := dgq (p := 3) daX12_grade_20 dbX12_grade_20.2.1
theorem dX12_grade_24 : decode cX12_grade 24 = .ok (.iconst 1, 1) := dgq (p := 4) daX12_grade_20 dbX12_grade_20.2.2.1
theorem dX12_grade_25 : decode cX12_grade 25 = .ok (.invokevirtual 143, 3) := dgq (p := 5) daX12_grade_20 dbX12_grade_20.2.2.2.1
theorem dX12_grade_28 : decode cX12_grade 28 = .ok (.ireturn, 1) := dgq (p := 8) daX12_grade_20 dbX12_grade_20.2.2.2.2
set_option maxRecDepth 20000 in
theorem ggX12_part_X12_isGear : GoodIn wsX12_part wsX12_isGear := goodIn_ca (goodIn_ca (goodIn_q _ [5, 6, 7, 8, 9, 10, 11, 12, 13, 14, 4, 15] rfl (by decide +kernel)) (goodIn_sub (fun _ h => (List.mem_cons_of_mem _ (List.mem_append_left _ (List.mem_append_left _ (List.mem_append_left _ (List.mem_append_right _ h)))))) tg_wsX120)) (goodIn_sub (fun _ h => (List.mem_cons_of_mem _ (List.mem_append_left _ (List.mem_append_left _ (List.mem_append_right _ h))))) tg_wsJx4a65c0)
set_option maxRecDepth 20000 in
theorem gX12_part_X12_isGear : GoodIn wsX12_part (wsV RX12 121 RX12 yX12_isGear wsX12_isGear) := goodIn_app (goodIn_q _ [1, 2, 3, 4] rfl (by decide +kernel)) ggX12_part_X12_isGear
set_option maxRecDepth 20000 in
theorem ggX12_part_X12_fails : GoodIn wsX12_part wsX12_fails := goodIn_ca (goodIn_q _ [19, 20] rfl (by decide +kernel)) (goodIn_sub (fun _ h => (List.mem_cons_of_mem _ (List.mem_append_left _ (List.mem_append_left _ (List.mem_append_left _ (List.mem_append_right _ h)))))) tg_wsX120)
set_option maxRecDepth 20000 in
theorem gX12_part_X12_fails : GoodIn wsX12_part (wsV RX12 143 RX12 yX12_fails wsX12_fails) := goodIn_app (goodIn_q _ [16, 17, 18, 4] rfl (by decide +kernel)) ggX12_part_X12_fails
set_option maxRecDepth 20000 in
theorem ggX12_part_X12_gearAt : GoodIn wsX12_part wsX12_gearAt := goodIn_ca (goodIn_ca (goodIn_q _ [24, 6, 25, 26, 27, 28, 10, 29, 12, 30, 31, 32, 33, 34, 35, 36, 37, 38, 39, 40, 41, 42] rfl (by decide +kernel)) (goodIn_sub (fun _ h => (List.mem_cons_of_mem _ (List.mem_append_left _ (List.mem_append_left _ (List.mem_append_left _ (List.mem_append_right _ h)))))) tg_wsX120)) (goodIn_sub (fun _ h => (List.mem_cons_of_mem _ (List.mem_append_left _ (List.mem_append_left _ (List.mem_append_right _ h))))) tg_wsJx4a65c0)
set_option maxRecDepth 20000 in
theorem gX12_part_X12_gearAt : GoodIn wsX12_part (wsV RX12 111 RX12 yX12_gearAt wsX12_gearAt) := goodIn_app (goodIn_q _ [21, 22, 23, 4] rfl (by decide +kernel)) ggX12_part_X12_gearAt
set_option maxRecDepth 20000 in
theorem ggX12_part_X10_part : GoodIn wsX12_part wsX10_part := goodIn_ca (goodIn_ca (goodIn_ca (goodIn_q _ [47, 48, 49, 50, 51, 52, 53, 54, 55, 56] rfl (by decide +kernel)) (goodIn_sub (fun _ h => (List.mem_cons_of_mem _ (List.mem_append_left _ (List.mem_append_left _ (List.mem_append_left _ (List.mem_append_left _ (List.mem_append_right _ h))))))) tg_wsX100)) (goodIn_sub (fun _ h => List.mem_cons_of_mem _ (List.mem_append_right _ h)) (by decide +kernel))) (goodIn_sub (fun _ h => List.mem_cons_of_mem _ (List.mem_append_left _ (List.mem_append_right _ h))) (by decide +kernel))
set_option maxRecDepth 20000 in
theorem gX12_part_X10_part : GoodIn wsX12_part (wsV RX12 412 RX10 yX10_part wsX10_part) := goodIn_app (goodIn_q _ [43, 44, 45, 46] rfl (by decide +kernel)) ggX12_part_X10_part
set_option maxRecDepth 20000 in
theorem ggX12_part_X12_answer : GoodIn wsX12_part wsX12_answer := goodIn_ca (goodIn_q _ [60, 20] rfl (by decide +kernel)) (goodIn_sub (fun _ h => (List.mem_cons_of_mem _ (List.mem_append_left _ (List.mem_append_left _ (List.mem_append_left _ (List.mem_append_right _ h)))))) tg_wsX120)
set_option maxRecDepth 20000 in
theorem gX12_part_X12_answer : GoodIn wsX12_part (wsV RX12 153 RX12 yX12_answer wsX12_answer) := goodIn_app (goodIn_q _ [57, 58, 59, 4] rfl (by decide +kernel)) ggX12_part_X12_answer
def dsX12_part_0 : ByteArray := ⟨#[42, 27, 182, 0, 121, 154, 0, 9, 42, 4, 182, 0, 143, 172, 28, 4]⟩
theorem daX12_part_0 : agB cX12_part dsX12_part_0 0 := agB_of (n := 16) (by decide +kernel)
theorem dbX12_part_0 : (decode dsX12_part_0 0 = .ok (.aload_n 0, 1) ∧ okop dsX12_part_0 0 = true) ∧ (decode dsX12_part_0 1 = .ok (.iload_n 1, 1) ∧ okop dsX12_part_0 1 = true) ∧ (decode dsX12_part_0 2 = .ok (.invokevirtual 121, 3) ∧ okop dsX12_part_0 2 = true) ∧ (decode dsX12_part_0 5 = .ok (.ifCond .ne 9, 3) ∧ okop dsX12_part_0 5 = true) ∧ (decode dsX12_part_0 8 = .ok (.aload_n 0, 1) ∧ okop dsX12_part_0 8 = true) ∧ (decode dsX12_part_0 9 = .ok (.iconst 1, 1) ∧ okop dsX12_part_0 9 = true) ∧ (decode dsX12_part_0 10 = .ok (.invokevirtual 143, 3) ∧ okop dsX12_part_0 10 = true) ∧ (decode dsX12_part_0 13 = .ok (.ireturn, 1) ∧ okop dsX12_part_0 13 = true) ∧ (decode dsX12_part_0 14 = .ok (.iload_n 2, 1) ∧ okop dsX12_part_0 14 = true) ∧ (decode dsX12_part_0 15 = .ok (.iconst 1, 1) ∧ okop dsX12_part_0 15 = true) := by decide +kernel
theorem dX12_part_0 : decode cX12_part 0 = .ok (.aload_n 0, 1) := dgq (p := 0) daX12_part_0 dbX12_part_0.1
theorem dX12_part_1 : decode cX12_part 1 = .ok (.iload_n 1, 1) := dgq (p := 1) daX12_part_0 dbX12_part_0.2.1
theorem dX12_part_2 : decode cX12_part 2 = .ok (.invokevirtual 121, 3) := dgq (p := 2) daX12_part_0 dbX12_part_0.2.2.1
theorem dX12_part_5 : decode cX12_part 5 = .ok (.ifCond .ne 9, 3) := dgq (p := 5) daX12_part_0 dbX12_part_0.2.2.2.1
theorem dX12_part_8 : decode cX12_part 8 = .ok (.aload_n 0, 1) := dgq (p := 8) daX12_part_0 dbX12_part_0.2.2.2.2.1
theorem dX12_part_9 : decode cX12_part 9 = .ok (.iconst 1, 1) := dgq (p := 9) daX12_part_0 dbX12_part_0.2.2.2.2.2.1
theorem dX12_part_10 : decode cX12_part 10 = .ok (.invokevirtual 143, 3) := dgq (p := 10) daX12_part_0 dbX12_part_0.2.2.2.2.2.2.1
theorem dX12_part_13 : decode cX12_part 13 = .ok (.ireturn, 1) := dgq (p := 13) daX12_part_0 dbX12_part_0.2.2.2.2.2.2.2.1
theorem dX12_part_14 : decode cX12_part 14 = .ok (.iload_n 2, 1) := dgq (p := 14) daX12_part_0 dbX12_part_0.2.2.2.2.2.2.2.2.1
theorem dX12_part_15 : decode cX12_part 15 = .ok (.iconst 1, 1) := dgq (p := 15) daX12_part_0 dbX12_part_0.2.2.2.2.2.2.2.2.2
def dsX12_part_16 : ByteArray := ⟨#[161, 0, 16, 42, 27, 182, 0, 111, 180, 1, 76, 28, 112, 153, 0, 9, 42, 5]⟩
theorem daX12_part_16 : agB cX12_part dsX12_part_16 16 := agB_of (n := 18) (by decide +kernel)
theorem dbX12_part_16 : (decode dsX12_part_16 0 = .ok (.if_icmp .lt 16, 3) ∧ okop dsX12_part_16 0 = true) ∧ (decode dsX12_part_16 3 = .ok (.aload_n 0, 1) ∧ okop dsX12_part_16 3 = true) ∧ (decode dsX12_part_16 4 = .ok (.iload_n 1, 1) ∧ okop dsX12_part_16 4 = true) ∧ (decode dsX12_part_16 5 = .ok (.invokevirtual 111, 3) ∧ okop dsX12_part_16 5 = true) ∧ (decode dsX12_part_16 8 = .ok (.getfield 332, 3) ∧ okop dsX12_part_16 8 = true) ∧ (decode dsX12_part_16 11 = .ok (.iload_n 2, 1) ∧ okop dsX12_part_16 11 = true) ∧ (decode dsX12_part_16 12 = .ok (.irem, 1) ∧ okop dsX12_part_16 12 = true) ∧ (decode dsX12_part_16 13 = .ok (.ifCond .eq 9, 3) ∧ okop dsX12_part_16 13 = true) ∧ (decode dsX12_part_16 16 = .ok (.aload_n 0, 1) ∧ okop dsX12_part_16 16 = true) ∧ (decode dsX12_part_16 17 = .ok (.iconst 2, 1) ∧ okop dsX12_part_16 17 = true) := by decide +kernel
theorem dX12_part_16 : decode cX12_part 16 = .ok (.if_icmp .lt 16, 3) := dgq (p := 0) daX12_part_16 dbX12_part_16.1
theorem dX12_part_19 : decode cX12_part 19 = .ok (.aload_n 0, 1) := dgq (p := 3) daX12_part_16 dbX12_part_16.2.1
theorem dX12_part_20 : decode cX12_part 20 = .ok (.iload_n 1, 1) := dgq (p := 4) daX12_part_16 dbX12_part_16.2.2.1
theorem dX12_part_21 : decode cX12_part 21 = .ok (.invokevirtual 111, 3) := dgq (p := 5) daX12_part_16 dbX12_part_16.2.2.2.1
theorem dX12_part_24 : decode cX12_part 24 = .ok (.getfield 332, 3) := dgq (p := 8) daX12_part_16 dbX12_part_16.2.2.2.2.1
theorem dX12_part_27 : decode cX12_part 27 = .ok (.iload_n 2, 1) := dgq (p := 11) daX12_part_16 dbX12_part_16.2.2.2.2.2.1
theorem dX12_part_28 : decode cX12_part 28 = .ok (.irem, 1) := dgq (p := 12) daX12_part_16 dbX12_part_16.2.2.2.2.2.2.1
theorem dX12_part_29 : decode cX12_part 29 = .ok (.ifCond .eq 9, 3) := dgq (p := 13) daX12_part_16 dbX12_part_16.2.2.2.2.2.2.2.1
theorem dX12_part_32 : decode cX12_part 32 = .ok (.aload_n 0, 1) := dgq (p := 16) daX12_part_16 dbX12_part_16.2.2.2.2.2.2.2.2.1
theorem dX12_part_33 : decode cX12_part 33 = .ok (.iconst 2, 1) := dgq (p := 17) daX12_part_16 dbX12_part_16.2.2.2.2.2.2.2.2.2
def dsX12_part_34 : ByteArray := ⟨#[182, 0, 143, 172, 42, 42, 27, 182, 0, 111, 28, 182, 1, 156, 182, 0, 153, 172]⟩
theorem daX12_part_34 : agB cX12_part dsX12_part_34 34 := agB_of (n := 18) (by decide +kernel)
theorem dbX12_part_34 : (decode dsX12_part_34 0 = .ok (.invokevirtual 143, 3) ∧ okop dsX12_part_34 0 = true) ∧ (decode dsX12_part_34 3 = .ok (.ireturn, 1) ∧ okop dsX12_part_34 3 = true) ∧ (decode dsX12_part_34 4 = .ok (.aload_n 0, 1) ∧ okop dsX12_part_34 4 = true) ∧ (decode dsX12_part_34 5 = .ok (.aload_n 0, 1) ∧ okop dsX12_part_34 5 = true) ∧ (decode dsX12_part_34 6 = .ok (.iload_n 1, 1) ∧ okop dsX12_part_34 6 = true) ∧ (decode dsX12_part_34 7 = .ok (.invokevirtual 111, 3) ∧ okop dsX12_part_34 7 = true) ∧ (decode dsX12_part_34 10 = .ok (.iload_n 2, 1) ∧ okop dsX12_part_34 10 = true) ∧ (decode dsX12_part_34 11 = .ok (.invokevirtual 412, 3) ∧ okop dsX12_part_34 11 = true) ∧ (decode dsX12_part_34 14 = .ok (.invokevirtual 153, 3) ∧ okop dsX12_part_34 14 = true) ∧ (decode dsX12_part_34 17 = .ok (.ireturn, 1) ∧ okop dsX12_part_34 17 = true) := by decide +kernel
theorem dX12_part_34 : decode cX12_part 34 = .ok (.invokevirtual 143, 3) := dgq (p := 0) daX12_part_34 dbX12_part_34.1
theorem dX12_part_37 : decode cX12_part 37 = .ok (.ireturn, 1) := dgq (p := 3) daX12_part_34 dbX12_part_34.2.1
theorem dX12_part_38 : decode cX12_part 38 = .ok (.aload_n 0, 1) := dgq (p := 4) daX12_part_34 dbX12_part_34.2.2.1
theorem dX12_part_39 : decode cX12_part 39 = .ok (.aload_n 0, 1) := dgq (p := 5) daX12_part_34 dbX12_part_34.2.2.2.1
theorem dX12_part_40 : decode cX12_part 40 = .ok (.iload_n 1, 1) := dgq (p := 6) daX12_part_34 dbX12_part_34.2.2.2.2.1
theorem dX12_part_41 : decode cX12_part 41 = .ok (.invokevirtual 111, 3) := dgq (p := 7) daX12_part_34 dbX12_part_34.2.2.2.2.2.1
theorem dX12_part_44 : decode cX12_part 44 = .ok (.iload_n 2, 1) := dgq (p := 10) daX12_part_34 dbX12_part_34.2.2.2.2.2.2.1
theorem dX12_part_45 : decode cX12_part 45 = .ok (.invokevirtual 412, 3) := dgq (p := 11) daX12_part_34 dbX12_part_34.2.2.2.2.2.2.2.1
theorem dX12_part_48 : decode cX12_part 48 = .ok (.invokevirtual 153, 3) := dgq (p := 14) daX12_part_34 dbX12_part_34.2.2.2.2.2.2.2.2.1
theorem dX12_part_51 : decode cX12_part 51 = .ok (.ireturn, 1) := dgq (p := 17) daX12_part_34 dbX12_part_34.2.2.2.2.2.2.2.2.2
set_option maxRecDepth 20000 in
theorem ggX12_cause_X12_isGear : GoodIn wsX12_cause wsX12_isGear := goodIn_ca (goodIn_ca (goodIn_q _ [11, 12, 13, 14, 15, 16, 17, 18, 19, 20, 10, 21] rfl (by decide +kernel)) (goodIn_sub (fun _ h => (List.mem_cons_of_mem _ (List.mem_append_left _ (List.mem_append_left _ (List.mem_append_left _ (List.mem_append_left _ (List.mem_append_right _ h))))))) tg_wsX120)) (goodIn_sub (fun _ h => (List.mem_cons_of_mem _ (List.mem_append_left _ (List.mem_append_left _ (List.mem_append_right _ h))))) tg_wsJx4a65c0)
set_option maxRecDepth 20000 in
theorem gX12_cause_X12_isGear : GoodIn wsX12_cause (wsV RX12 121 RX12 yX12_isGear wsX12_isGear) := goodIn_app (goodIn_q _ [7, 8, 9, 10] rfl (by decide +kernel)) ggX12_cause_X12_isGear
set_option maxRecDepth 20000 in
theorem ggX12_cause_X12_gearAt : GoodIn wsX12_cause wsX12_gearAt := goodIn_ca (goodIn_ca (goodIn_q _ [25, 12, 26, 27, 28, 29, 16, 30, 18, 31, 32, 33, 34, 35, 36, 37, 38, 39, 40, 41, 42, 43] rfl (by decide +kernel)) (goodIn_sub (fun _ h => (List.mem_cons_of_mem _ (List.mem_append_left _ (List.mem_append_left _ (List.mem_append_left _ (List.mem_append_left _ (List.mem_append_right _ h))))))) tg_wsX120)) (goodIn_sub (fun _ h => (List.mem_cons_of_mem _ (List.mem_append_left _ (List.mem_append_left _ (List.mem_append_right _ h))))) tg_wsJx4a65c0)
set_option maxRecDepth 20000 in
theorem gX12_cause_X12_gearAt : GoodIn wsX12_cause (wsV RX12 111 RX12 yX12_gearAt wsX12_gearAt) := goodIn_app (goodIn_q _ [22, 23, 24, 10] rfl (by decide +kernel)) ggX12_cause_X12_gearAt
set_option maxRecDepth 20000 in
theorem ggX12_cause_X12_divisor : GoodIn wsX12_cause wsX12_divisor := goodIn_ca (goodIn_q _ [46, 44, 45, 10] rfl (by decide +kernel)) (goodIn_sub (fun _ h => List.mem_cons_of_mem _ (List.mem_append_left _ (List.mem_append_right _ h))) (by decide +kernel))
set_option maxRecDepth 20000 in
theorem gX12_cause_X12_divisor : GoodIn wsX12_cause (va_wsS RX12 5 yX12_divisor wsX12_divisor) := goodIn_app (goodIn_q _ [44, 45, 10] rfl (by decide +kernel)) ggX12_cause_X12_divisor
set_option maxRecDepth 20000 in
theorem ggX12_cause_X10_part : GoodIn wsX12_cause wsX10_part := goodIn_ca (goodIn_ca (goodIn_ca (goodIn_q _ [51, 52, 53, 54, 4, 5, 6, 55, 56, 57] rfl (by decide +kernel)) (goodIn_sub (fun _ h => (List.mem_cons_of_mem _ (List.mem_append_left _ (List.mem_append_left _ (List.mem_append_left _ (List.mem_append_right _ h)))))) tg_wsX100)) (goodIn_sub (fun _ h => List.mem_cons_of_mem _ (List.mem_append_right _ h)) (by decide +kernel))) (goodIn_sub (fun _ h => List.mem_cons_of_mem _ (List.mem_append_left _ (List.mem_append_right _ h))) (by decide +kernel))
set_option maxRecDepth 20000 in
theorem gX12_cause_X10_part : GoodIn wsX12_cause (wsV RX12 412 RX10 yX10_part wsX10_part) := goodIn_app (goodIn_q _ [47, 48, 49, 50] rfl (by decide +kernel)) ggX12_cause_X10_part
set_option maxRecDepth 20000 in
theorem ggX12_cause_X10_partOrNone : GoodIn wsX12_cause wsX10_partOrNone := goodIn_ca (goodIn_ca (goodIn_ca (goodIn_q _ [61, 52, 62, 48, 49, 50, 51, 53, 54, 4, 5, 6, 55, 56, 57] rfl (by decide +kernel)) (goodIn_sub (fun _ h => (List.mem_cons_of_mem _ (List.mem_append_left _ (List.mem_append_left _ (List.mem_append_left _ (List.mem_append_right _ h)))))) tg_wsX100)) (goodIn_sub (fun _ h => List.mem_cons_of_mem _ (List.mem_append_left _ (List.mem_append_right _ h))) (by decide +kernel))) (goodIn_sub (fun _ h => List.mem_cons_of_mem _ (List.mem_append_right _ h)) (by decide +kernel))
set_option maxRecDepth 20000 in
theorem gX12_cause_X10_partOrNone : GoodIn wsX12_cause (wsV RX12 415 RX10 yX10_partOrNone wsX10_partOrNone) := goodIn_app (goodIn_q _ [58, 59, 60, 50] rfl (by decide +kernel)) ggX12_cause_X10_partOrNone
set_option maxRecDepth 20000 in
theorem ggX12_cause_X10_total : GoodIn wsX12_cause wsX10_total := goodIn_ca (goodIn_ca (goodIn_ca (goodIn_q _ [66, 52, 54, 4, 5, 6, 55, 56, 57, 53, 67, 68, 69, 50, 70] rfl (by decide +kernel)) (goodIn_sub (fun _ h => (List.mem_cons_of_mem _ (List.mem_append_left _ (List.mem_append_left _ (List.mem_append_left _ (List.mem_append_right _ h)))))) tg_wsX100)) (goodIn_sub (fun _ h => List.mem_cons_of_mem _ (List.mem_append_right _ h)) (by decide +kernel))) (goodIn_sub (fun _ h => List.mem_cons_of_mem _ (List.mem_append_left _ (List.mem_append_right _ h))) (by decide +kernel))
set_option maxRecDepth 20000 in
theorem gX12_cause_X10_total : GoodIn wsX12_cause (wsV RX12 406 RX10 yX10_total wsX10_total) := goodIn_app (goodIn_q _ [63, 64, 65, 50] rfl (by decide +kernel)) ggX12_cause_X10_total
def dsX12_cause_0 : ByteArray := ⟨#[42, 42, 27, 182, 0, 121, 153, 0, 7, 3, 167, 0, 4, 4, 181, 0, 94, 42]⟩
theorem daX12_cause_0 : agB cX12_cause dsX12_cause_0 0 := agB_of (n := 18) (by decide +kernel)
theorem dbX12_cause_0 : (decode dsX12_cause_0 0 = .ok (.aload_n 0, 1) ∧ okop dsX12_cause_0 0 = true) ∧ (decode dsX12_cause_0 1 = .ok (.aload_n 0, 1) ∧ okop dsX12_cause_0 1 = true) ∧ (decode dsX12_cause_0 2 = .ok (.iload_n 1, 1) ∧ okop dsX12_cause_0 2 = true) ∧ (decode dsX12_cause_0 3 = .ok (.invokevirtual 121, 3) ∧ okop dsX12_cause_0 3 = true) ∧ (decode dsX12_cause_0 6 = .ok (.ifCond .eq 7, 3) ∧ okop dsX12_cause_0 6 = true) ∧ (decode dsX12_cause_0 9 = .ok (.iconst 0, 1) ∧ okop dsX12_cause_0 9 = true) ∧ (decode dsX12_cause_0 10 = .ok (.goto 4, 3) ∧ okop dsX12_cause_0 10 = true) ∧ (decode dsX12_cause_0 13 = .ok (.iconst 1, 1) ∧ okop dsX12_cause_0 13 = true) ∧ (decode dsX12_cause_0 14 = .ok (.putfield 94, 3) ∧ okop dsX12_cause_0 14 = true) ∧ (decode dsX12_cause_0 17 = .ok (.aload_n 0, 1) ∧ okop dsX12_cause_0 17 = true) := by decide +kernel
theorem dX12_cause_0 : decode cX12_cause 0 = .ok (.aload_n 0, 1) := dgq (p := 0) daX12_cause_0 dbX12_cause_0.1
theorem dX12_cause_1 : decode cX12_cause 1 = .ok (.aload_n 0, 1) := dgq (p := 1) daX12_cause_0 dbX12_cause_0.2.1
theorem dX12_cause_2 : decode cX12_cause 2 = .ok (.iload_n 1, 1) := dgq (p := 2) daX12_cause_0 dbX12_cause_0.2.2.1
theorem dX12_cause_3 : decode cX12_cause 3 = .ok (.invokevirtual 121, 3) := dgq (p := 3) daX12_cause_0 dbX12_cause_0.2.2.2.1
theorem dX12_cause_6 : decode cX12_cause 6 = .ok (.ifCond .eq 7, 3) := dgq (p := 6) daX12_cause_0 dbX12_cause_0.2.2.2.2.1
theorem dX12_cause_9 : decode cX12_cause 9 = .ok (.iconst 0, 1) := dgq (p := 9) daX12_cause_0 dbX12_cause_0.2.2.2.2.2.1
theorem dX12_cause_10 : decode cX12_cause 10 = .ok (.goto 4, 3) := dgq (p := 10) daX12_cause_0 dbX12_cause_0.2.2.2.2.2.2.1
theorem dX12_cause_13 : decode cX12_cause 13 = .ok (.iconst 1, 1) := dgq (p := 13) daX12_cause_0 dbX12_cause_0.2.2.2.2.2.2.2.1
theorem dX12_cause_14 : decode cX12_cause 14 = .ok (.putfield 94, 3) := dgq (p := 14) daX12_cause_0 dbX12_cause_0.2.2.2.2.2.2.2.2.1
theorem dX12_cause_17 : decode cX12_cause 17 = .ok (.aload_n 0, 1) := dgq (p := 17) daX12_cause_0 dbX12_cause_0.2.2.2.2.2.2.2.2.2
def dsX12_cause_18 : ByteArray := ⟨#[180, 0, 94, 158, 0, 5, 3, 172, 42, 27, 182, 0, 111, 77, 44, 44]⟩
theorem daX12_cause_18 : agB cX12_cause dsX12_cause_18 18 := agB_of (n := 16) (by decide +kernel)
theorem dbX12_cause_18 : (decode dsX12_cause_18 0 = .ok (.getfield 94, 3) ∧ okop dsX12_cause_18 0 = true) ∧ (decode dsX12_cause_18 3 = .ok (.ifCond .le 5, 3) ∧ okop dsX12_cause_18 3 = true) ∧ (decode dsX12_cause_18 6 = .ok (.iconst 0, 1) ∧ okop dsX12_cause_18 6 = true) ∧ (decode dsX12_cause_18 7 = .ok (.ireturn, 1) ∧ okop dsX12_cause_18 7 = true) ∧ (decode dsX12_cause_18 8 = .ok (.aload_n 0, 1) ∧ okop dsX12_cause_18 8 = true) ∧ (decode dsX12_cause_18 9 = .ok (.iload_n 1, 1) ∧ okop dsX12_cause_18 9 = true) ∧ (decode dsX12_cause_18 10 = .ok (.invokevirtual 111, 3) ∧ okop dsX12_cause_18 10 = true) ∧ (decode dsX12_cause_18 13 = .ok (.astore_n 2, 1) ∧ okop dsX12_cause_18 13 = true) ∧ (decode dsX12_cause_18 14 = .ok (.aload_n 2, 1) ∧ okop dsX12_cause_18 14 = true) ∧ (decode dsX12_cause_18 15 = .ok (.aload_n 2, 1) ∧ okop dsX12_cause_18 15 = true) := by decide +kernel
theorem dX12_cause_18 : decode cX12_cause 18 = .ok (.getfield 94, 3) := dgq (p := 0) daX12_cause_18 dbX12_cause_18.1
theorem dX12_cause_21 : decode cX12_cause 21 = .ok (.ifCond .le 5, 3) := dgq (p := 3) daX12_cause_18 dbX12_cause_18.2.1
theorem dX12_cause_24 : decode cX12_cause 24 = .ok (.iconst 0, 1) := dgq (p := 6) daX12_cause_18 dbX12_cause_18.2.2.1
theorem dX12_cause_25 : decode cX12_cause 25 = .ok (.ireturn, 1) := dgq (p := 7) daX12_cause_18 dbX12_cause_18.2.2.2.1
theorem dX12_cause_26 : decode cX12_cause 26 = .ok (.aload_n 0, 1) := dgq (p := 8) daX12_cause_18 dbX12_cause_18.2.2.2.2.1
theorem dX12_cause_27 : decode cX12_cause 27 = .ok (.iload_n 1, 1) := dgq (p := 9) daX12_cause_18 dbX12_cause_18.2.2.2.2.2.1
theorem dX12_cause_28 : decode cX12_cause 28 = .ok (.invokevirtual 111, 3) := dgq (p := 10) daX12_cause_18 dbX12_cause_18.2.2.2.2.2.2.1
theorem dX12_cause_31 : decode cX12_cause 31 = .ok (.astore_n 2, 1) := dgq (p := 13) daX12_cause_18 dbX12_cause_18.2.2.2.2.2.2.2.1
theorem dX12_cause_32 : decode cX12_cause 32 = .ok (.aload_n 2, 1) := dgq (p := 14) daX12_cause_18 dbX12_cause_18.2.2.2.2.2.2.2.2.1
theorem dX12_cause_33 : decode cX12_cause 33 = .ok (.aload_n 2, 1) := dgq (p := 15) daX12_cause_18 dbX12_cause_18.2.2.2.2.2.2.2.2.2
def dsX12_cause_34 : ByteArray := ⟨#[180, 1, 76, 42, 180, 0, 76, 184, 0, 5, 182, 1, 156, 62, 44, 44, 180, 1, 109, 182, 1, 159]⟩
theorem daX12_cause_34 : agB cX12_cause dsX12_cause_34 34 := agB_of (n := 22) (by decide +kernel)
theorem dbX12_cause_34 : (decode dsX12_cause_34 0 = .ok (.getfield 332, 3) ∧ okop dsX12_cause_34 0 = true) ∧ (decode dsX12_cause_34 3 = .ok (.aload_n 0, 1) ∧ okop dsX12_cause_34 3 = true) ∧ (decode dsX12_cause_34 4 = .ok (.getfield 76, 3) ∧ okop dsX12_cause_34 4 = true) ∧ (decode dsX12_cause_34 7 = .ok (.invokestatic 5, 3) ∧ okop dsX12_cause_34 7 = true) ∧ (decode dsX12_cause_34 10 = .ok (.invokevirtual 412, 3) ∧ okop dsX12_cause_34 10 = true) ∧ (decode dsX12_cause_34 13 = .ok (.istore_n 3, 1) ∧ okop dsX12_cause_34 13 = true) ∧ (decode dsX12_cause_34 14 = .ok (.aload_n 2, 1) ∧ okop dsX12_cause_34 14 = true) ∧ (decode dsX12_cause_34 15 = .ok (.aload_n 2, 1) ∧ okop dsX12_cause_34 15 = true) ∧ (decode dsX12_cause_34 16 = .ok (.getfield 365, 3) ∧ okop dsX12_cause_34 16 = true) ∧ (decode dsX12_cause_34 19 = .ok (.invokevirtual 415, 3) ∧ okop dsX12_cause_34 19 = true) := by decide +kernel
theorem dX12_cause_34 : decode cX12_cause 34 = .ok (.getfield 332, 3) := dgq (p := 0) daX12_cause_34 dbX12_cause_34.1
theorem dX12_cause_37 : decode cX12_cause 37 = .ok (.aload_n 0, 1) := dgq (p := 3) daX12_cause_34 dbX12_cause_34.2.1
theorem dX12_cause_38 : decode cX12_cause 38 = .ok (.getfield 76, 3) := dgq (p := 4) daX12_cause_34 dbX12_cause_34.2.2.1
theorem dX12_cause_41 : decode cX12_cause 41 = .ok (.invokestatic 5, 3) := dgq (p := 7) daX12_cause_34 dbX12_cause_34.2.2.2.1
theorem dX12_cause_44 : decode cX12_cause 44 = .ok (.invokevirtual 412, 3) := dgq (p := 10) daX12_cause_34 dbX12_cause_34.2.2.2.2.1
theorem dX12_cause_47 : decode cX12_cause 47 = .ok (.istore_n 3, 1) := dgq (p := 13) daX12_cause_34 dbX12_cause_34.2.2.2.2.2.1
theorem dX12_cause_48 : decode cX12_cause 48 = .ok (.aload_n 2, 1) := dgq (p := 14) daX12_cause_34 dbX12_cause_34.2.2.2.2.2.2.1
theorem dX12_cause_49 : decode cX12_cause 49 = .ok (.aload_n 2, 1) := dgq (p := 15) daX12_cause_34 dbX12_cause_34.2.2.2.2.2.2.2.1
theorem dX12_cause_50 : decode cX12_cause 50 = .ok (.getfield 365, 3) := dgq (p := 16) daX12_cause_34 dbX12_cause_34.2.2.2.2.2.2.2.2.1
theorem dX12_cause_53 : decode cX12_cause 53 = .ok (.invokevirtual 415, 3) := dgq (p := 19) daX12_cause_34 dbX12_cause_34.2.2.2.2.2.2.2.2.2
def dsX12_cause_56 : ByteArray := ⟨#[54, 4, 44, 182, 1, 150, 54, 5, 29, 21, 4, 21, 5, 184, 1, 162, 184, 1, 162, 54, 6]⟩
theorem daX12_cause_56 : agB cX12_cause dsX12_cause_56 56 := agB_of (n := 21) (by decide +kernel)
theorem dbX12_cause_56 : (decode dsX12_cause_56 0 = .ok (.istore 4, 2) ∧ okop dsX12_cause_56 0 = true) ∧ (decode dsX12_cause_56 2 = .ok (.aload_n 2, 1) ∧ okop dsX12_cause_56 2 = true) ∧ (decode dsX12_cause_56 3 = .ok (.invokevirtual 406, 3) ∧ okop dsX12_cause_56 3 = true) ∧ (decode dsX12_cause_56 6 = .ok (.istore 5, 2) ∧ okop dsX12_cause_56 6 = true) ∧ (decode dsX12_cause_56 8 = .ok (.iload_n 3, 1) ∧ okop dsX12_cause_56 8 = true) ∧ (decode dsX12_cause_56 9 = .ok (.iload 4, 2) ∧ okop dsX12_cause_56 9 = true) ∧ (decode dsX12_cause_56 11 = .ok (.iload 5, 2) ∧ okop dsX12_cause_56 11 = true) ∧ (decode dsX12_cause_56 13 = .ok (.invokestatic 418, 3) ∧ okop dsX12_cause_56 13 = true) ∧ (decode dsX12_cause_56 16 = .ok (.invokestatic 418, 3) ∧ okop dsX12_cause_56 16 = true) ∧ (decode dsX12_cause_56 19 = .ok (.istore 6, 2) ∧ okop dsX12_cause_56 19 = true) := by decide +kernel
theorem dX12_cause_56 : decode cX12_cause 56 = .ok (.istore 4, 2) := dgq (p := 0) daX12_cause_56 dbX12_cause_56.1
theorem dX12_cause_58 : decode cX12_cause 58 = .ok (.aload_n 2, 1) := dgq (p := 2) daX12_cause_56 dbX12_cause_56.2.1
theorem dX12_cause_59 : decode cX12_cause 59 = .ok (.invokevirtual 406, 3) := dgq (p := 3) daX12_cause_56 dbX12_cause_56.2.2.1
theorem dX12_cause_62 : decode cX12_cause 62 = .ok (.istore 5, 2) := dgq (p := 6) daX12_cause_56 dbX12_cause_56.2.2.2.1
theorem dX12_cause_64 : decode cX12_cause 64 = .ok (.iload_n 3, 1) := dgq (p := 8) daX12_cause_56 dbX12_cause_56.2.2.2.2.1
theorem dX12_cause_65 : decode cX12_cause 65 = .ok (.iload 4, 2) := dgq (p := 9) daX12_cause_56 dbX12_cause_56.2.2.2.2.2.1
theorem dX12_cause_67 : decode cX12_cause 67 = .ok (.iload 5, 2) := dgq (p := 11) daX12_cause_56 dbX12_cause_56.2.2.2.2.2.2.1
theorem dX12_cause_69 : decode cX12_cause 69 = .ok (.invokestatic 418, 3) := dgq (p := 13) daX12_cause_56 dbX12_cause_56.2.2.2.2.2.2.2.1
theorem dX12_cause_72 : decode cX12_cause 72 = .ok (.invokestatic 418, 3) := dgq (p := 16) daX12_cause_56 dbX12_cause_56.2.2.2.2.2.2.2.2.1
theorem dX12_cause_75 : decode cX12_cause 75 = .ok (.istore 6, 2) := dgq (p := 19) daX12_cause_56 dbX12_cause_56.2.2.2.2.2.2.2.2.2
def dsX12_cause_77 : ByteArray := ⟨#[21, 6, 154, 0, 8, 16, 110, 167, 0, 28, 29, 21, 6, 160, 0, 8, 16, 109, 167, 0, 17, 21, 4]⟩
theorem daX12_cause_77 : agB cX12_cause dsX12_cause_77 77 := agB_of (n := 23) (by decide +kernel)
theorem dbX12_cause_77 : (decode dsX12_cause_77 0 = .ok (.iload 6, 2) ∧ okop dsX12_cause_77 0 = true) ∧ (decode dsX12_cause_77 2 = .ok (.ifCond .ne 8, 3) ∧ okop dsX12_cause_77 2 = true) ∧ (decode dsX12_cause_77 5 = .ok (.bipush 110, 2) ∧ okop dsX12_cause_77 5 = true) ∧ (decode dsX12_cause_77 7 = .ok (.goto 28, 3) ∧ okop dsX12_cause_77 7 = true) ∧ (decode dsX12_cause_77 10 = .ok (.iload_n 3, 1) ∧ okop dsX12_cause_77 10 = true) ∧ (decode dsX12_cause_77 11 = .ok (.iload 6, 2) ∧ okop dsX12_cause_77 11 = true) ∧ (decode dsX12_cause_77 13 = .ok (.if_icmp .ne 8, 3) ∧ okop dsX12_cause_77 13 = true) ∧ (decode dsX12_cause_77 16 = .ok (.bipush 109, 2) ∧ okop dsX12_cause_77 16 = true) ∧ (decode dsX12_cause_77 18 = .ok (.goto 17, 3) ∧ okop dsX12_cause_77 18 = true) ∧ (decode dsX12_cause_77 21 = .ok (.iload 4, 2) ∧ okop dsX12_cause_77 21 = true) := by decide +kernel
theorem dX12_cause_77 : decode cX12_cause 77 = .ok (.iload 6, 2) := dgq (p := 0) daX12_cause_77 dbX12_cause_77.1
theorem dX12_cause_79 : decode cX12_cause 79 = .ok (.ifCond .ne 8, 3) := dgq (p := 2) daX12_cause_77 dbX12_cause_77.2.1
theorem dX12_cause_82 : decode cX12_cause 82 = .ok (.bipush 110, 2) := dgq (p := 5) daX12_cause_77 dbX12_cause_77.2.2.1
theorem dX12_cause_84 : decode cX12_cause 84 = .ok (.goto 28, 3) := dgq (p := 7) daX12_cause_77 dbX12_cause_77.2.2.2.1
theorem dX12_cause_87 : decode cX12_cause 87 = .ok (.iload_n 3, 1) := dgq (p := 10) daX12_cause_77 dbX12_cause_77.2.2.2.2.1
theorem dX12_cause_88 : decode cX12_cause 88 = .ok (.iload 6, 2) := dgq (p := 11) daX12_cause_77 dbX12_cause_77.2.2.2.2.2.1
theorem dX12_cause_90 : decode cX12_cause 90 = .ok (.if_icmp .ne 8, 3) := dgq (p := 13) daX12_cause_77 dbX12_cause_77.2.2.2.2.2.2.1
theorem dX12_cause_93 : decode cX12_cause 93 = .ok (.bipush 109, 2) := dgq (p := 16) daX12_cause_77 dbX12_cause_77.2.2.2.2.2.2.2.1
theorem dX12_cause_95 : decode cX12_cause 95 = .ok (.goto 17, 3) := dgq (p := 18) daX12_cause_77 dbX12_cause_77.2.2.2.2.2.2.2.2.1
theorem dX12_cause_98 : decode cX12_cause 98 = .ok (.iload 4, 2) := dgq (p := 21) daX12_cause_77 dbX12_cause_77.2.2.2.2.2.2.2.2.2
def dsX12_cause_100 : ByteArray := ⟨#[21, 6, 160, 0, 8, 16, 116, 167, 0, 5, 16, 115, 172]⟩
theorem daX12_cause_100 : agB cX12_cause dsX12_cause_100 100 := agB_of (n := 13) (by decide +kernel)
theorem dbX12_cause_100 : (decode dsX12_cause_100 0 = .ok (.iload 6, 2) ∧ okop dsX12_cause_100 0 = true) ∧ (decode dsX12_cause_100 2 = .ok (.if_icmp .ne 8, 3) ∧ okop dsX12_cause_100 2 = true) ∧ (decode dsX12_cause_100 5 = .ok (.bipush 116, 2) ∧ okop dsX12_cause_100 5 = true) ∧ (decode dsX12_cause_100 7 = .ok (.goto 5, 3) ∧ okop dsX12_cause_100 7 = true) ∧ (decode dsX12_cause_100 10 = .ok (.bipush 115, 2) ∧ okop dsX12_cause_100 10 = true) ∧ (decode dsX12_cause_100 12 = .ok (.ireturn, 1) ∧ okop dsX12_cause_100 12 = true) := by decide +kernel
theorem dX12_cause_100 : decode cX12_cause 100 = .ok (.iload 6, 2) := dgq (p := 0) daX12_cause_100 dbX12_cause_100.1
theorem dX12_cause_102 : decode cX12_cause 102 = .ok (.if_icmp .ne 8, 3) := dgq (p := 2) daX12_cause_100 dbX12_cause_100.2.1
theorem dX12_cause_105 : decode cX12_cause 105 = .ok (.bipush 116, 2) := dgq (p := 5) daX12_cause_100 dbX12_cause_100.2.2.1
theorem dX12_cause_107 : decode cX12_cause 107 = .ok (.goto 5, 3) := dgq (p := 7) daX12_cause_100 dbX12_cause_100.2.2.2.1
theorem dX12_cause_110 : decode cX12_cause 110 = .ok (.bipush 115, 2) := dgq (p := 10) daX12_cause_100 dbX12_cause_100.2.2.2.2.1
theorem dX12_cause_112 : decode cX12_cause 112 = .ok (.ireturn, 1) := dgq (p := 12) daX12_cause_100 dbX12_cause_100.2.2.2.2.2
set_option maxRecDepth 20000 in
theorem ggX12_laysPlaces_X12_divisor : GoodIn wsX12_laysPlaces wsX12_divisor := goodIn_ca (goodIn_q _ [8, 5, 6, 7] rfl (by decide +kernel)) (goodIn_sub (fun _ h => List.mem_cons_of_mem _ (List.mem_append_left _ (List.mem_append_right _ h))) (by decide +kernel))
set_option maxRecDepth 20000 in
theorem gX12_laysPlaces_X12_divisor : GoodIn wsX12_laysPlaces (va_wsS RX12 5 yX12_divisor wsX12_divisor) := goodIn_app (goodIn_q _ [5, 6, 7] rfl (by decide +kernel)) ggX12_laysPlaces_X12_divisor
set_option maxRecDepth 20000 in
theorem ggX12_laysPlaces_X10_places : GoodIn wsX12_laysPlaces wsX10_places := goodIn_ca (goodIn_ca (goodIn_ca (goodIn_q _ [13, 14, 15, 16, 17, 18, 19, 20, 21, 22, 23, 24, 25, 12, 26] rfl (by decide +kernel)) (goodIn_sub (fun _ h => (List.mem_cons_of_mem _ (List.mem_append_left _ (List.mem_append_left _ (List.mem_append_left _ (List.mem_append_right _ h)))))) tg_wsX100)) (goodIn_sub (fun _ h => List.mem_cons_of_mem _ (List.mem_append_left _ (List.mem_append_right _ h))) (by decide +kernel))) (goodIn_sub (fun _ h => List.mem_cons_of_mem _ (List.mem_append_right _ h)) (by decide +kernel))
set_option maxRecDepth 20000 in
theorem gX12_laysPlaces_X10_places : GoodIn wsX12_laysPlaces (wsV RX12 420 RX10 yX10_places wsX10_places) := goodIn_app (goodIn_q _ [9, 10, 11, 12] rfl (by decide +kernel)) ggX12_laysPlaces_X10_places
def dsX12_laysPlaces_0 : ByteArray := ⟨#[43, 180, 1, 76, 44, 180, 1, 76, 184, 0, 5, 62, 43, 29, 42, 180, 0, 79]⟩
theorem daX12_laysPlaces_0 : agB cX12_laysPlaces dsX12_laysPlaces_0 0 := agB_of (n := 18) (by decide +kernel)
theorem dbX12_laysPlaces_0 : (decode dsX12_laysPlaces_0 0 = .ok (.aload_n 1, 1) ∧ okop dsX12_laysPlaces_0 0 = true) ∧ (decode dsX12_laysPlaces_0 1 = .ok (.getfield 332, 3) ∧ okop dsX12_laysPlaces_0 1 = true) ∧ (decode dsX12_laysPlaces_0 4 = .ok (.aload_n 2, 1) ∧ okop dsX12_laysPlaces_0 4 = true) ∧ (decode dsX12_laysPlaces_0 5 = .ok (.getfield 332, 3) ∧ okop dsX12_laysPlaces_0 5 = true) ∧ (decode dsX12_laysPlaces_0 8 = .ok (.invokestatic 5, 3) ∧ okop dsX12_laysPlaces_0 8 = true) ∧ (decode dsX12_laysPlaces_0 11 = .ok (.istore_n 3, 1) ∧ okop dsX12_laysPlaces_0 11 = true) ∧ (decode dsX12_laysPlaces_0 12 = .ok (.aload_n 1, 1) ∧ okop dsX12_laysPlaces_0 12 = true) ∧ (decode dsX12_laysPlaces_0 13 = .ok (.iload_n 3, 1) ∧ okop dsX12_laysPlaces_0 13 = true) ∧ (decode dsX12_laysPlaces_0 14 = .ok (.aload_n 0, 1) ∧ okop dsX12_laysPlaces_0 14 = true) ∧ (decode dsX12_laysPlaces_0 15 = .ok (.getfield 79, 3) ∧ okop dsX12_laysPlaces_0 15 = true) := by decide +kernel
theorem dX12_laysPlaces_0 : decode cX12_laysPlaces 0 = .ok (.aload_n 1, 1) := dgq (p := 0) daX12_laysPlaces_0 dbX12_laysPlaces_0.1
theorem dX12_laysPlaces_1 : decode cX12_laysPlaces 1 = .ok (.getfield 332, 3) := dgq (p := 1) daX12_laysPlaces_0 dbX12_laysPlaces_0.2.1
theorem dX12_laysPlaces_4 : decode cX12_laysPlaces 4 = .ok (.aload_n 2, 1) := dgq (p := 4) daX12_laysPlaces_0 dbX12_laysPlaces_0.2.2.1
theorem dX12_laysPlaces_5 : decode cX12_laysPlaces 5 = .ok (.getfield 332, 3) := dgq (p := 5) daX12_laysPlaces_0 dbX12_laysPlaces_0.2.2.2.1
theorem dX12_laysPlaces_8 : decode cX12_laysPlaces 8 = .ok (.invokestatic 5, 3) := dgq (p := 8) daX12_laysPlaces_0 dbX12_laysPlaces_0.2.2.2.2.1
theorem dX12_laysPlaces_11 : decode cX12_laysPlaces 11 = .ok (.istore_n 3, 1) := dgq (p := 11) daX12_laysPlaces_0 dbX12_laysPlaces_0.2.2.2.2.2.1
theorem dX12_laysPlaces_12 : decode cX12_laysPlaces 12 = .ok (.aload_n 1, 1) := dgq (p := 12) daX12_laysPlaces_0 dbX12_laysPlaces_0.2.2.2.2.2.2.1
theorem dX12_laysPlaces_13 : decode cX12_laysPlaces 13 = .ok (.iload_n 3, 1) := dgq (p := 13) daX12_laysPlaces_0 dbX12_laysPlaces_0.2.2.2.2.2.2.2.1
theorem dX12_laysPlaces_14 : decode cX12_laysPlaces 14 = .ok (.aload_n 0, 1) := dgq (p := 14) daX12_laysPlaces_0 dbX12_laysPlaces_0.2.2.2.2.2.2.2.2.1
theorem dX12_laysPlaces_15 : decode cX12_laysPlaces 15 = .ok (.getfield 79, 3) := dgq (p := 15) daX12_laysPlaces_0 dbX12_laysPlaces_0.2.2.2.2.2.2.2.2.2
def dsX12_laysPlaces_18 : ByteArray := ⟨#[42, 180, 0, 82, 182, 1, 164, 44, 29, 42, 180, 0, 85, 42, 180, 0, 88, 182, 1, 164]⟩
theorem daX12_laysPlaces_18 : agB cX12_laysPlaces dsX12_laysPlaces_18 18 := agB_of (n := 20) (by decide +kernel)
theorem dbX12_laysPlaces_18 : (decode dsX12_laysPlaces_18 0 = .ok (.aload_n 0, 1) ∧ okop dsX12_laysPlaces_18 0 = true) ∧ (decode dsX12_laysPlaces_18 1 = .ok (.getfield 82, 3) ∧ okop dsX12_laysPlaces_18 1 = true) ∧ (decode dsX12_laysPlaces_18 4 = .ok (.invokevirtual 420, 3) ∧ okop dsX12_laysPlaces_18 4 = true) ∧ (decode dsX12_laysPlaces_18 7 = .ok (.aload_n 2, 1) ∧ okop dsX12_laysPlaces_18 7 = true) ∧ (decode dsX12_laysPlaces_18 8 = .ok (.iload_n 3, 1) ∧ okop dsX12_laysPlaces_18 8 = true) ∧ (decode dsX12_laysPlaces_18 9 = .ok (.aload_n 0, 1) ∧ okop dsX12_laysPlaces_18 9 = true) ∧ (decode dsX12_laysPlaces_18 10 = .ok (.getfield 85, 3) ∧ okop dsX12_laysPlaces_18 10 = true) ∧ (decode dsX12_laysPlaces_18 13 = .ok (.aload_n 0, 1) ∧ okop dsX12_laysPlaces_18 13 = true) ∧ (decode dsX12_laysPlaces_18 14 = .ok (.getfield 88, 3) ∧ okop dsX12_laysPlaces_18 14 = true) ∧ (decode dsX12_laysPlaces_18 17 = .ok (.invokevirtual 420, 3) ∧ okop dsX12_laysPlaces_18 17 = true) := by decide +kernel
theorem dX12_laysPlaces_18 : decode cX12_laysPlaces 18 = .ok (.aload_n 0, 1) := dgq (p := 0) daX12_laysPlaces_18 dbX12_laysPlaces_18.1
theorem dX12_laysPlaces_19 : decode cX12_laysPlaces 19 = .ok (.getfield 82, 3) := dgq (p := 1) daX12_laysPlaces_18 dbX12_laysPlaces_18.2.1
theorem dX12_laysPlaces_22 : decode cX12_laysPlaces 22 = .ok (.invokevirtual 420, 3) := dgq (p := 4) daX12_laysPlaces_18 dbX12_laysPlaces_18.2.2.1
theorem dX12_laysPlaces_25 : decode cX12_laysPlaces 25 = .ok (.aload_n 2, 1) := dgq (p := 7) daX12_laysPlaces_18 dbX12_laysPlaces_18.2.2.2.1
theorem dX12_laysPlaces_26 : decode cX12_laysPlaces 26 = .ok (.iload_n 3, 1) := dgq (p := 8) daX12_laysPlaces_18 dbX12_laysPlaces_18.2.2.2.2.1
theorem dX12_laysPlaces_27 : decode cX12_laysPlaces 27 = .ok (.aload_n 0, 1) := dgq (p := 9) daX12_laysPlaces_18 dbX12_laysPlaces_18.2.2.2.2.2.1
theorem dX12_laysPlaces_28 : decode cX12_laysPlaces 28 = .ok (.getfield 85, 3) := dgq (p := 10) daX12_laysPlaces_18 dbX12_laysPlaces_18.2.2.2.2.2.2.1
theorem dX12_laysPlaces_31 : decode cX12_laysPlaces 31 = .ok (.aload_n 0, 1) := dgq (p := 13) daX12_laysPlaces_18 dbX12_laysPlaces_18.2.2.2.2.2.2.2.1
theorem dX12_laysPlaces_32 : decode cX12_laysPlaces 32 = .ok (.getfield 88, 3) := dgq (p := 14) daX12_laysPlaces_18 dbX12_laysPlaces_18.2.2.2.2.2.2.2.2.1
theorem dX12_laysPlaces_35 : decode cX12_laysPlaces 35 = .ok (.invokevirtual 420, 3) := dgq (p := 17) daX12_laysPlaces_18 dbX12_laysPlaces_18.2.2.2.2.2.2.2.2.2
theorem dX12_laysPlaces_38 : decode cX12_laysPlaces 38 = .ok (.iload_n 3, 1) := by decide +kernel
theorem dX12_laysPlaces_39 : decode cX12_laysPlaces 39 = .ok (.ireturn, 1) := by decide +kernel
def dsX12_peakBy_0 : ByteArray := ⟨#[42, 180, 0, 79, 3, 46, 42, 180, 0, 85, 28, 27, 112, 46]⟩
theorem daX12_peakBy_0 : agB cX12_peakBy dsX12_peakBy_0 0 := agB_of (n := 14) (by decide +kernel)
theorem dbX12_peakBy_0 : (decode dsX12_peakBy_0 0 = .ok (.aload_n 0, 1) ∧ okop dsX12_peakBy_0 0 = true) ∧ (decode dsX12_peakBy_0 1 = .ok (.getfield 79, 3) ∧ okop dsX12_peakBy_0 1 = true) ∧ (decode dsX12_peakBy_0 4 = .ok (.iconst 0, 1) ∧ okop dsX12_peakBy_0 4 = true) ∧ (decode dsX12_peakBy_0 5 = .ok (.iaload, 1) ∧ okop dsX12_peakBy_0 5 = true) ∧ (decode dsX12_peakBy_0 6 = .ok (.aload_n 0, 1) ∧ okop dsX12_peakBy_0 6 = true) ∧ (decode dsX12_peakBy_0 7 = .ok (.getfield 85, 3) ∧ okop dsX12_peakBy_0 7 = true) ∧ (decode dsX12_peakBy_0 10 = .ok (.iload_n 2, 1) ∧ okop dsX12_peakBy_0 10 = true) ∧ (decode dsX12_peakBy_0 11 = .ok (.iload_n 1, 1) ∧ okop dsX12_peakBy_0 11 = true) ∧ (decode dsX12_peakBy_0 12 = .ok (.irem, 1) ∧ okop dsX12_peakBy_0 12 = true) ∧ (decode dsX12_peakBy_0 13 = .ok (.iaload, 1) ∧ okop dsX12_peakBy_0 13 = true) := by decide +kernel
theorem dX12_peakBy_0 : decode cX12_peakBy 0 = .ok (.aload_n 0, 1) := dgq (p := 0) daX12_peakBy_0 dbX12_peakBy_0.1
theorem dX12_peakBy_1 : decode cX12_peakBy 1 = .ok (.getfield 79, 3) := dgq (p := 1) daX12_peakBy_0 dbX12_peakBy_0.2.1
theorem dX12_peakBy_4 : decode cX12_peakBy 4 = .ok (.iconst 0, 1) := dgq (p := 4) daX12_peakBy_0 dbX12_peakBy_0.2.2.1
theorem dX12_peakBy_5 : decode cX12_peakBy 5 = .ok (.iaload, 1) := dgq (p := 5) daX12_peakBy_0 dbX12_peakBy_0.2.2.2.1
theorem dX12_peakBy_6 : decode cX12_peakBy 6 = .ok (.aload_n 0, 1) := dgq (p := 6) daX12_peakBy_0 dbX12_peakBy_0.2.2.2.2.1
theorem dX12_peakBy_7 : decode cX12_peakBy 7 = .ok (.getfield 85, 3) := dgq (p := 7) daX12_peakBy_0 dbX12_peakBy_0.2.2.2.2.2.1
theorem dX12_peakBy_10 : decode cX12_peakBy 10 = .ok (.iload_n 2, 1) := dgq (p := 10) daX12_peakBy_0 dbX12_peakBy_0.2.2.2.2.2.2.1
theorem dX12_peakBy_11 : decode cX12_peakBy 11 = .ok (.iload_n 1, 1) := dgq (p := 11) daX12_peakBy_0 dbX12_peakBy_0.2.2.2.2.2.2.2.1
theorem dX12_peakBy_12 : decode cX12_peakBy 12 = .ok (.irem, 1) := dgq (p := 12) daX12_peakBy_0 dbX12_peakBy_0.2.2.2.2.2.2.2.2.1
theorem dX12_peakBy_13 : decode cX12_peakBy 13 = .ok (.iaload, 1) := dgq (p := 13) daX12_peakBy_0 dbX12_peakBy_0.2.2.2.2.2.2.2.2.2
def dsX12_peakBy_14 : ByteArray := ⟨#[96, 62, 42, 180, 0, 82, 3, 46, 42, 180, 0, 88, 28, 27]⟩
theorem daX12_peakBy_14 : agB cX12_peakBy dsX12_peakBy_14 14 := agB_of (n := 14) (by decide +kernel)
theorem dbX12_peakBy_14 : (decode dsX12_peakBy_14 0 = .ok (.iadd, 1) ∧ okop dsX12_peakBy_14 0 = true) ∧ (decode dsX12_peakBy_14 1 = .ok (.istore_n 3, 1) ∧ okop dsX12_peakBy_14 1 = true) ∧ (decode dsX12_peakBy_14 2 = .ok (.aload_n 0, 1) ∧ okop dsX12_peakBy_14 2 = true) ∧ (decode dsX12_peakBy_14 3 = .ok (.getfield 82, 3) ∧ okop dsX12_peakBy_14 3 = true) ∧ (decode dsX12_peakBy_14 6 = .ok (.iconst 0, 1) ∧ okop dsX12_peakBy_14 6 = true) ∧ (decode dsX12_peakBy_14 7 = .ok (.iaload, 1) ∧ okop dsX12_peakBy_14 7 = true) ∧ (decode dsX12_peakBy_14 8 = .ok (.aload_n 0, 1) ∧ okop dsX12_peakBy_14 8 = true) ∧ (decode dsX12_peakBy_14 9 = .ok (.getfield 88, 3) ∧ okop dsX12_peakBy_14 9 = true) ∧ (decode dsX12_peakBy_14 12 = .ok (.iload_n 2, 1) ∧ okop dsX12_peakBy_14 12 = true) ∧ (decode dsX12_peakBy_14 13 = .ok (.iload_n 1, 1) ∧ okop dsX12_peakBy_14 13 = true) := by decide +kernel
theorem dX12_peakBy_14 : decode cX12_peakBy 14 = .ok (.iadd, 1) := dgq (p := 0) daX12_peakBy_14 dbX12_peakBy_14.1
theorem dX12_peakBy_15 : decode cX12_peakBy 15 = .ok (.istore_n 3, 1) := dgq (p := 1) daX12_peakBy_14 dbX12_peakBy_14.2.1
theorem dX12_peakBy_16 : decode cX12_peakBy 16 = .ok (.aload_n 0, 1) := dgq (p := 2) daX12_peakBy_14 dbX12_peakBy_14.2.2.1
theorem dX12_peakBy_17 : decode cX12_peakBy 17 = .ok (.getfield 82, 3) := dgq (p := 3) daX12_peakBy_14 dbX12_peakBy_14.2.2.2.1
theorem dX12_peakBy_20 : decode cX12_peakBy 20 = .ok (.iconst 0, 1) := dgq (p := 6) daX12_peakBy_14 dbX12_peakBy_14.2.2.2.2.1
theorem dX12_peakBy_21 : decode cX12_peakBy 21 = .ok (.iaload, 1) := dgq (p := 7) daX12_peakBy_14 dbX12_peakBy_14.2.2.2.2.2.1
theorem dX12_peakBy_22 : decode cX12_peakBy 22 = .ok (.aload_n 0, 1) := dgq (p := 8) daX12_peakBy_14 dbX12_peakBy_14.2.2.2.2.2.2.1
theorem dX12_peakBy_23 : decode cX12_peakBy 23 = .ok (.getfield 88, 3) := dgq (p := 9) daX12_peakBy_14 dbX12_peakBy_14.2.2.2.2.2.2.2.1
theorem dX12_peakBy_26 : decode cX12_peakBy 26 = .ok (.iload_n 2, 1) := dgq (p := 12) daX12_peakBy_14 dbX12_peakBy_14.2.2.2.2.2.2.2.2.1
theorem dX12_peakBy_27 : decode cX12_peakBy 27 = .ok (.iload_n 1, 1) := dgq (p := 13) daX12_peakBy_14 dbX12_peakBy_14.2.2.2.2.2.2.2.2.2
def dsX12_peakBy_28 : ByteArray := ⟨#[112, 46, 96, 54, 4, 4, 54, 5, 21, 5, 27, 162, 0, 59, 29]⟩
theorem daX12_peakBy_28 : agB cX12_peakBy dsX12_peakBy_28 28 := agB_of (n := 15) (by decide +kernel)
theorem dbX12_peakBy_28 : (decode dsX12_peakBy_28 0 = .ok (.irem, 1) ∧ okop dsX12_peakBy_28 0 = true) ∧ (decode dsX12_peakBy_28 1 = .ok (.iaload, 1) ∧ okop dsX12_peakBy_28 1 = true) ∧ (decode dsX12_peakBy_28 2 = .ok (.iadd, 1) ∧ okop dsX12_peakBy_28 2 = true) ∧ (decode dsX12_peakBy_28 3 = .ok (.istore 4, 2) ∧ okop dsX12_peakBy_28 3 = true) ∧ (decode dsX12_peakBy_28 5 = .ok (.iconst 1, 1) ∧ okop dsX12_peakBy_28 5 = true) ∧ (decode dsX12_peakBy_28 6 = .ok (.istore 5, 2) ∧ okop dsX12_peakBy_28 6 = true) ∧ (decode dsX12_peakBy_28 8 = .ok (.iload 5, 2) ∧ okop dsX12_peakBy_28 8 = true) ∧ (decode dsX12_peakBy_28 10 = .ok (.iload_n 1, 1) ∧ okop dsX12_peakBy_28 10 = true) ∧ (decode dsX12_peakBy_28 11 = .ok (.if_icmp .ge 59, 3) ∧ okop dsX12_peakBy_28 11 = true) ∧ (decode dsX12_peakBy_28 14 = .ok (.iload_n 3, 1) ∧ okop dsX12_peakBy_28 14 = true) := by decide +kernel
theorem dX12_peakBy_28 : decode cX12_peakBy 28 = .ok (.irem, 1) := dgq (p := 0) daX12_peakBy_28 dbX12_peakBy_28.1
theorem dX12_peakBy_29 : decode cX12_peakBy 29 = .ok (.iaload, 1) := dgq (p := 1) daX12_peakBy_28 dbX12_peakBy_28.2.1
theorem dX12_peakBy_30 : decode cX12_peakBy 30 = .ok (.iadd, 1) := dgq (p := 2) daX12_peakBy_28 dbX12_peakBy_28.2.2.1
theorem dX12_peakBy_31 : decode cX12_peakBy 31 = .ok (.istore 4, 2) := dgq (p := 3) daX12_peakBy_28 dbX12_peakBy_28.2.2.2.1
theorem dX12_peakBy_33 : decode cX12_peakBy 33 = .ok (.iconst 1, 1) := dgq (p := 5) daX12_peakBy_28 dbX12_peakBy_28.2.2.2.2.1
theorem dX12_peakBy_34 : decode cX12_peakBy 34 = .ok (.istore 5, 2) := dgq (p := 6) daX12_peakBy_28 dbX12_peakBy_28.2.2.2.2.2.1
theorem dX12_peakBy_36 : decode cX12_peakBy 36 = .ok (.iload 5, 2) := dgq (p := 8) daX12_peakBy_28 dbX12_peakBy_28.2.2.2.2.2.2.1
theorem dX12_peakBy_38 : decode cX12_peakBy 38 = .ok (.iload_n 1, 1) := dgq (p := 10) daX12_peakBy_28 dbX12_peakBy_28.2.2.2.2.2.2.2.1
theorem dX12_peakBy_39 : decode cX12_peakBy 39 = .ok (.if_icmp .ge 59, 3) := dgq (p := 11) daX12_peakBy_28 dbX12_peakBy_28.2.2.2.2.2.2.2.2.1
theorem dX12_peakBy_42 : decode cX12_peakBy 42 = .ok (.iload_n 3, 1) := dgq (p := 14) daX12_peakBy_28 dbX12_peakBy_28.2.2.2.2.2.2.2.2.2
def dsX12_peakBy_43 : ByteArray := ⟨#[42, 180, 0, 79, 21, 5, 46, 42, 180, 0, 85, 21, 5, 28, 96, 27]⟩
theorem daX12_peakBy_43 : agB cX12_peakBy dsX12_peakBy_43 43 := agB_of (n := 16) (by decide +kernel)
theorem dbX12_peakBy_43 : (decode dsX12_peakBy_43 0 = .ok (.aload_n 0, 1) ∧ okop dsX12_peakBy_43 0 = true) ∧ (decode dsX12_peakBy_43 1 = .ok (.getfield 79, 3) ∧ okop dsX12_peakBy_43 1 = true) ∧ (decode dsX12_peakBy_43 4 = .ok (.iload 5, 2) ∧ okop dsX12_peakBy_43 4 = true) ∧ (decode dsX12_peakBy_43 6 = .ok (.iaload, 1) ∧ okop dsX12_peakBy_43 6 = true) ∧ (decode dsX12_peakBy_43 7 = .ok (.aload_n 0, 1) ∧ okop dsX12_peakBy_43 7 = true) ∧ (decode dsX12_peakBy_43 8 = .ok (.getfield 85, 3) ∧ okop dsX12_peakBy_43 8 = true) ∧ (decode dsX12_peakBy_43 11 = .ok (.iload 5, 2) ∧ okop dsX12_peakBy_43 11 = true) ∧ (decode dsX12_peakBy_43 13 = .ok (.iload_n 2, 1) ∧ okop dsX12_peakBy_43 13 = true) ∧ (decode dsX12_peakBy_43 14 = .ok (.iadd, 1) ∧ okop dsX12_peakBy_43 14 = true) ∧ (decode dsX12_peakBy_43 15 = .ok (.iload_n 1, 1) ∧ okop dsX12_peakBy_43 15 = true) := by decide +kernel
theorem dX12_peakBy_43 : decode cX12_peakBy 43 = .ok (.aload_n 0, 1) := dgq (p := 0) daX12_peakBy_43 dbX12_peakBy_43.1
theorem dX12_peakBy_44 : decode cX12_peakBy 44 = .ok (.getfield 79, 3) := dgq (p := 1) daX12_peakBy_43 dbX12_peakBy_43.2.1
theorem dX12_peakBy_47 : decode cX12_peakBy 47 = .ok (.iload 5, 2) := dgq (p := 4) daX12_peakBy_43 dbX12_peakBy_43.2.2.1
theorem dX12_peakBy_49 : decode cX12_peakBy 49 = .ok (.iaload, 1) := dgq (p := 6) daX12_peakBy_43 dbX12_peakBy_43.2.2.2.1
theorem dX12_peakBy_50 : decode cX12_peakBy 50 = .ok (.aload_n 0, 1) := dgq (p := 7) daX12_peakBy_43 dbX12_peakBy_43.2.2.2.2.1
theorem dX12_peakBy_51 : decode cX12_peakBy 51 = .ok (.getfield 85, 3) := dgq (p := 8) daX12_peakBy_43 dbX12_peakBy_43.2.2.2.2.2.1
theorem dX12_peakBy_54 : decode cX12_peakBy 54 = .ok (.iload 5, 2) := dgq (p := 11) daX12_peakBy_43 dbX12_peakBy_43.2.2.2.2.2.2.1
theorem dX12_peakBy_56 : decode cX12_peakBy 56 = .ok (.iload_n 2, 1) := dgq (p := 13) daX12_peakBy_43 dbX12_peakBy_43.2.2.2.2.2.2.2.1
theorem dX12_peakBy_57 : decode cX12_peakBy 57 = .ok (.iadd, 1) := dgq (p := 14) daX12_peakBy_43 dbX12_peakBy_43.2.2.2.2.2.2.2.2.1
theorem dX12_peakBy_58 : decode cX12_peakBy 58 = .ok (.iload_n 1, 1) := dgq (p := 15) daX12_peakBy_43 dbX12_peakBy_43.2.2.2.2.2.2.2.2.2
def dsX12_peakBy_59 : ByteArray := ⟨#[112, 46, 96, 184, 1, 162, 62, 21, 4, 42, 180, 0, 82, 21, 5, 46]⟩
theorem daX12_peakBy_59 : agB cX12_peakBy dsX12_peakBy_59 59 := agB_of (n := 16) (by decide +kernel)
theorem dbX12_peakBy_59 : (decode dsX12_peakBy_59 0 = .ok (.irem, 1) ∧ okop dsX12_peakBy_59 0 = true) ∧ (decode dsX12_peakBy_59 1 = .ok (.iaload, 1) ∧ okop dsX12_peakBy_59 1 = true) ∧ (decode dsX12_peakBy_59 2 = .ok (.iadd, 1) ∧ okop dsX12_peakBy_59 2 = true) ∧ (decode dsX12_peakBy_59 3 = .ok (.invokestatic 418, 3) ∧ okop dsX12_peakBy_59 3 = true) ∧ (decode dsX12_peakBy_59 6 = .ok (.istore_n 3, 1) ∧ okop dsX12_peakBy_59 6 = true) ∧ (decode dsX12_peakBy_59 7 = .ok (.iload 4, 2) ∧ okop dsX12_peakBy_59 7 = true) ∧ (decode dsX12_peakBy_59 9 = .ok (.aload_n 0, 1) ∧ okop dsX12_peakBy_59 9 = true) ∧ (decode dsX12_peakBy_59 10 = .ok (.getfield 82, 3) ∧ okop dsX12_peakBy_59 10 = true) ∧ (decode dsX12_peakBy_59 13 = .ok (.iload 5, 2) ∧ okop dsX12_peakBy_59 13 = true) ∧ (decode dsX12_peakBy_59 15 = .ok (.iaload, 1) ∧ okop dsX12_peakBy_59 15 = true) := by decide +kernel
theorem dX12_peakBy_59 : decode cX12_peakBy 59 = .ok (.irem, 1) := dgq (p := 0) daX12_peakBy_59 dbX12_peakBy_59.1
theorem dX12_peakBy_60 : decode cX12_peakBy 60 = .ok (.iaload, 1) := dgq (p := 1) daX12_peakBy_59 dbX12_peakBy_59.2.1
theorem dX12_peakBy_61 : decode cX12_peakBy 61 = .ok (.iadd, 1) := dgq (p := 2) daX12_peakBy_59 dbX12_peakBy_59.2.2.1
theorem dX12_peakBy_62 : decode cX12_peakBy 62 = .ok (.invokestatic 418, 3) := dgq (p := 3) daX12_peakBy_59 dbX12_peakBy_59.2.2.2.1
theorem dX12_peakBy_65 : decode cX12_peakBy 65 = .ok (.istore_n 3, 1) := dgq (p := 6) daX12_peakBy_59 dbX12_peakBy_59.2.2.2.2.1
theorem dX12_peakBy_66 : decode cX12_peakBy 66 = .ok (.iload 4, 2) := dgq (p := 7) daX12_peakBy_59 dbX12_peakBy_59.2.2.2.2.2.1
theorem dX12_peakBy_68 : decode cX12_peakBy 68 = .ok (.aload_n 0, 1) := dgq (p := 9) daX12_peakBy_59 dbX12_peakBy_59.2.2.2.2.2.2.1
theorem dX12_peakBy_69 : decode cX12_peakBy 69 = .ok (.getfield 82, 3) := dgq (p := 10) daX12_peakBy_59 dbX12_peakBy_59.2.2.2.2.2.2.2.1
theorem dX12_peakBy_72 : decode cX12_peakBy 72 = .ok (.iload 5, 2) := dgq (p := 13) daX12_peakBy_59 dbX12_peakBy_59.2.2.2.2.2.2.2.2.1
theorem dX12_peakBy_74 : decode cX12_peakBy 74 = .ok (.iaload, 1) := dgq (p := 15) daX12_peakBy_59 dbX12_peakBy_59.2.2.2.2.2.2.2.2.2
def dsX12_peakBy_75 : ByteArray := ⟨#[42, 180, 0, 88, 21, 5, 28, 96, 27, 112, 46, 96, 184, 0, 212]⟩
theorem daX12_peakBy_75 : agB cX12_peakBy dsX12_peakBy_75 75 := agB_of (n := 15) (by decide +kernel)
theorem dbX12_peakBy_75 : (decode dsX12_peakBy_75 0 = .ok (.aload_n 0, 1) ∧ okop dsX12_peakBy_75 0 = true) ∧ (decode dsX12_peakBy_75 1 = .ok (.getfield 88, 3) ∧ okop dsX12_peakBy_75 1 = true) ∧ (decode dsX12_peakBy_75 4 = .ok (.iload 5, 2) ∧ okop dsX12_peakBy_75 4 = true) ∧ (decode dsX12_peakBy_75 6 = .ok (.iload_n 2, 1) ∧ okop dsX12_peakBy_75 6 = true) ∧ (decode dsX12_peakBy_75 7 = .ok (.iadd, 1) ∧ okop dsX12_peakBy_75 7 = true) ∧ (decode dsX12_peakBy_75 8 = .ok (.iload_n 1, 1) ∧ okop dsX12_peakBy_75 8 = true) ∧ (decode dsX12_peakBy_75 9 = .ok (.irem, 1) ∧ okop dsX12_peakBy_75 9 = true) ∧ (decode dsX12_peakBy_75 10 = .ok (.iaload, 1) ∧ okop dsX12_peakBy_75 10 = true) ∧ (decode dsX12_peakBy_75 11 = .ok (.iadd, 1) ∧ okop dsX12_peakBy_75 11 = true) ∧ (decode dsX12_peakBy_75 12 = .ok (.invokestatic 212, 3) ∧ okop dsX12_peakBy_75 12 = true) := by decide +kernel
theorem dX12_peakBy_75 : decode cX12_peakBy 75 = .ok (.aload_n 0, 1) := dgq (p := 0) daX12_peakBy_75 dbX12_peakBy_75.1
theorem dX12_peakBy_76 : decode cX12_peakBy 76 = .ok (.getfield 88, 3) := dgq (p := 1) daX12_peakBy_75 dbX12_peakBy_75.2.1
theorem dX12_peakBy_79 : decode cX12_peakBy 79 = .ok (.iload 5, 2) := dgq (p := 4) daX12_peakBy_75 dbX12_peakBy_75.2.2.1
theorem dX12_peakBy_81 : decode cX12_peakBy 81 = .ok (.iload_n 2, 1) := dgq (p := 6) daX12_peakBy_75 dbX12_peakBy_75.2.2.2.1
theorem dX12_peakBy_82 : decode cX12_peakBy 82 = .ok (.iadd, 1) := dgq (p := 7) daX12_peakBy_75 dbX12_peakBy_75.2.2.2.2.1
theorem dX12_peakBy_83 : decode cX12_peakBy 83 = .ok (.iload_n 1, 1) := dgq (p := 8) daX12_peakBy_75 dbX12_peakBy_75.2.2.2.2.2.1
theorem dX12_peakBy_84 : decode cX12_peakBy 84 = .ok (.irem, 1) := dgq (p := 9) daX12_peakBy_75 dbX12_peakBy_75.2.2.2.2.2.2.1
theorem dX12_peakBy_85 : decode cX12_peakBy 85 = .ok (.iaload, 1) := dgq (p := 10) daX12_peakBy_75 dbX12_peakBy_75.2.2.2.2.2.2.2.1
theorem dX12_peakBy_86 : decode cX12_peakBy 86 = .ok (.iadd, 1) := dgq (p := 11) daX12_peakBy_75 dbX12_peakBy_75.2.2.2.2.2.2.2.2.1
theorem dX12_peakBy_87 : decode cX12_peakBy 87 = .ok (.invokestatic 212, 3) := dgq (p := 12) daX12_peakBy_75 dbX12_peakBy_75.2.2.2.2.2.2.2.2.2
def dsX12_peakBy_90 : ByteArray := ⟨#[54, 4, 132, 5, 1, 167, 255, 197, 29, 21, 4, 100, 172]⟩
theorem daX12_peakBy_90 : agB cX12_peakBy dsX12_peakBy_90 90 := agB_of (n := 13) (by decide +kernel)
theorem dbX12_peakBy_90 : (decode dsX12_peakBy_90 0 = .ok (.istore 4, 2) ∧ okop dsX12_peakBy_90 0 = true) ∧ (decode dsX12_peakBy_90 2 = .ok (.iinc 5 1, 3) ∧ okop dsX12_peakBy_90 2 = true) ∧ (decode dsX12_peakBy_90 5 = .ok (.goto (-59), 3) ∧ okop dsX12_peakBy_90 5 = true) ∧ (decode dsX12_peakBy_90 8 = .ok (.iload_n 3, 1) ∧ okop dsX12_peakBy_90 8 = true) ∧ (decode dsX12_peakBy_90 9 = .ok (.iload 4, 2) ∧ okop dsX12_peakBy_90 9 = true) ∧ (decode dsX12_peakBy_90 11 = .ok (.isub, 1) ∧ okop dsX12_peakBy_90 11 = true) ∧ (decode dsX12_peakBy_90 12 = .ok (.ireturn, 1) ∧ okop dsX12_peakBy_90 12 = true) := by decide +kernel
theorem dX12_peakBy_90 : decode cX12_peakBy 90 = .ok (.istore 4, 2) := dgq (p := 0) daX12_peakBy_90 dbX12_peakBy_90.1
theorem dX12_peakBy_92 : decode cX12_peakBy 92 = .ok (.iinc 5 1, 3) := dgq (p := 2) daX12_peakBy_90 dbX12_peakBy_90.2.1
theorem dX12_peakBy_95 : decode cX12_peakBy 95 = .ok (.goto (-59), 3) := dgq (p := 5) daX12_peakBy_90 dbX12_peakBy_90.2.2.1
theorem dX12_peakBy_98 : decode cX12_peakBy 98 = .ok (.iload_n 3, 1) := dgq (p := 8) daX12_peakBy_90 dbX12_peakBy_90.2.2.2.1
theorem dX12_peakBy_99 : decode cX12_peakBy 99 = .ok (.iload 4, 2) := dgq (p := 9) daX12_peakBy_90 dbX12_peakBy_90.2.2.2.2.1
theorem dX12_peakBy_101 : decode cX12_peakBy 101 = .ok (.isub, 1) := dgq (p := 11) daX12_peakBy_90 dbX12_peakBy_90.2.2.2.2.2.1
theorem dX12_peakBy_102 : decode cX12_peakBy 102 = .ok (.ireturn, 1) := dgq (p := 12) daX12_peakBy_90 dbX12_peakBy_90.2.2.2.2.2.2
set_option maxRecDepth 20000 in
theorem ggX12_peakOf_X12_laysPlaces : GoodIn wsX12_peakOf wsX12_laysPlaces := goodIn_ca (goodIn_ca (goodIn_ca (goodIn_ca (goodIn_q _ [5, 6, 7, 8, 9, 10, 11, 4, 12, 13, 14, 15, 16, 17, 18, 19, 20, 21, 22, 23, 24, 25, 26, 27, 28, 29, 30] rfl (by decide +kernel)) (goodIn_sub (fun _ h => (List.mem_cons_of_mem _ (List.mem_append_left _ (List.mem_append_left _ (List.mem_append_left _ (List.mem_append_right _ h)))))) tg_wsX100)) (goodIn_sub (fun _ h => (List.mem_cons_of_mem _ (List.mem_append_left _ (List.mem_append_left _ (List.mem_append_right _ h))))) tg_wsX120)) (goodIn_sub (fun _ h => List.mem_cons_of_mem _ (List.mem_append_left _ (List.mem_append_right _ h))) (by decide +kernel))) (goodIn_sub (fun _ h => List.mem_cons_of_mem _ (List.mem_append_right _ h)) (by decide +kernel))
set_option maxRecDepth 20000 in
theorem gX12_peakOf_X12_laysPlaces : GoodIn wsX12_peakOf (wsV RX12 423 RX12 yX12_laysPlaces wsX12_laysPlaces) := goodIn_app (goodIn_q _ [1, 2, 3, 4] rfl (by decide +kernel)) ggX12_peakOf_X12_laysPlaces
set_option maxRecDepth 20000 in
theorem ggX12_peakOf_X12_peakBy : GoodIn wsX12_peakOf wsX12_peakBy := goodIn_ca (goodIn_ca (goodIn_ca (goodIn_q _ [34, 6, 8, 7, 9, 35, 21, 22, 23, 36, 25, 26] rfl (by decide +kernel)) (goodIn_sub (fun _ h => (List.mem_cons_of_mem _ (List.mem_append_left _ (List.mem_append_left _ (List.mem_append_right _ h))))) tg_wsX120)) (goodIn_sub (fun _ h => List.mem_cons_of_mem _ (List.mem_append_right _ h)) (by decide +kernel))) (goodIn_sub (fun _ h => List.mem_cons_of_mem _ (List.mem_append_left _ (List.mem_append_right _ h))) (by decide +kernel))
set_option maxRecDepth 20000 in
theorem gX12_peakOf_X12_peakBy : GoodIn wsX12_peakOf (wsV RX12 427 RX12 yX12_peakBy wsX12_peakBy) := goodIn_app (goodIn_q _ [31, 32, 33, 4] rfl (by decide +kernel)) ggX12_peakOf_X12_peakBy
def dsX12_peakOf_0 : ByteArray := ⟨#[42, 42, 43, 44, 182, 1, 167, 29, 182, 1, 171, 172]⟩
theorem daX12_peakOf_0 : agB cX12_peakOf dsX12_peakOf_0 0 := agB_of (n := 12) (by decide +kernel)
theorem dbX12_peakOf_0 : (decode dsX12_peakOf_0 0 = .ok (.aload_n 0, 1) ∧ okop dsX12_peakOf_0 0 = true) ∧ (decode dsX12_peakOf_0 1 = .ok (.aload_n 0, 1) ∧ okop dsX12_peakOf_0 1 = true) ∧ (decode dsX12_peakOf_0 2 = .ok (.aload_n 1, 1) ∧ okop dsX12_peakOf_0 2 = true) ∧ (decode dsX12_peakOf_0 3 = .ok (.aload_n 2, 1) ∧ okop dsX12_peakOf_0 3 = true) ∧ (decode dsX12_peakOf_0 4 = .ok (.invokevirtual 423, 3) ∧ okop dsX12_peakOf_0 4 = true) ∧ (decode dsX12_peakOf_0 7 = .ok (.iload_n 3, 1) ∧ okop dsX12_peakOf_0 7 = true) ∧ (decode dsX12_peakOf_0 8 = .ok (.invokevirtual 427, 3) ∧ okop dsX12_peakOf_0 8 = true) ∧ (decode dsX12_peakOf_0 11 = .ok (.ireturn, 1) ∧ okop dsX12_peakOf_0 11 = true) := by decide +kernel
theorem dX12_peakOf_0 : decode cX12_peakOf 0 = .ok (.aload_n 0, 1) := dgq (p := 0) daX12_peakOf_0 dbX12_peakOf_0.1
theorem dX12_peakOf_1 : decode cX12_peakOf 1 = .ok (.aload_n 0, 1) := dgq (p := 1) daX12_peakOf_0 dbX12_peakOf_0.2.1
theorem dX12_peakOf_2 : decode cX12_peakOf 2 = .ok (.aload_n 1, 1) := dgq (p := 2) daX12_peakOf_0 dbX12_peakOf_0.2.2.1
theorem dX12_peakOf_3 : decode cX12_peakOf 3 = .ok (.aload_n 2, 1) := dgq (p := 3) daX12_peakOf_0 dbX12_peakOf_0.2.2.2.1
theorem dX12_peakOf_4 : decode cX12_peakOf 4 = .ok (.invokevirtual 423, 3) := dgq (p := 4) daX12_peakOf_0 dbX12_peakOf_0.2.2.2.2.1
theorem dX12_peakOf_7 : decode cX12_peakOf 7 = .ok (.iload_n 3, 1) := dgq (p := 7) daX12_peakOf_0 dbX12_peakOf_0.2.2.2.2.2.1
theorem dX12_peakOf_8 : decode cX12_peakOf 8 = .ok (.invokevirtual 427, 3) := dgq (p := 8) daX12_peakOf_0 dbX12_peakOf_0.2.2.2.2.2.2.1
theorem dX12_peakOf_11 : decode cX12_peakOf 11 = .ok (.ireturn, 1) := dgq (p := 11) daX12_peakOf_0 dbX12_peakOf_0.2.2.2.2.2.2.2
set_option maxRecDepth 20000 in
theorem ggX12_quietestOf_X12_laysPlaces : GoodIn wsX12_quietestOf wsX12_laysPlaces := goodIn_ca (goodIn_ca (goodIn_ca (goodIn_ca (goodIn_q _ [5, 6, 7, 8, 9, 10, 11, 4, 12, 13, 14, 15, 16, 17, 18, 19, 20, 21, 22, 23, 24, 25, 26, 27, 28, 29, 30] rfl (by decide +kernel)) (goodIn_sub (fun _ h => (List.mem_cons_of_mem _ (List.mem_append_left _ (List.mem_append_left _ (List.mem_append_left _ (List.mem_append_right _ h)))))) tg_wsX100)) (goodIn_sub (fun _ h => (List.mem_cons_of_mem _ (List.mem_append_left _ (List.mem_append_left _ (List.mem_append_right _ h))))) tg_wsX120)) (goodIn_sub (fun _ h => List.mem_cons_of_mem _ (List.mem_append_left _ (List.mem_append_right _ h))) (by decide +kernel))) (goodIn_sub (fun _ h => List.mem_cons_of_mem _ (List.mem_append_right _ h)) (by decide +kernel))
set_option maxRecDepth 20000 in
theorem gX12_quietestOf_X12_laysPlaces : GoodIn wsX12_quietestOf (wsV RX12 423 RX12 yX12_laysPlaces wsX12_laysPlaces) := goodIn_app (goodIn_q _ [1, 2, 3, 4] rfl (by decide +kernel)) ggX12_quietestOf_X12_laysPlaces
set_option maxRecDepth 20000 in
theorem ggX12_quietestOf_X12_peakBy : GoodIn wsX12_quietestOf wsX12_peakBy := goodIn_ca (goodIn_ca (goodIn_ca (goodIn_q _ [34, 6, 8, 7, 9, 35, 21, 22, 23, 36, 25, 26] rfl (by decide +kernel)) (goodIn_sub (fun _ h => (List.mem_cons_of_mem _ (List.mem_append_left _ (List.mem_append_left _ (List.mem_append_right _ h))))) tg_wsX120)) (goodIn_sub (fun _ h => List.mem_cons_of_mem _ (List.mem_append_right _ h)) (by decide +kernel))) (goodIn_sub (fun _ h => List.mem_cons_of_mem _ (List.mem_append_left _ (List.mem_append_right _ h))) (by decide +kernel))
set_option maxRecDepth 20000 in
theorem gX12_quietestOf_X12_peakBy : GoodIn wsX12_quietestOf (wsV RX12 427 RX12 yX12_peakBy wsX12_peakBy) := goodIn_app (goodIn_q _ [31, 32, 33, 4] rfl (by decide +kernel)) ggX12_quietestOf_X12_peakBy
def dsX12_quietestOf_0 : ByteArray := ⟨#[42, 43, 44, 182, 1, 167, 62, 3, 54, 4, 4, 54, 5, 21, 5]⟩
theorem daX12_quietestOf_0 : agB cX12_quietestOf dsX12_quietestOf_0 0 := agB_of (n := 15) (by decide +kernel)
theorem dbX12_quietestOf_0 : (decode dsX12_quietestOf_0 0 = .ok (.aload_n 0, 1) ∧ okop dsX12_quietestOf_0 0 = true) ∧ (decode dsX12_quietestOf_0 1 = .ok (.aload_n 1, 1) ∧ okop dsX12_quietestOf_0 1 = true) ∧ (decode dsX12_quietestOf_0 2 = .ok (.aload_n 2, 1) ∧ okop dsX12_quietestOf_0 2 = true) ∧ (decode dsX12_quietestOf_0 3 = .ok (.invokevirtual 423, 3) ∧ okop dsX12_quietestOf_0 3 = true) ∧ (decode dsX12_quietestOf_0 6 = .ok (.istore_n 3, 1) ∧ okop dsX12_quietestOf_0 6 = true) ∧ (decode dsX12_quietestOf_0 7 = .ok (.iconst 0, 1) ∧ okop dsX12_quietestOf_0 7 = true) ∧ (decode dsX12_quietestOf_0 8 = .ok (.istore 4, 2) ∧ okop dsX12_quietestOf_0 8 = true) ∧ (decode dsX12_quietestOf_0 10 = .ok (.iconst 1, 1) ∧ okop dsX12_quietestOf_0 10 = true) ∧ (decode dsX12_quietestOf_0 11 = .ok (.istore 5, 2) ∧ okop dsX12_quietestOf_0 11 = true) ∧ (decode dsX12_quietestOf_0 13 = .ok (.iload 5, 2) ∧ okop dsX12_quietestOf_0 13 = true) := by decide +kernel
theorem dX12_quietestOf_0 : decode cX12_quietestOf 0 = .ok (.aload_n 0, 1) := dgq (p := 0) daX12_quietestOf_0 dbX12_quietestOf_0.1
theorem dX12_quietestOf_1 : decode cX12_quietestOf 1 = .ok (.aload_n 1, 1) := dgq (p := 1) daX12_quietestOf_0 dbX12_quietestOf_0.2.1
theorem dX12_quietestOf_2 : decode cX12_quietestOf 2 = .ok (.aload_n 2, 1) := dgq (p := 2) daX12_quietestOf_0 dbX12_quietestOf_0.2.2.1
theorem dX12_quietestOf_3 : decode cX12_quietestOf 3 = .ok (.invokevirtual 423, 3) := dgq (p := 3) daX12_quietestOf_0 dbX12_quietestOf_0.2.2.2.1
theorem dX12_quietestOf_6 : decode cX12_quietestOf 6 = .ok (.istore_n 3, 1) := dgq (p := 6) daX12_quietestOf_0 dbX12_quietestOf_0.2.2.2.2.1
theorem dX12_quietestOf_7 : decode cX12_quietestOf 7 = .ok (.iconst 0, 1) := dgq (p := 7) daX12_quietestOf_0 dbX12_quietestOf_0.2.2.2.2.2.1
theorem dX12_quietestOf_8 : decode cX12_quietestOf 8 = .ok (.istore 4, 2) := dgq (p := 8) daX12_quietestOf_0 dbX12_quietestOf_0.2.2.2.2.2.2.1
theorem dX12_quietestOf_10 : decode cX12_quietestOf 10 = .ok (.iconst 1, 1) := dgq (p := 10) daX12_quietestOf_0 dbX12_quietestOf_0.2.2.2.2.2.2.2.1
theorem dX12_quietestOf_11 : decode cX12_quietestOf 11 = .ok (.istore 5, 2) := dgq (p := 11) daX12_quietestOf_0 dbX12_quietestOf_0.2.2.2.2.2.2.2.2.1
theorem dX12_quietestOf_13 : decode cX12_quietestOf 13 = .ok (.iload 5, 2) := dgq (p := 13) daX12_quietestOf_0 dbX12_quietestOf_0.2.2.2.2.2.2.2.2.2
def dsX12_quietestOf_15 : ByteArray := ⟨#[29, 162, 0, 35, 42, 29, 21, 5, 182, 1, 171, 42, 29, 21, 4, 182, 1, 171]⟩
theorem daX12_quietestOf_15 : agB cX12_quietestOf dsX12_quietestOf_15 15 := agB_of (n := 18) (by decide +kernel)
theorem dbX12_quietestOf_15 : (decode dsX12_quietestOf_15 0 = .ok (.iload_n 3, 1) ∧ okop dsX12_quietestOf_15 0 = true) ∧ (decode dsX12_quietestOf_15 1 = .ok (.if_icmp .ge 35, 3) ∧ okop dsX12_quietestOf_15 1 = true) ∧ (decode dsX12_quietestOf_15 4 = .ok (.aload_n 0, 1) ∧ okop dsX12_quietestOf_15 4 = true) ∧ (decode dsX12_quietestOf_15 5 = .ok (.iload_n 3, 1) ∧ okop dsX12_quietestOf_15 5 = true) ∧ (decode dsX12_quietestOf_15 6 = .ok (.iload 5, 2) ∧ okop dsX12_quietestOf_15 6 = true) ∧ (decode dsX12_quietestOf_15 8 = .ok (.invokevirtual 427, 3) ∧ okop dsX12_quietestOf_15 8 = true) ∧ (decode dsX12_quietestOf_15 11 = .ok (.aload_n 0, 1) ∧ okop dsX12_quietestOf_15 11 = true) ∧ (decode dsX12_quietestOf_15 12 = .ok (.iload_n 3, 1) ∧ okop dsX12_quietestOf_15 12 = true) ∧ (decode dsX12_quietestOf_15 13 = .ok (.iload 4, 2) ∧ okop dsX12_quietestOf_15 13 = true) ∧ (decode dsX12_quietestOf_15 15 = .ok (.invokevirtual 427, 3) ∧ okop dsX12_quietestOf_15 15 = true) := by decide +kernel
theorem dX12_quietestOf_15 : decode cX12_quietestOf 15 = .ok (.iload_n 3, 1) := dgq (p := 0) daX12_quietestOf_15 dbX12_quietestOf_15.1
theorem dX12_quietestOf_16 : decode cX12_quietestOf 16 = .ok (.if_icmp .ge 35, 3) := dgq (p := 1) daX12_quietestOf_15 dbX12_quietestOf_15.2.1
theorem dX12_quietestOf_19 : decode cX12_quietestOf 19 = .ok (.aload_n 0, 1) := dgq (p := 4) daX12_quietestOf_15 dbX12_quietestOf_15.2.2.1
theorem dX12_quietestOf_20 : decode cX12_quietestOf 20 = .ok (.iload_n 3, 1) := dgq (p := 5) daX12_quietestOf_15 dbX12_quietestOf_15.2.2.2.1
theorem dX12_quietestOf_21 : decode cX12_quietestOf 21 = .ok (.iload 5, 2) := dgq (p := 6) daX12_quietestOf_15 dbX12_quietestOf_15.2.2.2.2.1
theorem dX12_quietestOf_23 : decode cX12_quietestOf 23 = .ok (.invokevirtual 427, 3) := dgq (p := 8) daX12_quietestOf_15 dbX12_quietestOf_15.2.2.2.2.2.1
theorem dX12_quietestOf_26 : decode cX12_quietestOf 26 = .ok (.aload_n 0, 1) := dgq (p := 11) daX12_quietestOf_15 dbX12_quietestOf_15.2.2.2.2.2.2.1
theorem dX12_quietestOf_27 : decode cX12_quietestOf 27 = .ok (.iload_n 3, 1) := dgq (p := 12) daX12_quietestOf_15 dbX12_quietestOf_15.2.2.2.2.2.2.2.1
theorem dX12_quietestOf_28 : decode cX12_quietestOf 28 = .ok (.iload 4, 2) := dgq (p := 13) daX12_quietestOf_15 dbX12_quietestOf_15.2.2.2.2.2.2.2.2.1
theorem dX12_quietestOf_30 : decode cX12_quietestOf 30 = .ok (.invokevirtual 427, 3) := dgq (p := 15) daX12_quietestOf_15 dbX12_quietestOf_15.2.2.2.2.2.2.2.2.2
def dsX12_quietestOf_33 : ByteArray := ⟨#[162, 0, 8, 21, 5, 167, 0, 5, 21, 4, 54, 4, 132, 5, 1, 167, 255, 221, 21, 4, 172]⟩
theorem daX12_quietestOf_33 : agB cX12_quietestOf dsX12_quietestOf_33 33 := agB_of (n := 21) (by decide +kernel)
theorem dbX12_quietestOf_33 : (decode dsX12_quietestOf_33 0 = .ok (.if_icmp .ge 8, 3) ∧ okop dsX12_quietestOf_33 0 = true) ∧ (decode dsX12_quietestOf_33 3 = .ok (.iload 5, 2) ∧ okop dsX12_quietestOf_33 3 = true) ∧ (decode dsX12_quietestOf_33 5 = .ok (.goto 5, 3) ∧ okop dsX12_quietestOf_33 5 = true) ∧ (decode dsX12_quietestOf_33 8 = .ok (.iload 4, 2) ∧ okop dsX12_quietestOf_33 8 = true) ∧ (decode dsX12_quietestOf_33 10 = .ok (.istore 4, 2) ∧ okop dsX12_quietestOf_33 10 = true) ∧ (decode dsX12_quietestOf_33 12 = .ok (.iinc 5 1, 3) ∧ okop dsX12_quietestOf_33 12 = true) ∧ (decode dsX12_quietestOf_33 15 = .ok (.goto (-35), 3) ∧ okop dsX12_quietestOf_33 15 = true) ∧ (decode dsX12_quietestOf_33 18 = .ok (.iload 4, 2) ∧ okop dsX12_quietestOf_33 18 = true) ∧ (decode dsX12_quietestOf_33 20 = .ok (.ireturn, 1) ∧ okop dsX12_quietestOf_33 20 = true) := by decide +kernel
theorem dX12_quietestOf_33 : decode cX12_quietestOf 33 = .ok (.if_icmp .ge 8, 3) := dgq (p := 0) daX12_quietestOf_33 dbX12_quietestOf_33.1
theorem dX12_quietestOf_36 : decode cX12_quietestOf 36 = .ok (.iload 5, 2) := dgq (p := 3) daX12_quietestOf_33 dbX12_quietestOf_33.2.1
theorem dX12_quietestOf_38 : decode cX12_quietestOf 38 = .ok (.goto 5, 3) := dgq (p := 5) daX12_quietestOf_33 dbX12_quietestOf_33.2.2.1
theorem dX12_quietestOf_41 : decode cX12_quietestOf 41 = .ok (.iload 4, 2) := dgq (p := 8) daX12_quietestOf_33 dbX12_quietestOf_33.2.2.2.1
theorem dX12_quietestOf_43 : decode cX12_quietestOf 43 = .ok (.istore 4, 2) := dgq (p := 10) daX12_quietestOf_33 dbX12_quietestOf_33.2.2.2.2.1
theorem dX12_quietestOf_45 : decode cX12_quietestOf 45 = .ok (.iinc 5 1, 3) := dgq (p := 12) daX12_quietestOf_33 dbX12_quietestOf_33.2.2.2.2.2.1
theorem dX12_quietestOf_48 : decode cX12_quietestOf 48 = .ok (.goto (-35), 3) := dgq (p := 15) daX12_quietestOf_33 dbX12_quietestOf_33.2.2.2.2.2.2.1
theorem dX12_quietestOf_51 : decode cX12_quietestOf 51 = .ok (.iload 4, 2) := dgq (p := 18) daX12_quietestOf_33 dbX12_quietestOf_33.2.2.2.2.2.2.2.1
theorem dX12_quietestOf_53 : decode cX12_quietestOf 53 = .ok (.ireturn, 1) := dgq (p := 20) daX12_quietestOf_33 dbX12_quietestOf_33.2.2.2.2.2.2.2.2
set_option maxRecDepth 20000 in
theorem ggX12_peak_X12_isGear : GoodIn wsX12_peak wsX12_isGear := goodIn_ca (goodIn_ca (goodIn_q _ [5, 6, 7, 8, 9, 10, 11, 12, 13, 14, 4, 15] rfl (by decide +kernel)) (goodIn_sub (fun _ h => (List.mem_cons_of_mem _ (List.mem_append_left _ (List.mem_append_left _ (List.mem_append_left _ (List.mem_append_right _ h)))))) tg_wsX120)) (goodIn_sub (fun _ h => (List.mem_cons_of_mem _ (List.mem_append_left _ (List.mem_append_left _ (List.mem_append_right _ h))))) tg_wsJx4a65c0)
set_option maxRecDepth 20000 in
theorem gX12_peak_X12_isGear : GoodIn wsX12_peak (wsV RX12 121 RX12 yX12_isGear wsX12_isGear) := goodIn_app (goodIn_q _ [1, 2, 3, 4] rfl (by decide +kernel)) ggX12_peak_X12_isGear
set_option maxRecDepth 20000 in
theorem ggX12_peak_X12_fails : GoodIn wsX12_peak wsX12_fails := goodIn_ca (goodIn_q _ [19, 20] rfl (by decide +kernel)) (goodIn_sub (fun _ h => (List.mem_cons_of_mem _ (List.mem_append_left _ (List.mem_append_left _ (List.mem_append_left _ (List.mem_append_right _ h)))))) tg_wsX120)
set_option maxRecDepth 20000 in
theorem gX12_peak_X12_fails : GoodIn wsX12_peak (wsV RX12 143 RX12 yX12_fails wsX12_fails) := goodIn_app (goodIn_q _ [16, 17, 18, 4] rfl (by decide +kernel)) ggX12_peak_X12_fails
set_option maxRecDepth 20000 in
theorem ggX12_peak_X12_gearAt : GoodIn wsX12_peak wsX12_gearAt := goodIn_ca (goodIn_ca (goodIn_q _ [24, 6, 25, 26, 27, 28, 10, 29, 12, 30, 31, 32, 33, 34, 35, 36, 37, 38, 39, 40, 41, 42] rfl (by decide +kernel)) (goodIn_sub (fun _ h => (List.mem_cons_of_mem _ (List.mem_append_left _ (List.mem_append_left _ (List.mem_append_left _ (List.mem_append_right _ h)))))) tg_wsX120)) (goodIn_sub (fun _ h => (List.mem_cons_of_mem _ (List.mem_append_left _ (List.mem_append_left _ (List.mem_append_right _ h))))) tg_wsJx4a65c0)
set_option maxRecDepth 20000 in
theorem gX12_peak_X12_gearAt : GoodIn wsX12_peak (wsV RX12 111 RX12 yX12_gearAt wsX12_gearAt) := goodIn_app (goodIn_q _ [21, 22, 23, 4] rfl (by decide +kernel)) ggX12_peak_X12_gearAt
set_option maxRecDepth 20000 in
theorem ggX12_peak_X12_in : GoodIn wsX12_peak wsX12_in := goodIn_q _ [15] rfl (by decide +kernel)
set_option maxRecDepth 20000 in
theorem gX12_peak_X12_in : GoodIn wsX12_peak (va_wsS RX12 101 yX12_in wsX12_in) := goodIn_app (goodIn_q _ [13, 14, 4] rfl (by decide +kernel)) ggX12_peak_X12_in
set_option maxRecDepth 20000 in
theorem ggX12_peak_X12_isPair : GoodIn wsX12_peak wsX12_isPair := goodIn_ca (goodIn_ca (goodIn_ca (goodIn_q _ [46, 21, 22, 23, 4, 24, 6, 25, 26, 27, 28, 10, 29, 12, 30, 31, 32, 33, 34, 35, 36, 37, 38, 39, 40, 41, 42] rfl (by decide +kernel)) (goodIn_sub (fun _ h => (List.mem_cons_of_mem _ (List.mem_append_left _ (List.mem_append_left _ (List.mem_append_left _ (List.mem_append_left _ (List.mem_append_right _ h))))))) tg_wsX100)) (goodIn_sub (fun _ h => (List.mem_cons_of_mem _ (List.mem_append_left _ (List.mem_append_left _ (List.mem_append_left _ (List.mem_append_right _ h)))))) tg_wsX120)) (goodIn_sub (fun _ h => (List.mem_cons_of_mem _ (List.mem_append_left _ (List.mem_append_left _ (List.mem_append_right _ h))))) tg_wsJx4a65c0)
set_option maxRecDepth 20000 in
theorem gX12_peak_X12_isPair : GoodIn wsX12_peak (wsV RX12 125 RX12 yX12_isPair wsX12_isPair) := goodIn_app (goodIn_q _ [43, 44, 45, 4] rfl (by decide +kernel)) ggX12_peak_X12_isPair
set_option maxRecDepth 20000 in
theorem ggX12_peak_X12_peakOf : GoodIn wsX12_peak wsX12_peakOf := goodIn_ca (goodIn_ca (goodIn_ca (goodIn_ca (goodIn_q _ [50, 51, 52, 53, 4, 54, 55, 56, 57, 58, 59, 60, 61, 62, 63, 64, 65, 66, 67, 68, 69, 70, 71, 72, 73, 74, 75, 76, 77, 78, 79, 80, 81, 82, 83, 84, 85] rfl (by decide +kernel)) (goodIn_sub (fun _ h => (List.mem_cons_of_mem _ (List.mem_append_left _ (List.mem_append_left _ (List.mem_append_left _ (List.mem_append_left _ (List.mem_append_right _ h))))))) tg_wsX100)) (goodIn_sub (fun _ h => (List.mem_cons_of_mem _ (List.mem_append_left _ (List.mem_append_left _ (List.mem_append_left _ (List.mem_append_right _ h)))))) tg_wsX120)) (goodIn_sub (fun _ h => List.mem_cons_of_mem _ (List.mem_append_left _ (List.mem_append_right _ h))) (by decide +kernel))) (goodIn_sub (fun _ h => List.mem_cons_of_mem _ (List.mem_append_right _ h)) (by decide +kernel))
set_option maxRecDepth 20000 in
theorem gX12_peak_X12_peakOf : GoodIn wsX12_peak (wsV RX12 430 RX12 yX12_peakOf wsX12_peakOf) := goodIn_app (goodIn_q _ [47, 48, 49, 4] rfl (by decide +kernel)) ggX12_peak_X12_peakOf
set_option maxRecDepth 20000 in
theorem ggX12_peak_X12_answer : GoodIn wsX12_peak wsX12_answer := goodIn_ca (goodIn_q _ [89, 20] rfl (by decide +kernel)) (goodIn_sub (fun _ h => (List.mem_cons_of_mem _ (List.mem_append_left _ (List.mem_append_left _ (List.mem_append_left _ (List.mem_append_right _ h)))))) tg_wsX120)
set_option maxRecDepth 20000 in
theorem gX12_peak_X12_answer : GoodIn wsX12_peak (wsV RX12 153 RX12 yX12_answer wsX12_answer) := goodIn_app (goodIn_q _ [86, 87, 88, 4] rfl (by decide +kernel)) ggX12_peak_X12_answer
def dsX12_peak_0 : ByteArray := ⟨#[42, 27, 182, 0, 121, 153, 0, 11, 42, 28, 182, 0, 121, 154, 0, 9, 42, 4]⟩
theorem daX12_peak_0 : agB cX12_peak dsX12_peak_0 0 := agB_of (n := 18) (by decide +kernel)
theorem dbX12_peak_0 : (decode dsX12_peak_0 0 = .ok (.aload_n 0, 1) ∧ okop dsX12_peak_0 0 = true) ∧ (decode dsX12_peak_0 1 = .ok (.iload_n 1, 1) ∧ okop dsX12_peak_0 1 = true) ∧ (decode dsX12_peak_0 2 = .ok (.invokevirtual 121, 3) ∧ okop dsX12_peak_0 2 = true) ∧ (decode dsX12_peak_0 5 = .ok (.ifCond .eq 11, 3) ∧ okop dsX12_peak_0 5 = true) ∧ (decode dsX12_peak_0 8 = .ok (.aload_n 0, 1) ∧ okop dsX12_peak_0 8 = true) ∧ (decode dsX12_peak_0 9 = .ok (.iload_n 2, 1) ∧ okop dsX12_peak_0 9 = true) ∧ (decode dsX12_peak_0 10 = .ok (.invokevirtual 121, 3) ∧ okop dsX12_peak_0 10 = true) ∧ (decode dsX12_peak_0 13 = .ok (.ifCond .ne 9, 3) ∧ okop dsX12_peak_0 13 = true) ∧ (decode dsX12_peak_0 16 = .ok (.aload_n 0, 1) ∧ okop dsX12_peak_0 16 = true) ∧ (decode dsX12_peak_0 17 = .ok (.iconst 1, 1) ∧ okop dsX12_peak_0 17 = true) := by decide +kernel
theorem dX12_peak_0 : decode cX12_peak 0 = .ok (.aload_n 0, 1) := dgq (p := 0) daX12_peak_0 dbX12_peak_0.1
theorem dX12_peak_1 : decode cX12_peak 1 = .ok (.iload_n 1, 1) := dgq (p := 1) daX12_peak_0 dbX12_peak_0.2.1
theorem dX12_peak_2 : decode cX12_peak 2 = .ok (.invokevirtual 121, 3) := dgq (p := 2) daX12_peak_0 dbX12_peak_0.2.2.1
theorem dX12_peak_5 : decode cX12_peak 5 = .ok (.ifCond .eq 11, 3) := dgq (p := 5) daX12_peak_0 dbX12_peak_0.2.2.2.1
theorem dX12_peak_8 : decode cX12_peak 8 = .ok (.aload_n 0, 1) := dgq (p := 8) daX12_peak_0 dbX12_peak_0.2.2.2.2.1
theorem dX12_peak_9 : decode cX12_peak 9 = .ok (.iload_n 2, 1) := dgq (p := 9) daX12_peak_0 dbX12_peak_0.2.2.2.2.2.1
theorem dX12_peak_10 : decode cX12_peak 10 = .ok (.invokevirtual 121, 3) := dgq (p := 10) daX12_peak_0 dbX12_peak_0.2.2.2.2.2.2.1
theorem dX12_peak_13 : decode cX12_peak 13 = .ok (.ifCond .ne 9, 3) := dgq (p := 13) daX12_peak_0 dbX12_peak_0.2.2.2.2.2.2.2.1
theorem dX12_peak_16 : decode cX12_peak 16 = .ok (.aload_n 0, 1) := dgq (p := 16) daX12_peak_0 dbX12_peak_0.2.2.2.2.2.2.2.2.1
theorem dX12_peak_17 : decode cX12_peak 17 = .ok (.iconst 1, 1) := dgq (p := 17) daX12_peak_0 dbX12_peak_0.2.2.2.2.2.2.2.2.2
def dsX12_peak_18 : ByteArray := ⟨#[182, 0, 143, 172, 29, 133, 9, 42, 28, 182, 0, 111, 180, 1, 76, 4]⟩
theorem daX12_peak_18 : agB cX12_peak dsX12_peak_18 18 := agB_of (n := 16) (by decide +kernel)
theorem dbX12_peak_18 : (decode dsX12_peak_18 0 = .ok (.invokevirtual 143, 3) ∧ okop dsX12_peak_18 0 = true) ∧ (decode dsX12_peak_18 3 = .ok (.ireturn, 1) ∧ okop dsX12_peak_18 3 = true) ∧ (decode dsX12_peak_18 4 = .ok (.iload_n 3, 1) ∧ okop dsX12_peak_18 4 = true) ∧ (decode dsX12_peak_18 5 = .ok (.i2l, 1) ∧ okop dsX12_peak_18 5 = true) ∧ (decode dsX12_peak_18 6 = .ok (.lconst 0, 1) ∧ okop dsX12_peak_18 6 = true) ∧ (decode dsX12_peak_18 7 = .ok (.aload_n 0, 1) ∧ okop dsX12_peak_18 7 = true) ∧ (decode dsX12_peak_18 8 = .ok (.iload_n 2, 1) ∧ okop dsX12_peak_18 8 = true) ∧ (decode dsX12_peak_18 9 = .ok (.invokevirtual 111, 3) ∧ okop dsX12_peak_18 9 = true) ∧ (decode dsX12_peak_18 12 = .ok (.getfield 332, 3) ∧ okop dsX12_peak_18 12 = true) ∧ (decode dsX12_peak_18 15 = .ok (.iconst 1, 1) ∧ okop dsX12_peak_18 15 = true) := by decide +kernel
theorem dX12_peak_18 : decode cX12_peak 18 = .ok (.invokevirtual 143, 3) := dgq (p := 0) daX12_peak_18 dbX12_peak_18.1
theorem dX12_peak_21 : decode cX12_peak 21 = .ok (.ireturn, 1) := dgq (p := 3) daX12_peak_18 dbX12_peak_18.2.1
theorem dX12_peak_22 : decode cX12_peak 22 = .ok (.iload_n 3, 1) := dgq (p := 4) daX12_peak_18 dbX12_peak_18.2.2.1
theorem dX12_peak_23 : decode cX12_peak 23 = .ok (.i2l, 1) := dgq (p := 5) daX12_peak_18 dbX12_peak_18.2.2.2.1
theorem dX12_peak_24 : decode cX12_peak 24 = .ok (.lconst 0, 1) := dgq (p := 6) daX12_peak_18 dbX12_peak_18.2.2.2.2.1
theorem dX12_peak_25 : decode cX12_peak 25 = .ok (.aload_n 0, 1) := dgq (p := 7) daX12_peak_18 dbX12_peak_18.2.2.2.2.2.1
theorem dX12_peak_26 : decode cX12_peak 26 = .ok (.iload_n 2, 1) := dgq (p := 8) daX12_peak_18 dbX12_peak_18.2.2.2.2.2.2.1
theorem dX12_peak_27 : decode cX12_peak 27 = .ok (.invokevirtual 111, 3) := dgq (p := 9) daX12_peak_18 dbX12_peak_18.2.2.2.2.2.2.2.1
theorem dX12_peak_30 : decode cX12_peak 30 = .ok (.getfield 332, 3) := dgq (p := 12) daX12_peak_18 dbX12_peak_18.2.2.2.2.2.2.2.2.1
theorem dX12_peak_33 : decode cX12_peak 33 = .ok (.iconst 1, 1) := dgq (p := 15) daX12_peak_18 dbX12_peak_18.2.2.2.2.2.2.2.2.2
def dsX12_peak_34 : ByteArray := ⟨#[100, 133, 184, 0, 101, 154, 0, 9, 42, 5, 182, 0, 143, 172, 42, 27]⟩
theorem daX12_peak_34 : agB cX12_peak dsX12_peak_34 34 := agB_of (n := 16) (by decide +kernel)
theorem dbX12_peak_34 : (decode dsX12_peak_34 0 = .ok (.isub, 1) ∧ okop dsX12_peak_34 0 = true) ∧ (decode dsX12_peak_34 1 = .ok (.i2l, 1) ∧ okop dsX12_peak_34 1 = true) ∧ (decode dsX12_peak_34 2 = .ok (.invokestatic 101, 3) ∧ okop dsX12_peak_34 2 = true) ∧ (decode dsX12_peak_34 5 = .ok (.ifCond .ne 9, 3) ∧ okop dsX12_peak_34 5 = true) ∧ (decode dsX12_peak_34 8 = .ok (.aload_n 0, 1) ∧ okop dsX12_peak_34 8 = true) ∧ (decode dsX12_peak_34 9 = .ok (.iconst 2, 1) ∧ okop dsX12_peak_34 9 = true) ∧ (decode dsX12_peak_34 10 = .ok (.invokevirtual 143, 3) ∧ okop dsX12_peak_34 10 = true) ∧ (decode dsX12_peak_34 13 = .ok (.ireturn, 1) ∧ okop dsX12_peak_34 13 = true) ∧ (decode dsX12_peak_34 14 = .ok (.aload_n 0, 1) ∧ okop dsX12_peak_34 14 = true) ∧ (decode dsX12_peak_34 15 = .ok (.iload_n 1, 1) ∧ okop dsX12_peak_34 15 = true) := by decide +kernel
theorem dX12_peak_34 : decode cX12_peak 34 = .ok (.isub, 1) := dgq (p := 0) daX12_peak_34 dbX12_peak_34.1
theorem dX12_peak_35 : decode cX12_peak 35 = .ok (.i2l, 1) := dgq (p := 1) daX12_peak_34 dbX12_peak_34.2.1
theorem dX12_peak_36 : decode cX12_peak 36 = .ok (.invokestatic 101, 3) := dgq (p := 2) daX12_peak_34 dbX12_peak_34.2.2.1
theorem dX12_peak_39 : decode cX12_peak 39 = .ok (.ifCond .ne 9, 3) := dgq (p := 5) daX12_peak_34 dbX12_peak_34.2.2.2.1
theorem dX12_peak_42 : decode cX12_peak 42 = .ok (.aload_n 0, 1) := dgq (p := 8) daX12_peak_34 dbX12_peak_34.2.2.2.2.1
theorem dX12_peak_43 : decode cX12_peak 43 = .ok (.iconst 2, 1) := dgq (p := 9) daX12_peak_34 dbX12_peak_34.2.2.2.2.2.1
theorem dX12_peak_44 : decode cX12_peak 44 = .ok (.invokevirtual 143, 3) := dgq (p := 10) daX12_peak_34 dbX12_peak_34.2.2.2.2.2.2.1
theorem dX12_peak_47 : decode cX12_peak 47 = .ok (.ireturn, 1) := dgq (p := 13) daX12_peak_34 dbX12_peak_34.2.2.2.2.2.2.2.1
theorem dX12_peak_48 : decode cX12_peak 48 = .ok (.aload_n 0, 1) := dgq (p := 14) daX12_peak_34 dbX12_peak_34.2.2.2.2.2.2.2.2.1
theorem dX12_peak_49 : decode cX12_peak 49 = .ok (.iload_n 1, 1) := dgq (p := 15) daX12_peak_34 dbX12_peak_34.2.2.2.2.2.2.2.2.2
def dsX12_peak_50 : ByteArray := ⟨#[28, 182, 0, 125, 153, 0, 25, 42, 42, 42, 27, 182, 0, 111, 42, 28]⟩
theorem daX12_peak_50 : agB cX12_peak dsX12_peak_50 50 := agB_of (n := 16) (by decide +kernel)
theorem dbX12_peak_50 : (decode dsX12_peak_50 0 = .ok (.iload_n 2, 1) ∧ okop dsX12_peak_50 0 = true) ∧ (decode dsX12_peak_50 1 = .ok (.invokevirtual 125, 3) ∧ okop dsX12_peak_50 1 = true) ∧ (decode dsX12_peak_50 4 = .ok (.ifCond .eq 25, 3) ∧ okop dsX12_peak_50 4 = true) ∧ (decode dsX12_peak_50 7 = .ok (.aload_n 0, 1) ∧ okop dsX12_peak_50 7 = true) ∧ (decode dsX12_peak_50 8 = .ok (.aload_n 0, 1) ∧ okop dsX12_peak_50 8 = true) ∧ (decode dsX12_peak_50 9 = .ok (.aload_n 0, 1) ∧ okop dsX12_peak_50 9 = true) ∧ (decode dsX12_peak_50 10 = .ok (.iload_n 1, 1) ∧ okop dsX12_peak_50 10 = true) ∧ (decode dsX12_peak_50 11 = .ok (.invokevirtual 111, 3) ∧ okop dsX12_peak_50 11 = true) ∧ (decode dsX12_peak_50 14 = .ok (.aload_n 0, 1) ∧ okop dsX12_peak_50 14 = true) ∧ (decode dsX12_peak_50 15 = .ok (.iload_n 2, 1) ∧ okop dsX12_peak_50 15 = true) := by decide +kernel
theorem dX12_peak_50 : decode cX12_peak 50 = .ok (.iload_n 2, 1) := dgq (p := 0) daX12_peak_50 dbX12_peak_50.1
theorem dX12_peak_51 : decode cX12_peak 51 = .ok (.invokevirtual 125, 3) := dgq (p := 1) daX12_peak_50 dbX12_peak_50.2.1
theorem dX12_peak_54 : decode cX12_peak 54 = .ok (.ifCond .eq 25, 3) := dgq (p := 4) daX12_peak_50 dbX12_peak_50.2.2.1
theorem dX12_peak_57 : decode cX12_peak 57 = .ok (.aload_n 0, 1) := dgq (p := 7) daX12_peak_50 dbX12_peak_50.2.2.2.1
theorem dX12_peak_58 : decode cX12_peak 58 = .ok (.aload_n 0, 1) := dgq (p := 8) daX12_peak_50 dbX12_peak_50.2.2.2.2.1
theorem dX12_peak_59 : decode cX12_peak 59 = .ok (.aload_n 0, 1) := dgq (p := 9) daX12_peak_50 dbX12_peak_50.2.2.2.2.2.1
theorem dX12_peak_60 : decode cX12_peak 60 = .ok (.iload_n 1, 1) := dgq (p := 10) daX12_peak_50 dbX12_peak_50.2.2.2.2.2.2.1
theorem dX12_peak_61 : decode cX12_peak 61 = .ok (.invokevirtual 111, 3) := dgq (p := 11) daX12_peak_50 dbX12_peak_50.2.2.2.2.2.2.2.1
theorem dX12_peak_64 : decode cX12_peak 64 = .ok (.aload_n 0, 1) := dgq (p := 14) daX12_peak_50 dbX12_peak_50.2.2.2.2.2.2.2.2.1
theorem dX12_peak_65 : decode cX12_peak 65 = .ok (.iload_n 2, 1) := dgq (p := 15) daX12_peak_50 dbX12_peak_50.2.2.2.2.2.2.2.2.2
def dsX12_peak_66 : ByteArray := ⟨#[182, 0, 111, 29, 182, 1, 174, 182, 0, 153, 167, 0, 8, 42, 6, 182, 0, 143, 172]⟩
theorem daX12_peak_66 : agB cX12_peak dsX12_peak_66 66 := agB_of (n := 19) (by decide +kernel)
theorem dbX12_peak_66 : (decode dsX12_peak_66 0 = .ok (.invokevirtual 111, 3) ∧ okop dsX12_peak_66 0 = true) ∧ (decode dsX12_peak_66 3 = .ok (.iload_n 3, 1) ∧ okop dsX12_peak_66 3 = true) ∧ (decode dsX12_peak_66 4 = .ok (.invokevirtual 430, 3) ∧ okop dsX12_peak_66 4 = true) ∧ (decode dsX12_peak_66 7 = .ok (.invokevirtual 153, 3) ∧ okop dsX12_peak_66 7 = true) ∧ (decode dsX12_peak_66 10 = .ok (.goto 8, 3) ∧ okop dsX12_peak_66 10 = true) ∧ (decode dsX12_peak_66 13 = .ok (.aload_n 0, 1) ∧ okop dsX12_peak_66 13 = true) ∧ (decode dsX12_peak_66 14 = .ok (.iconst 3, 1) ∧ okop dsX12_peak_66 14 = true) ∧ (decode dsX12_peak_66 15 = .ok (.invokevirtual 143, 3) ∧ okop dsX12_peak_66 15 = true) ∧ (decode dsX12_peak_66 18 = .ok (.ireturn, 1) ∧ okop dsX12_peak_66 18 = true) := by decide +kernel
theorem dX12_peak_66 : decode cX12_peak 66 = .ok (.invokevirtual 111, 3) := dgq (p := 0) daX12_peak_66 dbX12_peak_66.1
theorem dX12_peak_69 : decode cX12_peak 69 = .ok (.iload_n 3, 1) := dgq (p := 3) daX12_peak_66 dbX12_peak_66.2.1
theorem dX12_peak_70 : decode cX12_peak 70 = .ok (.invokevirtual 430, 3) := dgq (p := 4) daX12_peak_66 dbX12_peak_66.2.2.1
theorem dX12_peak_73 : decode cX12_peak 73 = .ok (.invokevirtual 153, 3) := dgq (p := 7) daX12_peak_66 dbX12_peak_66.2.2.2.1
theorem dX12_peak_76 : decode cX12_peak 76 = .ok (.goto 8, 3) := dgq (p := 10) daX12_peak_66 dbX12_peak_66.2.2.2.2.1
theorem dX12_peak_79 : decode cX12_peak 79 = .ok (.aload_n 0, 1) := dgq (p := 13) daX12_peak_66 dbX12_peak_66.2.2.2.2.2.1
theorem dX12_peak_80 : decode cX12_peak 80 = .ok (.iconst 3, 1) := dgq (p := 14) daX12_peak_66 dbX12_peak_66.2.2.2.2.2.2.1
theorem dX12_peak_81 : decode cX12_peak 81 = .ok (.invokevirtual 143, 3) := dgq (p := 15) daX12_peak_66 dbX12_peak_66.2.2.2.2.2.2.2.1
theorem dX12_peak_84 : decode cX12_peak 84 = .ok (.ireturn, 1) := dgq (p := 18) daX12_peak_66 dbX12_peak_66.2.2.2.2.2.2.2.2
set_option maxRecDepth 20000 in
theorem ggX12_quietest_X12_isAsked : GoodIn wsX12_quietest wsX12_isAsked := goodIn_ca (goodIn_ca (goodIn_ca (goodIn_q _ [5, 6, 7, 8, 9, 4, 10, 11, 12, 13, 14, 15, 16, 17, 18, 19, 20, 21, 22, 23, 24, 25, 26, 27, 28, 29, 30, 31, 32, 33, 34, 35, 36, 37, 38, 39, 40, 41, 42, 43, 44, 45, 46] rfl (by decide +kernel)) (goodIn_sub (fun _ h => (List.mem_cons_of_mem _ (List.mem_append_left _ (List.mem_append_left _ (List.mem_append_left _ (List.mem_append_left _ (List.mem_append_right _ h))))))) tg_wsX120)) (goodIn_sub (fun _ h => (List.mem_cons_of_mem _ (List.mem_append_left _ (List.mem_append_left _ (List.mem_append_left _ (List.mem_append_right _ h)))))) tg_wsJx4a65c0)) (goodIn_sub (fun _ h => (List.mem_cons_of_mem _ (List.mem_append_left _ (List.mem_append_left _ (List.mem_append_right _ h))))) tg_wsX100)
set_option maxRecDepth 20000 in
theorem gX12_quietest_X12_isAsked : GoodIn wsX12_quietest (wsV RX12 220 RX12 yX12_isAsked wsX12_isAsked) := goodIn_app (goodIn_q _ [1, 2, 3, 4] rfl (by decide +kernel)) ggX12_quietest_X12_isAsked
set_option maxRecDepth 20000 in
theorem ggX12_quietest_X12_gearAt : GoodIn wsX12_quietest wsX12_gearAt := goodIn_ca (goodIn_ca (goodIn_q _ [28, 11, 29, 30, 31, 32, 15, 33, 17, 34, 35, 36, 37, 38, 39, 40, 41, 42, 43, 44, 45, 46] rfl (by decide +kernel)) (goodIn_sub (fun _ h => (List.mem_cons_of_mem _ (List.mem_append_left _ (List.mem_append_left _ (List.mem_append_left _ (List.mem_append_left _ (List.mem_append_right _ h))))))) tg_wsX120)) (goodIn_sub (fun _ h => (List.mem_cons_of_mem _ (List.mem_append_left _ (List.mem_append_left _ (List.mem_append_left _ (List.mem_append_right _ h)))))) tg_wsJx4a65c0)
set_option maxRecDepth 20000 in
theorem gX12_quietest_X12_gearAt : GoodIn wsX12_quietest (wsV RX12 111 RX12 yX12_gearAt wsX12_gearAt) := goodIn_app (goodIn_q _ [25, 26, 27, 4] rfl (by decide +kernel)) ggX12_quietest_X12_gearAt
set_option maxRecDepth 20000 in
theorem ggX12_quietest_X12_quietestOf : GoodIn wsX12_quietest wsX12_quietestOf := goodIn_ca (goodIn_ca (goodIn_ca (goodIn_ca (goodIn_q _ [50, 51, 52, 53, 4, 54, 55, 56, 57, 58, 59, 60, 61, 62, 63, 64, 65, 66, 67, 68, 69, 70, 71, 72, 73, 74, 75, 76, 77, 78, 79, 80, 81, 82, 83, 84, 85] rfl (by decide +kernel)) (goodIn_sub (fun _ h => (List.mem_cons_of_mem _ (List.mem_append_left _ (List.mem_append_left _ (List.mem_append_right _ h))))) tg_wsX100)) (goodIn_sub (fun _ h => (List.mem_cons_of_mem _ (List.mem_append_left _ (List.mem_append_left _ (List.mem_append_left _ (List.mem_append_left _ (List.mem_append_right _ h))))))) tg_wsX120)) (goodIn_sub (fun _ h => List.mem_cons_of_mem _ (List.mem_append_left _ (List.mem_append_right _ h))) (by decide +kernel))) (goodIn_sub (fun _ h => List.mem_cons_of_mem _ (List.mem_append_right _ h)) (by decide +kernel))
set_option maxRecDepth 20000 in
theorem gX12_quietest_X12_quietestOf : GoodIn wsX12_quietest (wsV RX12 434 RX12 yX12_quietestOf wsX12_quietestOf) := goodIn_app (goodIn_q _ [47, 48, 49, 4] rfl (by decide +kernel)) ggX12_quietest_X12_quietestOf
def dsX12_quietest_0 : ByteArray := ⟨#[42, 27, 28, 4, 5, 182, 0, 220, 153, 0, 20, 42, 42, 27]⟩
theorem daX12_quietest_0 : agB cX12_quietest dsX12_quietest_0 0 := agB_of (n := 14) (by decide +kernel)
theorem dbX12_quietest_0 : (decode dsX12_quietest_0 0 = .ok (.aload_n 0, 1) ∧ okop dsX12_quietest_0 0 = true) ∧ (decode dsX12_quietest_0 1 = .ok (.iload_n 1, 1) ∧ okop dsX12_quietest_0 1 = true) ∧ (decode dsX12_quietest_0 2 = .ok (.iload_n 2, 1) ∧ okop dsX12_quietest_0 2 = true) ∧ (decode dsX12_quietest_0 3 = .ok (.iconst 1, 1) ∧ okop dsX12_quietest_0 3 = true) ∧ (decode dsX12_quietest_0 4 = .ok (.iconst 2, 1) ∧ okop dsX12_quietest_0 4 = true) ∧ (decode dsX12_quietest_0 5 = .ok (.invokevirtual 220, 3) ∧ okop dsX12_quietest_0 5 = true) ∧ (decode dsX12_quietest_0 8 = .ok (.ifCond .eq 20, 3) ∧ okop dsX12_quietest_0 8 = true) ∧ (decode dsX12_quietest_0 11 = .ok (.aload_n 0, 1) ∧ okop dsX12_quietest_0 11 = true) ∧ (decode dsX12_quietest_0 12 = .ok (.aload_n 0, 1) ∧ okop dsX12_quietest_0 12 = true) ∧ (decode dsX12_quietest_0 13 = .ok (.iload_n 1, 1) ∧ okop dsX12_quietest_0 13 = true) := by decide +kernel
theorem dX12_quietest_0 : decode cX12_quietest 0 = .ok (.aload_n 0, 1) := dgq (p := 0) daX12_quietest_0 dbX12_quietest_0.1
theorem dX12_quietest_1 : decode cX12_quietest 1 = .ok (.iload_n 1, 1) := dgq (p := 1) daX12_quietest_0 dbX12_quietest_0.2.1
theorem dX12_quietest_2 : decode cX12_quietest 2 = .ok (.iload_n 2, 1) := dgq (p := 2) daX12_quietest_0 dbX12_quietest_0.2.2.1
theorem dX12_quietest_3 : decode cX12_quietest 3 = .ok (.iconst 1, 1) := dgq (p := 3) daX12_quietest_0 dbX12_quietest_0.2.2.2.1
theorem dX12_quietest_4 : decode cX12_quietest 4 = .ok (.iconst 2, 1) := dgq (p := 4) daX12_quietest_0 dbX12_quietest_0.2.2.2.2.1
theorem dX12_quietest_5 : decode cX12_quietest 5 = .ok (.invokevirtual 220, 3) := dgq (p := 5) daX12_quietest_0 dbX12_quietest_0.2.2.2.2.2.1
theorem dX12_quietest_8 : decode cX12_quietest 8 = .ok (.ifCond .eq 20, 3) := dgq (p := 8) daX12_quietest_0 dbX12_quietest_0.2.2.2.2.2.2.1
theorem dX12_quietest_11 : decode cX12_quietest 11 = .ok (.aload_n 0, 1) := dgq (p := 11) daX12_quietest_0 dbX12_quietest_0.2.2.2.2.2.2.2.1
theorem dX12_quietest_12 : decode cX12_quietest 12 = .ok (.aload_n 0, 1) := dgq (p := 12) daX12_quietest_0 dbX12_quietest_0.2.2.2.2.2.2.2.2.1
theorem dX12_quietest_13 : decode cX12_quietest 13 = .ok (.iload_n 1, 1) := dgq (p := 13) daX12_quietest_0 dbX12_quietest_0.2.2.2.2.2.2.2.2.2
def dsX12_quietest_14 : ByteArray := ⟨#[182, 0, 111, 42, 28, 182, 0, 111, 182, 1, 178, 167, 0, 4, 3, 172]⟩
theorem daX12_quietest_14 : agB cX12_quietest dsX12_quietest_14 14 := agB_of (n := 16) (by decide +kernel)
theorem dbX12_quietest_14 : (decode dsX12_quietest_14 0 = .ok (.invokevirtual 111, 3) ∧ okop dsX12_quietest_14 0 = true) ∧ (decode dsX12_quietest_14 3 = .ok (.aload_n 0, 1) ∧ okop dsX12_quietest_14 3 = true) ∧ (decode dsX12_quietest_14 4 = .ok (.iload_n 2, 1) ∧ okop dsX12_quietest_14 4 = true) ∧ (decode dsX12_quietest_14 5 = .ok (.invokevirtual 111, 3) ∧ okop dsX12_quietest_14 5 = true) ∧ (decode dsX12_quietest_14 8 = .ok (.invokevirtual 434, 3) ∧ okop dsX12_quietest_14 8 = true) ∧ (decode dsX12_quietest_14 11 = .ok (.goto 4, 3) ∧ okop dsX12_quietest_14 11 = true) ∧ (decode dsX12_quietest_14 14 = .ok (.iconst 0, 1) ∧ okop dsX12_quietest_14 14 = true) ∧ (decode dsX12_quietest_14 15 = .ok (.ireturn, 1) ∧ okop dsX12_quietest_14 15 = true) := by decide +kernel
theorem dX12_quietest_14 : decode cX12_quietest 14 = .ok (.invokevirtual 111, 3) := dgq (p := 0) daX12_quietest_14 dbX12_quietest_14.1
theorem dX12_quietest_17 : decode cX12_quietest 17 = .ok (.aload_n 0, 1) := dgq (p := 3) daX12_quietest_14 dbX12_quietest_14.2.1
theorem dX12_quietest_18 : decode cX12_quietest 18 = .ok (.iload_n 2, 1) := dgq (p := 4) daX12_quietest_14 dbX12_quietest_14.2.2.1
theorem dX12_quietest_19 : decode cX12_quietest 19 = .ok (.invokevirtual 111, 3) := dgq (p := 5) daX12_quietest_14 dbX12_quietest_14.2.2.2.1
theorem dX12_quietest_22 : decode cX12_quietest 22 = .ok (.invokevirtual 434, 3) := dgq (p := 8) daX12_quietest_14 dbX12_quietest_14.2.2.2.2.1
theorem dX12_quietest_25 : decode cX12_quietest 25 = .ok (.goto 4, 3) := dgq (p := 11) daX12_quietest_14 dbX12_quietest_14.2.2.2.2.2.1
theorem dX12_quietest_28 : decode cX12_quietest 28 = .ok (.iconst 0, 1) := dgq (p := 14) daX12_quietest_14 dbX12_quietest_14.2.2.2.2.2.2.1
theorem dX12_quietest_29 : decode cX12_quietest 29 = .ok (.ireturn, 1) := dgq (p := 15) daX12_quietest_14 dbX12_quietest_14.2.2.2.2.2.2.2
set_option maxRecDepth 20000 in
theorem ggX12_note_X12_isGear : GoodIn wsX12_note wsX12_isGear := goodIn_ca (goodIn_ca (goodIn_q _ [13, 14, 15, 16, 17, 18, 19, 20, 21, 22, 12, 23] rfl (by decide +kernel)) (goodIn_sub (fun _ h => (List.mem_cons_of_mem _ (List.mem_append_left _ (List.mem_append_left _ (List.mem_append_left _ (List.mem_append_right _ h)))))) tg_wsX120)) (goodIn_sub (fun _ h => (List.mem_cons_of_mem _ (List.mem_append_left _ (List.mem_append_left _ (List.mem_append_right _ h))))) tg_wsJx4a65c0)
set_option maxRecDepth 20000 in
theorem gX12_note_X12_isGear : GoodIn wsX12_note (wsV RX12 121 RX12 yX12_isGear wsX12_isGear) := goodIn_app (goodIn_q _ [9, 10, 11, 12] rfl (by decide +kernel)) ggX12_note_X12_isGear
set_option maxRecDepth 20000 in
theorem ggX12_note_X12_fails : GoodIn wsX12_note wsX12_fails := goodIn_ca (goodIn_q _ [27, 28] rfl (by decide +kernel)) (goodIn_sub (fun _ h => (List.mem_cons_of_mem _ (List.mem_append_left _ (List.mem_append_left _ (List.mem_append_left _ (List.mem_append_right _ h)))))) tg_wsX120)
set_option maxRecDepth 20000 in
theorem gX12_note_X12_fails : GoodIn wsX12_note (wsV RX12 143 RX12 yX12_fails wsX12_fails) := goodIn_app (goodIn_q _ [24, 25, 26, 12] rfl (by decide +kernel)) ggX12_note_X12_fails
set_option maxRecDepth 20000 in
theorem ggX12_note_X12_in : GoodIn wsX12_note wsX12_in := goodIn_q _ [23] rfl (by decide +kernel)
set_option maxRecDepth 20000 in
theorem gX12_note_X12_in : GoodIn wsX12_note (va_wsS RX12 101 yX12_in wsX12_in) := goodIn_app (goodIn_q _ [21, 22, 12] rfl (by decide +kernel)) ggX12_note_X12_in
set_option maxRecDepth 20000 in
theorem ggX12_note_X12_isPair : GoodIn wsX12_note wsX12_isPair := goodIn_ca (goodIn_ca (goodIn_ca (goodIn_q _ [32, 33, 34, 35, 12, 36, 14, 37, 38, 39, 40, 18, 41, 20, 42, 43, 44, 45, 46, 47, 48, 49, 50, 51, 52, 53, 54] rfl (by decide +kernel)) (goodIn_sub (fun _ h => (List.mem_cons_of_mem _ (List.mem_append_left _ (List.mem_append_left _ (List.mem_append_left _ (List.mem_append_left _ (List.mem_append_right _ h))))))) tg_wsX100)) (goodIn_sub (fun _ h => (List.mem_cons_of_mem _ (List.mem_append_left _ (List.mem_append_left _ (List.mem_append_left _ (List.mem_append_right _ h)))))) tg_wsX120)) (goodIn_sub (fun _ h => (List.mem_cons_of_mem _ (List.mem_append_left _ (List.mem_append_left _ (List.mem_append_right _ h))))) tg_wsJx4a65c0)
set_option maxRecDepth 20000 in
theorem gX12_note_X12_isPair : GoodIn wsX12_note (wsV RX12 125 RX12 yX12_isPair wsX12_isPair) := goodIn_app (goodIn_q _ [29, 30, 31, 12] rfl (by decide +kernel)) ggX12_note_X12_isPair
set_option maxRecDepth 20000 in
theorem ggX12_note_X12_gearAt : GoodIn wsX12_note wsX12_gearAt := goodIn_ca (goodIn_ca (goodIn_q _ [36, 14, 37, 38, 39, 40, 18, 41, 20, 42, 43, 44, 45, 46, 47, 48, 49, 50, 51, 52, 53, 54] rfl (by decide +kernel)) (goodIn_sub (fun _ h => (List.mem_cons_of_mem _ (List.mem_append_left _ (List.mem_append_left _ (List.mem_append_left _ (List.mem_append_right _ h)))))) tg_wsX120)) (goodIn_sub (fun _ h => (List.mem_cons_of_mem _ (List.mem_append_left _ (List.mem_append_left _ (List.mem_append_right _ h))))) tg_wsJx4a65c0)
set_option maxRecDepth 20000 in
theorem gX12_note_X12_gearAt : GoodIn wsX12_note (wsV RX12 111 RX12 yX12_gearAt wsX12_gearAt) := goodIn_app (goodIn_q _ [33, 34, 35, 12] rfl (by decide +kernel)) ggX12_note_X12_gearAt
set_option maxRecDepth 20000 in
theorem ggX12_note_X10_partOrNone : GoodIn wsX12_note wsX10_partOrNone := goodIn_ca (goodIn_ca (goodIn_ca (goodIn_q _ [59, 60, 61, 62, 63, 58, 64, 65, 66, 7, 4, 8, 67, 68, 69] rfl (by decide +kernel)) (goodIn_sub (fun _ h => (List.mem_cons_of_mem _ (List.mem_append_left _ (List.mem_append_left _ (List.mem_append_left _ (List.mem_append_left _ (List.mem_append_right _ h))))))) tg_wsX100)) (goodIn_sub (fun _ h => List.mem_cons_of_mem _ (List.mem_append_left _ (List.mem_append_right _ h))) (by decide +kernel))) (goodIn_sub (fun _ h => List.mem_cons_of_mem _ (List.mem_append_right _ h)) (by decide +kernel))
set_option maxRecDepth 20000 in
theorem gX12_note_X10_partOrNone : GoodIn wsX12_note (wsV RX12 415 RX10 yX10_partOrNone wsX10_partOrNone) := goodIn_app (goodIn_q _ [55, 56, 57, 58] rfl (by decide +kernel)) ggX12_note_X10_partOrNone
set_option maxRecDepth 20000 in
theorem ggX12_note_X12_answer : GoodIn wsX12_note wsX12_answer := goodIn_ca (goodIn_q _ [73, 28] rfl (by decide +kernel)) (goodIn_sub (fun _ h => (List.mem_cons_of_mem _ (List.mem_append_left _ (List.mem_append_left _ (List.mem_append_left _ (List.mem_append_right _ h)))))) tg_wsX120)
set_option maxRecDepth 20000 in
theorem gX12_note_X12_answer : GoodIn wsX12_note (wsV RX12 153 RX12 yX12_answer wsX12_answer) := goodIn_app (goodIn_q _ [70, 71, 72, 12] rfl (by decide +kernel)) ggX12_note_X12_answer
def dsX12_note_0 : ByteArray := ⟨#[42, 27, 182, 0, 121]⟩
theorem daX12_note_0 : agB cX12_note dsX12_note_0 0 := agB_of (n := 5) (by decide +kernel)
theorem dbX12_note_0 : (decode dsX12_note_0 0 = .ok (.aload_n 0, 1) ∧ okop dsX12_note_0 0 = true) ∧ (decode dsX12_note_0 1 = .ok (.iload_n 1, 1) ∧ okop dsX12_note_0 1 = true) ∧ (decode dsX12_note_0 2 = .ok (.invokevirtual 121, 3) ∧ okop dsX12_note_0 2 = true) := by decide +kernel
theorem dX12_note_0 : decode cX12_note 0 = .ok (.aload_n 0, 1) := dgq (p := 0) daX12_note_0 dbX12_note_0.1
theorem dX12_note_1 : decode cX12_note 1 = .ok (.iload_n 1, 1) := dgq (p := 1) daX12_note_0 dbX12_note_0.2.1
theorem dX12_note_2 : decode cX12_note 2 = .ok (.invokevirtual 121, 3) := dgq (p := 2) daX12_note_0 dbX12_note_0.2.2
