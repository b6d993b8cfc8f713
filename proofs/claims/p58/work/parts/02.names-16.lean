def dsX12_note_5 : ByteArray := ⟨#[153, 0, 11, 42, 28, 182, 0, 121, 154, 0, 9, 42, 4, 182, 0, 143, 172, 29]⟩
theorem daX12_note_5 : agB cX12_note dsX12_note_5 5 := agB_of (n := 18) (by decide +kernel)
theorem dbX12_note_5 : (decode dsX12_note_5 0 = .ok (.ifCond .eq 11, 3) ∧ okop dsX12_note_5 0 = true) ∧ (decode dsX12_note_5 3 = .ok (.aload_n 0, 1) ∧ okop dsX12_note_5 3 = true) ∧ (decode dsX12_note_5 4 = .ok (.iload_n 2, 1) ∧ okop dsX12_note_5 4 = true) ∧ (decode dsX12_note_5 5 = .ok (.invokevirtual 121, 3) ∧ okop dsX12_note_5 5 = true) ∧ (decode dsX12_note_5 8 = .ok (.ifCond .ne 9, 3) ∧ okop dsX12_note_5 8 = true) ∧ (decode dsX12_note_5 11 = .ok (.aload_n 0, 1) ∧ okop dsX12_note_5 11 = true) ∧ (decode dsX12_note_5 12 = .ok (.iconst 1, 1) ∧ okop dsX12_note_5 12 = true) ∧ (decode dsX12_note_5 13 = .ok (.invokevirtual 143, 3) ∧ okop dsX12_note_5 13 = true) ∧ (decode dsX12_note_5 16 = .ok (.ireturn, 1) ∧ okop dsX12_note_5 16 = true) ∧ (decode dsX12_note_5 17 = .ok (.iload_n 3, 1) ∧ okop dsX12_note_5 17 = true) := by decide +kernel
theorem dX12_note_5 : decode cX12_note 5 = .ok (.ifCond .eq 11, 3) := dgq (p := 0) daX12_note_5 dbX12_note_5.1
theorem dX12_note_8 : decode cX12_note 8 = .ok (.aload_n 0, 1) := dgq (p := 3) daX12_note_5 dbX12_note_5.2.1
theorem dX12_note_9 : decode cX12_note 9 = .ok (.iload_n 2, 1) := dgq (p := 4) daX12_note_5 dbX12_note_5.2.2.1
theorem dX12_note_10 : decode cX12_note 10 = .ok (.invokevirtual 121, 3) := dgq (p := 5) daX12_note_5 dbX12_note_5.2.2.2.1
theorem dX12_note_13 : decode cX12_note 13 = .ok (.ifCond .ne 9, 3) := dgq (p := 8) daX12_note_5 dbX12_note_5.2.2.2.2.1
theorem dX12_note_16 : decode cX12_note 16 = .ok (.aload_n 0, 1) := dgq (p := 11) daX12_note_5 dbX12_note_5.2.2.2.2.2.1
theorem dX12_note_17 : decode cX12_note 17 = .ok (.iconst 1, 1) := dgq (p := 12) daX12_note_5 dbX12_note_5.2.2.2.2.2.2.1
theorem dX12_note_18 : decode cX12_note 18 = .ok (.invokevirtual 143, 3) := dgq (p := 13) daX12_note_5 dbX12_note_5.2.2.2.2.2.2.2.1
theorem dX12_note_21 : decode cX12_note 21 = .ok (.ireturn, 1) := dgq (p := 16) daX12_note_5 dbX12_note_5.2.2.2.2.2.2.2.2.1
theorem dX12_note_22 : decode cX12_note 22 = .ok (.iload_n 3, 1) := dgq (p := 17) daX12_note_5 dbX12_note_5.2.2.2.2.2.2.2.2.2
def dsX12_note_23 : ByteArray := ⟨#[133, 10, 20, 0, 131, 184, 0, 101, 154, 0, 9, 42, 5, 182, 0, 143, 172, 42]⟩
theorem daX12_note_23 : agB cX12_note dsX12_note_23 23 := agB_of (n := 18) (by decide +kernel)
theorem dbX12_note_23 : (decode dsX12_note_23 0 = .ok (.i2l, 1) ∧ okop dsX12_note_23 0 = true) ∧ (decode dsX12_note_23 1 = .ok (.lconst 1, 1) ∧ okop dsX12_note_23 1 = true) ∧ (decode dsX12_note_23 2 = .ok (.ldc2_w 131, 3) ∧ okop dsX12_note_23 2 = true) ∧ (decode dsX12_note_23 5 = .ok (.invokestatic 101, 3) ∧ okop dsX12_note_23 5 = true) ∧ (decode dsX12_note_23 8 = .ok (.ifCond .ne 9, 3) ∧ okop dsX12_note_23 8 = true) ∧ (decode dsX12_note_23 11 = .ok (.aload_n 0, 1) ∧ okop dsX12_note_23 11 = true) ∧ (decode dsX12_note_23 12 = .ok (.iconst 2, 1) ∧ okop dsX12_note_23 12 = true) ∧ (decode dsX12_note_23 13 = .ok (.invokevirtual 143, 3) ∧ okop dsX12_note_23 13 = true) ∧ (decode dsX12_note_23 16 = .ok (.ireturn, 1) ∧ okop dsX12_note_23 16 = true) ∧ (decode dsX12_note_23 17 = .ok (.aload_n 0, 1) ∧ okop dsX12_note_23 17 = true) := by decide +kernel
theorem dX12_note_23 : decode cX12_note 23 = .ok (.i2l, 1) := dgq (p := 0) daX12_note_23 dbX12_note_23.1
theorem dX12_note_24 : decode cX12_note 24 = .ok (.lconst 1, 1) := dgq (p := 1) daX12_note_23 dbX12_note_23.2.1
theorem dX12_note_25 : decode cX12_note 25 = .ok (.ldc2_w 131, 3) := dgq (p := 2) daX12_note_23 dbX12_note_23.2.2.1
theorem dX12_note_28 : decode cX12_note 28 = .ok (.invokestatic 101, 3) := dgq (p := 5) daX12_note_23 dbX12_note_23.2.2.2.1
theorem dX12_note_31 : decode cX12_note 31 = .ok (.ifCond .ne 9, 3) := dgq (p := 8) daX12_note_23 dbX12_note_23.2.2.2.2.1
theorem dX12_note_34 : decode cX12_note 34 = .ok (.aload_n 0, 1) := dgq (p := 11) daX12_note_23 dbX12_note_23.2.2.2.2.2.1
theorem dX12_note_35 : decode cX12_note 35 = .ok (.iconst 2, 1) := dgq (p := 12) daX12_note_23 dbX12_note_23.2.2.2.2.2.2.1
theorem dX12_note_36 : decode cX12_note 36 = .ok (.invokevirtual 143, 3) := dgq (p := 13) daX12_note_23 dbX12_note_23.2.2.2.2.2.2.2.1
theorem dX12_note_39 : decode cX12_note 39 = .ok (.ireturn, 1) := dgq (p := 16) daX12_note_23 dbX12_note_23.2.2.2.2.2.2.2.2.1
theorem dX12_note_40 : decode cX12_note 40 = .ok (.aload_n 0, 1) := dgq (p := 17) daX12_note_23 dbX12_note_23.2.2.2.2.2.2.2.2.2
def dsX12_note_41 : ByteArray := ⟨#[27, 28, 182, 0, 125, 154, 0, 9, 42, 6, 182, 0, 143, 172, 42, 27]⟩
theorem daX12_note_41 : agB cX12_note dsX12_note_41 41 := agB_of (n := 16) (by decide +kernel)
theorem dbX12_note_41 : (decode dsX12_note_41 0 = .ok (.iload_n 1, 1) ∧ okop dsX12_note_41 0 = true) ∧ (decode dsX12_note_41 1 = .ok (.iload_n 2, 1) ∧ okop dsX12_note_41 1 = true) ∧ (decode dsX12_note_41 2 = .ok (.invokevirtual 125, 3) ∧ okop dsX12_note_41 2 = true) ∧ (decode dsX12_note_41 5 = .ok (.ifCond .ne 9, 3) ∧ okop dsX12_note_41 5 = true) ∧ (decode dsX12_note_41 8 = .ok (.aload_n 0, 1) ∧ okop dsX12_note_41 8 = true) ∧ (decode dsX12_note_41 9 = .ok (.iconst 3, 1) ∧ okop dsX12_note_41 9 = true) ∧ (decode dsX12_note_41 10 = .ok (.invokevirtual 143, 3) ∧ okop dsX12_note_41 10 = true) ∧ (decode dsX12_note_41 13 = .ok (.ireturn, 1) ∧ okop dsX12_note_41 13 = true) ∧ (decode dsX12_note_41 14 = .ok (.aload_n 0, 1) ∧ okop dsX12_note_41 14 = true) ∧ (decode dsX12_note_41 15 = .ok (.iload_n 1, 1) ∧ okop dsX12_note_41 15 = true) := by decide +kernel
theorem dX12_note_41 : decode cX12_note 41 = .ok (.iload_n 1, 1) := dgq (p := 0) daX12_note_41 dbX12_note_41.1
theorem dX12_note_42 : decode cX12_note 42 = .ok (.iload_n 2, 1) := dgq (p := 1) daX12_note_41 dbX12_note_41.2.1
theorem dX12_note_43 : decode cX12_note 43 = .ok (.invokevirtual 125, 3) := dgq (p := 2) daX12_note_41 dbX12_note_41.2.2.1
theorem dX12_note_46 : decode cX12_note 46 = .ok (.ifCond .ne 9, 3) := dgq (p := 5) daX12_note_41 dbX12_note_41.2.2.2.1
theorem dX12_note_49 : decode cX12_note 49 = .ok (.aload_n 0, 1) := dgq (p := 8) daX12_note_41 dbX12_note_41.2.2.2.2.1
theorem dX12_note_50 : decode cX12_note 50 = .ok (.iconst 3, 1) := dgq (p := 9) daX12_note_41 dbX12_note_41.2.2.2.2.2.1
theorem dX12_note_51 : decode cX12_note 51 = .ok (.invokevirtual 143, 3) := dgq (p := 10) daX12_note_41 dbX12_note_41.2.2.2.2.2.2.1
theorem dX12_note_54 : decode cX12_note 54 = .ok (.ireturn, 1) := dgq (p := 13) daX12_note_41 dbX12_note_41.2.2.2.2.2.2.2.1
theorem dX12_note_55 : decode cX12_note 55 = .ok (.aload_n 0, 1) := dgq (p := 14) daX12_note_41 dbX12_note_41.2.2.2.2.2.2.2.2.1
theorem dX12_note_56 : decode cX12_note 56 = .ok (.iload_n 1, 1) := dgq (p := 15) daX12_note_41 dbX12_note_41.2.2.2.2.2.2.2.2.2
def dsX12_note_57 : ByteArray := ⟨#[182, 0, 111, 58, 4, 42, 28, 182, 0, 111, 58, 5, 25, 4, 29, 182, 1, 159, 54, 6]⟩
theorem daX12_note_57 : agB cX12_note dsX12_note_57 57 := agB_of (n := 20) (by decide +kernel)
theorem dbX12_note_57 : (decode dsX12_note_57 0 = .ok (.invokevirtual 111, 3) ∧ okop dsX12_note_57 0 = true) ∧ (decode dsX12_note_57 3 = .ok (.astore 4, 2) ∧ okop dsX12_note_57 3 = true) ∧ (decode dsX12_note_57 5 = .ok (.aload_n 0, 1) ∧ okop dsX12_note_57 5 = true) ∧ (decode dsX12_note_57 6 = .ok (.iload_n 2, 1) ∧ okop dsX12_note_57 6 = true) ∧ (decode dsX12_note_57 7 = .ok (.invokevirtual 111, 3) ∧ okop dsX12_note_57 7 = true) ∧ (decode dsX12_note_57 10 = .ok (.astore 5, 2) ∧ okop dsX12_note_57 10 = true) ∧ (decode dsX12_note_57 12 = .ok (.aload 4, 2) ∧ okop dsX12_note_57 12 = true) ∧ (decode dsX12_note_57 14 = .ok (.iload_n 3, 1) ∧ okop dsX12_note_57 14 = true) ∧ (decode dsX12_note_57 15 = .ok (.invokevirtual 415, 3) ∧ okop dsX12_note_57 15 = true) ∧ (decode dsX12_note_57 18 = .ok (.istore 6, 2) ∧ okop dsX12_note_57 18 = true) := by decide +kernel
theorem dX12_note_57 : decode cX12_note 57 = .ok (.invokevirtual 111, 3) := dgq (p := 0) daX12_note_57 dbX12_note_57.1
theorem dX12_note_60 : decode cX12_note 60 = .ok (.astore 4, 2) := dgq (p := 3) daX12_note_57 dbX12_note_57.2.1
theorem dX12_note_62 : decode cX12_note 62 = .ok (.aload_n 0, 1) := dgq (p := 5) daX12_note_57 dbX12_note_57.2.2.1
theorem dX12_note_63 : decode cX12_note 63 = .ok (.iload_n 2, 1) := dgq (p := 6) daX12_note_57 dbX12_note_57.2.2.2.1
theorem dX12_note_64 : decode cX12_note 64 = .ok (.invokevirtual 111, 3) := dgq (p := 7) daX12_note_57 dbX12_note_57.2.2.2.2.1
theorem dX12_note_67 : decode cX12_note 67 = .ok (.astore 5, 2) := dgq (p := 10) daX12_note_57 dbX12_note_57.2.2.2.2.2.1
theorem dX12_note_69 : decode cX12_note 69 = .ok (.aload 4, 2) := dgq (p := 12) daX12_note_57 dbX12_note_57.2.2.2.2.2.2.1
theorem dX12_note_71 : decode cX12_note 71 = .ok (.iload_n 3, 1) := dgq (p := 14) daX12_note_57 dbX12_note_57.2.2.2.2.2.2.2.1
theorem dX12_note_72 : decode cX12_note 72 = .ok (.invokevirtual 415, 3) := dgq (p := 15) daX12_note_57 dbX12_note_57.2.2.2.2.2.2.2.2.1
theorem dX12_note_75 : decode cX12_note 75 = .ok (.istore 6, 2) := dgq (p := 18) daX12_note_57 dbX12_note_57.2.2.2.2.2.2.2.2.2
def dsX12_note_77 : ByteArray := ⟨#[25, 5, 29, 182, 1, 159, 54, 7, 25, 4, 180, 1, 76, 29, 112, 154, 0, 17, 25, 5]⟩
theorem daX12_note_77 : agB cX12_note dsX12_note_77 77 := agB_of (n := 20) (by decide +kernel)
theorem dbX12_note_77 : (decode dsX12_note_77 0 = .ok (.aload 5, 2) ∧ okop dsX12_note_77 0 = true) ∧ (decode dsX12_note_77 2 = .ok (.iload_n 3, 1) ∧ okop dsX12_note_77 2 = true) ∧ (decode dsX12_note_77 3 = .ok (.invokevirtual 415, 3) ∧ okop dsX12_note_77 3 = true) ∧ (decode dsX12_note_77 6 = .ok (.istore 7, 2) ∧ okop dsX12_note_77 6 = true) ∧ (decode dsX12_note_77 8 = .ok (.aload 4, 2) ∧ okop dsX12_note_77 8 = true) ∧ (decode dsX12_note_77 10 = .ok (.getfield 332, 3) ∧ okop dsX12_note_77 10 = true) ∧ (decode dsX12_note_77 13 = .ok (.iload_n 3, 1) ∧ okop dsX12_note_77 13 = true) ∧ (decode dsX12_note_77 14 = .ok (.irem, 1) ∧ okop dsX12_note_77 14 = true) ∧ (decode dsX12_note_77 15 = .ok (.ifCond .ne 17, 3) ∧ okop dsX12_note_77 15 = true) ∧ (decode dsX12_note_77 18 = .ok (.aload 5, 2) ∧ okop dsX12_note_77 18 = true) := by decide +kernel
theorem dX12_note_77 : decode cX12_note 77 = .ok (.aload 5, 2) := dgq (p := 0) daX12_note_77 dbX12_note_77.1
theorem dX12_note_79 : decode cX12_note 79 = .ok (.iload_n 3, 1) := dgq (p := 2) daX12_note_77 dbX12_note_77.2.1
theorem dX12_note_80 : decode cX12_note 80 = .ok (.invokevirtual 415, 3) := dgq (p := 3) daX12_note_77 dbX12_note_77.2.2.1
theorem dX12_note_83 : decode cX12_note 83 = .ok (.istore 7, 2) := dgq (p := 6) daX12_note_77 dbX12_note_77.2.2.2.1
theorem dX12_note_85 : decode cX12_note 85 = .ok (.aload 4, 2) := dgq (p := 8) daX12_note_77 dbX12_note_77.2.2.2.2.1
theorem dX12_note_87 : decode cX12_note 87 = .ok (.getfield 332, 3) := dgq (p := 10) daX12_note_77 dbX12_note_77.2.2.2.2.2.1
theorem dX12_note_90 : decode cX12_note 90 = .ok (.iload_n 3, 1) := dgq (p := 13) daX12_note_77 dbX12_note_77.2.2.2.2.2.2.1
theorem dX12_note_91 : decode cX12_note 91 = .ok (.irem, 1) := dgq (p := 14) daX12_note_77 dbX12_note_77.2.2.2.2.2.2.2.1
theorem dX12_note_92 : decode cX12_note 92 = .ok (.ifCond .ne 17, 3) := dgq (p := 15) daX12_note_77 dbX12_note_77.2.2.2.2.2.2.2.2.1
theorem dX12_note_95 : decode cX12_note 95 = .ok (.aload 5, 2) := dgq (p := 18) daX12_note_77 dbX12_note_77.2.2.2.2.2.2.2.2.2
def dsX12_note_97 : ByteArray := ⟨#[180, 1, 76, 29, 112, 154, 0, 7, 4, 167, 0, 4, 3, 54, 8, 42, 21, 8]⟩
theorem daX12_note_97 : agB cX12_note dsX12_note_97 97 := agB_of (n := 18) (by decide +kernel)
theorem dbX12_note_97 : (decode dsX12_note_97 0 = .ok (.getfield 332, 3) ∧ okop dsX12_note_97 0 = true) ∧ (decode dsX12_note_97 3 = .ok (.iload_n 3, 1) ∧ okop dsX12_note_97 3 = true) ∧ (decode dsX12_note_97 4 = .ok (.irem, 1) ∧ okop dsX12_note_97 4 = true) ∧ (decode dsX12_note_97 5 = .ok (.ifCond .ne 7, 3) ∧ okop dsX12_note_97 5 = true) ∧ (decode dsX12_note_97 8 = .ok (.iconst 1, 1) ∧ okop dsX12_note_97 8 = true) ∧ (decode dsX12_note_97 9 = .ok (.goto 4, 3) ∧ okop dsX12_note_97 9 = true) ∧ (decode dsX12_note_97 12 = .ok (.iconst 0, 1) ∧ okop dsX12_note_97 12 = true) ∧ (decode dsX12_note_97 13 = .ok (.istore 8, 2) ∧ okop dsX12_note_97 13 = true) ∧ (decode dsX12_note_97 15 = .ok (.aload_n 0, 1) ∧ okop dsX12_note_97 15 = true) ∧ (decode dsX12_note_97 16 = .ok (.iload 8, 2) ∧ okop dsX12_note_97 16 = true) := by decide +kernel
theorem dX12_note_97 : decode cX12_note 97 = .ok (.getfield 332, 3) := dgq (p := 0) daX12_note_97 dbX12_note_97.1
theorem dX12_note_100 : decode cX12_note 100 = .ok (.iload_n 3, 1) := dgq (p := 3) daX12_note_97 dbX12_note_97.2.1
theorem dX12_note_101 : decode cX12_note 101 = .ok (.irem, 1) := dgq (p := 4) daX12_note_97 dbX12_note_97.2.2.1
theorem dX12_note_102 : decode cX12_note 102 = .ok (.ifCond .ne 7, 3) := dgq (p := 5) daX12_note_97 dbX12_note_97.2.2.2.1
theorem dX12_note_105 : decode cX12_note 105 = .ok (.iconst 1, 1) := dgq (p := 8) daX12_note_97 dbX12_note_97.2.2.2.2.1
theorem dX12_note_106 : decode cX12_note 106 = .ok (.goto 4, 3) := dgq (p := 9) daX12_note_97 dbX12_note_97.2.2.2.2.2.1
theorem dX12_note_109 : decode cX12_note 109 = .ok (.iconst 0, 1) := dgq (p := 12) daX12_note_97 dbX12_note_97.2.2.2.2.2.2.1
theorem dX12_note_110 : decode cX12_note 110 = .ok (.istore 8, 2) := dgq (p := 13) daX12_note_97 dbX12_note_97.2.2.2.2.2.2.2.1
theorem dX12_note_112 : decode cX12_note 112 = .ok (.aload_n 0, 1) := dgq (p := 15) daX12_note_97 dbX12_note_97.2.2.2.2.2.2.2.2.1
theorem dX12_note_113 : decode cX12_note 113 = .ok (.iload 8, 2) := dgq (p := 16) daX12_note_97 dbX12_note_97.2.2.2.2.2.2.2.2.2
def dsX12_note_115 : ByteArray := ⟨#[153, 0, 14, 21, 6, 21, 7, 100, 184, 0, 215, 167, 0, 10, 21, 6, 21, 7, 184, 1, 162, 182, 0, 153]⟩
theorem daX12_note_115 : agB cX12_note dsX12_note_115 115 := agB_of (n := 24) (by decide +kernel)
theorem dbX12_note_115 : (decode dsX12_note_115 0 = .ok (.ifCond .eq 14, 3) ∧ okop dsX12_note_115 0 = true) ∧ (decode dsX12_note_115 3 = .ok (.iload 6, 2) ∧ okop dsX12_note_115 3 = true) ∧ (decode dsX12_note_115 5 = .ok (.iload 7, 2) ∧ okop dsX12_note_115 5 = true) ∧ (decode dsX12_note_115 7 = .ok (.isub, 1) ∧ okop dsX12_note_115 7 = true) ∧ (decode dsX12_note_115 8 = .ok (.invokestatic 215, 3) ∧ okop dsX12_note_115 8 = true) ∧ (decode dsX12_note_115 11 = .ok (.goto 10, 3) ∧ okop dsX12_note_115 11 = true) ∧ (decode dsX12_note_115 14 = .ok (.iload 6, 2) ∧ okop dsX12_note_115 14 = true) ∧ (decode dsX12_note_115 16 = .ok (.iload 7, 2) ∧ okop dsX12_note_115 16 = true) ∧ (decode dsX12_note_115 18 = .ok (.invokestatic 418, 3) ∧ okop dsX12_note_115 18 = true) ∧ (decode dsX12_note_115 21 = .ok (.invokevirtual 153, 3) ∧ okop dsX12_note_115 21 = true) := by decide +kernel
theorem dX12_note_115 : decode cX12_note 115 = .ok (.ifCond .eq 14, 3) := dgq (p := 0) daX12_note_115 dbX12_note_115.1
theorem dX12_note_118 : decode cX12_note 118 = .ok (.iload 6, 2) := dgq (p := 3) daX12_note_115 dbX12_note_115.2.1
theorem dX12_note_120 : decode cX12_note 120 = .ok (.iload 7, 2) := dgq (p := 5) daX12_note_115 dbX12_note_115.2.2.1
theorem dX12_note_122 : decode cX12_note 122 = .ok (.isub, 1) := dgq (p := 7) daX12_note_115 dbX12_note_115.2.2.2.1
theorem dX12_note_123 : decode cX12_note 123 = .ok (.invokestatic 215, 3) := dgq (p := 8) daX12_note_115 dbX12_note_115.2.2.2.2.1
theorem dX12_note_126 : decode cX12_note 126 = .ok (.goto 10, 3) := dgq (p := 11) daX12_note_115 dbX12_note_115.2.2.2.2.2.1
theorem dX12_note_129 : decode cX12_note 129 = .ok (.iload 6, 2) := dgq (p := 14) daX12_note_115 dbX12_note_115.2.2.2.2.2.2.1
theorem dX12_note_131 : decode cX12_note 131 = .ok (.iload 7, 2) := dgq (p := 16) daX12_note_115 dbX12_note_115.2.2.2.2.2.2.2.1
theorem dX12_note_133 : decode cX12_note 133 = .ok (.invokestatic 418, 3) := dgq (p := 18) daX12_note_115 dbX12_note_115.2.2.2.2.2.2.2.2.1
theorem dX12_note_136 : decode cX12_note 136 = .ok (.invokevirtual 153, 3) := dgq (p := 21) daX12_note_115 dbX12_note_115.2.2.2.2.2.2.2.2.2
theorem dX12_note_139 : decode cX12_note 139 = .ok (.ireturn, 1) := by decide +kernel
set_option maxRecDepth 20000 in
theorem ggX12_hunts_X12_isAsked : GoodIn wsX12_hunts wsX12_isAsked := goodIn_ca (goodIn_ca (goodIn_ca (goodIn_q _ [5, 6, 7, 8, 9, 4, 10, 11, 12, 13, 14, 15, 16, 17, 18, 19, 20, 21, 22, 23, 24, 25, 26, 27, 28, 29, 30, 31, 32, 33, 34, 35, 36, 37, 38, 39, 40, 41, 42, 43, 44, 45, 46] rfl (by decide +kernel)) (goodIn_sub (fun _ h => (List.mem_cons_of_mem _ (List.mem_append_left _ (List.mem_append_left _ (List.mem_append_right _ h))))) tg_wsX120)) (goodIn_sub (fun _ h => (List.mem_cons_of_mem _ (List.mem_append_left _ (List.mem_append_right _ h)))) tg_wsJx4a65c0)) (goodIn_sub (fun _ h => (List.mem_cons_of_mem _ (List.mem_append_left _ (List.mem_append_left _ (List.mem_append_left _ (List.mem_append_right _ h)))))) tg_wsX100)
set_option maxRecDepth 20000 in
theorem gX12_hunts_X12_isAsked : GoodIn wsX12_hunts (wsV RX12 220 RX12 yX12_isAsked wsX12_isAsked) := goodIn_app (goodIn_q _ [1, 2, 3, 4] rfl (by decide +kernel)) ggX12_hunts_X12_isAsked
set_option maxRecDepth 20000 in
theorem ggX12_hunts_X12_gearAt : GoodIn wsX12_hunts wsX12_gearAt := goodIn_ca (goodIn_ca (goodIn_q _ [28, 11, 29, 30, 31, 32, 15, 33, 17, 34, 35, 36, 37, 38, 39, 40, 41, 42, 43, 44, 45, 46] rfl (by decide +kernel)) (goodIn_sub (fun _ h => (List.mem_cons_of_mem _ (List.mem_append_left _ (List.mem_append_left _ (List.mem_append_right _ h))))) tg_wsX120)) (goodIn_sub (fun _ h => (List.mem_cons_of_mem _ (List.mem_append_left _ (List.mem_append_right _ h)))) tg_wsJx4a65c0)
set_option maxRecDepth 20000 in
theorem gX12_hunts_X12_gearAt : GoodIn wsX12_hunts (wsV RX12 111 RX12 yX12_gearAt wsX12_gearAt) := goodIn_app (goodIn_q _ [25, 26, 27, 4] rfl (by decide +kernel)) ggX12_hunts_X12_gearAt
set_option maxRecDepth 20000 in
theorem ggX12_hunts_X12_divisor : GoodIn wsX12_hunts wsX12_divisor := goodIn_ca (goodIn_q _ [49, 47, 48, 4] rfl (by decide +kernel)) (goodIn_sub (fun _ h => List.mem_cons_of_mem _ (List.mem_append_right _ h)) (by decide +kernel))
set_option maxRecDepth 20000 in
theorem gX12_hunts_X12_divisor : GoodIn wsX12_hunts (va_wsS RX12 5 yX12_divisor wsX12_divisor) := goodIn_app (goodIn_q _ [47, 48, 4] rfl (by decide +kernel)) ggX12_hunts_X12_divisor
def dsX12_hunts_0 : ByteArray := ⟨#[42, 27, 28, 4, 5, 182, 0, 220, 153, 0, 30, 42, 27, 182, 0, 111]⟩
theorem daX12_hunts_0 : agB cX12_hunts dsX12_hunts_0 0 := agB_of (n := 16) (by decide +kernel)
theorem dbX12_hunts_0 : (decode dsX12_hunts_0 0 = .ok (.aload_n 0, 1) ∧ okop dsX12_hunts_0 0 = true) ∧ (decode dsX12_hunts_0 1 = .ok (.iload_n 1, 1) ∧ okop dsX12_hunts_0 1 = true) ∧ (decode dsX12_hunts_0 2 = .ok (.iload_n 2, 1) ∧ okop dsX12_hunts_0 2 = true) ∧ (decode dsX12_hunts_0 3 = .ok (.iconst 1, 1) ∧ okop dsX12_hunts_0 3 = true) ∧ (decode dsX12_hunts_0 4 = .ok (.iconst 2, 1) ∧ okop dsX12_hunts_0 4 = true) ∧ (decode dsX12_hunts_0 5 = .ok (.invokevirtual 220, 3) ∧ okop dsX12_hunts_0 5 = true) ∧ (decode dsX12_hunts_0 8 = .ok (.ifCond .eq 30, 3) ∧ okop dsX12_hunts_0 8 = true) ∧ (decode dsX12_hunts_0 11 = .ok (.aload_n 0, 1) ∧ okop dsX12_hunts_0 11 = true) ∧ (decode dsX12_hunts_0 12 = .ok (.iload_n 1, 1) ∧ okop dsX12_hunts_0 12 = true) ∧ (decode dsX12_hunts_0 13 = .ok (.invokevirtual 111, 3) ∧ okop dsX12_hunts_0 13 = true) := by decide +kernel
theorem dX12_hunts_0 : decode cX12_hunts 0 = .ok (.aload_n 0, 1) := dgq (p := 0) daX12_hunts_0 dbX12_hunts_0.1
theorem dX12_hunts_1 : decode cX12_hunts 1 = .ok (.iload_n 1, 1) := dgq (p := 1) daX12_hunts_0 dbX12_hunts_0.2.1
theorem dX12_hunts_2 : decode cX12_hunts 2 = .ok (.iload_n 2, 1) := dgq (p := 2) daX12_hunts_0 dbX12_hunts_0.2.2.1
theorem dX12_hunts_3 : decode cX12_hunts 3 = .ok (.iconst 1, 1) := dgq (p := 3) daX12_hunts_0 dbX12_hunts_0.2.2.2.1
theorem dX12_hunts_4 : decode cX12_hunts 4 = .ok (.iconst 2, 1) := dgq (p := 4) daX12_hunts_0 dbX12_hunts_0.2.2.2.2.1
theorem dX12_hunts_5 : decode cX12_hunts 5 = .ok (.invokevirtual 220, 3) := dgq (p := 5) daX12_hunts_0 dbX12_hunts_0.2.2.2.2.2.1
theorem dX12_hunts_8 : decode cX12_hunts 8 = .ok (.ifCond .eq 30, 3) := dgq (p := 8) daX12_hunts_0 dbX12_hunts_0.2.2.2.2.2.2.1
theorem dX12_hunts_11 : decode cX12_hunts 11 = .ok (.aload_n 0, 1) := dgq (p := 11) daX12_hunts_0 dbX12_hunts_0.2.2.2.2.2.2.2.1
theorem dX12_hunts_12 : decode cX12_hunts 12 = .ok (.iload_n 1, 1) := dgq (p := 12) daX12_hunts_0 dbX12_hunts_0.2.2.2.2.2.2.2.2.1
theorem dX12_hunts_13 : decode cX12_hunts 13 = .ok (.invokevirtual 111, 3) := dgq (p := 13) daX12_hunts_0 dbX12_hunts_0.2.2.2.2.2.2.2.2.2
def dsX12_hunts_16 : ByteArray := ⟨#[180, 1, 76, 42, 28, 182, 0, 111, 180, 1, 76, 184, 0, 5, 4, 160, 0, 7, 4, 167, 0, 4]⟩
theorem daX12_hunts_16 : agB cX12_hunts dsX12_hunts_16 16 := agB_of (n := 22) (by decide +kernel)
theorem dbX12_hunts_16 : (decode dsX12_hunts_16 0 = .ok (.getfield 332, 3) ∧ okop dsX12_hunts_16 0 = true) ∧ (decode dsX12_hunts_16 3 = .ok (.aload_n 0, 1) ∧ okop dsX12_hunts_16 3 = true) ∧ (decode dsX12_hunts_16 4 = .ok (.iload_n 2, 1) ∧ okop dsX12_hunts_16 4 = true) ∧ (decode dsX12_hunts_16 5 = .ok (.invokevirtual 111, 3) ∧ okop dsX12_hunts_16 5 = true) ∧ (decode dsX12_hunts_16 8 = .ok (.getfield 332, 3) ∧ okop dsX12_hunts_16 8 = true) ∧ (decode dsX12_hunts_16 11 = .ok (.invokestatic 5, 3) ∧ okop dsX12_hunts_16 11 = true) ∧ (decode dsX12_hunts_16 14 = .ok (.iconst 1, 1) ∧ okop dsX12_hunts_16 14 = true) ∧ (decode dsX12_hunts_16 15 = .ok (.if_icmp .ne 7, 3) ∧ okop dsX12_hunts_16 15 = true) ∧ (decode dsX12_hunts_16 18 = .ok (.iconst 1, 1) ∧ okop dsX12_hunts_16 18 = true) ∧ (decode dsX12_hunts_16 19 = .ok (.goto 4, 3) ∧ okop dsX12_hunts_16 19 = true) := by decide +kernel
theorem dX12_hunts_16 : decode cX12_hunts 16 = .ok (.getfield 332, 3) := dgq (p := 0) daX12_hunts_16 dbX12_hunts_16.1
theorem dX12_hunts_19 : decode cX12_hunts 19 = .ok (.aload_n 0, 1) := dgq (p := 3) daX12_hunts_16 dbX12_hunts_16.2.1
theorem dX12_hunts_20 : decode cX12_hunts 20 = .ok (.iload_n 2, 1) := dgq (p := 4) daX12_hunts_16 dbX12_hunts_16.2.2.1
theorem dX12_hunts_21 : decode cX12_hunts 21 = .ok (.invokevirtual 111, 3) := dgq (p := 5) daX12_hunts_16 dbX12_hunts_16.2.2.2.1
theorem dX12_hunts_24 : decode cX12_hunts 24 = .ok (.getfield 332, 3) := dgq (p := 8) daX12_hunts_16 dbX12_hunts_16.2.2.2.2.1
theorem dX12_hunts_27 : decode cX12_hunts 27 = .ok (.invokestatic 5, 3) := dgq (p := 11) daX12_hunts_16 dbX12_hunts_16.2.2.2.2.2.1
theorem dX12_hunts_30 : decode cX12_hunts 30 = .ok (.iconst 1, 1) := dgq (p := 14) daX12_hunts_16 dbX12_hunts_16.2.2.2.2.2.2.1
theorem dX12_hunts_31 : decode cX12_hunts 31 = .ok (.if_icmp .ne 7, 3) := dgq (p := 15) daX12_hunts_16 dbX12_hunts_16.2.2.2.2.2.2.2.1
theorem dX12_hunts_34 : decode cX12_hunts 34 = .ok (.iconst 1, 1) := dgq (p := 18) daX12_hunts_16 dbX12_hunts_16.2.2.2.2.2.2.2.2.1
theorem dX12_hunts_35 : decode cX12_hunts 35 = .ok (.goto 4, 3) := dgq (p := 19) daX12_hunts_16 dbX12_hunts_16.2.2.2.2.2.2.2.2.2
theorem dX12_hunts_38 : decode cX12_hunts 38 = .ok (.iconst 0, 1) := by decide +kernel
theorem dX12_hunts_39 : decode cX12_hunts 39 = .ok (.ireturn, 1) := by decide +kernel
set_option maxRecDepth 20000 in
theorem ggX12_bears_X12_isGear : GoodIn wsX12_bears wsX12_isGear := goodIn_ca (goodIn_ca (goodIn_q _ [5, 6, 7, 8, 9, 10, 11, 12, 13, 14, 4, 15] rfl (by decide +kernel)) (goodIn_sub (fun _ h => (List.mem_cons_of_mem _ (List.mem_append_left _ (List.mem_append_left _ (List.mem_append_left _ (List.mem_append_right _ h)))))) tg_wsX120)) (goodIn_sub (fun _ h => (List.mem_cons_of_mem _ (List.mem_append_left _ (List.mem_append_left _ (List.mem_append_right _ h))))) tg_wsJx4a65c0)
set_option maxRecDepth 20000 in
theorem gX12_bears_X12_isGear : GoodIn wsX12_bears (wsV RX12 121 RX12 yX12_isGear wsX12_isGear) := goodIn_app (goodIn_q _ [1, 2, 3, 4] rfl (by decide +kernel)) ggX12_bears_X12_isGear
set_option maxRecDepth 20000 in
theorem ggX12_bears_X12_gearAt : GoodIn wsX12_bears wsX12_gearAt := goodIn_ca (goodIn_ca (goodIn_q _ [19, 6, 20, 21, 22, 23, 10, 24, 12, 25, 26, 27, 28, 29, 30, 31, 32, 33, 34, 35, 36, 37] rfl (by decide +kernel)) (goodIn_sub (fun _ h => (List.mem_cons_of_mem _ (List.mem_append_left _ (List.mem_append_left _ (List.mem_append_left _ (List.mem_append_right _ h)))))) tg_wsX120)) (goodIn_sub (fun _ h => (List.mem_cons_of_mem _ (List.mem_append_left _ (List.mem_append_left _ (List.mem_append_right _ h))))) tg_wsJx4a65c0)
set_option maxRecDepth 20000 in
theorem gX12_bears_X12_gearAt : GoodIn wsX12_bears (wsV RX12 111 RX12 yX12_gearAt wsX12_gearAt) := goodIn_app (goodIn_q _ [16, 17, 18, 4] rfl (by decide +kernel)) ggX12_bears_X12_gearAt
set_option maxRecDepth 20000 in
theorem ggX12_bears_X10_bears_ : GoodIn wsX12_bears wsX10_bears_ := goodIn_ca (goodIn_ca (goodIn_q _ [42, 43, 44, 45, 46, 41, 47, 48, 49, 50, 51, 52, 53, 54, 55, 56, 57, 58, 59, 4, 60, 61, 62, 63, 64, 65, 66, 67, 68, 69, 70, 71, 72, 73] rfl (by decide +kernel)) (goodIn_sub (fun _ h => (List.mem_cons_of_mem _ (List.mem_append_left _ (List.mem_append_right _ h)))) tg_wsX100)) (goodIn_sub (fun _ h => List.mem_cons_of_mem _ (List.mem_append_right _ h)) (by decide +kernel))
set_option maxRecDepth 20000 in
theorem gX12_bears_X10_bears_ : GoodIn wsX12_bears (wsV RX12 437 RX10 yX10_bears_ wsX10_bears_) := goodIn_app (goodIn_q _ [38, 39, 40, 41] rfl (by decide +kernel)) ggX12_bears_X10_bears_
set_option maxRecDepth 20000 in
theorem ggX12_bears_X12_answer : GoodIn wsX12_bears wsX12_answer := goodIn_ca (goodIn_q _ [77, 78] rfl (by decide +kernel)) (goodIn_sub (fun _ h => (List.mem_cons_of_mem _ (List.mem_append_left _ (List.mem_append_left _ (List.mem_append_left _ (List.mem_append_right _ h)))))) tg_wsX120)
set_option maxRecDepth 20000 in
theorem gX12_bears_X12_answer : GoodIn wsX12_bears (wsV RX12 153 RX12 yX12_answer wsX12_answer) := goodIn_app (goodIn_q _ [74, 75, 76, 4] rfl (by decide +kernel)) ggX12_bears_X12_answer
set_option maxRecDepth 20000 in
theorem ggX12_bears_X12_fails : GoodIn wsX12_bears wsX12_fails := goodIn_ca (goodIn_q _ [82, 78] rfl (by decide +kernel)) (goodIn_sub (fun _ h => (List.mem_cons_of_mem _ (List.mem_append_left _ (List.mem_append_left _ (List.mem_append_left _ (List.mem_append_right _ h)))))) tg_wsX120)
set_option maxRecDepth 20000 in
theorem gX12_bears_X12_fails : GoodIn wsX12_bears (wsV RX12 143 RX12 yX12_fails wsX12_fails) := goodIn_app (goodIn_q _ [79, 80, 81, 4] rfl (by decide +kernel)) ggX12_bears_X12_fails
def dsX12_bears_0 : ByteArray := ⟨#[42, 27, 182, 0, 121, 153, 0, 18, 42, 42, 27, 182, 0, 111, 182, 1, 181, 182, 0, 153]⟩
theorem daX12_bears_0 : agB cX12_bears dsX12_bears_0 0 := agB_of (n := 20) (by decide +kernel)
theorem dbX12_bears_0 : (decode dsX12_bears_0 0 = .ok (.aload_n 0, 1) ∧ okop dsX12_bears_0 0 = true) ∧ (decode dsX12_bears_0 1 = .ok (.iload_n 1, 1) ∧ okop dsX12_bears_0 1 = true) ∧ (decode dsX12_bears_0 2 = .ok (.invokevirtual 121, 3) ∧ okop dsX12_bears_0 2 = true) ∧ (decode dsX12_bears_0 5 = .ok (.ifCond .eq 18, 3) ∧ okop dsX12_bears_0 5 = true) ∧ (decode dsX12_bears_0 8 = .ok (.aload_n 0, 1) ∧ okop dsX12_bears_0 8 = true) ∧ (decode dsX12_bears_0 9 = .ok (.aload_n 0, 1) ∧ okop dsX12_bears_0 9 = true) ∧ (decode dsX12_bears_0 10 = .ok (.iload_n 1, 1) ∧ okop dsX12_bears_0 10 = true) ∧ (decode dsX12_bears_0 11 = .ok (.invokevirtual 111, 3) ∧ okop dsX12_bears_0 11 = true) ∧ (decode dsX12_bears_0 14 = .ok (.invokevirtual 437, 3) ∧ okop dsX12_bears_0 14 = true) ∧ (decode dsX12_bears_0 17 = .ok (.invokevirtual 153, 3) ∧ okop dsX12_bears_0 17 = true) := by decide +kernel
theorem dX12_bears_0 : decode cX12_bears 0 = .ok (.aload_n 0, 1) := dgq (p := 0) daX12_bears_0 dbX12_bears_0.1
theorem dX12_bears_1 : decode cX12_bears 1 = .ok (.iload_n 1, 1) := dgq (p := 1) daX12_bears_0 dbX12_bears_0.2.1
theorem dX12_bears_2 : decode cX12_bears 2 = .ok (.invokevirtual 121, 3) := dgq (p := 2) daX12_bears_0 dbX12_bears_0.2.2.1
theorem dX12_bears_5 : decode cX12_bears 5 = .ok (.ifCond .eq 18, 3) := dgq (p := 5) daX12_bears_0 dbX12_bears_0.2.2.2.1
theorem dX12_bears_8 : decode cX12_bears 8 = .ok (.aload_n 0, 1) := dgq (p := 8) daX12_bears_0 dbX12_bears_0.2.2.2.2.1
theorem dX12_bears_9 : decode cX12_bears 9 = .ok (.aload_n 0, 1) := dgq (p := 9) daX12_bears_0 dbX12_bears_0.2.2.2.2.2.1
theorem dX12_bears_10 : decode cX12_bears 10 = .ok (.iload_n 1, 1) := dgq (p := 10) daX12_bears_0 dbX12_bears_0.2.2.2.2.2.2.1
theorem dX12_bears_11 : decode cX12_bears 11 = .ok (.invokevirtual 111, 3) := dgq (p := 11) daX12_bears_0 dbX12_bears_0.2.2.2.2.2.2.2.1
theorem dX12_bears_14 : decode cX12_bears 14 = .ok (.invokevirtual 437, 3) := dgq (p := 14) daX12_bears_0 dbX12_bears_0.2.2.2.2.2.2.2.2.1
theorem dX12_bears_17 : decode cX12_bears 17 = .ok (.invokevirtual 153, 3) := dgq (p := 17) daX12_bears_0 dbX12_bears_0.2.2.2.2.2.2.2.2.2
def dsX12_bears_20 : ByteArray := ⟨#[167, 0, 8, 42, 4, 182, 0, 143, 172]⟩
theorem daX12_bears_20 : agB cX12_bears dsX12_bears_20 20 := agB_of (n := 9) (by decide +kernel)
theorem dbX12_bears_20 : (decode dsX12_bears_20 0 = .ok (.goto 8, 3) ∧ okop dsX12_bears_20 0 = true) ∧ (decode dsX12_bears_20 3 = .ok (.aload_n 0, 1) ∧ okop dsX12_bears_20 3 = true) ∧ (decode dsX12_bears_20 4 = .ok (.iconst 1, 1) ∧ okop dsX12_bears_20 4 = true) ∧ (decode dsX12_bears_20 5 = .ok (.invokevirtual 143, 3) ∧ okop dsX12_bears_20 5 = true) ∧ (decode dsX12_bears_20 8 = .ok (.ireturn, 1) ∧ okop dsX12_bears_20 8 = true) := by decide +kernel
theorem dX12_bears_20 : decode cX12_bears 20 = .ok (.goto 8, 3) := dgq (p := 0) daX12_bears_20 dbX12_bears_20.1
theorem dX12_bears_23 : decode cX12_bears 23 = .ok (.aload_n 0, 1) := dgq (p := 3) daX12_bears_20 dbX12_bears_20.2.1
theorem dX12_bears_24 : decode cX12_bears 24 = .ok (.iconst 1, 1) := dgq (p := 4) daX12_bears_20 dbX12_bears_20.2.2.1
theorem dX12_bears_25 : decode cX12_bears 25 = .ok (.invokevirtual 143, 3) := dgq (p := 5) daX12_bears_20 dbX12_bears_20.2.2.2.1
theorem dX12_bears_28 : decode cX12_bears 28 = .ok (.ireturn, 1) := dgq (p := 8) daX12_bears_20 dbX12_bears_20.2.2.2.2
set_option maxRecDepth 20000 in
theorem ggX12_life_X12_isGear : GoodIn wsX12_life wsX12_isGear := goodIn_ca (goodIn_ca (goodIn_q _ [6, 7, 8, 9, 10, 11, 12, 13, 14, 15, 5, 16] rfl (by decide +kernel)) (goodIn_sub (fun _ h => (List.mem_cons_of_mem _ (List.mem_append_left _ (List.mem_append_left _ (List.mem_append_left _ (List.mem_append_right _ h)))))) tg_wsX120)) (goodIn_sub (fun _ h => (List.mem_cons_of_mem _ (List.mem_append_left _ (List.mem_append_left _ (List.mem_append_right _ h))))) tg_wsJx4a65c0)
set_option maxRecDepth 20000 in
theorem gX12_life_X12_isGear : GoodIn wsX12_life (wsV RX12 121 RX12 yX12_isGear wsX12_isGear) := goodIn_app (goodIn_q _ [2, 3, 4, 5] rfl (by decide +kernel)) ggX12_life_X12_isGear
set_option maxRecDepth 20000 in
theorem ggX12_life_X12_fails : GoodIn wsX12_life wsX12_fails := goodIn_ca (goodIn_q _ [20, 21] rfl (by decide +kernel)) (goodIn_sub (fun _ h => (List.mem_cons_of_mem _ (List.mem_append_left _ (List.mem_append_left _ (List.mem_append_left _ (List.mem_append_right _ h)))))) tg_wsX120)
set_option maxRecDepth 20000 in
theorem gX12_life_X12_fails : GoodIn wsX12_life (wsV RX12 143 RX12 yX12_fails wsX12_fails) := goodIn_app (goodIn_q _ [17, 18, 19, 5] rfl (by decide +kernel)) ggX12_life_X12_fails
set_option maxRecDepth 20000 in
theorem ggX12_life_X12_in : GoodIn wsX12_life wsX12_in := goodIn_q _ [16] rfl (by decide +kernel)
set_option maxRecDepth 20000 in
theorem gX12_life_X12_in : GoodIn wsX12_life (va_wsS RX12 101 yX12_in wsX12_in) := goodIn_app (goodIn_q _ [14, 15, 5] rfl (by decide +kernel)) ggX12_life_X12_in
set_option maxRecDepth 20000 in
theorem ggX12_life_X12_gearAt : GoodIn wsX12_life wsX12_gearAt := goodIn_ca (goodIn_ca (goodIn_q _ [25, 7, 26, 27, 28, 29, 11, 30, 13, 31, 32, 33, 34, 35, 36, 37, 38, 39, 40, 41, 42, 43] rfl (by decide +kernel)) (goodIn_sub (fun _ h => (List.mem_cons_of_mem _ (List.mem_append_left _ (List.mem_append_left _ (List.mem_append_left _ (List.mem_append_right _ h)))))) tg_wsX120)) (goodIn_sub (fun _ h => (List.mem_cons_of_mem _ (List.mem_append_left _ (List.mem_append_left _ (List.mem_append_right _ h))))) tg_wsJx4a65c0)
set_option maxRecDepth 20000 in
theorem gX12_life_X12_gearAt : GoodIn wsX12_life (wsV RX12 111 RX12 yX12_gearAt wsX12_gearAt) := goodIn_app (goodIn_q _ [22, 23, 24, 5] rfl (by decide +kernel)) ggX12_life_X12_gearAt
set_option maxRecDepth 20000 in
theorem ggX12_life_X10_life : GoodIn wsX12_life wsX10_life := goodIn_ca (goodIn_ca (goodIn_q _ [48, 49, 50, 51, 52, 53, 47, 54, 55, 56, 57, 58, 59, 60, 61, 62, 63, 64, 65, 66, 67, 68, 69, 70, 5, 71, 72, 73, 74, 75, 76, 77, 78, 79, 80, 81, 82, 83, 84] rfl (by decide +kernel)) (goodIn_sub (fun _ h => (List.mem_cons_of_mem _ (List.mem_append_left _ (List.mem_append_right _ h)))) tg_wsX100)) (goodIn_sub (fun _ h => List.mem_cons_of_mem _ (List.mem_append_right _ h)) (by decide +kernel))
set_option maxRecDepth 20000 in
theorem gX12_life_X10_life : GoodIn wsX12_life (wsV RX12 440 RX10 yX10_life wsX10_life) := goodIn_app (goodIn_q _ [44, 45, 46, 47] rfl (by decide +kernel)) ggX12_life_X10_life
set_option maxRecDepth 20000 in
theorem ggX12_life_X12_answerLong : GoodIn wsX12_life wsX12_answerLong := goodIn_ca (goodIn_q _ [88, 21] rfl (by decide +kernel)) (goodIn_sub (fun _ h => (List.mem_cons_of_mem _ (List.mem_append_left _ (List.mem_append_left _ (List.mem_append_left _ (List.mem_append_right _ h)))))) tg_wsX120)
set_option maxRecDepth 20000 in
theorem gX12_life_X12_answerLong : GoodIn wsX12_life (wsV RX12 443 RX12 yX12_answerLong wsX12_answerLong) := goodIn_app (goodIn_q _ [85, 86, 87, 5] rfl (by decide +kernel)) ggX12_life_X12_answerLong
def dsX12_life_0 : ByteArray := ⟨#[42, 27, 182, 0, 121, 154, 0, 10, 42, 4, 182, 0, 143, 133, 173, 28]⟩
theorem daX12_life_0 : agB cX12_life dsX12_life_0 0 := agB_of (n := 16) (by decide +kernel)
theorem dbX12_life_0 : (decode dsX12_life_0 0 = .ok (.aload_n 0, 1) ∧ okop dsX12_life_0 0 = true) ∧ (decode dsX12_life_0 1 = .ok (.iload_n 1, 1) ∧ okop dsX12_life_0 1 = true) ∧ (decode dsX12_life_0 2 = .ok (.invokevirtual 121, 3) ∧ okop dsX12_life_0 2 = true) ∧ (decode dsX12_life_0 5 = .ok (.ifCond .ne 10, 3) ∧ okop dsX12_life_0 5 = true) ∧ (decode dsX12_life_0 8 = .ok (.aload_n 0, 1) ∧ okop dsX12_life_0 8 = true) ∧ (decode dsX12_life_0 9 = .ok (.iconst 1, 1) ∧ okop dsX12_life_0 9 = true) ∧ (decode dsX12_life_0 10 = .ok (.invokevirtual 143, 3) ∧ okop dsX12_life_0 10 = true) ∧ (decode dsX12_life_0 13 = .ok (.i2l, 1) ∧ okop dsX12_life_0 13 = true) ∧ (decode dsX12_life_0 14 = .ok (.lreturn, 1) ∧ okop dsX12_life_0 14 = true) ∧ (decode dsX12_life_0 15 = .ok (.iload_n 2, 1) ∧ okop dsX12_life_0 15 = true) := by decide +kernel
theorem dX12_life_0 : decode cX12_life 0 = .ok (.aload_n 0, 1) := dgq (p := 0) daX12_life_0 dbX12_life_0.1
theorem dX12_life_1 : decode cX12_life 1 = .ok (.iload_n 1, 1) := dgq (p := 1) daX12_life_0 dbX12_life_0.2.1
theorem dX12_life_2 : decode cX12_life 2 = .ok (.invokevirtual 121, 3) := dgq (p := 2) daX12_life_0 dbX12_life_0.2.2.1
theorem dX12_life_5 : decode cX12_life 5 = .ok (.ifCond .ne 10, 3) := dgq (p := 5) daX12_life_0 dbX12_life_0.2.2.2.1
theorem dX12_life_8 : decode cX12_life 8 = .ok (.aload_n 0, 1) := dgq (p := 8) daX12_life_0 dbX12_life_0.2.2.2.2.1
theorem dX12_life_9 : decode cX12_life 9 = .ok (.iconst 1, 1) := dgq (p := 9) daX12_life_0 dbX12_life_0.2.2.2.2.2.1
theorem dX12_life_10 : decode cX12_life 10 = .ok (.invokevirtual 143, 3) := dgq (p := 10) daX12_life_0 dbX12_life_0.2.2.2.2.2.2.1
theorem dX12_life_13 : decode cX12_life 13 = .ok (.i2l, 1) := dgq (p := 13) daX12_life_0 dbX12_life_0.2.2.2.2.2.2.2.1
theorem dX12_life_14 : decode cX12_life 14 = .ok (.lreturn, 1) := dgq (p := 14) daX12_life_0 dbX12_life_0.2.2.2.2.2.2.2.2.1
theorem dX12_life_15 : decode cX12_life 15 = .ok (.iload_n 2, 1) := dgq (p := 15) daX12_life_0 dbX12_life_0.2.2.2.2.2.2.2.2.2
def dsX12_life_16 : ByteArray := ⟨#[133, 10, 20, 1, 50, 184, 0, 101, 153, 0, 20, 42, 42, 27, 182, 0, 111, 28]⟩
theorem daX12_life_16 : agB cX12_life dsX12_life_16 16 := agB_of (n := 18) (by decide +kernel)
theorem dbX12_life_16 : (decode dsX12_life_16 0 = .ok (.i2l, 1) ∧ okop dsX12_life_16 0 = true) ∧ (decode dsX12_life_16 1 = .ok (.lconst 1, 1) ∧ okop dsX12_life_16 1 = true) ∧ (decode dsX12_life_16 2 = .ok (.ldc2_w 306, 3) ∧ okop dsX12_life_16 2 = true) ∧ (decode dsX12_life_16 5 = .ok (.invokestatic 101, 3) ∧ okop dsX12_life_16 5 = true) ∧ (decode dsX12_life_16 8 = .ok (.ifCond .eq 20, 3) ∧ okop dsX12_life_16 8 = true) ∧ (decode dsX12_life_16 11 = .ok (.aload_n 0, 1) ∧ okop dsX12_life_16 11 = true) ∧ (decode dsX12_life_16 12 = .ok (.aload_n 0, 1) ∧ okop dsX12_life_16 12 = true) ∧ (decode dsX12_life_16 13 = .ok (.iload_n 1, 1) ∧ okop dsX12_life_16 13 = true) ∧ (decode dsX12_life_16 14 = .ok (.invokevirtual 111, 3) ∧ okop dsX12_life_16 14 = true) ∧ (decode dsX12_life_16 17 = .ok (.iload_n 2, 1) ∧ okop dsX12_life_16 17 = true) := by decide +kernel
theorem dX12_life_16 : decode cX12_life 16 = .ok (.i2l, 1) := dgq (p := 0) daX12_life_16 dbX12_life_16.1
theorem dX12_life_17 : decode cX12_life 17 = .ok (.lconst 1, 1) := dgq (p := 1) daX12_life_16 dbX12_life_16.2.1
theorem dX12_life_18 : decode cX12_life 18 = .ok (.ldc2_w 306, 3) := dgq (p := 2) daX12_life_16 dbX12_life_16.2.2.1
theorem dX12_life_21 : decode cX12_life 21 = .ok (.invokestatic 101, 3) := dgq (p := 5) daX12_life_16 dbX12_life_16.2.2.2.1
theorem dX12_life_24 : decode cX12_life 24 = .ok (.ifCond .eq 20, 3) := dgq (p := 8) daX12_life_16 dbX12_life_16.2.2.2.2.1
theorem dX12_life_27 : decode cX12_life 27 = .ok (.aload_n 0, 1) := dgq (p := 11) daX12_life_16 dbX12_life_16.2.2.2.2.2.1
theorem dX12_life_28 : decode cX12_life 28 = .ok (.aload_n 0, 1) := dgq (p := 12) daX12_life_16 dbX12_life_16.2.2.2.2.2.2.1
theorem dX12_life_29 : decode cX12_life 29 = .ok (.iload_n 1, 1) := dgq (p := 13) daX12_life_16 dbX12_life_16.2.2.2.2.2.2.2.1
theorem dX12_life_30 : decode cX12_life 30 = .ok (.invokevirtual 111, 3) := dgq (p := 14) daX12_life_16 dbX12_life_16.2.2.2.2.2.2.2.2.1
theorem dX12_life_33 : decode cX12_life 33 = .ok (.iload_n 2, 1) := dgq (p := 17) daX12_life_16 dbX12_life_16.2.2.2.2.2.2.2.2.2
def dsX12_life_34 : ByteArray := ⟨#[133, 182, 1, 184, 182, 1, 187, 167, 0, 9, 42, 5, 182, 0, 143, 133, 173]⟩
theorem daX12_life_34 : agB cX12_life dsX12_life_34 34 := agB_of (n := 17) (by decide +kernel)
theorem dbX12_life_34 : (decode dsX12_life_34 0 = .ok (.i2l, 1) ∧ okop dsX12_life_34 0 = true) ∧ (decode dsX12_life_34 1 = .ok (.invokevirtual 440, 3) ∧ okop dsX12_life_34 1 = true) ∧ (decode dsX12_life_34 4 = .ok (.invokevirtual 443, 3) ∧ okop dsX12_life_34 4 = true) ∧ (decode dsX12_life_34 7 = .ok (.goto 9, 3) ∧ okop dsX12_life_34 7 = true) ∧ (decode dsX12_life_34 10 = .ok (.aload_n 0, 1) ∧ okop dsX12_life_34 10 = true) ∧ (decode dsX12_life_34 11 = .ok (.iconst 2, 1) ∧ okop dsX12_life_34 11 = true) ∧ (decode dsX12_life_34 12 = .ok (.invokevirtual 143, 3) ∧ okop dsX12_life_34 12 = true) ∧ (decode dsX12_life_34 15 = .ok (.i2l, 1) ∧ okop dsX12_life_34 15 = true) ∧ (decode dsX12_life_34 16 = .ok (.lreturn, 1) ∧ okop dsX12_life_34 16 = true) := by decide +kernel
theorem dX12_life_34 : decode cX12_life 34 = .ok (.i2l, 1) := dgq (p := 0) daX12_life_34 dbX12_life_34.1
theorem dX12_life_35 : decode cX12_life 35 = .ok (.invokevirtual 440, 3) := dgq (p := 1) daX12_life_34 dbX12_life_34.2.1
theorem dX12_life_38 : decode cX12_life 38 = .ok (.invokevirtual 443, 3) := dgq (p := 4) daX12_life_34 dbX12_life_34.2.2.1
theorem dX12_life_41 : decode cX12_life 41 = .ok (.goto 9, 3) := dgq (p := 7) daX12_life_34 dbX12_life_34.2.2.2.1
theorem dX12_life_44 : decode cX12_life 44 = .ok (.aload_n 0, 1) := dgq (p := 10) daX12_life_34 dbX12_life_34.2.2.2.2.1
theorem dX12_life_45 : decode cX12_life 45 = .ok (.iconst 2, 1) := dgq (p := 11) daX12_life_34 dbX12_life_34.2.2.2.2.2.1
theorem dX12_life_46 : decode cX12_life 46 = .ok (.invokevirtual 143, 3) := dgq (p := 12) daX12_life_34 dbX12_life_34.2.2.2.2.2.2.1
theorem dX12_life_49 : decode cX12_life 49 = .ok (.i2l, 1) := dgq (p := 15) daX12_life_34 dbX12_life_34.2.2.2.2.2.2.2.1
theorem dX12_life_50 : decode cX12_life 50 = .ok (.lreturn, 1) := dgq (p := 16) daX12_life_34 dbX12_life_34.2.2.2.2.2.2.2.2
set_option maxRecDepth 20000 in
theorem ggX12_canRun_X12_gearAt : GoodIn wsX12_canRun wsX12_gearAt := goodIn_ca (goodIn_ca (goodIn_q _ [5, 6, 7, 8, 9, 10, 11, 12, 13, 14, 15, 16, 17, 18, 19, 20, 21, 22, 23, 24, 25, 26] rfl (by decide +kernel)) (goodIn_sub (fun _ h => (List.mem_cons_of_mem _ (List.mem_append_left _ (List.mem_append_right _ h)))) tg_wsX120)) (goodIn_sub (fun _ h => (List.mem_cons_of_mem _ (List.mem_append_right _ h))) tg_wsJx4a65c0)
set_option maxRecDepth 20000 in
theorem gX12_canRun_X12_gearAt : GoodIn wsX12_canRun (wsV RX12 111 RX12 yX12_gearAt wsX12_gearAt) := goodIn_app (goodIn_q _ [1, 2, 3, 4] rfl (by decide +kernel)) ggX12_canRun_X12_gearAt
set_option maxRecDepth 20000 in
theorem ggX12_canRun_X10_isBroken : GoodIn wsX12_canRun wsX10_isBroken := goodIn_ca (goodIn_q _ [31, 32, 33] rfl (by decide +kernel)) (goodIn_sub (fun _ h => (List.mem_cons_of_mem _ (List.mem_append_left _ (List.mem_append_left _ (List.mem_append_right _ h))))) tg_wsX100)
set_option maxRecDepth 20000 in
theorem gX12_canRun_X10_isBroken : GoodIn wsX12_canRun (wsV RX12 375 RX10 yX10_isBroken wsX10_isBroken) := goodIn_app (goodIn_q _ [27, 28, 29, 30] rfl (by decide +kernel)) ggX12_canRun_X10_isBroken
def dsX12_canRun_0 : ByteArray := ⟨#[42, 27, 182, 0, 111, 78, 45, 180, 0, 160, 153, 0, 37, 45, 180, 1, 116, 154, 0, 30]⟩
theorem daX12_canRun_0 : agB cX12_canRun dsX12_canRun_0 0 := agB_of (n := 20) (by decide +kernel)
theorem dbX12_canRun_0 : (decode dsX12_canRun_0 0 = .ok (.aload_n 0, 1) ∧ okop dsX12_canRun_0 0 = true) ∧ (decode dsX12_canRun_0 1 = .ok (.iload_n 1, 1) ∧ okop dsX12_canRun_0 1 = true) ∧ (decode dsX12_canRun_0 2 = .ok (.invokevirtual 111, 3) ∧ okop dsX12_canRun_0 2 = true) ∧ (decode dsX12_canRun_0 5 = .ok (.astore_n 3, 1) ∧ okop dsX12_canRun_0 5 = true) ∧ (decode dsX12_canRun_0 6 = .ok (.aload_n 3, 1) ∧ okop dsX12_canRun_0 6 = true) ∧ (decode dsX12_canRun_0 7 = .ok (.getfield 160, 3) ∧ okop dsX12_canRun_0 7 = true) ∧ (decode dsX12_canRun_0 10 = .ok (.ifCond .eq 37, 3) ∧ okop dsX12_canRun_0 10 = true) ∧ (decode dsX12_canRun_0 13 = .ok (.aload_n 3, 1) ∧ okop dsX12_canRun_0 13 = true) ∧ (decode dsX12_canRun_0 14 = .ok (.getfield 372, 3) ∧ okop dsX12_canRun_0 14 = true) ∧ (decode dsX12_canRun_0 17 = .ok (.ifCond .ne 30, 3) ∧ okop dsX12_canRun_0 17 = true) := by decide +kernel
theorem dX12_canRun_0 : decode cX12_canRun 0 = .ok (.aload_n 0, 1) := dgq (p := 0) daX12_canRun_0 dbX12_canRun_0.1
theorem dX12_canRun_1 : decode cX12_canRun 1 = .ok (.iload_n 1, 1) := dgq (p := 1) daX12_canRun_0 dbX12_canRun_0.2.1
theorem dX12_canRun_2 : decode cX12_canRun 2 = .ok (.invokevirtual 111, 3) := dgq (p := 2) daX12_canRun_0 dbX12_canRun_0.2.2.1
theorem dX12_canRun_5 : decode cX12_canRun 5 = .ok (.astore_n 3, 1) := dgq (p := 5) daX12_canRun_0 dbX12_canRun_0.2.2.2.1
theorem dX12_canRun_6 : decode cX12_canRun 6 = .ok (.aload_n 3, 1) := dgq (p := 6) daX12_canRun_0 dbX12_canRun_0.2.2.2.2.1
theorem dX12_canRun_7 : decode cX12_canRun 7 = .ok (.getfield 160, 3) := dgq (p := 7) daX12_canRun_0 dbX12_canRun_0.2.2.2.2.2.1
theorem dX12_canRun_10 : decode cX12_canRun 10 = .ok (.ifCond .eq 37, 3) := dgq (p := 10) daX12_canRun_0 dbX12_canRun_0.2.2.2.2.2.2.1
theorem dX12_canRun_13 : decode cX12_canRun 13 = .ok (.aload_n 3, 1) := dgq (p := 13) daX12_canRun_0 dbX12_canRun_0.2.2.2.2.2.2.2.1
theorem dX12_canRun_14 : decode cX12_canRun 14 = .ok (.getfield 372, 3) := dgq (p := 14) daX12_canRun_0 dbX12_canRun_0.2.2.2.2.2.2.2.2.1
theorem dX12_canRun_17 : decode cX12_canRun 17 = .ok (.ifCond .ne 30, 3) := dgq (p := 17) daX12_canRun_0 dbX12_canRun_0.2.2.2.2.2.2.2.2.2
def dsX12_canRun_20 : ByteArray := ⟨#[45, 182, 1, 119, 154, 0, 23, 45, 180, 1, 190, 2, 159, 0, 11, 45, 180, 1, 190, 28]⟩
theorem daX12_canRun_20 : agB cX12_canRun dsX12_canRun_20 20 := agB_of (n := 20) (by decide +kernel)
theorem dbX12_canRun_20 : (decode dsX12_canRun_20 0 = .ok (.aload_n 3, 1) ∧ okop dsX12_canRun_20 0 = true) ∧ (decode dsX12_canRun_20 1 = .ok (.invokevirtual 375, 3) ∧ okop dsX12_canRun_20 1 = true) ∧ (decode dsX12_canRun_20 4 = .ok (.ifCond .ne 23, 3) ∧ okop dsX12_canRun_20 4 = true) ∧ (decode dsX12_canRun_20 7 = .ok (.aload_n 3, 1) ∧ okop dsX12_canRun_20 7 = true) ∧ (decode dsX12_canRun_20 8 = .ok (.getfield 446, 3) ∧ okop dsX12_canRun_20 8 = true) ∧ (decode dsX12_canRun_20 11 = .ok (.iconst (-1), 1) ∧ okop dsX12_canRun_20 11 = true) ∧ (decode dsX12_canRun_20 12 = .ok (.if_icmp .eq 11, 3) ∧ okop dsX12_canRun_20 12 = true) ∧ (decode dsX12_canRun_20 15 = .ok (.aload_n 3, 1) ∧ okop dsX12_canRun_20 15 = true) ∧ (decode dsX12_canRun_20 16 = .ok (.getfield 446, 3) ∧ okop dsX12_canRun_20 16 = true) ∧ (decode dsX12_canRun_20 19 = .ok (.iload_n 2, 1) ∧ okop dsX12_canRun_20 19 = true) := by decide +kernel
theorem dX12_canRun_20 : decode cX12_canRun 20 = .ok (.aload_n 3, 1) := dgq (p := 0) daX12_canRun_20 dbX12_canRun_20.1
theorem dX12_canRun_21 : decode cX12_canRun 21 = .ok (.invokevirtual 375, 3) := dgq (p := 1) daX12_canRun_20 dbX12_canRun_20.2.1
theorem dX12_canRun_24 : decode cX12_canRun 24 = .ok (.ifCond .ne 23, 3) := dgq (p := 4) daX12_canRun_20 dbX12_canRun_20.2.2.1
theorem dX12_canRun_27 : decode cX12_canRun 27 = .ok (.aload_n 3, 1) := dgq (p := 7) daX12_canRun_20 dbX12_canRun_20.2.2.2.1
theorem dX12_canRun_28 : decode cX12_canRun 28 = .ok (.getfield 446, 3) := dgq (p := 8) daX12_canRun_20 dbX12_canRun_20.2.2.2.2.1
theorem dX12_canRun_31 : decode cX12_canRun 31 = .ok (.iconst (-1), 1) := dgq (p := 11) daX12_canRun_20 dbX12_canRun_20.2.2.2.2.2.1
theorem dX12_canRun_32 : decode cX12_canRun 32 = .ok (.if_icmp .eq 11, 3) := dgq (p := 12) daX12_canRun_20 dbX12_canRun_20.2.2.2.2.2.2.1
theorem dX12_canRun_35 : decode cX12_canRun 35 = .ok (.aload_n 3, 1) := dgq (p := 15) daX12_canRun_20 dbX12_canRun_20.2.2.2.2.2.2.2.1
theorem dX12_canRun_36 : decode cX12_canRun 36 = .ok (.getfield 446, 3) := dgq (p := 16) daX12_canRun_20 dbX12_canRun_20.2.2.2.2.2.2.2.2.1
theorem dX12_canRun_39 : decode cX12_canRun 39 = .ok (.iload_n 2, 1) := dgq (p := 19) daX12_canRun_20 dbX12_canRun_20.2.2.2.2.2.2.2.2.2
def dsX12_canRun_40 : ByteArray := ⟨#[160, 0, 7, 4, 167, 0, 4, 3, 172]⟩
theorem daX12_canRun_40 : agB cX12_canRun dsX12_canRun_40 40 := agB_of (n := 9) (by decide +kernel)
theorem dbX12_canRun_40 : (decode dsX12_canRun_40 0 = .ok (.if_icmp .ne 7, 3) ∧ okop dsX12_canRun_40 0 = true) ∧ (decode dsX12_canRun_40 3 = .ok (.iconst 1, 1) ∧ okop dsX12_canRun_40 3 = true) ∧ (decode dsX12_canRun_40 4 = .ok (.goto 4, 3) ∧ okop dsX12_canRun_40 4 = true) ∧ (decode dsX12_canRun_40 7 = .ok (.iconst 0, 1) ∧ okop dsX12_canRun_40 7 = true) ∧ (decode dsX12_canRun_40 8 = .ok (.ireturn, 1) ∧ okop dsX12_canRun_40 8 = true) := by decide +kernel
theorem dX12_canRun_40 : decode cX12_canRun 40 = .ok (.if_icmp .ne 7, 3) := dgq (p := 0) daX12_canRun_40 dbX12_canRun_40.1
theorem dX12_canRun_43 : decode cX12_canRun 43 = .ok (.iconst 1, 1) := dgq (p := 3) daX12_canRun_40 dbX12_canRun_40.2.1
theorem dX12_canRun_44 : decode cX12_canRun 44 = .ok (.goto 4, 3) := dgq (p := 4) daX12_canRun_40 dbX12_canRun_40.2.2.1
theorem dX12_canRun_47 : decode cX12_canRun 47 = .ok (.iconst 0, 1) := dgq (p := 7) daX12_canRun_40 dbX12_canRun_40.2.2.2.1
theorem dX12_canRun_48 : decode cX12_canRun 48 = .ok (.ireturn, 1) := dgq (p := 8) daX12_canRun_40 dbX12_canRun_40.2.2.2.2
set_option maxRecDepth 20000 in
theorem ggX12_run_X12_isGear : GoodIn wsX12_run wsX12_isGear := goodIn_ca (goodIn_ca (goodIn_q _ [7, 8, 9, 10, 11, 12, 13, 14, 15, 16, 6, 17] rfl (by decide +kernel)) (goodIn_sub (fun _ h => (List.mem_cons_of_mem _ (List.mem_append_left _ (List.mem_append_left _ (List.mem_append_right _ h))))) tg_wsX120)) (goodIn_sub (fun _ h => (List.mem_cons_of_mem _ (List.mem_append_left _ (List.mem_append_right _ h)))) tg_wsJx4a65c0)
set_option maxRecDepth 20000 in
theorem gX12_run_X12_isGear : GoodIn wsX12_run (wsV RX12 121 RX12 yX12_isGear wsX12_isGear) := goodIn_app (goodIn_q _ [3, 4, 5, 6] rfl (by decide +kernel)) ggX12_run_X12_isGear
set_option maxRecDepth 20000 in
theorem ggX12_run_X12_fails : GoodIn wsX12_run wsX12_fails := goodIn_ca (goodIn_q _ [21, 22] rfl (by decide +kernel)) (goodIn_sub (fun _ h => (List.mem_cons_of_mem _ (List.mem_append_left _ (List.mem_append_left _ (List.mem_append_right _ h))))) tg_wsX120)
set_option maxRecDepth 20000 in
theorem gX12_run_X12_fails : GoodIn wsX12_run (wsV RX12 143 RX12 yX12_fails wsX12_fails) := goodIn_app (goodIn_q _ [18, 19, 20, 6] rfl (by decide +kernel)) ggX12_run_X12_fails
set_option maxRecDepth 20000 in
theorem ggX12_run_X12_in : GoodIn wsX12_run wsX12_in := goodIn_q _ [17] rfl (by decide +kernel)
set_option maxRecDepth 20000 in
theorem gX12_run_X12_in : GoodIn wsX12_run (va_wsS RX12 101 yX12_in wsX12_in) := goodIn_app (goodIn_q _ [15, 16, 6] rfl (by decide +kernel)) ggX12_run_X12_in
set_option maxRecDepth 20000 in
theorem ggX12_run_X12_isPair : GoodIn wsX12_run wsX12_isPair := goodIn_ca (goodIn_ca (goodIn_ca (goodIn_q _ [26, 27, 28, 29, 6, 30, 8, 31, 32, 33, 34, 12, 35, 14, 36, 37, 38, 39, 40, 41, 42, 43, 44, 45, 46, 47, 48] rfl (by decide +kernel)) (goodIn_sub (fun _ h => (List.mem_cons_of_mem _ (List.mem_append_left _ (List.mem_append_left _ (List.mem_append_left _ (List.mem_append_right _ h)))))) tg_wsX100)) (goodIn_sub (fun _ h => (List.mem_cons_of_mem _ (List.mem_append_left _ (List.mem_append_left _ (List.mem_append_right _ h))))) tg_wsX120)) (goodIn_sub (fun _ h => (List.mem_cons_of_mem _ (List.mem_append_left _ (List.mem_append_right _ h)))) tg_wsJx4a65c0)
set_option maxRecDepth 20000 in
theorem gX12_run_X12_isPair : GoodIn wsX12_run (wsV RX12 125 RX12 yX12_isPair wsX12_isPair) := goodIn_app (goodIn_q _ [23, 24, 25, 6] rfl (by decide +kernel)) ggX12_run_X12_isPair
set_option maxRecDepth 20000 in
theorem ggX12_run_X12_canRun : GoodIn wsX12_run wsX12_canRun := goodIn_ca (goodIn_ca (goodIn_ca (goodIn_q _ [52, 27, 28, 29, 6, 30, 8, 31, 32, 33, 34, 12, 35, 14, 36, 37, 38, 39, 40, 41, 42, 43, 44, 45, 46, 47, 48, 53, 54, 55, 56, 57, 58, 59] rfl (by decide +kernel)) (goodIn_sub (fun _ h => (List.mem_cons_of_mem _ (List.mem_append_left _ (List.mem_append_left _ (List.mem_append_left _ (List.mem_append_right _ h)))))) tg_wsX100)) (goodIn_sub (fun _ h => (List.mem_cons_of_mem _ (List.mem_append_left _ (List.mem_append_left _ (List.mem_append_right _ h))))) tg_wsX120)) (goodIn_sub (fun _ h => (List.mem_cons_of_mem _ (List.mem_append_left _ (List.mem_append_right _ h)))) tg_wsJx4a65c0)
set_option maxRecDepth 20000 in
theorem gX12_run_X12_canRun : GoodIn wsX12_run (wsV RX12 449 RX12 yX12_canRun wsX12_canRun) := goodIn_app (goodIn_q _ [49, 50, 51, 6] rfl (by decide +kernel)) ggX12_run_X12_canRun
set_option maxRecDepth 20000 in
theorem ggX12_run_X12_gearAt : GoodIn wsX12_run wsX12_gearAt := goodIn_ca (goodIn_ca (goodIn_q _ [30, 8, 31, 32, 33, 34, 12, 35, 14, 36, 37, 38, 39, 40, 41, 42, 43, 44, 45, 46, 47, 48] rfl (by decide +kernel)) (goodIn_sub (fun _ h => (List.mem_cons_of_mem _ (List.mem_append_left _ (List.mem_append_left _ (List.mem_append_right _ h))))) tg_wsX120)) (goodIn_sub (fun _ h => (List.mem_cons_of_mem _ (List.mem_append_left _ (List.mem_append_right _ h)))) tg_wsJx4a65c0)
set_option maxRecDepth 20000 in
theorem gX12_run_X12_gearAt : GoodIn wsX12_run (wsV RX12 111 RX12 yX12_gearAt wsX12_gearAt) := goodIn_app (goodIn_q _ [27, 28, 29, 6] rfl (by decide +kernel)) ggX12_run_X12_gearAt
set_option maxRecDepth 20000 in
theorem ggX12_run_X10_runs : GoodIn wsX12_run wsX10_runs := goodIn_ca (goodIn_ca (goodIn_q _ [63, 58, 59, 64, 65, 66, 56, 67, 68, 69, 70, 71, 72, 73, 74, 75, 76, 77, 78, 79, 80, 81, 82, 83, 84, 85, 86, 87, 88, 6, 89, 90, 91, 92, 93, 94, 95, 96, 97, 98, 99, 100, 101, 102] rfl (by decide +kernel)) (goodIn_sub (fun _ h => (List.mem_cons_of_mem _ (List.mem_append_left _ (List.mem_append_left _ (List.mem_append_left _ (List.mem_append_right _ h)))))) tg_wsX100)) (goodIn_sub (fun _ h => List.mem_cons_of_mem _ (List.mem_append_right _ h)) (by decide +kernel))
set_option maxRecDepth 20000 in
theorem gX12_run_X10_runs : GoodIn wsX12_run (wsV RX12 452 RX10 yX10_runs wsX10_runs) := goodIn_app (goodIn_q _ [60, 61, 62, 56] rfl (by decide +kernel)) ggX12_run_X10_runs
set_option maxRecDepth 20000 in
theorem ggX12_run_X10_isBroken : GoodIn wsX12_run wsX10_isBroken := goodIn_ca (goodIn_q _ [57, 58, 59] rfl (by decide +kernel)) (goodIn_sub (fun _ h => (List.mem_cons_of_mem _ (List.mem_append_left _ (List.mem_append_left _ (List.mem_append_left _ (List.mem_append_right _ h)))))) tg_wsX100)
set_option maxRecDepth 20000 in
theorem gX12_run_X10_isBroken : GoodIn wsX12_run (wsV RX12 375 RX10 yX10_isBroken wsX10_isBroken) := goodIn_app (goodIn_q _ [53, 54, 55, 56] rfl (by decide +kernel)) ggX12_run_X10_isBroken
set_option maxRecDepth 20000 in
theorem ggX12_run_X12_answer : GoodIn wsX12_run wsX12_answer := goodIn_ca (goodIn_q _ [106, 22] rfl (by decide +kernel)) (goodIn_sub (fun _ h => (List.mem_cons_of_mem _ (List.mem_append_left _ (List.mem_append_left _ (List.mem_append_right _ h))))) tg_wsX120)
set_option maxRecDepth 20000 in
theorem gX12_run_X12_answer : GoodIn wsX12_run (wsV RX12 153 RX12 yX12_answer wsX12_answer) := goodIn_app (goodIn_q _ [103, 104, 105, 6] rfl (by decide +kernel)) ggX12_run_X12_answer
def dsX12_run_0 : ByteArray := ⟨#[42, 27, 182, 0, 121, 153, 0, 11, 42, 28, 182, 0, 121, 154, 0, 9, 42, 4]⟩
theorem daX12_run_0 : agB cX12_run dsX12_run_0 0 := agB_of (n := 18) (by decide +kernel)
theorem dbX12_run_0 : (decode dsX12_run_0 0 = .ok (.aload_n 0, 1) ∧ okop dsX12_run_0 0 = true) ∧ (decode dsX12_run_0 1 = .ok (.iload_n 1, 1) ∧ okop dsX12_run_0 1 = true) ∧ (decode dsX12_run_0 2 = .ok (.invokevirtual 121, 3) ∧ okop dsX12_run_0 2 = true) ∧ (decode dsX12_run_0 5 = .ok (.ifCond .eq 11, 3) ∧ okop dsX12_run_0 5 = true) ∧ (decode dsX12_run_0 8 = .ok (.aload_n 0, 1) ∧ okop dsX12_run_0 8 = true) ∧ (decode dsX12_run_0 9 = .ok (.iload_n 2, 1) ∧ okop dsX12_run_0 9 = true) ∧ (decode dsX12_run_0 10 = .ok (.invokevirtual 121, 3) ∧ okop dsX12_run_0 10 = true) ∧ (decode dsX12_run_0 13 = .ok (.ifCond .ne 9, 3) ∧ okop dsX12_run_0 13 = true) ∧ (decode dsX12_run_0 16 = .ok (.aload_n 0, 1) ∧ okop dsX12_run_0 16 = true) ∧ (decode dsX12_run_0 17 = .ok (.iconst 1, 1) ∧ okop dsX12_run_0 17 = true) := by decide +kernel
theorem dX12_run_0 : decode cX12_run 0 = .ok (.aload_n 0, 1) := dgq (p := 0) daX12_run_0 dbX12_run_0.1
theorem dX12_run_1 : decode cX12_run 1 = .ok (.iload_n 1, 1) := dgq (p := 1) daX12_run_0 dbX12_run_0.2.1
theorem dX12_run_2 : decode cX12_run 2 = .ok (.invokevirtual 121, 3) := dgq (p := 2) daX12_run_0 dbX12_run_0.2.2.1
theorem dX12_run_5 : decode cX12_run 5 = .ok (.ifCond .eq 11, 3) := dgq (p := 5) daX12_run_0 dbX12_run_0.2.2.2.1
theorem dX12_run_8 : decode cX12_run 8 = .ok (.aload_n 0, 1) := dgq (p := 8) daX12_run_0 dbX12_run_0.2.2.2.2.1
theorem dX12_run_9 : decode cX12_run 9 = .ok (.iload_n 2, 1) := dgq (p := 9) daX12_run_0 dbX12_run_0.2.2.2.2.2.1
theorem dX12_run_10 : decode cX12_run 10 = .ok (.invokevirtual 121, 3) := dgq (p := 10) daX12_run_0 dbX12_run_0.2.2.2.2.2.2.1
theorem dX12_run_13 : decode cX12_run 13 = .ok (.ifCond .ne 9, 3) := dgq (p := 13) daX12_run_0 dbX12_run_0.2.2.2.2.2.2.2.1
theorem dX12_run_16 : decode cX12_run 16 = .ok (.aload_n 0, 1) := dgq (p := 16) daX12_run_0 dbX12_run_0.2.2.2.2.2.2.2.2.1
theorem dX12_run_17 : decode cX12_run 17 = .ok (.iconst 1, 1) := dgq (p := 17) daX12_run_0 dbX12_run_0.2.2.2.2.2.2.2.2.2
def dsX12_run_18 : ByteArray := ⟨#[182, 0, 143, 172, 29, 133, 10, 20, 0, 141, 184, 0, 101, 153, 0, 16, 21, 4, 133]⟩
theorem daX12_run_18 : agB cX12_run dsX12_run_18 18 := agB_of (n := 19) (by decide +kernel)
theorem dbX12_run_18 : (decode dsX12_run_18 0 = .ok (.invokevirtual 143, 3) ∧ okop dsX12_run_18 0 = true) ∧ (decode dsX12_run_18 3 = .ok (.ireturn, 1) ∧ okop dsX12_run_18 3 = true) ∧ (decode dsX12_run_18 4 = .ok (.iload_n 3, 1) ∧ okop dsX12_run_18 4 = true) ∧ (decode dsX12_run_18 5 = .ok (.i2l, 1) ∧ okop dsX12_run_18 5 = true) ∧ (decode dsX12_run_18 6 = .ok (.lconst 1, 1) ∧ okop dsX12_run_18 6 = true) ∧ (decode dsX12_run_18 7 = .ok (.ldc2_w 141, 3) ∧ okop dsX12_run_18 7 = true) ∧ (decode dsX12_run_18 10 = .ok (.invokestatic 101, 3) ∧ okop dsX12_run_18 10 = true) ∧ (decode dsX12_run_18 13 = .ok (.ifCond .eq 16, 3) ∧ okop dsX12_run_18 13 = true) ∧ (decode dsX12_run_18 16 = .ok (.iload 4, 2) ∧ okop dsX12_run_18 16 = true) ∧ (decode dsX12_run_18 18 = .ok (.i2l, 1) ∧ okop dsX12_run_18 18 = true) := by decide +kernel
theorem dX12_run_18 : decode cX12_run 18 = .ok (.invokevirtual 143, 3) := dgq (p := 0) daX12_run_18 dbX12_run_18.1
theorem dX12_run_21 : decode cX12_run 21 = .ok (.ireturn, 1) := dgq (p := 3) daX12_run_18 dbX12_run_18.2.1
theorem dX12_run_22 : decode cX12_run 22 = .ok (.iload_n 3, 1) := dgq (p := 4) daX12_run_18 dbX12_run_18.2.2.1
theorem dX12_run_23 : decode cX12_run 23 = .ok (.i2l, 1) := dgq (p := 5) daX12_run_18 dbX12_run_18.2.2.2.1
theorem dX12_run_24 : decode cX12_run 24 = .ok (.lconst 1, 1) := dgq (p := 6) daX12_run_18 dbX12_run_18.2.2.2.2.1
theorem dX12_run_25 : decode cX12_run 25 = .ok (.ldc2_w 141, 3) := dgq (p := 7) daX12_run_18 dbX12_run_18.2.2.2.2.2.1
theorem dX12_run_28 : decode cX12_run 28 = .ok (.invokestatic 101, 3) := dgq (p := 10) daX12_run_18 dbX12_run_18.2.2.2.2.2.2.1
theorem dX12_run_31 : decode cX12_run 31 = .ok (.ifCond .eq 16, 3) := dgq (p := 13) daX12_run_18 dbX12_run_18.2.2.2.2.2.2.2.1
theorem dX12_run_34 : decode cX12_run 34 = .ok (.iload 4, 2) := dgq (p := 16) daX12_run_18 dbX12_run_18.2.2.2.2.2.2.2.2.1
theorem dX12_run_36 : decode cX12_run 36 = .ok (.i2l, 1) := dgq (p := 18) daX12_run_18 dbX12_run_18.2.2.2.2.2.2.2.2.2
def dsX12_run_37 : ByteArray := ⟨#[10, 20, 1, 50, 184, 0, 101, 154, 0, 9, 42, 5, 182, 0, 143, 172, 42, 27]⟩
theorem daX12_run_37 : agB cX12_run dsX12_run_37 37 := agB_of (n := 18) (by decide +kernel)
theorem dbX12_run_37 : (decode dsX12_run_37 0 = .ok (.lconst 1, 1) ∧ okop dsX12_run_37 0 = true) ∧ (decode dsX12_run_37 1 = .ok (.ldc2_w 306, 3) ∧ okop dsX12_run_37 1 = true) ∧ (decode dsX12_run_37 4 = .ok (.invokestatic 101, 3) ∧ okop dsX12_run_37 4 = true) ∧ (decode dsX12_run_37 7 = .ok (.ifCond .ne 9, 3) ∧ okop dsX12_run_37 7 = true) ∧ (decode dsX12_run_37 10 = .ok (.aload_n 0, 1) ∧ okop dsX12_run_37 10 = true) ∧ (decode dsX12_run_37 11 = .ok (.iconst 2, 1) ∧ okop dsX12_run_37 11 = true) ∧ (decode dsX12_run_37 12 = .ok (.invokevirtual 143, 3) ∧ okop dsX12_run_37 12 = true) ∧ (decode dsX12_run_37 15 = .ok (.ireturn, 1) ∧ okop dsX12_run_37 15 = true) ∧ (decode dsX12_run_37 16 = .ok (.aload_n 0, 1) ∧ okop dsX12_run_37 16 = true) ∧ (decode dsX12_run_37 17 = .ok (.iload_n 1, 1) ∧ okop dsX12_run_37 17 = true) := by decide +kernel
theorem dX12_run_37 : decode cX12_run 37 = .ok (.lconst 1, 1) := dgq (p := 0) daX12_run_37 dbX12_run_37.1
theorem dX12_run_38 : decode cX12_run 38 = .ok (.ldc2_w 306, 3) := dgq (p := 1) daX12_run_37 dbX12_run_37.2.1
theorem dX12_run_41 : decode cX12_run 41 = .ok (.invokestatic 101, 3) := dgq (p := 4) daX12_run_37 dbX12_run_37.2.2.1
theorem dX12_run_44 : decode cX12_run 44 = .ok (.ifCond .ne 9, 3) := dgq (p := 7) daX12_run_37 dbX12_run_37.2.2.2.1
theorem dX12_run_47 : decode cX12_run 47 = .ok (.aload_n 0, 1) := dgq (p := 10) daX12_run_37 dbX12_run_37.2.2.2.2.1
theorem dX12_run_48 : decode cX12_run 48 = .ok (.iconst 2, 1) := dgq (p := 11) daX12_run_37 dbX12_run_37.2.2.2.2.2.1
theorem dX12_run_49 : decode cX12_run 49 = .ok (.invokevirtual 143, 3) := dgq (p := 12) daX12_run_37 dbX12_run_37.2.2.2.2.2.2.1
theorem dX12_run_52 : decode cX12_run 52 = .ok (.ireturn, 1) := dgq (p := 15) daX12_run_37 dbX12_run_37.2.2.2.2.2.2.2.1
theorem dX12_run_53 : decode cX12_run 53 = .ok (.aload_n 0, 1) := dgq (p := 16) daX12_run_37 dbX12_run_37.2.2.2.2.2.2.2.2.1
theorem dX12_run_54 : decode cX12_run 54 = .ok (.iload_n 1, 1) := dgq (p := 17) daX12_run_37 dbX12_run_37.2.2.2.2.2.2.2.2.2
def dsX12_run_55 : ByteArray := ⟨#[28, 182, 0, 125, 153, 0, 21, 42, 27, 28, 182, 1, 193, 153, 0, 12, 42, 28]⟩
theorem daX12_run_55 : agB cX12_run dsX12_run_55 55 := agB_of (n := 18) (by decide +kernel)
theorem dbX12_run_55 : (decode dsX12_run_55 0 = .ok (.iload_n 2, 1) ∧ okop dsX12_run_55 0 = true) ∧ (decode dsX12_run_55 1 = .ok (.invokevirtual 125, 3) ∧ okop dsX12_run_55 1 = true) ∧ (decode dsX12_run_55 4 = .ok (.ifCond .eq 21, 3) ∧ okop dsX12_run_55 4 = true) ∧ (decode dsX12_run_55 7 = .ok (.aload_n 0, 1) ∧ okop dsX12_run_55 7 = true) ∧ (decode dsX12_run_55 8 = .ok (.iload_n 1, 1) ∧ okop dsX12_run_55 8 = true) ∧ (decode dsX12_run_55 9 = .ok (.iload_n 2, 1) ∧ okop dsX12_run_55 9 = true) ∧ (decode dsX12_run_55 10 = .ok (.invokevirtual 449, 3) ∧ okop dsX12_run_55 10 = true) ∧ (decode dsX12_run_55 13 = .ok (.ifCond .eq 12, 3) ∧ okop dsX12_run_55 13 = true) ∧ (decode dsX12_run_55 16 = .ok (.aload_n 0, 1) ∧ okop dsX12_run_55 16 = true) ∧ (decode dsX12_run_55 17 = .ok (.iload_n 2, 1) ∧ okop dsX12_run_55 17 = true) := by decide +kernel
theorem dX12_run_55 : decode cX12_run 55 = .ok (.iload_n 2, 1) := dgq (p := 0) daX12_run_55 dbX12_run_55.1
theorem dX12_run_56 : decode cX12_run 56 = .ok (.invokevirtual 125, 3) := dgq (p := 1) daX12_run_55 dbX12_run_55.2.1
theorem dX12_run_59 : decode cX12_run 59 = .ok (.ifCond .eq 21, 3) := dgq (p := 4) daX12_run_55 dbX12_run_55.2.2.1
theorem dX12_run_62 : decode cX12_run 62 = .ok (.aload_n 0, 1) := dgq (p := 7) daX12_run_55 dbX12_run_55.2.2.2.1
theorem dX12_run_63 : decode cX12_run 63 = .ok (.iload_n 1, 1) := dgq (p := 8) daX12_run_55 dbX12_run_55.2.2.2.2.1
theorem dX12_run_64 : decode cX12_run 64 = .ok (.iload_n 2, 1) := dgq (p := 9) daX12_run_55 dbX12_run_55.2.2.2.2.2.1
theorem dX12_run_65 : decode cX12_run 65 = .ok (.invokevirtual 449, 3) := dgq (p := 10) daX12_run_55 dbX12_run_55.2.2.2.2.2.2.1
theorem dX12_run_68 : decode cX12_run 68 = .ok (.ifCond .eq 12, 3) := dgq (p := 13) daX12_run_55 dbX12_run_55.2.2.2.2.2.2.2.1
theorem dX12_run_71 : decode cX12_run 71 = .ok (.aload_n 0, 1) := dgq (p := 16) daX12_run_55 dbX12_run_55.2.2.2.2.2.2.2.2.1
theorem dX12_run_72 : decode cX12_run 72 = .ok (.iload_n 2, 1) := dgq (p := 17) daX12_run_55 dbX12_run_55.2.2.2.2.2.2.2.2.2
def dsX12_run_73 : ByteArray := ⟨#[27, 182, 1, 193, 154, 0, 9, 42, 6, 182, 0, 143, 172, 42, 27, 182, 0, 111]⟩
theorem daX12_run_73 : agB cX12_run dsX12_run_73 73 := agB_of (n := 18) (by decide +kernel)
theorem dbX12_run_73 : (decode dsX12_run_73 0 = .ok (.iload_n 1, 1) ∧ okop dsX12_run_73 0 = true) ∧ (decode dsX12_run_73 1 = .ok (.invokevirtual 449, 3) ∧ okop dsX12_run_73 1 = true) ∧ (decode dsX12_run_73 4 = .ok (.ifCond .ne 9, 3) ∧ okop dsX12_run_73 4 = true) ∧ (decode dsX12_run_73 7 = .ok (.aload_n 0, 1) ∧ okop dsX12_run_73 7 = true) ∧ (decode dsX12_run_73 8 = .ok (.iconst 3, 1) ∧ okop dsX12_run_73 8 = true) ∧ (decode dsX12_run_73 9 = .ok (.invokevirtual 143, 3) ∧ okop dsX12_run_73 9 = true) ∧ (decode dsX12_run_73 12 = .ok (.ireturn, 1) ∧ okop dsX12_run_73 12 = true) ∧ (decode dsX12_run_73 13 = .ok (.aload_n 0, 1) ∧ okop dsX12_run_73 13 = true) ∧ (decode dsX12_run_73 14 = .ok (.iload_n 1, 1) ∧ okop dsX12_run_73 14 = true) ∧ (decode dsX12_run_73 15 = .ok (.invokevirtual 111, 3) ∧ okop dsX12_run_73 15 = true) := by decide +kernel
theorem dX12_run_73 : decode cX12_run 73 = .ok (.iload_n 1, 1) := dgq (p := 0) daX12_run_73 dbX12_run_73.1
theorem dX12_run_74 : decode cX12_run 74 = .ok (.invokevirtual 449, 3) := dgq (p := 1) daX12_run_73 dbX12_run_73.2.1
theorem dX12_run_77 : decode cX12_run 77 = .ok (.ifCond .ne 9, 3) := dgq (p := 4) daX12_run_73 dbX12_run_73.2.2.1
theorem dX12_run_80 : decode cX12_run 80 = .ok (.aload_n 0, 1) := dgq (p := 7) daX12_run_73 dbX12_run_73.2.2.2.1
theorem dX12_run_81 : decode cX12_run 81 = .ok (.iconst 3, 1) := dgq (p := 8) daX12_run_73 dbX12_run_73.2.2.2.2.1
theorem dX12_run_82 : decode cX12_run 82 = .ok (.invokevirtual 143, 3) := dgq (p := 9) daX12_run_73 dbX12_run_73.2.2.2.2.2.1
theorem dX12_run_85 : decode cX12_run 85 = .ok (.ireturn, 1) := dgq (p := 12) daX12_run_73 dbX12_run_73.2.2.2.2.2.2.1
theorem dX12_run_86 : decode cX12_run 86 = .ok (.aload_n 0, 1) := dgq (p := 13) daX12_run_73 dbX12_run_73.2.2.2.2.2.2.2.1
theorem dX12_run_87 : decode cX12_run 87 = .ok (.iload_n 1, 1) := dgq (p := 14) daX12_run_73 dbX12_run_73.2.2.2.2.2.2.2.2.1
theorem dX12_run_88 : decode cX12_run 88 = .ok (.invokevirtual 111, 3) := dgq (p := 15) daX12_run_73 dbX12_run_73.2.2.2.2.2.2.2.2.2
def dsX12_run_91 : ByteArray := ⟨#[58, 5, 42, 28, 182, 0, 111, 58, 6, 25, 5, 29, 133, 21, 4, 133]⟩
theorem daX12_run_91 : agB cX12_run dsX12_run_91 91 := agB_of (n := 16) (by decide +kernel)
theorem dbX12_run_91 : (decode dsX12_run_91 0 = .ok (.astore 5, 2) ∧ okop dsX12_run_91 0 = true) ∧ (decode dsX12_run_91 2 = .ok (.aload_n 0, 1) ∧ okop dsX12_run_91 2 = true) ∧ (decode dsX12_run_91 3 = .ok (.iload_n 2, 1) ∧ okop dsX12_run_91 3 = true) ∧ (decode dsX12_run_91 4 = .ok (.invokevirtual 111, 3) ∧ okop dsX12_run_91 4 = true) ∧ (decode dsX12_run_91 7 = .ok (.astore 6, 2) ∧ okop dsX12_run_91 7 = true) ∧ (decode dsX12_run_91 9 = .ok (.aload 5, 2) ∧ okop dsX12_run_91 9 = true) ∧ (decode dsX12_run_91 11 = .ok (.iload_n 3, 1) ∧ okop dsX12_run_91 11 = true) ∧ (decode dsX12_run_91 12 = .ok (.i2l, 1) ∧ okop dsX12_run_91 12 = true) ∧ (decode dsX12_run_91 13 = .ok (.iload 4, 2) ∧ okop dsX12_run_91 13 = true) ∧ (decode dsX12_run_91 15 = .ok (.i2l, 1) ∧ okop dsX12_run_91 15 = true) := by decide +kernel
theorem dX12_run_91 : decode cX12_run 91 = .ok (.astore 5, 2) := dgq (p := 0) daX12_run_91 dbX12_run_91.1
theorem dX12_run_93 : decode cX12_run 93 = .ok (.aload_n 0, 1) := dgq (p := 2) daX12_run_91 dbX12_run_91.2.1
theorem dX12_run_94 : decode cX12_run 94 = .ok (.iload_n 2, 1) := dgq (p := 3) daX12_run_91 dbX12_run_91.2.2.1
theorem dX12_run_95 : decode cX12_run 95 = .ok (.invokevirtual 111, 3) := dgq (p := 4) daX12_run_91 dbX12_run_91.2.2.2.1
theorem dX12_run_98 : decode cX12_run 98 = .ok (.astore 6, 2) := dgq (p := 7) daX12_run_91 dbX12_run_91.2.2.2.2.1
theorem dX12_run_100 : decode cX12_run 100 = .ok (.aload 5, 2) := dgq (p := 9) daX12_run_91 dbX12_run_91.2.2.2.2.2.1
theorem dX12_run_102 : decode cX12_run 102 = .ok (.iload_n 3, 1) := dgq (p := 11) daX12_run_91 dbX12_run_91.2.2.2.2.2.2.1
theorem dX12_run_103 : decode cX12_run 103 = .ok (.i2l, 1) := dgq (p := 12) daX12_run_91 dbX12_run_91.2.2.2.2.2.2.2.1
theorem dX12_run_104 : decode cX12_run 104 = .ok (.iload 4, 2) := dgq (p := 13) daX12_run_91 dbX12_run_91.2.2.2.2.2.2.2.2.1
theorem dX12_run_106 : decode cX12_run 106 = .ok (.i2l, 1) := dgq (p := 15) daX12_run_91 dbX12_run_91.2.2.2.2.2.2.2.2.2
def dsX12_run_107 : ByteArray := ⟨#[182, 1, 196, 25, 6, 29, 133, 25, 6, 180, 1, 76, 133, 105, 25, 5, 180, 1, 76]⟩
theorem daX12_run_107 : agB cX12_run dsX12_run_107 107 := agB_of (n := 19) (by decide +kernel)
theorem dbX12_run_107 : (decode dsX12_run_107 0 = .ok (.invokevirtual 452, 3) ∧ okop dsX12_run_107 0 = true) ∧ (decode dsX12_run_107 3 = .ok (.aload 6, 2) ∧ okop dsX12_run_107 3 = true) ∧ (decode dsX12_run_107 5 = .ok (.iload_n 3, 1) ∧ okop dsX12_run_107 5 = true) ∧ (decode dsX12_run_107 6 = .ok (.i2l, 1) ∧ okop dsX12_run_107 6 = true) ∧ (decode dsX12_run_107 7 = .ok (.aload 6, 2) ∧ okop dsX12_run_107 7 = true) ∧ (decode dsX12_run_107 9 = .ok (.getfield 332, 3) ∧ okop dsX12_run_107 9 = true) ∧ (decode dsX12_run_107 12 = .ok (.i2l, 1) ∧ okop dsX12_run_107 12 = true) ∧ (decode dsX12_run_107 13 = .ok (.lmul, 1) ∧ okop dsX12_run_107 13 = true) ∧ (decode dsX12_run_107 14 = .ok (.aload 5, 2) ∧ okop dsX12_run_107 14 = true) ∧ (decode dsX12_run_107 16 = .ok (.getfield 332, 3) ∧ okop dsX12_run_107 16 = true) := by decide +kernel
theorem dX12_run_107 : decode cX12_run 107 = .ok (.invokevirtual 452, 3) := dgq (p := 0) daX12_run_107 dbX12_run_107.1
theorem dX12_run_110 : decode cX12_run 110 = .ok (.aload 6, 2) := dgq (p := 3) daX12_run_107 dbX12_run_107.2.1
theorem dX12_run_112 : decode cX12_run 112 = .ok (.iload_n 3, 1) := dgq (p := 5) daX12_run_107 dbX12_run_107.2.2.1
theorem dX12_run_113 : decode cX12_run 113 = .ok (.i2l, 1) := dgq (p := 6) daX12_run_107 dbX12_run_107.2.2.2.1
theorem dX12_run_114 : decode cX12_run 114 = .ok (.aload 6, 2) := dgq (p := 7) daX12_run_107 dbX12_run_107.2.2.2.2.1
theorem dX12_run_116 : decode cX12_run 116 = .ok (.getfield 332, 3) := dgq (p := 9) daX12_run_107 dbX12_run_107.2.2.2.2.2.1
theorem dX12_run_119 : decode cX12_run 119 = .ok (.i2l, 1) := dgq (p := 12) daX12_run_107 dbX12_run_107.2.2.2.2.2.2.1
theorem dX12_run_120 : decode cX12_run 120 = .ok (.lmul, 1) := dgq (p := 13) daX12_run_107 dbX12_run_107.2.2.2.2.2.2.2.1
theorem dX12_run_121 : decode cX12_run 121 = .ok (.aload 5, 2) := dgq (p := 14) daX12_run_107 dbX12_run_107.2.2.2.2.2.2.2.2.1
theorem dX12_run_123 : decode cX12_run 123 = .ok (.getfield 332, 3) := dgq (p := 16) daX12_run_107 dbX12_run_107.2.2.2.2.2.2.2.2.2
def dsX12_run_126 : ByteArray := ⟨#[133, 109, 21, 4, 133, 25, 5, 180, 1, 76, 133, 105, 25, 6, 180, 1, 76]⟩
theorem daX12_run_126 : agB cX12_run dsX12_run_126 126 := agB_of (n := 17) (by decide +kernel)
theorem dbX12_run_126 : (decode dsX12_run_126 0 = .ok (.i2l, 1) ∧ okop dsX12_run_126 0 = true) ∧ (decode dsX12_run_126 1 = .ok (.ldiv, 1) ∧ okop dsX12_run_126 1 = true) ∧ (decode dsX12_run_126 2 = .ok (.iload 4, 2) ∧ okop dsX12_run_126 2 = true) ∧ (decode dsX12_run_126 4 = .ok (.i2l, 1) ∧ okop dsX12_run_126 4 = true) ∧ (decode dsX12_run_126 5 = .ok (.aload 5, 2) ∧ okop dsX12_run_126 5 = true) ∧ (decode dsX12_run_126 7 = .ok (.getfield 332, 3) ∧ okop dsX12_run_126 7 = true) ∧ (decode dsX12_run_126 10 = .ok (.i2l, 1) ∧ okop dsX12_run_126 10 = true) ∧ (decode dsX12_run_126 11 = .ok (.lmul, 1) ∧ okop dsX12_run_126 11 = true) ∧ (decode dsX12_run_126 12 = .ok (.aload 6, 2) ∧ okop dsX12_run_126 12 = true) ∧ (decode dsX12_run_126 14 = .ok (.getfield 332, 3) ∧ okop dsX12_run_126 14 = true) := by decide +kernel
theorem dX12_run_126 : decode cX12_run 126 = .ok (.i2l, 1) := dgq (p := 0) daX12_run_126 dbX12_run_126.1
theorem dX12_run_127 : decode cX12_run 127 = .ok (.ldiv, 1) := dgq (p := 1) daX12_run_126 dbX12_run_126.2.1
theorem dX12_run_128 : decode cX12_run 128 = .ok (.iload 4, 2) := dgq (p := 2) daX12_run_126 dbX12_run_126.2.2.1
theorem dX12_run_130 : decode cX12_run 130 = .ok (.i2l, 1) := dgq (p := 4) daX12_run_126 dbX12_run_126.2.2.2.1
theorem dX12_run_131 : decode cX12_run 131 = .ok (.aload 5, 2) := dgq (p := 5) daX12_run_126 dbX12_run_126.2.2.2.2.1
theorem dX12_run_133 : decode cX12_run 133 = .ok (.getfield 332, 3) := dgq (p := 7) daX12_run_126 dbX12_run_126.2.2.2.2.2.1
theorem dX12_run_136 : decode cX12_run 136 = .ok (.i2l, 1) := dgq (p := 10) daX12_run_126 dbX12_run_126.2.2.2.2.2.2.1
theorem dX12_run_137 : decode cX12_run 137 = .ok (.lmul, 1) := dgq (p := 11) daX12_run_126 dbX12_run_126.2.2.2.2.2.2.2.1
theorem dX12_run_138 : decode cX12_run 138 = .ok (.aload 6, 2) := dgq (p := 12) daX12_run_126 dbX12_run_126.2.2.2.2.2.2.2.2.1
theorem dX12_run_140 : decode cX12_run 140 = .ok (.getfield 332, 3) := dgq (p := 14) daX12_run_126 dbX12_run_126.2.2.2.2.2.2.2.2.2
def dsX12_run_143 : ByteArray := ⟨#[133, 109, 182, 1, 196, 42, 25, 5, 182, 1, 119, 153, 0, 7, 4, 167, 0, 4, 3]⟩
theorem daX12_run_143 : agB cX12_run dsX12_run_143 143 := agB_of (n := 19) (by decide +kernel)
theorem dbX12_run_143 : (decode dsX12_run_143 0 = .ok (.i2l, 1) ∧ okop dsX12_run_143 0 = true) ∧ (decode dsX12_run_143 1 = .ok (.ldiv, 1) ∧ okop dsX12_run_143 1 = true) ∧ (decode dsX12_run_143 2 = .ok (.invokevirtual 452, 3) ∧ okop dsX12_run_143 2 = true) ∧ (decode dsX12_run_143 5 = .ok (.aload_n 0, 1) ∧ okop dsX12_run_143 5 = true) ∧ (decode dsX12_run_143 6 = .ok (.aload 5, 2) ∧ okop dsX12_run_143 6 = true) ∧ (decode dsX12_run_143 8 = .ok (.invokevirtual 375, 3) ∧ okop dsX12_run_143 8 = true) ∧ (decode dsX12_run_143 11 = .ok (.ifCond .eq 7, 3) ∧ okop dsX12_run_143 11 = true) ∧ (decode dsX12_run_143 14 = .ok (.iconst 1, 1) ∧ okop dsX12_run_143 14 = true) ∧ (decode dsX12_run_143 15 = .ok (.goto 4, 3) ∧ okop dsX12_run_143 15 = true) ∧ (decode dsX12_run_143 18 = .ok (.iconst 0, 1) ∧ okop dsX12_run_143 18 = true) := by decide +kernel
theorem dX12_run_143 : decode cX12_run 143 = .ok (.i2l, 1) := dgq (p := 0) daX12_run_143 dbX12_run_143.1
theorem dX12_run_144 : decode cX12_run 144 = .ok (.ldiv, 1) := dgq (p := 1) daX12_run_143 dbX12_run_143.2.1
theorem dX12_run_145 : decode cX12_run 145 = .ok (.invokevirtual 452, 3) := dgq (p := 2) daX12_run_143 dbX12_run_143.2.2.1
theorem dX12_run_148 : decode cX12_run 148 = .ok (.aload_n 0, 1) := dgq (p := 5) daX12_run_143 dbX12_run_143.2.2.2.1
theorem dX12_run_149 : decode cX12_run 149 = .ok (.aload 5, 2) := dgq (p := 6) daX12_run_143 dbX12_run_143.2.2.2.2.1
theorem dX12_run_151 : decode cX12_run 151 = .ok (.invokevirtual 375, 3) := dgq (p := 8) daX12_run_143 dbX12_run_143.2.2.2.2.2.1
theorem dX12_run_154 : decode cX12_run 154 = .ok (.ifCond .eq 7, 3) := dgq (p := 11) daX12_run_143 dbX12_run_143.2.2.2.2.2.2.1
theorem dX12_run_157 : decode cX12_run 157 = .ok (.iconst 1, 1) := dgq (p := 14) daX12_run_143 dbX12_run_143.2.2.2.2.2.2.2.1
theorem dX12_run_158 : decode cX12_run 158 = .ok (.goto 4, 3) := dgq (p := 15) daX12_run_143 dbX12_run_143.2.2.2.2.2.2.2.2.1
theorem dX12_run_161 : decode cX12_run 161 = .ok (.iconst 0, 1) := dgq (p := 18) daX12_run_143 dbX12_run_143.2.2.2.2.2.2.2.2.2
def dsX12_run_162 : ByteArray := ⟨#[25, 6, 182, 1, 119, 153, 0, 7, 4, 167, 0, 4, 3, 96, 182, 0, 153, 172]⟩
theorem daX12_run_162 : agB cX12_run dsX12_run_162 162 := agB_of (n := 18) (by decide +kernel)
theorem dbX12_run_162 : (decode dsX12_run_162 0 = .ok (.aload 6, 2) ∧ okop dsX12_run_162 0 = true) ∧ (decode dsX12_run_162 2 = .ok (.invokevirtual 375, 3) ∧ okop dsX12_run_162 2 = true) ∧ (decode dsX12_run_162 5 = .ok (.ifCond .eq 7, 3) ∧ okop dsX12_run_162 5 = true) ∧ (decode dsX12_run_162 8 = .ok (.iconst 1, 1) ∧ okop dsX12_run_162 8 = true) ∧ (decode dsX12_run_162 9 = .ok (.goto 4, 3) ∧ okop dsX12_run_162 9 = true) ∧ (decode dsX12_run_162 12 = .ok (.iconst 0, 1) ∧ okop dsX12_run_162 12 = true) ∧ (decode dsX12_run_162 13 = .ok (.iadd, 1) ∧ okop dsX12_run_162 13 = true) ∧ (decode dsX12_run_162 14 = .ok (.invokevirtual 153, 3) ∧ okop dsX12_run_162 14 = true) ∧ (decode dsX12_run_162 17 = .ok (.ireturn, 1) ∧ okop dsX12_run_162 17 = true) := by decide +kernel
theorem dX12_run_162 : decode cX12_run 162 = .ok (.aload 6, 2) := dgq (p := 0) daX12_run_162 dbX12_run_162.1
theorem dX12_run_164 : decode cX12_run 164 = .ok (.invokevirtual 375, 3) := dgq (p := 2) daX12_run_162 dbX12_run_162.2.1
theorem dX12_run_167 : decode cX12_run 167 = .ok (.ifCond .eq 7, 3) := dgq (p := 5) daX12_run_162 dbX12_run_162.2.2.1
theorem dX12_run_170 : decode cX12_run 170 = .ok (.iconst 1, 1) := dgq (p := 8) daX12_run_162 dbX12_run_162.2.2.2.1
theorem dX12_run_171 : decode cX12_run 171 = .ok (.goto 4, 3) := dgq (p := 9) daX12_run_162 dbX12_run_162.2.2.2.2.1
theorem dX12_run_174 : decode cX12_run 174 = .ok (.iconst 0, 1) := dgq (p := 12) daX12_run_162 dbX12_run_162.2.2.2.2.2.1
theorem dX12_run_175 : decode cX12_run 175 = .ok (.iadd, 1) := dgq (p := 13) daX12_run_162 dbX12_run_162.2.2.2.2.2.2.1
theorem dX12_run_176 : decode cX12_run 176 = .ok (.invokevirtual 153, 3) := dgq (p := 14) daX12_run_162 dbX12_run_162.2.2.2.2.2.2.2.1
theorem dX12_run_179 : decode cX12_run 179 = .ok (.ireturn, 1) := dgq (p := 17) daX12_run_162 dbX12_run_162.2.2.2.2.2.2.2.2
set_option maxRecDepth 20000 in
theorem ggX12_damage_X12_isGear : GoodIn wsX12_damage wsX12_isGear := goodIn_ca (goodIn_ca (goodIn_q _ [6, 7, 8, 9, 10, 11, 12, 13, 14, 15, 5, 16] rfl (by decide +kernel)) (goodIn_sub (fun _ h => (List.mem_cons_of_mem _ (List.mem_append_left _ (List.mem_append_left _ (List.mem_append_right _ h))))) tg_wsX120)) (goodIn_sub (fun _ h => (List.mem_cons_of_mem _ (List.mem_append_right _ h))) tg_wsJx4a65c0)
set_option maxRecDepth 20000 in
theorem gX12_damage_X12_isGear : GoodIn wsX12_damage (wsV RX12 121 RX12 yX12_isGear wsX12_isGear) := goodIn_app (goodIn_q _ [2, 3, 4, 5] rfl (by decide +kernel)) ggX12_damage_X12_isGear
set_option maxRecDepth 20000 in
theorem ggX12_damage_X12_gearAt : GoodIn wsX12_damage wsX12_gearAt := goodIn_ca (goodIn_ca (goodIn_q _ [20, 7, 21, 22, 23, 24, 11, 25, 13, 26, 27, 28, 29, 30, 31, 32, 33, 34, 35, 36, 37, 38] rfl (by decide +kernel)) (goodIn_sub (fun _ h => (List.mem_cons_of_mem _ (List.mem_append_left _ (List.mem_append_left _ (List.mem_append_right _ h))))) tg_wsX120)) (goodIn_sub (fun _ h => (List.mem_cons_of_mem _ (List.mem_append_right _ h))) tg_wsJx4a65c0)
set_option maxRecDepth 20000 in
theorem gX12_damage_X12_gearAt : GoodIn wsX12_damage (wsV RX12 111 RX12 yX12_gearAt wsX12_gearAt) := goodIn_app (goodIn_q _ [17, 18, 19, 5] rfl (by decide +kernel)) ggX12_damage_X12_gearAt
def dsX12_damage_0 : ByteArray := ⟨#[42, 42, 27, 182, 0, 121, 153, 0, 7, 3, 167, 0, 4, 4, 181, 0, 94, 42]⟩
theorem daX12_damage_0 : agB cX12_damage dsX12_damage_0 0 := agB_of (n := 18) (by decide +kernel)
theorem dbX12_damage_0 : (decode dsX12_damage_0 0 = .ok (.aload_n 0, 1) ∧ okop dsX12_damage_0 0 = true) ∧ (decode dsX12_damage_0 1 = .ok (.aload_n 0, 1) ∧ okop dsX12_damage_0 1 = true) ∧ (decode dsX12_damage_0 2 = .ok (.iload_n 1, 1) ∧ okop dsX12_damage_0 2 = true) ∧ (decode dsX12_damage_0 3 = .ok (.invokevirtual 121, 3) ∧ okop dsX12_damage_0 3 = true) ∧ (decode dsX12_damage_0 6 = .ok (.ifCond .eq 7, 3) ∧ okop dsX12_damage_0 6 = true) ∧ (decode dsX12_damage_0 9 = .ok (.iconst 0, 1) ∧ okop dsX12_damage_0 9 = true) ∧ (decode dsX12_damage_0 10 = .ok (.goto 4, 3) ∧ okop dsX12_damage_0 10 = true) ∧ (decode dsX12_damage_0 13 = .ok (.iconst 1, 1) ∧ okop dsX12_damage_0 13 = true) ∧ (decode dsX12_damage_0 14 = .ok (.putfield 94, 3) ∧ okop dsX12_damage_0 14 = true) ∧ (decode dsX12_damage_0 17 = .ok (.aload_n 0, 1) ∧ okop dsX12_damage_0 17 = true) := by decide +kernel
theorem dX12_damage_0 : decode cX12_damage 0 = .ok (.aload_n 0, 1) := dgq (p := 0) daX12_damage_0 dbX12_damage_0.1
theorem dX12_damage_1 : decode cX12_damage 1 = .ok (.aload_n 0, 1) := dgq (p := 1) daX12_damage_0 dbX12_damage_0.2.1
theorem dX12_damage_2 : decode cX12_damage 2 = .ok (.iload_n 1, 1) := dgq (p := 2) daX12_damage_0 dbX12_damage_0.2.2.1
theorem dX12_damage_3 : decode cX12_damage 3 = .ok (.invokevirtual 121, 3) := dgq (p := 3) daX12_damage_0 dbX12_damage_0.2.2.2.1
theorem dX12_damage_6 : decode cX12_damage 6 = .ok (.ifCond .eq 7, 3) := dgq (p := 6) daX12_damage_0 dbX12_damage_0.2.2.2.2.1
theorem dX12_damage_9 : decode cX12_damage 9 = .ok (.iconst 0, 1) := dgq (p := 9) daX12_damage_0 dbX12_damage_0.2.2.2.2.2.1
theorem dX12_damage_10 : decode cX12_damage 10 = .ok (.goto 4, 3) := dgq (p := 10) daX12_damage_0 dbX12_damage_0.2.2.2.2.2.2.1
theorem dX12_damage_13 : decode cX12_damage 13 = .ok (.iconst 1, 1) := dgq (p := 13) daX12_damage_0 dbX12_damage_0.2.2.2.2.2.2.2.1
theorem dX12_damage_14 : decode cX12_damage 14 = .ok (.putfield 94, 3) := dgq (p := 14) daX12_damage_0 dbX12_damage_0.2.2.2.2.2.2.2.2.1
theorem dX12_damage_17 : decode cX12_damage 17 = .ok (.aload_n 0, 1) := dgq (p := 17) daX12_damage_0 dbX12_damage_0.2.2.2.2.2.2.2.2.2
def dsX12_damage_18 : ByteArray := ⟨#[180, 0, 94, 154, 0, 14, 42, 27, 182, 0, 111, 180, 1, 199, 167, 0, 4, 9, 173]⟩
theorem daX12_damage_18 : agB cX12_damage dsX12_damage_18 18 := agB_of (n := 19) (by decide +kernel)
theorem dbX12_damage_18 : (decode dsX12_damage_18 0 = .ok (.getfield 94, 3) ∧ okop dsX12_damage_18 0 = true) ∧ (decode dsX12_damage_18 3 = .ok (.ifCond .ne 14, 3) ∧ okop dsX12_damage_18 3 = true) ∧ (decode dsX12_damage_18 6 = .ok (.aload_n 0, 1) ∧ okop dsX12_damage_18 6 = true) ∧ (decode dsX12_damage_18 7 = .ok (.iload_n 1, 1) ∧ okop dsX12_damage_18 7 = true) ∧ (decode dsX12_damage_18 8 = .ok (.invokevirtual 111, 3) ∧ okop dsX12_damage_18 8 = true) ∧ (decode dsX12_damage_18 11 = .ok (.getfield 455, 3) ∧ okop dsX12_damage_18 11 = true) ∧ (decode dsX12_damage_18 14 = .ok (.goto 4, 3) ∧ okop dsX12_damage_18 14 = true) ∧ (decode dsX12_damage_18 17 = .ok (.lconst 0, 1) ∧ okop dsX12_damage_18 17 = true) ∧ (decode dsX12_damage_18 18 = .ok (.lreturn, 1) ∧ okop dsX12_damage_18 18 = true) := by decide +kernel
theorem dX12_damage_18 : decode cX12_damage 18 = .ok (.getfield 94, 3) := dgq (p := 0) daX12_damage_18 dbX12_damage_18.1
theorem dX12_damage_21 : decode cX12_damage 21 = .ok (.ifCond .ne 14, 3) := dgq (p := 3) daX12_damage_18 dbX12_damage_18.2.1
theorem dX12_damage_24 : decode cX12_damage 24 = .ok (.aload_n 0, 1) := dgq (p := 6) daX12_damage_18 dbX12_damage_18.2.2.1
theorem dX12_damage_25 : decode cX12_damage 25 = .ok (.iload_n 1, 1) := dgq (p := 7) daX12_damage_18 dbX12_damage_18.2.2.2.1
theorem dX12_damage_26 : decode cX12_damage 26 = .ok (.invokevirtual 111, 3) := dgq (p := 8) daX12_damage_18 dbX12_damage_18.2.2.2.2.1
theorem dX12_damage_29 : decode cX12_damage 29 = .ok (.getfield 455, 3) := dgq (p := 11) daX12_damage_18 dbX12_damage_18.2.2.2.2.2.1
theorem dX12_damage_32 : decode cX12_damage 32 = .ok (.goto 4, 3) := dgq (p := 14) daX12_damage_18 dbX12_damage_18.2.2.2.2.2.2.1
theorem dX12_damage_35 : decode cX12_damage 35 = .ok (.lconst 0, 1) := dgq (p := 17) daX12_damage_18 dbX12_damage_18.2.2.2.2.2.2.2.1
theorem dX12_damage_36 : decode cX12_damage 36 = .ok (.lreturn, 1) := dgq (p := 18) daX12_damage_18 dbX12_damage_18.2.2.2.2.2.2.2.2
set_option maxRecDepth 20000 in
theorem ggX12_lists_Jx4a65c_size_8abf5 : GoodIn wsX12_lists wsJx4a65c_size_8abf5 := goodIn_ca (goodIn_q _ [6, 7] rfl (by decide +kernel)) (goodIn_sub (fun _ h => (List.mem_cons_of_mem _ (List.mem_append_left _ (List.mem_append_right _ h)))) tg_wsJx4a65c0)
set_option maxRecDepth 20000 in
theorem gX12_lists_Jx4a65c_size_8abf5 : GoodIn wsX12_lists (wsV RX12 97 RJx4a65c yJx4a65c_size_8abf5 wsJx4a65c_size_8abf5) := goodIn_app (goodIn_q _ [2, 3, 4, 5] rfl (by decide +kernel)) ggX12_lists_Jx4a65c_size_8abf5
set_option maxRecDepth 20000 in
theorem ggX12_lists_X12_gearAt : GoodIn wsX12_lists wsX12_gearAt := goodIn_ca (goodIn_ca (goodIn_q _ [12, 1, 13, 14, 15, 16, 5, 17, 7, 18, 19, 20, 21, 22, 23, 24, 25, 26, 27, 28, 29, 30] rfl (by decide +kernel)) (goodIn_sub (fun _ h => (List.mem_cons_of_mem _ (List.mem_append_left _ (List.mem_append_left _ (List.mem_append_left _ (List.mem_append_right _ h)))))) tg_wsX120)) (goodIn_sub (fun _ h => (List.mem_cons_of_mem _ (List.mem_append_left _ (List.mem_append_right _ h)))) tg_wsJx4a65c0)
set_option maxRecDepth 20000 in
theorem gX12_lists_X12_gearAt : GoodIn wsX12_lists (wsV RX12 111 RX12 yX12_gearAt wsX12_gearAt) := goodIn_app (goodIn_q _ [8, 9, 10, 11] rfl (by decide +kernel)) ggX12_lists_X12_gearAt
set_option maxRecDepth 20000 in
theorem ggX12_lists_X10_isFree : GoodIn wsX12_lists wsX10_isFree := goodIn_ca (goodIn_q _ [35, 36, 37, 38, 39, 40, 41, 34, 42, 43, 44] rfl (by decide +kernel)) (goodIn_sub (fun _ h => (List.mem_cons_of_mem _ (List.mem_append_left _ (List.mem_append_left _ (List.mem_append_right _ h))))) tg_wsX100)
set_option maxRecDepth 20000 in
theorem gX12_lists_X10_isFree : GoodIn wsX12_lists (wsV RX12 458 RX10 yX10_isFree wsX10_isFree) := goodIn_app (goodIn_q _ [31, 32, 33, 34] rfl (by decide +kernel)) ggX12_lists_X10_isFree
def dsX12_lists_0 : ByteArray := ⟨#[3, 62, 3, 54, 4, 21, 4, 42, 180, 0, 24, 182, 0, 97, 162, 0, 50, 29]⟩
theorem daX12_lists_0 : agB cX12_lists dsX12_lists_0 0 := agB_of (n := 18) (by decide +kernel)
theorem dbX12_lists_0 : (decode dsX12_lists_0 0 = .ok (.iconst 0, 1) ∧ okop dsX12_lists_0 0 = true) ∧ (decode dsX12_lists_0 1 = .ok (.istore_n 3, 1) ∧ okop dsX12_lists_0 1 = true) ∧ (decode dsX12_lists_0 2 = .ok (.iconst 0, 1) ∧ okop dsX12_lists_0 2 = true) ∧ (decode dsX12_lists_0 3 = .ok (.istore 4, 2) ∧ okop dsX12_lists_0 3 = true) ∧ (decode dsX12_lists_0 5 = .ok (.iload 4, 2) ∧ okop dsX12_lists_0 5 = true) ∧ (decode dsX12_lists_0 7 = .ok (.aload_n 0, 1) ∧ okop dsX12_lists_0 7 = true) ∧ (decode dsX12_lists_0 8 = .ok (.getfield 24, 3) ∧ okop dsX12_lists_0 8 = true) ∧ (decode dsX12_lists_0 11 = .ok (.invokevirtual 97, 3) ∧ okop dsX12_lists_0 11 = true) ∧ (decode dsX12_lists_0 14 = .ok (.if_icmp .ge 50, 3) ∧ okop dsX12_lists_0 14 = true) ∧ (decode dsX12_lists_0 17 = .ok (.iload_n 3, 1) ∧ okop dsX12_lists_0 17 = true) := by decide +kernel
theorem dX12_lists_0 : decode cX12_lists 0 = .ok (.iconst 0, 1) := dgq (p := 0) daX12_lists_0 dbX12_lists_0.1
theorem dX12_lists_1 : decode cX12_lists 1 = .ok (.istore_n 3, 1) := dgq (p := 1) daX12_lists_0 dbX12_lists_0.2.1
theorem dX12_lists_2 : decode cX12_lists 2 = .ok (.iconst 0, 1) := dgq (p := 2) daX12_lists_0 dbX12_lists_0.2.2.1
theorem dX12_lists_3 : decode cX12_lists 3 = .ok (.istore 4, 2) := dgq (p := 3) daX12_lists_0 dbX12_lists_0.2.2.2.1
theorem dX12_lists_5 : decode cX12_lists 5 = .ok (.iload 4, 2) := dgq (p := 5) daX12_lists_0 dbX12_lists_0.2.2.2.2.1
theorem dX12_lists_7 : decode cX12_lists 7 = .ok (.aload_n 0, 1) := dgq (p := 7) daX12_lists_0 dbX12_lists_0.2.2.2.2.2.1
theorem dX12_lists_8 : decode cX12_lists 8 = .ok (.getfield 24, 3) := dgq (p := 8) daX12_lists_0 dbX12_lists_0.2.2.2.2.2.2.1
theorem dX12_lists_11 : decode cX12_lists 11 = .ok (.invokevirtual 97, 3) := dgq (p := 11) daX12_lists_0 dbX12_lists_0.2.2.2.2.2.2.2.1
theorem dX12_lists_14 : decode cX12_lists 14 = .ok (.if_icmp .ge 50, 3) := dgq (p := 14) daX12_lists_0 dbX12_lists_0.2.2.2.2.2.2.2.2.1
theorem dX12_lists_17 : decode cX12_lists 17 = .ok (.iload_n 3, 1) := dgq (p := 17) daX12_lists_0 dbX12_lists_0.2.2.2.2.2.2.2.2.2
def dsX12_lists_18 : ByteArray := ⟨#[8, 162, 0, 45, 42, 21, 4, 182, 0, 111, 182, 1, 202, 153, 0, 27, 42, 21, 4, 182, 0, 111]⟩
theorem daX12_lists_18 : agB cX12_lists dsX12_lists_18 18 := agB_of (n := 22) (by decide +kernel)
theorem dbX12_lists_18 : (decode dsX12_lists_18 0 = .ok (.iconst 5, 1) ∧ okop dsX12_lists_18 0 = true) ∧ (decode dsX12_lists_18 1 = .ok (.if_icmp .ge 45, 3) ∧ okop dsX12_lists_18 1 = true) ∧ (decode dsX12_lists_18 4 = .ok (.aload_n 0, 1) ∧ okop dsX12_lists_18 4 = true) ∧ (decode dsX12_lists_18 5 = .ok (.iload 4, 2) ∧ okop dsX12_lists_18 5 = true) ∧ (decode dsX12_lists_18 7 = .ok (.invokevirtual 111, 3) ∧ okop dsX12_lists_18 7 = true) ∧ (decode dsX12_lists_18 10 = .ok (.invokevirtual 458, 3) ∧ okop dsX12_lists_18 10 = true) ∧ (decode dsX12_lists_18 13 = .ok (.ifCond .eq 27, 3) ∧ okop dsX12_lists_18 13 = true) ∧ (decode dsX12_lists_18 16 = .ok (.aload_n 0, 1) ∧ okop dsX12_lists_18 16 = true) ∧ (decode dsX12_lists_18 17 = .ok (.iload 4, 2) ∧ okop dsX12_lists_18 17 = true) ∧ (decode dsX12_lists_18 19 = .ok (.invokevirtual 111, 3) ∧ okop dsX12_lists_18 19 = true) := by decide +kernel
theorem dX12_lists_18 : decode cX12_lists 18 = .ok (.iconst 5, 1) := dgq (p := 0) daX12_lists_18 dbX12_lists_18.1
theorem dX12_lists_19 : decode cX12_lists 19 = .ok (.if_icmp .ge 45, 3) := dgq (p := 1) daX12_lists_18 dbX12_lists_18.2.1
theorem dX12_lists_22 : decode cX12_lists 22 = .ok (.aload_n 0, 1) := dgq (p := 4) daX12_lists_18 dbX12_lists_18.2.2.1
theorem dX12_lists_23 : decode cX12_lists 23 = .ok (.iload 4, 2) := dgq (p := 5) daX12_lists_18 dbX12_lists_18.2.2.2.1
theorem dX12_lists_25 : decode cX12_lists 25 = .ok (.invokevirtual 111, 3) := dgq (p := 7) daX12_lists_18 dbX12_lists_18.2.2.2.2.1
theorem dX12_lists_28 : decode cX12_lists 28 = .ok (.invokevirtual 458, 3) := dgq (p := 10) daX12_lists_18 dbX12_lists_18.2.2.2.2.2.1
theorem dX12_lists_31 : decode cX12_lists 31 = .ok (.ifCond .eq 27, 3) := dgq (p := 13) daX12_lists_18 dbX12_lists_18.2.2.2.2.2.2.1
theorem dX12_lists_34 : decode cX12_lists 34 = .ok (.aload_n 0, 1) := dgq (p := 16) daX12_lists_18 dbX12_lists_18.2.2.2.2.2.2.2.1
theorem dX12_lists_35 : decode cX12_lists 35 = .ok (.iload 4, 2) := dgq (p := 17) daX12_lists_18 dbX12_lists_18.2.2.2.2.2.2.2.2.1
theorem dX12_lists_37 : decode cX12_lists 37 = .ok (.invokevirtual 111, 3) := dgq (p := 19) daX12_lists_18 dbX12_lists_18.2.2.2.2.2.2.2.2.2
def dsX12_lists_40 : ByteArray := ⟨#[180, 1, 76, 27, 159, 0, 6, 167, 0, 11, 44, 29, 21, 4, 79, 132, 3, 1, 132, 4, 1]⟩
theorem daX12_lists_40 : agB cX12_lists dsX12_lists_40 40 := agB_of (n := 21) (by decide +kernel)
theorem dbX12_lists_40 : (decode dsX12_lists_40 0 = .ok (.getfield 332, 3) ∧ okop dsX12_lists_40 0 = true) ∧ (decode dsX12_lists_40 3 = .ok (.iload_n 1, 1) ∧ okop dsX12_lists_40 3 = true) ∧ (decode dsX12_lists_40 4 = .ok (.if_icmp .eq 6, 3) ∧ okop dsX12_lists_40 4 = true) ∧ (decode dsX12_lists_40 7 = .ok (.goto 11, 3) ∧ okop dsX12_lists_40 7 = true) ∧ (decode dsX12_lists_40 10 = .ok (.aload_n 2, 1) ∧ okop dsX12_lists_40 10 = true) ∧ (decode dsX12_lists_40 11 = .ok (.iload_n 3, 1) ∧ okop dsX12_lists_40 11 = true) ∧ (decode dsX12_lists_40 12 = .ok (.iload 4, 2) ∧ okop dsX12_lists_40 12 = true) ∧ (decode dsX12_lists_40 14 = .ok (.iastore, 1) ∧ okop dsX12_lists_40 14 = true) ∧ (decode dsX12_lists_40 15 = .ok (.iinc 3 1, 3) ∧ okop dsX12_lists_40 15 = true) ∧ (decode dsX12_lists_40 18 = .ok (.iinc 4 1, 3) ∧ okop dsX12_lists_40 18 = true) := by decide +kernel
theorem dX12_lists_40 : decode cX12_lists 40 = .ok (.getfield 332, 3) := dgq (p := 0) daX12_lists_40 dbX12_lists_40.1
theorem dX12_lists_43 : decode cX12_lists 43 = .ok (.iload_n 1, 1) := dgq (p := 3) daX12_lists_40 dbX12_lists_40.2.1
theorem dX12_lists_44 : decode cX12_lists 44 = .ok (.if_icmp .eq 6, 3) := dgq (p := 4) daX12_lists_40 dbX12_lists_40.2.2.1
theorem dX12_lists_47 : decode cX12_lists 47 = .ok (.goto 11, 3) := dgq (p := 7) daX12_lists_40 dbX12_lists_40.2.2.2.1
theorem dX12_lists_50 : decode cX12_lists 50 = .ok (.aload_n 2, 1) := dgq (p := 10) daX12_lists_40 dbX12_lists_40.2.2.2.2.1
theorem dX12_lists_51 : decode cX12_lists 51 = .ok (.iload_n 3, 1) := dgq (p := 11) daX12_lists_40 dbX12_lists_40.2.2.2.2.2.1
theorem dX12_lists_52 : decode cX12_lists 52 = .ok (.iload 4, 2) := dgq (p := 12) daX12_lists_40 dbX12_lists_40.2.2.2.2.2.2.1
theorem dX12_lists_54 : decode cX12_lists 54 = .ok (.iastore, 1) := dgq (p := 14) daX12_lists_40 dbX12_lists_40.2.2.2.2.2.2.2.1
theorem dX12_lists_55 : decode cX12_lists 55 = .ok (.iinc 3 1, 3) := dgq (p := 15) daX12_lists_40 dbX12_lists_40.2.2.2.2.2.2.2.2.1
theorem dX12_lists_58 : decode cX12_lists 58 = .ok (.iinc 4 1, 3) := dgq (p := 18) daX12_lists_40 dbX12_lists_40.2.2.2.2.2.2.2.2.2
def dsX12_lists_61 : ByteArray := ⟨#[167, 255, 200, 29, 172]⟩
theorem daX12_lists_61 : agB cX12_lists dsX12_lists_61 61 := agB_of (n := 5) (by decide +kernel)
theorem dbX12_lists_61 : (decode dsX12_lists_61 0 = .ok (.goto (-56), 3) ∧ okop dsX12_lists_61 0 = true) ∧ (decode dsX12_lists_61 3 = .ok (.iload_n 3, 1) ∧ okop dsX12_lists_61 3 = true) ∧ (decode dsX12_lists_61 4 = .ok (.ireturn, 1) ∧ okop dsX12_lists_61 4 = true) := by decide +kernel
theorem dX12_lists_61 : decode cX12_lists 61 = .ok (.goto (-56), 3) := dgq (p := 0) daX12_lists_61 dbX12_lists_61.1
theorem dX12_lists_64 : decode cX12_lists 64 = .ok (.iload_n 3, 1) := dgq (p := 3) daX12_lists_61 dbX12_lists_61.2.1
theorem dX12_lists_65 : decode cX12_lists 65 = .ok (.ireturn, 1) := dgq (p := 4) daX12_lists_61 dbX12_lists_61.2.2
set_option maxRecDepth 20000 in
theorem ggX12_matches_X12_isPair : GoodIn wsX12_matches wsX12_isPair := goodIn_ca (goodIn_ca (goodIn_ca (goodIn_q _ [16, 17, 18, 19, 15, 20, 21, 22, 23, 24, 25, 26, 27, 28, 29, 30, 31, 32, 33, 34, 35, 36, 37, 38, 39, 40, 41] rfl (by decide +kernel)) (goodIn_sub (fun _ h => (List.mem_cons_of_mem _ (List.mem_append_left _ (List.mem_append_left _ (List.mem_append_right _ h))))) tg_wsX100)) (goodIn_sub (fun _ h => (List.mem_cons_of_mem _ (List.mem_append_left _ (List.mem_append_left _ (List.mem_append_left _ (List.mem_append_right _ h)))))) tg_wsX120)) (goodIn_sub (fun _ h => (List.mem_cons_of_mem _ (List.mem_append_left _ (List.mem_append_right _ h)))) tg_wsJx4a65c0)
set_option maxRecDepth 20000 in
theorem gX12_matches_X12_isPair : GoodIn wsX12_matches (wsV RX12 125 RX12 yX12_isPair wsX12_isPair) := goodIn_app (goodIn_q _ [12, 13, 14, 15] rfl (by decide +kernel)) ggX12_matches_X12_isPair
set_option maxRecDepth 20000 in
theorem ggX12_matches_X12_matches : GoodIn wsX12_matches wsX12_matches := goodIn_ca (goodIn_ca (goodIn_ca (goodIn_ca (goodIn_q _ [0, 1, 2, 3, 4, 5, 6, 7, 8, 9, 10, 11, 12, 13, 14, 15, 16, 17, 18, 19, 20, 21, 22, 23, 24, 25, 26, 27, 28, 29, 30, 31, 32, 33, 34, 35, 36, 37, 38, 39, 40, 41, 42, 43, 44] rfl (by decide +kernel)) (goodIn_sub (fun _ h => (List.mem_cons_of_mem _ (List.mem_append_left _ (List.mem_append_left _ (List.mem_append_left _ (List.mem_append_right _ h)))))) tg_wsX120)) (goodIn_sub (fun _ h => (List.mem_cons_of_mem _ (List.mem_append_left _ (List.mem_append_left _ (List.mem_append_right _ h))))) tg_wsX100)) (goodIn_sub (fun _ h => (List.mem_cons_of_mem _ (List.mem_append_left _ (List.mem_append_right _ h)))) tg_wsJx4a65c0)) (goodIn_sub (fun _ h => List.mem_cons_of_mem _ (List.mem_append_right _ h)) (by decide +kernel))
set_option maxRecDepth 20000 in
theorem gX12_matches_X12_matches : GoodIn wsX12_matches (wsV RX12 473 RX12 yX12_matches wsX12_matches) := goodIn_app (goodIn_q _ [42, 43, 44, 15] rfl (by decide +kernel)) ggX12_matches_X12_matches
def dsX12_matches_0 : ByteArray := ⟨#[29, 42, 180, 1, 205, 160, 0, 76, 42, 180, 1, 208, 9, 148, 155, 0, 14, 22, 4]⟩
theorem daX12_matches_0 : agB cX12_matches dsX12_matches_0 0 := agB_of (n := 19) (by decide +kernel)
theorem dbX12_matches_0 : (decode dsX12_matches_0 0 = .ok (.iload_n 3, 1) ∧ okop dsX12_matches_0 0 = true) ∧ (decode dsX12_matches_0 1 = .ok (.aload_n 0, 1) ∧ okop dsX12_matches_0 1 = true) ∧ (decode dsX12_matches_0 2 = .ok (.getfield 461, 3) ∧ okop dsX12_matches_0 2 = true) ∧ (decode dsX12_matches_0 5 = .ok (.if_icmp .ne 76, 3) ∧ okop dsX12_matches_0 5 = true) ∧ (decode dsX12_matches_0 8 = .ok (.aload_n 0, 1) ∧ okop dsX12_matches_0 8 = true) ∧ (decode dsX12_matches_0 9 = .ok (.getfield 464, 3) ∧ okop dsX12_matches_0 9 = true) ∧ (decode dsX12_matches_0 12 = .ok (.lconst 0, 1) ∧ okop dsX12_matches_0 12 = true) ∧ (decode dsX12_matches_0 13 = .ok (.lcmp, 1) ∧ okop dsX12_matches_0 13 = true) ∧ (decode dsX12_matches_0 14 = .ok (.ifCond .lt 14, 3) ∧ okop dsX12_matches_0 14 = true) ∧ (decode dsX12_matches_0 17 = .ok (.lload 4, 2) ∧ okop dsX12_matches_0 17 = true) := by decide +kernel
theorem dX12_matches_0 : decode cX12_matches 0 = .ok (.iload_n 3, 1) := dgq (p := 0) daX12_matches_0 dbX12_matches_0.1
theorem dX12_matches_1 : decode cX12_matches 1 = .ok (.aload_n 0, 1) := dgq (p := 1) daX12_matches_0 dbX12_matches_0.2.1
theorem dX12_matches_2 : decode cX12_matches 2 = .ok (.getfield 461, 3) := dgq (p := 2) daX12_matches_0 dbX12_matches_0.2.2.1
theorem dX12_matches_5 : decode cX12_matches 5 = .ok (.if_icmp .ne 76, 3) := dgq (p := 5) daX12_matches_0 dbX12_matches_0.2.2.2.1
theorem dX12_matches_8 : decode cX12_matches 8 = .ok (.aload_n 0, 1) := dgq (p := 8) daX12_matches_0 dbX12_matches_0.2.2.2.2.1
theorem dX12_matches_9 : decode cX12_matches 9 = .ok (.getfield 464, 3) := dgq (p := 9) daX12_matches_0 dbX12_matches_0.2.2.2.2.2.1
theorem dX12_matches_12 : decode cX12_matches 12 = .ok (.lconst 0, 1) := dgq (p := 12) daX12_matches_0 dbX12_matches_0.2.2.2.2.2.2.1
theorem dX12_matches_13 : decode cX12_matches 13 = .ok (.lcmp, 1) := dgq (p := 13) daX12_matches_0 dbX12_matches_0.2.2.2.2.2.2.2.1
theorem dX12_matches_14 : decode cX12_matches 14 = .ok (.ifCond .lt 14, 3) := dgq (p := 14) daX12_matches_0 dbX12_matches_0.2.2.2.2.2.2.2.2.1
theorem dX12_matches_17 : decode cX12_matches 17 = .ok (.lload 4, 2) := dgq (p := 17) daX12_matches_0 dbX12_matches_0.2.2.2.2.2.2.2.2.2
def dsX12_matches_19 : ByteArray := ⟨#[42, 180, 1, 208, 148, 155, 0, 4, 177, 42, 22, 4, 181, 1, 208, 3, 54, 6]⟩
theorem daX12_matches_19 : agB cX12_matches dsX12_matches_19 19 := agB_of (n := 18) (by decide +kernel)
theorem dbX12_matches_19 : (decode dsX12_matches_19 0 = .ok (.aload_n 0, 1) ∧ okop dsX12_matches_19 0 = true) ∧ (decode dsX12_matches_19 1 = .ok (.getfield 464, 3) ∧ okop dsX12_matches_19 1 = true) ∧ (decode dsX12_matches_19 4 = .ok (.lcmp, 1) ∧ okop dsX12_matches_19 4 = true) ∧ (decode dsX12_matches_19 5 = .ok (.ifCond .lt 4, 3) ∧ okop dsX12_matches_19 5 = true) ∧ (decode dsX12_matches_19 8 = .ok (.return_, 1) ∧ okop dsX12_matches_19 8 = true) ∧ (decode dsX12_matches_19 9 = .ok (.aload_n 0, 1) ∧ okop dsX12_matches_19 9 = true) ∧ (decode dsX12_matches_19 10 = .ok (.lload 4, 2) ∧ okop dsX12_matches_19 10 = true) ∧ (decode dsX12_matches_19 12 = .ok (.putfield 464, 3) ∧ okop dsX12_matches_19 12 = true) ∧ (decode dsX12_matches_19 15 = .ok (.iconst 0, 1) ∧ okop dsX12_matches_19 15 = true) ∧ (decode dsX12_matches_19 16 = .ok (.istore 6, 2) ∧ okop dsX12_matches_19 16 = true) := by decide +kernel
theorem dX12_matches_19 : decode cX12_matches 19 = .ok (.aload_n 0, 1) := dgq (p := 0) daX12_matches_19 dbX12_matches_19.1
theorem dX12_matches_20 : decode cX12_matches 20 = .ok (.getfield 464, 3) := dgq (p := 1) daX12_matches_19 dbX12_matches_19.2.1
theorem dX12_matches_23 : decode cX12_matches 23 = .ok (.lcmp, 1) := dgq (p := 4) daX12_matches_19 dbX12_matches_19.2.2.1
theorem dX12_matches_24 : decode cX12_matches 24 = .ok (.ifCond .lt 4, 3) := dgq (p := 5) daX12_matches_19 dbX12_matches_19.2.2.2.1
theorem dX12_matches_27 : decode cX12_matches 27 = .ok (.return_, 1) := dgq (p := 8) daX12_matches_19 dbX12_matches_19.2.2.2.2.1
theorem dX12_matches_28 : decode cX12_matches 28 = .ok (.aload_n 0, 1) := dgq (p := 9) daX12_matches_19 dbX12_matches_19.2.2.2.2.2.1
theorem dX12_matches_29 : decode cX12_matches 29 = .ok (.lload 4, 2) := dgq (p := 10) daX12_matches_19 dbX12_matches_19.2.2.2.2.2.2.1
theorem dX12_matches_31 : decode cX12_matches 31 = .ok (.putfield 464, 3) := dgq (p := 12) daX12_matches_19 dbX12_matches_19.2.2.2.2.2.2.2.1
theorem dX12_matches_34 : decode cX12_matches 34 = .ok (.iconst 0, 1) := dgq (p := 15) daX12_matches_19 dbX12_matches_19.2.2.2.2.2.2.2.2.1
theorem dX12_matches_35 : decode cX12_matches 35 = .ok (.istore 6, 2) := dgq (p := 16) daX12_matches_19 dbX12_matches_19.2.2.2.2.2.2.2.2.2
def dsX12_matches_37 : ByteArray := ⟨#[21, 6, 42, 180, 1, 205, 162, 0, 37, 42, 180, 0, 60, 21, 6, 42, 180, 0, 54, 21, 6]⟩
theorem daX12_matches_37 : agB cX12_matches dsX12_matches_37 37 := agB_of (n := 21) (by decide +kernel)
theorem dbX12_matches_37 : (decode dsX12_matches_37 0 = .ok (.iload 6, 2) ∧ okop dsX12_matches_37 0 = true) ∧ (decode dsX12_matches_37 2 = .ok (.aload_n 0, 1) ∧ okop dsX12_matches_37 2 = true) ∧ (decode dsX12_matches_37 3 = .ok (.getfield 461, 3) ∧ okop dsX12_matches_37 3 = true) ∧ (decode dsX12_matches_37 6 = .ok (.if_icmp .ge 37, 3) ∧ okop dsX12_matches_37 6 = true) ∧ (decode dsX12_matches_37 9 = .ok (.aload_n 0, 1) ∧ okop dsX12_matches_37 9 = true) ∧ (decode dsX12_matches_37 10 = .ok (.getfield 60, 3) ∧ okop dsX12_matches_37 10 = true) ∧ (decode dsX12_matches_37 13 = .ok (.iload 6, 2) ∧ okop dsX12_matches_37 13 = true) ∧ (decode dsX12_matches_37 15 = .ok (.aload_n 0, 1) ∧ okop dsX12_matches_37 15 = true) ∧ (decode dsX12_matches_37 16 = .ok (.getfield 54, 3) ∧ okop dsX12_matches_37 16 = true) ∧ (decode dsX12_matches_37 19 = .ok (.iload 6, 2) ∧ okop dsX12_matches_37 19 = true) := by decide +kernel
theorem dX12_matches_37 : decode cX12_matches 37 = .ok (.iload 6, 2) := dgq (p := 0) daX12_matches_37 dbX12_matches_37.1
theorem dX12_matches_39 : decode cX12_matches 39 = .ok (.aload_n 0, 1) := dgq (p := 2) daX12_matches_37 dbX12_matches_37.2.1
theorem dX12_matches_40 : decode cX12_matches 40 = .ok (.getfield 461, 3) := dgq (p := 3) daX12_matches_37 dbX12_matches_37.2.2.1
theorem dX12_matches_43 : decode cX12_matches 43 = .ok (.if_icmp .ge 37, 3) := dgq (p := 6) daX12_matches_37 dbX12_matches_37.2.2.2.1
theorem dX12_matches_46 : decode cX12_matches 46 = .ok (.aload_n 0, 1) := dgq (p := 9) daX12_matches_37 dbX12_matches_37.2.2.2.2.1
theorem dX12_matches_47 : decode cX12_matches 47 = .ok (.getfield 60, 3) := dgq (p := 10) daX12_matches_37 dbX12_matches_37.2.2.2.2.2.1
theorem dX12_matches_50 : decode cX12_matches 50 = .ok (.iload 6, 2) := dgq (p := 13) daX12_matches_37 dbX12_matches_37.2.2.2.2.2.2.1
theorem dX12_matches_52 : decode cX12_matches 52 = .ok (.aload_n 0, 1) := dgq (p := 15) daX12_matches_37 dbX12_matches_37.2.2.2.2.2.2.2.1
theorem dX12_matches_53 : decode cX12_matches 53 = .ok (.getfield 54, 3) := dgq (p := 16) daX12_matches_37 dbX12_matches_37.2.2.2.2.2.2.2.2.1
theorem dX12_matches_56 : decode cX12_matches 56 = .ok (.iload 6, 2) := dgq (p := 19) daX12_matches_37 dbX12_matches_37.2.2.2.2.2.2.2.2.2
def dsX12_matches_58 : ByteArray := ⟨#[46, 79, 42, 180, 0, 63, 21, 6, 42, 180, 0, 57, 21, 6, 46, 79]⟩
theorem daX12_matches_58 : agB cX12_matches dsX12_matches_58 58 := agB_of (n := 16) (by decide +kernel)
theorem dbX12_matches_58 : (decode dsX12_matches_58 0 = .ok (.iaload, 1) ∧ okop dsX12_matches_58 0 = true) ∧ (decode dsX12_matches_58 1 = .ok (.iastore, 1) ∧ okop dsX12_matches_58 1 = true) ∧ (decode dsX12_matches_58 2 = .ok (.aload_n 0, 1) ∧ okop dsX12_matches_58 2 = true) ∧ (decode dsX12_matches_58 3 = .ok (.getfield 63, 3) ∧ okop dsX12_matches_58 3 = true) ∧ (decode dsX12_matches_58 6 = .ok (.iload 6, 2) ∧ okop dsX12_matches_58 6 = true) ∧ (decode dsX12_matches_58 8 = .ok (.aload_n 0, 1) ∧ okop dsX12_matches_58 8 = true) ∧ (decode dsX12_matches_58 9 = .ok (.getfield 57, 3) ∧ okop dsX12_matches_58 9 = true) ∧ (decode dsX12_matches_58 12 = .ok (.iload 6, 2) ∧ okop dsX12_matches_58 12 = true) ∧ (decode dsX12_matches_58 14 = .ok (.iaload, 1) ∧ okop dsX12_matches_58 14 = true) ∧ (decode dsX12_matches_58 15 = .ok (.iastore, 1) ∧ okop dsX12_matches_58 15 = true) := by decide +kernel
theorem dX12_matches_58 : decode cX12_matches 58 = .ok (.iaload, 1) := dgq (p := 0) daX12_matches_58 dbX12_matches_58.1
theorem dX12_matches_59 : decode cX12_matches 59 = .ok (.iastore, 1) := dgq (p := 1) daX12_matches_58 dbX12_matches_58.2.1
theorem dX12_matches_60 : decode cX12_matches 60 = .ok (.aload_n 0, 1) := dgq (p := 2) daX12_matches_58 dbX12_matches_58.2.2.1
theorem dX12_matches_61 : decode cX12_matches 61 = .ok (.getfield 63, 3) := dgq (p := 3) daX12_matches_58 dbX12_matches_58.2.2.2.1
theorem dX12_matches_64 : decode cX12_matches 64 = .ok (.iload 6, 2) := dgq (p := 6) daX12_matches_58 dbX12_matches_58.2.2.2.2.1
theorem dX12_matches_66 : decode cX12_matches 66 = .ok (.aload_n 0, 1) := dgq (p := 8) daX12_matches_58 dbX12_matches_58.2.2.2.2.2.1
theorem dX12_matches_67 : decode cX12_matches 67 = .ok (.getfield 57, 3) := dgq (p := 9) daX12_matches_58 dbX12_matches_58.2.2.2.2.2.2.1
theorem dX12_matches_70 : decode cX12_matches 70 = .ok (.iload 6, 2) := dgq (p := 12) daX12_matches_58 dbX12_matches_58.2.2.2.2.2.2.2.1
theorem dX12_matches_72 : decode cX12_matches 72 = .ok (.iaload, 1) := dgq (p := 14) daX12_matches_58 dbX12_matches_58.2.2.2.2.2.2.2.2.1
theorem dX12_matches_73 : decode cX12_matches 73 = .ok (.iastore, 1) := dgq (p := 15) daX12_matches_58 dbX12_matches_58.2.2.2.2.2.2.2.2.2
def dsX12_matches_74 : ByteArray := ⟨#[132, 6, 1, 167, 255, 216, 177, 27, 54, 6, 21, 6, 42, 180, 1, 211, 162, 0, 120, 3]⟩
theorem daX12_matches_74 : agB cX12_matches dsX12_matches_74 74 := agB_of (n := 20) (by decide +kernel)
theorem dbX12_matches_74 : (decode dsX12_matches_74 0 = .ok (.iinc 6 1, 3) ∧ okop dsX12_matches_74 0 = true) ∧ (decode dsX12_matches_74 3 = .ok (.goto (-40), 3) ∧ okop dsX12_matches_74 3 = true) ∧ (decode dsX12_matches_74 6 = .ok (.return_, 1) ∧ okop dsX12_matches_74 6 = true) ∧ (decode dsX12_matches_74 7 = .ok (.iload_n 1, 1) ∧ okop dsX12_matches_74 7 = true) ∧ (decode dsX12_matches_74 8 = .ok (.istore 6, 2) ∧ okop dsX12_matches_74 8 = true) ∧ (decode dsX12_matches_74 10 = .ok (.iload 6, 2) ∧ okop dsX12_matches_74 10 = true) ∧ (decode dsX12_matches_74 12 = .ok (.aload_n 0, 1) ∧ okop dsX12_matches_74 12 = true) ∧ (decode dsX12_matches_74 13 = .ok (.getfield 467, 3) ∧ okop dsX12_matches_74 13 = true) ∧ (decode dsX12_matches_74 16 = .ok (.if_icmp .ge 120, 3) ∧ okop dsX12_matches_74 16 = true) ∧ (decode dsX12_matches_74 19 = .ok (.iconst 0, 1) ∧ okop dsX12_matches_74 19 = true) := by decide +kernel
theorem dX12_matches_74 : decode cX12_matches 74 = .ok (.iinc 6 1, 3) := dgq (p := 0) daX12_matches_74 dbX12_matches_74.1
theorem dX12_matches_77 : decode cX12_matches 77 = .ok (.goto (-40), 3) := dgq (p := 3) daX12_matches_74 dbX12_matches_74.2.1
theorem dX12_matches_80 : decode cX12_matches 80 = .ok (.return_, 1) := dgq (p := 6) daX12_matches_74 dbX12_matches_74.2.2.1
theorem dX12_matches_81 : decode cX12_matches 81 = .ok (.iload_n 1, 1) := dgq (p := 7) daX12_matches_74 dbX12_matches_74.2.2.2.1
theorem dX12_matches_82 : decode cX12_matches 82 = .ok (.istore 6, 2) := dgq (p := 8) daX12_matches_74 dbX12_matches_74.2.2.2.2.1
theorem dX12_matches_84 : decode cX12_matches 84 = .ok (.iload 6, 2) := dgq (p := 10) daX12_matches_74 dbX12_matches_74.2.2.2.2.2.1
theorem dX12_matches_86 : decode cX12_matches 86 = .ok (.aload_n 0, 1) := dgq (p := 12) daX12_matches_74 dbX12_matches_74.2.2.2.2.2.2.1
theorem dX12_matches_87 : decode cX12_matches 87 = .ok (.getfield 467, 3) := dgq (p := 13) daX12_matches_74 dbX12_matches_74.2.2.2.2.2.2.2.1
theorem dX12_matches_90 : decode cX12_matches 90 = .ok (.if_icmp .ge 120, 3) := dgq (p := 16) daX12_matches_74 dbX12_matches_74.2.2.2.2.2.2.2.2.1
theorem dX12_matches_93 : decode cX12_matches 93 = .ok (.iconst 0, 1) := dgq (p := 19) daX12_matches_74 dbX12_matches_74.2.2.2.2.2.2.2.2.2
def dsX12_matches_94 : ByteArray := ⟨#[54, 7, 21, 7, 42, 180, 1, 214, 162, 0, 102, 28, 21, 7, 122, 4, 126]⟩
theorem daX12_matches_94 : agB cX12_matches dsX12_matches_94 94 := agB_of (n := 17) (by decide +kernel)
theorem dbX12_matches_94 : (decode dsX12_matches_94 0 = .ok (.istore 7, 2) ∧ okop dsX12_matches_94 0 = true) ∧ (decode dsX12_matches_94 2 = .ok (.iload 7, 2) ∧ okop dsX12_matches_94 2 = true) ∧ (decode dsX12_matches_94 4 = .ok (.aload_n 0, 1) ∧ okop dsX12_matches_94 4 = true) ∧ (decode dsX12_matches_94 5 = .ok (.getfield 470, 3) ∧ okop dsX12_matches_94 5 = true) ∧ (decode dsX12_matches_94 8 = .ok (.if_icmp .ge 102, 3) ∧ okop dsX12_matches_94 8 = true) ∧ (decode dsX12_matches_94 11 = .ok (.iload_n 2, 1) ∧ okop dsX12_matches_94 11 = true) ∧ (decode dsX12_matches_94 12 = .ok (.iload 7, 2) ∧ okop dsX12_matches_94 12 = true) ∧ (decode dsX12_matches_94 14 = .ok (.ishr, 1) ∧ okop dsX12_matches_94 14 = true) ∧ (decode dsX12_matches_94 15 = .ok (.iconst 1, 1) ∧ okop dsX12_matches_94 15 = true) ∧ (decode dsX12_matches_94 16 = .ok (.iand, 1) ∧ okop dsX12_matches_94 16 = true) := by decide +kernel
theorem dX12_matches_94 : decode cX12_matches 94 = .ok (.istore 7, 2) := dgq (p := 0) daX12_matches_94 dbX12_matches_94.1
theorem dX12_matches_96 : decode cX12_matches 96 = .ok (.iload 7, 2) := dgq (p := 2) daX12_matches_94 dbX12_matches_94.2.1
theorem dX12_matches_98 : decode cX12_matches 98 = .ok (.aload_n 0, 1) := dgq (p := 4) daX12_matches_94 dbX12_matches_94.2.2.1
theorem dX12_matches_99 : decode cX12_matches 99 = .ok (.getfield 470, 3) := dgq (p := 5) daX12_matches_94 dbX12_matches_94.2.2.2.1
theorem dX12_matches_102 : decode cX12_matches 102 = .ok (.if_icmp .ge 102, 3) := dgq (p := 8) daX12_matches_94 dbX12_matches_94.2.2.2.2.1
theorem dX12_matches_105 : decode cX12_matches 105 = .ok (.iload_n 2, 1) := dgq (p := 11) daX12_matches_94 dbX12_matches_94.2.2.2.2.2.1
theorem dX12_matches_106 : decode cX12_matches 106 = .ok (.iload 7, 2) := dgq (p := 12) daX12_matches_94 dbX12_matches_94.2.2.2.2.2.2.1
theorem dX12_matches_108 : decode cX12_matches 108 = .ok (.ishr, 1) := dgq (p := 14) daX12_matches_94 dbX12_matches_94.2.2.2.2.2.2.2.1
theorem dX12_matches_109 : decode cX12_matches 109 = .ok (.iconst 1, 1) := dgq (p := 15) daX12_matches_94 dbX12_matches_94.2.2.2.2.2.2.2.2.1
theorem dX12_matches_110 : decode cX12_matches 110 = .ok (.iand, 1) := dgq (p := 16) daX12_matches_94 dbX12_matches_94.2.2.2.2.2.2.2.2.2
def dsX12_matches_111 : ByteArray := ⟨#[4, 159, 0, 86, 42, 42, 180, 0, 66, 21, 6, 46, 42, 180, 0, 69, 21, 7]⟩
theorem daX12_matches_111 : agB cX12_matches dsX12_matches_111 111 := agB_of (n := 18) (by decide +kernel)
theorem dbX12_matches_111 : (decode dsX12_matches_111 0 = .ok (.iconst 1, 1) ∧ okop dsX12_matches_111 0 = true) ∧ (decode dsX12_matches_111 1 = .ok (.if_icmp .eq 86, 3) ∧ okop dsX12_matches_111 1 = true) ∧ (decode dsX12_matches_111 4 = .ok (.aload_n 0, 1) ∧ okop dsX12_matches_111 4 = true) ∧ (decode dsX12_matches_111 5 = .ok (.aload_n 0, 1) ∧ okop dsX12_matches_111 5 = true) ∧ (decode dsX12_matches_111 6 = .ok (.getfield 66, 3) ∧ okop dsX12_matches_111 6 = true) ∧ (decode dsX12_matches_111 9 = .ok (.iload 6, 2) ∧ okop dsX12_matches_111 9 = true) ∧ (decode dsX12_matches_111 11 = .ok (.iaload, 1) ∧ okop dsX12_matches_111 11 = true) ∧ (decode dsX12_matches_111 12 = .ok (.aload_n 0, 1) ∧ okop dsX12_matches_111 12 = true) ∧ (decode dsX12_matches_111 13 = .ok (.getfield 69, 3) ∧ okop dsX12_matches_111 13 = true) ∧ (decode dsX12_matches_111 16 = .ok (.iload 7, 2) ∧ okop dsX12_matches_111 16 = true) := by decide +kernel
theorem dX12_matches_111 : decode cX12_matches 111 = .ok (.iconst 1, 1) := dgq (p := 0) daX12_matches_111 dbX12_matches_111.1
theorem dX12_matches_112 : decode cX12_matches 112 = .ok (.if_icmp .eq 86, 3) := dgq (p := 1) daX12_matches_111 dbX12_matches_111.2.1
theorem dX12_matches_115 : decode cX12_matches 115 = .ok (.aload_n 0, 1) := dgq (p := 4) daX12_matches_111 dbX12_matches_111.2.2.1
theorem dX12_matches_116 : decode cX12_matches 116 = .ok (.aload_n 0, 1) := dgq (p := 5) daX12_matches_111 dbX12_matches_111.2.2.2.1
theorem dX12_matches_117 : decode cX12_matches 117 = .ok (.getfield 66, 3) := dgq (p := 6) daX12_matches_111 dbX12_matches_111.2.2.2.2.1
theorem dX12_matches_120 : decode cX12_matches 120 = .ok (.iload 6, 2) := dgq (p := 9) daX12_matches_111 dbX12_matches_111.2.2.2.2.2.1
theorem dX12_matches_122 : decode cX12_matches 122 = .ok (.iaload, 1) := dgq (p := 11) daX12_matches_111 dbX12_matches_111.2.2.2.2.2.2.1
theorem dX12_matches_123 : decode cX12_matches 123 = .ok (.aload_n 0, 1) := dgq (p := 12) daX12_matches_111 dbX12_matches_111.2.2.2.2.2.2.2.1
theorem dX12_matches_124 : decode cX12_matches 124 = .ok (.getfield 69, 3) := dgq (p := 13) daX12_matches_111 dbX12_matches_111.2.2.2.2.2.2.2.2.1
theorem dX12_matches_127 : decode cX12_matches 127 = .ok (.iload 7, 2) := dgq (p := 16) daX12_matches_111 dbX12_matches_111.2.2.2.2.2.2.2.2.2
def dsX12_matches_129 : ByteArray := ⟨#[46, 182, 0, 125, 154, 0, 6, 167, 0, 62, 42, 180, 0, 54, 29, 42, 180, 0, 66, 21, 6]⟩
theorem daX12_matches_129 : agB cX12_matches dsX12_matches_129 129 := agB_of (n := 21) (by decide +kernel)
theorem dbX12_matches_129 : (decode dsX12_matches_129 0 = .ok (.iaload, 1) ∧ okop dsX12_matches_129 0 = true) ∧ (decode dsX12_matches_129 1 = .ok (.invokevirtual 125, 3) ∧ okop dsX12_matches_129 1 = true) ∧ (decode dsX12_matches_129 4 = .ok (.ifCond .ne 6, 3) ∧ okop dsX12_matches_129 4 = true) ∧ (decode dsX12_matches_129 7 = .ok (.goto 62, 3) ∧ okop dsX12_matches_129 7 = true) ∧ (decode dsX12_matches_129 10 = .ok (.aload_n 0, 1) ∧ okop dsX12_matches_129 10 = true) ∧ (decode dsX12_matches_129 11 = .ok (.getfield 54, 3) ∧ okop dsX12_matches_129 11 = true) ∧ (decode dsX12_matches_129 14 = .ok (.iload_n 3, 1) ∧ okop dsX12_matches_129 14 = true) ∧ (decode dsX12_matches_129 15 = .ok (.aload_n 0, 1) ∧ okop dsX12_matches_129 15 = true) ∧ (decode dsX12_matches_129 16 = .ok (.getfield 66, 3) ∧ okop dsX12_matches_129 16 = true) ∧ (decode dsX12_matches_129 19 = .ok (.iload 6, 2) ∧ okop dsX12_matches_129 19 = true) := by decide +kernel
theorem dX12_matches_129 : decode cX12_matches 129 = .ok (.iaload, 1) := dgq (p := 0) daX12_matches_129 dbX12_matches_129.1
theorem dX12_matches_130 : decode cX12_matches 130 = .ok (.invokevirtual 125, 3) := dgq (p := 1) daX12_matches_129 dbX12_matches_129.2.1
theorem dX12_matches_133 : decode cX12_matches 133 = .ok (.ifCond .ne 6, 3) := dgq (p := 4) daX12_matches_129 dbX12_matches_129.2.2.1
theorem dX12_matches_136 : decode cX12_matches 136 = .ok (.goto 62, 3) := dgq (p := 7) daX12_matches_129 dbX12_matches_129.2.2.2.1
theorem dX12_matches_139 : decode cX12_matches 139 = .ok (.aload_n 0, 1) := dgq (p := 10) daX12_matches_129 dbX12_matches_129.2.2.2.2.1
theorem dX12_matches_140 : decode cX12_matches 140 = .ok (.getfield 54, 3) := dgq (p := 11) daX12_matches_129 dbX12_matches_129.2.2.2.2.2.1
theorem dX12_matches_143 : decode cX12_matches 143 = .ok (.iload_n 3, 1) := dgq (p := 14) daX12_matches_129 dbX12_matches_129.2.2.2.2.2.2.1
theorem dX12_matches_144 : decode cX12_matches 144 = .ok (.aload_n 0, 1) := dgq (p := 15) daX12_matches_129 dbX12_matches_129.2.2.2.2.2.2.2.1
theorem dX12_matches_145 : decode cX12_matches 145 = .ok (.getfield 66, 3) := dgq (p := 16) daX12_matches_129 dbX12_matches_129.2.2.2.2.2.2.2.2.1
theorem dX12_matches_148 : decode cX12_matches 148 = .ok (.iload 6, 2) := dgq (p := 19) daX12_matches_129 dbX12_matches_129.2.2.2.2.2.2.2.2.2
def dsX12_matches_150 : ByteArray := ⟨#[46, 79, 42, 180, 0, 57, 29, 42, 180, 0, 69, 21, 7, 46, 79]⟩
theorem daX12_matches_150 : agB cX12_matches dsX12_matches_150 150 := agB_of (n := 15) (by decide +kernel)
theorem dbX12_matches_150 : (decode dsX12_matches_150 0 = .ok (.iaload, 1) ∧ okop dsX12_matches_150 0 = true) ∧ (decode dsX12_matches_150 1 = .ok (.iastore, 1) ∧ okop dsX12_matches_150 1 = true) ∧ (decode dsX12_matches_150 2 = .ok (.aload_n 0, 1) ∧ okop dsX12_matches_150 2 = true) ∧ (decode dsX12_matches_150 3 = .ok (.getfield 57, 3) ∧ okop dsX12_matches_150 3 = true) ∧ (decode dsX12_matches_150 6 = .ok (.iload_n 3, 1) ∧ okop dsX12_matches_150 6 = true) ∧ (decode dsX12_matches_150 7 = .ok (.aload_n 0, 1) ∧ okop dsX12_matches_150 7 = true) ∧ (decode dsX12_matches_150 8 = .ok (.getfield 69, 3) ∧ okop dsX12_matches_150 8 = true) ∧ (decode dsX12_matches_150 11 = .ok (.iload 7, 2) ∧ okop dsX12_matches_150 11 = true) ∧ (decode dsX12_matches_150 13 = .ok (.iaload, 1) ∧ okop dsX12_matches_150 13 = true) ∧ (decode dsX12_matches_150 14 = .ok (.iastore, 1) ∧ okop dsX12_matches_150 14 = true) := by decide +kernel
theorem dX12_matches_150 : decode cX12_matches 150 = .ok (.iaload, 1) := dgq (p := 0) daX12_matches_150 dbX12_matches_150.1
theorem dX12_matches_151 : decode cX12_matches 151 = .ok (.iastore, 1) := dgq (p := 1) daX12_matches_150 dbX12_matches_150.2.1
theorem dX12_matches_152 : decode cX12_matches 152 = .ok (.aload_n 0, 1) := dgq (p := 2) daX12_matches_150 dbX12_matches_150.2.2.1
theorem dX12_matches_153 : decode cX12_matches 153 = .ok (.getfield 57, 3) := dgq (p := 3) daX12_matches_150 dbX12_matches_150.2.2.2.1
theorem dX12_matches_156 : decode cX12_matches 156 = .ok (.iload_n 3, 1) := dgq (p := 6) daX12_matches_150 dbX12_matches_150.2.2.2.2.1
theorem dX12_matches_157 : decode cX12_matches 157 = .ok (.aload_n 0, 1) := dgq (p := 7) daX12_matches_150 dbX12_matches_150.2.2.2.2.2.1
theorem dX12_matches_158 : decode cX12_matches 158 = .ok (.getfield 69, 3) := dgq (p := 8) daX12_matches_150 dbX12_matches_150.2.2.2.2.2.2.1
theorem dX12_matches_161 : decode cX12_matches 161 = .ok (.iload 7, 2) := dgq (p := 11) daX12_matches_150 dbX12_matches_150.2.2.2.2.2.2.2.1
theorem dX12_matches_163 : decode cX12_matches 163 = .ok (.iaload, 1) := dgq (p := 13) daX12_matches_150 dbX12_matches_150.2.2.2.2.2.2.2.2.1
theorem dX12_matches_164 : decode cX12_matches 164 = .ok (.iastore, 1) := dgq (p := 14) daX12_matches_150 dbX12_matches_150.2.2.2.2.2.2.2.2.2
def dsX12_matches_165 : ByteArray := ⟨#[42, 21, 6, 4, 96, 28, 4, 21, 7, 120, 128, 29]⟩
theorem daX12_matches_165 : agB cX12_matches dsX12_matches_165 165 := agB_of (n := 12) (by decide +kernel)
theorem dbX12_matches_165 : (decode dsX12_matches_165 0 = .ok (.aload_n 0, 1) ∧ okop dsX12_matches_165 0 = true) ∧ (decode dsX12_matches_165 1 = .ok (.iload 6, 2) ∧ okop dsX12_matches_165 1 = true) ∧ (decode dsX12_matches_165 3 = .ok (.iconst 1, 1) ∧ okop dsX12_matches_165 3 = true) ∧ (decode dsX12_matches_165 4 = .ok (.iadd, 1) ∧ okop dsX12_matches_165 4 = true) ∧ (decode dsX12_matches_165 5 = .ok (.iload_n 2, 1) ∧ okop dsX12_matches_165 5 = true) ∧ (decode dsX12_matches_165 6 = .ok (.iconst 1, 1) ∧ okop dsX12_matches_165 6 = true) ∧ (decode dsX12_matches_165 7 = .ok (.iload 7, 2) ∧ okop dsX12_matches_165 7 = true) ∧ (decode dsX12_matches_165 9 = .ok (.ishl, 1) ∧ okop dsX12_matches_165 9 = true) ∧ (decode dsX12_matches_165 10 = .ok (.ior, 1) ∧ okop dsX12_matches_165 10 = true) ∧ (decode dsX12_matches_165 11 = .ok (.iload_n 3, 1) ∧ okop dsX12_matches_165 11 = true) := by decide +kernel
theorem dX12_matches_165 : decode cX12_matches 165 = .ok (.aload_n 0, 1) := dgq (p := 0) daX12_matches_165 dbX12_matches_165.1
theorem dX12_matches_166 : decode cX12_matches 166 = .ok (.iload 6, 2) := dgq (p := 1) daX12_matches_165 dbX12_matches_165.2.1
theorem dX12_matches_168 : decode cX12_matches 168 = .ok (.iconst 1, 1) := dgq (p := 3) daX12_matches_165 dbX12_matches_165.2.2.1
theorem dX12_matches_169 : decode cX12_matches 169 = .ok (.iadd, 1) := dgq (p := 4) daX12_matches_165 dbX12_matches_165.2.2.2.1
theorem dX12_matches_170 : decode cX12_matches 170 = .ok (.iload_n 2, 1) := dgq (p := 5) daX12_matches_165 dbX12_matches_165.2.2.2.2.1
theorem dX12_matches_171 : decode cX12_matches 171 = .ok (.iconst 1, 1) := dgq (p := 6) daX12_matches_165 dbX12_matches_165.2.2.2.2.2.1
theorem dX12_matches_172 : decode cX12_matches 172 = .ok (.iload 7, 2) := dgq (p := 7) daX12_matches_165 dbX12_matches_165.2.2.2.2.2.2.1
theorem dX12_matches_174 : decode cX12_matches 174 = .ok (.ishl, 1) := dgq (p := 9) daX12_matches_165 dbX12_matches_165.2.2.2.2.2.2.2.1
theorem dX12_matches_175 : decode cX12_matches 175 = .ok (.ior, 1) := dgq (p := 10) daX12_matches_165 dbX12_matches_165.2.2.2.2.2.2.2.2.1
theorem dX12_matches_176 : decode cX12_matches 176 = .ok (.iload_n 3, 1) := dgq (p := 11) daX12_matches_165 dbX12_matches_165.2.2.2.2.2.2.2.2.2
def dsX12_matches_177 : ByteArray := ⟨#[4, 96, 22, 4, 42, 180, 0, 91, 8, 21, 6, 104, 21, 7, 96]⟩
theorem daX12_matches_177 : agB cX12_matches dsX12_matches_177 177 := agB_of (n := 15) (by decide +kernel)
theorem dbX12_matches_177 : (decode dsX12_matches_177 0 = .ok (.iconst 1, 1) ∧ okop dsX12_matches_177 0 = true) ∧ (decode dsX12_matches_177 1 = .ok (.iadd, 1) ∧ okop dsX12_matches_177 1 = true) ∧ (decode dsX12_matches_177 2 = .ok (.lload 4, 2) ∧ okop dsX12_matches_177 2 = true) ∧ (decode dsX12_matches_177 4 = .ok (.aload_n 0, 1) ∧ okop dsX12_matches_177 4 = true) ∧ (decode dsX12_matches_177 5 = .ok (.getfield 91, 3) ∧ okop dsX12_matches_177 5 = true) ∧ (decode dsX12_matches_177 8 = .ok (.iconst 5, 1) ∧ okop dsX12_matches_177 8 = true) ∧ (decode dsX12_matches_177 9 = .ok (.iload 6, 2) ∧ okop dsX12_matches_177 9 = true) ∧ (decode dsX12_matches_177 11 = .ok (.imul, 1) ∧ okop dsX12_matches_177 11 = true) ∧ (decode dsX12_matches_177 12 = .ok (.iload 7, 2) ∧ okop dsX12_matches_177 12 = true) ∧ (decode dsX12_matches_177 14 = .ok (.iadd, 1) ∧ okop dsX12_matches_177 14 = true) := by decide +kernel
theorem dX12_matches_177 : decode cX12_matches 177 = .ok (.iconst 1, 1) := dgq (p := 0) daX12_matches_177 dbX12_matches_177.1
theorem dX12_matches_178 : decode cX12_matches 178 = .ok (.iadd, 1) := dgq (p := 1) daX12_matches_177 dbX12_matches_177.2.1
theorem dX12_matches_179 : decode cX12_matches 179 = .ok (.lload 4, 2) := dgq (p := 2) daX12_matches_177 dbX12_matches_177.2.2.1
theorem dX12_matches_181 : decode cX12_matches 181 = .ok (.aload_n 0, 1) := dgq (p := 4) daX12_matches_177 dbX12_matches_177.2.2.2.1
theorem dX12_matches_182 : decode cX12_matches 182 = .ok (.getfield 91, 3) := dgq (p := 5) daX12_matches_177 dbX12_matches_177.2.2.2.2.1
theorem dX12_matches_185 : decode cX12_matches 185 = .ok (.iconst 5, 1) := dgq (p := 8) daX12_matches_177 dbX12_matches_177.2.2.2.2.2.1
theorem dX12_matches_186 : decode cX12_matches 186 = .ok (.iload 6, 2) := dgq (p := 9) daX12_matches_177 dbX12_matches_177.2.2.2.2.2.2.1
theorem dX12_matches_188 : decode cX12_matches 188 = .ok (.imul, 1) := dgq (p := 11) daX12_matches_177 dbX12_matches_177.2.2.2.2.2.2.2.1
theorem dX12_matches_189 : decode cX12_matches 189 = .ok (.iload 7, 2) := dgq (p := 12) daX12_matches_177 dbX12_matches_177.2.2.2.2.2.2.2.2.1
theorem dX12_matches_191 : decode cX12_matches 191 = .ok (.iadd, 1) := dgq (p := 14) daX12_matches_177 dbX12_matches_177.2.2.2.2.2.2.2.2.2
def dsX12_matches_192 : ByteArray := ⟨#[46, 133, 97, 182, 1, 217, 132, 7, 1, 167, 255, 151, 132, 6, 1, 167, 255, 133, 177]⟩
theorem daX12_matches_192 : agB cX12_matches dsX12_matches_192 192 := agB_of (n := 19) (by decide +kernel)
theorem dbX12_matches_192 : (decode dsX12_matches_192 0 = .ok (.iaload, 1) ∧ okop dsX12_matches_192 0 = true) ∧ (decode dsX12_matches_192 1 = .ok (.i2l, 1) ∧ okop dsX12_matches_192 1 = true) ∧ (decode dsX12_matches_192 2 = .ok (.ladd, 1) ∧ okop dsX12_matches_192 2 = true) ∧ (decode dsX12_matches_192 3 = .ok (.invokevirtual 473, 3) ∧ okop dsX12_matches_192 3 = true) ∧ (decode dsX12_matches_192 6 = .ok (.iinc 7 1, 3) ∧ okop dsX12_matches_192 6 = true) ∧ (decode dsX12_matches_192 9 = .ok (.goto (-105), 3) ∧ okop dsX12_matches_192 9 = true) ∧ (decode dsX12_matches_192 12 = .ok (.iinc 6 1, 3) ∧ okop dsX12_matches_192 12 = true) ∧ (decode dsX12_matches_192 15 = .ok (.goto (-123), 3) ∧ okop dsX12_matches_192 15 = true) ∧ (decode dsX12_matches_192 18 = .ok (.return_, 1) ∧ okop dsX12_matches_192 18 = true) := by decide +kernel
theorem dX12_matches_192 : decode cX12_matches 192 = .ok (.iaload, 1) := dgq (p := 0) daX12_matches_192 dbX12_matches_192.1
theorem dX12_matches_193 : decode cX12_matches 193 = .ok (.i2l, 1) := dgq (p := 1) daX12_matches_192 dbX12_matches_192.2.1
theorem dX12_matches_194 : decode cX12_matches 194 = .ok (.ladd, 1) := dgq (p := 2) daX12_matches_192 dbX12_matches_192.2.2.1
theorem dX12_matches_195 : decode cX12_matches 195 = .ok (.invokevirtual 473, 3) := dgq (p := 3) daX12_matches_192 dbX12_matches_192.2.2.2.1
theorem dX12_matches_198 : decode cX12_matches 198 = .ok (.iinc 7 1, 3) := dgq (p := 6) daX12_matches_192 dbX12_matches_192.2.2.2.2.1
theorem dX12_matches_201 : decode cX12_matches 201 = .ok (.goto (-105), 3) := dgq (p := 9) daX12_matches_192 dbX12_matches_192.2.2.2.2.2.1
theorem dX12_matches_204 : decode cX12_matches 204 = .ok (.iinc 6 1, 3) := dgq (p := 12) daX12_matches_192 dbX12_matches_192.2.2.2.2.2.2.1
theorem dX12_matches_207 : decode cX12_matches 207 = .ok (.goto (-123), 3) := dgq (p := 15) daX12_matches_192 dbX12_matches_192.2.2.2.2.2.2.2.1
theorem dX12_matches_210 : decode cX12_matches 210 = .ok (.return_, 1) := dgq (p := 18) daX12_matches_192 dbX12_matches_192.2.2.2.2.2.2.2.2
set_option maxRecDepth 20000 in
theorem ggX12_match_X12_in : GoodIn wsX12_match wsX12_in := goodIn_q _ [15] rfl (by decide +kernel)
set_option maxRecDepth 20000 in
theorem gX12_match_X12_in : GoodIn wsX12_match (va_wsS RX12 101 yX12_in wsX12_in) := goodIn_app (goodIn_q _ [12, 13, 14] rfl (by decide +kernel)) ggX12_match_X12_in
set_option maxRecDepth 20000 in
theorem ggX12_match_X12_fails : GoodIn wsX12_match wsX12_fails := goodIn_ca (goodIn_q _ [19, 20] rfl (by decide +kernel)) (goodIn_sub (fun _ h => (List.mem_cons_of_mem _ (List.mem_append_left _ (List.mem_append_left _ (List.mem_append_left _ (List.mem_append_left _ (List.mem_append_right _ h))))))) tg_wsX120)
set_option maxRecDepth 20000 in
theorem gX12_match_X12_fails : GoodIn wsX12_match (wsV RX12 143 RX12 yX12_fails wsX12_fails) := goodIn_app (goodIn_q _ [16, 17, 18, 14] rfl (by decide +kernel)) ggX12_match_X12_fails
set_option maxRecDepth 20000 in
theorem ggX12_match_X12_lists : GoodIn wsX12_match wsX12_lists := goodIn_ca (goodIn_ca (goodIn_ca (goodIn_ca (goodIn_q _ [24, 25, 26, 27, 28, 29, 30, 31, 32, 33, 34, 14, 35, 36, 37, 38, 39, 40, 41, 42, 43, 44, 45, 46, 47, 48, 49, 50, 51, 52, 53, 54, 55, 56, 57, 58, 59, 60, 61, 62, 63, 64, 65, 66, 67] rfl (by decide +kernel)) (goodIn_sub (fun _ h => (List.mem_cons_of_mem _ (List.mem_append_left _ (List.mem_append_left _ (List.mem_append_left _ (List.mem_append_left _ (List.mem_append_right _ h))))))) tg_wsX120)) (goodIn_sub (fun _ h => (List.mem_cons_of_mem _ (List.mem_append_left _ (List.mem_append_left _ (List.mem_append_left _ (List.mem_append_right _ h)))))) tg_wsX100)) (goodIn_sub (fun _ h => (List.mem_cons_of_mem _ (List.mem_append_left _ (List.mem_append_left _ (List.mem_append_right _ h))))) tg_wsJx4a65c0)) (goodIn_sub (fun _ h => List.mem_cons_of_mem _ (List.mem_append_left _ (List.mem_append_right _ h))) (by decide +kernel))
set_option maxRecDepth 20000 in
theorem gX12_match_X12_lists : GoodIn wsX12_match (wsV RX12 477 RX12 yX12_lists wsX12_lists) := goodIn_app (goodIn_q _ [21, 22, 23, 14] rfl (by decide +kernel)) ggX12_match_X12_lists
set_option maxRecDepth 20000 in
theorem ggX12_match_X12_gearAt : GoodIn wsX12_match wsX12_gearAt := goodIn_ca (goodIn_ca (goodIn_q _ [35, 25, 36, 37, 38, 39, 29, 40, 31, 41, 42, 43, 44, 45, 46, 47, 48, 49, 50, 51, 52, 53] rfl (by decide +kernel)) (goodIn_sub (fun _ h => (List.mem_cons_of_mem _ (List.mem_append_left _ (List.mem_append_left _ (List.mem_append_left _ (List.mem_append_left _ (List.mem_append_right _ h))))))) tg_wsX120)) (goodIn_sub (fun _ h => (List.mem_cons_of_mem _ (List.mem_append_left _ (List.mem_append_left _ (List.mem_append_right _ h))))) tg_wsJx4a65c0)
set_option maxRecDepth 20000 in
theorem gX12_match_X12_gearAt : GoodIn wsX12_match (wsV RX12 111 RX12 yX12_gearAt wsX12_gearAt) := goodIn_app (goodIn_q _ [32, 33, 34, 14] rfl (by decide +kernel)) ggX12_match_X12_gearAt
set_option maxRecDepth 20000 in
theorem ggX12_match_X12_isPair : GoodIn wsX12_match wsX12_isPair := goodIn_ca (goodIn_ca (goodIn_ca (goodIn_q _ [71, 32, 33, 34, 14, 35, 25, 36, 37, 38, 39, 29, 40, 31, 41, 42, 43, 44, 45, 46, 47, 48, 49, 50, 51, 52, 53] rfl (by decide +kernel)) (goodIn_sub (fun _ h => (List.mem_cons_of_mem _ (List.mem_append_left _ (List.mem_append_left _ (List.mem_append_left _ (List.mem_append_right _ h)))))) tg_wsX100)) (goodIn_sub (fun _ h => (List.mem_cons_of_mem _ (List.mem_append_left _ (List.mem_append_left _ (List.mem_append_left _ (List.mem_append_left _ (List.mem_append_right _ h))))))) tg_wsX120)) (goodIn_sub (fun _ h => (List.mem_cons_of_mem _ (List.mem_append_left _ (List.mem_append_left _ (List.mem_append_right _ h))))) tg_wsJx4a65c0)
set_option maxRecDepth 20000 in
theorem gX12_match_X12_isPair : GoodIn wsX12_match (wsV RX12 125 RX12 yX12_isPair wsX12_isPair) := goodIn_app (goodIn_q _ [68, 69, 70, 14] rfl (by decide +kernel)) ggX12_match_X12_isPair
set_option maxRecDepth 20000 in
theorem ggX12_match_X12_quietestOf : GoodIn wsX12_match wsX12_quietestOf := goodIn_ca (goodIn_ca (goodIn_ca (goodIn_ca (goodIn_q _ [75, 76, 77, 78, 14, 79, 80, 81, 82, 83, 84, 85, 86, 87, 88, 89, 57, 90, 91, 92, 93, 94, 95, 96, 97, 98, 99, 100, 101, 102, 103, 104, 105, 106, 107, 108, 109] rfl (by decide +kernel)) (goodIn_sub (fun _ h => (List.mem_cons_of_mem _ (List.mem_append_left _ (List.mem_append_left _ (List.mem_append_left _ (List.mem_append_right _ h)))))) tg_wsX100)) (goodIn_sub (fun _ h => (List.mem_cons_of_mem _ (List.mem_append_left _ (List.mem_append_left _ (List.mem_append_left _ (List.mem_append_left _ (List.mem_append_right _ h))))))) tg_wsX120)) (goodIn_sub (fun _ h => List.mem_cons_of_mem _ (List.mem_append_right _ h)) (by decide +kernel))) (goodIn_sub (fun _ h => List.mem_cons_of_mem _ (List.mem_append_left _ (List.mem_append_right _ h))) (by decide +kernel))
set_option maxRecDepth 20000 in
theorem gX12_match_X12_quietestOf : GoodIn wsX12_match (wsV RX12 434 RX12 yX12_quietestOf wsX12_quietestOf) := goodIn_app (goodIn_q _ [72, 73, 74, 14] rfl (by decide +kernel)) ggX12_match_X12_quietestOf
set_option maxRecDepth 20000 in
theorem ggX12_match_X12_peakOf : GoodIn wsX12_match wsX12_peakOf := goodIn_ca (goodIn_ca (goodIn_ca (goodIn_ca (goodIn_q _ [113, 76, 77, 78, 14, 79, 80, 81, 82, 83, 84, 85, 86, 87, 88, 89, 57, 90, 91, 92, 93, 94, 95, 96, 97, 98, 99, 100, 101, 102, 103, 104, 105, 106, 107, 108, 109] rfl (by decide +kernel)) (goodIn_sub (fun _ h => (List.mem_cons_of_mem _ (List.mem_append_left _ (List.mem_append_left _ (List.mem_append_left _ (List.mem_append_right _ h)))))) tg_wsX100)) (goodIn_sub (fun _ h => (List.mem_cons_of_mem _ (List.mem_append_left _ (List.mem_append_left _ (List.mem_append_left _ (List.mem_append_left _ (List.mem_append_right _ h))))))) tg_wsX120)) (goodIn_sub (fun _ h => List.mem_cons_of_mem _ (List.mem_append_right _ h)) (by decide +kernel))) (goodIn_sub (fun _ h => List.mem_cons_of_mem _ (List.mem_append_left _ (List.mem_append_right _ h))) (by decide +kernel))
set_option maxRecDepth 20000 in
theorem gX12_match_X12_peakOf : GoodIn wsX12_match (wsV RX12 430 RX12 yX12_peakOf wsX12_peakOf) := goodIn_app (goodIn_q _ [110, 111, 112, 14] rfl (by decide +kernel)) ggX12_match_X12_peakOf
set_option maxRecDepth 20000 in
theorem ggX12_match_X12_matches : GoodIn wsX12_match wsX12_matches := goodIn_ca (goodIn_ca (goodIn_ca (goodIn_ca (goodIn_q _ [117, 6, 8, 10, 118, 11, 119, 3, 5, 2, 4, 9, 68, 69, 70, 14, 71, 32, 33, 34, 35, 25, 36, 37, 38, 39, 29, 40, 31, 41, 42, 43, 44, 45, 46, 47, 48, 49, 50, 51, 52, 53, 114, 115, 116] rfl (by decide +kernel)) (goodIn_sub (fun _ h => (List.mem_cons_of_mem _ (List.mem_append_left _ (List.mem_append_left _ (List.mem_append_left _ (List.mem_append_left _ (List.mem_append_right _ h))))))) tg_wsX120)) (goodIn_sub (fun _ h => (List.mem_cons_of_mem _ (List.mem_append_left _ (List.mem_append_left _ (List.mem_append_left _ (List.mem_append_right _ h)))))) tg_wsX100)) (goodIn_sub (fun _ h => (List.mem_cons_of_mem _ (List.mem_append_left _ (List.mem_append_left _ (List.mem_append_right _ h))))) tg_wsJx4a65c0)) (goodIn_sub (fun _ h => List.mem_cons_of_mem _ (List.mem_append_left _ (List.mem_append_right _ h))) (by decide +kernel))
set_option maxRecDepth 20000 in
theorem gX12_match_X12_matches : GoodIn wsX12_match (wsV RX12 473 RX12 yX12_matches wsX12_matches) := goodIn_app (goodIn_q _ [114, 115, 116, 14] rfl (by decide +kernel)) ggX12_match_X12_matches
set_option maxRecDepth 20000 in
theorem ggX12_match_X12_answer : GoodIn wsX12_match wsX12_answer := goodIn_ca (goodIn_q _ [123, 20] rfl (by decide +kernel)) (goodIn_sub (fun _ h => (List.mem_cons_of_mem _ (List.mem_append_left _ (List.mem_append_left _ (List.mem_append_left _ (List.mem_append_left _ (List.mem_append_right _ h))))))) tg_wsX120)
set_option maxRecDepth 20000 in
theorem gX12_match_X12_answer : GoodIn wsX12_match (wsV RX12 153 RX12 yX12_answer wsX12_answer) := goodIn_app (goodIn_q _ [120, 121, 122, 14] rfl (by decide +kernel)) ggX12_match_X12_answer
def dsX12_match_0 : ByteArray := ⟨#[27, 28, 159, 0, 15, 29, 133, 10, 20, 1, 58, 184, 0, 101, 154, 0, 9, 42]⟩
theorem daX12_match_0 : agB cX12_match dsX12_match_0 0 := agB_of (n := 18) (by decide +kernel)
theorem dbX12_match_0 : (decode dsX12_match_0 0 = .ok (.iload_n 1, 1) ∧ okop dsX12_match_0 0 = true) ∧ (decode dsX12_match_0 1 = .ok (.iload_n 2, 1) ∧ okop dsX12_match_0 1 = true) ∧ (decode dsX12_match_0 2 = .ok (.if_icmp .eq 15, 3) ∧ okop dsX12_match_0 2 = true) ∧ (decode dsX12_match_0 5 = .ok (.iload_n 3, 1) ∧ okop dsX12_match_0 5 = true) ∧ (decode dsX12_match_0 6 = .ok (.i2l, 1) ∧ okop dsX12_match_0 6 = true) ∧ (decode dsX12_match_0 7 = .ok (.lconst 1, 1) ∧ okop dsX12_match_0 7 = true) ∧ (decode dsX12_match_0 8 = .ok (.ldc2_w 314, 3) ∧ okop dsX12_match_0 8 = true) ∧ (decode dsX12_match_0 11 = .ok (.invokestatic 101, 3) ∧ okop dsX12_match_0 11 = true) ∧ (decode dsX12_match_0 14 = .ok (.ifCond .ne 9, 3) ∧ okop dsX12_match_0 14 = true) ∧ (decode dsX12_match_0 17 = .ok (.aload_n 0, 1) ∧ okop dsX12_match_0 17 = true) := by decide +kernel
theorem dX12_match_0 : decode cX12_match 0 = .ok (.iload_n 1, 1) := dgq (p := 0) daX12_match_0 dbX12_match_0.1
theorem dX12_match_1 : decode cX12_match 1 = .ok (.iload_n 2, 1) := dgq (p := 1) daX12_match_0 dbX12_match_0.2.1
theorem dX12_match_2 : decode cX12_match 2 = .ok (.if_icmp .eq 15, 3) := dgq (p := 2) daX12_match_0 dbX12_match_0.2.2.1
theorem dX12_match_5 : decode cX12_match 5 = .ok (.iload_n 3, 1) := dgq (p := 5) daX12_match_0 dbX12_match_0.2.2.2.1
theorem dX12_match_6 : decode cX12_match 6 = .ok (.i2l, 1) := dgq (p := 6) daX12_match_0 dbX12_match_0.2.2.2.2.1
theorem dX12_match_7 : decode cX12_match 7 = .ok (.lconst 1, 1) := dgq (p := 7) daX12_match_0 dbX12_match_0.2.2.2.2.2.1
theorem dX12_match_8 : decode cX12_match 8 = .ok (.ldc2_w 314, 3) := dgq (p := 8) daX12_match_0 dbX12_match_0.2.2.2.2.2.2.1
theorem dX12_match_11 : decode cX12_match 11 = .ok (.invokestatic 101, 3) := dgq (p := 11) daX12_match_0 dbX12_match_0.2.2.2.2.2.2.2.1
theorem dX12_match_14 : decode cX12_match 14 = .ok (.ifCond .ne 9, 3) := dgq (p := 14) daX12_match_0 dbX12_match_0.2.2.2.2.2.2.2.2.1
theorem dX12_match_17 : decode cX12_match 17 = .ok (.aload_n 0, 1) := dgq (p := 17) daX12_match_0 dbX12_match_0.2.2.2.2.2.2.2.2.2
def dsX12_match_18 : ByteArray := ⟨#[4, 182, 0, 143, 172, 42, 42, 27, 42, 180, 0, 66, 182, 1, 221, 181, 1, 211]⟩
theorem daX12_match_18 : agB cX12_match dsX12_match_18 18 := agB_of (n := 18) (by decide +kernel)
theorem dbX12_match_18 : (decode dsX12_match_18 0 = .ok (.iconst 1, 1) ∧ okop dsX12_match_18 0 = true) ∧ (decode dsX12_match_18 1 = .ok (.invokevirtual 143, 3) ∧ okop dsX12_match_18 1 = true) ∧ (decode dsX12_match_18 4 = .ok (.ireturn, 1) ∧ okop dsX12_match_18 4 = true) ∧ (decode dsX12_match_18 5 = .ok (.aload_n 0, 1) ∧ okop dsX12_match_18 5 = true) ∧ (decode dsX12_match_18 6 = .ok (.aload_n 0, 1) ∧ okop dsX12_match_18 6 = true) ∧ (decode dsX12_match_18 7 = .ok (.iload_n 1, 1) ∧ okop dsX12_match_18 7 = true) ∧ (decode dsX12_match_18 8 = .ok (.aload_n 0, 1) ∧ okop dsX12_match_18 8 = true) ∧ (decode dsX12_match_18 9 = .ok (.getfield 66, 3) ∧ okop dsX12_match_18 9 = true) ∧ (decode dsX12_match_18 12 = .ok (.invokevirtual 477, 3) ∧ okop dsX12_match_18 12 = true) ∧ (decode dsX12_match_18 15 = .ok (.putfield 467, 3) ∧ okop dsX12_match_18 15 = true) := by decide +kernel
theorem dX12_match_18 : decode cX12_match 18 = .ok (.iconst 1, 1) := dgq (p := 0) daX12_match_18 dbX12_match_18.1
theorem dX12_match_19 : decode cX12_match 19 = .ok (.invokevirtual 143, 3) := dgq (p := 1) daX12_match_18 dbX12_match_18.2.1
theorem dX12_match_22 : decode cX12_match 22 = .ok (.ireturn, 1) := dgq (p := 4) daX12_match_18 dbX12_match_18.2.2.1
theorem dX12_match_23 : decode cX12_match 23 = .ok (.aload_n 0, 1) := dgq (p := 5) daX12_match_18 dbX12_match_18.2.2.2.1
theorem dX12_match_24 : decode cX12_match 24 = .ok (.aload_n 0, 1) := dgq (p := 6) daX12_match_18 dbX12_match_18.2.2.2.2.1
theorem dX12_match_25 : decode cX12_match 25 = .ok (.iload_n 1, 1) := dgq (p := 7) daX12_match_18 dbX12_match_18.2.2.2.2.2.1
theorem dX12_match_26 : decode cX12_match 26 = .ok (.aload_n 0, 1) := dgq (p := 8) daX12_match_18 dbX12_match_18.2.2.2.2.2.2.1
theorem dX12_match_27 : decode cX12_match 27 = .ok (.getfield 66, 3) := dgq (p := 9) daX12_match_18 dbX12_match_18.2.2.2.2.2.2.2.1
theorem dX12_match_30 : decode cX12_match 30 = .ok (.invokevirtual 477, 3) := dgq (p := 12) daX12_match_18 dbX12_match_18.2.2.2.2.2.2.2.2.1
theorem dX12_match_33 : decode cX12_match 33 = .ok (.putfield 467, 3) := dgq (p := 15) daX12_match_18 dbX12_match_18.2.2.2.2.2.2.2.2.2
def dsX12_match_36 : ByteArray := ⟨#[42, 42, 28, 42, 180, 0, 69, 182, 1, 221, 181, 1, 214, 42, 29, 181, 1, 205]⟩
theorem daX12_match_36 : agB cX12_match dsX12_match_36 36 := agB_of (n := 18) (by decide +kernel)
theorem dbX12_match_36 : (decode dsX12_match_36 0 = .ok (.aload_n 0, 1) ∧ okop dsX12_match_36 0 = true) ∧ (decode dsX12_match_36 1 = .ok (.aload_n 0, 1) ∧ okop dsX12_match_36 1 = true) ∧ (decode dsX12_match_36 2 = .ok (.iload_n 2, 1) ∧ okop dsX12_match_36 2 = true) ∧ (decode dsX12_match_36 3 = .ok (.aload_n 0, 1) ∧ okop dsX12_match_36 3 = true) ∧ (decode dsX12_match_36 4 = .ok (.getfield 69, 3) ∧ okop dsX12_match_36 4 = true) ∧ (decode dsX12_match_36 7 = .ok (.invokevirtual 477, 3) ∧ okop dsX12_match_36 7 = true) ∧ (decode dsX12_match_36 10 = .ok (.putfield 470, 3) ∧ okop dsX12_match_36 10 = true) ∧ (decode dsX12_match_36 13 = .ok (.aload_n 0, 1) ∧ okop dsX12_match_36 13 = true) ∧ (decode dsX12_match_36 14 = .ok (.iload_n 3, 1) ∧ okop dsX12_match_36 14 = true) ∧ (decode dsX12_match_36 15 = .ok (.putfield 461, 3) ∧ okop dsX12_match_36 15 = true) := by decide +kernel
theorem dX12_match_36 : decode cX12_match 36 = .ok (.aload_n 0, 1) := dgq (p := 0) daX12_match_36 dbX12_match_36.1
theorem dX12_match_37 : decode cX12_match 37 = .ok (.aload_n 0, 1) := dgq (p := 1) daX12_match_36 dbX12_match_36.2.1
theorem dX12_match_38 : decode cX12_match 38 = .ok (.iload_n 2, 1) := dgq (p := 2) daX12_match_36 dbX12_match_36.2.2.1
theorem dX12_match_39 : decode cX12_match 39 = .ok (.aload_n 0, 1) := dgq (p := 3) daX12_match_36 dbX12_match_36.2.2.2.1
theorem dX12_match_40 : decode cX12_match 40 = .ok (.getfield 69, 3) := dgq (p := 4) daX12_match_36 dbX12_match_36.2.2.2.2.1
theorem dX12_match_43 : decode cX12_match 43 = .ok (.invokevirtual 477, 3) := dgq (p := 7) daX12_match_36 dbX12_match_36.2.2.2.2.2.1
theorem dX12_match_46 : decode cX12_match 46 = .ok (.putfield 470, 3) := dgq (p := 10) daX12_match_36 dbX12_match_36.2.2.2.2.2.2.1
theorem dX12_match_49 : decode cX12_match 49 = .ok (.aload_n 0, 1) := dgq (p := 13) daX12_match_36 dbX12_match_36.2.2.2.2.2.2.2.1
theorem dX12_match_50 : decode cX12_match 50 = .ok (.iload_n 3, 1) := dgq (p := 14) daX12_match_36 dbX12_match_36.2.2.2.2.2.2.2.2.1
theorem dX12_match_51 : decode cX12_match 51 = .ok (.putfield 461, 3) := dgq (p := 15) daX12_match_36 dbX12_match_36.2.2.2.2.2.2.2.2.2
def dsX12_match_54 : ByteArray := ⟨#[42, 20, 1, 79, 181, 1, 208, 3, 54, 4, 21, 4, 42, 180, 1, 211, 162, 0, 106, 3]⟩
theorem daX12_match_54 : agB cX12_match dsX12_match_54 54 := agB_of (n := 20) (by decide +kernel)
theorem dbX12_match_54 : (decode dsX12_match_54 0 = .ok (.aload_n 0, 1) ∧ okop dsX12_match_54 0 = true) ∧ (decode dsX12_match_54 1 = .ok (.ldc2_w 335, 3) ∧ okop dsX12_match_54 1 = true) ∧ (decode dsX12_match_54 4 = .ok (.putfield 464, 3) ∧ okop dsX12_match_54 4 = true) ∧ (decode dsX12_match_54 7 = .ok (.iconst 0, 1) ∧ okop dsX12_match_54 7 = true) ∧ (decode dsX12_match_54 8 = .ok (.istore 4, 2) ∧ okop dsX12_match_54 8 = true) ∧ (decode dsX12_match_54 10 = .ok (.iload 4, 2) ∧ okop dsX12_match_54 10 = true) ∧ (decode dsX12_match_54 12 = .ok (.aload_n 0, 1) ∧ okop dsX12_match_54 12 = true) ∧ (decode dsX12_match_54 13 = .ok (.getfield 467, 3) ∧ okop dsX12_match_54 13 = true) ∧ (decode dsX12_match_54 16 = .ok (.if_icmp .ge 106, 3) ∧ okop dsX12_match_54 16 = true) ∧ (decode dsX12_match_54 19 = .ok (.iconst 0, 1) ∧ okop dsX12_match_54 19 = true) := by decide +kernel
theorem dX12_match_54 : decode cX12_match 54 = .ok (.aload_n 0, 1) := dgq (p := 0) daX12_match_54 dbX12_match_54.1
theorem dX12_match_55 : decode cX12_match 55 = .ok (.ldc2_w 335, 3) := dgq (p := 1) daX12_match_54 dbX12_match_54.2.1
theorem dX12_match_58 : decode cX12_match 58 = .ok (.putfield 464, 3) := dgq (p := 4) daX12_match_54 dbX12_match_54.2.2.1
theorem dX12_match_61 : decode cX12_match 61 = .ok (.iconst 0, 1) := dgq (p := 7) daX12_match_54 dbX12_match_54.2.2.2.1
theorem dX12_match_62 : decode cX12_match 62 = .ok (.istore 4, 2) := dgq (p := 8) daX12_match_54 dbX12_match_54.2.2.2.2.1
theorem dX12_match_64 : decode cX12_match 64 = .ok (.iload 4, 2) := dgq (p := 10) daX12_match_54 dbX12_match_54.2.2.2.2.2.1
theorem dX12_match_66 : decode cX12_match 66 = .ok (.aload_n 0, 1) := dgq (p := 12) daX12_match_54 dbX12_match_54.2.2.2.2.2.2.1
theorem dX12_match_67 : decode cX12_match 67 = .ok (.getfield 467, 3) := dgq (p := 13) daX12_match_54 dbX12_match_54.2.2.2.2.2.2.2.1
theorem dX12_match_70 : decode cX12_match 70 = .ok (.if_icmp .ge 106, 3) := dgq (p := 16) daX12_match_54 dbX12_match_54.2.2.2.2.2.2.2.2.1
theorem dX12_match_73 : decode cX12_match 73 = .ok (.iconst 0, 1) := dgq (p := 19) daX12_match_54 dbX12_match_54.2.2.2.2.2.2.2.2.2
def dsX12_match_74 : ByteArray := ⟨#[54, 5, 21, 5, 42, 180, 1, 214, 162, 0, 88, 42, 42, 180, 0, 66, 21, 4, 46]⟩
theorem daX12_match_74 : agB cX12_match dsX12_match_74 74 := agB_of (n := 19) (by decide +kernel)
theorem dbX12_match_74 : (decode dsX12_match_74 0 = .ok (.istore 5, 2) ∧ okop dsX12_match_74 0 = true) ∧ (decode dsX12_match_74 2 = .ok (.iload 5, 2) ∧ okop dsX12_match_74 2 = true) ∧ (decode dsX12_match_74 4 = .ok (.aload_n 0, 1) ∧ okop dsX12_match_74 4 = true) ∧ (decode dsX12_match_74 5 = .ok (.getfield 470, 3) ∧ okop dsX12_match_74 5 = true) ∧ (decode dsX12_match_74 8 = .ok (.if_icmp .ge 88, 3) ∧ okop dsX12_match_74 8 = true) ∧ (decode dsX12_match_74 11 = .ok (.aload_n 0, 1) ∧ okop dsX12_match_74 11 = true) ∧ (decode dsX12_match_74 12 = .ok (.aload_n 0, 1) ∧ okop dsX12_match_74 12 = true) ∧ (decode dsX12_match_74 13 = .ok (.getfield 66, 3) ∧ okop dsX12_match_74 13 = true) ∧ (decode dsX12_match_74 16 = .ok (.iload 4, 2) ∧ okop dsX12_match_74 16 = true) ∧ (decode dsX12_match_74 18 = .ok (.iaload, 1) ∧ okop dsX12_match_74 18 = true) := by decide +kernel
theorem dX12_match_74 : decode cX12_match 74 = .ok (.istore 5, 2) := dgq (p := 0) daX12_match_74 dbX12_match_74.1
theorem dX12_match_76 : decode cX12_match 76 = .ok (.iload 5, 2) := dgq (p := 2) daX12_match_74 dbX12_match_74.2.1
theorem dX12_match_78 : decode cX12_match 78 = .ok (.aload_n 0, 1) := dgq (p := 4) daX12_match_74 dbX12_match_74.2.2.1
theorem dX12_match_79 : decode cX12_match 79 = .ok (.getfield 470, 3) := dgq (p := 5) daX12_match_74 dbX12_match_74.2.2.2.1
theorem dX12_match_82 : decode cX12_match 82 = .ok (.if_icmp .ge 88, 3) := dgq (p := 8) daX12_match_74 dbX12_match_74.2.2.2.2.1
theorem dX12_match_85 : decode cX12_match 85 = .ok (.aload_n 0, 1) := dgq (p := 11) daX12_match_74 dbX12_match_74.2.2.2.2.2.1
theorem dX12_match_86 : decode cX12_match 86 = .ok (.aload_n 0, 1) := dgq (p := 12) daX12_match_74 dbX12_match_74.2.2.2.2.2.2.1
theorem dX12_match_87 : decode cX12_match 87 = .ok (.getfield 66, 3) := dgq (p := 13) daX12_match_74 dbX12_match_74.2.2.2.2.2.2.2.1
theorem dX12_match_90 : decode cX12_match 90 = .ok (.iload 4, 2) := dgq (p := 16) daX12_match_74 dbX12_match_74.2.2.2.2.2.2.2.2.1
theorem dX12_match_92 : decode cX12_match 92 = .ok (.iaload, 1) := dgq (p := 18) daX12_match_74 dbX12_match_74.2.2.2.2.2.2.2.2.2
def dsX12_match_93 : ByteArray := ⟨#[182, 0, 111, 58, 6, 42, 42, 180, 0, 69, 21, 5, 46, 182, 0, 111, 58, 7, 42]⟩
theorem daX12_match_93 : agB cX12_match dsX12_match_93 93 := agB_of (n := 19) (by decide +kernel)
theorem dbX12_match_93 : (decode dsX12_match_93 0 = .ok (.invokevirtual 111, 3) ∧ okop dsX12_match_93 0 = true) ∧ (decode dsX12_match_93 3 = .ok (.astore 6, 2) ∧ okop dsX12_match_93 3 = true) ∧ (decode dsX12_match_93 5 = .ok (.aload_n 0, 1) ∧ okop dsX12_match_93 5 = true) ∧ (decode dsX12_match_93 6 = .ok (.aload_n 0, 1) ∧ okop dsX12_match_93 6 = true) ∧ (decode dsX12_match_93 7 = .ok (.getfield 69, 3) ∧ okop dsX12_match_93 7 = true) ∧ (decode dsX12_match_93 10 = .ok (.iload 5, 2) ∧ okop dsX12_match_93 10 = true) ∧ (decode dsX12_match_93 12 = .ok (.iaload, 1) ∧ okop dsX12_match_93 12 = true) ∧ (decode dsX12_match_93 13 = .ok (.invokevirtual 111, 3) ∧ okop dsX12_match_93 13 = true) ∧ (decode dsX12_match_93 16 = .ok (.astore 7, 2) ∧ okop dsX12_match_93 16 = true) ∧ (decode dsX12_match_93 18 = .ok (.aload_n 0, 1) ∧ okop dsX12_match_93 18 = true) := by decide +kernel
theorem dX12_match_93 : decode cX12_match 93 = .ok (.invokevirtual 111, 3) := dgq (p := 0) daX12_match_93 dbX12_match_93.1
theorem dX12_match_96 : decode cX12_match 96 = .ok (.astore 6, 2) := dgq (p := 3) daX12_match_93 dbX12_match_93.2.1
theorem dX12_match_98 : decode cX12_match 98 = .ok (.aload_n 0, 1) := dgq (p := 5) daX12_match_93 dbX12_match_93.2.2.1
theorem dX12_match_99 : decode cX12_match 99 = .ok (.aload_n 0, 1) := dgq (p := 6) daX12_match_93 dbX12_match_93.2.2.2.1
theorem dX12_match_100 : decode cX12_match 100 = .ok (.getfield 69, 3) := dgq (p := 7) daX12_match_93 dbX12_match_93.2.2.2.2.1
theorem dX12_match_103 : decode cX12_match 103 = .ok (.iload 5, 2) := dgq (p := 10) daX12_match_93 dbX12_match_93.2.2.2.2.2.1
theorem dX12_match_105 : decode cX12_match 105 = .ok (.iaload, 1) := dgq (p := 12) daX12_match_93 dbX12_match_93.2.2.2.2.2.2.1
theorem dX12_match_106 : decode cX12_match 106 = .ok (.invokevirtual 111, 3) := dgq (p := 13) daX12_match_93 dbX12_match_93.2.2.2.2.2.2.2.1
theorem dX12_match_109 : decode cX12_match 109 = .ok (.astore 7, 2) := dgq (p := 16) daX12_match_93 dbX12_match_93.2.2.2.2.2.2.2.2.1
theorem dX12_match_111 : decode cX12_match 111 = .ok (.aload_n 0, 1) := dgq (p := 18) daX12_match_93 dbX12_match_93.2.2.2.2.2.2.2.2.2
def dsX12_match_112 : ByteArray := ⟨#[180, 0, 91, 8, 21, 4, 104, 21, 5, 96, 42, 42, 180, 0, 66, 21, 4]⟩
theorem daX12_match_112 : agB cX12_match dsX12_match_112 112 := agB_of (n := 17) (by decide +kernel)
theorem dbX12_match_112 : (decode dsX12_match_112 0 = .ok (.getfield 91, 3) ∧ okop dsX12_match_112 0 = true) ∧ (decode dsX12_match_112 3 = .ok (.iconst 5, 1) ∧ okop dsX12_match_112 3 = true) ∧ (decode dsX12_match_112 4 = .ok (.iload 4, 2) ∧ okop dsX12_match_112 4 = true) ∧ (decode dsX12_match_112 6 = .ok (.imul, 1) ∧ okop dsX12_match_112 6 = true) ∧ (decode dsX12_match_112 7 = .ok (.iload 5, 2) ∧ okop dsX12_match_112 7 = true) ∧ (decode dsX12_match_112 9 = .ok (.iadd, 1) ∧ okop dsX12_match_112 9 = true) ∧ (decode dsX12_match_112 10 = .ok (.aload_n 0, 1) ∧ okop dsX12_match_112 10 = true) ∧ (decode dsX12_match_112 11 = .ok (.aload_n 0, 1) ∧ okop dsX12_match_112 11 = true) ∧ (decode dsX12_match_112 12 = .ok (.getfield 66, 3) ∧ okop dsX12_match_112 12 = true) ∧ (decode dsX12_match_112 15 = .ok (.iload 4, 2) ∧ okop dsX12_match_112 15 = true) := by decide +kernel
theorem dX12_match_112 : decode cX12_match 112 = .ok (.getfield 91, 3) := dgq (p := 0) daX12_match_112 dbX12_match_112.1
theorem dX12_match_115 : decode cX12_match 115 = .ok (.iconst 5, 1) := dgq (p := 3) daX12_match_112 dbX12_match_112.2.1
theorem dX12_match_116 : decode cX12_match 116 = .ok (.iload 4, 2) := dgq (p := 4) daX12_match_112 dbX12_match_112.2.2.1
theorem dX12_match_118 : decode cX12_match 118 = .ok (.imul, 1) := dgq (p := 6) daX12_match_112 dbX12_match_112.2.2.2.1
theorem dX12_match_119 : decode cX12_match 119 = .ok (.iload 5, 2) := dgq (p := 7) daX12_match_112 dbX12_match_112.2.2.2.2.1
theorem dX12_match_121 : decode cX12_match 121 = .ok (.iadd, 1) := dgq (p := 9) daX12_match_112 dbX12_match_112.2.2.2.2.2.1
theorem dX12_match_122 : decode cX12_match 122 = .ok (.aload_n 0, 1) := dgq (p := 10) daX12_match_112 dbX12_match_112.2.2.2.2.2.2.1
theorem dX12_match_123 : decode cX12_match 123 = .ok (.aload_n 0, 1) := dgq (p := 11) daX12_match_112 dbX12_match_112.2.2.2.2.2.2.2.1
theorem dX12_match_124 : decode cX12_match 124 = .ok (.getfield 66, 3) := dgq (p := 12) daX12_match_112 dbX12_match_112.2.2.2.2.2.2.2.2.1
theorem dX12_match_127 : decode cX12_match 127 = .ok (.iload 4, 2) := dgq (p := 15) daX12_match_112 dbX12_match_112.2.2.2.2.2.2.2.2.2
def dsX12_match_129 : ByteArray := ⟨#[46, 42, 180, 0, 69, 21, 5, 46, 182, 0, 125, 153, 0, 22, 42, 25, 6, 25, 7]⟩
theorem daX12_match_129 : agB cX12_match dsX12_match_129 129 := agB_of (n := 19) (by decide +kernel)
theorem dbX12_match_129 : (decode dsX12_match_129 0 = .ok (.iaload, 1) ∧ okop dsX12_match_129 0 = true) ∧ (decode dsX12_match_129 1 = .ok (.aload_n 0, 1) ∧ okop dsX12_match_129 1 = true) ∧ (decode dsX12_match_129 2 = .ok (.getfield 69, 3) ∧ okop dsX12_match_129 2 = true) ∧ (decode dsX12_match_129 5 = .ok (.iload 5, 2) ∧ okop dsX12_match_129 5 = true) ∧ (decode dsX12_match_129 7 = .ok (.iaload, 1) ∧ okop dsX12_match_129 7 = true) ∧ (decode dsX12_match_129 8 = .ok (.invokevirtual 125, 3) ∧ okop dsX12_match_129 8 = true) ∧ (decode dsX12_match_129 11 = .ok (.ifCond .eq 22, 3) ∧ okop dsX12_match_129 11 = true) ∧ (decode dsX12_match_129 14 = .ok (.aload_n 0, 1) ∧ okop dsX12_match_129 14 = true) ∧ (decode dsX12_match_129 15 = .ok (.aload 6, 2) ∧ okop dsX12_match_129 15 = true) ∧ (decode dsX12_match_129 17 = .ok (.aload 7, 2) ∧ okop dsX12_match_129 17 = true) := by decide +kernel
theorem dX12_match_129 : decode cX12_match 129 = .ok (.iaload, 1) := dgq (p := 0) daX12_match_129 dbX12_match_129.1
theorem dX12_match_130 : decode cX12_match 130 = .ok (.aload_n 0, 1) := dgq (p := 1) daX12_match_129 dbX12_match_129.2.1
theorem dX12_match_131 : decode cX12_match 131 = .ok (.getfield 69, 3) := dgq (p := 2) daX12_match_129 dbX12_match_129.2.2.1
theorem dX12_match_134 : decode cX12_match 134 = .ok (.iload 5, 2) := dgq (p := 5) daX12_match_129 dbX12_match_129.2.2.2.1
theorem dX12_match_136 : decode cX12_match 136 = .ok (.iaload, 1) := dgq (p := 7) daX12_match_129 dbX12_match_129.2.2.2.2.1
theorem dX12_match_137 : decode cX12_match 137 = .ok (.invokevirtual 125, 3) := dgq (p := 8) daX12_match_129 dbX12_match_129.2.2.2.2.2.1
theorem dX12_match_140 : decode cX12_match 140 = .ok (.ifCond .eq 22, 3) := dgq (p := 11) daX12_match_129 dbX12_match_129.2.2.2.2.2.2.1
theorem dX12_match_143 : decode cX12_match 143 = .ok (.aload_n 0, 1) := dgq (p := 14) daX12_match_129 dbX12_match_129.2.2.2.2.2.2.2.1
theorem dX12_match_144 : decode cX12_match 144 = .ok (.aload 6, 2) := dgq (p := 15) daX12_match_129 dbX12_match_129.2.2.2.2.2.2.2.2.1
theorem dX12_match_146 : decode cX12_match 146 = .ok (.aload 7, 2) := dgq (p := 17) daX12_match_129 dbX12_match_129.2.2.2.2.2.2.2.2.2
def dsX12_match_148 : ByteArray := ⟨#[42, 25, 6, 25, 7, 182, 1, 178, 182, 1, 174, 167, 0, 4, 3, 79, 132, 5, 1, 167, 255, 165]⟩
theorem daX12_match_148 : agB cX12_match dsX12_match_148 148 := agB_of (n := 22) (by decide +kernel)
theorem dbX12_match_148 : (decode dsX12_match_148 0 = .ok (.aload_n 0, 1) ∧ okop dsX12_match_148 0 = true) ∧ (decode dsX12_match_148 1 = .ok (.aload 6, 2) ∧ okop dsX12_match_148 1 = true) ∧ (decode dsX12_match_148 3 = .ok (.aload 7, 2) ∧ okop dsX12_match_148 3 = true) ∧ (decode dsX12_match_148 5 = .ok (.invokevirtual 434, 3) ∧ okop dsX12_match_148 5 = true) ∧ (decode dsX12_match_148 8 = .ok (.invokevirtual 430, 3) ∧ okop dsX12_match_148 8 = true) ∧ (decode dsX12_match_148 11 = .ok (.goto 4, 3) ∧ okop dsX12_match_148 11 = true) ∧ (decode dsX12_match_148 14 = .ok (.iconst 0, 1) ∧ okop dsX12_match_148 14 = true) ∧ (decode dsX12_match_148 15 = .ok (.iastore, 1) ∧ okop dsX12_match_148 15 = true) ∧ (decode dsX12_match_148 16 = .ok (.iinc 5 1, 3) ∧ okop dsX12_match_148 16 = true) ∧ (decode dsX12_match_148 19 = .ok (.goto (-91), 3) ∧ okop dsX12_match_148 19 = true) := by decide +kernel
theorem dX12_match_148 : decode cX12_match 148 = .ok (.aload_n 0, 1) := dgq (p := 0) daX12_match_148 dbX12_match_148.1
theorem dX12_match_149 : decode cX12_match 149 = .ok (.aload 6, 2) := dgq (p := 1) daX12_match_148 dbX12_match_148.2.1
theorem dX12_match_151 : decode cX12_match 151 = .ok (.aload 7, 2) := dgq (p := 3) daX12_match_148 dbX12_match_148.2.2.1
theorem dX12_match_153 : decode cX12_match 153 = .ok (.invokevirtual 434, 3) := dgq (p := 5) daX12_match_148 dbX12_match_148.2.2.2.1
theorem dX12_match_156 : decode cX12_match 156 = .ok (.invokevirtual 430, 3) := dgq (p := 8) daX12_match_148 dbX12_match_148.2.2.2.2.1
theorem dX12_match_159 : decode cX12_match 159 = .ok (.goto 4, 3) := dgq (p := 11) daX12_match_148 dbX12_match_148.2.2.2.2.2.1
theorem dX12_match_162 : decode cX12_match 162 = .ok (.iconst 0, 1) := dgq (p := 14) daX12_match_148 dbX12_match_148.2.2.2.2.2.2.1
theorem dX12_match_163 : decode cX12_match 163 = .ok (.iastore, 1) := dgq (p := 15) daX12_match_148 dbX12_match_148.2.2.2.2.2.2.2.1
theorem dX12_match_164 : decode cX12_match 164 = .ok (.iinc 5 1, 3) := dgq (p := 16) daX12_match_148 dbX12_match_148.2.2.2.2.2.2.2.2.1
theorem dX12_match_167 : decode cX12_match 167 = .ok (.goto (-91), 3) := dgq (p := 19) daX12_match_148 dbX12_match_148.2.2.2.2.2.2.2.2.2
def dsX12_match_170 : ByteArray := ⟨#[132, 4, 1, 167, 255, 147, 42, 3, 3, 3, 9, 182, 1, 217, 42, 180, 1, 208]⟩
theorem daX12_match_170 : agB cX12_match dsX12_match_170 170 := agB_of (n := 18) (by decide +kernel)
theorem dbX12_match_170 : (decode dsX12_match_170 0 = .ok (.iinc 4 1, 3) ∧ okop dsX12_match_170 0 = true) ∧ (decode dsX12_match_170 3 = .ok (.goto (-109), 3) ∧ okop dsX12_match_170 3 = true) ∧ (decode dsX12_match_170 6 = .ok (.aload_n 0, 1) ∧ okop dsX12_match_170 6 = true) ∧ (decode dsX12_match_170 7 = .ok (.iconst 0, 1) ∧ okop dsX12_match_170 7 = true) ∧ (decode dsX12_match_170 8 = .ok (.iconst 0, 1) ∧ okop dsX12_match_170 8 = true) ∧ (decode dsX12_match_170 9 = .ok (.iconst 0, 1) ∧ okop dsX12_match_170 9 = true) ∧ (decode dsX12_match_170 10 = .ok (.lconst 0, 1) ∧ okop dsX12_match_170 10 = true) ∧ (decode dsX12_match_170 11 = .ok (.invokevirtual 473, 3) ∧ okop dsX12_match_170 11 = true) ∧ (decode dsX12_match_170 14 = .ok (.aload_n 0, 1) ∧ okop dsX12_match_170 14 = true) ∧ (decode dsX12_match_170 15 = .ok (.getfield 464, 3) ∧ okop dsX12_match_170 15 = true) := by decide +kernel
theorem dX12_match_170 : decode cX12_match 170 = .ok (.iinc 4 1, 3) := dgq (p := 0) daX12_match_170 dbX12_match_170.1
theorem dX12_match_173 : decode cX12_match 173 = .ok (.goto (-109), 3) := dgq (p := 3) daX12_match_170 dbX12_match_170.2.1
theorem dX12_match_176 : decode cX12_match 176 = .ok (.aload_n 0, 1) := dgq (p := 6) daX12_match_170 dbX12_match_170.2.2.1
theorem dX12_match_177 : decode cX12_match 177 = .ok (.iconst 0, 1) := dgq (p := 7) daX12_match_170 dbX12_match_170.2.2.2.1
theorem dX12_match_178 : decode cX12_match 178 = .ok (.iconst 0, 1) := dgq (p := 8) daX12_match_170 dbX12_match_170.2.2.2.2.1
theorem dX12_match_179 : decode cX12_match 179 = .ok (.iconst 0, 1) := dgq (p := 9) daX12_match_170 dbX12_match_170.2.2.2.2.2.1
theorem dX12_match_180 : decode cX12_match 180 = .ok (.lconst 0, 1) := dgq (p := 10) daX12_match_170 dbX12_match_170.2.2.2.2.2.2.1
theorem dX12_match_181 : decode cX12_match 181 = .ok (.invokevirtual 473, 3) := dgq (p := 11) daX12_match_170 dbX12_match_170.2.2.2.2.2.2.2.1
theorem dX12_match_184 : decode cX12_match 184 = .ok (.aload_n 0, 1) := dgq (p := 14) daX12_match_170 dbX12_match_170.2.2.2.2.2.2.2.2.1
theorem dX12_match_185 : decode cX12_match 185 = .ok (.getfield 464, 3) := dgq (p := 15) daX12_match_170 dbX12_match_170.2.2.2.2.2.2.2.2.2
def dsX12_match_188 : ByteArray := ⟨#[9, 148, 156, 0, 9, 42, 5, 182, 0, 143, 172, 3, 54, 4, 21, 4]⟩
theorem daX12_match_188 : agB cX12_match dsX12_match_188 188 := agB_of (n := 16) (by decide +kernel)
theorem dbX12_match_188 : (decode dsX12_match_188 0 = .ok (.lconst 0, 1) ∧ okop dsX12_match_188 0 = true) ∧ (decode dsX12_match_188 1 = .ok (.lcmp, 1) ∧ okop dsX12_match_188 1 = true) ∧ (decode dsX12_match_188 2 = .ok (.ifCond .ge 9, 3) ∧ okop dsX12_match_188 2 = true) ∧ (decode dsX12_match_188 5 = .ok (.aload_n 0, 1) ∧ okop dsX12_match_188 5 = true) ∧ (decode dsX12_match_188 6 = .ok (.iconst 2, 1) ∧ okop dsX12_match_188 6 = true) ∧ (decode dsX12_match_188 7 = .ok (.invokevirtual 143, 3) ∧ okop dsX12_match_188 7 = true) ∧ (decode dsX12_match_188 10 = .ok (.ireturn, 1) ∧ okop dsX12_match_188 10 = true) ∧ (decode dsX12_match_188 11 = .ok (.iconst 0, 1) ∧ okop dsX12_match_188 11 = true) ∧ (decode dsX12_match_188 12 = .ok (.istore 4, 2) ∧ okop dsX12_match_188 12 = true) ∧ (decode dsX12_match_188 14 = .ok (.iload 4, 2) ∧ okop dsX12_match_188 14 = true) := by decide +kernel
theorem dX12_match_188 : decode cX12_match 188 = .ok (.lconst 0, 1) := dgq (p := 0) daX12_match_188 dbX12_match_188.1
theorem dX12_match_189 : decode cX12_match 189 = .ok (.lcmp, 1) := dgq (p := 1) daX12_match_188 dbX12_match_188.2.1
theorem dX12_match_190 : decode cX12_match 190 = .ok (.ifCond .ge 9, 3) := dgq (p := 2) daX12_match_188 dbX12_match_188.2.2.1
theorem dX12_match_193 : decode cX12_match 193 = .ok (.aload_n 0, 1) := dgq (p := 5) daX12_match_188 dbX12_match_188.2.2.2.1
theorem dX12_match_194 : decode cX12_match 194 = .ok (.iconst 2, 1) := dgq (p := 6) daX12_match_188 dbX12_match_188.2.2.2.2.1
theorem dX12_match_195 : decode cX12_match 195 = .ok (.invokevirtual 143, 3) := dgq (p := 7) daX12_match_188 dbX12_match_188.2.2.2.2.2.1
theorem dX12_match_198 : decode cX12_match 198 = .ok (.ireturn, 1) := dgq (p := 10) daX12_match_188 dbX12_match_188.2.2.2.2.2.2.1
theorem dX12_match_199 : decode cX12_match 199 = .ok (.iconst 0, 1) := dgq (p := 11) daX12_match_188 dbX12_match_188.2.2.2.2.2.2.2.1
theorem dX12_match_200 : decode cX12_match 200 = .ok (.istore 4, 2) := dgq (p := 12) daX12_match_188 dbX12_match_188.2.2.2.2.2.2.2.2.1
theorem dX12_match_202 : decode cX12_match 202 = .ok (.iload 4, 2) := dgq (p := 14) daX12_match_188 dbX12_match_188.2.2.2.2.2.2.2.2.2
def dsX12_match_204 : ByteArray := ⟨#[29, 162, 0, 51, 42, 42, 180, 0, 60, 21, 4, 46, 182, 0, 111, 42, 180, 0, 63]⟩
theorem daX12_match_204 : agB cX12_match dsX12_match_204 204 := agB_of (n := 19) (by decide +kernel)
theorem dbX12_match_204 : (decode dsX12_match_204 0 = .ok (.iload_n 3, 1) ∧ okop dsX12_match_204 0 = true) ∧ (decode dsX12_match_204 1 = .ok (.if_icmp .ge 51, 3) ∧ okop dsX12_match_204 1 = true) ∧ (decode dsX12_match_204 4 = .ok (.aload_n 0, 1) ∧ okop dsX12_match_204 4 = true) ∧ (decode dsX12_match_204 5 = .ok (.aload_n 0, 1) ∧ okop dsX12_match_204 5 = true) ∧ (decode dsX12_match_204 6 = .ok (.getfield 60, 3) ∧ okop dsX12_match_204 6 = true) ∧ (decode dsX12_match_204 9 = .ok (.iload 4, 2) ∧ okop dsX12_match_204 9 = true) ∧ (decode dsX12_match_204 11 = .ok (.iaload, 1) ∧ okop dsX12_match_204 11 = true) ∧ (decode dsX12_match_204 12 = .ok (.invokevirtual 111, 3) ∧ okop dsX12_match_204 12 = true) ∧ (decode dsX12_match_204 15 = .ok (.aload_n 0, 1) ∧ okop dsX12_match_204 15 = true) ∧ (decode dsX12_match_204 16 = .ok (.getfield 63, 3) ∧ okop dsX12_match_204 16 = true) := by decide +kernel
theorem dX12_match_204 : decode cX12_match 204 = .ok (.iload_n 3, 1) := dgq (p := 0) daX12_match_204 dbX12_match_204.1
theorem dX12_match_205 : decode cX12_match 205 = .ok (.if_icmp .ge 51, 3) := dgq (p := 1) daX12_match_204 dbX12_match_204.2.1
theorem dX12_match_208 : decode cX12_match 208 = .ok (.aload_n 0, 1) := dgq (p := 4) daX12_match_204 dbX12_match_204.2.2.1
theorem dX12_match_209 : decode cX12_match 209 = .ok (.aload_n 0, 1) := dgq (p := 5) daX12_match_204 dbX12_match_204.2.2.2.1
theorem dX12_match_210 : decode cX12_match 210 = .ok (.getfield 60, 3) := dgq (p := 6) daX12_match_204 dbX12_match_204.2.2.2.2.1
theorem dX12_match_213 : decode cX12_match 213 = .ok (.iload 4, 2) := dgq (p := 9) daX12_match_204 dbX12_match_204.2.2.2.2.2.1
theorem dX12_match_215 : decode cX12_match 215 = .ok (.iaload, 1) := dgq (p := 11) daX12_match_204 dbX12_match_204.2.2.2.2.2.2.1
theorem dX12_match_216 : decode cX12_match 216 = .ok (.invokevirtual 111, 3) := dgq (p := 12) daX12_match_204 dbX12_match_204.2.2.2.2.2.2.2.1
theorem dX12_match_219 : decode cX12_match 219 = .ok (.aload_n 0, 1) := dgq (p := 15) daX12_match_204 dbX12_match_204.2.2.2.2.2.2.2.2.1
theorem dX12_match_220 : decode cX12_match 220 = .ok (.getfield 63, 3) := dgq (p := 16) daX12_match_204 dbX12_match_204.2.2.2.2.2.2.2.2.2
def dsX12_match_223 : ByteArray := ⟨#[21, 4, 46, 181, 1, 190, 42, 42, 180, 0, 63, 21, 4, 46, 182, 0, 111, 42]⟩
theorem daX12_match_223 : agB cX12_match dsX12_match_223 223 := agB_of (n := 18) (by decide +kernel)
theorem dbX12_match_223 : (decode dsX12_match_223 0 = .ok (.iload 4, 2) ∧ okop dsX12_match_223 0 = true) ∧ (decode dsX12_match_223 2 = .ok (.iaload, 1) ∧ okop dsX12_match_223 2 = true) ∧ (decode dsX12_match_223 3 = .ok (.putfield 446, 3) ∧ okop dsX12_match_223 3 = true) ∧ (decode dsX12_match_223 6 = .ok (.aload_n 0, 1) ∧ okop dsX12_match_223 6 = true) ∧ (decode dsX12_match_223 7 = .ok (.aload_n 0, 1) ∧ okop dsX12_match_223 7 = true) ∧ (decode dsX12_match_223 8 = .ok (.getfield 63, 3) ∧ okop dsX12_match_223 8 = true) ∧ (decode dsX12_match_223 11 = .ok (.iload 4, 2) ∧ okop dsX12_match_223 11 = true) ∧ (decode dsX12_match_223 13 = .ok (.iaload, 1) ∧ okop dsX12_match_223 13 = true) ∧ (decode dsX12_match_223 14 = .ok (.invokevirtual 111, 3) ∧ okop dsX12_match_223 14 = true) ∧ (decode dsX12_match_223 17 = .ok (.aload_n 0, 1) ∧ okop dsX12_match_223 17 = true) := by decide +kernel
theorem dX12_match_223 : decode cX12_match 223 = .ok (.iload 4, 2) := dgq (p := 0) daX12_match_223 dbX12_match_223.1
theorem dX12_match_225 : decode cX12_match 225 = .ok (.iaload, 1) := dgq (p := 2) daX12_match_223 dbX12_match_223.2.1
theorem dX12_match_226 : decode cX12_match 226 = .ok (.putfield 446, 3) := dgq (p := 3) daX12_match_223 dbX12_match_223.2.2.1
theorem dX12_match_229 : decode cX12_match 229 = .ok (.aload_n 0, 1) := dgq (p := 6) daX12_match_223 dbX12_match_223.2.2.2.1
theorem dX12_match_230 : decode cX12_match 230 = .ok (.aload_n 0, 1) := dgq (p := 7) daX12_match_223 dbX12_match_223.2.2.2.2.1
theorem dX12_match_231 : decode cX12_match 231 = .ok (.getfield 63, 3) := dgq (p := 8) daX12_match_223 dbX12_match_223.2.2.2.2.2.1
theorem dX12_match_234 : decode cX12_match 234 = .ok (.iload 4, 2) := dgq (p := 11) daX12_match_223 dbX12_match_223.2.2.2.2.2.2.1
theorem dX12_match_236 : decode cX12_match 236 = .ok (.iaload, 1) := dgq (p := 13) daX12_match_223 dbX12_match_223.2.2.2.2.2.2.2.1
theorem dX12_match_237 : decode cX12_match 237 = .ok (.invokevirtual 111, 3) := dgq (p := 14) daX12_match_223 dbX12_match_223.2.2.2.2.2.2.2.2.1
theorem dX12_match_240 : decode cX12_match 240 = .ok (.aload_n 0, 1) := dgq (p := 17) daX12_match_223 dbX12_match_223.2.2.2.2.2.2.2.2.2
def dsX12_match_241 : ByteArray := ⟨#[180, 0, 60, 21, 4, 46, 181, 1, 190, 132, 4, 1, 167, 255, 205, 42, 42, 180, 1, 208, 136]⟩
theorem daX12_match_241 : agB cX12_match dsX12_match_241 241 := agB_of (n := 21) (by decide +kernel)
theorem dbX12_match_241 : (decode dsX12_match_241 0 = .ok (.getfield 60, 3) ∧ okop dsX12_match_241 0 = true) ∧ (decode dsX12_match_241 3 = .ok (.iload 4, 2) ∧ okop dsX12_match_241 3 = true) ∧ (decode dsX12_match_241 5 = .ok (.iaload, 1) ∧ okop dsX12_match_241 5 = true) ∧ (decode dsX12_match_241 6 = .ok (.putfield 446, 3) ∧ okop dsX12_match_241 6 = true) ∧ (decode dsX12_match_241 9 = .ok (.iinc 4 1, 3) ∧ okop dsX12_match_241 9 = true) ∧ (decode dsX12_match_241 12 = .ok (.goto (-51), 3) ∧ okop dsX12_match_241 12 = true) ∧ (decode dsX12_match_241 15 = .ok (.aload_n 0, 1) ∧ okop dsX12_match_241 15 = true) ∧ (decode dsX12_match_241 16 = .ok (.aload_n 0, 1) ∧ okop dsX12_match_241 16 = true) ∧ (decode dsX12_match_241 17 = .ok (.getfield 464, 3) ∧ okop dsX12_match_241 17 = true) ∧ (decode dsX12_match_241 20 = .ok (.l2i, 1) ∧ okop dsX12_match_241 20 = true) := by decide +kernel
theorem dX12_match_241 : decode cX12_match 241 = .ok (.getfield 60, 3) := dgq (p := 0) daX12_match_241 dbX12_match_241.1
theorem dX12_match_244 : decode cX12_match 244 = .ok (.iload 4, 2) := dgq (p := 3) daX12_match_241 dbX12_match_241.2.1
theorem dX12_match_246 : decode cX12_match 246 = .ok (.iaload, 1) := dgq (p := 5) daX12_match_241 dbX12_match_241.2.2.1
theorem dX12_match_247 : decode cX12_match 247 = .ok (.putfield 446, 3) := dgq (p := 6) daX12_match_241 dbX12_match_241.2.2.2.1
theorem dX12_match_250 : decode cX12_match 250 = .ok (.iinc 4 1, 3) := dgq (p := 9) daX12_match_241 dbX12_match_241.2.2.2.2.1
theorem dX12_match_253 : decode cX12_match 253 = .ok (.goto (-51), 3) := dgq (p := 12) daX12_match_241 dbX12_match_241.2.2.2.2.2.1
theorem dX12_match_256 : decode cX12_match 256 = .ok (.aload_n 0, 1) := dgq (p := 15) daX12_match_241 dbX12_match_241.2.2.2.2.2.2.1
theorem dX12_match_257 : decode cX12_match 257 = .ok (.aload_n 0, 1) := dgq (p := 16) daX12_match_241 dbX12_match_241.2.2.2.2.2.2.2.1
theorem dX12_match_258 : decode cX12_match 258 = .ok (.getfield 464, 3) := dgq (p := 17) daX12_match_241 dbX12_match_241.2.2.2.2.2.2.2.2.1
theorem dX12_match_261 : decode cX12_match 261 = .ok (.l2i, 1) := dgq (p := 20) daX12_match_241 dbX12_match_241.2.2.2.2.2.2.2.2.2
theorem dX12_match_262 : decode cX12_match 262 = .ok (.invokevirtual 153, 3) := by decide +kernel
theorem dX12_match_265 : decode cX12_match 265 = .ok (.ireturn, 1) := by decide +kernel
set_option maxRecDepth 20000 in
theorem ggX12_mate_X12_isGear : GoodIn wsX12_mate wsX12_isGear := goodIn_ca (goodIn_ca (goodIn_q _ [5, 6, 7, 8, 9, 10, 11, 12, 13, 14, 4, 15] rfl (by decide +kernel)) (goodIn_sub (fun _ h => (List.mem_cons_of_mem _ (List.mem_append_left _ (List.mem_append_right _ h)))) tg_wsX120)) (goodIn_sub (fun _ h => (List.mem_cons_of_mem _ (List.mem_append_right _ h))) tg_wsJx4a65c0)
set_option maxRecDepth 20000 in
theorem gX12_mate_X12_isGear : GoodIn wsX12_mate (wsV RX12 121 RX12 yX12_isGear wsX12_isGear) := goodIn_app (goodIn_q _ [1, 2, 3, 4] rfl (by decide +kernel)) ggX12_mate_X12_isGear
set_option maxRecDepth 20000 in
theorem ggX12_mate_X12_fails : GoodIn wsX12_mate wsX12_fails := goodIn_ca (goodIn_q _ [19, 20] rfl (by decide +kernel)) (goodIn_sub (fun _ h => (List.mem_cons_of_mem _ (List.mem_append_left _ (List.mem_append_right _ h)))) tg_wsX120)
set_option maxRecDepth 20000 in
theorem gX12_mate_X12_fails : GoodIn wsX12_mate (wsV RX12 143 RX12 yX12_fails wsX12_fails) := goodIn_app (goodIn_q _ [16, 17, 18, 4] rfl (by decide +kernel)) ggX12_mate_X12_fails
set_option maxRecDepth 20000 in
theorem ggX12_mate_X12_gearAt : GoodIn wsX12_mate wsX12_gearAt := goodIn_ca (goodIn_ca (goodIn_q _ [24, 6, 25, 26, 27, 28, 10, 29, 12, 30, 31, 32, 33, 34, 35, 36, 37, 38, 39, 40, 41, 42] rfl (by decide +kernel)) (goodIn_sub (fun _ h => (List.mem_cons_of_mem _ (List.mem_append_left _ (List.mem_append_right _ h)))) tg_wsX120)) (goodIn_sub (fun _ h => (List.mem_cons_of_mem _ (List.mem_append_right _ h))) tg_wsJx4a65c0)
set_option maxRecDepth 20000 in
theorem gX12_mate_X12_gearAt : GoodIn wsX12_mate (wsV RX12 111 RX12 yX12_gearAt wsX12_gearAt) := goodIn_app (goodIn_q _ [21, 22, 23, 4] rfl (by decide +kernel)) ggX12_mate_X12_gearAt
set_option maxRecDepth 20000 in
theorem ggX12_mate_X12_answer : GoodIn wsX12_mate wsX12_answer := goodIn_ca (goodIn_q _ [46, 20] rfl (by decide +kernel)) (goodIn_sub (fun _ h => (List.mem_cons_of_mem _ (List.mem_append_left _ (List.mem_append_right _ h)))) tg_wsX120)
set_option maxRecDepth 20000 in
theorem gX12_mate_X12_answer : GoodIn wsX12_mate (wsV RX12 153 RX12 yX12_answer wsX12_answer) := goodIn_app (goodIn_q _ [43, 44, 45, 4] rfl (by decide +kernel)) ggX12_mate_X12_answer
def dsX12_mate_0 : ByteArray := ⟨#[42, 27, 182, 0, 121, 154, 0, 9, 42, 4, 182, 0, 143, 172, 42, 27]⟩
theorem daX12_mate_0 : agB cX12_mate dsX12_mate_0 0 := agB_of (n := 16) (by decide +kernel)
theorem dbX12_mate_0 : (decode dsX12_mate_0 0 = .ok (.aload_n 0, 1) ∧ okop dsX12_mate_0 0 = true) ∧ (decode dsX12_mate_0 1 = .ok (.iload_n 1, 1) ∧ okop dsX12_mate_0 1 = true) ∧ (decode dsX12_mate_0 2 = .ok (.invokevirtual 121, 3) ∧ okop dsX12_mate_0 2 = true) ∧ (decode dsX12_mate_0 5 = .ok (.ifCond .ne 9, 3) ∧ okop dsX12_mate_0 5 = true) ∧ (decode dsX12_mate_0 8 = .ok (.aload_n 0, 1) ∧ okop dsX12_mate_0 8 = true) ∧ (decode dsX12_mate_0 9 = .ok (.iconst 1, 1) ∧ okop dsX12_mate_0 9 = true) ∧ (decode dsX12_mate_0 10 = .ok (.invokevirtual 143, 3) ∧ okop dsX12_mate_0 10 = true) ∧ (decode dsX12_mate_0 13 = .ok (.ireturn, 1) ∧ okop dsX12_mate_0 13 = true) ∧ (decode dsX12_mate_0 14 = .ok (.aload_n 0, 1) ∧ okop dsX12_mate_0 14 = true) ∧ (decode dsX12_mate_0 15 = .ok (.iload_n 1, 1) ∧ okop dsX12_mate_0 15 = true) := by decide +kernel
theorem dX12_mate_0 : decode cX12_mate 0 = .ok (.aload_n 0, 1) := dgq (p := 0) daX12_mate_0 dbX12_mate_0.1
theorem dX12_mate_1 : decode cX12_mate 1 = .ok (.iload_n 1, 1) := dgq (p := 1) daX12_mate_0 dbX12_mate_0.2.1
theorem dX12_mate_2 : decode cX12_mate 2 = .ok (.invokevirtual 121, 3) := dgq (p := 2) daX12_mate_0 dbX12_mate_0.2.2.1
theorem dX12_mate_5 : decode cX12_mate 5 = .ok (.ifCond .ne 9, 3) := dgq (p := 5) daX12_mate_0 dbX12_mate_0.2.2.2.1
theorem dX12_mate_8 : decode cX12_mate 8 = .ok (.aload_n 0, 1) := dgq (p := 8) daX12_mate_0 dbX12_mate_0.2.2.2.2.1
theorem dX12_mate_9 : decode cX12_mate 9 = .ok (.iconst 1, 1) := dgq (p := 9) daX12_mate_0 dbX12_mate_0.2.2.2.2.2.1
theorem dX12_mate_10 : decode cX12_mate 10 = .ok (.invokevirtual 143, 3) := dgq (p := 10) daX12_mate_0 dbX12_mate_0.2.2.2.2.2.2.1
theorem dX12_mate_13 : decode cX12_mate 13 = .ok (.ireturn, 1) := dgq (p := 13) daX12_mate_0 dbX12_mate_0.2.2.2.2.2.2.2.1
theorem dX12_mate_14 : decode cX12_mate 14 = .ok (.aload_n 0, 1) := dgq (p := 14) daX12_mate_0 dbX12_mate_0.2.2.2.2.2.2.2.2.1
theorem dX12_mate_15 : decode cX12_mate 15 = .ok (.iload_n 1, 1) := dgq (p := 15) daX12_mate_0 dbX12_mate_0.2.2.2.2.2.2.2.2.2
def dsX12_mate_16 : ByteArray := ⟨#[182, 0, 111, 180, 1, 190, 2, 160, 0, 11, 42, 5, 182, 0, 143, 167, 0, 15, 42, 42]⟩
theorem daX12_mate_16 : agB cX12_mate dsX12_mate_16 16 := agB_of (n := 20) (by decide +kernel)
theorem dbX12_mate_16 : (decode dsX12_mate_16 0 = .ok (.invokevirtual 111, 3) ∧ okop dsX12_mate_16 0 = true) ∧ (decode dsX12_mate_16 3 = .ok (.getfield 446, 3) ∧ okop dsX12_mate_16 3 = true) ∧ (decode dsX12_mate_16 6 = .ok (.iconst (-1), 1) ∧ okop dsX12_mate_16 6 = true) ∧ (decode dsX12_mate_16 7 = .ok (.if_icmp .ne 11, 3) ∧ okop dsX12_mate_16 7 = true) ∧ (decode dsX12_mate_16 10 = .ok (.aload_n 0, 1) ∧ okop dsX12_mate_16 10 = true) ∧ (decode dsX12_mate_16 11 = .ok (.iconst 2, 1) ∧ okop dsX12_mate_16 11 = true) ∧ (decode dsX12_mate_16 12 = .ok (.invokevirtual 143, 3) ∧ okop dsX12_mate_16 12 = true) ∧ (decode dsX12_mate_16 15 = .ok (.goto 15, 3) ∧ okop dsX12_mate_16 15 = true) ∧ (decode dsX12_mate_16 18 = .ok (.aload_n 0, 1) ∧ okop dsX12_mate_16 18 = true) ∧ (decode dsX12_mate_16 19 = .ok (.aload_n 0, 1) ∧ okop dsX12_mate_16 19 = true) := by decide +kernel
theorem dX12_mate_16 : decode cX12_mate 16 = .ok (.invokevirtual 111, 3) := dgq (p := 0) daX12_mate_16 dbX12_mate_16.1
theorem dX12_mate_19 : decode cX12_mate 19 = .ok (.getfield 446, 3) := dgq (p := 3) daX12_mate_16 dbX12_mate_16.2.1
theorem dX12_mate_22 : decode cX12_mate 22 = .ok (.iconst (-1), 1) := dgq (p := 6) daX12_mate_16 dbX12_mate_16.2.2.1
theorem dX12_mate_23 : decode cX12_mate 23 = .ok (.if_icmp .ne 11, 3) := dgq (p := 7) daX12_mate_16 dbX12_mate_16.2.2.2.1
theorem dX12_mate_26 : decode cX12_mate 26 = .ok (.aload_n 0, 1) := dgq (p := 10) daX12_mate_16 dbX12_mate_16.2.2.2.2.1
theorem dX12_mate_27 : decode cX12_mate 27 = .ok (.iconst 2, 1) := dgq (p := 11) daX12_mate_16 dbX12_mate_16.2.2.2.2.2.1
theorem dX12_mate_28 : decode cX12_mate 28 = .ok (.invokevirtual 143, 3) := dgq (p := 12) daX12_mate_16 dbX12_mate_16.2.2.2.2.2.2.1
theorem dX12_mate_31 : decode cX12_mate 31 = .ok (.goto 15, 3) := dgq (p := 15) daX12_mate_16 dbX12_mate_16.2.2.2.2.2.2.2.1
theorem dX12_mate_34 : decode cX12_mate 34 = .ok (.aload_n 0, 1) := dgq (p := 18) daX12_mate_16 dbX12_mate_16.2.2.2.2.2.2.2.2.1
theorem dX12_mate_35 : decode cX12_mate 35 = .ok (.aload_n 0, 1) := dgq (p := 19) daX12_mate_16 dbX12_mate_16.2.2.2.2.2.2.2.2.2
def dsX12_mate_36 : ByteArray := ⟨#[27, 182, 0, 111, 180, 1, 190, 182, 0, 153, 172]⟩
theorem daX12_mate_36 : agB cX12_mate dsX12_mate_36 36 := agB_of (n := 11) (by decide +kernel)
theorem dbX12_mate_36 : (decode dsX12_mate_36 0 = .ok (.iload_n 1, 1) ∧ okop dsX12_mate_36 0 = true) ∧ (decode dsX12_mate_36 1 = .ok (.invokevirtual 111, 3) ∧ okop dsX12_mate_36 1 = true) ∧ (decode dsX12_mate_36 4 = .ok (.getfield 446, 3) ∧ okop dsX12_mate_36 4 = true) ∧ (decode dsX12_mate_36 7 = .ok (.invokevirtual 153, 3) ∧ okop dsX12_mate_36 7 = true) ∧ (decode dsX12_mate_36 10 = .ok (.ireturn, 1) ∧ okop dsX12_mate_36 10 = true) := by decide +kernel
theorem dX12_mate_36 : decode cX12_mate 36 = .ok (.iload_n 1, 1) := dgq (p := 0) daX12_mate_36 dbX12_mate_36.1
theorem dX12_mate_37 : decode cX12_mate 37 = .ok (.invokevirtual 111, 3) := dgq (p := 1) daX12_mate_36 dbX12_mate_36.2.1
theorem dX12_mate_40 : decode cX12_mate 40 = .ok (.getfield 446, 3) := dgq (p := 4) daX12_mate_36 dbX12_mate_36.2.2.1
theorem dX12_mate_43 : decode cX12_mate 43 = .ok (.invokevirtual 153, 3) := dgq (p := 7) daX12_mate_36 dbX12_mate_36.2.2.2.1
theorem dX12_mate_46 : decode cX12_mate 46 = .ok (.ireturn, 1) := dgq (p := 10) daX12_mate_36 dbX12_mate_36.2.2.2.2
set_option maxRecDepth 20000 in
theorem ggX12_separate_X12_isGear : GoodIn wsX12_separate wsX12_isGear := goodIn_ca (goodIn_ca (goodIn_q _ [5, 6, 7, 8, 9, 10, 11, 12, 13, 14, 4, 15] rfl (by decide +kernel)) (goodIn_sub (fun _ h => (List.mem_cons_of_mem _ (List.mem_append_left _ (List.mem_append_right _ h)))) tg_wsX120)) (goodIn_sub (fun _ h => (List.mem_cons_of_mem _ (List.mem_append_right _ h))) tg_wsJx4a65c0)
set_option maxRecDepth 20000 in
theorem gX12_separate_X12_isGear : GoodIn wsX12_separate (wsV RX12 121 RX12 yX12_isGear wsX12_isGear) := goodIn_app (goodIn_q _ [1, 2, 3, 4] rfl (by decide +kernel)) ggX12_separate_X12_isGear
set_option maxRecDepth 20000 in
theorem ggX12_separate_X12_fails : GoodIn wsX12_separate wsX12_fails := goodIn_ca (goodIn_q _ [19, 20] rfl (by decide +kernel)) (goodIn_sub (fun _ h => (List.mem_cons_of_mem _ (List.mem_append_left _ (List.mem_append_right _ h)))) tg_wsX120)
set_option maxRecDepth 20000 in
theorem gX12_separate_X12_fails : GoodIn wsX12_separate (wsV RX12 143 RX12 yX12_fails wsX12_fails) := goodIn_app (goodIn_q _ [16, 17, 18, 4] rfl (by decide +kernel)) ggX12_separate_X12_fails
set_option maxRecDepth 20000 in
theorem ggX12_separate_X12_gearAt : GoodIn wsX12_separate wsX12_gearAt := goodIn_ca (goodIn_ca (goodIn_q _ [24, 6, 25, 26, 27, 28, 10, 29, 12, 30, 31, 32, 33, 34, 35, 36, 37, 38, 39, 40, 41, 42] rfl (by decide +kernel)) (goodIn_sub (fun _ h => (List.mem_cons_of_mem _ (List.mem_append_left _ (List.mem_append_right _ h)))) tg_wsX120)) (goodIn_sub (fun _ h => (List.mem_cons_of_mem _ (List.mem_append_right _ h))) tg_wsJx4a65c0)
set_option maxRecDepth 20000 in
theorem gX12_separate_X12_gearAt : GoodIn wsX12_separate (wsV RX12 111 RX12 yX12_gearAt wsX12_gearAt) := goodIn_app (goodIn_q _ [21, 22, 23, 4] rfl (by decide +kernel)) ggX12_separate_X12_gearAt
set_option maxRecDepth 20000 in
theorem ggX12_separate_X12_answer : GoodIn wsX12_separate wsX12_answer := goodIn_ca (goodIn_q _ [46, 20] rfl (by decide +kernel)) (goodIn_sub (fun _ h => (List.mem_cons_of_mem _ (List.mem_append_left _ (List.mem_append_right _ h)))) tg_wsX120)
set_option maxRecDepth 20000 in
theorem gX12_separate_X12_answer : GoodIn wsX12_separate (wsV RX12 153 RX12 yX12_answer wsX12_answer) := goodIn_app (goodIn_q _ [43, 44, 45, 4] rfl (by decide +kernel)) ggX12_separate_X12_answer
def dsX12_separate_0 : ByteArray := ⟨#[42, 27, 182, 0, 121, 154, 0, 9, 42, 4, 182, 0, 143, 172, 42, 27]⟩
theorem daX12_separate_0 : agB cX12_separate dsX12_separate_0 0 := agB_of (n := 16) (by decide +kernel)
theorem dbX12_separate_0 : (decode dsX12_separate_0 0 = .ok (.aload_n 0, 1) ∧ okop dsX12_separate_0 0 = true) ∧ (decode dsX12_separate_0 1 = .ok (.iload_n 1, 1) ∧ okop dsX12_separate_0 1 = true) ∧ (decode dsX12_separate_0 2 = .ok (.invokevirtual 121, 3) ∧ okop dsX12_separate_0 2 = true) ∧ (decode dsX12_separate_0 5 = .ok (.ifCond .ne 9, 3) ∧ okop dsX12_separate_0 5 = true) ∧ (decode dsX12_separate_0 8 = .ok (.aload_n 0, 1) ∧ okop dsX12_separate_0 8 = true) ∧ (decode dsX12_separate_0 9 = .ok (.iconst 1, 1) ∧ okop dsX12_separate_0 9 = true) ∧ (decode dsX12_separate_0 10 = .ok (.invokevirtual 143, 3) ∧ okop dsX12_separate_0 10 = true) ∧ (decode dsX12_separate_0 13 = .ok (.ireturn, 1) ∧ okop dsX12_separate_0 13 = true) ∧ (decode dsX12_separate_0 14 = .ok (.aload_n 0, 1) ∧ okop dsX12_separate_0 14 = true) ∧ (decode dsX12_separate_0 15 = .ok (.iload_n 1, 1) ∧ okop dsX12_separate_0 15 = true) := by decide +kernel
theorem dX12_separate_0 : decode cX12_separate 0 = .ok (.aload_n 0, 1) := dgq (p := 0) daX12_separate_0 dbX12_separate_0.1
theorem dX12_separate_1 : decode cX12_separate 1 = .ok (.iload_n 1, 1) := dgq (p := 1) daX12_separate_0 dbX12_separate_0.2.1
theorem dX12_separate_2 : decode cX12_separate 2 = .ok (.invokevirtual 121, 3) := dgq (p := 2) daX12_separate_0 dbX12_separate_0.2.2.1
theorem dX12_separate_5 : decode cX12_separate 5 = .ok (.ifCond .ne 9, 3) := dgq (p := 5) daX12_separate_0 dbX12_separate_0.2.2.2.1
theorem dX12_separate_8 : decode cX12_separate 8 = .ok (.aload_n 0, 1) := dgq (p := 8) daX12_separate_0 dbX12_separate_0.2.2.2.2.1
theorem dX12_separate_9 : decode cX12_separate 9 = .ok (.iconst 1, 1) := dgq (p := 9) daX12_separate_0 dbX12_separate_0.2.2.2.2.2.1
theorem dX12_separate_10 : decode cX12_separate 10 = .ok (.invokevirtual 143, 3) := dgq (p := 10) daX12_separate_0 dbX12_separate_0.2.2.2.2.2.2.1
theorem dX12_separate_13 : decode cX12_separate 13 = .ok (.ireturn, 1) := dgq (p := 13) daX12_separate_0 dbX12_separate_0.2.2.2.2.2.2.2.1
theorem dX12_separate_14 : decode cX12_separate 14 = .ok (.aload_n 0, 1) := dgq (p := 14) daX12_separate_0 dbX12_separate_0.2.2.2.2.2.2.2.2.1
theorem dX12_separate_15 : decode cX12_separate 15 = .ok (.iload_n 1, 1) := dgq (p := 15) daX12_separate_0 dbX12_separate_0.2.2.2.2.2.2.2.2.2
def dsX12_separate_16 : ByteArray := ⟨#[182, 0, 111, 180, 1, 190, 61, 28, 2, 160, 0, 9, 42, 5, 182, 0, 143, 172]⟩
theorem daX12_separate_16 : agB cX12_separate dsX12_separate_16 16 := agB_of (n := 18) (by decide +kernel)
theorem dbX12_separate_16 : (decode dsX12_separate_16 0 = .ok (.invokevirtual 111, 3) ∧ okop dsX12_separate_16 0 = true) ∧ (decode dsX12_separate_16 3 = .ok (.getfield 446, 3) ∧ okop dsX12_separate_16 3 = true) ∧ (decode dsX12_separate_16 6 = .ok (.istore_n 2, 1) ∧ okop dsX12_separate_16 6 = true) ∧ (decode dsX12_separate_16 7 = .ok (.iload_n 2, 1) ∧ okop dsX12_separate_16 7 = true) ∧ (decode dsX12_separate_16 8 = .ok (.iconst (-1), 1) ∧ okop dsX12_separate_16 8 = true) ∧ (decode dsX12_separate_16 9 = .ok (.if_icmp .ne 9, 3) ∧ okop dsX12_separate_16 9 = true) ∧ (decode dsX12_separate_16 12 = .ok (.aload_n 0, 1) ∧ okop dsX12_separate_16 12 = true) ∧ (decode dsX12_separate_16 13 = .ok (.iconst 2, 1) ∧ okop dsX12_separate_16 13 = true) ∧ (decode dsX12_separate_16 14 = .ok (.invokevirtual 143, 3) ∧ okop dsX12_separate_16 14 = true) ∧ (decode dsX12_separate_16 17 = .ok (.ireturn, 1) ∧ okop dsX12_separate_16 17 = true) := by decide +kernel
theorem dX12_separate_16 : decode cX12_separate 16 = .ok (.invokevirtual 111, 3) := dgq (p := 0) daX12_separate_16 dbX12_separate_16.1
theorem dX12_separate_19 : decode cX12_separate 19 = .ok (.getfield 446, 3) := dgq (p := 3) daX12_separate_16 dbX12_separate_16.2.1
theorem dX12_separate_22 : decode cX12_separate 22 = .ok (.istore_n 2, 1) := dgq (p := 6) daX12_separate_16 dbX12_separate_16.2.2.1
theorem dX12_separate_23 : decode cX12_separate 23 = .ok (.iload_n 2, 1) := dgq (p := 7) daX12_separate_16 dbX12_separate_16.2.2.2.1
theorem dX12_separate_24 : decode cX12_separate 24 = .ok (.iconst (-1), 1) := dgq (p := 8) daX12_separate_16 dbX12_separate_16.2.2.2.2.1
theorem dX12_separate_25 : decode cX12_separate 25 = .ok (.if_icmp .ne 9, 3) := dgq (p := 9) daX12_separate_16 dbX12_separate_16.2.2.2.2.2.1
theorem dX12_separate_28 : decode cX12_separate 28 = .ok (.aload_n 0, 1) := dgq (p := 12) daX12_separate_16 dbX12_separate_16.2.2.2.2.2.2.1
theorem dX12_separate_29 : decode cX12_separate 29 = .ok (.iconst 2, 1) := dgq (p := 13) daX12_separate_16 dbX12_separate_16.2.2.2.2.2.2.2.1
theorem dX12_separate_30 : decode cX12_separate 30 = .ok (.invokevirtual 143, 3) := dgq (p := 14) daX12_separate_16 dbX12_separate_16.2.2.2.2.2.2.2.2.1
theorem dX12_separate_33 : decode cX12_separate 33 = .ok (.ireturn, 1) := dgq (p := 17) daX12_separate_16 dbX12_separate_16.2.2.2.2.2.2.2.2.2
def dsX12_separate_34 : ByteArray := ⟨#[42, 27, 182, 0, 111, 2, 181, 1, 190, 42, 28, 182, 0, 111, 2, 181, 1, 190]⟩
theorem daX12_separate_34 : agB cX12_separate dsX12_separate_34 34 := agB_of (n := 18) (by decide +kernel)
theorem dbX12_separate_34 : (decode dsX12_separate_34 0 = .ok (.aload_n 0, 1) ∧ okop dsX12_separate_34 0 = true) ∧ (decode dsX12_separate_34 1 = .ok (.iload_n 1, 1) ∧ okop dsX12_separate_34 1 = true) ∧ (decode dsX12_separate_34 2 = .ok (.invokevirtual 111, 3) ∧ okop dsX12_separate_34 2 = true) ∧ (decode dsX12_separate_34 5 = .ok (.iconst (-1), 1) ∧ okop dsX12_separate_34 5 = true) ∧ (decode dsX12_separate_34 6 = .ok (.putfield 446, 3) ∧ okop dsX12_separate_34 6 = true) ∧ (decode dsX12_separate_34 9 = .ok (.aload_n 0, 1) ∧ okop dsX12_separate_34 9 = true) ∧ (decode dsX12_separate_34 10 = .ok (.iload_n 2, 1) ∧ okop dsX12_separate_34 10 = true) ∧ (decode dsX12_separate_34 11 = .ok (.invokevirtual 111, 3) ∧ okop dsX12_separate_34 11 = true) ∧ (decode dsX12_separate_34 14 = .ok (.iconst (-1), 1) ∧ okop dsX12_separate_34 14 = true) ∧ (decode dsX12_separate_34 15 = .ok (.putfield 446, 3) ∧ okop dsX12_separate_34 15 = true) := by decide +kernel
theorem dX12_separate_34 : decode cX12_separate 34 = .ok (.aload_n 0, 1) := dgq (p := 0) daX12_separate_34 dbX12_separate_34.1
theorem dX12_separate_35 : decode cX12_separate 35 = .ok (.iload_n 1, 1) := dgq (p := 1) daX12_separate_34 dbX12_separate_34.2.1
theorem dX12_separate_36 : decode cX12_separate 36 = .ok (.invokevirtual 111, 3) := dgq (p := 2) daX12_separate_34 dbX12_separate_34.2.2.1
theorem dX12_separate_39 : decode cX12_separate 39 = .ok (.iconst (-1), 1) := dgq (p := 5) daX12_separate_34 dbX12_separate_34.2.2.2.1
theorem dX12_separate_40 : decode cX12_separate 40 = .ok (.putfield 446, 3) := dgq (p := 6) daX12_separate_34 dbX12_separate_34.2.2.2.2.1
theorem dX12_separate_43 : decode cX12_separate 43 = .ok (.aload_n 0, 1) := dgq (p := 9) daX12_separate_34 dbX12_separate_34.2.2.2.2.2.1
theorem dX12_separate_44 : decode cX12_separate 44 = .ok (.iload_n 2, 1) := dgq (p := 10) daX12_separate_34 dbX12_separate_34.2.2.2.2.2.2.1
theorem dX12_separate_45 : decode cX12_separate 45 = .ok (.invokevirtual 111, 3) := dgq (p := 11) daX12_separate_34 dbX12_separate_34.2.2.2.2.2.2.2.1
theorem dX12_separate_48 : decode cX12_separate 48 = .ok (.iconst (-1), 1) := dgq (p := 14) daX12_separate_34 dbX12_separate_34.2.2.2.2.2.2.2.2.1
theorem dX12_separate_49 : decode cX12_separate 49 = .ok (.putfield 446, 3) := dgq (p := 15) daX12_separate_34 dbX12_separate_34.2.2.2.2.2.2.2.2.2
def dsX12_separate_52 : ByteArray := ⟨#[42, 28, 182, 0, 153, 172]⟩
theorem daX12_separate_52 : agB cX12_separate dsX12_separate_52 52 := agB_of (n := 6) (by decide +kernel)
theorem dbX12_separate_52 : (decode dsX12_separate_52 0 = .ok (.aload_n 0, 1) ∧ okop dsX12_separate_52 0 = true) ∧ (decode dsX12_separate_52 1 = .ok (.iload_n 2, 1) ∧ okop dsX12_separate_52 1 = true) ∧ (decode dsX12_separate_52 2 = .ok (.invokevirtual 153, 3) ∧ okop dsX12_separate_52 2 = true) ∧ (decode dsX12_separate_52 5 = .ok (.ireturn, 1) ∧ okop dsX12_separate_52 5 = true) := by decide +kernel
theorem dX12_separate_52 : decode cX12_separate 52 = .ok (.aload_n 0, 1) := dgq (p := 0) daX12_separate_52 dbX12_separate_52.1
theorem dX12_separate_53 : decode cX12_separate 53 = .ok (.iload_n 2, 1) := dgq (p := 1) daX12_separate_52 dbX12_separate_52.2.1
theorem dX12_separate_54 : decode cX12_separate 54 = .ok (.invokevirtual 153, 3) := dgq (p := 2) daX12_separate_52 dbX12_separate_52.2.2.1
theorem dX12_separate_57 : decode cX12_separate 57 = .ok (.ireturn, 1) := dgq (p := 5) daX12_separate_52 dbX12_separate_52.2.2.2
def dsX12_isKind_0 : ByteArray := ⟨#[26, 16, 104, 159, 0, 21, 26, 16, 102, 159, 0, 15, 26, 16, 103, 159, 0, 9, 26]⟩
theorem daX12_isKind_0 : agB cX12_isKind dsX12_isKind_0 0 := agB_of (n := 19) (by decide +kernel)
theorem dbX12_isKind_0 : (decode dsX12_isKind_0 0 = .ok (.iload_n 0, 1) ∧ okop dsX12_isKind_0 0 = true) ∧ (decode dsX12_isKind_0 1 = .ok (.bipush 104, 2) ∧ okop dsX12_isKind_0 1 = true) ∧ (decode dsX12_isKind_0 3 = .ok (.if_icmp .eq 21, 3) ∧ okop dsX12_isKind_0 3 = true) ∧ (decode dsX12_isKind_0 6 = .ok (.iload_n 0, 1) ∧ okop dsX12_isKind_0 6 = true) ∧ (decode dsX12_isKind_0 7 = .ok (.bipush 102, 2) ∧ okop dsX12_isKind_0 7 = true) ∧ (decode dsX12_isKind_0 9 = .ok (.if_icmp .eq 15, 3) ∧ okop dsX12_isKind_0 9 = true) ∧ (decode dsX12_isKind_0 12 = .ok (.iload_n 0, 1) ∧ okop dsX12_isKind_0 12 = true) ∧ (decode dsX12_isKind_0 13 = .ok (.bipush 103, 2) ∧ okop dsX12_isKind_0 13 = true) ∧ (decode dsX12_isKind_0 15 = .ok (.if_icmp .eq 9, 3) ∧ okop dsX12_isKind_0 15 = true) ∧ (decode dsX12_isKind_0 18 = .ok (.iload_n 0, 1) ∧ okop dsX12_isKind_0 18 = true) := by decide +kernel
theorem dX12_isKind_0 : decode cX12_isKind 0 = .ok (.iload_n 0, 1) := dgq (p := 0) daX12_isKind_0 dbX12_isKind_0.1
theorem dX12_isKind_1 : decode cX12_isKind 1 = .ok (.bipush 104, 2) := dgq (p := 1) daX12_isKind_0 dbX12_isKind_0.2.1
theorem dX12_isKind_3 : decode cX12_isKind 3 = .ok (.if_icmp .eq 21, 3) := dgq (p := 3) daX12_isKind_0 dbX12_isKind_0.2.2.1
theorem dX12_isKind_6 : decode cX12_isKind 6 = .ok (.iload_n 0, 1) := dgq (p := 6) daX12_isKind_0 dbX12_isKind_0.2.2.2.1
theorem dX12_isKind_7 : decode cX12_isKind 7 = .ok (.bipush 102, 2) := dgq (p := 7) daX12_isKind_0 dbX12_isKind_0.2.2.2.2.1
theorem dX12_isKind_9 : decode cX12_isKind 9 = .ok (.if_icmp .eq 15, 3) := dgq (p := 9) daX12_isKind_0 dbX12_isKind_0.2.2.2.2.2.1
theorem dX12_isKind_12 : decode cX12_isKind 12 = .ok (.iload_n 0, 1) := dgq (p := 12) daX12_isKind_0 dbX12_isKind_0.2.2.2.2.2.2.1
theorem dX12_isKind_13 : decode cX12_isKind 13 = .ok (.bipush 103, 2) := dgq (p := 13) daX12_isKind_0 dbX12_isKind_0.2.2.2.2.2.2.2.1
theorem dX12_isKind_15 : decode cX12_isKind 15 = .ok (.if_icmp .eq 9, 3) := dgq (p := 15) daX12_isKind_0 dbX12_isKind_0.2.2.2.2.2.2.2.2.1
theorem dX12_isKind_18 : decode cX12_isKind 18 = .ok (.iload_n 0, 1) := dgq (p := 18) daX12_isKind_0 dbX12_isKind_0.2.2.2.2.2.2.2.2.2
def dsX12_isKind_19 : ByteArray := ⟨#[16, 99, 160, 0, 7, 4, 167, 0, 4, 3, 172]⟩
theorem daX12_isKind_19 : agB cX12_isKind dsX12_isKind_19 19 := agB_of (n := 11) (by decide +kernel)
theorem dbX12_isKind_19 : (decode dsX12_isKind_19 0 = .ok (.bipush 99, 2) ∧ okop dsX12_isKind_19 0 = true) ∧ (decode dsX12_isKind_19 2 = .ok (.if_icmp .ne 7, 3) ∧ okop dsX12_isKind_19 2 = true) ∧ (decode dsX12_isKind_19 5 = .ok (.iconst 1, 1) ∧ okop dsX12_isKind_19 5 = true) ∧ (decode dsX12_isKind_19 6 = .ok (.goto 4, 3) ∧ okop dsX12_isKind_19 6 = true) ∧ (decode dsX12_isKind_19 9 = .ok (.iconst 0, 1) ∧ okop dsX12_isKind_19 9 = true) ∧ (decode dsX12_isKind_19 10 = .ok (.ireturn, 1) ∧ okop dsX12_isKind_19 10 = true) := by decide +kernel
theorem dX12_isKind_19 : decode cX12_isKind 19 = .ok (.bipush 99, 2) := dgq (p := 0) daX12_isKind_19 dbX12_isKind_19.1
theorem dX12_isKind_21 : decode cX12_isKind 21 = .ok (.if_icmp .ne 7, 3) := dgq (p := 2) daX12_isKind_19 dbX12_isKind_19.2.1
theorem dX12_isKind_24 : decode cX12_isKind 24 = .ok (.iconst 1, 1) := dgq (p := 5) daX12_isKind_19 dbX12_isKind_19.2.2.1
theorem dX12_isKind_25 : decode cX12_isKind 25 = .ok (.goto 4, 3) := dgq (p := 6) daX12_isKind_19 dbX12_isKind_19.2.2.2.1
theorem dX12_isKind_28 : decode cX12_isKind 28 = .ok (.iconst 0, 1) := dgq (p := 9) daX12_isKind_19 dbX12_isKind_19.2.2.2.2.1
theorem dX12_isKind_29 : decode cX12_isKind 29 = .ok (.ireturn, 1) := dgq (p := 10) daX12_isKind_19 dbX12_isKind_19.2.2.2.2.2
set_option maxRecDepth 20000 in
theorem ggX12_machine_X12_isKind : GoodIn wsX12_machine wsX12_isKind := goodIn_q _ [8] rfl (by decide +kernel)
set_option maxRecDepth 20000 in
theorem gX12_machine_X12_isKind : GoodIn wsX12_machine (va_wsS RX12 481 yX12_isKind wsX12_isKind) := goodIn_app (goodIn_q _ [5, 6, 7] rfl (by decide +kernel)) ggX12_machine_X12_isKind
set_option maxRecDepth 20000 in
theorem ggX12_machine_X12_in : GoodIn wsX12_machine wsX12_in := goodIn_q _ [11] rfl (by decide +kernel)
set_option maxRecDepth 20000 in
theorem gX12_machine_X12_in : GoodIn wsX12_machine (va_wsS RX12 101 yX12_in wsX12_in) := goodIn_app (goodIn_q _ [9, 10, 7] rfl (by decide +kernel)) ggX12_machine_X12_in
set_option maxRecDepth 20000 in
theorem ggX12_machine_X12_fails : GoodIn wsX12_machine wsX12_fails := goodIn_ca (goodIn_q _ [15, 16] rfl (by decide +kernel)) (goodIn_sub (fun _ h => (List.mem_cons_of_mem _ (List.mem_append_left _ (List.mem_append_right _ h)))) tg_wsX120)
set_option maxRecDepth 20000 in
theorem gX12_machine_X12_fails : GoodIn wsX12_machine (wsV RX12 143 RX12 yX12_fails wsX12_fails) := goodIn_app (goodIn_q _ [12, 13, 14, 7] rfl (by decide +kernel)) ggX12_machine_X12_fails
set_option maxRecDepth 20000 in
theorem ggX12_machine_X12_answer : GoodIn wsX12_machine wsX12_answer := goodIn_ca (goodIn_q _ [20, 16] rfl (by decide +kernel)) (goodIn_sub (fun _ h => (List.mem_cons_of_mem _ (List.mem_append_left _ (List.mem_append_right _ h)))) tg_wsX120)
set_option maxRecDepth 20000 in
theorem gX12_machine_X12_answer : GoodIn wsX12_machine (wsV RX12 153 RX12 yX12_answer wsX12_answer) := goodIn_app (goodIn_q _ [17, 18, 19, 7] rfl (by decide +kernel)) ggX12_machine_X12_answer
def dsX12_machine_0 : ByteArray := ⟨#[27, 184, 1, 225, 153, 0, 15, 28, 133, 10, 20, 1, 56, 184, 0, 101, 154, 0, 9, 42]⟩
theorem daX12_machine_0 : agB cX12_machine dsX12_machine_0 0 := agB_of (n := 20) (by decide +kernel)
theorem dbX12_machine_0 : (decode dsX12_machine_0 0 = .ok (.iload_n 1, 1) ∧ okop dsX12_machine_0 0 = true) ∧ (decode dsX12_machine_0 1 = .ok (.invokestatic 481, 3) ∧ okop dsX12_machine_0 1 = true) ∧ (decode dsX12_machine_0 4 = .ok (.ifCond .eq 15, 3) ∧ okop dsX12_machine_0 4 = true) ∧ (decode dsX12_machine_0 7 = .ok (.iload_n 2, 1) ∧ okop dsX12_machine_0 7 = true) ∧ (decode dsX12_machine_0 8 = .ok (.i2l, 1) ∧ okop dsX12_machine_0 8 = true) ∧ (decode dsX12_machine_0 9 = .ok (.lconst 1, 1) ∧ okop dsX12_machine_0 9 = true) ∧ (decode dsX12_machine_0 10 = .ok (.ldc2_w 312, 3) ∧ okop dsX12_machine_0 10 = true) ∧ (decode dsX12_machine_0 13 = .ok (.invokestatic 101, 3) ∧ okop dsX12_machine_0 13 = true) ∧ (decode dsX12_machine_0 16 = .ok (.ifCond .ne 9, 3) ∧ okop dsX12_machine_0 16 = true) ∧ (decode dsX12_machine_0 19 = .ok (.aload_n 0, 1) ∧ okop dsX12_machine_0 19 = true) := by decide +kernel
theorem dX12_machine_0 : decode cX12_machine 0 = .ok (.iload_n 1, 1) := dgq (p := 0) daX12_machine_0 dbX12_machine_0.1
theorem dX12_machine_1 : decode cX12_machine 1 = .ok (.invokestatic 481, 3) := dgq (p := 1) daX12_machine_0 dbX12_machine_0.2.1
theorem dX12_machine_4 : decode cX12_machine 4 = .ok (.ifCond .eq 15, 3) := dgq (p := 4) daX12_machine_0 dbX12_machine_0.2.2.1
theorem dX12_machine_7 : decode cX12_machine 7 = .ok (.iload_n 2, 1) := dgq (p := 7) daX12_machine_0 dbX12_machine_0.2.2.2.1
theorem dX12_machine_8 : decode cX12_machine 8 = .ok (.i2l, 1) := dgq (p := 8) daX12_machine_0 dbX12_machine_0.2.2.2.2.1
theorem dX12_machine_9 : decode cX12_machine 9 = .ok (.lconst 1, 1) := dgq (p := 9) daX12_machine_0 dbX12_machine_0.2.2.2.2.2.1
theorem dX12_machine_10 : decode cX12_machine 10 = .ok (.ldc2_w 312, 3) := dgq (p := 10) daX12_machine_0 dbX12_machine_0.2.2.2.2.2.2.1
theorem dX12_machine_13 : decode cX12_machine 13 = .ok (.invokestatic 101, 3) := dgq (p := 13) daX12_machine_0 dbX12_machine_0.2.2.2.2.2.2.2.1
theorem dX12_machine_16 : decode cX12_machine 16 = .ok (.ifCond .ne 9, 3) := dgq (p := 16) daX12_machine_0 dbX12_machine_0.2.2.2.2.2.2.2.2.1
theorem dX12_machine_19 : decode cX12_machine 19 = .ok (.aload_n 0, 1) := dgq (p := 19) daX12_machine_0 dbX12_machine_0.2.2.2.2.2.2.2.2.2
def dsX12_machine_20 : ByteArray := ⟨#[4, 182, 0, 143, 172, 42, 180, 1, 229, 16, 6, 160, 0, 9, 42, 5, 182, 0, 143]⟩
theorem daX12_machine_20 : agB cX12_machine dsX12_machine_20 20 := agB_of (n := 19) (by decide +kernel)
theorem dbX12_machine_20 : (decode dsX12_machine_20 0 = .ok (.iconst 1, 1) ∧ okop dsX12_machine_20 0 = true) ∧ (decode dsX12_machine_20 1 = .ok (.invokevirtual 143, 3) ∧ okop dsX12_machine_20 1 = true) ∧ (decode dsX12_machine_20 4 = .ok (.ireturn, 1) ∧ okop dsX12_machine_20 4 = true) ∧ (decode dsX12_machine_20 5 = .ok (.aload_n 0, 1) ∧ okop dsX12_machine_20 5 = true) ∧ (decode dsX12_machine_20 6 = .ok (.getfield 485, 3) ∧ okop dsX12_machine_20 6 = true) ∧ (decode dsX12_machine_20 9 = .ok (.bipush 6, 2) ∧ okop dsX12_machine_20 9 = true) ∧ (decode dsX12_machine_20 11 = .ok (.if_icmp .ne 9, 3) ∧ okop dsX12_machine_20 11 = true) ∧ (decode dsX12_machine_20 14 = .ok (.aload_n 0, 1) ∧ okop dsX12_machine_20 14 = true) ∧ (decode dsX12_machine_20 15 = .ok (.iconst 2, 1) ∧ okop dsX12_machine_20 15 = true) ∧ (decode dsX12_machine_20 16 = .ok (.invokevirtual 143, 3) ∧ okop dsX12_machine_20 16 = true) := by decide +kernel
theorem dX12_machine_20 : decode cX12_machine 20 = .ok (.iconst 1, 1) := dgq (p := 0) daX12_machine_20 dbX12_machine_20.1
theorem dX12_machine_21 : decode cX12_machine 21 = .ok (.invokevirtual 143, 3) := dgq (p := 1) daX12_machine_20 dbX12_machine_20.2.1
theorem dX12_machine_24 : decode cX12_machine 24 = .ok (.ireturn, 1) := dgq (p := 4) daX12_machine_20 dbX12_machine_20.2.2.1
theorem dX12_machine_25 : decode cX12_machine 25 = .ok (.aload_n 0, 1) := dgq (p := 5) daX12_machine_20 dbX12_machine_20.2.2.2.1
theorem dX12_machine_26 : decode cX12_machine 26 = .ok (.getfield 485, 3) := dgq (p := 6) daX12_machine_20 dbX12_machine_20.2.2.2.2.1
theorem dX12_machine_29 : decode cX12_machine 29 = .ok (.bipush 6, 2) := dgq (p := 9) daX12_machine_20 dbX12_machine_20.2.2.2.2.2.1
theorem dX12_machine_31 : decode cX12_machine 31 = .ok (.if_icmp .ne 9, 3) := dgq (p := 11) daX12_machine_20 dbX12_machine_20.2.2.2.2.2.2.1
theorem dX12_machine_34 : decode cX12_machine 34 = .ok (.aload_n 0, 1) := dgq (p := 14) daX12_machine_20 dbX12_machine_20.2.2.2.2.2.2.2.1
theorem dX12_machine_35 : decode cX12_machine 35 = .ok (.iconst 2, 1) := dgq (p := 15) daX12_machine_20 dbX12_machine_20.2.2.2.2.2.2.2.2.1
theorem dX12_machine_36 : decode cX12_machine 36 = .ok (.invokevirtual 143, 3) := dgq (p := 16) daX12_machine_20 dbX12_machine_20.2.2.2.2.2.2.2.2.2
def dsX12_machine_39 : ByteArray := ⟨#[172, 42, 180, 0, 41, 42, 180, 1, 229, 27, 85, 42, 180, 0, 45, 42]⟩
theorem daX12_machine_39 : agB cX12_machine dsX12_machine_39 39 := agB_of (n := 16) (by decide +kernel)
theorem dbX12_machine_39 : (decode dsX12_machine_39 0 = .ok (.ireturn, 1) ∧ okop dsX12_machine_39 0 = true) ∧ (decode dsX12_machine_39 1 = .ok (.aload_n 0, 1) ∧ okop dsX12_machine_39 1 = true) ∧ (decode dsX12_machine_39 2 = .ok (.getfield 41, 3) ∧ okop dsX12_machine_39 2 = true) ∧ (decode dsX12_machine_39 5 = .ok (.aload_n 0, 1) ∧ okop dsX12_machine_39 5 = true) ∧ (decode dsX12_machine_39 6 = .ok (.getfield 485, 3) ∧ okop dsX12_machine_39 6 = true) ∧ (decode dsX12_machine_39 9 = .ok (.iload_n 1, 1) ∧ okop dsX12_machine_39 9 = true) ∧ (decode dsX12_machine_39 10 = .ok (.castore, 1) ∧ okop dsX12_machine_39 10 = true) ∧ (decode dsX12_machine_39 11 = .ok (.aload_n 0, 1) ∧ okop dsX12_machine_39 11 = true) ∧ (decode dsX12_machine_39 12 = .ok (.getfield 45, 3) ∧ okop dsX12_machine_39 12 = true) ∧ (decode dsX12_machine_39 15 = .ok (.aload_n 0, 1) ∧ okop dsX12_machine_39 15 = true) := by decide +kernel
theorem dX12_machine_39 : decode cX12_machine 39 = .ok (.ireturn, 1) := dgq (p := 0) daX12_machine_39 dbX12_machine_39.1
theorem dX12_machine_40 : decode cX12_machine 40 = .ok (.aload_n 0, 1) := dgq (p := 1) daX12_machine_39 dbX12_machine_39.2.1
theorem dX12_machine_41 : decode cX12_machine 41 = .ok (.getfield 41, 3) := dgq (p := 2) daX12_machine_39 dbX12_machine_39.2.2.1
theorem dX12_machine_44 : decode cX12_machine 44 = .ok (.aload_n 0, 1) := dgq (p := 5) daX12_machine_39 dbX12_machine_39.2.2.2.1
theorem dX12_machine_45 : decode cX12_machine 45 = .ok (.getfield 485, 3) := dgq (p := 6) daX12_machine_39 dbX12_machine_39.2.2.2.2.1
theorem dX12_machine_48 : decode cX12_machine 48 = .ok (.iload_n 1, 1) := dgq (p := 9) daX12_machine_39 dbX12_machine_39.2.2.2.2.2.1
theorem dX12_machine_49 : decode cX12_machine 49 = .ok (.castore, 1) := dgq (p := 10) daX12_machine_39 dbX12_machine_39.2.2.2.2.2.2.1
theorem dX12_machine_50 : decode cX12_machine 50 = .ok (.aload_n 0, 1) := dgq (p := 11) daX12_machine_39 dbX12_machine_39.2.2.2.2.2.2.2.1
theorem dX12_machine_51 : decode cX12_machine 51 = .ok (.getfield 45, 3) := dgq (p := 12) daX12_machine_39 dbX12_machine_39.2.2.2.2.2.2.2.2.1
theorem dX12_machine_54 : decode cX12_machine 54 = .ok (.aload_n 0, 1) := dgq (p := 15) daX12_machine_39 dbX12_machine_39.2.2.2.2.2.2.2.2.2
def dsX12_machine_55 : ByteArray := ⟨#[180, 1, 229, 28, 79, 42, 89, 180, 1, 229, 4, 96, 181, 1, 229]⟩
theorem daX12_machine_55 : agB cX12_machine dsX12_machine_55 55 := agB_of (n := 15) (by decide +kernel)
theorem dbX12_machine_55 : (decode dsX12_machine_55 0 = .ok (.getfield 485, 3) ∧ okop dsX12_machine_55 0 = true) ∧ (decode dsX12_machine_55 3 = .ok (.iload_n 2, 1) ∧ okop dsX12_machine_55 3 = true) ∧ (decode dsX12_machine_55 4 = .ok (.iastore, 1) ∧ okop dsX12_machine_55 4 = true) ∧ (decode dsX12_machine_55 5 = .ok (.aload_n 0, 1) ∧ okop dsX12_machine_55 5 = true) ∧ (decode dsX12_machine_55 6 = .ok (.dup, 1) ∧ okop dsX12_machine_55 6 = true) ∧ (decode dsX12_machine_55 7 = .ok (.getfield 485, 3) ∧ okop dsX12_machine_55 7 = true) ∧ (decode dsX12_machine_55 10 = .ok (.iconst 1, 1) ∧ okop dsX12_machine_55 10 = true) ∧ (decode dsX12_machine_55 11 = .ok (.iadd, 1) ∧ okop dsX12_machine_55 11 = true) ∧ (decode dsX12_machine_55 12 = .ok (.putfield 485, 3) ∧ okop dsX12_machine_55 12 = true) := by decide +kernel
theorem dX12_machine_55 : decode cX12_machine 55 = .ok (.getfield 485, 3) := dgq (p := 0) daX12_machine_55 dbX12_machine_55.1
theorem dX12_machine_58 : decode cX12_machine 58 = .ok (.iload_n 2, 1) := dgq (p := 3) daX12_machine_55 dbX12_machine_55.2.1
theorem dX12_machine_59 : decode cX12_machine 59 = .ok (.iastore, 1) := dgq (p := 4) daX12_machine_55 dbX12_machine_55.2.2.1
theorem dX12_machine_60 : decode cX12_machine 60 = .ok (.aload_n 0, 1) := dgq (p := 5) daX12_machine_55 dbX12_machine_55.2.2.2.1
theorem dX12_machine_61 : decode cX12_machine 61 = .ok (.dup, 1) := dgq (p := 6) daX12_machine_55 dbX12_machine_55.2.2.2.2.1
theorem dX12_machine_62 : decode cX12_machine 62 = .ok (.getfield 485, 3) := dgq (p := 7) daX12_machine_55 dbX12_machine_55.2.2.2.2.2.1
theorem dX12_machine_65 : decode cX12_machine 65 = .ok (.iconst 1, 1) := dgq (p := 10) daX12_machine_55 dbX12_machine_55.2.2.2.2.2.2.1
theorem dX12_machine_66 : decode cX12_machine 66 = .ok (.iadd, 1) := dgq (p := 11) daX12_machine_55 dbX12_machine_55.2.2.2.2.2.2.2.1
theorem dX12_machine_67 : decode cX12_machine 67 = .ok (.putfield 485, 3) := dgq (p := 12) daX12_machine_55 dbX12_machine_55.2.2.2.2.2.2.2.2
