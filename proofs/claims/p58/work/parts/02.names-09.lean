def dsX9_grind_0 : ByteArray := ⟨#[42, 27, 182, 0, 77, 58, 4, 28, 4, 16, 99, 184, 0, 59, 29, 4]⟩
theorem daX9_grind_0 : agB cX9_grind dsX9_grind_0 0 := agB_of (n := 16) (by decide +kernel)
theorem dbX9_grind_0 : (decode dsX9_grind_0 0 = .ok (.aload_n 0, 1) ∧ okop dsX9_grind_0 0 = true) ∧ (decode dsX9_grind_0 1 = .ok (.iload_n 1, 1) ∧ okop dsX9_grind_0 1 = true) ∧ (decode dsX9_grind_0 2 = .ok (.invokevirtual 77, 3) ∧ okop dsX9_grind_0 2 = true) ∧ (decode dsX9_grind_0 5 = .ok (.astore 4, 2) ∧ okop dsX9_grind_0 5 = true) ∧ (decode dsX9_grind_0 7 = .ok (.iload_n 2, 1) ∧ okop dsX9_grind_0 7 = true) ∧ (decode dsX9_grind_0 8 = .ok (.iconst 1, 1) ∧ okop dsX9_grind_0 8 = true) ∧ (decode dsX9_grind_0 9 = .ok (.bipush 99, 2) ∧ okop dsX9_grind_0 9 = true) ∧ (decode dsX9_grind_0 11 = .ok (.invokestatic 59, 3) ∧ okop dsX9_grind_0 11 = true) ∧ (decode dsX9_grind_0 14 = .ok (.iload_n 3, 1) ∧ okop dsX9_grind_0 14 = true) ∧ (decode dsX9_grind_0 15 = .ok (.iconst 1, 1) ∧ okop dsX9_grind_0 15 = true) := by decide +kernel
theorem dX9_grind_0 : decode cX9_grind 0 = .ok (.aload_n 0, 1) := dgq (p := 0) daX9_grind_0 dbX9_grind_0.1
theorem dX9_grind_1 : decode cX9_grind 1 = .ok (.iload_n 1, 1) := dgq (p := 1) daX9_grind_0 dbX9_grind_0.2.1
theorem dX9_grind_2 : decode cX9_grind 2 = .ok (.invokevirtual 77, 3) := dgq (p := 2) daX9_grind_0 dbX9_grind_0.2.2.1
theorem dX9_grind_5 : decode cX9_grind 5 = .ok (.astore 4, 2) := dgq (p := 5) daX9_grind_0 dbX9_grind_0.2.2.2.1
theorem dX9_grind_7 : decode cX9_grind 7 = .ok (.iload_n 2, 1) := dgq (p := 7) daX9_grind_0 dbX9_grind_0.2.2.2.2.1
theorem dX9_grind_8 : decode cX9_grind 8 = .ok (.iconst 1, 1) := dgq (p := 8) daX9_grind_0 dbX9_grind_0.2.2.2.2.2.1
theorem dX9_grind_9 : decode cX9_grind 9 = .ok (.bipush 99, 2) := dgq (p := 9) daX9_grind_0 dbX9_grind_0.2.2.2.2.2.2.1
theorem dX9_grind_11 : decode cX9_grind 11 = .ok (.invokestatic 59, 3) := dgq (p := 11) daX9_grind_0 dbX9_grind_0.2.2.2.2.2.2.2.1
theorem dX9_grind_14 : decode cX9_grind 14 = .ok (.iload_n 3, 1) := dgq (p := 14) daX9_grind_0 dbX9_grind_0.2.2.2.2.2.2.2.2.1
theorem dX9_grind_15 : decode cX9_grind 15 = .ok (.iconst 1, 1) := dgq (p := 15) daX9_grind_0 dbX9_grind_0.2.2.2.2.2.2.2.2.2
def dsX9_grind_16 : ByteArray := ⟨#[17, 3, 231, 184, 0, 59, 25, 4, 182, 1, 55, 153, 0, 15, 25, 4, 180, 1, 28, 158, 0, 7, 4, 167, 0, 4]⟩
theorem daX9_grind_16 : agB cX9_grind dsX9_grind_16 16 := agB_of (n := 26) (by decide +kernel)
theorem dbX9_grind_16 : (decode dsX9_grind_16 0 = .ok (.sipush 999, 3) ∧ okop dsX9_grind_16 0 = true) ∧ (decode dsX9_grind_16 3 = .ok (.invokestatic 59, 3) ∧ okop dsX9_grind_16 3 = true) ∧ (decode dsX9_grind_16 6 = .ok (.aload 4, 2) ∧ okop dsX9_grind_16 6 = true) ∧ (decode dsX9_grind_16 8 = .ok (.invokevirtual 311, 3) ∧ okop dsX9_grind_16 8 = true) ∧ (decode dsX9_grind_16 11 = .ok (.ifCond .eq 15, 3) ∧ okop dsX9_grind_16 11 = true) ∧ (decode dsX9_grind_16 14 = .ok (.aload 4, 2) ∧ okop dsX9_grind_16 14 = true) ∧ (decode dsX9_grind_16 16 = .ok (.getfield 284, 3) ∧ okop dsX9_grind_16 16 = true) ∧ (decode dsX9_grind_16 19 = .ok (.ifCond .le 7, 3) ∧ okop dsX9_grind_16 19 = true) ∧ (decode dsX9_grind_16 22 = .ok (.iconst 1, 1) ∧ okop dsX9_grind_16 22 = true) ∧ (decode dsX9_grind_16 23 = .ok (.goto 4, 3) ∧ okop dsX9_grind_16 23 = true) := by decide +kernel
theorem dX9_grind_16 : decode cX9_grind 16 = .ok (.sipush 999, 3) := dgq (p := 0) daX9_grind_16 dbX9_grind_16.1
theorem dX9_grind_19 : decode cX9_grind 19 = .ok (.invokestatic 59, 3) := dgq (p := 3) daX9_grind_16 dbX9_grind_16.2.1
theorem dX9_grind_22 : decode cX9_grind 22 = .ok (.aload 4, 2) := dgq (p := 6) daX9_grind_16 dbX9_grind_16.2.2.1
theorem dX9_grind_24 : decode cX9_grind 24 = .ok (.invokevirtual 311, 3) := dgq (p := 8) daX9_grind_16 dbX9_grind_16.2.2.2.1
theorem dX9_grind_27 : decode cX9_grind 27 = .ok (.ifCond .eq 15, 3) := dgq (p := 11) daX9_grind_16 dbX9_grind_16.2.2.2.2.1
theorem dX9_grind_30 : decode cX9_grind 30 = .ok (.aload 4, 2) := dgq (p := 14) daX9_grind_16 dbX9_grind_16.2.2.2.2.2.1
theorem dX9_grind_32 : decode cX9_grind 32 = .ok (.getfield 284, 3) := dgq (p := 16) daX9_grind_16 dbX9_grind_16.2.2.2.2.2.2.1
theorem dX9_grind_35 : decode cX9_grind 35 = .ok (.ifCond .le 7, 3) := dgq (p := 19) daX9_grind_16 dbX9_grind_16.2.2.2.2.2.2.2.1
theorem dX9_grind_38 : decode cX9_grind 38 = .ok (.iconst 1, 1) := dgq (p := 22) daX9_grind_16 dbX9_grind_16.2.2.2.2.2.2.2.2.1
theorem dX9_grind_39 : decode cX9_grind 39 = .ok (.goto 4, 3) := dgq (p := 23) daX9_grind_16 dbX9_grind_16.2.2.2.2.2.2.2.2.2
def dsX9_grind_42 : ByteArray := ⟨#[3, 184, 0, 85, 25, 4, 28, 25, 4, 180, 1, 28, 184, 0, 181, 29, 182, 1, 71, 25, 4]⟩
theorem daX9_grind_42 : agB cX9_grind dsX9_grind_42 42 := agB_of (n := 21) (by decide +kernel)
theorem dbX9_grind_42 : (decode dsX9_grind_42 0 = .ok (.iconst 0, 1) ∧ okop dsX9_grind_42 0 = true) ∧ (decode dsX9_grind_42 1 = .ok (.invokestatic 85, 3) ∧ okop dsX9_grind_42 1 = true) ∧ (decode dsX9_grind_42 4 = .ok (.aload 4, 2) ∧ okop dsX9_grind_42 4 = true) ∧ (decode dsX9_grind_42 6 = .ok (.iload_n 2, 1) ∧ okop dsX9_grind_42 6 = true) ∧ (decode dsX9_grind_42 7 = .ok (.aload 4, 2) ∧ okop dsX9_grind_42 7 = true) ∧ (decode dsX9_grind_42 9 = .ok (.getfield 284, 3) ∧ okop dsX9_grind_42 9 = true) ∧ (decode dsX9_grind_42 12 = .ok (.invokestatic 181, 3) ∧ okop dsX9_grind_42 12 = true) ∧ (decode dsX9_grind_42 15 = .ok (.iload_n 3, 1) ∧ okop dsX9_grind_42 15 = true) ∧ (decode dsX9_grind_42 16 = .ok (.invokevirtual 327, 3) ∧ okop dsX9_grind_42 16 = true) ∧ (decode dsX9_grind_42 19 = .ok (.aload 4, 2) ∧ okop dsX9_grind_42 19 = true) := by decide +kernel
theorem dX9_grind_42 : decode cX9_grind 42 = .ok (.iconst 0, 1) := dgq (p := 0) daX9_grind_42 dbX9_grind_42.1
theorem dX9_grind_43 : decode cX9_grind 43 = .ok (.invokestatic 85, 3) := dgq (p := 1) daX9_grind_42 dbX9_grind_42.2.1
theorem dX9_grind_46 : decode cX9_grind 46 = .ok (.aload 4, 2) := dgq (p := 4) daX9_grind_42 dbX9_grind_42.2.2.1
theorem dX9_grind_48 : decode cX9_grind 48 = .ok (.iload_n 2, 1) := dgq (p := 6) daX9_grind_42 dbX9_grind_42.2.2.2.1
theorem dX9_grind_49 : decode cX9_grind 49 = .ok (.aload 4, 2) := dgq (p := 7) daX9_grind_42 dbX9_grind_42.2.2.2.2.1
theorem dX9_grind_51 : decode cX9_grind 51 = .ok (.getfield 284, 3) := dgq (p := 9) daX9_grind_42 dbX9_grind_42.2.2.2.2.2.1
theorem dX9_grind_54 : decode cX9_grind 54 = .ok (.invokestatic 181, 3) := dgq (p := 12) daX9_grind_42 dbX9_grind_42.2.2.2.2.2.2.1
theorem dX9_grind_57 : decode cX9_grind 57 = .ok (.iload_n 3, 1) := dgq (p := 15) daX9_grind_42 dbX9_grind_42.2.2.2.2.2.2.2.1
theorem dX9_grind_58 : decode cX9_grind 58 = .ok (.invokevirtual 327, 3) := dgq (p := 16) daX9_grind_42 dbX9_grind_42.2.2.2.2.2.2.2.2.1
theorem dX9_grind_61 : decode cX9_grind 61 = .ok (.aload 4, 2) := dgq (p := 19) daX9_grind_42 dbX9_grind_42.2.2.2.2.2.2.2.2.2
theorem dX9_grind_63 : decode cX9_grind 63 = .ok (.getfield 284, 3) := by decide +kernel
theorem dX9_grind_66 : decode cX9_grind 66 = .ok (.ireturn, 1) := by decide +kernel
set_option maxRecDepth 20000 in
theorem ggX9_stateOf_X9_gearAt : GoodIn wsX9_stateOf wsX9_gearAt := goodIn_ca (goodIn_ca (goodIn_q _ [9, 10, 11, 12, 13] rfl (by decide +kernel)) (goodIn_sub (fun _ h => (List.mem_cons_of_mem _ (List.mem_append_left _ (List.mem_append_right _ h)))) tg_wsX90)) (goodIn_sub (fun _ h => List.mem_cons_of_mem _ (List.mem_append_right _ h)) (by decide +kernel))
set_option maxRecDepth 20000 in
theorem gX9_stateOf_X9_gearAt : GoodIn wsX9_stateOf (wsV RX9 77 RX9 yX9_gearAt wsX9_gearAt) := goodIn_app (goodIn_q _ [5, 6, 7, 8] rfl (by decide +kernel)) ggX9_stateOf_X9_gearAt
set_option maxRecDepth 20000 in
theorem ggX9_stateOf_X2_isBroken : GoodIn wsX9_stateOf wsX2_isBroken := goodIn_ca (goodIn_q _ [18, 19, 20] rfl (by decide +kernel)) (goodIn_sub (fun _ h => (List.mem_cons_of_mem _ (List.mem_append_left _ (List.mem_append_left _ (List.mem_append_right _ h))))) tg_wsX20)
set_option maxRecDepth 20000 in
theorem gX9_stateOf_X2_isBroken : GoodIn wsX9_stateOf (wsV RX9 330 RX2 yX2_isBroken wsX2_isBroken) := goodIn_app (goodIn_q _ [14, 15, 16, 17] rfl (by decide +kernel)) ggX9_stateOf_X2_isBroken
def dsX9_stateOf_0 : ByteArray := ⟨#[42, 27, 182, 0, 77, 77, 44, 182, 1, 74, 153, 0, 6, 16, 47, 172, 44]⟩
theorem daX9_stateOf_0 : agB cX9_stateOf dsX9_stateOf_0 0 := agB_of (n := 17) (by decide +kernel)
theorem dbX9_stateOf_0 : (decode dsX9_stateOf_0 0 = .ok (.aload_n 0, 1) ∧ okop dsX9_stateOf_0 0 = true) ∧ (decode dsX9_stateOf_0 1 = .ok (.iload_n 1, 1) ∧ okop dsX9_stateOf_0 1 = true) ∧ (decode dsX9_stateOf_0 2 = .ok (.invokevirtual 77, 3) ∧ okop dsX9_stateOf_0 2 = true) ∧ (decode dsX9_stateOf_0 5 = .ok (.astore_n 2, 1) ∧ okop dsX9_stateOf_0 5 = true) ∧ (decode dsX9_stateOf_0 6 = .ok (.aload_n 2, 1) ∧ okop dsX9_stateOf_0 6 = true) ∧ (decode dsX9_stateOf_0 7 = .ok (.invokevirtual 330, 3) ∧ okop dsX9_stateOf_0 7 = true) ∧ (decode dsX9_stateOf_0 10 = .ok (.ifCond .eq 6, 3) ∧ okop dsX9_stateOf_0 10 = true) ∧ (decode dsX9_stateOf_0 13 = .ok (.bipush 47, 2) ∧ okop dsX9_stateOf_0 13 = true) ∧ (decode dsX9_stateOf_0 15 = .ok (.ireturn, 1) ∧ okop dsX9_stateOf_0 15 = true) ∧ (decode dsX9_stateOf_0 16 = .ok (.aload_n 2, 1) ∧ okop dsX9_stateOf_0 16 = true) := by decide +kernel
theorem dX9_stateOf_0 : decode cX9_stateOf 0 = .ok (.aload_n 0, 1) := dgq (p := 0) daX9_stateOf_0 dbX9_stateOf_0.1
theorem dX9_stateOf_1 : decode cX9_stateOf 1 = .ok (.iload_n 1, 1) := dgq (p := 1) daX9_stateOf_0 dbX9_stateOf_0.2.1
theorem dX9_stateOf_2 : decode cX9_stateOf 2 = .ok (.invokevirtual 77, 3) := dgq (p := 2) daX9_stateOf_0 dbX9_stateOf_0.2.2.1
theorem dX9_stateOf_5 : decode cX9_stateOf 5 = .ok (.astore_n 2, 1) := dgq (p := 5) daX9_stateOf_0 dbX9_stateOf_0.2.2.2.1
theorem dX9_stateOf_6 : decode cX9_stateOf 6 = .ok (.aload_n 2, 1) := dgq (p := 6) daX9_stateOf_0 dbX9_stateOf_0.2.2.2.2.1
theorem dX9_stateOf_7 : decode cX9_stateOf 7 = .ok (.invokevirtual 330, 3) := dgq (p := 7) daX9_stateOf_0 dbX9_stateOf_0.2.2.2.2.2.1
theorem dX9_stateOf_10 : decode cX9_stateOf 10 = .ok (.ifCond .eq 6, 3) := dgq (p := 10) daX9_stateOf_0 dbX9_stateOf_0.2.2.2.2.2.2.1
theorem dX9_stateOf_13 : decode cX9_stateOf 13 = .ok (.bipush 47, 2) := dgq (p := 13) daX9_stateOf_0 dbX9_stateOf_0.2.2.2.2.2.2.2.1
theorem dX9_stateOf_15 : decode cX9_stateOf 15 = .ok (.ireturn, 1) := dgq (p := 15) daX9_stateOf_0 dbX9_stateOf_0.2.2.2.2.2.2.2.2.1
theorem dX9_stateOf_16 : decode cX9_stateOf 16 = .ok (.aload_n 2, 1) := dgq (p := 16) daX9_stateOf_0 dbX9_stateOf_0.2.2.2.2.2.2.2.2.2
def dsX9_stateOf_17 : ByteArray := ⟨#[180, 1, 77, 153, 0, 6, 16, 120, 172, 44, 180, 1, 80, 153, 0, 6, 16, 103, 172, 44]⟩
theorem daX9_stateOf_17 : agB cX9_stateOf dsX9_stateOf_17 17 := agB_of (n := 20) (by decide +kernel)
theorem dbX9_stateOf_17 : (decode dsX9_stateOf_17 0 = .ok (.getfield 333, 3) ∧ okop dsX9_stateOf_17 0 = true) ∧ (decode dsX9_stateOf_17 3 = .ok (.ifCond .eq 6, 3) ∧ okop dsX9_stateOf_17 3 = true) ∧ (decode dsX9_stateOf_17 6 = .ok (.bipush 120, 2) ∧ okop dsX9_stateOf_17 6 = true) ∧ (decode dsX9_stateOf_17 8 = .ok (.ireturn, 1) ∧ okop dsX9_stateOf_17 8 = true) ∧ (decode dsX9_stateOf_17 9 = .ok (.aload_n 2, 1) ∧ okop dsX9_stateOf_17 9 = true) ∧ (decode dsX9_stateOf_17 10 = .ok (.getfield 336, 3) ∧ okop dsX9_stateOf_17 10 = true) ∧ (decode dsX9_stateOf_17 13 = .ok (.ifCond .eq 6, 3) ∧ okop dsX9_stateOf_17 13 = true) ∧ (decode dsX9_stateOf_17 16 = .ok (.bipush 103, 2) ∧ okop dsX9_stateOf_17 16 = true) ∧ (decode dsX9_stateOf_17 18 = .ok (.ireturn, 1) ∧ okop dsX9_stateOf_17 18 = true) ∧ (decode dsX9_stateOf_17 19 = .ok (.aload_n 2, 1) ∧ okop dsX9_stateOf_17 19 = true) := by decide +kernel
theorem dX9_stateOf_17 : decode cX9_stateOf 17 = .ok (.getfield 333, 3) := dgq (p := 0) daX9_stateOf_17 dbX9_stateOf_17.1
theorem dX9_stateOf_20 : decode cX9_stateOf 20 = .ok (.ifCond .eq 6, 3) := dgq (p := 3) daX9_stateOf_17 dbX9_stateOf_17.2.1
theorem dX9_stateOf_23 : decode cX9_stateOf 23 = .ok (.bipush 120, 2) := dgq (p := 6) daX9_stateOf_17 dbX9_stateOf_17.2.2.1
theorem dX9_stateOf_25 : decode cX9_stateOf 25 = .ok (.ireturn, 1) := dgq (p := 8) daX9_stateOf_17 dbX9_stateOf_17.2.2.2.1
theorem dX9_stateOf_26 : decode cX9_stateOf 26 = .ok (.aload_n 2, 1) := dgq (p := 9) daX9_stateOf_17 dbX9_stateOf_17.2.2.2.2.1
theorem dX9_stateOf_27 : decode cX9_stateOf 27 = .ok (.getfield 336, 3) := dgq (p := 10) daX9_stateOf_17 dbX9_stateOf_17.2.2.2.2.2.1
theorem dX9_stateOf_30 : decode cX9_stateOf 30 = .ok (.ifCond .eq 6, 3) := dgq (p := 13) daX9_stateOf_17 dbX9_stateOf_17.2.2.2.2.2.2.1
theorem dX9_stateOf_33 : decode cX9_stateOf 33 = .ok (.bipush 103, 2) := dgq (p := 16) daX9_stateOf_17 dbX9_stateOf_17.2.2.2.2.2.2.2.1
theorem dX9_stateOf_35 : decode cX9_stateOf 35 = .ok (.ireturn, 1) := dgq (p := 18) daX9_stateOf_17 dbX9_stateOf_17.2.2.2.2.2.2.2.2.1
theorem dX9_stateOf_36 : decode cX9_stateOf 36 = .ok (.aload_n 2, 1) := dgq (p := 19) daX9_stateOf_17 dbX9_stateOf_17.2.2.2.2.2.2.2.2.2
def dsX9_stateOf_37 : ByteArray := ⟨#[180, 1, 58, 153, 0, 6, 16, 104, 172, 44, 180, 0, 81, 153, 0, 8, 16, 99, 167, 0, 5, 16, 98]⟩
theorem daX9_stateOf_37 : agB cX9_stateOf dsX9_stateOf_37 37 := agB_of (n := 23) (by decide +kernel)
theorem dbX9_stateOf_37 : (decode dsX9_stateOf_37 0 = .ok (.getfield 314, 3) ∧ okop dsX9_stateOf_37 0 = true) ∧ (decode dsX9_stateOf_37 3 = .ok (.ifCond .eq 6, 3) ∧ okop dsX9_stateOf_37 3 = true) ∧ (decode dsX9_stateOf_37 6 = .ok (.bipush 104, 2) ∧ okop dsX9_stateOf_37 6 = true) ∧ (decode dsX9_stateOf_37 8 = .ok (.ireturn, 1) ∧ okop dsX9_stateOf_37 8 = true) ∧ (decode dsX9_stateOf_37 9 = .ok (.aload_n 2, 1) ∧ okop dsX9_stateOf_37 9 = true) ∧ (decode dsX9_stateOf_37 10 = .ok (.getfield 81, 3) ∧ okop dsX9_stateOf_37 10 = true) ∧ (decode dsX9_stateOf_37 13 = .ok (.ifCond .eq 8, 3) ∧ okop dsX9_stateOf_37 13 = true) ∧ (decode dsX9_stateOf_37 16 = .ok (.bipush 99, 2) ∧ okop dsX9_stateOf_37 16 = true) ∧ (decode dsX9_stateOf_37 18 = .ok (.goto 5, 3) ∧ okop dsX9_stateOf_37 18 = true) ∧ (decode dsX9_stateOf_37 21 = .ok (.bipush 98, 2) ∧ okop dsX9_stateOf_37 21 = true) := by decide +kernel
theorem dX9_stateOf_37 : decode cX9_stateOf 37 = .ok (.getfield 314, 3) := dgq (p := 0) daX9_stateOf_37 dbX9_stateOf_37.1
theorem dX9_stateOf_40 : decode cX9_stateOf 40 = .ok (.ifCond .eq 6, 3) := dgq (p := 3) daX9_stateOf_37 dbX9_stateOf_37.2.1
theorem dX9_stateOf_43 : decode cX9_stateOf 43 = .ok (.bipush 104, 2) := dgq (p := 6) daX9_stateOf_37 dbX9_stateOf_37.2.2.1
theorem dX9_stateOf_45 : decode cX9_stateOf 45 = .ok (.ireturn, 1) := dgq (p := 8) daX9_stateOf_37 dbX9_stateOf_37.2.2.2.1
theorem dX9_stateOf_46 : decode cX9_stateOf 46 = .ok (.aload_n 2, 1) := dgq (p := 9) daX9_stateOf_37 dbX9_stateOf_37.2.2.2.2.1
theorem dX9_stateOf_47 : decode cX9_stateOf 47 = .ok (.getfield 81, 3) := dgq (p := 10) daX9_stateOf_37 dbX9_stateOf_37.2.2.2.2.2.1
theorem dX9_stateOf_50 : decode cX9_stateOf 50 = .ok (.ifCond .eq 8, 3) := dgq (p := 13) daX9_stateOf_37 dbX9_stateOf_37.2.2.2.2.2.2.1
theorem dX9_stateOf_53 : decode cX9_stateOf 53 = .ok (.bipush 99, 2) := dgq (p := 16) daX9_stateOf_37 dbX9_stateOf_37.2.2.2.2.2.2.2.1
theorem dX9_stateOf_55 : decode cX9_stateOf 55 = .ok (.goto 5, 3) := dgq (p := 18) daX9_stateOf_37 dbX9_stateOf_37.2.2.2.2.2.2.2.2.1
theorem dX9_stateOf_58 : decode cX9_stateOf 58 = .ok (.bipush 98, 2) := dgq (p := 21) daX9_stateOf_37 dbX9_stateOf_37.2.2.2.2.2.2.2.2.2
theorem dX9_stateOf_60 : decode cX9_stateOf 60 = .ok (.ireturn, 1) := by decide +kernel
set_option maxRecDepth 20000 in
theorem ggX9_chart_X9_gearAt : GoodIn wsX9_chart wsX9_gearAt := goodIn_ca (goodIn_ca (goodIn_q _ [7, 8, 9, 10, 11] rfl (by decide +kernel)) (goodIn_sub (fun _ h => (List.mem_cons_of_mem _ (List.mem_append_left _ (List.mem_append_left _ (List.mem_append_left _ (List.mem_append_left _ (List.mem_append_left _ (List.mem_append_right _ h)))))))) tg_wsX90)) (goodIn_sub (fun _ h => List.mem_cons_of_mem _ (List.mem_append_left _ (List.mem_append_left _ (List.mem_append_left _ (List.mem_append_right _ h))))) (by decide +kernel))
set_option maxRecDepth 20000 in
theorem gX9_chart_X9_gearAt : GoodIn wsX9_chart (wsV RX9 77 RX9 yX9_gearAt wsX9_gearAt) := goodIn_app (goodIn_q _ [3, 4, 5, 6] rfl (by decide +kernel)) ggX9_chart_X9_gearAt
set_option maxRecDepth 20000 in
theorem ggX9_chart_X9_needRange : GoodIn wsX9_chart wsX9_needRange := goodIn_ca (goodIn_q _ [14, 15, 16] rfl (by decide +kernel)) (goodIn_sub (fun _ h => List.mem_cons_of_mem _ (List.mem_append_left _ (List.mem_append_left _ (List.mem_append_right _ h)))) (by decide +kernel))
set_option maxRecDepth 20000 in
theorem gX9_chart_X9_needRange : GoodIn wsX9_chart (va_wsS RX9 59 yX9_needRange wsX9_needRange) := goodIn_app (goodIn_q _ [12, 13, 6] rfl (by decide +kernel)) ggX9_chart_X9_needRange
set_option maxRecDepth 20000 in
theorem ggX9_chart_X1_tell : GoodIn wsX9_chart wsX1_tell := goodIn_ca (goodIn_ca (goodIn_ca (goodIn_q _ [21, 22, 23, 24, 25, 20, 26, 27, 28, 29, 30, 31, 32, 33, 34, 35, 36, 37, 38, 39] rfl (by decide +kernel)) (goodIn_sub (fun _ h => (List.mem_cons_of_mem _ (List.mem_append_left _ (List.mem_append_left _ (List.mem_append_left _ (List.mem_append_left _ (List.mem_append_right _ h))))))) tg_wsX10)) (goodIn_sub (fun _ h => List.mem_cons_of_mem _ (List.mem_append_left _ (List.mem_append_right _ h))) (by decide +kernel))) (goodIn_sub (fun _ h => List.mem_cons_of_mem _ (List.mem_append_right _ h)) (by decide +kernel))
set_option maxRecDepth 20000 in
theorem gX9_chart_X1_tell : GoodIn wsX9_chart (wsV RX9 343 RX1 yX1_tell wsX1_tell) := goodIn_app (goodIn_q _ [17, 18, 19, 20] rfl (by decide +kernel)) ggX9_chart_X1_tell
def dsX9_chart_0 : ByteArray := ⟨#[42, 27, 182, 0, 77, 58, 4, 28, 3, 25, 4, 180, 0, 100, 4, 100]⟩
theorem daX9_chart_0 : agB cX9_chart dsX9_chart_0 0 := agB_of (n := 16) (by decide +kernel)
theorem dbX9_chart_0 : (decode dsX9_chart_0 0 = .ok (.aload_n 0, 1) ∧ okop dsX9_chart_0 0 = true) ∧ (decode dsX9_chart_0 1 = .ok (.iload_n 1, 1) ∧ okop dsX9_chart_0 1 = true) ∧ (decode dsX9_chart_0 2 = .ok (.invokevirtual 77, 3) ∧ okop dsX9_chart_0 2 = true) ∧ (decode dsX9_chart_0 5 = .ok (.astore 4, 2) ∧ okop dsX9_chart_0 5 = true) ∧ (decode dsX9_chart_0 7 = .ok (.iload_n 2, 1) ∧ okop dsX9_chart_0 7 = true) ∧ (decode dsX9_chart_0 8 = .ok (.iconst 0, 1) ∧ okop dsX9_chart_0 8 = true) ∧ (decode dsX9_chart_0 9 = .ok (.aload 4, 2) ∧ okop dsX9_chart_0 9 = true) ∧ (decode dsX9_chart_0 11 = .ok (.getfield 100, 3) ∧ okop dsX9_chart_0 11 = true) ∧ (decode dsX9_chart_0 14 = .ok (.iconst 1, 1) ∧ okop dsX9_chart_0 14 = true) ∧ (decode dsX9_chart_0 15 = .ok (.isub, 1) ∧ okop dsX9_chart_0 15 = true) := by decide +kernel
theorem dX9_chart_0 : decode cX9_chart 0 = .ok (.aload_n 0, 1) := dgq (p := 0) daX9_chart_0 dbX9_chart_0.1
theorem dX9_chart_1 : decode cX9_chart 1 = .ok (.iload_n 1, 1) := dgq (p := 1) daX9_chart_0 dbX9_chart_0.2.1
theorem dX9_chart_2 : decode cX9_chart 2 = .ok (.invokevirtual 77, 3) := dgq (p := 2) daX9_chart_0 dbX9_chart_0.2.2.1
theorem dX9_chart_5 : decode cX9_chart 5 = .ok (.astore 4, 2) := dgq (p := 5) daX9_chart_0 dbX9_chart_0.2.2.2.1
theorem dX9_chart_7 : decode cX9_chart 7 = .ok (.iload_n 2, 1) := dgq (p := 7) daX9_chart_0 dbX9_chart_0.2.2.2.2.1
theorem dX9_chart_8 : decode cX9_chart 8 = .ok (.iconst 0, 1) := dgq (p := 8) daX9_chart_0 dbX9_chart_0.2.2.2.2.2.1
theorem dX9_chart_9 : decode cX9_chart 9 = .ok (.aload 4, 2) := dgq (p := 9) daX9_chart_0 dbX9_chart_0.2.2.2.2.2.2.1
theorem dX9_chart_11 : decode cX9_chart 11 = .ok (.getfield 100, 3) := dgq (p := 11) daX9_chart_0 dbX9_chart_0.2.2.2.2.2.2.2.1
theorem dX9_chart_14 : decode cX9_chart 14 = .ok (.iconst 1, 1) := dgq (p := 14) daX9_chart_0 dbX9_chart_0.2.2.2.2.2.2.2.2.1
theorem dX9_chart_15 : decode cX9_chart 15 = .ok (.isub, 1) := dgq (p := 15) daX9_chart_0 dbX9_chart_0.2.2.2.2.2.2.2.2.2
def dsX9_chart_16 : ByteArray := ⟨#[184, 0, 59, 29, 17, 254, 12, 17, 1, 244, 184, 0, 59, 25, 4, 180, 1, 83, 28, 29, 182, 1, 87]⟩
theorem daX9_chart_16 : agB cX9_chart dsX9_chart_16 16 := agB_of (n := 23) (by decide +kernel)
theorem dbX9_chart_16 : (decode dsX9_chart_16 0 = .ok (.invokestatic 59, 3) ∧ okop dsX9_chart_16 0 = true) ∧ (decode dsX9_chart_16 3 = .ok (.iload_n 3, 1) ∧ okop dsX9_chart_16 3 = true) ∧ (decode dsX9_chart_16 4 = .ok (.sipush (-500), 3) ∧ okop dsX9_chart_16 4 = true) ∧ (decode dsX9_chart_16 7 = .ok (.sipush 500, 3) ∧ okop dsX9_chart_16 7 = true) ∧ (decode dsX9_chart_16 10 = .ok (.invokestatic 59, 3) ∧ okop dsX9_chart_16 10 = true) ∧ (decode dsX9_chart_16 13 = .ok (.aload 4, 2) ∧ okop dsX9_chart_16 13 = true) ∧ (decode dsX9_chart_16 15 = .ok (.getfield 339, 3) ∧ okop dsX9_chart_16 15 = true) ∧ (decode dsX9_chart_16 18 = .ok (.iload_n 2, 1) ∧ okop dsX9_chart_16 18 = true) ∧ (decode dsX9_chart_16 19 = .ok (.iload_n 3, 1) ∧ okop dsX9_chart_16 19 = true) ∧ (decode dsX9_chart_16 20 = .ok (.invokevirtual 343, 3) ∧ okop dsX9_chart_16 20 = true) := by decide +kernel
theorem dX9_chart_16 : decode cX9_chart 16 = .ok (.invokestatic 59, 3) := dgq (p := 0) daX9_chart_16 dbX9_chart_16.1
theorem dX9_chart_19 : decode cX9_chart 19 = .ok (.iload_n 3, 1) := dgq (p := 3) daX9_chart_16 dbX9_chart_16.2.1
theorem dX9_chart_20 : decode cX9_chart 20 = .ok (.sipush (-500), 3) := dgq (p := 4) daX9_chart_16 dbX9_chart_16.2.2.1
theorem dX9_chart_23 : decode cX9_chart 23 = .ok (.sipush 500, 3) := dgq (p := 7) daX9_chart_16 dbX9_chart_16.2.2.2.1
theorem dX9_chart_26 : decode cX9_chart 26 = .ok (.invokestatic 59, 3) := dgq (p := 10) daX9_chart_16 dbX9_chart_16.2.2.2.2.1
theorem dX9_chart_29 : decode cX9_chart 29 = .ok (.aload 4, 2) := dgq (p := 13) daX9_chart_16 dbX9_chart_16.2.2.2.2.2.1
theorem dX9_chart_31 : decode cX9_chart 31 = .ok (.getfield 339, 3) := dgq (p := 15) daX9_chart_16 dbX9_chart_16.2.2.2.2.2.2.1
theorem dX9_chart_34 : decode cX9_chart 34 = .ok (.iload_n 2, 1) := dgq (p := 18) daX9_chart_16 dbX9_chart_16.2.2.2.2.2.2.2.1
theorem dX9_chart_35 : decode cX9_chart 35 = .ok (.iload_n 3, 1) := dgq (p := 19) daX9_chart_16 dbX9_chart_16.2.2.2.2.2.2.2.2.1
theorem dX9_chart_36 : decode cX9_chart 36 = .ok (.invokevirtual 343, 3) := dgq (p := 20) daX9_chart_16 dbX9_chart_16.2.2.2.2.2.2.2.2.2
theorem dX9_chart_39 : decode cX9_chart 39 = .ok (.ireturn, 1) := by decide +kernel
set_option maxRecDepth 20000 in
theorem ggX9_total_X9_gearAt : GoodIn wsX9_total wsX9_gearAt := goodIn_ca (goodIn_ca (goodIn_q _ [7, 8, 9, 10, 11] rfl (by decide +kernel)) (goodIn_sub (fun _ h => (List.mem_cons_of_mem _ (List.mem_append_left _ (List.mem_append_right _ h)))) tg_wsX90)) (goodIn_sub (fun _ h => List.mem_cons_of_mem _ (List.mem_append_right _ h)) (by decide +kernel))
set_option maxRecDepth 20000 in
theorem gX9_total_X9_gearAt : GoodIn wsX9_total (wsV RX9 77 RX9 yX9_gearAt wsX9_gearAt) := goodIn_app (goodIn_q _ [3, 4, 5, 6] rfl (by decide +kernel)) ggX9_total_X9_gearAt
def dsX9_total_0 : ByteArray := ⟨#[42, 27, 182, 0, 77, 180, 1, 83, 180, 1, 92, 172]⟩
theorem daX9_total_0 : agB cX9_total dsX9_total_0 0 := agB_of (n := 12) (by decide +kernel)
theorem dbX9_total_0 : (decode dsX9_total_0 0 = .ok (.aload_n 0, 1) ∧ okop dsX9_total_0 0 = true) ∧ (decode dsX9_total_0 1 = .ok (.iload_n 1, 1) ∧ okop dsX9_total_0 1 = true) ∧ (decode dsX9_total_0 2 = .ok (.invokevirtual 77, 3) ∧ okop dsX9_total_0 2 = true) ∧ (decode dsX9_total_0 5 = .ok (.getfield 339, 3) ∧ okop dsX9_total_0 5 = true) ∧ (decode dsX9_total_0 8 = .ok (.getfield 348, 3) ∧ okop dsX9_total_0 8 = true) ∧ (decode dsX9_total_0 11 = .ok (.ireturn, 1) ∧ okop dsX9_total_0 11 = true) := by decide +kernel
theorem dX9_total_0 : decode cX9_total 0 = .ok (.aload_n 0, 1) := dgq (p := 0) daX9_total_0 dbX9_total_0.1
theorem dX9_total_1 : decode cX9_total 1 = .ok (.iload_n 1, 1) := dgq (p := 1) daX9_total_0 dbX9_total_0.2.1
theorem dX9_total_2 : decode cX9_total 2 = .ok (.invokevirtual 77, 3) := dgq (p := 2) daX9_total_0 dbX9_total_0.2.2.1
theorem dX9_total_5 : decode cX9_total 5 = .ok (.getfield 339, 3) := dgq (p := 5) daX9_total_0 dbX9_total_0.2.2.2.1
theorem dX9_total_8 : decode cX9_total 8 = .ok (.getfield 348, 3) := dgq (p := 8) daX9_total_0 dbX9_total_0.2.2.2.2.1
theorem dX9_total_11 : decode cX9_total 11 = .ok (.ireturn, 1) := dgq (p := 11) daX9_total_0 dbX9_total_0.2.2.2.2.2
set_option maxRecDepth 20000 in
theorem ggX9_grade_X9_gearAt : GoodIn wsX9_grade wsX9_gearAt := goodIn_ca (goodIn_ca (goodIn_q _ [5, 6, 7, 8, 9] rfl (by decide +kernel)) (goodIn_sub (fun _ h => (List.mem_cons_of_mem _ (List.mem_append_left _ (List.mem_append_left _ (List.mem_append_left _ (List.mem_append_left _ (List.mem_append_right _ h))))))) tg_wsX90)) (goodIn_sub (fun _ h => List.mem_cons_of_mem _ (List.mem_append_left _ (List.mem_append_right _ h))) (by decide +kernel))
set_option maxRecDepth 20000 in
theorem gX9_grade_X9_gearAt : GoodIn wsX9_grade (wsV RX9 77 RX9 yX9_gearAt wsX9_gearAt) := goodIn_app (goodIn_q _ [1, 2, 3, 4] rfl (by decide +kernel)) ggX9_grade_X9_gearAt
set_option maxRecDepth 20000 in
theorem ggX9_grade_X2_worstGrade : GoodIn wsX9_grade wsX2_worstGrade := goodIn_ca (goodIn_ca (goodIn_ca (goodIn_q _ [14, 15, 16, 17, 18, 19, 20, 21, 22, 23, 24, 25, 26, 27, 28, 29, 30, 31, 32, 4, 33, 34] rfl (by decide +kernel)) (goodIn_sub (fun _ h => (List.mem_cons_of_mem _ (List.mem_append_left _ (List.mem_append_left _ (List.mem_append_left _ (List.mem_append_right _ h)))))) tg_wsX20)) (goodIn_sub (fun _ h => (List.mem_cons_of_mem _ (List.mem_append_left _ (List.mem_append_left _ (List.mem_append_right _ h))))) tg_wsX10)) (goodIn_sub (fun _ h => List.mem_cons_of_mem _ (List.mem_append_right _ h)) (by decide +kernel))
set_option maxRecDepth 20000 in
theorem gX9_grade_X2_worstGrade : GoodIn wsX9_grade (wsV RX9 351 RX2 yX2_worstGrade wsX2_worstGrade) := goodIn_app (goodIn_q _ [10, 11, 12, 13] rfl (by decide +kernel)) ggX9_grade_X2_worstGrade
def dsX9_grade_0 : ByteArray := ⟨#[42, 27, 182, 0, 77, 182, 1, 95, 172]⟩
theorem daX9_grade_0 : agB cX9_grade dsX9_grade_0 0 := agB_of (n := 9) (by decide +kernel)
theorem dbX9_grade_0 : (decode dsX9_grade_0 0 = .ok (.aload_n 0, 1) ∧ okop dsX9_grade_0 0 = true) ∧ (decode dsX9_grade_0 1 = .ok (.iload_n 1, 1) ∧ okop dsX9_grade_0 1 = true) ∧ (decode dsX9_grade_0 2 = .ok (.invokevirtual 77, 3) ∧ okop dsX9_grade_0 2 = true) ∧ (decode dsX9_grade_0 5 = .ok (.invokevirtual 351, 3) ∧ okop dsX9_grade_0 5 = true) ∧ (decode dsX9_grade_0 8 = .ok (.ireturn, 1) ∧ okop dsX9_grade_0 8 = true) := by decide +kernel
theorem dX9_grade_0 : decode cX9_grade 0 = .ok (.aload_n 0, 1) := dgq (p := 0) daX9_grade_0 dbX9_grade_0.1
theorem dX9_grade_1 : decode cX9_grade 1 = .ok (.iload_n 1, 1) := dgq (p := 1) daX9_grade_0 dbX9_grade_0.2.1
theorem dX9_grade_2 : decode cX9_grade 2 = .ok (.invokevirtual 77, 3) := dgq (p := 2) daX9_grade_0 dbX9_grade_0.2.2.1
theorem dX9_grade_5 : decode cX9_grade 5 = .ok (.invokevirtual 351, 3) := dgq (p := 5) daX9_grade_0 dbX9_grade_0.2.2.2.1
theorem dX9_grade_8 : decode cX9_grade 8 = .ok (.ireturn, 1) := dgq (p := 8) daX9_grade_0 dbX9_grade_0.2.2.2.2
set_option maxRecDepth 20000 in
theorem ggX9_part_X9_gearAt : GoodIn wsX9_part wsX9_gearAt := goodIn_ca (goodIn_ca (goodIn_q _ [9, 10, 11, 12, 13] rfl (by decide +kernel)) (goodIn_sub (fun _ h => (List.mem_cons_of_mem _ (List.mem_append_left _ (List.mem_append_left _ (List.mem_append_left _ (List.mem_append_left _ (List.mem_append_left _ (List.mem_append_right _ h)))))))) tg_wsX90)) (goodIn_sub (fun _ h => List.mem_cons_of_mem _ (List.mem_append_left _ (List.mem_append_right _ h))) (by decide +kernel))
set_option maxRecDepth 20000 in
theorem gX9_part_X9_gearAt : GoodIn wsX9_part (wsV RX9 77 RX9 yX9_gearAt wsX9_gearAt) := goodIn_app (goodIn_q _ [5, 6, 7, 8] rfl (by decide +kernel)) ggX9_part_X9_gearAt
set_option maxRecDepth 20000 in
theorem ggX9_part_X1_partOf : GoodIn wsX9_part wsX1_partOf := goodIn_ca (goodIn_ca (goodIn_ca (goodIn_q _ [18, 19, 20, 21, 22, 23, 24, 25, 26, 27, 28, 29, 17, 30] rfl (by decide +kernel)) (goodIn_sub (fun _ h => (List.mem_cons_of_mem _ (List.mem_append_left _ (List.mem_append_left _ (List.mem_append_left _ (List.mem_append_left _ (List.mem_append_right _ h))))))) tg_wsX10)) (goodIn_sub (fun _ h => List.mem_cons_of_mem _ (List.mem_append_left _ (List.mem_append_left _ (List.mem_append_left _ (List.mem_append_right _ h))))) (by decide +kernel))) (goodIn_sub (fun _ h => List.mem_cons_of_mem _ (List.mem_append_right _ h)) (by decide +kernel))
set_option maxRecDepth 20000 in
theorem gX9_part_X1_partOf : GoodIn wsX9_part (wsV RX9 356 RX1 yX1_partOf wsX1_partOf) := goodIn_app (goodIn_q _ [14, 15, 16, 17] rfl (by decide +kernel)) ggX9_part_X1_partOf
def dsX9_part_0 : ByteArray := ⟨#[42, 27, 182, 0, 77, 78, 28, 4, 161, 0, 20, 28, 45, 180, 0, 100]⟩
theorem daX9_part_0 : agB cX9_part dsX9_part_0 0 := agB_of (n := 16) (by decide +kernel)
theorem dbX9_part_0 : (decode dsX9_part_0 0 = .ok (.aload_n 0, 1) ∧ okop dsX9_part_0 0 = true) ∧ (decode dsX9_part_0 1 = .ok (.iload_n 1, 1) ∧ okop dsX9_part_0 1 = true) ∧ (decode dsX9_part_0 2 = .ok (.invokevirtual 77, 3) ∧ okop dsX9_part_0 2 = true) ∧ (decode dsX9_part_0 5 = .ok (.astore_n 3, 1) ∧ okop dsX9_part_0 5 = true) ∧ (decode dsX9_part_0 6 = .ok (.iload_n 2, 1) ∧ okop dsX9_part_0 6 = true) ∧ (decode dsX9_part_0 7 = .ok (.iconst 1, 1) ∧ okop dsX9_part_0 7 = true) ∧ (decode dsX9_part_0 8 = .ok (.if_icmp .lt 20, 3) ∧ okop dsX9_part_0 8 = true) ∧ (decode dsX9_part_0 11 = .ok (.iload_n 2, 1) ∧ okop dsX9_part_0 11 = true) ∧ (decode dsX9_part_0 12 = .ok (.aload_n 3, 1) ∧ okop dsX9_part_0 12 = true) ∧ (decode dsX9_part_0 13 = .ok (.getfield 100, 3) ∧ okop dsX9_part_0 13 = true) := by decide +kernel
theorem dX9_part_0 : decode cX9_part 0 = .ok (.aload_n 0, 1) := dgq (p := 0) daX9_part_0 dbX9_part_0.1
theorem dX9_part_1 : decode cX9_part 1 = .ok (.iload_n 1, 1) := dgq (p := 1) daX9_part_0 dbX9_part_0.2.1
theorem dX9_part_2 : decode cX9_part 2 = .ok (.invokevirtual 77, 3) := dgq (p := 2) daX9_part_0 dbX9_part_0.2.2.1
theorem dX9_part_5 : decode cX9_part 5 = .ok (.astore_n 3, 1) := dgq (p := 5) daX9_part_0 dbX9_part_0.2.2.2.1
theorem dX9_part_6 : decode cX9_part 6 = .ok (.iload_n 2, 1) := dgq (p := 6) daX9_part_0 dbX9_part_0.2.2.2.2.1
theorem dX9_part_7 : decode cX9_part 7 = .ok (.iconst 1, 1) := dgq (p := 7) daX9_part_0 dbX9_part_0.2.2.2.2.2.1
theorem dX9_part_8 : decode cX9_part 8 = .ok (.if_icmp .lt 20, 3) := dgq (p := 8) daX9_part_0 dbX9_part_0.2.2.2.2.2.2.1
theorem dX9_part_11 : decode cX9_part 11 = .ok (.iload_n 2, 1) := dgq (p := 11) daX9_part_0 dbX9_part_0.2.2.2.2.2.2.2.1
theorem dX9_part_12 : decode cX9_part 12 = .ok (.aload_n 3, 1) := dgq (p := 12) daX9_part_0 dbX9_part_0.2.2.2.2.2.2.2.2.1
theorem dX9_part_13 : decode cX9_part 13 = .ok (.getfield 100, 3) := dgq (p := 13) daX9_part_0 dbX9_part_0.2.2.2.2.2.2.2.2.2
def dsX9_part_16 : ByteArray := ⟨#[163, 0, 12, 45, 180, 0, 100, 28, 112, 153, 0, 14, 187, 0, 110, 89, 19, 1, 98, 183, 0, 114]⟩
theorem daX9_part_16 : agB cX9_part dsX9_part_16 16 := agB_of (n := 22) (by decide +kernel)
theorem dbX9_part_16 : (decode dsX9_part_16 0 = .ok (.if_icmp .gt 12, 3) ∧ okop dsX9_part_16 0 = true) ∧ (decode dsX9_part_16 3 = .ok (.aload_n 3, 1) ∧ okop dsX9_part_16 3 = true) ∧ (decode dsX9_part_16 4 = .ok (.getfield 100, 3) ∧ okop dsX9_part_16 4 = true) ∧ (decode dsX9_part_16 7 = .ok (.iload_n 2, 1) ∧ okop dsX9_part_16 7 = true) ∧ (decode dsX9_part_16 8 = .ok (.irem, 1) ∧ okop dsX9_part_16 8 = true) ∧ (decode dsX9_part_16 9 = .ok (.ifCond .eq 14, 3) ∧ okop dsX9_part_16 9 = true) ∧ (decode dsX9_part_16 12 = .ok (.new 110, 3) ∧ okop dsX9_part_16 12 = true) ∧ (decode dsX9_part_16 15 = .ok (.dup, 1) ∧ okop dsX9_part_16 15 = true) ∧ (decode dsX9_part_16 16 = .ok (.ldc_w 354, 3) ∧ okop dsX9_part_16 16 = true) ∧ (decode dsX9_part_16 19 = .ok (.invokespecial 114, 3) ∧ okop dsX9_part_16 19 = true) := by decide +kernel
theorem dX9_part_16 : decode cX9_part 16 = .ok (.if_icmp .gt 12, 3) := dgq (p := 0) daX9_part_16 dbX9_part_16.1
theorem dX9_part_19 : decode cX9_part 19 = .ok (.aload_n 3, 1) := dgq (p := 3) daX9_part_16 dbX9_part_16.2.1
theorem dX9_part_20 : decode cX9_part 20 = .ok (.getfield 100, 3) := dgq (p := 4) daX9_part_16 dbX9_part_16.2.2.1
theorem dX9_part_23 : decode cX9_part 23 = .ok (.iload_n 2, 1) := dgq (p := 7) daX9_part_16 dbX9_part_16.2.2.2.1
theorem dX9_part_24 : decode cX9_part 24 = .ok (.irem, 1) := dgq (p := 8) daX9_part_16 dbX9_part_16.2.2.2.2.1
theorem dX9_part_25 : decode cX9_part 25 = .ok (.ifCond .eq 14, 3) := dgq (p := 9) daX9_part_16 dbX9_part_16.2.2.2.2.2.1
theorem dX9_part_28 : decode cX9_part 28 = .ok (.new 110, 3) := dgq (p := 12) daX9_part_16 dbX9_part_16.2.2.2.2.2.2.1
theorem dX9_part_31 : decode cX9_part 31 = .ok (.dup, 1) := dgq (p := 15) daX9_part_16 dbX9_part_16.2.2.2.2.2.2.2.1
theorem dX9_part_32 : decode cX9_part 32 = .ok (.ldc_w 354, 3) := dgq (p := 16) daX9_part_16 dbX9_part_16.2.2.2.2.2.2.2.2.1
theorem dX9_part_35 : decode cX9_part 35 = .ok (.invokespecial 114, 3) := dgq (p := 19) daX9_part_16 dbX9_part_16.2.2.2.2.2.2.2.2.2
def dsX9_part_38 : ByteArray := ⟨#[191, 45, 180, 1, 83, 28, 182, 1, 100, 172]⟩
theorem daX9_part_38 : agB cX9_part dsX9_part_38 38 := agB_of (n := 10) (by decide +kernel)
theorem dbX9_part_38 : (decode dsX9_part_38 0 = .ok (.athrow, 1) ∧ okop dsX9_part_38 0 = true) ∧ (decode dsX9_part_38 1 = .ok (.aload_n 3, 1) ∧ okop dsX9_part_38 1 = true) ∧ (decode dsX9_part_38 2 = .ok (.getfield 339, 3) ∧ okop dsX9_part_38 2 = true) ∧ (decode dsX9_part_38 5 = .ok (.iload_n 2, 1) ∧ okop dsX9_part_38 5 = true) ∧ (decode dsX9_part_38 6 = .ok (.invokevirtual 356, 3) ∧ okop dsX9_part_38 6 = true) ∧ (decode dsX9_part_38 9 = .ok (.ireturn, 1) ∧ okop dsX9_part_38 9 = true) := by decide +kernel
theorem dX9_part_38 : decode cX9_part 38 = .ok (.athrow, 1) := dgq (p := 0) daX9_part_38 dbX9_part_38.1
theorem dX9_part_39 : decode cX9_part 39 = .ok (.aload_n 3, 1) := dgq (p := 1) daX9_part_38 dbX9_part_38.2.1
theorem dX9_part_40 : decode cX9_part 40 = .ok (.getfield 339, 3) := dgq (p := 2) daX9_part_38 dbX9_part_38.2.2.1
theorem dX9_part_43 : decode cX9_part 43 = .ok (.iload_n 2, 1) := dgq (p := 5) daX9_part_38 dbX9_part_38.2.2.2.1
theorem dX9_part_44 : decode cX9_part 44 = .ok (.invokevirtual 356, 3) := dgq (p := 6) daX9_part_38 dbX9_part_38.2.2.2.2.1
theorem dX9_part_47 : decode cX9_part 47 = .ok (.ireturn, 1) := dgq (p := 9) daX9_part_38 dbX9_part_38.2.2.2.2.2
set_option maxRecDepth 20000 in
theorem ggX9_cause_X9_gearAt : GoodIn wsX9_cause wsX9_gearAt := goodIn_ca (goodIn_ca (goodIn_q _ [14, 15, 16, 17, 18] rfl (by decide +kernel)) (goodIn_sub (fun _ h => (List.mem_cons_of_mem _ (List.mem_append_left _ (List.mem_append_left _ (List.mem_append_left _ (List.mem_append_left _ (List.mem_append_right _ h))))))) tg_wsX90)) (goodIn_sub (fun _ h => List.mem_cons_of_mem _ (List.mem_append_left _ (List.mem_append_left _ (List.mem_append_right _ h)))) (by decide +kernel))
set_option maxRecDepth 20000 in
theorem gX9_cause_X9_gearAt : GoodIn wsX9_cause (wsV RX9 77 RX9 yX9_gearAt wsX9_gearAt) := goodIn_app (goodIn_q _ [10, 11, 12, 13] rfl (by decide +kernel)) ggX9_cause_X9_gearAt
set_option maxRecDepth 20000 in
theorem ggX9_cause_X9_commonDivisor : GoodIn wsX9_cause wsX9_commonDivisor := goodIn_ca (goodIn_q _ [21, 6, 7, 8, 9] rfl (by decide +kernel)) (goodIn_sub (fun _ h => List.mem_cons_of_mem _ (List.mem_append_left _ (List.mem_append_right _ h))) (by decide +kernel))
set_option maxRecDepth 20000 in
theorem gX9_cause_X9_commonDivisor : GoodIn wsX9_cause (va_wsS RX9 359 yX9_commonDivisor wsX9_commonDivisor) := goodIn_app (goodIn_q _ [19, 20, 13] rfl (by decide +kernel)) ggX9_cause_X9_commonDivisor
set_option maxRecDepth 20000 in
theorem ggX9_cause_X1_partOf : GoodIn wsX9_cause wsX1_partOf := goodIn_ca (goodIn_ca (goodIn_ca (goodIn_q _ [26, 27, 28, 7, 8, 9, 29, 30, 31, 32, 33, 34, 25, 35] rfl (by decide +kernel)) (goodIn_sub (fun _ h => (List.mem_cons_of_mem _ (List.mem_append_left _ (List.mem_append_left _ (List.mem_append_left _ (List.mem_append_right _ h)))))) tg_wsX10)) (goodIn_sub (fun _ h => List.mem_cons_of_mem _ (List.mem_append_left _ (List.mem_append_right _ h))) (by decide +kernel))) (goodIn_sub (fun _ h => List.mem_cons_of_mem _ (List.mem_append_right _ h)) (by decide +kernel))
set_option maxRecDepth 20000 in
theorem gX9_cause_X1_partOf : GoodIn wsX9_cause (wsV RX9 356 RX1 yX1_partOf wsX1_partOf) := goodIn_app (goodIn_q _ [22, 23, 24, 25] rfl (by decide +kernel)) ggX9_cause_X1_partOf
def dsX9_cause_0 : ByteArray := ⟨#[42, 27, 182, 0, 77, 77, 44, 180, 1, 83, 42, 180, 0, 52, 44, 180, 0, 100]⟩
theorem daX9_cause_0 : agB cX9_cause dsX9_cause_0 0 := agB_of (n := 18) (by decide +kernel)
theorem dbX9_cause_0 : (decode dsX9_cause_0 0 = .ok (.aload_n 0, 1) ∧ okop dsX9_cause_0 0 = true) ∧ (decode dsX9_cause_0 1 = .ok (.iload_n 1, 1) ∧ okop dsX9_cause_0 1 = true) ∧ (decode dsX9_cause_0 2 = .ok (.invokevirtual 77, 3) ∧ okop dsX9_cause_0 2 = true) ∧ (decode dsX9_cause_0 5 = .ok (.astore_n 2, 1) ∧ okop dsX9_cause_0 5 = true) ∧ (decode dsX9_cause_0 6 = .ok (.aload_n 2, 1) ∧ okop dsX9_cause_0 6 = true) ∧ (decode dsX9_cause_0 7 = .ok (.getfield 339, 3) ∧ okop dsX9_cause_0 7 = true) ∧ (decode dsX9_cause_0 10 = .ok (.aload_n 0, 1) ∧ okop dsX9_cause_0 10 = true) ∧ (decode dsX9_cause_0 11 = .ok (.getfield 52, 3) ∧ okop dsX9_cause_0 11 = true) ∧ (decode dsX9_cause_0 14 = .ok (.aload_n 2, 1) ∧ okop dsX9_cause_0 14 = true) ∧ (decode dsX9_cause_0 15 = .ok (.getfield 100, 3) ∧ okop dsX9_cause_0 15 = true) := by decide +kernel
theorem dX9_cause_0 : decode cX9_cause 0 = .ok (.aload_n 0, 1) := dgq (p := 0) daX9_cause_0 dbX9_cause_0.1
theorem dX9_cause_1 : decode cX9_cause 1 = .ok (.iload_n 1, 1) := dgq (p := 1) daX9_cause_0 dbX9_cause_0.2.1
theorem dX9_cause_2 : decode cX9_cause 2 = .ok (.invokevirtual 77, 3) := dgq (p := 2) daX9_cause_0 dbX9_cause_0.2.2.1
theorem dX9_cause_5 : decode cX9_cause 5 = .ok (.astore_n 2, 1) := dgq (p := 5) daX9_cause_0 dbX9_cause_0.2.2.2.1
theorem dX9_cause_6 : decode cX9_cause 6 = .ok (.aload_n 2, 1) := dgq (p := 6) daX9_cause_0 dbX9_cause_0.2.2.2.2.1
theorem dX9_cause_7 : decode cX9_cause 7 = .ok (.getfield 339, 3) := dgq (p := 7) daX9_cause_0 dbX9_cause_0.2.2.2.2.2.1
theorem dX9_cause_10 : decode cX9_cause 10 = .ok (.aload_n 0, 1) := dgq (p := 10) daX9_cause_0 dbX9_cause_0.2.2.2.2.2.2.1
theorem dX9_cause_11 : decode cX9_cause 11 = .ok (.getfield 52, 3) := dgq (p := 11) daX9_cause_0 dbX9_cause_0.2.2.2.2.2.2.2.1
theorem dX9_cause_14 : decode cX9_cause 14 = .ok (.aload_n 2, 1) := dgq (p := 14) daX9_cause_0 dbX9_cause_0.2.2.2.2.2.2.2.2.1
theorem dX9_cause_15 : decode cX9_cause 15 = .ok (.getfield 100, 3) := dgq (p := 15) daX9_cause_0 dbX9_cause_0.2.2.2.2.2.2.2.2.2
def dsX9_cause_18 : ByteArray := ⟨#[184, 1, 103, 182, 1, 100, 62, 44, 180, 1, 83, 44, 180, 1, 21, 182, 1, 100, 54, 4, 44]⟩
theorem daX9_cause_18 : agB cX9_cause dsX9_cause_18 18 := agB_of (n := 21) (by decide +kernel)
theorem dbX9_cause_18 : (decode dsX9_cause_18 0 = .ok (.invokestatic 359, 3) ∧ okop dsX9_cause_18 0 = true) ∧ (decode dsX9_cause_18 3 = .ok (.invokevirtual 356, 3) ∧ okop dsX9_cause_18 3 = true) ∧ (decode dsX9_cause_18 6 = .ok (.istore_n 3, 1) ∧ okop dsX9_cause_18 6 = true) ∧ (decode dsX9_cause_18 7 = .ok (.aload_n 2, 1) ∧ okop dsX9_cause_18 7 = true) ∧ (decode dsX9_cause_18 8 = .ok (.getfield 339, 3) ∧ okop dsX9_cause_18 8 = true) ∧ (decode dsX9_cause_18 11 = .ok (.aload_n 2, 1) ∧ okop dsX9_cause_18 11 = true) ∧ (decode dsX9_cause_18 12 = .ok (.getfield 277, 3) ∧ okop dsX9_cause_18 12 = true) ∧ (decode dsX9_cause_18 15 = .ok (.invokevirtual 356, 3) ∧ okop dsX9_cause_18 15 = true) ∧ (decode dsX9_cause_18 18 = .ok (.istore 4, 2) ∧ okop dsX9_cause_18 18 = true) ∧ (decode dsX9_cause_18 20 = .ok (.aload_n 2, 1) ∧ okop dsX9_cause_18 20 = true) := by decide +kernel
theorem dX9_cause_18 : decode cX9_cause 18 = .ok (.invokestatic 359, 3) := dgq (p := 0) daX9_cause_18 dbX9_cause_18.1
theorem dX9_cause_21 : decode cX9_cause 21 = .ok (.invokevirtual 356, 3) := dgq (p := 3) daX9_cause_18 dbX9_cause_18.2.1
theorem dX9_cause_24 : decode cX9_cause 24 = .ok (.istore_n 3, 1) := dgq (p := 6) daX9_cause_18 dbX9_cause_18.2.2.1
theorem dX9_cause_25 : decode cX9_cause 25 = .ok (.aload_n 2, 1) := dgq (p := 7) daX9_cause_18 dbX9_cause_18.2.2.2.1
theorem dX9_cause_26 : decode cX9_cause 26 = .ok (.getfield 339, 3) := dgq (p := 8) daX9_cause_18 dbX9_cause_18.2.2.2.2.1
theorem dX9_cause_29 : decode cX9_cause 29 = .ok (.aload_n 2, 1) := dgq (p := 11) daX9_cause_18 dbX9_cause_18.2.2.2.2.2.1
theorem dX9_cause_30 : decode cX9_cause 30 = .ok (.getfield 277, 3) := dgq (p := 12) daX9_cause_18 dbX9_cause_18.2.2.2.2.2.2.1
theorem dX9_cause_33 : decode cX9_cause 33 = .ok (.invokevirtual 356, 3) := dgq (p := 15) daX9_cause_18 dbX9_cause_18.2.2.2.2.2.2.2.1
theorem dX9_cause_36 : decode cX9_cause 36 = .ok (.istore 4, 2) := dgq (p := 18) daX9_cause_18 dbX9_cause_18.2.2.2.2.2.2.2.2.1
theorem dX9_cause_38 : decode cX9_cause 38 = .ok (.aload_n 2, 1) := dgq (p := 20) daX9_cause_18 dbX9_cause_18.2.2.2.2.2.2.2.2.2
def dsX9_cause_39 : ByteArray := ⟨#[180, 1, 83, 180, 1, 92, 54, 5, 29, 21, 4, 21, 5, 184, 1, 106, 184, 1, 106, 54, 6, 21, 6]⟩
theorem daX9_cause_39 : agB cX9_cause dsX9_cause_39 39 := agB_of (n := 23) (by decide +kernel)
theorem dbX9_cause_39 : (decode dsX9_cause_39 0 = .ok (.getfield 339, 3) ∧ okop dsX9_cause_39 0 = true) ∧ (decode dsX9_cause_39 3 = .ok (.getfield 348, 3) ∧ okop dsX9_cause_39 3 = true) ∧ (decode dsX9_cause_39 6 = .ok (.istore 5, 2) ∧ okop dsX9_cause_39 6 = true) ∧ (decode dsX9_cause_39 8 = .ok (.iload_n 3, 1) ∧ okop dsX9_cause_39 8 = true) ∧ (decode dsX9_cause_39 9 = .ok (.iload 4, 2) ∧ okop dsX9_cause_39 9 = true) ∧ (decode dsX9_cause_39 11 = .ok (.iload 5, 2) ∧ okop dsX9_cause_39 11 = true) ∧ (decode dsX9_cause_39 13 = .ok (.invokestatic 362, 3) ∧ okop dsX9_cause_39 13 = true) ∧ (decode dsX9_cause_39 16 = .ok (.invokestatic 362, 3) ∧ okop dsX9_cause_39 16 = true) ∧ (decode dsX9_cause_39 19 = .ok (.istore 6, 2) ∧ okop dsX9_cause_39 19 = true) ∧ (decode dsX9_cause_39 21 = .ok (.iload 6, 2) ∧ okop dsX9_cause_39 21 = true) := by decide +kernel
theorem dX9_cause_39 : decode cX9_cause 39 = .ok (.getfield 339, 3) := dgq (p := 0) daX9_cause_39 dbX9_cause_39.1
theorem dX9_cause_42 : decode cX9_cause 42 = .ok (.getfield 348, 3) := dgq (p := 3) daX9_cause_39 dbX9_cause_39.2.1
theorem dX9_cause_45 : decode cX9_cause 45 = .ok (.istore 5, 2) := dgq (p := 6) daX9_cause_39 dbX9_cause_39.2.2.1
theorem dX9_cause_47 : decode cX9_cause 47 = .ok (.iload_n 3, 1) := dgq (p := 8) daX9_cause_39 dbX9_cause_39.2.2.2.1
theorem dX9_cause_48 : decode cX9_cause 48 = .ok (.iload 4, 2) := dgq (p := 9) daX9_cause_39 dbX9_cause_39.2.2.2.2.1
theorem dX9_cause_50 : decode cX9_cause 50 = .ok (.iload 5, 2) := dgq (p := 11) daX9_cause_39 dbX9_cause_39.2.2.2.2.2.1
theorem dX9_cause_52 : decode cX9_cause 52 = .ok (.invokestatic 362, 3) := dgq (p := 13) daX9_cause_39 dbX9_cause_39.2.2.2.2.2.2.1
theorem dX9_cause_55 : decode cX9_cause 55 = .ok (.invokestatic 362, 3) := dgq (p := 16) daX9_cause_39 dbX9_cause_39.2.2.2.2.2.2.2.1
theorem dX9_cause_58 : decode cX9_cause 58 = .ok (.istore 6, 2) := dgq (p := 19) daX9_cause_39 dbX9_cause_39.2.2.2.2.2.2.2.2.1
theorem dX9_cause_60 : decode cX9_cause 60 = .ok (.iload 6, 2) := dgq (p := 21) daX9_cause_39 dbX9_cause_39.2.2.2.2.2.2.2.2.2
def dsX9_cause_62 : ByteArray := ⟨#[154, 0, 6, 16, 110, 172, 29, 21, 6, 160, 0, 6, 16, 109, 172, 21, 4, 21, 6]⟩
theorem daX9_cause_62 : agB cX9_cause dsX9_cause_62 62 := agB_of (n := 19) (by decide +kernel)
theorem dbX9_cause_62 : (decode dsX9_cause_62 0 = .ok (.ifCond .ne 6, 3) ∧ okop dsX9_cause_62 0 = true) ∧ (decode dsX9_cause_62 3 = .ok (.bipush 110, 2) ∧ okop dsX9_cause_62 3 = true) ∧ (decode dsX9_cause_62 5 = .ok (.ireturn, 1) ∧ okop dsX9_cause_62 5 = true) ∧ (decode dsX9_cause_62 6 = .ok (.iload_n 3, 1) ∧ okop dsX9_cause_62 6 = true) ∧ (decode dsX9_cause_62 7 = .ok (.iload 6, 2) ∧ okop dsX9_cause_62 7 = true) ∧ (decode dsX9_cause_62 9 = .ok (.if_icmp .ne 6, 3) ∧ okop dsX9_cause_62 9 = true) ∧ (decode dsX9_cause_62 12 = .ok (.bipush 109, 2) ∧ okop dsX9_cause_62 12 = true) ∧ (decode dsX9_cause_62 14 = .ok (.ireturn, 1) ∧ okop dsX9_cause_62 14 = true) ∧ (decode dsX9_cause_62 15 = .ok (.iload 4, 2) ∧ okop dsX9_cause_62 15 = true) ∧ (decode dsX9_cause_62 17 = .ok (.iload 6, 2) ∧ okop dsX9_cause_62 17 = true) := by decide +kernel
theorem dX9_cause_62 : decode cX9_cause 62 = .ok (.ifCond .ne 6, 3) := dgq (p := 0) daX9_cause_62 dbX9_cause_62.1
theorem dX9_cause_65 : decode cX9_cause 65 = .ok (.bipush 110, 2) := dgq (p := 3) daX9_cause_62 dbX9_cause_62.2.1
theorem dX9_cause_67 : decode cX9_cause 67 = .ok (.ireturn, 1) := dgq (p := 5) daX9_cause_62 dbX9_cause_62.2.2.1
theorem dX9_cause_68 : decode cX9_cause 68 = .ok (.iload_n 3, 1) := dgq (p := 6) daX9_cause_62 dbX9_cause_62.2.2.2.1
theorem dX9_cause_69 : decode cX9_cause 69 = .ok (.iload 6, 2) := dgq (p := 7) daX9_cause_62 dbX9_cause_62.2.2.2.2.1
theorem dX9_cause_71 : decode cX9_cause 71 = .ok (.if_icmp .ne 6, 3) := dgq (p := 9) daX9_cause_62 dbX9_cause_62.2.2.2.2.2.1
theorem dX9_cause_74 : decode cX9_cause 74 = .ok (.bipush 109, 2) := dgq (p := 12) daX9_cause_62 dbX9_cause_62.2.2.2.2.2.2.1
theorem dX9_cause_76 : decode cX9_cause 76 = .ok (.ireturn, 1) := dgq (p := 14) daX9_cause_62 dbX9_cause_62.2.2.2.2.2.2.2.1
theorem dX9_cause_77 : decode cX9_cause 77 = .ok (.iload 4, 2) := dgq (p := 15) daX9_cause_62 dbX9_cause_62.2.2.2.2.2.2.2.2.1
theorem dX9_cause_79 : decode cX9_cause 79 = .ok (.iload 6, 2) := dgq (p := 17) daX9_cause_62 dbX9_cause_62.2.2.2.2.2.2.2.2.2
def dsX9_cause_81 : ByteArray := ⟨#[160, 0, 8, 16, 116, 167, 0, 5, 16, 115, 172]⟩
theorem daX9_cause_81 : agB cX9_cause dsX9_cause_81 81 := agB_of (n := 11) (by decide +kernel)
theorem dbX9_cause_81 : (decode dsX9_cause_81 0 = .ok (.if_icmp .ne 8, 3) ∧ okop dsX9_cause_81 0 = true) ∧ (decode dsX9_cause_81 3 = .ok (.bipush 116, 2) ∧ okop dsX9_cause_81 3 = true) ∧ (decode dsX9_cause_81 5 = .ok (.goto 5, 3) ∧ okop dsX9_cause_81 5 = true) ∧ (decode dsX9_cause_81 8 = .ok (.bipush 115, 2) ∧ okop dsX9_cause_81 8 = true) ∧ (decode dsX9_cause_81 10 = .ok (.ireturn, 1) ∧ okop dsX9_cause_81 10 = true) := by decide +kernel
theorem dX9_cause_81 : decode cX9_cause 81 = .ok (.if_icmp .ne 8, 3) := dgq (p := 0) daX9_cause_81 dbX9_cause_81.1
theorem dX9_cause_84 : decode cX9_cause 84 = .ok (.bipush 116, 2) := dgq (p := 3) daX9_cause_81 dbX9_cause_81.2.1
theorem dX9_cause_86 : decode cX9_cause 86 = .ok (.goto 5, 3) := dgq (p := 5) daX9_cause_81 dbX9_cause_81.2.2.1
theorem dX9_cause_89 : decode cX9_cause 89 = .ok (.bipush 115, 2) := dgq (p := 8) daX9_cause_81 dbX9_cause_81.2.2.2.1
theorem dX9_cause_91 : decode cX9_cause 91 = .ok (.ireturn, 1) := dgq (p := 10) daX9_cause_81 dbX9_cause_81.2.2.2.2
set_option maxRecDepth 20000 in
theorem ggX9_peak_X9_gearAt : GoodIn wsX9_peak wsX9_gearAt := goodIn_ca (goodIn_ca (goodIn_q _ [8, 9, 10, 11, 12] rfl (by decide +kernel)) (goodIn_sub (fun _ h => (List.mem_cons_of_mem _ (List.mem_append_left _ (List.mem_append_left _ (List.mem_append_left _ (List.mem_append_left _ (List.mem_append_left _ (List.mem_append_left _ (List.mem_append_left _ (List.mem_append_right _ h)))))))))) tg_wsX90)) (goodIn_sub (fun _ h => List.mem_cons_of_mem _ (List.mem_append_left _ (List.mem_append_left _ (List.mem_append_left _ (List.mem_append_left _ (List.mem_append_right _ h)))))) (by decide +kernel))
set_option maxRecDepth 20000 in
theorem gX9_peak_X9_gearAt : GoodIn wsX9_peak (wsV RX9 77 RX9 yX9_gearAt wsX9_gearAt) := goodIn_app (goodIn_q _ [4, 5, 6, 7] rfl (by decide +kernel)) ggX9_peak_X9_gearAt
set_option maxRecDepth 20000 in
theorem ggX9_peak_X9_needRange : GoodIn wsX9_peak wsX9_needRange := goodIn_ca (goodIn_q _ [15, 16, 17] rfl (by decide +kernel)) (goodIn_sub (fun _ h => List.mem_cons_of_mem _ (List.mem_append_left _ (List.mem_append_left _ (List.mem_append_left _ (List.mem_append_right _ h))))) (by decide +kernel))
set_option maxRecDepth 20000 in
theorem gX9_peak_X9_needRange : GoodIn wsX9_peak (va_wsS RX9 59 yX9_needRange wsX9_needRange) := goodIn_app (goodIn_q _ [13, 14, 7] rfl (by decide +kernel)) ggX9_peak_X9_needRange
set_option maxRecDepth 20000 in
theorem ggX9_peak_X9_needPair : GoodIn wsX9_peak wsX9_needPair := goodIn_ca (goodIn_ca (goodIn_q _ [20, 21, 22, 23, 24, 25, 26, 27, 28, 29, 7, 30, 31, 32] rfl (by decide +kernel)) (goodIn_sub (fun _ h => (List.mem_cons_of_mem _ (List.mem_append_left _ (List.mem_append_left _ (List.mem_append_left _ (List.mem_append_left _ (List.mem_append_left _ (List.mem_append_left _ (List.mem_append_left _ (List.mem_append_left _ (List.mem_append_right _ h))))))))))) tg_wsX20)) (goodIn_sub (fun _ h => List.mem_cons_of_mem _ (List.mem_append_left _ (List.mem_append_left _ (List.mem_append_right _ h)))) (by decide +kernel))
set_option maxRecDepth 20000 in
theorem gX9_peak_X9_needPair : GoodIn wsX9_peak (va_wsS RX9 119 yX9_needPair wsX9_needPair) := goodIn_app (goodIn_q _ [18, 19, 7] rfl (by decide +kernel)) ggX9_peak_X9_needPair
set_option maxRecDepth 20000 in
theorem ggX9_peak_X6_take : GoodIn wsX9_peak wsX6_take := goodIn_ca (goodIn_ca (goodIn_ca (goodIn_ca (goodIn_q _ [37, 38, 39, 40, 41, 42, 43, 44, 45, 46, 47, 48, 49, 50, 51, 7, 52, 53, 54, 55, 56, 36, 57] rfl (by decide +kernel)) (goodIn_sub (fun _ h => (List.mem_cons_of_mem _ (List.mem_append_left _ (List.mem_append_left _ (List.mem_append_left _ (List.mem_append_left _ (List.mem_append_left _ (List.mem_append_left _ (List.mem_append_right _ h))))))))) tg_wsX10)) (goodIn_sub (fun _ h => (List.mem_cons_of_mem _ (List.mem_append_left _ (List.mem_append_left _ (List.mem_append_left _ (List.mem_append_left _ (List.mem_append_left _ (List.mem_append_right _ h)))))))) tg_wsX60)) (goodIn_sub (fun _ h => List.mem_cons_of_mem _ (List.mem_append_left _ (List.mem_append_right _ h))) (by decide +kernel))) (goodIn_sub (fun _ h => List.mem_cons_of_mem _ (List.mem_append_right _ h)) (by decide +kernel))
set_option maxRecDepth 20000 in
theorem gX9_peak_X6_take : GoodIn wsX9_peak (wsV RX9 365 RX6 yX6_take wsX6_take) := goodIn_app (goodIn_q _ [33, 34, 35, 36] rfl (by decide +kernel)) ggX9_peak_X6_take
set_option maxRecDepth 20000 in
theorem ggX9_peak_X6_peakFrom : GoodIn wsX9_peak wsX6_peakFrom := goodIn_ca (goodIn_ca (goodIn_q _ [61, 62, 63, 46, 47, 49, 43, 44, 41, 45, 48, 50, 39, 40, 42, 64, 65, 66, 67] rfl (by decide +kernel)) (goodIn_sub (fun _ h => (List.mem_cons_of_mem _ (List.mem_append_left _ (List.mem_append_left _ (List.mem_append_left _ (List.mem_append_left _ (List.mem_append_left _ (List.mem_append_right _ h)))))))) tg_wsX60)) (goodIn_sub (fun _ h => List.mem_cons_of_mem _ (List.mem_append_right _ h)) (by decide +kernel))
set_option maxRecDepth 20000 in
theorem gX9_peak_X6_peakFrom : GoodIn wsX9_peak (wsV RX9 369 RX6 yX6_peakFrom wsX6_peakFrom) := goodIn_app (goodIn_q _ [58, 59, 60, 36] rfl (by decide +kernel)) ggX9_peak_X6_peakFrom
def dsX9_peak_0 : ByteArray := ⟨#[42, 27, 182, 0, 77, 58, 4, 42, 28, 182, 0, 77, 58, 5, 29, 3]⟩
theorem daX9_peak_0 : agB cX9_peak dsX9_peak_0 0 := agB_of (n := 16) (by decide +kernel)
theorem dbX9_peak_0 : (decode dsX9_peak_0 0 = .ok (.aload_n 0, 1) ∧ okop dsX9_peak_0 0 = true) ∧ (decode dsX9_peak_0 1 = .ok (.iload_n 1, 1) ∧ okop dsX9_peak_0 1 = true) ∧ (decode dsX9_peak_0 2 = .ok (.invokevirtual 77, 3) ∧ okop dsX9_peak_0 2 = true) ∧ (decode dsX9_peak_0 5 = .ok (.astore 4, 2) ∧ okop dsX9_peak_0 5 = true) ∧ (decode dsX9_peak_0 7 = .ok (.aload_n 0, 1) ∧ okop dsX9_peak_0 7 = true) ∧ (decode dsX9_peak_0 8 = .ok (.iload_n 2, 1) ∧ okop dsX9_peak_0 8 = true) ∧ (decode dsX9_peak_0 9 = .ok (.invokevirtual 77, 3) ∧ okop dsX9_peak_0 9 = true) ∧ (decode dsX9_peak_0 12 = .ok (.astore 5, 2) ∧ okop dsX9_peak_0 12 = true) ∧ (decode dsX9_peak_0 14 = .ok (.iload_n 3, 1) ∧ okop dsX9_peak_0 14 = true) ∧ (decode dsX9_peak_0 15 = .ok (.iconst 0, 1) ∧ okop dsX9_peak_0 15 = true) := by decide +kernel
theorem dX9_peak_0 : decode cX9_peak 0 = .ok (.aload_n 0, 1) := dgq (p := 0) daX9_peak_0 dbX9_peak_0.1
theorem dX9_peak_1 : decode cX9_peak 1 = .ok (.iload_n 1, 1) := dgq (p := 1) daX9_peak_0 dbX9_peak_0.2.1
theorem dX9_peak_2 : decode cX9_peak 2 = .ok (.invokevirtual 77, 3) := dgq (p := 2) daX9_peak_0 dbX9_peak_0.2.2.1
theorem dX9_peak_5 : decode cX9_peak 5 = .ok (.astore 4, 2) := dgq (p := 5) daX9_peak_0 dbX9_peak_0.2.2.2.1
theorem dX9_peak_7 : decode cX9_peak 7 = .ok (.aload_n 0, 1) := dgq (p := 7) daX9_peak_0 dbX9_peak_0.2.2.2.2.1
theorem dX9_peak_8 : decode cX9_peak 8 = .ok (.iload_n 2, 1) := dgq (p := 8) daX9_peak_0 dbX9_peak_0.2.2.2.2.2.1
theorem dX9_peak_9 : decode cX9_peak 9 = .ok (.invokevirtual 77, 3) := dgq (p := 9) daX9_peak_0 dbX9_peak_0.2.2.2.2.2.2.1
theorem dX9_peak_12 : decode cX9_peak 12 = .ok (.astore 5, 2) := dgq (p := 12) daX9_peak_0 dbX9_peak_0.2.2.2.2.2.2.2.1
theorem dX9_peak_14 : decode cX9_peak 14 = .ok (.iload_n 3, 1) := dgq (p := 14) daX9_peak_0 dbX9_peak_0.2.2.2.2.2.2.2.2.1
theorem dX9_peak_15 : decode cX9_peak 15 = .ok (.iconst 0, 1) := dgq (p := 15) daX9_peak_0 dbX9_peak_0.2.2.2.2.2.2.2.2.2
def dsX9_peak_16 : ByteArray := ⟨#[25, 5, 180, 0, 100, 4, 100, 184, 0, 59, 25, 4, 25, 5, 184, 0, 119, 42, 180, 0, 37]⟩
theorem daX9_peak_16 : agB cX9_peak dsX9_peak_16 16 := agB_of (n := 21) (by decide +kernel)
theorem dbX9_peak_16 : (decode dsX9_peak_16 0 = .ok (.aload 5, 2) ∧ okop dsX9_peak_16 0 = true) ∧ (decode dsX9_peak_16 2 = .ok (.getfield 100, 3) ∧ okop dsX9_peak_16 2 = true) ∧ (decode dsX9_peak_16 5 = .ok (.iconst 1, 1) ∧ okop dsX9_peak_16 5 = true) ∧ (decode dsX9_peak_16 6 = .ok (.isub, 1) ∧ okop dsX9_peak_16 6 = true) ∧ (decode dsX9_peak_16 7 = .ok (.invokestatic 59, 3) ∧ okop dsX9_peak_16 7 = true) ∧ (decode dsX9_peak_16 10 = .ok (.aload 4, 2) ∧ okop dsX9_peak_16 10 = true) ∧ (decode dsX9_peak_16 12 = .ok (.aload 5, 2) ∧ okop dsX9_peak_16 12 = true) ∧ (decode dsX9_peak_16 14 = .ok (.invokestatic 119, 3) ∧ okop dsX9_peak_16 14 = true) ∧ (decode dsX9_peak_16 17 = .ok (.aload_n 0, 1) ∧ okop dsX9_peak_16 17 = true) ∧ (decode dsX9_peak_16 18 = .ok (.getfield 37, 3) ∧ okop dsX9_peak_16 18 = true) := by decide +kernel
theorem dX9_peak_16 : decode cX9_peak 16 = .ok (.aload 5, 2) := dgq (p := 0) daX9_peak_16 dbX9_peak_16.1
theorem dX9_peak_18 : decode cX9_peak 18 = .ok (.getfield 100, 3) := dgq (p := 2) daX9_peak_16 dbX9_peak_16.2.1
theorem dX9_peak_21 : decode cX9_peak 21 = .ok (.iconst 1, 1) := dgq (p := 5) daX9_peak_16 dbX9_peak_16.2.2.1
theorem dX9_peak_22 : decode cX9_peak 22 = .ok (.isub, 1) := dgq (p := 6) daX9_peak_16 dbX9_peak_16.2.2.2.1
theorem dX9_peak_23 : decode cX9_peak 23 = .ok (.invokestatic 59, 3) := dgq (p := 7) daX9_peak_16 dbX9_peak_16.2.2.2.2.1
theorem dX9_peak_26 : decode cX9_peak 26 = .ok (.aload 4, 2) := dgq (p := 10) daX9_peak_16 dbX9_peak_16.2.2.2.2.2.1
theorem dX9_peak_28 : decode cX9_peak 28 = .ok (.aload 5, 2) := dgq (p := 12) daX9_peak_16 dbX9_peak_16.2.2.2.2.2.2.1
theorem dX9_peak_30 : decode cX9_peak 30 = .ok (.invokestatic 119, 3) := dgq (p := 14) daX9_peak_16 dbX9_peak_16.2.2.2.2.2.2.2.1
theorem dX9_peak_33 : decode cX9_peak 33 = .ok (.aload_n 0, 1) := dgq (p := 17) daX9_peak_16 dbX9_peak_16.2.2.2.2.2.2.2.2.1
theorem dX9_peak_34 : decode cX9_peak 34 = .ok (.getfield 37, 3) := dgq (p := 18) daX9_peak_16 dbX9_peak_16.2.2.2.2.2.2.2.2.2
def dsX9_peak_37 : ByteArray := ⟨#[25, 4, 180, 1, 83, 25, 5, 180, 1, 83, 182, 1, 109, 42, 180, 0, 37, 29, 182, 1, 113, 172]⟩
theorem daX9_peak_37 : agB cX9_peak dsX9_peak_37 37 := agB_of (n := 22) (by decide +kernel)
theorem dbX9_peak_37 : (decode dsX9_peak_37 0 = .ok (.aload 4, 2) ∧ okop dsX9_peak_37 0 = true) ∧ (decode dsX9_peak_37 2 = .ok (.getfield 339, 3) ∧ okop dsX9_peak_37 2 = true) ∧ (decode dsX9_peak_37 5 = .ok (.aload 5, 2) ∧ okop dsX9_peak_37 5 = true) ∧ (decode dsX9_peak_37 7 = .ok (.getfield 339, 3) ∧ okop dsX9_peak_37 7 = true) ∧ (decode dsX9_peak_37 10 = .ok (.invokevirtual 365, 3) ∧ okop dsX9_peak_37 10 = true) ∧ (decode dsX9_peak_37 13 = .ok (.aload_n 0, 1) ∧ okop dsX9_peak_37 13 = true) ∧ (decode dsX9_peak_37 14 = .ok (.getfield 37, 3) ∧ okop dsX9_peak_37 14 = true) ∧ (decode dsX9_peak_37 17 = .ok (.iload_n 3, 1) ∧ okop dsX9_peak_37 17 = true) ∧ (decode dsX9_peak_37 18 = .ok (.invokevirtual 369, 3) ∧ okop dsX9_peak_37 18 = true) ∧ (decode dsX9_peak_37 21 = .ok (.ireturn, 1) ∧ okop dsX9_peak_37 21 = true) := by decide +kernel
theorem dX9_peak_37 : decode cX9_peak 37 = .ok (.aload 4, 2) := dgq (p := 0) daX9_peak_37 dbX9_peak_37.1
theorem dX9_peak_39 : decode cX9_peak 39 = .ok (.getfield 339, 3) := dgq (p := 2) daX9_peak_37 dbX9_peak_37.2.1
theorem dX9_peak_42 : decode cX9_peak 42 = .ok (.aload 5, 2) := dgq (p := 5) daX9_peak_37 dbX9_peak_37.2.2.1
theorem dX9_peak_44 : decode cX9_peak 44 = .ok (.getfield 339, 3) := dgq (p := 7) daX9_peak_37 dbX9_peak_37.2.2.2.1
theorem dX9_peak_47 : decode cX9_peak 47 = .ok (.invokevirtual 365, 3) := dgq (p := 10) daX9_peak_37 dbX9_peak_37.2.2.2.2.1
theorem dX9_peak_50 : decode cX9_peak 50 = .ok (.aload_n 0, 1) := dgq (p := 13) daX9_peak_37 dbX9_peak_37.2.2.2.2.2.1
theorem dX9_peak_51 : decode cX9_peak 51 = .ok (.getfield 37, 3) := dgq (p := 14) daX9_peak_37 dbX9_peak_37.2.2.2.2.2.2.1
theorem dX9_peak_54 : decode cX9_peak 54 = .ok (.iload_n 3, 1) := dgq (p := 17) daX9_peak_37 dbX9_peak_37.2.2.2.2.2.2.2.1
theorem dX9_peak_55 : decode cX9_peak 55 = .ok (.invokevirtual 369, 3) := dgq (p := 18) daX9_peak_37 dbX9_peak_37.2.2.2.2.2.2.2.2.1
theorem dX9_peak_58 : decode cX9_peak 58 = .ok (.ireturn, 1) := dgq (p := 21) daX9_peak_37 dbX9_peak_37.2.2.2.2.2.2.2.2.2
set_option maxRecDepth 20000 in
theorem ggX9_quietest_X9_gearAt : GoodIn wsX9_quietest wsX9_gearAt := goodIn_ca (goodIn_ca (goodIn_q _ [7, 8, 9, 10, 11] rfl (by decide +kernel)) (goodIn_sub (fun _ h => (List.mem_cons_of_mem _ (List.mem_append_left _ (List.mem_append_left _ (List.mem_append_left _ (List.mem_append_left _ (List.mem_append_left _ (List.mem_append_left _ (List.mem_append_left _ (List.mem_append_right _ h)))))))))) tg_wsX90)) (goodIn_sub (fun _ h => List.mem_cons_of_mem _ (List.mem_append_left _ (List.mem_append_left _ (List.mem_append_left _ (List.mem_append_right _ h))))) (by decide +kernel))
set_option maxRecDepth 20000 in
theorem gX9_quietest_X9_gearAt : GoodIn wsX9_quietest (wsV RX9 77 RX9 yX9_gearAt wsX9_gearAt) := goodIn_app (goodIn_q _ [3, 4, 5, 6] rfl (by decide +kernel)) ggX9_quietest_X9_gearAt
set_option maxRecDepth 20000 in
theorem ggX9_quietest_X9_needPair : GoodIn wsX9_quietest wsX9_needPair := goodIn_ca (goodIn_ca (goodIn_q _ [14, 15, 16, 17, 18, 19, 20, 21, 22, 23, 6, 24, 25, 26] rfl (by decide +kernel)) (goodIn_sub (fun _ h => (List.mem_cons_of_mem _ (List.mem_append_left _ (List.mem_append_left _ (List.mem_append_left _ (List.mem_append_left _ (List.mem_append_left _ (List.mem_append_left _ (List.mem_append_right _ h))))))))) tg_wsX20)) (goodIn_sub (fun _ h => List.mem_cons_of_mem _ (List.mem_append_left _ (List.mem_append_left _ (List.mem_append_right _ h)))) (by decide +kernel))
set_option maxRecDepth 20000 in
theorem gX9_quietest_X9_needPair : GoodIn wsX9_quietest (va_wsS RX9 119 yX9_needPair wsX9_needPair) := goodIn_app (goodIn_q _ [12, 13, 6] rfl (by decide +kernel)) ggX9_quietest_X9_needPair
set_option maxRecDepth 20000 in
theorem ggX9_quietest_X6_take : GoodIn wsX9_quietest wsX6_take := goodIn_ca (goodIn_ca (goodIn_ca (goodIn_ca (goodIn_q _ [31, 32, 33, 34, 35, 36, 37, 38, 39, 40, 41, 42, 43, 44, 45, 6, 46, 47, 48, 49, 50, 30, 51] rfl (by decide +kernel)) (goodIn_sub (fun _ h => (List.mem_cons_of_mem _ (List.mem_append_left _ (List.mem_append_left _ (List.mem_append_left _ (List.mem_append_left _ (List.mem_append_left _ (List.mem_append_right _ h)))))))) tg_wsX10)) (goodIn_sub (fun _ h => (List.mem_cons_of_mem _ (List.mem_append_left _ (List.mem_append_left _ (List.mem_append_left _ (List.mem_append_left _ (List.mem_append_right _ h))))))) tg_wsX60)) (goodIn_sub (fun _ h => List.mem_cons_of_mem _ (List.mem_append_left _ (List.mem_append_right _ h))) (by decide +kernel))) (goodIn_sub (fun _ h => List.mem_cons_of_mem _ (List.mem_append_right _ h)) (by decide +kernel))
set_option maxRecDepth 20000 in
theorem gX9_quietest_X6_take : GoodIn wsX9_quietest (wsV RX9 365 RX6 yX6_take wsX6_take) := goodIn_app (goodIn_q _ [27, 28, 29, 30] rfl (by decide +kernel)) ggX9_quietest_X6_take
set_option maxRecDepth 20000 in
theorem ggX9_quietest_X6_quietStart : GoodIn wsX9_quietest wsX6_quietStart := goodIn_ca (goodIn_ca (goodIn_q _ [55, 40, 56, 57, 58, 30, 59, 60, 61, 41, 43, 37, 38, 35, 39, 42, 44, 33, 34, 36, 62, 63, 64, 65] rfl (by decide +kernel)) (goodIn_sub (fun _ h => (List.mem_cons_of_mem _ (List.mem_append_left _ (List.mem_append_left _ (List.mem_append_left _ (List.mem_append_left _ (List.mem_append_right _ h))))))) tg_wsX60)) (goodIn_sub (fun _ h => List.mem_cons_of_mem _ (List.mem_append_right _ h)) (by decide +kernel))
set_option maxRecDepth 20000 in
theorem gX9_quietest_X6_quietStart : GoodIn wsX9_quietest (wsV RX9 372 RX6 yX6_quietStart wsX6_quietStart) := goodIn_app (goodIn_q _ [52, 53, 54, 30] rfl (by decide +kernel)) ggX9_quietest_X6_quietStart
def dsX9_quietest_0 : ByteArray := ⟨#[42, 27, 182, 0, 77, 78, 42, 28, 182, 0, 77, 58, 4, 45, 25, 4]⟩
theorem daX9_quietest_0 : agB cX9_quietest dsX9_quietest_0 0 := agB_of (n := 16) (by decide +kernel)
theorem dbX9_quietest_0 : (decode dsX9_quietest_0 0 = .ok (.aload_n 0, 1) ∧ okop dsX9_quietest_0 0 = true) ∧ (decode dsX9_quietest_0 1 = .ok (.iload_n 1, 1) ∧ okop dsX9_quietest_0 1 = true) ∧ (decode dsX9_quietest_0 2 = .ok (.invokevirtual 77, 3) ∧ okop dsX9_quietest_0 2 = true) ∧ (decode dsX9_quietest_0 5 = .ok (.astore_n 3, 1) ∧ okop dsX9_quietest_0 5 = true) ∧ (decode dsX9_quietest_0 6 = .ok (.aload_n 0, 1) ∧ okop dsX9_quietest_0 6 = true) ∧ (decode dsX9_quietest_0 7 = .ok (.iload_n 2, 1) ∧ okop dsX9_quietest_0 7 = true) ∧ (decode dsX9_quietest_0 8 = .ok (.invokevirtual 77, 3) ∧ okop dsX9_quietest_0 8 = true) ∧ (decode dsX9_quietest_0 11 = .ok (.astore 4, 2) ∧ okop dsX9_quietest_0 11 = true) ∧ (decode dsX9_quietest_0 13 = .ok (.aload_n 3, 1) ∧ okop dsX9_quietest_0 13 = true) ∧ (decode dsX9_quietest_0 14 = .ok (.aload 4, 2) ∧ okop dsX9_quietest_0 14 = true) := by decide +kernel
theorem dX9_quietest_0 : decode cX9_quietest 0 = .ok (.aload_n 0, 1) := dgq (p := 0) daX9_quietest_0 dbX9_quietest_0.1
theorem dX9_quietest_1 : decode cX9_quietest 1 = .ok (.iload_n 1, 1) := dgq (p := 1) daX9_quietest_0 dbX9_quietest_0.2.1
theorem dX9_quietest_2 : decode cX9_quietest 2 = .ok (.invokevirtual 77, 3) := dgq (p := 2) daX9_quietest_0 dbX9_quietest_0.2.2.1
theorem dX9_quietest_5 : decode cX9_quietest 5 = .ok (.astore_n 3, 1) := dgq (p := 5) daX9_quietest_0 dbX9_quietest_0.2.2.2.1
theorem dX9_quietest_6 : decode cX9_quietest 6 = .ok (.aload_n 0, 1) := dgq (p := 6) daX9_quietest_0 dbX9_quietest_0.2.2.2.2.1
theorem dX9_quietest_7 : decode cX9_quietest 7 = .ok (.iload_n 2, 1) := dgq (p := 7) daX9_quietest_0 dbX9_quietest_0.2.2.2.2.2.1
theorem dX9_quietest_8 : decode cX9_quietest 8 = .ok (.invokevirtual 77, 3) := dgq (p := 8) daX9_quietest_0 dbX9_quietest_0.2.2.2.2.2.2.1
theorem dX9_quietest_11 : decode cX9_quietest 11 = .ok (.astore 4, 2) := dgq (p := 11) daX9_quietest_0 dbX9_quietest_0.2.2.2.2.2.2.2.1
theorem dX9_quietest_13 : decode cX9_quietest 13 = .ok (.aload_n 3, 1) := dgq (p := 13) daX9_quietest_0 dbX9_quietest_0.2.2.2.2.2.2.2.2.1
theorem dX9_quietest_14 : decode cX9_quietest 14 = .ok (.aload 4, 2) := dgq (p := 14) daX9_quietest_0 dbX9_quietest_0.2.2.2.2.2.2.2.2.2
def dsX9_quietest_16 : ByteArray := ⟨#[184, 0, 119, 42, 180, 0, 37, 45, 180, 1, 83, 25, 4, 180, 1, 83, 182, 1, 109, 42, 180, 0, 37]⟩
theorem daX9_quietest_16 : agB cX9_quietest dsX9_quietest_16 16 := agB_of (n := 23) (by decide +kernel)
theorem dbX9_quietest_16 : (decode dsX9_quietest_16 0 = .ok (.invokestatic 119, 3) ∧ okop dsX9_quietest_16 0 = true) ∧ (decode dsX9_quietest_16 3 = .ok (.aload_n 0, 1) ∧ okop dsX9_quietest_16 3 = true) ∧ (decode dsX9_quietest_16 4 = .ok (.getfield 37, 3) ∧ okop dsX9_quietest_16 4 = true) ∧ (decode dsX9_quietest_16 7 = .ok (.aload_n 3, 1) ∧ okop dsX9_quietest_16 7 = true) ∧ (decode dsX9_quietest_16 8 = .ok (.getfield 339, 3) ∧ okop dsX9_quietest_16 8 = true) ∧ (decode dsX9_quietest_16 11 = .ok (.aload 4, 2) ∧ okop dsX9_quietest_16 11 = true) ∧ (decode dsX9_quietest_16 13 = .ok (.getfield 339, 3) ∧ okop dsX9_quietest_16 13 = true) ∧ (decode dsX9_quietest_16 16 = .ok (.invokevirtual 365, 3) ∧ okop dsX9_quietest_16 16 = true) ∧ (decode dsX9_quietest_16 19 = .ok (.aload_n 0, 1) ∧ okop dsX9_quietest_16 19 = true) ∧ (decode dsX9_quietest_16 20 = .ok (.getfield 37, 3) ∧ okop dsX9_quietest_16 20 = true) := by decide +kernel
theorem dX9_quietest_16 : decode cX9_quietest 16 = .ok (.invokestatic 119, 3) := dgq (p := 0) daX9_quietest_16 dbX9_quietest_16.1
theorem dX9_quietest_19 : decode cX9_quietest 19 = .ok (.aload_n 0, 1) := dgq (p := 3) daX9_quietest_16 dbX9_quietest_16.2.1
theorem dX9_quietest_20 : decode cX9_quietest 20 = .ok (.getfield 37, 3) := dgq (p := 4) daX9_quietest_16 dbX9_quietest_16.2.2.1
theorem dX9_quietest_23 : decode cX9_quietest 23 = .ok (.aload_n 3, 1) := dgq (p := 7) daX9_quietest_16 dbX9_quietest_16.2.2.2.1
theorem dX9_quietest_24 : decode cX9_quietest 24 = .ok (.getfield 339, 3) := dgq (p := 8) daX9_quietest_16 dbX9_quietest_16.2.2.2.2.1
theorem dX9_quietest_27 : decode cX9_quietest 27 = .ok (.aload 4, 2) := dgq (p := 11) daX9_quietest_16 dbX9_quietest_16.2.2.2.2.2.1
theorem dX9_quietest_29 : decode cX9_quietest 29 = .ok (.getfield 339, 3) := dgq (p := 13) daX9_quietest_16 dbX9_quietest_16.2.2.2.2.2.2.1
theorem dX9_quietest_32 : decode cX9_quietest 32 = .ok (.invokevirtual 365, 3) := dgq (p := 16) daX9_quietest_16 dbX9_quietest_16.2.2.2.2.2.2.2.1
theorem dX9_quietest_35 : decode cX9_quietest 35 = .ok (.aload_n 0, 1) := dgq (p := 19) daX9_quietest_16 dbX9_quietest_16.2.2.2.2.2.2.2.2.1
theorem dX9_quietest_36 : decode cX9_quietest 36 = .ok (.getfield 37, 3) := dgq (p := 20) daX9_quietest_16 dbX9_quietest_16.2.2.2.2.2.2.2.2.2
theorem dX9_quietest_39 : decode cX9_quietest 39 = .ok (.invokevirtual 372, 3) := by decide +kernel
theorem dX9_quietest_42 : decode cX9_quietest 42 = .ok (.ireturn, 1) := by decide +kernel
set_option maxRecDepth 20000 in
theorem ggX9_note_X9_gearAt : GoodIn wsX9_note wsX9_gearAt := goodIn_ca (goodIn_ca (goodIn_q _ [10, 11, 12, 13, 14] rfl (by decide +kernel)) (goodIn_sub (fun _ h => (List.mem_cons_of_mem _ (List.mem_append_left _ (List.mem_append_left _ (List.mem_append_left _ (List.mem_append_left _ (List.mem_append_left _ (List.mem_append_left _ (List.mem_append_right _ h))))))))) tg_wsX90)) (goodIn_sub (fun _ h => List.mem_cons_of_mem _ (List.mem_append_left _ (List.mem_append_left _ (List.mem_append_left _ (List.mem_append_left _ (List.mem_append_right _ h)))))) (by decide +kernel))
set_option maxRecDepth 20000 in
theorem gX9_note_X9_gearAt : GoodIn wsX9_note (wsV RX9 77 RX9 yX9_gearAt wsX9_gearAt) := goodIn_app (goodIn_q _ [6, 7, 8, 9] rfl (by decide +kernel)) ggX9_note_X9_gearAt
set_option maxRecDepth 20000 in
theorem ggX9_note_X9_needRange : GoodIn wsX9_note wsX9_needRange := goodIn_ca (goodIn_q _ [17, 18, 19] rfl (by decide +kernel)) (goodIn_sub (fun _ h => List.mem_cons_of_mem _ (List.mem_append_left _ (List.mem_append_left _ (List.mem_append_left _ (List.mem_append_right _ h))))) (by decide +kernel))
set_option maxRecDepth 20000 in
theorem gX9_note_X9_needRange : GoodIn wsX9_note (va_wsS RX9 59 yX9_needRange wsX9_needRange) := goodIn_app (goodIn_q _ [15, 16, 9] rfl (by decide +kernel)) ggX9_note_X9_needRange
set_option maxRecDepth 20000 in
theorem ggX9_note_X9_needPair : GoodIn wsX9_note wsX9_needPair := goodIn_ca (goodIn_ca (goodIn_q _ [22, 23, 24, 25, 26, 27, 28, 29, 30, 31, 9, 32, 33, 34] rfl (by decide +kernel)) (goodIn_sub (fun _ h => (List.mem_cons_of_mem _ (List.mem_append_left _ (List.mem_append_left _ (List.mem_append_left _ (List.mem_append_left _ (List.mem_append_left _ (List.mem_append_left _ (List.mem_append_left _ (List.mem_append_right _ h)))))))))) tg_wsX20)) (goodIn_sub (fun _ h => List.mem_cons_of_mem _ (List.mem_append_left _ (List.mem_append_left _ (List.mem_append_right _ h)))) (by decide +kernel))
set_option maxRecDepth 20000 in
theorem gX9_note_X9_needPair : GoodIn wsX9_note (va_wsS RX9 119 yX9_needPair wsX9_needPair) := goodIn_app (goodIn_q _ [20, 21, 9] rfl (by decide +kernel)) ggX9_note_X9_needPair
set_option maxRecDepth 20000 in
theorem ggX9_note_X1_partOf : GoodIn wsX9_note wsX1_partOf := goodIn_ca (goodIn_ca (goodIn_ca (goodIn_q _ [39, 40, 41, 42, 4, 43, 44, 45, 46, 47, 48, 49, 38, 50] rfl (by decide +kernel)) (goodIn_sub (fun _ h => (List.mem_cons_of_mem _ (List.mem_append_left _ (List.mem_append_left _ (List.mem_append_left _ (List.mem_append_left _ (List.mem_append_left _ (List.mem_append_right _ h)))))))) tg_wsX10)) (goodIn_sub (fun _ h => List.mem_cons_of_mem _ (List.mem_append_left _ (List.mem_append_right _ h))) (by decide +kernel))) (goodIn_sub (fun _ h => List.mem_cons_of_mem _ (List.mem_append_right _ h)) (by decide +kernel))
set_option maxRecDepth 20000 in
theorem gX9_note_X1_partOf : GoodIn wsX9_note (wsV RX9 356 RX1 yX1_partOf wsX1_partOf) := goodIn_app (goodIn_q _ [35, 36, 37, 38] rfl (by decide +kernel)) ggX9_note_X1_partOf
def dsX9_note_0 : ByteArray := ⟨#[42, 27, 182, 0, 77, 58, 4, 42, 28, 182, 0, 77, 58, 5, 29, 4]⟩
theorem daX9_note_0 : agB cX9_note dsX9_note_0 0 := agB_of (n := 16) (by decide +kernel)
theorem dbX9_note_0 : (decode dsX9_note_0 0 = .ok (.aload_n 0, 1) ∧ okop dsX9_note_0 0 = true) ∧ (decode dsX9_note_0 1 = .ok (.iload_n 1, 1) ∧ okop dsX9_note_0 1 = true) ∧ (decode dsX9_note_0 2 = .ok (.invokevirtual 77, 3) ∧ okop dsX9_note_0 2 = true) ∧ (decode dsX9_note_0 5 = .ok (.astore 4, 2) ∧ okop dsX9_note_0 5 = true) ∧ (decode dsX9_note_0 7 = .ok (.aload_n 0, 1) ∧ okop dsX9_note_0 7 = true) ∧ (decode dsX9_note_0 8 = .ok (.iload_n 2, 1) ∧ okop dsX9_note_0 8 = true) ∧ (decode dsX9_note_0 9 = .ok (.invokevirtual 77, 3) ∧ okop dsX9_note_0 9 = true) ∧ (decode dsX9_note_0 12 = .ok (.astore 5, 2) ∧ okop dsX9_note_0 12 = true) ∧ (decode dsX9_note_0 14 = .ok (.iload_n 3, 1) ∧ okop dsX9_note_0 14 = true) ∧ (decode dsX9_note_0 15 = .ok (.iconst 1, 1) ∧ okop dsX9_note_0 15 = true) := by decide +kernel
theorem dX9_note_0 : decode cX9_note 0 = .ok (.aload_n 0, 1) := dgq (p := 0) daX9_note_0 dbX9_note_0.1
theorem dX9_note_1 : decode cX9_note 1 = .ok (.iload_n 1, 1) := dgq (p := 1) daX9_note_0 dbX9_note_0.2.1
theorem dX9_note_2 : decode cX9_note 2 = .ok (.invokevirtual 77, 3) := dgq (p := 2) daX9_note_0 dbX9_note_0.2.2.1
theorem dX9_note_5 : decode cX9_note 5 = .ok (.astore 4, 2) := dgq (p := 5) daX9_note_0 dbX9_note_0.2.2.2.1
theorem dX9_note_7 : decode cX9_note 7 = .ok (.aload_n 0, 1) := dgq (p := 7) daX9_note_0 dbX9_note_0.2.2.2.2.1
theorem dX9_note_8 : decode cX9_note 8 = .ok (.iload_n 2, 1) := dgq (p := 8) daX9_note_0 dbX9_note_0.2.2.2.2.2.1
theorem dX9_note_9 : decode cX9_note 9 = .ok (.invokevirtual 77, 3) := dgq (p := 9) daX9_note_0 dbX9_note_0.2.2.2.2.2.2.1
theorem dX9_note_12 : decode cX9_note 12 = .ok (.astore 5, 2) := dgq (p := 12) daX9_note_0 dbX9_note_0.2.2.2.2.2.2.2.1
theorem dX9_note_14 : decode cX9_note 14 = .ok (.iload_n 3, 1) := dgq (p := 14) daX9_note_0 dbX9_note_0.2.2.2.2.2.2.2.2.1
theorem dX9_note_15 : decode cX9_note 15 = .ok (.iconst 1, 1) := dgq (p := 15) daX9_note_0 dbX9_note_0.2.2.2.2.2.2.2.2.2
def dsX9_note_16 : ByteArray := ⟨#[17, 0, 200, 184, 0, 59, 25, 4, 25, 5, 184, 0, 119, 25, 4, 180, 1, 83, 29, 182, 1, 100, 25, 5]⟩
theorem daX9_note_16 : agB cX9_note dsX9_note_16 16 := agB_of (n := 24) (by decide +kernel)
theorem dbX9_note_16 : (decode dsX9_note_16 0 = .ok (.sipush 200, 3) ∧ okop dsX9_note_16 0 = true) ∧ (decode dsX9_note_16 3 = .ok (.invokestatic 59, 3) ∧ okop dsX9_note_16 3 = true) ∧ (decode dsX9_note_16 6 = .ok (.aload 4, 2) ∧ okop dsX9_note_16 6 = true) ∧ (decode dsX9_note_16 8 = .ok (.aload 5, 2) ∧ okop dsX9_note_16 8 = true) ∧ (decode dsX9_note_16 10 = .ok (.invokestatic 119, 3) ∧ okop dsX9_note_16 10 = true) ∧ (decode dsX9_note_16 13 = .ok (.aload 4, 2) ∧ okop dsX9_note_16 13 = true) ∧ (decode dsX9_note_16 15 = .ok (.getfield 339, 3) ∧ okop dsX9_note_16 15 = true) ∧ (decode dsX9_note_16 18 = .ok (.iload_n 3, 1) ∧ okop dsX9_note_16 18 = true) ∧ (decode dsX9_note_16 19 = .ok (.invokevirtual 356, 3) ∧ okop dsX9_note_16 19 = true) ∧ (decode dsX9_note_16 22 = .ok (.aload 5, 2) ∧ okop dsX9_note_16 22 = true) := by decide +kernel
theorem dX9_note_16 : decode cX9_note 16 = .ok (.sipush 200, 3) := dgq (p := 0) daX9_note_16 dbX9_note_16.1
theorem dX9_note_19 : decode cX9_note 19 = .ok (.invokestatic 59, 3) := dgq (p := 3) daX9_note_16 dbX9_note_16.2.1
theorem dX9_note_22 : decode cX9_note 22 = .ok (.aload 4, 2) := dgq (p := 6) daX9_note_16 dbX9_note_16.2.2.1
theorem dX9_note_24 : decode cX9_note 24 = .ok (.aload 5, 2) := dgq (p := 8) daX9_note_16 dbX9_note_16.2.2.2.1
theorem dX9_note_26 : decode cX9_note 26 = .ok (.invokestatic 119, 3) := dgq (p := 10) daX9_note_16 dbX9_note_16.2.2.2.2.1
theorem dX9_note_29 : decode cX9_note 29 = .ok (.aload 4, 2) := dgq (p := 13) daX9_note_16 dbX9_note_16.2.2.2.2.2.1
theorem dX9_note_31 : decode cX9_note 31 = .ok (.getfield 339, 3) := dgq (p := 15) daX9_note_16 dbX9_note_16.2.2.2.2.2.2.1
theorem dX9_note_34 : decode cX9_note 34 = .ok (.iload_n 3, 1) := dgq (p := 18) daX9_note_16 dbX9_note_16.2.2.2.2.2.2.2.1
theorem dX9_note_35 : decode cX9_note 35 = .ok (.invokevirtual 356, 3) := dgq (p := 19) daX9_note_16 dbX9_note_16.2.2.2.2.2.2.2.2.1
theorem dX9_note_38 : decode cX9_note 38 = .ok (.aload 5, 2) := dgq (p := 22) daX9_note_16 dbX9_note_16.2.2.2.2.2.2.2.2.2
def dsX9_note_40 : ByteArray := ⟨#[180, 1, 83, 29, 182, 1, 100, 100, 184, 0, 188, 172]⟩
theorem daX9_note_40 : agB cX9_note dsX9_note_40 40 := agB_of (n := 12) (by decide +kernel)
theorem dbX9_note_40 : (decode dsX9_note_40 0 = .ok (.getfield 339, 3) ∧ okop dsX9_note_40 0 = true) ∧ (decode dsX9_note_40 3 = .ok (.iload_n 3, 1) ∧ okop dsX9_note_40 3 = true) ∧ (decode dsX9_note_40 4 = .ok (.invokevirtual 356, 3) ∧ okop dsX9_note_40 4 = true) ∧ (decode dsX9_note_40 7 = .ok (.isub, 1) ∧ okop dsX9_note_40 7 = true) ∧ (decode dsX9_note_40 8 = .ok (.invokestatic 188, 3) ∧ okop dsX9_note_40 8 = true) ∧ (decode dsX9_note_40 11 = .ok (.ireturn, 1) ∧ okop dsX9_note_40 11 = true) := by decide +kernel
theorem dX9_note_40 : decode cX9_note 40 = .ok (.getfield 339, 3) := dgq (p := 0) daX9_note_40 dbX9_note_40.1
theorem dX9_note_43 : decode cX9_note 43 = .ok (.iload_n 3, 1) := dgq (p := 3) daX9_note_40 dbX9_note_40.2.1
theorem dX9_note_44 : decode cX9_note 44 = .ok (.invokevirtual 356, 3) := dgq (p := 4) daX9_note_40 dbX9_note_40.2.2.1
theorem dX9_note_47 : decode cX9_note 47 = .ok (.isub, 1) := dgq (p := 7) daX9_note_40 dbX9_note_40.2.2.2.1
theorem dX9_note_48 : decode cX9_note 48 = .ok (.invokestatic 188, 3) := dgq (p := 8) daX9_note_40 dbX9_note_40.2.2.2.2.1
theorem dX9_note_51 : decode cX9_note 51 = .ok (.ireturn, 1) := dgq (p := 11) daX9_note_40 dbX9_note_40.2.2.2.2.2
set_option maxRecDepth 20000 in
theorem ggX9_hunts_X9_gearAt : GoodIn wsX9_hunts wsX9_gearAt := goodIn_ca (goodIn_ca (goodIn_q _ [6, 7, 8, 9, 10] rfl (by decide +kernel)) (goodIn_sub (fun _ h => (List.mem_cons_of_mem _ (List.mem_append_left _ (List.mem_append_left _ (List.mem_append_left _ (List.mem_append_right _ h)))))) tg_wsX90)) (goodIn_sub (fun _ h => List.mem_cons_of_mem _ (List.mem_append_left _ (List.mem_append_left _ (List.mem_append_right _ h)))) (by decide +kernel))
set_option maxRecDepth 20000 in
theorem gX9_hunts_X9_gearAt : GoodIn wsX9_hunts (wsV RX9 77 RX9 yX9_gearAt wsX9_gearAt) := goodIn_app (goodIn_q _ [2, 3, 4, 5] rfl (by decide +kernel)) ggX9_hunts_X9_gearAt
set_option maxRecDepth 20000 in
theorem ggX9_hunts_X9_needPair : GoodIn wsX9_hunts wsX9_needPair := goodIn_ca (goodIn_ca (goodIn_q _ [13, 14, 15, 16, 17, 18, 19, 20, 21, 22, 5, 23, 24, 25] rfl (by decide +kernel)) (goodIn_sub (fun _ h => (List.mem_cons_of_mem _ (List.mem_append_left _ (List.mem_append_left _ (List.mem_append_left _ (List.mem_append_left _ (List.mem_append_right _ h))))))) tg_wsX20)) (goodIn_sub (fun _ h => List.mem_cons_of_mem _ (List.mem_append_left _ (List.mem_append_right _ h))) (by decide +kernel))
set_option maxRecDepth 20000 in
theorem gX9_hunts_X9_needPair : GoodIn wsX9_hunts (va_wsS RX9 119 yX9_needPair wsX9_needPair) := goodIn_app (goodIn_q _ [11, 12, 5] rfl (by decide +kernel)) ggX9_hunts_X9_needPair
set_option maxRecDepth 20000 in
theorem ggX9_hunts_X9_commonDivisor : GoodIn wsX9_hunts wsX9_commonDivisor := goodIn_ca (goodIn_q _ [28, 29, 30, 31, 32] rfl (by decide +kernel)) (goodIn_sub (fun _ h => List.mem_cons_of_mem _ (List.mem_append_right _ h)) (by decide +kernel))
set_option maxRecDepth 20000 in
theorem gX9_hunts_X9_commonDivisor : GoodIn wsX9_hunts (va_wsS RX9 359 yX9_commonDivisor wsX9_commonDivisor) := goodIn_app (goodIn_q _ [26, 27, 5] rfl (by decide +kernel)) ggX9_hunts_X9_commonDivisor
def dsX9_hunts_0 : ByteArray := ⟨#[42, 27, 182, 0, 77, 78, 42, 28, 182, 0, 77, 58, 4, 45, 25, 4]⟩
theorem daX9_hunts_0 : agB cX9_hunts dsX9_hunts_0 0 := agB_of (n := 16) (by decide +kernel)
theorem dbX9_hunts_0 : (decode dsX9_hunts_0 0 = .ok (.aload_n 0, 1) ∧ okop dsX9_hunts_0 0 = true) ∧ (decode dsX9_hunts_0 1 = .ok (.iload_n 1, 1) ∧ okop dsX9_hunts_0 1 = true) ∧ (decode dsX9_hunts_0 2 = .ok (.invokevirtual 77, 3) ∧ okop dsX9_hunts_0 2 = true) ∧ (decode dsX9_hunts_0 5 = .ok (.astore_n 3, 1) ∧ okop dsX9_hunts_0 5 = true) ∧ (decode dsX9_hunts_0 6 = .ok (.aload_n 0, 1) ∧ okop dsX9_hunts_0 6 = true) ∧ (decode dsX9_hunts_0 7 = .ok (.iload_n 2, 1) ∧ okop dsX9_hunts_0 7 = true) ∧ (decode dsX9_hunts_0 8 = .ok (.invokevirtual 77, 3) ∧ okop dsX9_hunts_0 8 = true) ∧ (decode dsX9_hunts_0 11 = .ok (.astore 4, 2) ∧ okop dsX9_hunts_0 11 = true) ∧ (decode dsX9_hunts_0 13 = .ok (.aload_n 3, 1) ∧ okop dsX9_hunts_0 13 = true) ∧ (decode dsX9_hunts_0 14 = .ok (.aload 4, 2) ∧ okop dsX9_hunts_0 14 = true) := by decide +kernel
theorem dX9_hunts_0 : decode cX9_hunts 0 = .ok (.aload_n 0, 1) := dgq (p := 0) daX9_hunts_0 dbX9_hunts_0.1
theorem dX9_hunts_1 : decode cX9_hunts 1 = .ok (.iload_n 1, 1) := dgq (p := 1) daX9_hunts_0 dbX9_hunts_0.2.1
theorem dX9_hunts_2 : decode cX9_hunts 2 = .ok (.invokevirtual 77, 3) := dgq (p := 2) daX9_hunts_0 dbX9_hunts_0.2.2.1
theorem dX9_hunts_5 : decode cX9_hunts 5 = .ok (.astore_n 3, 1) := dgq (p := 5) daX9_hunts_0 dbX9_hunts_0.2.2.2.1
theorem dX9_hunts_6 : decode cX9_hunts 6 = .ok (.aload_n 0, 1) := dgq (p := 6) daX9_hunts_0 dbX9_hunts_0.2.2.2.2.1
theorem dX9_hunts_7 : decode cX9_hunts 7 = .ok (.iload_n 2, 1) := dgq (p := 7) daX9_hunts_0 dbX9_hunts_0.2.2.2.2.2.1
theorem dX9_hunts_8 : decode cX9_hunts 8 = .ok (.invokevirtual 77, 3) := dgq (p := 8) daX9_hunts_0 dbX9_hunts_0.2.2.2.2.2.2.1
theorem dX9_hunts_11 : decode cX9_hunts 11 = .ok (.astore 4, 2) := dgq (p := 11) daX9_hunts_0 dbX9_hunts_0.2.2.2.2.2.2.2.1
theorem dX9_hunts_13 : decode cX9_hunts 13 = .ok (.aload_n 3, 1) := dgq (p := 13) daX9_hunts_0 dbX9_hunts_0.2.2.2.2.2.2.2.2.1
theorem dX9_hunts_14 : decode cX9_hunts 14 = .ok (.aload 4, 2) := dgq (p := 14) daX9_hunts_0 dbX9_hunts_0.2.2.2.2.2.2.2.2.2
def dsX9_hunts_16 : ByteArray := ⟨#[184, 0, 119, 45, 180, 0, 100, 25, 4, 180, 0, 100, 184, 1, 103, 4, 160, 0, 7, 4, 167, 0, 4]⟩
theorem daX9_hunts_16 : agB cX9_hunts dsX9_hunts_16 16 := agB_of (n := 23) (by decide +kernel)
theorem dbX9_hunts_16 : (decode dsX9_hunts_16 0 = .ok (.invokestatic 119, 3) ∧ okop dsX9_hunts_16 0 = true) ∧ (decode dsX9_hunts_16 3 = .ok (.aload_n 3, 1) ∧ okop dsX9_hunts_16 3 = true) ∧ (decode dsX9_hunts_16 4 = .ok (.getfield 100, 3) ∧ okop dsX9_hunts_16 4 = true) ∧ (decode dsX9_hunts_16 7 = .ok (.aload 4, 2) ∧ okop dsX9_hunts_16 7 = true) ∧ (decode dsX9_hunts_16 9 = .ok (.getfield 100, 3) ∧ okop dsX9_hunts_16 9 = true) ∧ (decode dsX9_hunts_16 12 = .ok (.invokestatic 359, 3) ∧ okop dsX9_hunts_16 12 = true) ∧ (decode dsX9_hunts_16 15 = .ok (.iconst 1, 1) ∧ okop dsX9_hunts_16 15 = true) ∧ (decode dsX9_hunts_16 16 = .ok (.if_icmp .ne 7, 3) ∧ okop dsX9_hunts_16 16 = true) ∧ (decode dsX9_hunts_16 19 = .ok (.iconst 1, 1) ∧ okop dsX9_hunts_16 19 = true) ∧ (decode dsX9_hunts_16 20 = .ok (.goto 4, 3) ∧ okop dsX9_hunts_16 20 = true) := by decide +kernel
theorem dX9_hunts_16 : decode cX9_hunts 16 = .ok (.invokestatic 119, 3) := dgq (p := 0) daX9_hunts_16 dbX9_hunts_16.1
theorem dX9_hunts_19 : decode cX9_hunts 19 = .ok (.aload_n 3, 1) := dgq (p := 3) daX9_hunts_16 dbX9_hunts_16.2.1
theorem dX9_hunts_20 : decode cX9_hunts 20 = .ok (.getfield 100, 3) := dgq (p := 4) daX9_hunts_16 dbX9_hunts_16.2.2.1
theorem dX9_hunts_23 : decode cX9_hunts 23 = .ok (.aload 4, 2) := dgq (p := 7) daX9_hunts_16 dbX9_hunts_16.2.2.2.1
theorem dX9_hunts_25 : decode cX9_hunts 25 = .ok (.getfield 100, 3) := dgq (p := 9) daX9_hunts_16 dbX9_hunts_16.2.2.2.2.1
theorem dX9_hunts_28 : decode cX9_hunts 28 = .ok (.invokestatic 359, 3) := dgq (p := 12) daX9_hunts_16 dbX9_hunts_16.2.2.2.2.2.1
theorem dX9_hunts_31 : decode cX9_hunts 31 = .ok (.iconst 1, 1) := dgq (p := 15) daX9_hunts_16 dbX9_hunts_16.2.2.2.2.2.2.1
theorem dX9_hunts_32 : decode cX9_hunts 32 = .ok (.if_icmp .ne 7, 3) := dgq (p := 16) daX9_hunts_16 dbX9_hunts_16.2.2.2.2.2.2.2.1
theorem dX9_hunts_35 : decode cX9_hunts 35 = .ok (.iconst 1, 1) := dgq (p := 19) daX9_hunts_16 dbX9_hunts_16.2.2.2.2.2.2.2.2.1
theorem dX9_hunts_36 : decode cX9_hunts 36 = .ok (.goto 4, 3) := dgq (p := 20) daX9_hunts_16 dbX9_hunts_16.2.2.2.2.2.2.2.2.2
theorem dX9_hunts_39 : decode cX9_hunts 39 = .ok (.iconst 0, 1) := by decide +kernel
theorem dX9_hunts_40 : decode cX9_hunts 40 = .ok (.ireturn, 1) := by decide +kernel
set_option maxRecDepth 20000 in
theorem ggX9_bears_X9_gearAt : GoodIn wsX9_bears wsX9_gearAt := goodIn_ca (goodIn_ca (goodIn_q _ [5, 6, 7, 8, 9] rfl (by decide +kernel)) (goodIn_sub (fun _ h => (List.mem_cons_of_mem _ (List.mem_append_left _ (List.mem_append_left _ (List.mem_append_left _ (List.mem_append_right _ h)))))) tg_wsX90)) (goodIn_sub (fun _ h => List.mem_cons_of_mem _ (List.mem_append_left _ (List.mem_append_right _ h))) (by decide +kernel))
set_option maxRecDepth 20000 in
theorem gX9_bears_X9_gearAt : GoodIn wsX9_bears (wsV RX9 77 RX9 yX9_gearAt wsX9_gearAt) := goodIn_app (goodIn_q _ [1, 2, 3, 4] rfl (by decide +kernel)) ggX9_bears_X9_gearAt
set_option maxRecDepth 20000 in
theorem ggX9_bears_X2_borneTorque : GoodIn wsX9_bears wsX2_borneTorque := goodIn_ca (goodIn_ca (goodIn_q _ [14, 15, 16, 17, 18, 13, 19, 20, 21, 22, 23, 24, 25, 26, 27, 28, 29, 30, 31, 32, 33, 34, 35, 36, 37, 4, 38] rfl (by decide +kernel)) (goodIn_sub (fun _ h => (List.mem_cons_of_mem _ (List.mem_append_left _ (List.mem_append_left _ (List.mem_append_right _ h))))) tg_wsX20)) (goodIn_sub (fun _ h => List.mem_cons_of_mem _ (List.mem_append_right _ h)) (by decide +kernel))
set_option maxRecDepth 20000 in
theorem gX9_bears_X2_borneTorque : GoodIn wsX9_bears (wsV RX9 375 RX2 yX2_borneTorque wsX2_borneTorque) := goodIn_app (goodIn_q _ [10, 11, 12, 13] rfl (by decide +kernel)) ggX9_bears_X2_borneTorque
def dsX9_bears_0 : ByteArray := ⟨#[42, 27, 182, 0, 77, 182, 1, 119, 172]⟩
theorem daX9_bears_0 : agB cX9_bears dsX9_bears_0 0 := agB_of (n := 9) (by decide +kernel)
theorem dbX9_bears_0 : (decode dsX9_bears_0 0 = .ok (.aload_n 0, 1) ∧ okop dsX9_bears_0 0 = true) ∧ (decode dsX9_bears_0 1 = .ok (.iload_n 1, 1) ∧ okop dsX9_bears_0 1 = true) ∧ (decode dsX9_bears_0 2 = .ok (.invokevirtual 77, 3) ∧ okop dsX9_bears_0 2 = true) ∧ (decode dsX9_bears_0 5 = .ok (.invokevirtual 375, 3) ∧ okop dsX9_bears_0 5 = true) ∧ (decode dsX9_bears_0 8 = .ok (.ireturn, 1) ∧ okop dsX9_bears_0 8 = true) := by decide +kernel
theorem dX9_bears_0 : decode cX9_bears 0 = .ok (.aload_n 0, 1) := dgq (p := 0) daX9_bears_0 dbX9_bears_0.1
theorem dX9_bears_1 : decode cX9_bears 1 = .ok (.iload_n 1, 1) := dgq (p := 1) daX9_bears_0 dbX9_bears_0.2.1
theorem dX9_bears_2 : decode cX9_bears 2 = .ok (.invokevirtual 77, 3) := dgq (p := 2) daX9_bears_0 dbX9_bears_0.2.2.1
theorem dX9_bears_5 : decode cX9_bears 5 = .ok (.invokevirtual 375, 3) := dgq (p := 5) daX9_bears_0 dbX9_bears_0.2.2.2.1
theorem dX9_bears_8 : decode cX9_bears 8 = .ok (.ireturn, 1) := dgq (p := 8) daX9_bears_0 dbX9_bears_0.2.2.2.2
set_option maxRecDepth 20000 in
theorem ggX9_life_X9_gearAt : GoodIn wsX9_life wsX9_gearAt := goodIn_ca (goodIn_ca (goodIn_q _ [6, 7, 8, 9, 10] rfl (by decide +kernel)) (goodIn_sub (fun _ h => (List.mem_cons_of_mem _ (List.mem_append_left _ (List.mem_append_left _ (List.mem_append_left _ (List.mem_append_left _ (List.mem_append_right _ h))))))) tg_wsX90)) (goodIn_sub (fun _ h => List.mem_cons_of_mem _ (List.mem_append_left _ (List.mem_append_left _ (List.mem_append_right _ h)))) (by decide +kernel))
set_option maxRecDepth 20000 in
theorem gX9_life_X9_gearAt : GoodIn wsX9_life (wsV RX9 77 RX9 yX9_gearAt wsX9_gearAt) := goodIn_app (goodIn_q _ [2, 3, 4, 5] rfl (by decide +kernel)) ggX9_life_X9_gearAt
set_option maxRecDepth 20000 in
theorem ggX9_life_X9_needRange : GoodIn wsX9_life wsX9_needRange := goodIn_ca (goodIn_q _ [13, 14, 15] rfl (by decide +kernel)) (goodIn_sub (fun _ h => List.mem_cons_of_mem _ (List.mem_append_left _ (List.mem_append_right _ h))) (by decide +kernel))
set_option maxRecDepth 20000 in
theorem gX9_life_X9_needRange : GoodIn wsX9_life (va_wsS RX9 59 yX9_needRange wsX9_needRange) := goodIn_app (goodIn_q _ [11, 12, 5] rfl (by decide +kernel)) ggX9_life_X9_needRange
set_option maxRecDepth 20000 in
theorem ggX9_life_X2_lifeUnder : GoodIn wsX9_life wsX2_lifeUnder := goodIn_ca (goodIn_ca (goodIn_q _ [20, 21, 22, 23, 24, 25, 19, 26, 27, 28, 29, 30, 31, 32, 33, 34, 35, 36, 37, 38, 39, 40, 41, 42, 43, 44, 45, 46, 47, 48, 5, 49] rfl (by decide +kernel)) (goodIn_sub (fun _ h => (List.mem_cons_of_mem _ (List.mem_append_left _ (List.mem_append_left _ (List.mem_append_left _ (List.mem_append_right _ h)))))) tg_wsX20)) (goodIn_sub (fun _ h => List.mem_cons_of_mem _ (List.mem_append_right _ h)) (by decide +kernel))
set_option maxRecDepth 20000 in
theorem gX9_life_X2_lifeUnder : GoodIn wsX9_life (wsV RX9 378 RX2 yX2_lifeUnder wsX2_lifeUnder) := goodIn_app (goodIn_q _ [16, 17, 18, 19] rfl (by decide +kernel)) ggX9_life_X2_lifeUnder
def dsX9_life_0 : ByteArray := ⟨#[42, 27, 182, 0, 77, 78, 28, 4, 18, 244, 184, 0, 59, 45, 28]⟩
theorem daX9_life_0 : agB cX9_life dsX9_life_0 0 := agB_of (n := 15) (by decide +kernel)
theorem dbX9_life_0 : (decode dsX9_life_0 0 = .ok (.aload_n 0, 1) ∧ okop dsX9_life_0 0 = true) ∧ (decode dsX9_life_0 1 = .ok (.iload_n 1, 1) ∧ okop dsX9_life_0 1 = true) ∧ (decode dsX9_life_0 2 = .ok (.invokevirtual 77, 3) ∧ okop dsX9_life_0 2 = true) ∧ (decode dsX9_life_0 5 = .ok (.astore_n 3, 1) ∧ okop dsX9_life_0 5 = true) ∧ (decode dsX9_life_0 6 = .ok (.iload_n 2, 1) ∧ okop dsX9_life_0 6 = true) ∧ (decode dsX9_life_0 7 = .ok (.iconst 1, 1) ∧ okop dsX9_life_0 7 = true) ∧ (decode dsX9_life_0 8 = .ok (.ldc 244, 2) ∧ okop dsX9_life_0 8 = true) ∧ (decode dsX9_life_0 10 = .ok (.invokestatic 59, 3) ∧ okop dsX9_life_0 10 = true) ∧ (decode dsX9_life_0 13 = .ok (.aload_n 3, 1) ∧ okop dsX9_life_0 13 = true) ∧ (decode dsX9_life_0 14 = .ok (.iload_n 2, 1) ∧ okop dsX9_life_0 14 = true) := by decide +kernel
theorem dX9_life_0 : decode cX9_life 0 = .ok (.aload_n 0, 1) := dgq (p := 0) daX9_life_0 dbX9_life_0.1
theorem dX9_life_1 : decode cX9_life 1 = .ok (.iload_n 1, 1) := dgq (p := 1) daX9_life_0 dbX9_life_0.2.1
theorem dX9_life_2 : decode cX9_life 2 = .ok (.invokevirtual 77, 3) := dgq (p := 2) daX9_life_0 dbX9_life_0.2.2.1
theorem dX9_life_5 : decode cX9_life 5 = .ok (.astore_n 3, 1) := dgq (p := 5) daX9_life_0 dbX9_life_0.2.2.2.1
theorem dX9_life_6 : decode cX9_life 6 = .ok (.iload_n 2, 1) := dgq (p := 6) daX9_life_0 dbX9_life_0.2.2.2.2.1
theorem dX9_life_7 : decode cX9_life 7 = .ok (.iconst 1, 1) := dgq (p := 7) daX9_life_0 dbX9_life_0.2.2.2.2.2.1
theorem dX9_life_8 : decode cX9_life 8 = .ok (.ldc 244, 2) := dgq (p := 8) daX9_life_0 dbX9_life_0.2.2.2.2.2.2.1
theorem dX9_life_10 : decode cX9_life 10 = .ok (.invokestatic 59, 3) := dgq (p := 10) daX9_life_0 dbX9_life_0.2.2.2.2.2.2.2.1
theorem dX9_life_13 : decode cX9_life 13 = .ok (.aload_n 3, 1) := dgq (p := 13) daX9_life_0 dbX9_life_0.2.2.2.2.2.2.2.2.1
theorem dX9_life_14 : decode cX9_life 14 = .ok (.iload_n 2, 1) := dgq (p := 14) daX9_life_0 dbX9_life_0.2.2.2.2.2.2.2.2.2
def dsX9_life_15 : ByteArray := ⟨#[133, 182, 1, 122, 173]⟩
theorem daX9_life_15 : agB cX9_life dsX9_life_15 15 := agB_of (n := 5) (by decide +kernel)
theorem dbX9_life_15 : (decode dsX9_life_15 0 = .ok (.i2l, 1) ∧ okop dsX9_life_15 0 = true) ∧ (decode dsX9_life_15 1 = .ok (.invokevirtual 378, 3) ∧ okop dsX9_life_15 1 = true) ∧ (decode dsX9_life_15 4 = .ok (.lreturn, 1) ∧ okop dsX9_life_15 4 = true) := by decide +kernel
theorem dX9_life_15 : decode cX9_life 15 = .ok (.i2l, 1) := dgq (p := 0) daX9_life_15 dbX9_life_15.1
theorem dX9_life_16 : decode cX9_life 16 = .ok (.invokevirtual 378, 3) := dgq (p := 1) daX9_life_15 dbX9_life_15.2.1
theorem dX9_life_19 : decode cX9_life 19 = .ok (.lreturn, 1) := dgq (p := 4) daX9_life_15 dbX9_life_15.2.2
set_option maxRecDepth 20000 in
theorem ggX9_run_X9_gearAt : GoodIn wsX9_run wsX9_gearAt := goodIn_ca (goodIn_ca (goodIn_q _ [8, 9, 10, 11, 12] rfl (by decide +kernel)) (goodIn_sub (fun _ h => (List.mem_cons_of_mem _ (List.mem_append_left _ (List.mem_append_left _ (List.mem_append_left _ (List.mem_append_left _ (List.mem_append_right _ h))))))) tg_wsX90)) (goodIn_sub (fun _ h => List.mem_cons_of_mem _ (List.mem_append_left _ (List.mem_append_left _ (List.mem_append_right _ h)))) (by decide +kernel))
set_option maxRecDepth 20000 in
theorem gX9_run_X9_gearAt : GoodIn wsX9_run (wsV RX9 77 RX9 yX9_gearAt wsX9_gearAt) := goodIn_app (goodIn_q _ [4, 5, 6, 7] rfl (by decide +kernel)) ggX9_run_X9_gearAt
set_option maxRecDepth 20000 in
theorem ggX9_run_X9_needRange : GoodIn wsX9_run wsX9_needRange := goodIn_ca (goodIn_q _ [15, 16, 17] rfl (by decide +kernel)) (goodIn_sub (fun _ h => List.mem_cons_of_mem _ (List.mem_append_left _ (List.mem_append_right _ h))) (by decide +kernel))
set_option maxRecDepth 20000 in
theorem gX9_run_X9_needRange : GoodIn wsX9_run (va_wsS RX9 59 yX9_needRange wsX9_needRange) := goodIn_app (goodIn_q _ [13, 14, 7] rfl (by decide +kernel)) ggX9_run_X9_needRange
set_option maxRecDepth 20000 in
theorem ggX9_run_X9_needPair : GoodIn wsX9_run wsX9_needPair := goodIn_ca (goodIn_ca (goodIn_q _ [20, 21, 22, 23, 24, 25, 26, 27, 28, 29, 7, 30, 31, 32] rfl (by decide +kernel)) (goodIn_sub (fun _ h => (List.mem_cons_of_mem _ (List.mem_append_left _ (List.mem_append_left _ (List.mem_append_left _ (List.mem_append_left _ (List.mem_append_left _ (List.mem_append_right _ h)))))))) tg_wsX20)) (goodIn_sub (fun _ h => List.mem_cons_of_mem _ (List.mem_append_right _ h)) (by decide +kernel))
set_option maxRecDepth 20000 in
theorem gX9_run_X9_needPair : GoodIn wsX9_run (va_wsS RX9 119 yX9_needPair wsX9_needPair) := goodIn_app (goodIn_q _ [18, 19, 7] rfl (by decide +kernel)) ggX9_run_X9_needPair
set_option maxRecDepth 20000 in
theorem ggX9_run_X2_isWhole : GoodIn wsX9_run wsX2_isWhole := goodIn_ca (goodIn_q _ [36, 37, 38, 39, 40, 41, 24, 42, 43, 44] rfl (by decide +kernel)) (goodIn_sub (fun _ h => (List.mem_cons_of_mem _ (List.mem_append_left _ (List.mem_append_left _ (List.mem_append_left _ (List.mem_append_left _ (List.mem_append_left _ (List.mem_append_right _ h)))))))) tg_wsX20)
set_option maxRecDepth 20000 in
theorem gX9_run_X2_isWhole : GoodIn wsX9_run (wsV RX9 311 RX2 yX2_isWhole wsX2_isWhole) := goodIn_app (goodIn_q _ [33, 34, 35, 24] rfl (by decide +kernel)) ggX9_run_X2_isWhole
set_option maxRecDepth 20000 in
theorem ggX9_run_X2_isFreeFor : GoodIn wsX9_run wsX2_isFreeFor := goodIn_ca (goodIn_q _ [48, 49, 50] rfl (by decide +kernel)) (goodIn_sub (fun _ h => (List.mem_cons_of_mem _ (List.mem_append_left _ (List.mem_append_left _ (List.mem_append_left _ (List.mem_append_left _ (List.mem_append_left _ (List.mem_append_right _ h)))))))) tg_wsX20)
set_option maxRecDepth 20000 in
theorem gX9_run_X2_isFreeFor : GoodIn wsX9_run (wsV RX9 381 RX2 yX2_isFreeFor wsX2_isFreeFor) := goodIn_app (goodIn_q _ [45, 46, 47, 24] rfl (by decide +kernel)) ggX9_run_X2_isFreeFor
set_option maxRecDepth 20000 in
theorem ggX9_run_X9_allowOnly : GoodIn wsX9_run wsX9_allowOnly := goodIn_ca (goodIn_q _ [30, 31, 32] rfl (by decide +kernel)) (goodIn_sub (fun _ h => List.mem_cons_of_mem _ (List.mem_append_right _ h)) (by decide +kernel))
set_option maxRecDepth 20000 in
theorem gX9_run_X9_allowOnly : GoodIn wsX9_run (va_wsS RX9 85 yX9_allowOnly wsX9_allowOnly) := goodIn_app (goodIn_q _ [28, 29, 7] rfl (by decide +kernel)) ggX9_run_X9_allowOnly
set_option maxRecDepth 20000 in
theorem ggX9_run_X2_turn : GoodIn wsX9_run wsX2_turn := goodIn_ca (goodIn_ca (goodIn_q _ [54, 43, 44, 55, 56, 57, 24, 58, 59, 60, 61, 62, 63, 64, 65, 66, 67, 68, 69, 70, 71, 26, 72, 73, 74, 75, 76, 77, 78, 79, 80, 81, 82, 83, 84, 7, 85] rfl (by decide +kernel)) (goodIn_sub (fun _ h => (List.mem_cons_of_mem _ (List.mem_append_left _ (List.mem_append_left _ (List.mem_append_left _ (List.mem_append_left _ (List.mem_append_left _ (List.mem_append_right _ h)))))))) tg_wsX20)) (goodIn_sub (fun _ h => List.mem_cons_of_mem _ (List.mem_append_left _ (List.mem_append_left _ (List.mem_append_left _ (List.mem_append_right _ h))))) (by decide +kernel))
set_option maxRecDepth 20000 in
theorem gX9_run_X2_turn : GoodIn wsX9_run (wsV RX9 384 RX2 yX2_turn wsX2_turn) := goodIn_app (goodIn_q _ [51, 52, 53, 24] rfl (by decide +kernel)) ggX9_run_X2_turn
set_option maxRecDepth 20000 in
theorem ggX9_run_X2_isBroken : GoodIn wsX9_run wsX2_isBroken := goodIn_ca (goodIn_q _ [42, 43, 44] rfl (by decide +kernel)) (goodIn_sub (fun _ h => (List.mem_cons_of_mem _ (List.mem_append_left _ (List.mem_append_left _ (List.mem_append_left _ (List.mem_append_left _ (List.mem_append_left _ (List.mem_append_right _ h)))))))) tg_wsX20)
set_option maxRecDepth 20000 in
theorem gX9_run_X2_isBroken : GoodIn wsX9_run (wsV RX9 330 RX2 yX2_isBroken wsX2_isBroken) := goodIn_app (goodIn_q _ [86, 40, 41, 24] rfl (by decide +kernel)) ggX9_run_X2_isBroken
def dsX9_run_0 : ByteArray := ⟨#[42, 27, 182, 0, 77, 58, 5, 42, 28, 182, 0, 77, 58, 6, 29, 4]⟩
theorem daX9_run_0 : agB cX9_run dsX9_run_0 0 := agB_of (n := 16) (by decide +kernel)
theorem dbX9_run_0 : (decode dsX9_run_0 0 = .ok (.aload_n 0, 1) ∧ okop dsX9_run_0 0 = true) ∧ (decode dsX9_run_0 1 = .ok (.iload_n 1, 1) ∧ okop dsX9_run_0 1 = true) ∧ (decode dsX9_run_0 2 = .ok (.invokevirtual 77, 3) ∧ okop dsX9_run_0 2 = true) ∧ (decode dsX9_run_0 5 = .ok (.astore 5, 2) ∧ okop dsX9_run_0 5 = true) ∧ (decode dsX9_run_0 7 = .ok (.aload_n 0, 1) ∧ okop dsX9_run_0 7 = true) ∧ (decode dsX9_run_0 8 = .ok (.iload_n 2, 1) ∧ okop dsX9_run_0 8 = true) ∧ (decode dsX9_run_0 9 = .ok (.invokevirtual 77, 3) ∧ okop dsX9_run_0 9 = true) ∧ (decode dsX9_run_0 12 = .ok (.astore 6, 2) ∧ okop dsX9_run_0 12 = true) ∧ (decode dsX9_run_0 14 = .ok (.iload_n 3, 1) ∧ okop dsX9_run_0 14 = true) ∧ (decode dsX9_run_0 15 = .ok (.iconst 1, 1) ∧ okop dsX9_run_0 15 = true) := by decide +kernel
theorem dX9_run_0 : decode cX9_run 0 = .ok (.aload_n 0, 1) := dgq (p := 0) daX9_run_0 dbX9_run_0.1
theorem dX9_run_1 : decode cX9_run 1 = .ok (.iload_n 1, 1) := dgq (p := 1) daX9_run_0 dbX9_run_0.2.1
theorem dX9_run_2 : decode cX9_run 2 = .ok (.invokevirtual 77, 3) := dgq (p := 2) daX9_run_0 dbX9_run_0.2.2.1
theorem dX9_run_5 : decode cX9_run 5 = .ok (.astore 5, 2) := dgq (p := 5) daX9_run_0 dbX9_run_0.2.2.2.1
theorem dX9_run_7 : decode cX9_run 7 = .ok (.aload_n 0, 1) := dgq (p := 7) daX9_run_0 dbX9_run_0.2.2.2.2.1
theorem dX9_run_8 : decode cX9_run 8 = .ok (.iload_n 2, 1) := dgq (p := 8) daX9_run_0 dbX9_run_0.2.2.2.2.2.1
theorem dX9_run_9 : decode cX9_run 9 = .ok (.invokevirtual 77, 3) := dgq (p := 9) daX9_run_0 dbX9_run_0.2.2.2.2.2.2.1
theorem dX9_run_12 : decode cX9_run 12 = .ok (.astore 6, 2) := dgq (p := 12) daX9_run_0 dbX9_run_0.2.2.2.2.2.2.2.1
theorem dX9_run_14 : decode cX9_run 14 = .ok (.iload_n 3, 1) := dgq (p := 14) daX9_run_0 dbX9_run_0.2.2.2.2.2.2.2.2.1
theorem dX9_run_15 : decode cX9_run 15 = .ok (.iconst 1, 1) := dgq (p := 15) daX9_run_0 dbX9_run_0.2.2.2.2.2.2.2.2.2
def dsX9_run_16 : ByteArray := ⟨#[18, 63, 184, 0, 59, 21, 4, 4, 18, 244, 184, 0, 59, 25, 5, 25, 6, 184, 0, 119, 25, 5]⟩
theorem daX9_run_16 : agB cX9_run dsX9_run_16 16 := agB_of (n := 22) (by decide +kernel)
theorem dbX9_run_16 : (decode dsX9_run_16 0 = .ok (.ldc 63, 2) ∧ okop dsX9_run_16 0 = true) ∧ (decode dsX9_run_16 2 = .ok (.invokestatic 59, 3) ∧ okop dsX9_run_16 2 = true) ∧ (decode dsX9_run_16 5 = .ok (.iload 4, 2) ∧ okop dsX9_run_16 5 = true) ∧ (decode dsX9_run_16 7 = .ok (.iconst 1, 1) ∧ okop dsX9_run_16 7 = true) ∧ (decode dsX9_run_16 8 = .ok (.ldc 244, 2) ∧ okop dsX9_run_16 8 = true) ∧ (decode dsX9_run_16 10 = .ok (.invokestatic 59, 3) ∧ okop dsX9_run_16 10 = true) ∧ (decode dsX9_run_16 13 = .ok (.aload 5, 2) ∧ okop dsX9_run_16 13 = true) ∧ (decode dsX9_run_16 15 = .ok (.aload 6, 2) ∧ okop dsX9_run_16 15 = true) ∧ (decode dsX9_run_16 17 = .ok (.invokestatic 119, 3) ∧ okop dsX9_run_16 17 = true) ∧ (decode dsX9_run_16 20 = .ok (.aload 5, 2) ∧ okop dsX9_run_16 20 = true) := by decide +kernel
theorem dX9_run_16 : decode cX9_run 16 = .ok (.ldc 63, 2) := dgq (p := 0) daX9_run_16 dbX9_run_16.1
theorem dX9_run_18 : decode cX9_run 18 = .ok (.invokestatic 59, 3) := dgq (p := 2) daX9_run_16 dbX9_run_16.2.1
theorem dX9_run_21 : decode cX9_run 21 = .ok (.iload 4, 2) := dgq (p := 5) daX9_run_16 dbX9_run_16.2.2.1
theorem dX9_run_23 : decode cX9_run 23 = .ok (.iconst 1, 1) := dgq (p := 7) daX9_run_16 dbX9_run_16.2.2.2.1
theorem dX9_run_24 : decode cX9_run 24 = .ok (.ldc 244, 2) := dgq (p := 8) daX9_run_16 dbX9_run_16.2.2.2.2.1
theorem dX9_run_26 : decode cX9_run 26 = .ok (.invokestatic 59, 3) := dgq (p := 10) daX9_run_16 dbX9_run_16.2.2.2.2.2.1
theorem dX9_run_29 : decode cX9_run 29 = .ok (.aload 5, 2) := dgq (p := 13) daX9_run_16 dbX9_run_16.2.2.2.2.2.2.1
theorem dX9_run_31 : decode cX9_run 31 = .ok (.aload 6, 2) := dgq (p := 15) daX9_run_16 dbX9_run_16.2.2.2.2.2.2.2.1
theorem dX9_run_33 : decode cX9_run 33 = .ok (.invokestatic 119, 3) := dgq (p := 17) daX9_run_16 dbX9_run_16.2.2.2.2.2.2.2.2.1
theorem dX9_run_36 : decode cX9_run 36 = .ok (.aload 5, 2) := dgq (p := 20) daX9_run_16 dbX9_run_16.2.2.2.2.2.2.2.2.2
def dsX9_run_38 : ByteArray := ⟨#[182, 1, 55, 153, 0, 35, 25, 6, 182, 1, 55, 153, 0, 27, 25, 5, 25, 6, 182, 1, 125, 153, 0, 17, 25, 6]⟩
theorem daX9_run_38 : agB cX9_run dsX9_run_38 38 := agB_of (n := 26) (by decide +kernel)
theorem dbX9_run_38 : (decode dsX9_run_38 0 = .ok (.invokevirtual 311, 3) ∧ okop dsX9_run_38 0 = true) ∧ (decode dsX9_run_38 3 = .ok (.ifCond .eq 35, 3) ∧ okop dsX9_run_38 3 = true) ∧ (decode dsX9_run_38 6 = .ok (.aload 6, 2) ∧ okop dsX9_run_38 6 = true) ∧ (decode dsX9_run_38 8 = .ok (.invokevirtual 311, 3) ∧ okop dsX9_run_38 8 = true) ∧ (decode dsX9_run_38 11 = .ok (.ifCond .eq 27, 3) ∧ okop dsX9_run_38 11 = true) ∧ (decode dsX9_run_38 14 = .ok (.aload 5, 2) ∧ okop dsX9_run_38 14 = true) ∧ (decode dsX9_run_38 16 = .ok (.aload 6, 2) ∧ okop dsX9_run_38 16 = true) ∧ (decode dsX9_run_38 18 = .ok (.invokevirtual 381, 3) ∧ okop dsX9_run_38 18 = true) ∧ (decode dsX9_run_38 21 = .ok (.ifCond .eq 17, 3) ∧ okop dsX9_run_38 21 = true) ∧ (decode dsX9_run_38 24 = .ok (.aload 6, 2) ∧ okop dsX9_run_38 24 = true) := by decide +kernel
theorem dX9_run_38 : decode cX9_run 38 = .ok (.invokevirtual 311, 3) := dgq (p := 0) daX9_run_38 dbX9_run_38.1
theorem dX9_run_41 : decode cX9_run 41 = .ok (.ifCond .eq 35, 3) := dgq (p := 3) daX9_run_38 dbX9_run_38.2.1
theorem dX9_run_44 : decode cX9_run 44 = .ok (.aload 6, 2) := dgq (p := 6) daX9_run_38 dbX9_run_38.2.2.1
theorem dX9_run_46 : decode cX9_run 46 = .ok (.invokevirtual 311, 3) := dgq (p := 8) daX9_run_38 dbX9_run_38.2.2.2.1
theorem dX9_run_49 : decode cX9_run 49 = .ok (.ifCond .eq 27, 3) := dgq (p := 11) daX9_run_38 dbX9_run_38.2.2.2.2.1
theorem dX9_run_52 : decode cX9_run 52 = .ok (.aload 5, 2) := dgq (p := 14) daX9_run_38 dbX9_run_38.2.2.2.2.2.1
theorem dX9_run_54 : decode cX9_run 54 = .ok (.aload 6, 2) := dgq (p := 16) daX9_run_38 dbX9_run_38.2.2.2.2.2.2.1
theorem dX9_run_56 : decode cX9_run 56 = .ok (.invokevirtual 381, 3) := dgq (p := 18) daX9_run_38 dbX9_run_38.2.2.2.2.2.2.2.1
theorem dX9_run_59 : decode cX9_run 59 = .ok (.ifCond .eq 17, 3) := dgq (p := 21) daX9_run_38 dbX9_run_38.2.2.2.2.2.2.2.2.1
theorem dX9_run_62 : decode cX9_run 62 = .ok (.aload 6, 2) := dgq (p := 24) daX9_run_38 dbX9_run_38.2.2.2.2.2.2.2.2.2
def dsX9_run_64 : ByteArray := ⟨#[25, 5, 182, 1, 125, 153, 0, 7, 4, 167, 0, 4, 3, 184, 0, 85, 25, 5, 29, 133]⟩
theorem daX9_run_64 : agB cX9_run dsX9_run_64 64 := agB_of (n := 20) (by decide +kernel)
theorem dbX9_run_64 : (decode dsX9_run_64 0 = .ok (.aload 5, 2) ∧ okop dsX9_run_64 0 = true) ∧ (decode dsX9_run_64 2 = .ok (.invokevirtual 381, 3) ∧ okop dsX9_run_64 2 = true) ∧ (decode dsX9_run_64 5 = .ok (.ifCond .eq 7, 3) ∧ okop dsX9_run_64 5 = true) ∧ (decode dsX9_run_64 8 = .ok (.iconst 1, 1) ∧ okop dsX9_run_64 8 = true) ∧ (decode dsX9_run_64 9 = .ok (.goto 4, 3) ∧ okop dsX9_run_64 9 = true) ∧ (decode dsX9_run_64 12 = .ok (.iconst 0, 1) ∧ okop dsX9_run_64 12 = true) ∧ (decode dsX9_run_64 13 = .ok (.invokestatic 85, 3) ∧ okop dsX9_run_64 13 = true) ∧ (decode dsX9_run_64 16 = .ok (.aload 5, 2) ∧ okop dsX9_run_64 16 = true) ∧ (decode dsX9_run_64 18 = .ok (.iload_n 3, 1) ∧ okop dsX9_run_64 18 = true) ∧ (decode dsX9_run_64 19 = .ok (.i2l, 1) ∧ okop dsX9_run_64 19 = true) := by decide +kernel
theorem dX9_run_64 : decode cX9_run 64 = .ok (.aload 5, 2) := dgq (p := 0) daX9_run_64 dbX9_run_64.1
theorem dX9_run_66 : decode cX9_run 66 = .ok (.invokevirtual 381, 3) := dgq (p := 2) daX9_run_64 dbX9_run_64.2.1
theorem dX9_run_69 : decode cX9_run 69 = .ok (.ifCond .eq 7, 3) := dgq (p := 5) daX9_run_64 dbX9_run_64.2.2.1
theorem dX9_run_72 : decode cX9_run 72 = .ok (.iconst 1, 1) := dgq (p := 8) daX9_run_64 dbX9_run_64.2.2.2.1
theorem dX9_run_73 : decode cX9_run 73 = .ok (.goto 4, 3) := dgq (p := 9) daX9_run_64 dbX9_run_64.2.2.2.2.1
theorem dX9_run_76 : decode cX9_run 76 = .ok (.iconst 0, 1) := dgq (p := 12) daX9_run_64 dbX9_run_64.2.2.2.2.2.1
theorem dX9_run_77 : decode cX9_run 77 = .ok (.invokestatic 85, 3) := dgq (p := 13) daX9_run_64 dbX9_run_64.2.2.2.2.2.2.1
theorem dX9_run_80 : decode cX9_run 80 = .ok (.aload 5, 2) := dgq (p := 16) daX9_run_64 dbX9_run_64.2.2.2.2.2.2.2.1
theorem dX9_run_82 : decode cX9_run 82 = .ok (.iload_n 3, 1) := dgq (p := 18) daX9_run_64 dbX9_run_64.2.2.2.2.2.2.2.2.1
theorem dX9_run_83 : decode cX9_run 83 = .ok (.i2l, 1) := dgq (p := 19) daX9_run_64 dbX9_run_64.2.2.2.2.2.2.2.2.2
def dsX9_run_84 : ByteArray := ⟨#[21, 4, 133, 182, 1, 128, 25, 6, 29, 133, 25, 6, 180, 0, 100, 133, 105]⟩
theorem daX9_run_84 : agB cX9_run dsX9_run_84 84 := agB_of (n := 17) (by decide +kernel)
theorem dbX9_run_84 : (decode dsX9_run_84 0 = .ok (.iload 4, 2) ∧ okop dsX9_run_84 0 = true) ∧ (decode dsX9_run_84 2 = .ok (.i2l, 1) ∧ okop dsX9_run_84 2 = true) ∧ (decode dsX9_run_84 3 = .ok (.invokevirtual 384, 3) ∧ okop dsX9_run_84 3 = true) ∧ (decode dsX9_run_84 6 = .ok (.aload 6, 2) ∧ okop dsX9_run_84 6 = true) ∧ (decode dsX9_run_84 8 = .ok (.iload_n 3, 1) ∧ okop dsX9_run_84 8 = true) ∧ (decode dsX9_run_84 9 = .ok (.i2l, 1) ∧ okop dsX9_run_84 9 = true) ∧ (decode dsX9_run_84 10 = .ok (.aload 6, 2) ∧ okop dsX9_run_84 10 = true) ∧ (decode dsX9_run_84 12 = .ok (.getfield 100, 3) ∧ okop dsX9_run_84 12 = true) ∧ (decode dsX9_run_84 15 = .ok (.i2l, 1) ∧ okop dsX9_run_84 15 = true) ∧ (decode dsX9_run_84 16 = .ok (.lmul, 1) ∧ okop dsX9_run_84 16 = true) := by decide +kernel
theorem dX9_run_84 : decode cX9_run 84 = .ok (.iload 4, 2) := dgq (p := 0) daX9_run_84 dbX9_run_84.1
theorem dX9_run_86 : decode cX9_run 86 = .ok (.i2l, 1) := dgq (p := 2) daX9_run_84 dbX9_run_84.2.1
theorem dX9_run_87 : decode cX9_run 87 = .ok (.invokevirtual 384, 3) := dgq (p := 3) daX9_run_84 dbX9_run_84.2.2.1
theorem dX9_run_90 : decode cX9_run 90 = .ok (.aload 6, 2) := dgq (p := 6) daX9_run_84 dbX9_run_84.2.2.2.1
theorem dX9_run_92 : decode cX9_run 92 = .ok (.iload_n 3, 1) := dgq (p := 8) daX9_run_84 dbX9_run_84.2.2.2.2.1
theorem dX9_run_93 : decode cX9_run 93 = .ok (.i2l, 1) := dgq (p := 9) daX9_run_84 dbX9_run_84.2.2.2.2.2.1
theorem dX9_run_94 : decode cX9_run 94 = .ok (.aload 6, 2) := dgq (p := 10) daX9_run_84 dbX9_run_84.2.2.2.2.2.2.1
theorem dX9_run_96 : decode cX9_run 96 = .ok (.getfield 100, 3) := dgq (p := 12) daX9_run_84 dbX9_run_84.2.2.2.2.2.2.2.1
theorem dX9_run_99 : decode cX9_run 99 = .ok (.i2l, 1) := dgq (p := 15) daX9_run_84 dbX9_run_84.2.2.2.2.2.2.2.2.1
theorem dX9_run_100 : decode cX9_run 100 = .ok (.lmul, 1) := dgq (p := 16) daX9_run_84 dbX9_run_84.2.2.2.2.2.2.2.2.2
def dsX9_run_101 : ByteArray := ⟨#[25, 5, 180, 0, 100, 133, 109, 21, 4, 133, 25, 5, 180, 0, 100, 133, 105]⟩
theorem daX9_run_101 : agB cX9_run dsX9_run_101 101 := agB_of (n := 17) (by decide +kernel)
theorem dbX9_run_101 : (decode dsX9_run_101 0 = .ok (.aload 5, 2) ∧ okop dsX9_run_101 0 = true) ∧ (decode dsX9_run_101 2 = .ok (.getfield 100, 3) ∧ okop dsX9_run_101 2 = true) ∧ (decode dsX9_run_101 5 = .ok (.i2l, 1) ∧ okop dsX9_run_101 5 = true) ∧ (decode dsX9_run_101 6 = .ok (.ldiv, 1) ∧ okop dsX9_run_101 6 = true) ∧ (decode dsX9_run_101 7 = .ok (.iload 4, 2) ∧ okop dsX9_run_101 7 = true) ∧ (decode dsX9_run_101 9 = .ok (.i2l, 1) ∧ okop dsX9_run_101 9 = true) ∧ (decode dsX9_run_101 10 = .ok (.aload 5, 2) ∧ okop dsX9_run_101 10 = true) ∧ (decode dsX9_run_101 12 = .ok (.getfield 100, 3) ∧ okop dsX9_run_101 12 = true) ∧ (decode dsX9_run_101 15 = .ok (.i2l, 1) ∧ okop dsX9_run_101 15 = true) ∧ (decode dsX9_run_101 16 = .ok (.lmul, 1) ∧ okop dsX9_run_101 16 = true) := by decide +kernel
theorem dX9_run_101 : decode cX9_run 101 = .ok (.aload 5, 2) := dgq (p := 0) daX9_run_101 dbX9_run_101.1
theorem dX9_run_103 : decode cX9_run 103 = .ok (.getfield 100, 3) := dgq (p := 2) daX9_run_101 dbX9_run_101.2.1
theorem dX9_run_106 : decode cX9_run 106 = .ok (.i2l, 1) := dgq (p := 5) daX9_run_101 dbX9_run_101.2.2.1
theorem dX9_run_107 : decode cX9_run 107 = .ok (.ldiv, 1) := dgq (p := 6) daX9_run_101 dbX9_run_101.2.2.2.1
theorem dX9_run_108 : decode cX9_run 108 = .ok (.iload 4, 2) := dgq (p := 7) daX9_run_101 dbX9_run_101.2.2.2.2.1
theorem dX9_run_110 : decode cX9_run 110 = .ok (.i2l, 1) := dgq (p := 9) daX9_run_101 dbX9_run_101.2.2.2.2.2.1
theorem dX9_run_111 : decode cX9_run 111 = .ok (.aload 5, 2) := dgq (p := 10) daX9_run_101 dbX9_run_101.2.2.2.2.2.2.1
theorem dX9_run_113 : decode cX9_run 113 = .ok (.getfield 100, 3) := dgq (p := 12) daX9_run_101 dbX9_run_101.2.2.2.2.2.2.2.1
theorem dX9_run_116 : decode cX9_run 116 = .ok (.i2l, 1) := dgq (p := 15) daX9_run_101 dbX9_run_101.2.2.2.2.2.2.2.2.1
theorem dX9_run_117 : decode cX9_run 117 = .ok (.lmul, 1) := dgq (p := 16) daX9_run_101 dbX9_run_101.2.2.2.2.2.2.2.2.2
def dsX9_run_118 : ByteArray := ⟨#[25, 6, 180, 0, 100, 133, 109, 182, 1, 128, 25, 5, 182, 1, 74, 153, 0, 7, 4, 167, 0, 4]⟩
theorem daX9_run_118 : agB cX9_run dsX9_run_118 118 := agB_of (n := 22) (by decide +kernel)
theorem dbX9_run_118 : (decode dsX9_run_118 0 = .ok (.aload 6, 2) ∧ okop dsX9_run_118 0 = true) ∧ (decode dsX9_run_118 2 = .ok (.getfield 100, 3) ∧ okop dsX9_run_118 2 = true) ∧ (decode dsX9_run_118 5 = .ok (.i2l, 1) ∧ okop dsX9_run_118 5 = true) ∧ (decode dsX9_run_118 6 = .ok (.ldiv, 1) ∧ okop dsX9_run_118 6 = true) ∧ (decode dsX9_run_118 7 = .ok (.invokevirtual 384, 3) ∧ okop dsX9_run_118 7 = true) ∧ (decode dsX9_run_118 10 = .ok (.aload 5, 2) ∧ okop dsX9_run_118 10 = true) ∧ (decode dsX9_run_118 12 = .ok (.invokevirtual 330, 3) ∧ okop dsX9_run_118 12 = true) ∧ (decode dsX9_run_118 15 = .ok (.ifCond .eq 7, 3) ∧ okop dsX9_run_118 15 = true) ∧ (decode dsX9_run_118 18 = .ok (.iconst 1, 1) ∧ okop dsX9_run_118 18 = true) ∧ (decode dsX9_run_118 19 = .ok (.goto 4, 3) ∧ okop dsX9_run_118 19 = true) := by decide +kernel
theorem dX9_run_118 : decode cX9_run 118 = .ok (.aload 6, 2) := dgq (p := 0) daX9_run_118 dbX9_run_118.1
theorem dX9_run_120 : decode cX9_run 120 = .ok (.getfield 100, 3) := dgq (p := 2) daX9_run_118 dbX9_run_118.2.1
theorem dX9_run_123 : decode cX9_run 123 = .ok (.i2l, 1) := dgq (p := 5) daX9_run_118 dbX9_run_118.2.2.1
theorem dX9_run_124 : decode cX9_run 124 = .ok (.ldiv, 1) := dgq (p := 6) daX9_run_118 dbX9_run_118.2.2.2.1
theorem dX9_run_125 : decode cX9_run 125 = .ok (.invokevirtual 384, 3) := dgq (p := 7) daX9_run_118 dbX9_run_118.2.2.2.2.1
theorem dX9_run_128 : decode cX9_run 128 = .ok (.aload 5, 2) := dgq (p := 10) daX9_run_118 dbX9_run_118.2.2.2.2.2.1
theorem dX9_run_130 : decode cX9_run 130 = .ok (.invokevirtual 330, 3) := dgq (p := 12) daX9_run_118 dbX9_run_118.2.2.2.2.2.2.1
theorem dX9_run_133 : decode cX9_run 133 = .ok (.ifCond .eq 7, 3) := dgq (p := 15) daX9_run_118 dbX9_run_118.2.2.2.2.2.2.2.1
theorem dX9_run_136 : decode cX9_run 136 = .ok (.iconst 1, 1) := dgq (p := 18) daX9_run_118 dbX9_run_118.2.2.2.2.2.2.2.2.1
theorem dX9_run_137 : decode cX9_run 137 = .ok (.goto 4, 3) := dgq (p := 19) daX9_run_118 dbX9_run_118.2.2.2.2.2.2.2.2.2
def dsX9_run_140 : ByteArray := ⟨#[3, 25, 6, 182, 1, 74, 153, 0, 7, 4, 167, 0, 4, 3, 96, 172]⟩
theorem daX9_run_140 : agB cX9_run dsX9_run_140 140 := agB_of (n := 16) (by decide +kernel)
theorem dbX9_run_140 : (decode dsX9_run_140 0 = .ok (.iconst 0, 1) ∧ okop dsX9_run_140 0 = true) ∧ (decode dsX9_run_140 1 = .ok (.aload 6, 2) ∧ okop dsX9_run_140 1 = true) ∧ (decode dsX9_run_140 3 = .ok (.invokevirtual 330, 3) ∧ okop dsX9_run_140 3 = true) ∧ (decode dsX9_run_140 6 = .ok (.ifCond .eq 7, 3) ∧ okop dsX9_run_140 6 = true) ∧ (decode dsX9_run_140 9 = .ok (.iconst 1, 1) ∧ okop dsX9_run_140 9 = true) ∧ (decode dsX9_run_140 10 = .ok (.goto 4, 3) ∧ okop dsX9_run_140 10 = true) ∧ (decode dsX9_run_140 13 = .ok (.iconst 0, 1) ∧ okop dsX9_run_140 13 = true) ∧ (decode dsX9_run_140 14 = .ok (.iadd, 1) ∧ okop dsX9_run_140 14 = true) ∧ (decode dsX9_run_140 15 = .ok (.ireturn, 1) ∧ okop dsX9_run_140 15 = true) := by decide +kernel
theorem dX9_run_140 : decode cX9_run 140 = .ok (.iconst 0, 1) := dgq (p := 0) daX9_run_140 dbX9_run_140.1
theorem dX9_run_141 : decode cX9_run 141 = .ok (.aload 6, 2) := dgq (p := 1) daX9_run_140 dbX9_run_140.2.1
theorem dX9_run_143 : decode cX9_run 143 = .ok (.invokevirtual 330, 3) := dgq (p := 3) daX9_run_140 dbX9_run_140.2.2.1
theorem dX9_run_146 : decode cX9_run 146 = .ok (.ifCond .eq 7, 3) := dgq (p := 6) daX9_run_140 dbX9_run_140.2.2.2.1
theorem dX9_run_149 : decode cX9_run 149 = .ok (.iconst 1, 1) := dgq (p := 9) daX9_run_140 dbX9_run_140.2.2.2.2.1
theorem dX9_run_150 : decode cX9_run 150 = .ok (.goto 4, 3) := dgq (p := 10) daX9_run_140 dbX9_run_140.2.2.2.2.2.1
theorem dX9_run_153 : decode cX9_run 153 = .ok (.iconst 0, 1) := dgq (p := 13) daX9_run_140 dbX9_run_140.2.2.2.2.2.2.1
theorem dX9_run_154 : decode cX9_run 154 = .ok (.iadd, 1) := dgq (p := 14) daX9_run_140 dbX9_run_140.2.2.2.2.2.2.2.1
theorem dX9_run_155 : decode cX9_run 155 = .ok (.ireturn, 1) := dgq (p := 15) daX9_run_140 dbX9_run_140.2.2.2.2.2.2.2.2
set_option maxRecDepth 20000 in
theorem ggX9_damage_X9_gearAt : GoodIn wsX9_damage wsX9_gearAt := goodIn_ca (goodIn_ca (goodIn_q _ [6, 7, 8, 9, 10] rfl (by decide +kernel)) (goodIn_sub (fun _ h => (List.mem_cons_of_mem _ (List.mem_append_left _ (List.mem_append_right _ h)))) tg_wsX90)) (goodIn_sub (fun _ h => List.mem_cons_of_mem _ (List.mem_append_right _ h)) (by decide +kernel))
set_option maxRecDepth 20000 in
theorem gX9_damage_X9_gearAt : GoodIn wsX9_damage (wsV RX9 77 RX9 yX9_gearAt wsX9_gearAt) := goodIn_app (goodIn_q _ [2, 3, 4, 5] rfl (by decide +kernel)) ggX9_damage_X9_gearAt
def dsX9_damage_0 : ByteArray := ⟨#[42, 27, 182, 0, 77, 180, 1, 131, 173]⟩
theorem daX9_damage_0 : agB cX9_damage dsX9_damage_0 0 := agB_of (n := 9) (by decide +kernel)
theorem dbX9_damage_0 : (decode dsX9_damage_0 0 = .ok (.aload_n 0, 1) ∧ okop dsX9_damage_0 0 = true) ∧ (decode dsX9_damage_0 1 = .ok (.iload_n 1, 1) ∧ okop dsX9_damage_0 1 = true) ∧ (decode dsX9_damage_0 2 = .ok (.invokevirtual 77, 3) ∧ okop dsX9_damage_0 2 = true) ∧ (decode dsX9_damage_0 5 = .ok (.getfield 387, 3) ∧ okop dsX9_damage_0 5 = true) ∧ (decode dsX9_damage_0 8 = .ok (.lreturn, 1) ∧ okop dsX9_damage_0 8 = true) := by decide +kernel
theorem dX9_damage_0 : decode cX9_damage 0 = .ok (.aload_n 0, 1) := dgq (p := 0) daX9_damage_0 dbX9_damage_0.1
theorem dX9_damage_1 : decode cX9_damage 1 = .ok (.iload_n 1, 1) := dgq (p := 1) daX9_damage_0 dbX9_damage_0.2.1
theorem dX9_damage_2 : decode cX9_damage 2 = .ok (.invokevirtual 77, 3) := dgq (p := 2) daX9_damage_0 dbX9_damage_0.2.2.1
theorem dX9_damage_5 : decode cX9_damage 5 = .ok (.getfield 387, 3) := dgq (p := 5) daX9_damage_0 dbX9_damage_0.2.2.2.1
theorem dX9_damage_8 : decode cX9_damage 8 = .ok (.lreturn, 1) := dgq (p := 8) daX9_damage_0 dbX9_damage_0.2.2.2.2
set_option maxRecDepth 20000 in
theorem ggX9_match_X9_needRange : GoodIn wsX9_match wsX9_needRange := goodIn_ca (goodIn_q _ [13, 1, 2] rfl (by decide +kernel)) (goodIn_sub (fun _ h => List.mem_cons_of_mem _ (List.mem_append_left _ (List.mem_append_left _ (List.mem_append_left _ (List.mem_append_right _ h))))) (by decide +kernel))
set_option maxRecDepth 20000 in
theorem gX9_match_X9_needRange : GoodIn wsX9_match (va_wsS RX9 59 yX9_needRange wsX9_needRange) := goodIn_app (goodIn_q _ [10, 11, 12] rfl (by decide +kernel)) ggX9_match_X9_needRange
set_option maxRecDepth 20000 in
theorem ggX9_match_X4_begin : GoodIn wsX9_match wsX4_begin := goodIn_ca (goodIn_q _ [18, 19, 20] rfl (by decide +kernel)) (goodIn_sub (fun _ h => (List.mem_cons_of_mem _ (List.mem_append_left _ (List.mem_append_left _ (List.mem_append_left _ (List.mem_append_left _ (List.mem_append_left _ (List.mem_append_left _ (List.mem_append_right _ h))))))))) tg_wsX40)
set_option maxRecDepth 20000 in
theorem gX9_match_X4_begin : GoodIn wsX9_match (wsV RX9 393 RX4 yX4_begin wsX4_begin) := goodIn_app (goodIn_q _ [14, 15, 16, 17] rfl (by decide +kernel)) ggX9_match_X4_begin
set_option maxRecDepth 20000 in
theorem ggX9_match_X2_isWhole : GoodIn wsX9_match wsX2_isWhole := goodIn_ca (goodIn_q _ [25, 26, 27, 28, 29, 30, 24, 31, 32, 33] rfl (by decide +kernel)) (goodIn_sub (fun _ h => (List.mem_cons_of_mem _ (List.mem_append_left _ (List.mem_append_left _ (List.mem_append_left _ (List.mem_append_left _ (List.mem_append_left _ (List.mem_append_left _ (List.mem_append_left _ (List.mem_append_right _ h)))))))))) tg_wsX20)
set_option maxRecDepth 20000 in
theorem gX9_match_X2_isWhole : GoodIn wsX9_match (wsV RX9 311 RX2 yX2_isWhole wsX2_isWhole) := goodIn_app (goodIn_q _ [21, 22, 23, 24] rfl (by decide +kernel)) ggX9_match_X2_isWhole
set_option maxRecDepth 20000 in
theorem ggX9_match_X4_offer : GoodIn wsX9_match wsX4_offer := goodIn_ca (goodIn_ca (goodIn_q _ [37, 38, 19, 39, 20, 40] rfl (by decide +kernel)) (goodIn_sub (fun _ h => (List.mem_cons_of_mem _ (List.mem_append_left _ (List.mem_append_left _ (List.mem_append_left _ (List.mem_append_left _ (List.mem_append_left _ (List.mem_append_left _ (List.mem_append_left _ (List.mem_append_right _ h)))))))))) tg_wsX20)) (goodIn_sub (fun _ h => (List.mem_cons_of_mem _ (List.mem_append_left _ (List.mem_append_left _ (List.mem_append_left _ (List.mem_append_left _ (List.mem_append_left _ (List.mem_append_left _ (List.mem_append_right _ h))))))))) tg_wsX40)
set_option maxRecDepth 20000 in
theorem gX9_match_X4_offer : GoodIn wsX9_match (wsV RX9 399 RX4 yX4_offer wsX4_offer) := goodIn_app (goodIn_q _ [34, 35, 36, 17] rfl (by decide +kernel)) ggX9_match_X4_offer
set_option maxRecDepth 20000 in
theorem ggX9_match_X4_rollAll : GoodIn wsX9_match wsX4_rollAll := goodIn_ca (goodIn_ca (goodIn_ca (goodIn_ca (goodIn_ca (goodIn_ca (goodIn_q _ [44, 19, 20, 45, 39, 40, 46, 47, 48, 49, 24, 50, 51, 52, 53, 54, 55, 56, 57, 58, 59, 60, 61, 62, 63, 64, 65, 66, 67, 68, 69, 70, 71, 12, 72, 73, 74, 75, 76, 77, 78, 79, 80, 81, 82, 83, 84, 85, 86, 87, 88, 89, 90, 91, 92] rfl (by decide +kernel)) (goodIn_sub (fun _ h => (List.mem_cons_of_mem _ (List.mem_append_left _ (List.mem_append_left _ (List.mem_append_left _ (List.mem_append_left _ (List.mem_append_left _ (List.mem_append_left _ (List.mem_append_right _ h))))))))) tg_wsX40)) (goodIn_sub (fun _ h => (List.mem_cons_of_mem _ (List.mem_append_left _ (List.mem_append_left _ (List.mem_append_left _ (List.mem_append_left _ (List.mem_append_left _ (List.mem_append_left _ (List.mem_append_left _ (List.mem_append_right _ h)))))))))) tg_wsX20)) (goodIn_sub (fun _ h => (List.mem_cons_of_mem _ (List.mem_append_left _ (List.mem_append_left _ (List.mem_append_left _ (List.mem_append_left _ (List.mem_append_left _ (List.mem_append_right _ h)))))))) tg_wsX10)) (goodIn_sub (fun _ h => (List.mem_cons_of_mem _ (List.mem_append_left _ (List.mem_append_left _ (List.mem_append_left _ (List.mem_append_left _ (List.mem_append_right _ h))))))) tg_wsX60)) (goodIn_sub (fun _ h => List.mem_cons_of_mem _ (List.mem_append_left _ (List.mem_append_right _ h))) (by decide +kernel))) (goodIn_sub (fun _ h => List.mem_cons_of_mem _ (List.mem_append_right _ h)) (by decide +kernel))
set_option maxRecDepth 20000 in
theorem gX9_match_X4_rollAll : GoodIn wsX9_match (wsV RX9 403 RX4 yX4_rollAll wsX4_rollAll) := goodIn_app (goodIn_q _ [41, 42, 43, 17] rfl (by decide +kernel)) ggX9_match_X4_rollAll
set_option maxRecDepth 20000 in
theorem ggX9_match_X4_search : GoodIn wsX9_match wsX4_search := goodIn_ca (goodIn_ca (goodIn_q _ [96, 97, 98, 99, 100, 101, 102, 103, 17, 104, 19, 20, 45, 105, 106, 107, 108, 109, 110, 111, 112] rfl (by decide +kernel)) (goodIn_sub (fun _ h => (List.mem_cons_of_mem _ (List.mem_append_left _ (List.mem_append_left _ (List.mem_append_left _ (List.mem_append_left _ (List.mem_append_left _ (List.mem_append_left _ (List.mem_append_right _ h))))))))) tg_wsX40)) (goodIn_sub (fun _ h => List.mem_cons_of_mem _ (List.mem_append_left _ (List.mem_append_right _ h))) (by decide +kernel))
set_option maxRecDepth 20000 in
theorem gX9_match_X4_search : GoodIn wsX9_match (wsV RX9 407 RX4 yX4_search wsX4_search) := goodIn_app (goodIn_q _ [93, 94, 95, 17] rfl (by decide +kernel)) ggX9_match_X4_search
set_option maxRecDepth 20000 in
theorem ggX9_match_X4_bind : GoodIn wsX9_match wsX4_bind := goodIn_ca (goodIn_ca (goodIn_ca (goodIn_q _ [116, 19, 101, 20, 39, 40, 117, 118] rfl (by decide +kernel)) (goodIn_sub (fun _ h => (List.mem_cons_of_mem _ (List.mem_append_left _ (List.mem_append_left _ (List.mem_append_left _ (List.mem_append_left _ (List.mem_append_left _ (List.mem_append_left _ (List.mem_append_right _ h))))))))) tg_wsX40)) (goodIn_sub (fun _ h => (List.mem_cons_of_mem _ (List.mem_append_left _ (List.mem_append_left _ (List.mem_append_left _ (List.mem_append_left _ (List.mem_append_left _ (List.mem_append_left _ (List.mem_append_left _ (List.mem_append_right _ h)))))))))) tg_wsX20)) (goodIn_sub (fun _ h => List.mem_cons_of_mem _ (List.mem_append_left _ (List.mem_append_right _ h))) (by decide +kernel))
set_option maxRecDepth 20000 in
theorem gX9_match_X4_bind : GoodIn wsX9_match (wsV RX9 411 RX4 yX4_bind wsX4_bind) := goodIn_app (goodIn_q _ [113, 114, 115, 17] rfl (by decide +kernel)) ggX9_match_X4_bind
def dsX9_match_0 : ByteArray := ⟨#[27, 28, 160, 0, 14, 187, 0, 110, 89, 19, 1, 135, 183, 0, 114, 191, 29, 4]⟩
theorem daX9_match_0 : agB cX9_match dsX9_match_0 0 := agB_of (n := 18) (by decide +kernel)
theorem dbX9_match_0 : (decode dsX9_match_0 0 = .ok (.iload_n 1, 1) ∧ okop dsX9_match_0 0 = true) ∧ (decode dsX9_match_0 1 = .ok (.iload_n 2, 1) ∧ okop dsX9_match_0 1 = true) ∧ (decode dsX9_match_0 2 = .ok (.if_icmp .ne 14, 3) ∧ okop dsX9_match_0 2 = true) ∧ (decode dsX9_match_0 5 = .ok (.new 110, 3) ∧ okop dsX9_match_0 5 = true) ∧ (decode dsX9_match_0 8 = .ok (.dup, 1) ∧ okop dsX9_match_0 8 = true) ∧ (decode dsX9_match_0 9 = .ok (.ldc_w 391, 3) ∧ okop dsX9_match_0 9 = true) ∧ (decode dsX9_match_0 12 = .ok (.invokespecial 114, 3) ∧ okop dsX9_match_0 12 = true) ∧ (decode dsX9_match_0 15 = .ok (.athrow, 1) ∧ okop dsX9_match_0 15 = true) ∧ (decode dsX9_match_0 16 = .ok (.iload_n 3, 1) ∧ okop dsX9_match_0 16 = true) ∧ (decode dsX9_match_0 17 = .ok (.iconst 1, 1) ∧ okop dsX9_match_0 17 = true) := by decide +kernel
theorem dX9_match_0 : decode cX9_match 0 = .ok (.iload_n 1, 1) := dgq (p := 0) daX9_match_0 dbX9_match_0.1
theorem dX9_match_1 : decode cX9_match 1 = .ok (.iload_n 2, 1) := dgq (p := 1) daX9_match_0 dbX9_match_0.2.1
theorem dX9_match_2 : decode cX9_match 2 = .ok (.if_icmp .ne 14, 3) := dgq (p := 2) daX9_match_0 dbX9_match_0.2.2.1
theorem dX9_match_5 : decode cX9_match 5 = .ok (.new 110, 3) := dgq (p := 5) daX9_match_0 dbX9_match_0.2.2.2.1
theorem dX9_match_8 : decode cX9_match 8 = .ok (.dup, 1) := dgq (p := 8) daX9_match_0 dbX9_match_0.2.2.2.2.1
theorem dX9_match_9 : decode cX9_match 9 = .ok (.ldc_w 391, 3) := dgq (p := 9) daX9_match_0 dbX9_match_0.2.2.2.2.2.1
theorem dX9_match_12 : decode cX9_match 12 = .ok (.invokespecial 114, 3) := dgq (p := 12) daX9_match_0 dbX9_match_0.2.2.2.2.2.2.1
theorem dX9_match_15 : decode cX9_match 15 = .ok (.athrow, 1) := dgq (p := 15) daX9_match_0 dbX9_match_0.2.2.2.2.2.2.2.1
theorem dX9_match_16 : decode cX9_match 16 = .ok (.iload_n 3, 1) := dgq (p := 16) daX9_match_0 dbX9_match_0.2.2.2.2.2.2.2.2.1
theorem dX9_match_17 : decode cX9_match 17 = .ok (.iconst 1, 1) := dgq (p := 17) daX9_match_0 dbX9_match_0.2.2.2.2.2.2.2.2.2
def dsX9_match_18 : ByteArray := ⟨#[7, 184, 0, 59, 42, 180, 0, 44, 182, 1, 137, 3, 54, 4, 21, 4, 42, 180, 0, 64]⟩
theorem daX9_match_18 : agB cX9_match dsX9_match_18 18 := agB_of (n := 20) (by decide +kernel)
theorem dbX9_match_18 : (decode dsX9_match_18 0 = .ok (.iconst 4, 1) ∧ okop dsX9_match_18 0 = true) ∧ (decode dsX9_match_18 1 = .ok (.invokestatic 59, 3) ∧ okop dsX9_match_18 1 = true) ∧ (decode dsX9_match_18 4 = .ok (.aload_n 0, 1) ∧ okop dsX9_match_18 4 = true) ∧ (decode dsX9_match_18 5 = .ok (.getfield 44, 3) ∧ okop dsX9_match_18 5 = true) ∧ (decode dsX9_match_18 8 = .ok (.invokevirtual 393, 3) ∧ okop dsX9_match_18 8 = true) ∧ (decode dsX9_match_18 11 = .ok (.iconst 0, 1) ∧ okop dsX9_match_18 11 = true) ∧ (decode dsX9_match_18 12 = .ok (.istore 4, 2) ∧ okop dsX9_match_18 12 = true) ∧ (decode dsX9_match_18 14 = .ok (.iload 4, 2) ∧ okop dsX9_match_18 14 = true) ∧ (decode dsX9_match_18 16 = .ok (.aload_n 0, 1) ∧ okop dsX9_match_18 16 = true) ∧ (decode dsX9_match_18 17 = .ok (.getfield 64, 3) ∧ okop dsX9_match_18 17 = true) := by decide +kernel
theorem dX9_match_18 : decode cX9_match 18 = .ok (.iconst 4, 1) := dgq (p := 0) daX9_match_18 dbX9_match_18.1
theorem dX9_match_19 : decode cX9_match 19 = .ok (.invokestatic 59, 3) := dgq (p := 1) daX9_match_18 dbX9_match_18.2.1
theorem dX9_match_22 : decode cX9_match 22 = .ok (.aload_n 0, 1) := dgq (p := 4) daX9_match_18 dbX9_match_18.2.2.1
theorem dX9_match_23 : decode cX9_match 23 = .ok (.getfield 44, 3) := dgq (p := 5) daX9_match_18 dbX9_match_18.2.2.2.1
theorem dX9_match_26 : decode cX9_match 26 = .ok (.invokevirtual 393, 3) := dgq (p := 8) daX9_match_18 dbX9_match_18.2.2.2.2.1
theorem dX9_match_29 : decode cX9_match 29 = .ok (.iconst 0, 1) := dgq (p := 11) daX9_match_18 dbX9_match_18.2.2.2.2.2.1
theorem dX9_match_30 : decode cX9_match 30 = .ok (.istore 4, 2) := dgq (p := 12) daX9_match_18 dbX9_match_18.2.2.2.2.2.2.1
theorem dX9_match_32 : decode cX9_match 32 = .ok (.iload 4, 2) := dgq (p := 14) daX9_match_18 dbX9_match_18.2.2.2.2.2.2.2.1
theorem dX9_match_34 : decode cX9_match 34 = .ok (.aload_n 0, 1) := dgq (p := 16) daX9_match_18 dbX9_match_18.2.2.2.2.2.2.2.2.1
theorem dX9_match_35 : decode cX9_match 35 = .ok (.getfield 64, 3) := dgq (p := 17) daX9_match_18 dbX9_match_18.2.2.2.2.2.2.2.2.2
def dsX9_match_38 : ByteArray := ⟨#[162, 0, 52, 42, 180, 0, 11, 21, 4, 50, 182, 1, 55, 153, 0, 33, 42, 180, 0, 11, 21, 4]⟩
theorem daX9_match_38 : agB cX9_match dsX9_match_38 38 := agB_of (n := 22) (by decide +kernel)
theorem dbX9_match_38 : (decode dsX9_match_38 0 = .ok (.if_icmp .ge 52, 3) ∧ okop dsX9_match_38 0 = true) ∧ (decode dsX9_match_38 3 = .ok (.aload_n 0, 1) ∧ okop dsX9_match_38 3 = true) ∧ (decode dsX9_match_38 4 = .ok (.getfield 11, 3) ∧ okop dsX9_match_38 4 = true) ∧ (decode dsX9_match_38 7 = .ok (.iload 4, 2) ∧ okop dsX9_match_38 7 = true) ∧ (decode dsX9_match_38 9 = .ok (.aaload, 1) ∧ okop dsX9_match_38 9 = true) ∧ (decode dsX9_match_38 10 = .ok (.invokevirtual 311, 3) ∧ okop dsX9_match_38 10 = true) ∧ (decode dsX9_match_38 13 = .ok (.ifCond .eq 33, 3) ∧ okop dsX9_match_38 13 = true) ∧ (decode dsX9_match_38 16 = .ok (.aload_n 0, 1) ∧ okop dsX9_match_38 16 = true) ∧ (decode dsX9_match_38 17 = .ok (.getfield 11, 3) ∧ okop dsX9_match_38 17 = true) ∧ (decode dsX9_match_38 20 = .ok (.iload 4, 2) ∧ okop dsX9_match_38 20 = true) := by decide +kernel
theorem dX9_match_38 : decode cX9_match 38 = .ok (.if_icmp .ge 52, 3) := dgq (p := 0) daX9_match_38 dbX9_match_38.1
theorem dX9_match_41 : decode cX9_match 41 = .ok (.aload_n 0, 1) := dgq (p := 3) daX9_match_38 dbX9_match_38.2.1
theorem dX9_match_42 : decode cX9_match 42 = .ok (.getfield 11, 3) := dgq (p := 4) daX9_match_38 dbX9_match_38.2.2.1
theorem dX9_match_45 : decode cX9_match 45 = .ok (.iload 4, 2) := dgq (p := 7) daX9_match_38 dbX9_match_38.2.2.2.1
theorem dX9_match_47 : decode cX9_match 47 = .ok (.aaload, 1) := dgq (p := 9) daX9_match_38 dbX9_match_38.2.2.2.2.1
theorem dX9_match_48 : decode cX9_match 48 = .ok (.invokevirtual 311, 3) := dgq (p := 10) daX9_match_38 dbX9_match_38.2.2.2.2.2.1
theorem dX9_match_51 : decode cX9_match 51 = .ok (.ifCond .eq 33, 3) := dgq (p := 13) daX9_match_38 dbX9_match_38.2.2.2.2.2.2.1
theorem dX9_match_54 : decode cX9_match 54 = .ok (.aload_n 0, 1) := dgq (p := 16) daX9_match_38 dbX9_match_38.2.2.2.2.2.2.2.1
theorem dX9_match_55 : decode cX9_match 55 = .ok (.getfield 11, 3) := dgq (p := 17) daX9_match_38 dbX9_match_38.2.2.2.2.2.2.2.2.1
theorem dX9_match_58 : decode cX9_match 58 = .ok (.iload 4, 2) := dgq (p := 20) daX9_match_38 dbX9_match_38.2.2.2.2.2.2.2.2.2
def dsX9_match_60 : ByteArray := ⟨#[50, 180, 1, 140, 2, 160, 0, 19, 42, 180, 0, 44, 42, 180, 0, 11, 21, 4, 50]⟩
theorem daX9_match_60 : agB cX9_match dsX9_match_60 60 := agB_of (n := 19) (by decide +kernel)
theorem dbX9_match_60 : (decode dsX9_match_60 0 = .ok (.aaload, 1) ∧ okop dsX9_match_60 0 = true) ∧ (decode dsX9_match_60 1 = .ok (.getfield 396, 3) ∧ okop dsX9_match_60 1 = true) ∧ (decode dsX9_match_60 4 = .ok (.iconst (-1), 1) ∧ okop dsX9_match_60 4 = true) ∧ (decode dsX9_match_60 5 = .ok (.if_icmp .ne 19, 3) ∧ okop dsX9_match_60 5 = true) ∧ (decode dsX9_match_60 8 = .ok (.aload_n 0, 1) ∧ okop dsX9_match_60 8 = true) ∧ (decode dsX9_match_60 9 = .ok (.getfield 44, 3) ∧ okop dsX9_match_60 9 = true) ∧ (decode dsX9_match_60 12 = .ok (.aload_n 0, 1) ∧ okop dsX9_match_60 12 = true) ∧ (decode dsX9_match_60 13 = .ok (.getfield 11, 3) ∧ okop dsX9_match_60 13 = true) ∧ (decode dsX9_match_60 16 = .ok (.iload 4, 2) ∧ okop dsX9_match_60 16 = true) ∧ (decode dsX9_match_60 18 = .ok (.aaload, 1) ∧ okop dsX9_match_60 18 = true) := by decide +kernel
theorem dX9_match_60 : decode cX9_match 60 = .ok (.aaload, 1) := dgq (p := 0) daX9_match_60 dbX9_match_60.1
theorem dX9_match_61 : decode cX9_match 61 = .ok (.getfield 396, 3) := dgq (p := 1) daX9_match_60 dbX9_match_60.2.1
theorem dX9_match_64 : decode cX9_match 64 = .ok (.iconst (-1), 1) := dgq (p := 4) daX9_match_60 dbX9_match_60.2.2.1
theorem dX9_match_65 : decode cX9_match 65 = .ok (.if_icmp .ne 19, 3) := dgq (p := 5) daX9_match_60 dbX9_match_60.2.2.2.1
theorem dX9_match_68 : decode cX9_match 68 = .ok (.aload_n 0, 1) := dgq (p := 8) daX9_match_60 dbX9_match_60.2.2.2.2.1
theorem dX9_match_69 : decode cX9_match 69 = .ok (.getfield 44, 3) := dgq (p := 9) daX9_match_60 dbX9_match_60.2.2.2.2.2.1
theorem dX9_match_72 : decode cX9_match 72 = .ok (.aload_n 0, 1) := dgq (p := 12) daX9_match_60 dbX9_match_60.2.2.2.2.2.2.1
theorem dX9_match_73 : decode cX9_match 73 = .ok (.getfield 11, 3) := dgq (p := 13) daX9_match_60 dbX9_match_60.2.2.2.2.2.2.2.1
theorem dX9_match_76 : decode cX9_match 76 = .ok (.iload 4, 2) := dgq (p := 16) daX9_match_60 dbX9_match_60.2.2.2.2.2.2.2.2.1
theorem dX9_match_78 : decode cX9_match 78 = .ok (.aaload, 1) := dgq (p := 18) daX9_match_60 dbX9_match_60.2.2.2.2.2.2.2.2.2
def dsX9_match_79 : ByteArray := ⟨#[27, 28, 182, 1, 143, 132, 4, 1, 167, 255, 201, 42, 180, 0, 44, 42, 180, 0, 37, 182, 1, 147]⟩
theorem daX9_match_79 : agB cX9_match dsX9_match_79 79 := agB_of (n := 22) (by decide +kernel)
theorem dbX9_match_79 : (decode dsX9_match_79 0 = .ok (.iload_n 1, 1) ∧ okop dsX9_match_79 0 = true) ∧ (decode dsX9_match_79 1 = .ok (.iload_n 2, 1) ∧ okop dsX9_match_79 1 = true) ∧ (decode dsX9_match_79 2 = .ok (.invokevirtual 399, 3) ∧ okop dsX9_match_79 2 = true) ∧ (decode dsX9_match_79 5 = .ok (.iinc 4 1, 3) ∧ okop dsX9_match_79 5 = true) ∧ (decode dsX9_match_79 8 = .ok (.goto (-55), 3) ∧ okop dsX9_match_79 8 = true) ∧ (decode dsX9_match_79 11 = .ok (.aload_n 0, 1) ∧ okop dsX9_match_79 11 = true) ∧ (decode dsX9_match_79 12 = .ok (.getfield 44, 3) ∧ okop dsX9_match_79 12 = true) ∧ (decode dsX9_match_79 15 = .ok (.aload_n 0, 1) ∧ okop dsX9_match_79 15 = true) ∧ (decode dsX9_match_79 16 = .ok (.getfield 37, 3) ∧ okop dsX9_match_79 16 = true) ∧ (decode dsX9_match_79 19 = .ok (.invokevirtual 403, 3) ∧ okop dsX9_match_79 19 = true) := by decide +kernel
theorem dX9_match_79 : decode cX9_match 79 = .ok (.iload_n 1, 1) := dgq (p := 0) daX9_match_79 dbX9_match_79.1
theorem dX9_match_80 : decode cX9_match 80 = .ok (.iload_n 2, 1) := dgq (p := 1) daX9_match_79 dbX9_match_79.2.1
theorem dX9_match_81 : decode cX9_match 81 = .ok (.invokevirtual 399, 3) := dgq (p := 2) daX9_match_79 dbX9_match_79.2.2.1
theorem dX9_match_84 : decode cX9_match 84 = .ok (.iinc 4 1, 3) := dgq (p := 5) daX9_match_79 dbX9_match_79.2.2.2.1
theorem dX9_match_87 : decode cX9_match 87 = .ok (.goto (-55), 3) := dgq (p := 8) daX9_match_79 dbX9_match_79.2.2.2.2.1
theorem dX9_match_90 : decode cX9_match 90 = .ok (.aload_n 0, 1) := dgq (p := 11) daX9_match_79 dbX9_match_79.2.2.2.2.2.1
theorem dX9_match_91 : decode cX9_match 91 = .ok (.getfield 44, 3) := dgq (p := 12) daX9_match_79 dbX9_match_79.2.2.2.2.2.2.1
theorem dX9_match_94 : decode cX9_match 94 = .ok (.aload_n 0, 1) := dgq (p := 15) daX9_match_79 dbX9_match_79.2.2.2.2.2.2.2.1
theorem dX9_match_95 : decode cX9_match 95 = .ok (.getfield 37, 3) := dgq (p := 16) daX9_match_79 dbX9_match_79.2.2.2.2.2.2.2.2.1
theorem dX9_match_98 : decode cX9_match 98 = .ok (.invokevirtual 403, 3) := dgq (p := 19) daX9_match_79 dbX9_match_79.2.2.2.2.2.2.2.2.2
def dsX9_match_101 : ByteArray := ⟨#[42, 180, 0, 44, 29, 182, 1, 151, 154, 0, 14, 187, 0, 150, 89, 19, 1, 153, 183, 0, 154, 191]⟩
theorem daX9_match_101 : agB cX9_match dsX9_match_101 101 := agB_of (n := 22) (by decide +kernel)
theorem dbX9_match_101 : (decode dsX9_match_101 0 = .ok (.aload_n 0, 1) ∧ okop dsX9_match_101 0 = true) ∧ (decode dsX9_match_101 1 = .ok (.getfield 44, 3) ∧ okop dsX9_match_101 1 = true) ∧ (decode dsX9_match_101 4 = .ok (.iload_n 3, 1) ∧ okop dsX9_match_101 4 = true) ∧ (decode dsX9_match_101 5 = .ok (.invokevirtual 407, 3) ∧ okop dsX9_match_101 5 = true) ∧ (decode dsX9_match_101 8 = .ok (.ifCond .ne 14, 3) ∧ okop dsX9_match_101 8 = true) ∧ (decode dsX9_match_101 11 = .ok (.new 150, 3) ∧ okop dsX9_match_101 11 = true) ∧ (decode dsX9_match_101 14 = .ok (.dup, 1) ∧ okop dsX9_match_101 14 = true) ∧ (decode dsX9_match_101 15 = .ok (.ldc_w 409, 3) ∧ okop dsX9_match_101 15 = true) ∧ (decode dsX9_match_101 18 = .ok (.invokespecial 154, 3) ∧ okop dsX9_match_101 18 = true) ∧ (decode dsX9_match_101 21 = .ok (.athrow, 1) ∧ okop dsX9_match_101 21 = true) := by decide +kernel
theorem dX9_match_101 : decode cX9_match 101 = .ok (.aload_n 0, 1) := dgq (p := 0) daX9_match_101 dbX9_match_101.1
theorem dX9_match_102 : decode cX9_match 102 = .ok (.getfield 44, 3) := dgq (p := 1) daX9_match_101 dbX9_match_101.2.1
theorem dX9_match_105 : decode cX9_match 105 = .ok (.iload_n 3, 1) := dgq (p := 4) daX9_match_101 dbX9_match_101.2.2.1
theorem dX9_match_106 : decode cX9_match 106 = .ok (.invokevirtual 407, 3) := dgq (p := 5) daX9_match_101 dbX9_match_101.2.2.2.1
theorem dX9_match_109 : decode cX9_match 109 = .ok (.ifCond .ne 14, 3) := dgq (p := 8) daX9_match_101 dbX9_match_101.2.2.2.2.1
theorem dX9_match_112 : decode cX9_match 112 = .ok (.new 150, 3) := dgq (p := 11) daX9_match_101 dbX9_match_101.2.2.2.2.2.1
theorem dX9_match_115 : decode cX9_match 115 = .ok (.dup, 1) := dgq (p := 14) daX9_match_101 dbX9_match_101.2.2.2.2.2.2.1
theorem dX9_match_116 : decode cX9_match 116 = .ok (.ldc_w 409, 3) := dgq (p := 15) daX9_match_101 dbX9_match_101.2.2.2.2.2.2.2.1
theorem dX9_match_119 : decode cX9_match 119 = .ok (.invokespecial 154, 3) := dgq (p := 18) daX9_match_101 dbX9_match_101.2.2.2.2.2.2.2.2.1
theorem dX9_match_122 : decode cX9_match 122 = .ok (.athrow, 1) := dgq (p := 21) daX9_match_101 dbX9_match_101.2.2.2.2.2.2.2.2.2
def dsX9_match_123 : ByteArray := ⟨#[42, 180, 0, 44, 182, 1, 155, 42, 180, 0, 44, 180, 1, 158, 172]⟩
theorem daX9_match_123 : agB cX9_match dsX9_match_123 123 := agB_of (n := 15) (by decide +kernel)
theorem dbX9_match_123 : (decode dsX9_match_123 0 = .ok (.aload_n 0, 1) ∧ okop dsX9_match_123 0 = true) ∧ (decode dsX9_match_123 1 = .ok (.getfield 44, 3) ∧ okop dsX9_match_123 1 = true) ∧ (decode dsX9_match_123 4 = .ok (.invokevirtual 411, 3) ∧ okop dsX9_match_123 4 = true) ∧ (decode dsX9_match_123 7 = .ok (.aload_n 0, 1) ∧ okop dsX9_match_123 7 = true) ∧ (decode dsX9_match_123 8 = .ok (.getfield 44, 3) ∧ okop dsX9_match_123 8 = true) ∧ (decode dsX9_match_123 11 = .ok (.getfield 414, 3) ∧ okop dsX9_match_123 11 = true) ∧ (decode dsX9_match_123 14 = .ok (.ireturn, 1) ∧ okop dsX9_match_123 14 = true) := by decide +kernel
theorem dX9_match_123 : decode cX9_match 123 = .ok (.aload_n 0, 1) := dgq (p := 0) daX9_match_123 dbX9_match_123.1
theorem dX9_match_124 : decode cX9_match 124 = .ok (.getfield 44, 3) := dgq (p := 1) daX9_match_123 dbX9_match_123.2.1
theorem dX9_match_127 : decode cX9_match 127 = .ok (.invokevirtual 411, 3) := dgq (p := 4) daX9_match_123 dbX9_match_123.2.2.1
theorem dX9_match_130 : decode cX9_match 130 = .ok (.aload_n 0, 1) := dgq (p := 7) daX9_match_123 dbX9_match_123.2.2.2.1
theorem dX9_match_131 : decode cX9_match 131 = .ok (.getfield 44, 3) := dgq (p := 8) daX9_match_123 dbX9_match_123.2.2.2.2.1
theorem dX9_match_134 : decode cX9_match 134 = .ok (.getfield 414, 3) := dgq (p := 11) daX9_match_123 dbX9_match_123.2.2.2.2.2.1
theorem dX9_match_137 : decode cX9_match 137 = .ok (.ireturn, 1) := dgq (p := 14) daX9_match_123 dbX9_match_123.2.2.2.2.2.2
set_option maxRecDepth 20000 in
theorem ggX9_mate_X9_gearAt : GoodIn wsX9_mate wsX9_gearAt := goodIn_ca (goodIn_ca (goodIn_q _ [8, 9, 10, 11, 12] rfl (by decide +kernel)) (goodIn_sub (fun _ h => (List.mem_cons_of_mem _ (List.mem_append_left _ (List.mem_append_left _ (List.mem_append_right _ h))))) tg_wsX90)) (goodIn_sub (fun _ h => List.mem_cons_of_mem _ (List.mem_append_right _ h)) (by decide +kernel))
set_option maxRecDepth 20000 in
theorem gX9_mate_X9_gearAt : GoodIn wsX9_mate (wsV RX9 77 RX9 yX9_gearAt wsX9_gearAt) := goodIn_app (goodIn_q _ [4, 5, 6, 7] rfl (by decide +kernel)) ggX9_mate_X9_gearAt
def dsX9_mate_0 : ByteArray := ⟨#[42, 27, 182, 0, 77, 77, 44, 180, 1, 140, 2, 160, 0, 14, 187, 0, 150, 89]⟩
theorem daX9_mate_0 : agB cX9_mate dsX9_mate_0 0 := agB_of (n := 18) (by decide +kernel)
theorem dbX9_mate_0 : (decode dsX9_mate_0 0 = .ok (.aload_n 0, 1) ∧ okop dsX9_mate_0 0 = true) ∧ (decode dsX9_mate_0 1 = .ok (.iload_n 1, 1) ∧ okop dsX9_mate_0 1 = true) ∧ (decode dsX9_mate_0 2 = .ok (.invokevirtual 77, 3) ∧ okop dsX9_mate_0 2 = true) ∧ (decode dsX9_mate_0 5 = .ok (.astore_n 2, 1) ∧ okop dsX9_mate_0 5 = true) ∧ (decode dsX9_mate_0 6 = .ok (.aload_n 2, 1) ∧ okop dsX9_mate_0 6 = true) ∧ (decode dsX9_mate_0 7 = .ok (.getfield 396, 3) ∧ okop dsX9_mate_0 7 = true) ∧ (decode dsX9_mate_0 10 = .ok (.iconst (-1), 1) ∧ okop dsX9_mate_0 10 = true) ∧ (decode dsX9_mate_0 11 = .ok (.if_icmp .ne 14, 3) ∧ okop dsX9_mate_0 11 = true) ∧ (decode dsX9_mate_0 14 = .ok (.new 150, 3) ∧ okop dsX9_mate_0 14 = true) ∧ (decode dsX9_mate_0 17 = .ok (.dup, 1) ∧ okop dsX9_mate_0 17 = true) := by decide +kernel
theorem dX9_mate_0 : decode cX9_mate 0 = .ok (.aload_n 0, 1) := dgq (p := 0) daX9_mate_0 dbX9_mate_0.1
theorem dX9_mate_1 : decode cX9_mate 1 = .ok (.iload_n 1, 1) := dgq (p := 1) daX9_mate_0 dbX9_mate_0.2.1
theorem dX9_mate_2 : decode cX9_mate 2 = .ok (.invokevirtual 77, 3) := dgq (p := 2) daX9_mate_0 dbX9_mate_0.2.2.1
theorem dX9_mate_5 : decode cX9_mate 5 = .ok (.astore_n 2, 1) := dgq (p := 5) daX9_mate_0 dbX9_mate_0.2.2.2.1
theorem dX9_mate_6 : decode cX9_mate 6 = .ok (.aload_n 2, 1) := dgq (p := 6) daX9_mate_0 dbX9_mate_0.2.2.2.2.1
theorem dX9_mate_7 : decode cX9_mate 7 = .ok (.getfield 396, 3) := dgq (p := 7) daX9_mate_0 dbX9_mate_0.2.2.2.2.2.1
theorem dX9_mate_10 : decode cX9_mate 10 = .ok (.iconst (-1), 1) := dgq (p := 10) daX9_mate_0 dbX9_mate_0.2.2.2.2.2.2.1
theorem dX9_mate_11 : decode cX9_mate 11 = .ok (.if_icmp .ne 14, 3) := dgq (p := 11) daX9_mate_0 dbX9_mate_0.2.2.2.2.2.2.2.1
theorem dX9_mate_14 : decode cX9_mate 14 = .ok (.new 150, 3) := dgq (p := 14) daX9_mate_0 dbX9_mate_0.2.2.2.2.2.2.2.2.1
theorem dX9_mate_17 : decode cX9_mate 17 = .ok (.dup, 1) := dgq (p := 17) daX9_mate_0 dbX9_mate_0.2.2.2.2.2.2.2.2.2
def dsX9_mate_18 : ByteArray := ⟨#[19, 1, 161, 183, 0, 154, 191, 44, 180, 1, 140, 172]⟩
theorem daX9_mate_18 : agB cX9_mate dsX9_mate_18 18 := agB_of (n := 12) (by decide +kernel)
theorem dbX9_mate_18 : (decode dsX9_mate_18 0 = .ok (.ldc_w 417, 3) ∧ okop dsX9_mate_18 0 = true) ∧ (decode dsX9_mate_18 3 = .ok (.invokespecial 154, 3) ∧ okop dsX9_mate_18 3 = true) ∧ (decode dsX9_mate_18 6 = .ok (.athrow, 1) ∧ okop dsX9_mate_18 6 = true) ∧ (decode dsX9_mate_18 7 = .ok (.aload_n 2, 1) ∧ okop dsX9_mate_18 7 = true) ∧ (decode dsX9_mate_18 8 = .ok (.getfield 396, 3) ∧ okop dsX9_mate_18 8 = true) ∧ (decode dsX9_mate_18 11 = .ok (.ireturn, 1) ∧ okop dsX9_mate_18 11 = true) := by decide +kernel
theorem dX9_mate_18 : decode cX9_mate 18 = .ok (.ldc_w 417, 3) := dgq (p := 0) daX9_mate_18 dbX9_mate_18.1
theorem dX9_mate_21 : decode cX9_mate 21 = .ok (.invokespecial 154, 3) := dgq (p := 3) daX9_mate_18 dbX9_mate_18.2.1
theorem dX9_mate_24 : decode cX9_mate 24 = .ok (.athrow, 1) := dgq (p := 6) daX9_mate_18 dbX9_mate_18.2.2.1
theorem dX9_mate_25 : decode cX9_mate 25 = .ok (.aload_n 2, 1) := dgq (p := 7) daX9_mate_18 dbX9_mate_18.2.2.2.1
theorem dX9_mate_26 : decode cX9_mate 26 = .ok (.getfield 396, 3) := dgq (p := 8) daX9_mate_18 dbX9_mate_18.2.2.2.2.1
theorem dX9_mate_29 : decode cX9_mate 29 = .ok (.ireturn, 1) := dgq (p := 11) daX9_mate_18 dbX9_mate_18.2.2.2.2.2
set_option maxRecDepth 20000 in
theorem ggX9_separate_X9_gearAt : GoodIn wsX9_separate wsX9_gearAt := goodIn_ca (goodIn_ca (goodIn_q _ [7, 8, 9, 10, 11] rfl (by decide +kernel)) (goodIn_sub (fun _ h => (List.mem_cons_of_mem _ (List.mem_append_left _ (List.mem_append_left _ (List.mem_append_right _ h))))) tg_wsX90)) (goodIn_sub (fun _ h => List.mem_cons_of_mem _ (List.mem_append_left _ (List.mem_append_right _ h))) (by decide +kernel))
set_option maxRecDepth 20000 in
theorem gX9_separate_X9_gearAt : GoodIn wsX9_separate (wsV RX9 77 RX9 yX9_gearAt wsX9_gearAt) := goodIn_app (goodIn_q _ [3, 4, 5, 6] rfl (by decide +kernel)) ggX9_separate_X9_gearAt
set_option maxRecDepth 20000 in
theorem ggX9_separate_X9_allowOnly : GoodIn wsX9_separate wsX9_allowOnly := goodIn_ca (goodIn_q _ [14, 15, 16] rfl (by decide +kernel)) (goodIn_sub (fun _ h => List.mem_cons_of_mem _ (List.mem_append_right _ h)) (by decide +kernel))
set_option maxRecDepth 20000 in
theorem gX9_separate_X9_allowOnly : GoodIn wsX9_separate (va_wsS RX9 85 yX9_allowOnly wsX9_allowOnly) := goodIn_app (goodIn_q _ [12, 13, 6] rfl (by decide +kernel)) ggX9_separate_X9_allowOnly
def dsX9_separate_0 : ByteArray := ⟨#[42, 27, 182, 0, 77, 77, 44, 180, 1, 140, 2, 159, 0, 7, 4, 167, 0, 4]⟩
theorem daX9_separate_0 : agB cX9_separate dsX9_separate_0 0 := agB_of (n := 18) (by decide +kernel)
theorem dbX9_separate_0 : (decode dsX9_separate_0 0 = .ok (.aload_n 0, 1) ∧ okop dsX9_separate_0 0 = true) ∧ (decode dsX9_separate_0 1 = .ok (.iload_n 1, 1) ∧ okop dsX9_separate_0 1 = true) ∧ (decode dsX9_separate_0 2 = .ok (.invokevirtual 77, 3) ∧ okop dsX9_separate_0 2 = true) ∧ (decode dsX9_separate_0 5 = .ok (.astore_n 2, 1) ∧ okop dsX9_separate_0 5 = true) ∧ (decode dsX9_separate_0 6 = .ok (.aload_n 2, 1) ∧ okop dsX9_separate_0 6 = true) ∧ (decode dsX9_separate_0 7 = .ok (.getfield 396, 3) ∧ okop dsX9_separate_0 7 = true) ∧ (decode dsX9_separate_0 10 = .ok (.iconst (-1), 1) ∧ okop dsX9_separate_0 10 = true) ∧ (decode dsX9_separate_0 11 = .ok (.if_icmp .eq 7, 3) ∧ okop dsX9_separate_0 11 = true) ∧ (decode dsX9_separate_0 14 = .ok (.iconst 1, 1) ∧ okop dsX9_separate_0 14 = true) ∧ (decode dsX9_separate_0 15 = .ok (.goto 4, 3) ∧ okop dsX9_separate_0 15 = true) := by decide +kernel
theorem dX9_separate_0 : decode cX9_separate 0 = .ok (.aload_n 0, 1) := dgq (p := 0) daX9_separate_0 dbX9_separate_0.1
theorem dX9_separate_1 : decode cX9_separate 1 = .ok (.iload_n 1, 1) := dgq (p := 1) daX9_separate_0 dbX9_separate_0.2.1
theorem dX9_separate_2 : decode cX9_separate 2 = .ok (.invokevirtual 77, 3) := dgq (p := 2) daX9_separate_0 dbX9_separate_0.2.2.1
theorem dX9_separate_5 : decode cX9_separate 5 = .ok (.astore_n 2, 1) := dgq (p := 5) daX9_separate_0 dbX9_separate_0.2.2.2.1
theorem dX9_separate_6 : decode cX9_separate 6 = .ok (.aload_n 2, 1) := dgq (p := 6) daX9_separate_0 dbX9_separate_0.2.2.2.2.1
theorem dX9_separate_7 : decode cX9_separate 7 = .ok (.getfield 396, 3) := dgq (p := 7) daX9_separate_0 dbX9_separate_0.2.2.2.2.2.1
theorem dX9_separate_10 : decode cX9_separate 10 = .ok (.iconst (-1), 1) := dgq (p := 10) daX9_separate_0 dbX9_separate_0.2.2.2.2.2.2.1
theorem dX9_separate_11 : decode cX9_separate 11 = .ok (.if_icmp .eq 7, 3) := dgq (p := 11) daX9_separate_0 dbX9_separate_0.2.2.2.2.2.2.2.1
theorem dX9_separate_14 : decode cX9_separate 14 = .ok (.iconst 1, 1) := dgq (p := 14) daX9_separate_0 dbX9_separate_0.2.2.2.2.2.2.2.2.1
theorem dX9_separate_15 : decode cX9_separate 15 = .ok (.goto 4, 3) := dgq (p := 15) daX9_separate_0 dbX9_separate_0.2.2.2.2.2.2.2.2.2
def dsX9_separate_18 : ByteArray := ⟨#[3, 184, 0, 85, 42, 44, 180, 1, 140, 182, 0, 77, 78, 44, 2, 181, 1, 140]⟩
theorem daX9_separate_18 : agB cX9_separate dsX9_separate_18 18 := agB_of (n := 18) (by decide +kernel)
theorem dbX9_separate_18 : (decode dsX9_separate_18 0 = .ok (.iconst 0, 1) ∧ okop dsX9_separate_18 0 = true) ∧ (decode dsX9_separate_18 1 = .ok (.invokestatic 85, 3) ∧ okop dsX9_separate_18 1 = true) ∧ (decode dsX9_separate_18 4 = .ok (.aload_n 0, 1) ∧ okop dsX9_separate_18 4 = true) ∧ (decode dsX9_separate_18 5 = .ok (.aload_n 2, 1) ∧ okop dsX9_separate_18 5 = true) ∧ (decode dsX9_separate_18 6 = .ok (.getfield 396, 3) ∧ okop dsX9_separate_18 6 = true) ∧ (decode dsX9_separate_18 9 = .ok (.invokevirtual 77, 3) ∧ okop dsX9_separate_18 9 = true) ∧ (decode dsX9_separate_18 12 = .ok (.astore_n 3, 1) ∧ okop dsX9_separate_18 12 = true) ∧ (decode dsX9_separate_18 13 = .ok (.aload_n 2, 1) ∧ okop dsX9_separate_18 13 = true) ∧ (decode dsX9_separate_18 14 = .ok (.iconst (-1), 1) ∧ okop dsX9_separate_18 14 = true) ∧ (decode dsX9_separate_18 15 = .ok (.putfield 396, 3) ∧ okop dsX9_separate_18 15 = true) := by decide +kernel
theorem dX9_separate_18 : decode cX9_separate 18 = .ok (.iconst 0, 1) := dgq (p := 0) daX9_separate_18 dbX9_separate_18.1
theorem dX9_separate_19 : decode cX9_separate 19 = .ok (.invokestatic 85, 3) := dgq (p := 1) daX9_separate_18 dbX9_separate_18.2.1
theorem dX9_separate_22 : decode cX9_separate 22 = .ok (.aload_n 0, 1) := dgq (p := 4) daX9_separate_18 dbX9_separate_18.2.2.1
theorem dX9_separate_23 : decode cX9_separate 23 = .ok (.aload_n 2, 1) := dgq (p := 5) daX9_separate_18 dbX9_separate_18.2.2.2.1
theorem dX9_separate_24 : decode cX9_separate 24 = .ok (.getfield 396, 3) := dgq (p := 6) daX9_separate_18 dbX9_separate_18.2.2.2.2.1
theorem dX9_separate_27 : decode cX9_separate 27 = .ok (.invokevirtual 77, 3) := dgq (p := 9) daX9_separate_18 dbX9_separate_18.2.2.2.2.2.1
theorem dX9_separate_30 : decode cX9_separate 30 = .ok (.astore_n 3, 1) := dgq (p := 12) daX9_separate_18 dbX9_separate_18.2.2.2.2.2.2.1
theorem dX9_separate_31 : decode cX9_separate 31 = .ok (.aload_n 2, 1) := dgq (p := 13) daX9_separate_18 dbX9_separate_18.2.2.2.2.2.2.2.1
theorem dX9_separate_32 : decode cX9_separate 32 = .ok (.iconst (-1), 1) := dgq (p := 14) daX9_separate_18 dbX9_separate_18.2.2.2.2.2.2.2.2.1
theorem dX9_separate_33 : decode cX9_separate 33 = .ok (.putfield 396, 3) := dgq (p := 15) daX9_separate_18 dbX9_separate_18.2.2.2.2.2.2.2.2.2
def dsX9_separate_36 : ByteArray := ⟨#[45, 2, 181, 1, 140, 45, 180, 1, 163, 172]⟩
theorem daX9_separate_36 : agB cX9_separate dsX9_separate_36 36 := agB_of (n := 10) (by decide +kernel)
theorem dbX9_separate_36 : (decode dsX9_separate_36 0 = .ok (.aload_n 3, 1) ∧ okop dsX9_separate_36 0 = true) ∧ (decode dsX9_separate_36 1 = .ok (.iconst (-1), 1) ∧ okop dsX9_separate_36 1 = true) ∧ (decode dsX9_separate_36 2 = .ok (.putfield 396, 3) ∧ okop dsX9_separate_36 2 = true) ∧ (decode dsX9_separate_36 5 = .ok (.aload_n 3, 1) ∧ okop dsX9_separate_36 5 = true) ∧ (decode dsX9_separate_36 6 = .ok (.getfield 419, 3) ∧ okop dsX9_separate_36 6 = true) ∧ (decode dsX9_separate_36 9 = .ok (.ireturn, 1) ∧ okop dsX9_separate_36 9 = true) := by decide +kernel
theorem dX9_separate_36 : decode cX9_separate 36 = .ok (.aload_n 3, 1) := dgq (p := 0) daX9_separate_36 dbX9_separate_36.1
theorem dX9_separate_37 : decode cX9_separate 37 = .ok (.iconst (-1), 1) := dgq (p := 1) daX9_separate_36 dbX9_separate_36.2.1
theorem dX9_separate_38 : decode cX9_separate 38 = .ok (.putfield 396, 3) := dgq (p := 2) daX9_separate_36 dbX9_separate_36.2.2.1
theorem dX9_separate_41 : decode cX9_separate 41 = .ok (.aload_n 3, 1) := dgq (p := 5) daX9_separate_36 dbX9_separate_36.2.2.2.1
theorem dX9_separate_42 : decode cX9_separate 42 = .ok (.getfield 419, 3) := dgq (p := 6) daX9_separate_36 dbX9_separate_36.2.2.2.2.1
theorem dX9_separate_45 : decode cX9_separate 45 = .ok (.ireturn, 1) := dgq (p := 9) daX9_separate_36 dbX9_separate_36.2.2.2.2.2
set_option maxRecDepth 20000 in
theorem ggX9_machine_X9_needKind : GoodIn wsX9_machine wsX9_needKind := goodIn_ca (goodIn_q _ [11, 12, 13] rfl (by decide +kernel)) (goodIn_sub (fun _ h => List.mem_cons_of_mem _ (List.mem_append_right _ h)) (by decide +kernel))
set_option maxRecDepth 20000 in
theorem gX9_machine_X9_needKind : GoodIn wsX9_machine (va_wsS RX9 422 yX9_needKind wsX9_needKind) := goodIn_app (goodIn_q _ [8, 9, 10] rfl (by decide +kernel)) ggX9_machine_X9_needKind
set_option maxRecDepth 20000 in
theorem ggX9_machine_X9_needRange : GoodIn wsX9_machine wsX9_needRange := goodIn_ca (goodIn_q _ [16, 12, 13] rfl (by decide +kernel)) (goodIn_sub (fun _ h => List.mem_cons_of_mem _ (List.mem_append_right _ h)) (by decide +kernel))
set_option maxRecDepth 20000 in
theorem gX9_machine_X9_needRange : GoodIn wsX9_machine (va_wsS RX9 59 yX9_needRange wsX9_needRange) := goodIn_app (goodIn_q _ [14, 15, 10] rfl (by decide +kernel)) ggX9_machine_X9_needRange
set_option maxRecDepth 20000 in
theorem ggX9_machine_X7_init : GoodIn wsX9_machine wsX7_init := goodIn_ca (goodIn_q _ [19, 20, 21, 22, 23, 24] rfl (by decide +kernel)) (goodIn_sub (fun _ h => (List.mem_cons_of_mem _ (List.mem_append_left _ (List.mem_append_left _ (List.mem_append_right _ h))))) tg_wsX70)
set_option maxRecDepth 20000 in
theorem gX9_machine_X7_init : GoodIn wsX9_machine (wsX7_init) := ggX9_machine_X7_init
def dsX9_machine_0 : ByteArray := ⟨#[27, 184, 1, 166, 28, 4, 16, 99, 184, 0, 59, 42, 180, 1, 170, 42, 180, 0, 23]⟩
theorem daX9_machine_0 : agB cX9_machine dsX9_machine_0 0 := agB_of (n := 19) (by decide +kernel)
theorem dbX9_machine_0 : (decode dsX9_machine_0 0 = .ok (.iload_n 1, 1) ∧ okop dsX9_machine_0 0 = true) ∧ (decode dsX9_machine_0 1 = .ok (.invokestatic 422, 3) ∧ okop dsX9_machine_0 1 = true) ∧ (decode dsX9_machine_0 4 = .ok (.iload_n 2, 1) ∧ okop dsX9_machine_0 4 = true) ∧ (decode dsX9_machine_0 5 = .ok (.iconst 1, 1) ∧ okop dsX9_machine_0 5 = true) ∧ (decode dsX9_machine_0 6 = .ok (.bipush 99, 2) ∧ okop dsX9_machine_0 6 = true) ∧ (decode dsX9_machine_0 8 = .ok (.invokestatic 59, 3) ∧ okop dsX9_machine_0 8 = true) ∧ (decode dsX9_machine_0 11 = .ok (.aload_n 0, 1) ∧ okop dsX9_machine_0 11 = true) ∧ (decode dsX9_machine_0 12 = .ok (.getfield 426, 3) ∧ okop dsX9_machine_0 12 = true) ∧ (decode dsX9_machine_0 15 = .ok (.aload_n 0, 1) ∧ okop dsX9_machine_0 15 = true) ∧ (decode dsX9_machine_0 16 = .ok (.getfield 23, 3) ∧ okop dsX9_machine_0 16 = true) := by decide +kernel
theorem dX9_machine_0 : decode cX9_machine 0 = .ok (.iload_n 1, 1) := dgq (p := 0) daX9_machine_0 dbX9_machine_0.1
theorem dX9_machine_1 : decode cX9_machine 1 = .ok (.invokestatic 422, 3) := dgq (p := 1) daX9_machine_0 dbX9_machine_0.2.1
theorem dX9_machine_4 : decode cX9_machine 4 = .ok (.iload_n 2, 1) := dgq (p := 4) daX9_machine_0 dbX9_machine_0.2.2.1
theorem dX9_machine_5 : decode cX9_machine 5 = .ok (.iconst 1, 1) := dgq (p := 5) daX9_machine_0 dbX9_machine_0.2.2.2.1
theorem dX9_machine_6 : decode cX9_machine 6 = .ok (.bipush 99, 2) := dgq (p := 6) daX9_machine_0 dbX9_machine_0.2.2.2.2.1
theorem dX9_machine_8 : decode cX9_machine 8 = .ok (.invokestatic 59, 3) := dgq (p := 8) daX9_machine_0 dbX9_machine_0.2.2.2.2.2.1
theorem dX9_machine_11 : decode cX9_machine 11 = .ok (.aload_n 0, 1) := dgq (p := 11) daX9_machine_0 dbX9_machine_0.2.2.2.2.2.2.1
theorem dX9_machine_12 : decode cX9_machine 12 = .ok (.getfield 426, 3) := dgq (p := 12) daX9_machine_0 dbX9_machine_0.2.2.2.2.2.2.2.1
theorem dX9_machine_15 : decode cX9_machine 15 = .ok (.aload_n 0, 1) := dgq (p := 15) daX9_machine_0 dbX9_machine_0.2.2.2.2.2.2.2.2.1
theorem dX9_machine_16 : decode cX9_machine 16 = .ok (.getfield 23, 3) := dgq (p := 16) daX9_machine_0 dbX9_machine_0.2.2.2.2.2.2.2.2.2
def dsX9_machine_19 : ByteArray := ⟨#[190, 161, 0, 14, 187, 0, 67, 89, 19, 1, 173, 183, 0, 71, 191, 42, 180, 1, 170, 62]⟩
theorem daX9_machine_19 : agB cX9_machine dsX9_machine_19 19 := agB_of (n := 20) (by decide +kernel)
theorem dbX9_machine_19 : (decode dsX9_machine_19 0 = .ok (.arraylength, 1) ∧ okop dsX9_machine_19 0 = true) ∧ (decode dsX9_machine_19 1 = .ok (.if_icmp .lt 14, 3) ∧ okop dsX9_machine_19 1 = true) ∧ (decode dsX9_machine_19 4 = .ok (.new 67, 3) ∧ okop dsX9_machine_19 4 = true) ∧ (decode dsX9_machine_19 7 = .ok (.dup, 1) ∧ okop dsX9_machine_19 7 = true) ∧ (decode dsX9_machine_19 8 = .ok (.ldc_w 429, 3) ∧ okop dsX9_machine_19 8 = true) ∧ (decode dsX9_machine_19 11 = .ok (.invokespecial 71, 3) ∧ okop dsX9_machine_19 11 = true) ∧ (decode dsX9_machine_19 14 = .ok (.athrow, 1) ∧ okop dsX9_machine_19 14 = true) ∧ (decode dsX9_machine_19 15 = .ok (.aload_n 0, 1) ∧ okop dsX9_machine_19 15 = true) ∧ (decode dsX9_machine_19 16 = .ok (.getfield 426, 3) ∧ okop dsX9_machine_19 16 = true) ∧ (decode dsX9_machine_19 19 = .ok (.istore_n 3, 1) ∧ okop dsX9_machine_19 19 = true) := by decide +kernel
theorem dX9_machine_19 : decode cX9_machine 19 = .ok (.arraylength, 1) := dgq (p := 0) daX9_machine_19 dbX9_machine_19.1
theorem dX9_machine_20 : decode cX9_machine 20 = .ok (.if_icmp .lt 14, 3) := dgq (p := 1) daX9_machine_19 dbX9_machine_19.2.1
theorem dX9_machine_23 : decode cX9_machine 23 = .ok (.new 67, 3) := dgq (p := 4) daX9_machine_19 dbX9_machine_19.2.2.1
theorem dX9_machine_26 : decode cX9_machine 26 = .ok (.dup, 1) := dgq (p := 7) daX9_machine_19 dbX9_machine_19.2.2.2.1
theorem dX9_machine_27 : decode cX9_machine 27 = .ok (.ldc_w 429, 3) := dgq (p := 8) daX9_machine_19 dbX9_machine_19.2.2.2.2.1
theorem dX9_machine_30 : decode cX9_machine 30 = .ok (.invokespecial 71, 3) := dgq (p := 11) daX9_machine_19 dbX9_machine_19.2.2.2.2.2.1
theorem dX9_machine_33 : decode cX9_machine 33 = .ok (.athrow, 1) := dgq (p := 14) daX9_machine_19 dbX9_machine_19.2.2.2.2.2.2.1
theorem dX9_machine_34 : decode cX9_machine 34 = .ok (.aload_n 0, 1) := dgq (p := 15) daX9_machine_19 dbX9_machine_19.2.2.2.2.2.2.2.1
theorem dX9_machine_35 : decode cX9_machine 35 = .ok (.getfield 426, 3) := dgq (p := 16) daX9_machine_19 dbX9_machine_19.2.2.2.2.2.2.2.2.1
theorem dX9_machine_38 : decode cX9_machine 38 = .ok (.istore_n 3, 1) := dgq (p := 19) daX9_machine_19 dbX9_machine_19.2.2.2.2.2.2.2.2.2
def dsX9_machine_39 : ByteArray := ⟨#[42, 180, 0, 23, 29, 187, 0, 21, 89, 27, 28, 183, 1, 175, 83, 42]⟩
theorem daX9_machine_39 : agB cX9_machine dsX9_machine_39 39 := agB_of (n := 16) (by decide +kernel)
theorem dbX9_machine_39 : (decode dsX9_machine_39 0 = .ok (.aload_n 0, 1) ∧ okop dsX9_machine_39 0 = true) ∧ (decode dsX9_machine_39 1 = .ok (.getfield 23, 3) ∧ okop dsX9_machine_39 1 = true) ∧ (decode dsX9_machine_39 4 = .ok (.iload_n 3, 1) ∧ okop dsX9_machine_39 4 = true) ∧ (decode dsX9_machine_39 5 = .ok (.new 21, 3) ∧ okop dsX9_machine_39 5 = true) ∧ (decode dsX9_machine_39 8 = .ok (.dup, 1) ∧ okop dsX9_machine_39 8 = true) ∧ (decode dsX9_machine_39 9 = .ok (.iload_n 1, 1) ∧ okop dsX9_machine_39 9 = true) ∧ (decode dsX9_machine_39 10 = .ok (.iload_n 2, 1) ∧ okop dsX9_machine_39 10 = true) ∧ (decode dsX9_machine_39 11 = .ok (.invokespecial 431, 3) ∧ okop dsX9_machine_39 11 = true) ∧ (decode dsX9_machine_39 14 = .ok (.aastore, 1) ∧ okop dsX9_machine_39 14 = true) ∧ (decode dsX9_machine_39 15 = .ok (.aload_n 0, 1) ∧ okop dsX9_machine_39 15 = true) := by decide +kernel
theorem dX9_machine_39 : decode cX9_machine 39 = .ok (.aload_n 0, 1) := dgq (p := 0) daX9_machine_39 dbX9_machine_39.1
theorem dX9_machine_40 : decode cX9_machine 40 = .ok (.getfield 23, 3) := dgq (p := 1) daX9_machine_39 dbX9_machine_39.2.1
theorem dX9_machine_43 : decode cX9_machine 43 = .ok (.iload_n 3, 1) := dgq (p := 4) daX9_machine_39 dbX9_machine_39.2.2.1
theorem dX9_machine_44 : decode cX9_machine 44 = .ok (.new 21, 3) := dgq (p := 5) daX9_machine_39 dbX9_machine_39.2.2.2.1
theorem dX9_machine_47 : decode cX9_machine 47 = .ok (.dup, 1) := dgq (p := 8) daX9_machine_39 dbX9_machine_39.2.2.2.2.1
theorem dX9_machine_48 : decode cX9_machine 48 = .ok (.iload_n 1, 1) := dgq (p := 9) daX9_machine_39 dbX9_machine_39.2.2.2.2.2.1
theorem dX9_machine_49 : decode cX9_machine 49 = .ok (.iload_n 2, 1) := dgq (p := 10) daX9_machine_39 dbX9_machine_39.2.2.2.2.2.2.1
theorem dX9_machine_50 : decode cX9_machine 50 = .ok (.invokespecial 431, 3) := dgq (p := 11) daX9_machine_39 dbX9_machine_39.2.2.2.2.2.2.2.1
theorem dX9_machine_53 : decode cX9_machine 53 = .ok (.aastore, 1) := dgq (p := 14) daX9_machine_39 dbX9_machine_39.2.2.2.2.2.2.2.2.1
theorem dX9_machine_54 : decode cX9_machine 54 = .ok (.aload_n 0, 1) := dgq (p := 15) daX9_machine_39 dbX9_machine_39.2.2.2.2.2.2.2.2.2
def dsX9_machine_55 : ByteArray := ⟨#[89, 180, 1, 170, 4, 96, 181, 1, 170, 29, 172]⟩
theorem daX9_machine_55 : agB cX9_machine dsX9_machine_55 55 := agB_of (n := 11) (by decide +kernel)
theorem dbX9_machine_55 : (decode dsX9_machine_55 0 = .ok (.dup, 1) ∧ okop dsX9_machine_55 0 = true) ∧ (decode dsX9_machine_55 1 = .ok (.getfield 426, 3) ∧ okop dsX9_machine_55 1 = true) ∧ (decode dsX9_machine_55 4 = .ok (.iconst 1, 1) ∧ okop dsX9_machine_55 4 = true) ∧ (decode dsX9_machine_55 5 = .ok (.iadd, 1) ∧ okop dsX9_machine_55 5 = true) ∧ (decode dsX9_machine_55 6 = .ok (.putfield 426, 3) ∧ okop dsX9_machine_55 6 = true) ∧ (decode dsX9_machine_55 9 = .ok (.iload_n 3, 1) ∧ okop dsX9_machine_55 9 = true) ∧ (decode dsX9_machine_55 10 = .ok (.ireturn, 1) ∧ okop dsX9_machine_55 10 = true) := by decide +kernel
theorem dX9_machine_55 : decode cX9_machine 55 = .ok (.dup, 1) := dgq (p := 0) daX9_machine_55 dbX9_machine_55.1
theorem dX9_machine_56 : decode cX9_machine 56 = .ok (.getfield 426, 3) := dgq (p := 1) daX9_machine_55 dbX9_machine_55.2.1
theorem dX9_machine_59 : decode cX9_machine 59 = .ok (.iconst 1, 1) := dgq (p := 4) daX9_machine_55 dbX9_machine_55.2.2.1
theorem dX9_machine_60 : decode cX9_machine 60 = .ok (.iadd, 1) := dgq (p := 5) daX9_machine_55 dbX9_machine_55.2.2.2.1
theorem dX9_machine_61 : decode cX9_machine 61 = .ok (.putfield 426, 3) := dgq (p := 6) daX9_machine_55 dbX9_machine_55.2.2.2.2.1
theorem dX9_machine_64 : decode cX9_machine 64 = .ok (.iload_n 3, 1) := dgq (p := 9) daX9_machine_55 dbX9_machine_55.2.2.2.2.2.1
theorem dX9_machine_65 : decode cX9_machine 65 = .ok (.ireturn, 1) := dgq (p := 10) daX9_machine_55 dbX9_machine_55.2.2.2.2.2.2
set_option maxRecDepth 20000 in
theorem ggX9_toolsAt_X9_needRange : GoodIn wsX9_toolsAt wsX9_needRange := goodIn_ca (goodIn_q _ [9, 10, 11] rfl (by decide +kernel)) (goodIn_sub (fun _ h => List.mem_cons_of_mem _ (List.mem_append_right _ h)) (by decide +kernel))
set_option maxRecDepth 20000 in
theorem gX9_toolsAt_X9_needRange : GoodIn wsX9_toolsAt (va_wsS RX9 59 yX9_needRange wsX9_needRange) := goodIn_app (goodIn_q _ [6, 7, 8] rfl (by decide +kernel)) ggX9_toolsAt_X9_needRange
def dsX9_toolsAt_0 : ByteArray := ⟨#[27, 155, 0, 11, 27, 42, 180, 1, 170, 161, 0, 14, 187, 1, 37, 89, 19, 1, 178, 183, 1, 41]⟩
theorem daX9_toolsAt_0 : agB cX9_toolsAt dsX9_toolsAt_0 0 := agB_of (n := 22) (by decide +kernel)
theorem dbX9_toolsAt_0 : (decode dsX9_toolsAt_0 0 = .ok (.iload_n 1, 1) ∧ okop dsX9_toolsAt_0 0 = true) ∧ (decode dsX9_toolsAt_0 1 = .ok (.ifCond .lt 11, 3) ∧ okop dsX9_toolsAt_0 1 = true) ∧ (decode dsX9_toolsAt_0 4 = .ok (.iload_n 1, 1) ∧ okop dsX9_toolsAt_0 4 = true) ∧ (decode dsX9_toolsAt_0 5 = .ok (.aload_n 0, 1) ∧ okop dsX9_toolsAt_0 5 = true) ∧ (decode dsX9_toolsAt_0 6 = .ok (.getfield 426, 3) ∧ okop dsX9_toolsAt_0 6 = true) ∧ (decode dsX9_toolsAt_0 9 = .ok (.if_icmp .lt 14, 3) ∧ okop dsX9_toolsAt_0 9 = true) ∧ (decode dsX9_toolsAt_0 12 = .ok (.new 293, 3) ∧ okop dsX9_toolsAt_0 12 = true) ∧ (decode dsX9_toolsAt_0 15 = .ok (.dup, 1) ∧ okop dsX9_toolsAt_0 15 = true) ∧ (decode dsX9_toolsAt_0 16 = .ok (.ldc_w 434, 3) ∧ okop dsX9_toolsAt_0 16 = true) ∧ (decode dsX9_toolsAt_0 19 = .ok (.invokespecial 297, 3) ∧ okop dsX9_toolsAt_0 19 = true) := by decide +kernel
theorem dX9_toolsAt_0 : decode cX9_toolsAt 0 = .ok (.iload_n 1, 1) := dgq (p := 0) daX9_toolsAt_0 dbX9_toolsAt_0.1
theorem dX9_toolsAt_1 : decode cX9_toolsAt 1 = .ok (.ifCond .lt 11, 3) := dgq (p := 1) daX9_toolsAt_0 dbX9_toolsAt_0.2.1
theorem dX9_toolsAt_4 : decode cX9_toolsAt 4 = .ok (.iload_n 1, 1) := dgq (p := 4) daX9_toolsAt_0 dbX9_toolsAt_0.2.2.1
theorem dX9_toolsAt_5 : decode cX9_toolsAt 5 = .ok (.aload_n 0, 1) := dgq (p := 5) daX9_toolsAt_0 dbX9_toolsAt_0.2.2.2.1
theorem dX9_toolsAt_6 : decode cX9_toolsAt 6 = .ok (.getfield 426, 3) := dgq (p := 6) daX9_toolsAt_0 dbX9_toolsAt_0.2.2.2.2.1
theorem dX9_toolsAt_9 : decode cX9_toolsAt 9 = .ok (.if_icmp .lt 14, 3) := dgq (p := 9) daX9_toolsAt_0 dbX9_toolsAt_0.2.2.2.2.2.1
theorem dX9_toolsAt_12 : decode cX9_toolsAt 12 = .ok (.new 293, 3) := dgq (p := 12) daX9_toolsAt_0 dbX9_toolsAt_0.2.2.2.2.2.2.1
theorem dX9_toolsAt_15 : decode cX9_toolsAt 15 = .ok (.dup, 1) := dgq (p := 15) daX9_toolsAt_0 dbX9_toolsAt_0.2.2.2.2.2.2.2.1
theorem dX9_toolsAt_16 : decode cX9_toolsAt 16 = .ok (.ldc_w 434, 3) := dgq (p := 16) daX9_toolsAt_0 dbX9_toolsAt_0.2.2.2.2.2.2.2.2.1
theorem dX9_toolsAt_19 : decode cX9_toolsAt 19 = .ok (.invokespecial 297, 3) := dgq (p := 19) daX9_toolsAt_0 dbX9_toolsAt_0.2.2.2.2.2.2.2.2.2
def dsX9_toolsAt_22 : ByteArray := ⟨#[191, 28, 3, 17, 39, 15, 184, 0, 59, 42, 180, 0, 23, 27, 50, 180, 1, 180]⟩
theorem daX9_toolsAt_22 : agB cX9_toolsAt dsX9_toolsAt_22 22 := agB_of (n := 18) (by decide +kernel)
theorem dbX9_toolsAt_22 : (decode dsX9_toolsAt_22 0 = .ok (.athrow, 1) ∧ okop dsX9_toolsAt_22 0 = true) ∧ (decode dsX9_toolsAt_22 1 = .ok (.iload_n 2, 1) ∧ okop dsX9_toolsAt_22 1 = true) ∧ (decode dsX9_toolsAt_22 2 = .ok (.iconst 0, 1) ∧ okop dsX9_toolsAt_22 2 = true) ∧ (decode dsX9_toolsAt_22 3 = .ok (.sipush 9999, 3) ∧ okop dsX9_toolsAt_22 3 = true) ∧ (decode dsX9_toolsAt_22 6 = .ok (.invokestatic 59, 3) ∧ okop dsX9_toolsAt_22 6 = true) ∧ (decode dsX9_toolsAt_22 9 = .ok (.aload_n 0, 1) ∧ okop dsX9_toolsAt_22 9 = true) ∧ (decode dsX9_toolsAt_22 10 = .ok (.getfield 23, 3) ∧ okop dsX9_toolsAt_22 10 = true) ∧ (decode dsX9_toolsAt_22 13 = .ok (.iload_n 1, 1) ∧ okop dsX9_toolsAt_22 13 = true) ∧ (decode dsX9_toolsAt_22 14 = .ok (.aaload, 1) ∧ okop dsX9_toolsAt_22 14 = true) ∧ (decode dsX9_toolsAt_22 15 = .ok (.getfield 436, 3) ∧ okop dsX9_toolsAt_22 15 = true) := by decide +kernel
theorem dX9_toolsAt_22 : decode cX9_toolsAt 22 = .ok (.athrow, 1) := dgq (p := 0) daX9_toolsAt_22 dbX9_toolsAt_22.1
theorem dX9_toolsAt_23 : decode cX9_toolsAt 23 = .ok (.iload_n 2, 1) := dgq (p := 1) daX9_toolsAt_22 dbX9_toolsAt_22.2.1
theorem dX9_toolsAt_24 : decode cX9_toolsAt 24 = .ok (.iconst 0, 1) := dgq (p := 2) daX9_toolsAt_22 dbX9_toolsAt_22.2.2.1
theorem dX9_toolsAt_25 : decode cX9_toolsAt 25 = .ok (.sipush 9999, 3) := dgq (p := 3) daX9_toolsAt_22 dbX9_toolsAt_22.2.2.2.1
theorem dX9_toolsAt_28 : decode cX9_toolsAt 28 = .ok (.invokestatic 59, 3) := dgq (p := 6) daX9_toolsAt_22 dbX9_toolsAt_22.2.2.2.2.1
theorem dX9_toolsAt_31 : decode cX9_toolsAt 31 = .ok (.aload_n 0, 1) := dgq (p := 9) daX9_toolsAt_22 dbX9_toolsAt_22.2.2.2.2.2.1
theorem dX9_toolsAt_32 : decode cX9_toolsAt 32 = .ok (.getfield 23, 3) := dgq (p := 10) daX9_toolsAt_22 dbX9_toolsAt_22.2.2.2.2.2.2.1
theorem dX9_toolsAt_35 : decode cX9_toolsAt 35 = .ok (.iload_n 1, 1) := dgq (p := 13) daX9_toolsAt_22 dbX9_toolsAt_22.2.2.2.2.2.2.2.1
theorem dX9_toolsAt_36 : decode cX9_toolsAt 36 = .ok (.aaload, 1) := dgq (p := 14) daX9_toolsAt_22 dbX9_toolsAt_22.2.2.2.2.2.2.2.2.1
theorem dX9_toolsAt_37 : decode cX9_toolsAt 37 = .ok (.getfield 436, 3) := dgq (p := 15) daX9_toolsAt_22 dbX9_toolsAt_22.2.2.2.2.2.2.2.2.2
def dsX9_toolsAt_40 : ByteArray := ⟨#[62, 42, 180, 0, 23, 27, 50, 28, 181, 1, 180, 29, 172]⟩
theorem daX9_toolsAt_40 : agB cX9_toolsAt dsX9_toolsAt_40 40 := agB_of (n := 13) (by decide +kernel)
theorem dbX9_toolsAt_40 : (decode dsX9_toolsAt_40 0 = .ok (.istore_n 3, 1) ∧ okop dsX9_toolsAt_40 0 = true) ∧ (decode dsX9_toolsAt_40 1 = .ok (.aload_n 0, 1) ∧ okop dsX9_toolsAt_40 1 = true) ∧ (decode dsX9_toolsAt_40 2 = .ok (.getfield 23, 3) ∧ okop dsX9_toolsAt_40 2 = true) ∧ (decode dsX9_toolsAt_40 5 = .ok (.iload_n 1, 1) ∧ okop dsX9_toolsAt_40 5 = true) ∧ (decode dsX9_toolsAt_40 6 = .ok (.aaload, 1) ∧ okop dsX9_toolsAt_40 6 = true) ∧ (decode dsX9_toolsAt_40 7 = .ok (.iload_n 2, 1) ∧ okop dsX9_toolsAt_40 7 = true) ∧ (decode dsX9_toolsAt_40 8 = .ok (.putfield 436, 3) ∧ okop dsX9_toolsAt_40 8 = true) ∧ (decode dsX9_toolsAt_40 11 = .ok (.iload_n 3, 1) ∧ okop dsX9_toolsAt_40 11 = true) ∧ (decode dsX9_toolsAt_40 12 = .ok (.ireturn, 1) ∧ okop dsX9_toolsAt_40 12 = true) := by decide +kernel
theorem dX9_toolsAt_40 : decode cX9_toolsAt 40 = .ok (.istore_n 3, 1) := dgq (p := 0) daX9_toolsAt_40 dbX9_toolsAt_40.1
theorem dX9_toolsAt_41 : decode cX9_toolsAt 41 = .ok (.aload_n 0, 1) := dgq (p := 1) daX9_toolsAt_40 dbX9_toolsAt_40.2.1
theorem dX9_toolsAt_42 : decode cX9_toolsAt 42 = .ok (.getfield 23, 3) := dgq (p := 2) daX9_toolsAt_40 dbX9_toolsAt_40.2.2.1
theorem dX9_toolsAt_45 : decode cX9_toolsAt 45 = .ok (.iload_n 1, 1) := dgq (p := 5) daX9_toolsAt_40 dbX9_toolsAt_40.2.2.2.1
theorem dX9_toolsAt_46 : decode cX9_toolsAt 46 = .ok (.aaload, 1) := dgq (p := 6) daX9_toolsAt_40 dbX9_toolsAt_40.2.2.2.2.1
theorem dX9_toolsAt_47 : decode cX9_toolsAt 47 = .ok (.iload_n 2, 1) := dgq (p := 7) daX9_toolsAt_40 dbX9_toolsAt_40.2.2.2.2.2.1
theorem dX9_toolsAt_48 : decode cX9_toolsAt 48 = .ok (.putfield 436, 3) := dgq (p := 8) daX9_toolsAt_40 dbX9_toolsAt_40.2.2.2.2.2.2.1
theorem dX9_toolsAt_51 : decode cX9_toolsAt 51 = .ok (.iload_n 3, 1) := dgq (p := 11) daX9_toolsAt_40 dbX9_toolsAt_40.2.2.2.2.2.2.2.1
theorem dX9_toolsAt_52 : decode cX9_toolsAt 52 = .ok (.ireturn, 1) := dgq (p := 12) daX9_toolsAt_40 dbX9_toolsAt_40.2.2.2.2.2.2.2.2
set_option maxRecDepth 20000 in
theorem ggX9_route_X9_gearAt : GoodIn wsX9_route wsX9_gearAt := goodIn_ca (goodIn_ca (goodIn_q _ [8, 9, 10, 11, 12] rfl (by decide +kernel)) (goodIn_sub (fun _ h => (List.mem_cons_of_mem _ (List.mem_append_left _ (List.mem_append_left _ (List.mem_append_left _ (List.mem_append_left _ (List.mem_append_right _ h))))))) tg_wsX90)) (goodIn_sub (fun _ h => List.mem_cons_of_mem _ (List.mem_append_left _ (List.mem_append_right _ h))) (by decide +kernel))
set_option maxRecDepth 20000 in
theorem gX9_route_X9_gearAt : GoodIn wsX9_route (wsV RX9 77 RX9 yX9_gearAt wsX9_gearAt) := goodIn_app (goodIn_q _ [4, 5, 6, 7] rfl (by decide +kernel)) ggX9_route_X9_gearAt
set_option maxRecDepth 20000 in
theorem ggX9_route_X9_needKind : GoodIn wsX9_route wsX9_needKind := goodIn_ca (goodIn_q _ [15, 16, 17] rfl (by decide +kernel)) (goodIn_sub (fun _ h => List.mem_cons_of_mem _ (List.mem_append_right _ h)) (by decide +kernel))
set_option maxRecDepth 20000 in
theorem gX9_route_X9_needKind : GoodIn wsX9_route (va_wsS RX9 422 yX9_needKind wsX9_needKind) := goodIn_app (goodIn_q _ [13, 14, 7] rfl (by decide +kernel)) ggX9_route_X9_needKind
set_option maxRecDepth 20000 in
theorem ggX9_route_J4_length_8abf5 : GoodIn wsX9_route wsJ4_length_8abf5 := goodIn_ca (goodIn_q _ [22, 23, 24, 25, 26, 27, 28, 29] rfl (by decide +kernel)) (goodIn_sub (fun _ h => (List.mem_cons_of_mem _ (List.mem_append_left _ (List.mem_append_left _ (List.mem_append_left _ (List.mem_append_right _ h)))))) tg_wsJ40)
set_option maxRecDepth 20000 in
theorem gX9_route_J4_length_8abf5 : GoodIn wsX9_route (wsV RX9 443 RJ4 yJ4_length_8abf5 wsJ4_length_8abf5) := goodIn_app (goodIn_q _ [18, 19, 20, 21] rfl (by decide +kernel)) ggX9_route_J4_length_8abf5
set_option maxRecDepth 20000 in
theorem ggX9_route_J4_append_cf468 : GoodIn wsX9_route wsJ4_append_cf468 := goodIn_ca (goodIn_q _ [33, 34, 35, 25, 36, 27, 37, 29, 38, 39, 40, 41, 42, 43, 44, 45, 46, 47, 48, 49, 50, 51, 52, 53, 54, 55, 56, 57, 58, 59, 60, 61, 62, 63, 64, 65, 66, 67, 68, 69, 70, 71, 72, 73, 74, 75, 76, 77, 78, 79, 80, 81, 82, 83, 84, 85, 86, 87, 88, 89, 90, 91, 92, 93, 94, 95, 96, 97, 98, 99, 100, 101, 102, 103, 104, 105, 106, 107, 108, 109, 110, 111, 112, 113, 114, 115, 116, 117, 118, 119, 120, 121, 122, 123, 124, 125, 126, 127, 128, 129, 130, 131, 132, 133, 134, 135, 136, 137, 138, 139, 140, 141, 142] rfl (by decide +kernel)) (goodIn_sub (fun _ h => (List.mem_cons_of_mem _ (List.mem_append_left _ (List.mem_append_left _ (List.mem_append_left _ (List.mem_append_right _ h)))))) tg_wsJ40)
set_option maxRecDepth 20000 in
theorem gX9_route_J4_append_cf468 : GoodIn wsX9_route (wsV RX9 450 RJ4 yJ4_append_cf468 wsJ4_append_cf468) := goodIn_app (goodIn_q _ [30, 31, 32, 21] rfl (by decide +kernel)) ggX9_route_J4_append_cf468
def dsX9_route_0 : ByteArray := ⟨#[42, 27, 182, 0, 77, 78, 28, 184, 1, 166, 45, 180, 1, 183, 182, 1, 187, 16, 8]⟩
theorem daX9_route_0 : agB cX9_route dsX9_route_0 0 := agB_of (n := 19) (by decide +kernel)
theorem dbX9_route_0 : (decode dsX9_route_0 0 = .ok (.aload_n 0, 1) ∧ okop dsX9_route_0 0 = true) ∧ (decode dsX9_route_0 1 = .ok (.iload_n 1, 1) ∧ okop dsX9_route_0 1 = true) ∧ (decode dsX9_route_0 2 = .ok (.invokevirtual 77, 3) ∧ okop dsX9_route_0 2 = true) ∧ (decode dsX9_route_0 5 = .ok (.astore_n 3, 1) ∧ okop dsX9_route_0 5 = true) ∧ (decode dsX9_route_0 6 = .ok (.iload_n 2, 1) ∧ okop dsX9_route_0 6 = true) ∧ (decode dsX9_route_0 7 = .ok (.invokestatic 422, 3) ∧ okop dsX9_route_0 7 = true) ∧ (decode dsX9_route_0 10 = .ok (.aload_n 3, 1) ∧ okop dsX9_route_0 10 = true) ∧ (decode dsX9_route_0 11 = .ok (.getfield 439, 3) ∧ okop dsX9_route_0 11 = true) ∧ (decode dsX9_route_0 14 = .ok (.invokevirtual 443, 3) ∧ okop dsX9_route_0 14 = true) ∧ (decode dsX9_route_0 17 = .ok (.bipush 8, 2) ∧ okop dsX9_route_0 17 = true) := by decide +kernel
theorem dX9_route_0 : decode cX9_route 0 = .ok (.aload_n 0, 1) := dgq (p := 0) daX9_route_0 dbX9_route_0.1
theorem dX9_route_1 : decode cX9_route 1 = .ok (.iload_n 1, 1) := dgq (p := 1) daX9_route_0 dbX9_route_0.2.1
theorem dX9_route_2 : decode cX9_route 2 = .ok (.invokevirtual 77, 3) := dgq (p := 2) daX9_route_0 dbX9_route_0.2.2.1
theorem dX9_route_5 : decode cX9_route 5 = .ok (.astore_n 3, 1) := dgq (p := 5) daX9_route_0 dbX9_route_0.2.2.2.1
theorem dX9_route_6 : decode cX9_route 6 = .ok (.iload_n 2, 1) := dgq (p := 6) daX9_route_0 dbX9_route_0.2.2.2.2.1
theorem dX9_route_7 : decode cX9_route 7 = .ok (.invokestatic 422, 3) := dgq (p := 7) daX9_route_0 dbX9_route_0.2.2.2.2.2.1
theorem dX9_route_10 : decode cX9_route 10 = .ok (.aload_n 3, 1) := dgq (p := 10) daX9_route_0 dbX9_route_0.2.2.2.2.2.2.1
theorem dX9_route_11 : decode cX9_route 11 = .ok (.getfield 439, 3) := dgq (p := 11) daX9_route_0 dbX9_route_0.2.2.2.2.2.2.2.1
theorem dX9_route_14 : decode cX9_route 14 = .ok (.invokevirtual 443, 3) := dgq (p := 14) daX9_route_0 dbX9_route_0.2.2.2.2.2.2.2.2.1
theorem dX9_route_17 : decode cX9_route 17 = .ok (.bipush 8, 2) := dgq (p := 17) daX9_route_0 dbX9_route_0.2.2.2.2.2.2.2.2.2
def dsX9_route_19 : ByteArray := ⟨#[161, 0, 14, 187, 0, 67, 89, 19, 1, 192, 183, 0, 71, 191, 45, 180, 1, 183, 28, 182, 1, 194]⟩
theorem daX9_route_19 : agB cX9_route dsX9_route_19 19 := agB_of (n := 22) (by decide +kernel)
theorem dbX9_route_19 : (decode dsX9_route_19 0 = .ok (.if_icmp .lt 14, 3) ∧ okop dsX9_route_19 0 = true) ∧ (decode dsX9_route_19 3 = .ok (.new 67, 3) ∧ okop dsX9_route_19 3 = true) ∧ (decode dsX9_route_19 6 = .ok (.dup, 1) ∧ okop dsX9_route_19 6 = true) ∧ (decode dsX9_route_19 7 = .ok (.ldc_w 448, 3) ∧ okop dsX9_route_19 7 = true) ∧ (decode dsX9_route_19 10 = .ok (.invokespecial 71, 3) ∧ okop dsX9_route_19 10 = true) ∧ (decode dsX9_route_19 13 = .ok (.athrow, 1) ∧ okop dsX9_route_19 13 = true) ∧ (decode dsX9_route_19 14 = .ok (.aload_n 3, 1) ∧ okop dsX9_route_19 14 = true) ∧ (decode dsX9_route_19 15 = .ok (.getfield 439, 3) ∧ okop dsX9_route_19 15 = true) ∧ (decode dsX9_route_19 18 = .ok (.iload_n 2, 1) ∧ okop dsX9_route_19 18 = true) ∧ (decode dsX9_route_19 19 = .ok (.invokevirtual 450, 3) ∧ okop dsX9_route_19 19 = true) := by decide +kernel
theorem dX9_route_19 : decode cX9_route 19 = .ok (.if_icmp .lt 14, 3) := dgq (p := 0) daX9_route_19 dbX9_route_19.1
theorem dX9_route_22 : decode cX9_route 22 = .ok (.new 67, 3) := dgq (p := 3) daX9_route_19 dbX9_route_19.2.1
theorem dX9_route_25 : decode cX9_route 25 = .ok (.dup, 1) := dgq (p := 6) daX9_route_19 dbX9_route_19.2.2.1
theorem dX9_route_26 : decode cX9_route 26 = .ok (.ldc_w 448, 3) := dgq (p := 7) daX9_route_19 dbX9_route_19.2.2.2.1
theorem dX9_route_29 : decode cX9_route 29 = .ok (.invokespecial 71, 3) := dgq (p := 10) daX9_route_19 dbX9_route_19.2.2.2.2.1
theorem dX9_route_32 : decode cX9_route 32 = .ok (.athrow, 1) := dgq (p := 13) daX9_route_19 dbX9_route_19.2.2.2.2.2.1
theorem dX9_route_33 : decode cX9_route 33 = .ok (.aload_n 3, 1) := dgq (p := 14) daX9_route_19 dbX9_route_19.2.2.2.2.2.2.1
theorem dX9_route_34 : decode cX9_route 34 = .ok (.getfield 439, 3) := dgq (p := 15) daX9_route_19 dbX9_route_19.2.2.2.2.2.2.2.1
theorem dX9_route_37 : decode cX9_route 37 = .ok (.iload_n 2, 1) := dgq (p := 18) daX9_route_19 dbX9_route_19.2.2.2.2.2.2.2.2.1
theorem dX9_route_38 : decode cX9_route 38 = .ok (.invokevirtual 450, 3) := dgq (p := 19) daX9_route_19 dbX9_route_19.2.2.2.2.2.2.2.2.2
def dsX9_route_41 : ByteArray := ⟨#[87, 45, 180, 1, 183, 182, 1, 187, 172]⟩
theorem daX9_route_41 : agB cX9_route dsX9_route_41 41 := agB_of (n := 9) (by decide +kernel)
theorem dbX9_route_41 : (decode dsX9_route_41 0 = .ok (.pop, 1) ∧ okop dsX9_route_41 0 = true) ∧ (decode dsX9_route_41 1 = .ok (.aload_n 3, 1) ∧ okop dsX9_route_41 1 = true) ∧ (decode dsX9_route_41 2 = .ok (.getfield 439, 3) ∧ okop dsX9_route_41 2 = true) ∧ (decode dsX9_route_41 5 = .ok (.invokevirtual 443, 3) ∧ okop dsX9_route_41 5 = true) ∧ (decode dsX9_route_41 8 = .ok (.ireturn, 1) ∧ okop dsX9_route_41 8 = true) := by decide +kernel
theorem dX9_route_41 : decode cX9_route 41 = .ok (.pop, 1) := dgq (p := 0) daX9_route_41 dbX9_route_41.1
theorem dX9_route_42 : decode cX9_route 42 = .ok (.aload_n 3, 1) := dgq (p := 1) daX9_route_41 dbX9_route_41.2.1
theorem dX9_route_43 : decode cX9_route 43 = .ok (.getfield 439, 3) := dgq (p := 2) daX9_route_41 dbX9_route_41.2.2.1
theorem dX9_route_46 : decode cX9_route 46 = .ok (.invokevirtual 443, 3) := dgq (p := 5) daX9_route_41 dbX9_route_41.2.2.2.1
theorem dX9_route_49 : decode cX9_route 49 = .ok (.ireturn, 1) := dgq (p := 8) daX9_route_41 dbX9_route_41.2.2.2.2
set_option maxRecDepth 20000 in
theorem ggX9_doneAt_X9_gearAt : GoodIn wsX9_doneAt wsX9_gearAt := goodIn_ca (goodIn_ca (goodIn_q _ [13, 14, 15, 6, 7] rfl (by decide +kernel)) (goodIn_sub (fun _ h => (List.mem_cons_of_mem _ (List.mem_append_left _ (List.mem_append_left _ (List.mem_append_left _ (List.mem_append_left _ (List.mem_append_left _ (List.mem_append_right _ h)))))))) tg_wsX90)) (goodIn_sub (fun _ h => List.mem_cons_of_mem _ (List.mem_append_left _ (List.mem_append_right _ h))) (by decide +kernel))
set_option maxRecDepth 20000 in
theorem gX9_doneAt_X9_gearAt : GoodIn wsX9_doneAt (wsV RX9 77 RX9 yX9_gearAt wsX9_gearAt) := goodIn_app (goodIn_q _ [9, 10, 11, 12] rfl (by decide +kernel)) ggX9_doneAt_X9_gearAt
set_option maxRecDepth 20000 in
theorem ggX9_doneAt_X9_needMachines : GoodIn wsX9_doneAt wsX9_needMachines := goodIn_ca (goodIn_ca (goodIn_ca (goodIn_ca (goodIn_ca (goodIn_q _ [19, 20, 21, 6, 7, 8, 22, 23, 24, 25, 26, 27, 28, 29, 30, 31, 32, 33, 34, 35, 36, 37, 38, 39, 40, 41, 42, 43, 44, 45, 46, 47, 48, 49, 50, 51, 52, 53, 54, 55, 56, 57, 58, 59, 60, 61, 62, 63, 64, 65, 66, 67, 68, 69, 12, 70, 71, 1, 2, 72, 73, 74, 75, 76, 77, 78, 79, 80, 81, 82] rfl (by decide +kernel)) (goodIn_sub (fun _ h => (List.mem_cons_of_mem _ (List.mem_append_left _ (List.mem_append_left _ (List.mem_append_left _ (List.mem_append_left _ (List.mem_append_left _ (List.mem_append_right _ h)))))))) tg_wsX90)) (goodIn_sub (fun _ h => (List.mem_cons_of_mem _ (List.mem_append_left _ (List.mem_append_left _ (List.mem_append_left _ (List.mem_append_right _ h)))))) tg_wsX20)) (goodIn_sub (fun _ h => (List.mem_cons_of_mem _ (List.mem_append_left _ (List.mem_append_left _ (List.mem_append_right _ h))))) tg_wsJ40)) (goodIn_sub (fun _ h => (List.mem_cons_of_mem _ (List.mem_append_left _ (List.mem_append_left _ (List.mem_append_left _ (List.mem_append_left _ (List.mem_append_right _ h))))))) tg_wsX70)) (goodIn_sub (fun _ h => List.mem_cons_of_mem _ (List.mem_append_right _ h)) (by decide +kernel))
set_option maxRecDepth 20000 in
theorem gX9_doneAt_X9_needMachines : GoodIn wsX9_doneAt (wsV RX9 454 RX9 yX9_needMachines wsX9_needMachines) := goodIn_app (goodIn_q _ [16, 17, 18, 12] rfl (by decide +kernel)) ggX9_doneAt_X9_needMachines
set_option maxRecDepth 20000 in
theorem ggX9_doneAt_X9_passRoute : GoodIn wsX9_doneAt wsX9_passRoute := goodIn_ca (goodIn_ca (goodIn_ca (goodIn_q _ [86, 1, 2, 4, 22, 23, 24, 25, 26, 27, 28, 29, 30, 31, 32, 33, 34, 35, 36, 37, 38, 39, 40, 41, 42, 43, 44, 45, 46, 47, 48, 49, 50, 51, 52, 53, 54, 55, 56, 57, 58, 59, 60, 61, 62, 63, 64, 65, 66, 67, 68, 69, 12, 70, 71, 72, 73, 74, 75, 76, 77, 78, 79, 80, 81, 82] rfl (by decide +kernel)) (goodIn_sub (fun _ h => (List.mem_cons_of_mem _ (List.mem_append_left _ (List.mem_append_left _ (List.mem_append_left _ (List.mem_append_left _ (List.mem_append_left _ (List.mem_append_right _ h)))))))) tg_wsX90)) (goodIn_sub (fun _ h => (List.mem_cons_of_mem _ (List.mem_append_left _ (List.mem_append_left _ (List.mem_append_left _ (List.mem_append_left _ (List.mem_append_right _ h))))))) tg_wsX70)) (goodIn_sub (fun _ h => (List.mem_cons_of_mem _ (List.mem_append_left _ (List.mem_append_left _ (List.mem_append_right _ h))))) tg_wsJ40)
set_option maxRecDepth 20000 in
theorem gX9_doneAt_X9_passRoute : GoodIn wsX9_doneAt (wsV RX9 460 RX9 yX9_passRoute wsX9_passRoute) := goodIn_app (goodIn_q _ [83, 84, 85, 12] rfl (by decide +kernel)) ggX9_doneAt_X9_passRoute
def dsX9_doneAt_0 : ByteArray := ⟨#[42, 27, 182, 0, 77, 77, 42, 182, 1, 198, 3, 62, 29, 42]⟩
theorem daX9_doneAt_0 : agB cX9_doneAt dsX9_doneAt_0 0 := agB_of (n := 14) (by decide +kernel)
theorem dbX9_doneAt_0 : (decode dsX9_doneAt_0 0 = .ok (.aload_n 0, 1) ∧ okop dsX9_doneAt_0 0 = true) ∧ (decode dsX9_doneAt_0 1 = .ok (.iload_n 1, 1) ∧ okop dsX9_doneAt_0 1 = true) ∧ (decode dsX9_doneAt_0 2 = .ok (.invokevirtual 77, 3) ∧ okop dsX9_doneAt_0 2 = true) ∧ (decode dsX9_doneAt_0 5 = .ok (.astore_n 2, 1) ∧ okop dsX9_doneAt_0 5 = true) ∧ (decode dsX9_doneAt_0 6 = .ok (.aload_n 0, 1) ∧ okop dsX9_doneAt_0 6 = true) ∧ (decode dsX9_doneAt_0 7 = .ok (.invokevirtual 454, 3) ∧ okop dsX9_doneAt_0 7 = true) ∧ (decode dsX9_doneAt_0 10 = .ok (.iconst 0, 1) ∧ okop dsX9_doneAt_0 10 = true) ∧ (decode dsX9_doneAt_0 11 = .ok (.istore_n 3, 1) ∧ okop dsX9_doneAt_0 11 = true) ∧ (decode dsX9_doneAt_0 12 = .ok (.iload_n 3, 1) ∧ okop dsX9_doneAt_0 12 = true) ∧ (decode dsX9_doneAt_0 13 = .ok (.aload_n 0, 1) ∧ okop dsX9_doneAt_0 13 = true) := by decide +kernel
theorem dX9_doneAt_0 : decode cX9_doneAt 0 = .ok (.aload_n 0, 1) := dgq (p := 0) daX9_doneAt_0 dbX9_doneAt_0.1
theorem dX9_doneAt_1 : decode cX9_doneAt 1 = .ok (.iload_n 1, 1) := dgq (p := 1) daX9_doneAt_0 dbX9_doneAt_0.2.1
theorem dX9_doneAt_2 : decode cX9_doneAt 2 = .ok (.invokevirtual 77, 3) := dgq (p := 2) daX9_doneAt_0 dbX9_doneAt_0.2.2.1
theorem dX9_doneAt_5 : decode cX9_doneAt 5 = .ok (.astore_n 2, 1) := dgq (p := 5) daX9_doneAt_0 dbX9_doneAt_0.2.2.2.1
theorem dX9_doneAt_6 : decode cX9_doneAt 6 = .ok (.aload_n 0, 1) := dgq (p := 6) daX9_doneAt_0 dbX9_doneAt_0.2.2.2.2.1
theorem dX9_doneAt_7 : decode cX9_doneAt 7 = .ok (.invokevirtual 454, 3) := dgq (p := 7) daX9_doneAt_0 dbX9_doneAt_0.2.2.2.2.2.1
theorem dX9_doneAt_10 : decode cX9_doneAt 10 = .ok (.iconst 0, 1) := dgq (p := 10) daX9_doneAt_0 dbX9_doneAt_0.2.2.2.2.2.2.1
theorem dX9_doneAt_11 : decode cX9_doneAt 11 = .ok (.istore_n 3, 1) := dgq (p := 11) daX9_doneAt_0 dbX9_doneAt_0.2.2.2.2.2.2.2.1
theorem dX9_doneAt_12 : decode cX9_doneAt 12 = .ok (.iload_n 3, 1) := dgq (p := 12) daX9_doneAt_0 dbX9_doneAt_0.2.2.2.2.2.2.2.2.1
theorem dX9_doneAt_13 : decode cX9_doneAt 13 = .ok (.aload_n 0, 1) := dgq (p := 13) daX9_doneAt_0 dbX9_doneAt_0.2.2.2.2.2.2.2.2.2
def dsX9_doneAt_14 : ByteArray := ⟨#[180, 1, 170, 162, 0, 27, 42, 180, 0, 23, 29, 50, 42, 180, 0, 23, 29, 50]⟩
theorem daX9_doneAt_14 : agB cX9_doneAt dsX9_doneAt_14 14 := agB_of (n := 18) (by decide +kernel)
theorem dbX9_doneAt_14 : (decode dsX9_doneAt_14 0 = .ok (.getfield 426, 3) ∧ okop dsX9_doneAt_14 0 = true) ∧ (decode dsX9_doneAt_14 3 = .ok (.if_icmp .ge 27, 3) ∧ okop dsX9_doneAt_14 3 = true) ∧ (decode dsX9_doneAt_14 6 = .ok (.aload_n 0, 1) ∧ okop dsX9_doneAt_14 6 = true) ∧ (decode dsX9_doneAt_14 7 = .ok (.getfield 23, 3) ∧ okop dsX9_doneAt_14 7 = true) ∧ (decode dsX9_doneAt_14 10 = .ok (.iload_n 3, 1) ∧ okop dsX9_doneAt_14 10 = true) ∧ (decode dsX9_doneAt_14 11 = .ok (.aaload, 1) ∧ okop dsX9_doneAt_14 11 = true) ∧ (decode dsX9_doneAt_14 12 = .ok (.aload_n 0, 1) ∧ okop dsX9_doneAt_14 12 = true) ∧ (decode dsX9_doneAt_14 13 = .ok (.getfield 23, 3) ∧ okop dsX9_doneAt_14 13 = true) ∧ (decode dsX9_doneAt_14 16 = .ok (.iload_n 3, 1) ∧ okop dsX9_doneAt_14 16 = true) ∧ (decode dsX9_doneAt_14 17 = .ok (.aaload, 1) ∧ okop dsX9_doneAt_14 17 = true) := by decide +kernel
theorem dX9_doneAt_14 : decode cX9_doneAt 14 = .ok (.getfield 426, 3) := dgq (p := 0) daX9_doneAt_14 dbX9_doneAt_14.1
theorem dX9_doneAt_17 : decode cX9_doneAt 17 = .ok (.if_icmp .ge 27, 3) := dgq (p := 3) daX9_doneAt_14 dbX9_doneAt_14.2.1
theorem dX9_doneAt_20 : decode cX9_doneAt 20 = .ok (.aload_n 0, 1) := dgq (p := 6) daX9_doneAt_14 dbX9_doneAt_14.2.2.1
theorem dX9_doneAt_21 : decode cX9_doneAt 21 = .ok (.getfield 23, 3) := dgq (p := 7) daX9_doneAt_14 dbX9_doneAt_14.2.2.2.1
theorem dX9_doneAt_24 : decode cX9_doneAt 24 = .ok (.iload_n 3, 1) := dgq (p := 10) daX9_doneAt_14 dbX9_doneAt_14.2.2.2.2.1
theorem dX9_doneAt_25 : decode cX9_doneAt 25 = .ok (.aaload, 1) := dgq (p := 11) daX9_doneAt_14 dbX9_doneAt_14.2.2.2.2.2.1
theorem dX9_doneAt_26 : decode cX9_doneAt 26 = .ok (.aload_n 0, 1) := dgq (p := 12) daX9_doneAt_14 dbX9_doneAt_14.2.2.2.2.2.2.1
theorem dX9_doneAt_27 : decode cX9_doneAt 27 = .ok (.getfield 23, 3) := dgq (p := 13) daX9_doneAt_14 dbX9_doneAt_14.2.2.2.2.2.2.2.1
theorem dX9_doneAt_30 : decode cX9_doneAt 30 = .ok (.iload_n 3, 1) := dgq (p := 16) daX9_doneAt_14 dbX9_doneAt_14.2.2.2.2.2.2.2.2.1
theorem dX9_doneAt_31 : decode cX9_doneAt 31 = .ok (.aaload, 1) := dgq (p := 17) daX9_doneAt_14 dbX9_doneAt_14.2.2.2.2.2.2.2.2.2
def dsX9_doneAt_32 : ByteArray := ⟨#[180, 1, 180, 181, 1, 201, 132, 3, 1, 167, 255, 227, 3, 62, 3, 54, 4, 21, 4, 44]⟩
theorem daX9_doneAt_32 : agB cX9_doneAt dsX9_doneAt_32 32 := agB_of (n := 20) (by decide +kernel)
theorem dbX9_doneAt_32 : (decode dsX9_doneAt_32 0 = .ok (.getfield 436, 3) ∧ okop dsX9_doneAt_32 0 = true) ∧ (decode dsX9_doneAt_32 3 = .ok (.putfield 457, 3) ∧ okop dsX9_doneAt_32 3 = true) ∧ (decode dsX9_doneAt_32 6 = .ok (.iinc 3 1, 3) ∧ okop dsX9_doneAt_32 6 = true) ∧ (decode dsX9_doneAt_32 9 = .ok (.goto (-29), 3) ∧ okop dsX9_doneAt_32 9 = true) ∧ (decode dsX9_doneAt_32 12 = .ok (.iconst 0, 1) ∧ okop dsX9_doneAt_32 12 = true) ∧ (decode dsX9_doneAt_32 13 = .ok (.istore_n 3, 1) ∧ okop dsX9_doneAt_32 13 = true) ∧ (decode dsX9_doneAt_32 14 = .ok (.iconst 0, 1) ∧ okop dsX9_doneAt_32 14 = true) ∧ (decode dsX9_doneAt_32 15 = .ok (.istore 4, 2) ∧ okop dsX9_doneAt_32 15 = true) ∧ (decode dsX9_doneAt_32 17 = .ok (.iload 4, 2) ∧ okop dsX9_doneAt_32 17 = true) ∧ (decode dsX9_doneAt_32 19 = .ok (.aload_n 2, 1) ∧ okop dsX9_doneAt_32 19 = true) := by decide +kernel
theorem dX9_doneAt_32 : decode cX9_doneAt 32 = .ok (.getfield 436, 3) := dgq (p := 0) daX9_doneAt_32 dbX9_doneAt_32.1
theorem dX9_doneAt_35 : decode cX9_doneAt 35 = .ok (.putfield 457, 3) := dgq (p := 3) daX9_doneAt_32 dbX9_doneAt_32.2.1
theorem dX9_doneAt_38 : decode cX9_doneAt 38 = .ok (.iinc 3 1, 3) := dgq (p := 6) daX9_doneAt_32 dbX9_doneAt_32.2.2.1
theorem dX9_doneAt_41 : decode cX9_doneAt 41 = .ok (.goto (-29), 3) := dgq (p := 9) daX9_doneAt_32 dbX9_doneAt_32.2.2.2.1
theorem dX9_doneAt_44 : decode cX9_doneAt 44 = .ok (.iconst 0, 1) := dgq (p := 12) daX9_doneAt_32 dbX9_doneAt_32.2.2.2.2.1
theorem dX9_doneAt_45 : decode cX9_doneAt 45 = .ok (.istore_n 3, 1) := dgq (p := 13) daX9_doneAt_32 dbX9_doneAt_32.2.2.2.2.2.1
theorem dX9_doneAt_46 : decode cX9_doneAt 46 = .ok (.iconst 0, 1) := dgq (p := 14) daX9_doneAt_32 dbX9_doneAt_32.2.2.2.2.2.2.1
theorem dX9_doneAt_47 : decode cX9_doneAt 47 = .ok (.istore 4, 2) := dgq (p := 15) daX9_doneAt_32 dbX9_doneAt_32.2.2.2.2.2.2.2.1
theorem dX9_doneAt_49 : decode cX9_doneAt 49 = .ok (.iload 4, 2) := dgq (p := 17) daX9_doneAt_32 dbX9_doneAt_32.2.2.2.2.2.2.2.2.1
theorem dX9_doneAt_51 : decode cX9_doneAt 51 = .ok (.aload_n 2, 1) := dgq (p := 19) daX9_doneAt_32 dbX9_doneAt_32.2.2.2.2.2.2.2.2.2
def dsX9_doneAt_52 : ByteArray := ⟨#[180, 1, 163, 163, 0, 33, 21, 4, 42, 180, 0, 64, 162, 0, 24, 42, 42, 180, 0, 11, 21, 4]⟩
theorem daX9_doneAt_52 : agB cX9_doneAt dsX9_doneAt_52 52 := agB_of (n := 22) (by decide +kernel)
theorem dbX9_doneAt_52 : (decode dsX9_doneAt_52 0 = .ok (.getfield 419, 3) ∧ okop dsX9_doneAt_52 0 = true) ∧ (decode dsX9_doneAt_52 3 = .ok (.if_icmp .gt 33, 3) ∧ okop dsX9_doneAt_52 3 = true) ∧ (decode dsX9_doneAt_52 6 = .ok (.iload 4, 2) ∧ okop dsX9_doneAt_52 6 = true) ∧ (decode dsX9_doneAt_52 8 = .ok (.aload_n 0, 1) ∧ okop dsX9_doneAt_52 8 = true) ∧ (decode dsX9_doneAt_52 9 = .ok (.getfield 64, 3) ∧ okop dsX9_doneAt_52 9 = true) ∧ (decode dsX9_doneAt_52 12 = .ok (.if_icmp .ge 24, 3) ∧ okop dsX9_doneAt_52 12 = true) ∧ (decode dsX9_doneAt_52 15 = .ok (.aload_n 0, 1) ∧ okop dsX9_doneAt_52 15 = true) ∧ (decode dsX9_doneAt_52 16 = .ok (.aload_n 0, 1) ∧ okop dsX9_doneAt_52 16 = true) ∧ (decode dsX9_doneAt_52 17 = .ok (.getfield 11, 3) ∧ okop dsX9_doneAt_52 17 = true) ∧ (decode dsX9_doneAt_52 20 = .ok (.iload 4, 2) ∧ okop dsX9_doneAt_52 20 = true) := by decide +kernel
theorem dX9_doneAt_52 : decode cX9_doneAt 52 = .ok (.getfield 419, 3) := dgq (p := 0) daX9_doneAt_52 dbX9_doneAt_52.1
theorem dX9_doneAt_55 : decode cX9_doneAt 55 = .ok (.if_icmp .gt 33, 3) := dgq (p := 3) daX9_doneAt_52 dbX9_doneAt_52.2.1
theorem dX9_doneAt_58 : decode cX9_doneAt 58 = .ok (.iload 4, 2) := dgq (p := 6) daX9_doneAt_52 dbX9_doneAt_52.2.2.1
theorem dX9_doneAt_60 : decode cX9_doneAt 60 = .ok (.aload_n 0, 1) := dgq (p := 8) daX9_doneAt_52 dbX9_doneAt_52.2.2.2.1
theorem dX9_doneAt_61 : decode cX9_doneAt 61 = .ok (.getfield 64, 3) := dgq (p := 9) daX9_doneAt_52 dbX9_doneAt_52.2.2.2.2.1
theorem dX9_doneAt_64 : decode cX9_doneAt 64 = .ok (.if_icmp .ge 24, 3) := dgq (p := 12) daX9_doneAt_52 dbX9_doneAt_52.2.2.2.2.2.1
theorem dX9_doneAt_67 : decode cX9_doneAt 67 = .ok (.aload_n 0, 1) := dgq (p := 15) daX9_doneAt_52 dbX9_doneAt_52.2.2.2.2.2.2.1
theorem dX9_doneAt_68 : decode cX9_doneAt 68 = .ok (.aload_n 0, 1) := dgq (p := 16) daX9_doneAt_52 dbX9_doneAt_52.2.2.2.2.2.2.2.1
theorem dX9_doneAt_69 : decode cX9_doneAt 69 = .ok (.getfield 11, 3) := dgq (p := 17) daX9_doneAt_52 dbX9_doneAt_52.2.2.2.2.2.2.2.2.1
theorem dX9_doneAt_72 : decode cX9_doneAt 72 = .ok (.iload 4, 2) := dgq (p := 20) daX9_doneAt_52 dbX9_doneAt_52.2.2.2.2.2.2.2.2.2
def dsX9_doneAt_74 : ByteArray := ⟨#[50, 180, 1, 183, 182, 1, 204, 62, 132, 4, 1, 167, 255, 220, 29, 172]⟩
theorem daX9_doneAt_74 : agB cX9_doneAt dsX9_doneAt_74 74 := agB_of (n := 16) (by decide +kernel)
theorem dbX9_doneAt_74 : (decode dsX9_doneAt_74 0 = .ok (.aaload, 1) ∧ okop dsX9_doneAt_74 0 = true) ∧ (decode dsX9_doneAt_74 1 = .ok (.getfield 439, 3) ∧ okop dsX9_doneAt_74 1 = true) ∧ (decode dsX9_doneAt_74 4 = .ok (.invokevirtual 460, 3) ∧ okop dsX9_doneAt_74 4 = true) ∧ (decode dsX9_doneAt_74 7 = .ok (.istore_n 3, 1) ∧ okop dsX9_doneAt_74 7 = true) ∧ (decode dsX9_doneAt_74 8 = .ok (.iinc 4 1, 3) ∧ okop dsX9_doneAt_74 8 = true) ∧ (decode dsX9_doneAt_74 11 = .ok (.goto (-36), 3) ∧ okop dsX9_doneAt_74 11 = true) ∧ (decode dsX9_doneAt_74 14 = .ok (.iload_n 3, 1) ∧ okop dsX9_doneAt_74 14 = true) ∧ (decode dsX9_doneAt_74 15 = .ok (.ireturn, 1) ∧ okop dsX9_doneAt_74 15 = true) := by decide +kernel
theorem dX9_doneAt_74 : decode cX9_doneAt 74 = .ok (.aaload, 1) := dgq (p := 0) daX9_doneAt_74 dbX9_doneAt_74.1
theorem dX9_doneAt_75 : decode cX9_doneAt 75 = .ok (.getfield 439, 3) := dgq (p := 1) daX9_doneAt_74 dbX9_doneAt_74.2.1
theorem dX9_doneAt_78 : decode cX9_doneAt 78 = .ok (.invokevirtual 460, 3) := dgq (p := 4) daX9_doneAt_74 dbX9_doneAt_74.2.2.1
theorem dX9_doneAt_81 : decode cX9_doneAt 81 = .ok (.istore_n 3, 1) := dgq (p := 7) daX9_doneAt_74 dbX9_doneAt_74.2.2.2.1
theorem dX9_doneAt_82 : decode cX9_doneAt 82 = .ok (.iinc 4 1, 3) := dgq (p := 8) daX9_doneAt_74 dbX9_doneAt_74.2.2.2.2.1
theorem dX9_doneAt_85 : decode cX9_doneAt 85 = .ok (.goto (-36), 3) := dgq (p := 11) daX9_doneAt_74 dbX9_doneAt_74.2.2.2.2.2.1
theorem dX9_doneAt_88 : decode cX9_doneAt 88 = .ok (.iload_n 3, 1) := dgq (p := 14) daX9_doneAt_74 dbX9_doneAt_74.2.2.2.2.2.2.1
theorem dX9_doneAt_89 : decode cX9_doneAt 89 = .ok (.ireturn, 1) := dgq (p := 15) daX9_doneAt_74 dbX9_doneAt_74.2.2.2.2.2.2.2
set_option maxRecDepth 20000 in
theorem ggX9_needMachines_J4_length_8abf5 : GoodIn wsX9_needMachines wsJ4_length_8abf5 := goodIn_ca (goodIn_q _ [10, 11, 12, 13, 14, 15, 16, 17] rfl (by decide +kernel)) (goodIn_sub (fun _ h => (List.mem_cons_of_mem _ (List.mem_append_left _ (List.mem_append_left _ (List.mem_append_right _ h))))) tg_wsJ40)
set_option maxRecDepth 20000 in
theorem gX9_needMachines_J4_length_8abf5 : GoodIn wsX9_needMachines (wsV RX9 443 RJ4 yJ4_length_8abf5 wsJ4_length_8abf5) := goodIn_app (goodIn_q _ [6, 7, 8, 9] rfl (by decide +kernel)) ggX9_needMachines_J4_length_8abf5
set_option maxRecDepth 20000 in
theorem ggX9_needMachines_J4_charAt_5068e : GoodIn wsX9_needMachines wsJ4_charAt_5068e := goodIn_ca (goodIn_q _ [21, 22, 23, 13, 24, 15, 25, 26, 27, 17, 28, 29, 30, 31, 32, 33, 34, 35, 36, 37, 38, 39, 40, 41, 42, 43, 44, 45, 46, 47, 48, 49, 50] rfl (by decide +kernel)) (goodIn_sub (fun _ h => (List.mem_cons_of_mem _ (List.mem_append_left _ (List.mem_append_left _ (List.mem_append_right _ h))))) tg_wsJ40)
set_option maxRecDepth 20000 in
theorem gX9_needMachines_J4_charAt_5068e : GoodIn wsX9_needMachines (wsV RX9 464 RJ4 yJ4_charAt_5068e wsJ4_charAt_5068e) := goodIn_app (goodIn_q _ [18, 19, 20, 9] rfl (by decide +kernel)) ggX9_needMachines_J4_charAt_5068e
set_option maxRecDepth 20000 in
theorem ggX9_needMachines_X9_soonest : GoodIn wsX9_needMachines wsX9_soonest := goodIn_ca (goodIn_ca (goodIn_q _ [55, 56, 57, 58, 59, 60, 61, 62, 63, 64, 65, 66, 67, 30, 68, 69] rfl (by decide +kernel)) (goodIn_sub (fun _ h => (List.mem_cons_of_mem _ (List.mem_append_left _ (List.mem_append_left _ (List.mem_append_left _ (List.mem_append_left _ (List.mem_append_right _ h))))))) tg_wsX90)) (goodIn_sub (fun _ h => (List.mem_cons_of_mem _ (List.mem_append_left _ (List.mem_append_right _ h)))) tg_wsX70)
set_option maxRecDepth 20000 in
theorem gX9_needMachines_X9_soonest : GoodIn wsX9_needMachines (wsV RX9 468 RX9 yX9_soonest wsX9_soonest) := goodIn_app (goodIn_q _ [51, 52, 53, 54] rfl (by decide +kernel)) ggX9_needMachines_X9_soonest
def dsX9_needMachines_0 : ByteArray := ⟨#[3, 60, 27, 42, 180, 0, 64, 162, 0, 60, 42, 180, 0, 11, 27, 50]⟩
theorem daX9_needMachines_0 : agB cX9_needMachines dsX9_needMachines_0 0 := agB_of (n := 16) (by decide +kernel)
theorem dbX9_needMachines_0 : (decode dsX9_needMachines_0 0 = .ok (.iconst 0, 1) ∧ okop dsX9_needMachines_0 0 = true) ∧ (decode dsX9_needMachines_0 1 = .ok (.istore_n 1, 1) ∧ okop dsX9_needMachines_0 1 = true) ∧ (decode dsX9_needMachines_0 2 = .ok (.iload_n 1, 1) ∧ okop dsX9_needMachines_0 2 = true) ∧ (decode dsX9_needMachines_0 3 = .ok (.aload_n 0, 1) ∧ okop dsX9_needMachines_0 3 = true) ∧ (decode dsX9_needMachines_0 4 = .ok (.getfield 64, 3) ∧ okop dsX9_needMachines_0 4 = true) ∧ (decode dsX9_needMachines_0 7 = .ok (.if_icmp .ge 60, 3) ∧ okop dsX9_needMachines_0 7 = true) ∧ (decode dsX9_needMachines_0 10 = .ok (.aload_n 0, 1) ∧ okop dsX9_needMachines_0 10 = true) ∧ (decode dsX9_needMachines_0 11 = .ok (.getfield 11, 3) ∧ okop dsX9_needMachines_0 11 = true) ∧ (decode dsX9_needMachines_0 14 = .ok (.iload_n 1, 1) ∧ okop dsX9_needMachines_0 14 = true) ∧ (decode dsX9_needMachines_0 15 = .ok (.aaload, 1) ∧ okop dsX9_needMachines_0 15 = true) := by decide +kernel
theorem dX9_needMachines_0 : decode cX9_needMachines 0 = .ok (.iconst 0, 1) := dgq (p := 0) daX9_needMachines_0 dbX9_needMachines_0.1
theorem dX9_needMachines_1 : decode cX9_needMachines 1 = .ok (.istore_n 1, 1) := dgq (p := 1) daX9_needMachines_0 dbX9_needMachines_0.2.1
theorem dX9_needMachines_2 : decode cX9_needMachines 2 = .ok (.iload_n 1, 1) := dgq (p := 2) daX9_needMachines_0 dbX9_needMachines_0.2.2.1
theorem dX9_needMachines_3 : decode cX9_needMachines 3 = .ok (.aload_n 0, 1) := dgq (p := 3) daX9_needMachines_0 dbX9_needMachines_0.2.2.2.1
theorem dX9_needMachines_4 : decode cX9_needMachines 4 = .ok (.getfield 64, 3) := dgq (p := 4) daX9_needMachines_0 dbX9_needMachines_0.2.2.2.2.1
theorem dX9_needMachines_7 : decode cX9_needMachines 7 = .ok (.if_icmp .ge 60, 3) := dgq (p := 7) daX9_needMachines_0 dbX9_needMachines_0.2.2.2.2.2.1
theorem dX9_needMachines_10 : decode cX9_needMachines 10 = .ok (.aload_n 0, 1) := dgq (p := 10) daX9_needMachines_0 dbX9_needMachines_0.2.2.2.2.2.2.1
theorem dX9_needMachines_11 : decode cX9_needMachines 11 = .ok (.getfield 11, 3) := dgq (p := 11) daX9_needMachines_0 dbX9_needMachines_0.2.2.2.2.2.2.2.1
theorem dX9_needMachines_14 : decode cX9_needMachines 14 = .ok (.iload_n 1, 1) := dgq (p := 14) daX9_needMachines_0 dbX9_needMachines_0.2.2.2.2.2.2.2.2.1
theorem dX9_needMachines_15 : decode cX9_needMachines 15 = .ok (.aaload, 1) := dgq (p := 15) daX9_needMachines_0 dbX9_needMachines_0.2.2.2.2.2.2.2.2.2
def dsX9_needMachines_16 : ByteArray := ⟨#[180, 1, 183, 77, 3, 62, 29, 44]⟩
theorem daX9_needMachines_16 : agB cX9_needMachines dsX9_needMachines_16 16 := agB_of (n := 8) (by decide +kernel)
theorem dbX9_needMachines_16 : (decode dsX9_needMachines_16 0 = .ok (.getfield 439, 3) ∧ okop dsX9_needMachines_16 0 = true) ∧ (decode dsX9_needMachines_16 3 = .ok (.astore_n 2, 1) ∧ okop dsX9_needMachines_16 3 = true) ∧ (decode dsX9_needMachines_16 4 = .ok (.iconst 0, 1) ∧ okop dsX9_needMachines_16 4 = true) ∧ (decode dsX9_needMachines_16 5 = .ok (.istore_n 3, 1) ∧ okop dsX9_needMachines_16 5 = true) ∧ (decode dsX9_needMachines_16 6 = .ok (.iload_n 3, 1) ∧ okop dsX9_needMachines_16 6 = true) ∧ (decode dsX9_needMachines_16 7 = .ok (.aload_n 2, 1) ∧ okop dsX9_needMachines_16 7 = true) := by decide +kernel
theorem dX9_needMachines_16 : decode cX9_needMachines 16 = .ok (.getfield 439, 3) := dgq (p := 0) daX9_needMachines_16 dbX9_needMachines_16.1
theorem dX9_needMachines_19 : decode cX9_needMachines 19 = .ok (.astore_n 2, 1) := dgq (p := 3) daX9_needMachines_16 dbX9_needMachines_16.2.1
theorem dX9_needMachines_20 : decode cX9_needMachines 20 = .ok (.iconst 0, 1) := dgq (p := 4) daX9_needMachines_16 dbX9_needMachines_16.2.2.1
theorem dX9_needMachines_21 : decode cX9_needMachines 21 = .ok (.istore_n 3, 1) := dgq (p := 5) daX9_needMachines_16 dbX9_needMachines_16.2.2.2.1
theorem dX9_needMachines_22 : decode cX9_needMachines 22 = .ok (.iload_n 3, 1) := dgq (p := 6) daX9_needMachines_16 dbX9_needMachines_16.2.2.2.2.1
theorem dX9_needMachines_23 : decode cX9_needMachines 23 = .ok (.aload_n 2, 1) := dgq (p := 7) daX9_needMachines_16 dbX9_needMachines_16.2.2.2.2.2
