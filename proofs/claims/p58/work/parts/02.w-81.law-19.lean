def dsL_section_9 : ByteArray := ⟨#[182, 0, 64, 133, 80, 167, 0, 15, 58, 6, 4, 172, 58, 6, 5, 172]⟩
theorem daL_section_9 : agB cL_section dsL_section_9 9 := agB_of (n := 16) (by decide +kernel)
theorem dbL_section_9 : (decode dsL_section_9 0 = .ok (.invokevirtual 64, 3) ∧ okop dsL_section_9 0 = true) ∧ (decode dsL_section_9 3 = .ok (.i2l, 1) ∧ okop dsL_section_9 3 = true) ∧ (decode dsL_section_9 4 = .ok (.lastore, 1) ∧ okop dsL_section_9 4 = true) ∧ (decode dsL_section_9 5 = .ok (.goto 15, 3) ∧ okop dsL_section_9 5 = true) ∧ (decode dsL_section_9 8 = .ok (.astore 6, 2) ∧ okop dsL_section_9 8 = true) ∧ (decode dsL_section_9 10 = .ok (.iconst 1, 1) ∧ okop dsL_section_9 10 = true) ∧ (decode dsL_section_9 11 = .ok (.ireturn, 1) ∧ okop dsL_section_9 11 = true) ∧ (decode dsL_section_9 12 = .ok (.astore 6, 2) ∧ okop dsL_section_9 12 = true) ∧ (decode dsL_section_9 14 = .ok (.iconst 2, 1) ∧ okop dsL_section_9 14 = true) ∧ (decode dsL_section_9 15 = .ok (.ireturn, 1) ∧ okop dsL_section_9 15 = true) := by decide +kernel
theorem dL_section_9 : decode cL_section 9 = .ok (.invokevirtual 64, 3) := dgq (p := 0) daL_section_9 dbL_section_9.1
theorem dL_section_12 : decode cL_section 12 = .ok (.i2l, 1) := dgq (p := 3) daL_section_9 dbL_section_9.2.1
theorem dL_section_13 : decode cL_section 13 = .ok (.lastore, 1) := dgq (p := 4) daL_section_9 dbL_section_9.2.2.1
theorem dL_section_14 : decode cL_section 14 = .ok (.goto 15, 3) := dgq (p := 5) daL_section_9 dbL_section_9.2.2.2.1
theorem dL_section_17 : decode cL_section 17 = .ok (.astore 6, 2) := dgq (p := 8) daL_section_9 dbL_section_9.2.2.2.2.1
theorem dL_section_19 : decode cL_section 19 = .ok (.iconst 1, 1) := dgq (p := 10) daL_section_9 dbL_section_9.2.2.2.2.2.1
theorem dL_section_20 : decode cL_section 20 = .ok (.ireturn, 1) := dgq (p := 11) daL_section_9 dbL_section_9.2.2.2.2.2.2.1
theorem dL_section_21 : decode cL_section 21 = .ok (.astore 6, 2) := dgq (p := 12) daL_section_9 dbL_section_9.2.2.2.2.2.2.2.1
theorem dL_section_23 : decode cL_section 23 = .ok (.iconst 2, 1) := dgq (p := 14) daL_section_9 dbL_section_9.2.2.2.2.2.2.2.2.1
theorem dL_section_24 : decode cL_section 24 = .ok (.ireturn, 1) := dgq (p := 15) daL_section_9 dbL_section_9.2.2.2.2.2.2.2.2.2
def dsL_section_25 : ByteArray := ⟨#[58, 6, 6, 172, 3, 172]⟩
theorem daL_section_25 : agB cL_section dsL_section_25 25 := agB_of (n := 6) (by decide +kernel)
theorem dbL_section_25 : (decode dsL_section_25 0 = .ok (.astore 6, 2) ∧ okop dsL_section_25 0 = true) ∧ (decode dsL_section_25 2 = .ok (.iconst 3, 1) ∧ okop dsL_section_25 2 = true) ∧ (decode dsL_section_25 3 = .ok (.ireturn, 1) ∧ okop dsL_section_25 3 = true) ∧ (decode dsL_section_25 4 = .ok (.iconst 0, 1) ∧ okop dsL_section_25 4 = true) ∧ (decode dsL_section_25 5 = .ok (.ireturn, 1) ∧ okop dsL_section_25 5 = true) := by decide +kernel
theorem dL_section_25 : decode cL_section 25 = .ok (.astore 6, 2) := dgq (p := 0) daL_section_25 dbL_section_25.1
theorem dL_section_27 : decode cL_section 27 = .ok (.iconst 3, 1) := dgq (p := 2) daL_section_25 dbL_section_25.2.1
theorem dL_section_28 : decode cL_section 28 = .ok (.ireturn, 1) := dgq (p := 3) daL_section_25 dbL_section_25.2.2.1
theorem dL_section_29 : decode cL_section 29 = .ok (.iconst 0, 1) := dgq (p := 4) daL_section_25 dbL_section_25.2.2.2.1
theorem dL_section_30 : decode cL_section 30 = .ok (.ireturn, 1) := dgq (p := 5) daL_section_25 dbL_section_25.2.2.2.2
set_option maxRecDepth 20000 in
theorem ggL_bestPair_X9_bestPair : GoodIn wsL_bestPair wsX9_bestPair := goodIn_ca (goodIn_ca (goodIn_ca (goodIn_q _ [6, 7, 8, 5, 9, 10, 11, 12, 13, 14, 15, 16, 17, 18, 19, 20, 21, 22, 23, 24, 25, 26, 27, 28, 29, 30, 31, 32, 33, 34, 35, 36, 37, 38, 39, 40, 41, 42, 43, 44, 45, 46, 47, 48, 49, 50, 51, 52, 53, 54, 55, 56, 57, 58, 59, 60, 61] rfl (by decide +kernel)) (goodIn_sub (fun _ h => (List.mem_cons_of_mem _ (List.mem_append_left _ (List.mem_append_left _ (List.mem_append_left _ (List.mem_append_right _ h)))))) tg_wsX80)) (goodIn_sub (fun _ h => List.mem_cons_of_mem _ (List.mem_append_left _ (List.mem_append_right _ h))) (by decide +kernel))) (goodIn_sub (fun _ h => List.mem_cons_of_mem _ (List.mem_append_right _ h)) (by decide +kernel))
set_option maxRecDepth 20000 in
theorem gL_bestPair_X9_bestPair : GoodIn wsL_bestPair (wsV RL 67 RX9 yX9_bestPair wsX9_bestPair) := goodIn_app (goodIn_q _ [2, 3, 4, 5] rfl (by decide +kernel)) ggL_bestPair_X9_bestPair
def dsL_bestPair_0 : ByteArray := ⟨#[25, 5, 3, 42, 27, 28, 29, 21, 4, 182, 0, 67, 133, 80]⟩
theorem daL_bestPair_0 : agB cL_bestPair dsL_bestPair_0 0 := agB_of (n := 14) (by decide +kernel)
theorem dbL_bestPair_0 : (decode dsL_bestPair_0 0 = .ok (.aload 5, 2) ∧ okop dsL_bestPair_0 0 = true) ∧ (decode dsL_bestPair_0 2 = .ok (.iconst 0, 1) ∧ okop dsL_bestPair_0 2 = true) ∧ (decode dsL_bestPair_0 3 = .ok (.aload_n 0, 1) ∧ okop dsL_bestPair_0 3 = true) ∧ (decode dsL_bestPair_0 4 = .ok (.iload_n 1, 1) ∧ okop dsL_bestPair_0 4 = true) ∧ (decode dsL_bestPair_0 5 = .ok (.iload_n 2, 1) ∧ okop dsL_bestPair_0 5 = true) ∧ (decode dsL_bestPair_0 6 = .ok (.iload_n 3, 1) ∧ okop dsL_bestPair_0 6 = true) ∧ (decode dsL_bestPair_0 7 = .ok (.iload 4, 2) ∧ okop dsL_bestPair_0 7 = true) ∧ (decode dsL_bestPair_0 9 = .ok (.invokevirtual 67, 3) ∧ okop dsL_bestPair_0 9 = true) ∧ (decode dsL_bestPair_0 12 = .ok (.i2l, 1) ∧ okop dsL_bestPair_0 12 = true) ∧ (decode dsL_bestPair_0 13 = .ok (.lastore, 1) ∧ okop dsL_bestPair_0 13 = true) := by decide +kernel
theorem dL_bestPair_0 : decode cL_bestPair 0 = .ok (.aload 5, 2) := dgq (p := 0) daL_bestPair_0 dbL_bestPair_0.1
theorem dL_bestPair_2 : decode cL_bestPair 2 = .ok (.iconst 0, 1) := dgq (p := 2) daL_bestPair_0 dbL_bestPair_0.2.1
theorem dL_bestPair_3 : decode cL_bestPair 3 = .ok (.aload_n 0, 1) := dgq (p := 3) daL_bestPair_0 dbL_bestPair_0.2.2.1
theorem dL_bestPair_4 : decode cL_bestPair 4 = .ok (.iload_n 1, 1) := dgq (p := 4) daL_bestPair_0 dbL_bestPair_0.2.2.2.1
theorem dL_bestPair_5 : decode cL_bestPair 5 = .ok (.iload_n 2, 1) := dgq (p := 5) daL_bestPair_0 dbL_bestPair_0.2.2.2.2.1
theorem dL_bestPair_6 : decode cL_bestPair 6 = .ok (.iload_n 3, 1) := dgq (p := 6) daL_bestPair_0 dbL_bestPair_0.2.2.2.2.2.1
theorem dL_bestPair_7 : decode cL_bestPair 7 = .ok (.iload 4, 2) := dgq (p := 7) daL_bestPair_0 dbL_bestPair_0.2.2.2.2.2.2.1
theorem dL_bestPair_9 : decode cL_bestPair 9 = .ok (.invokevirtual 67, 3) := dgq (p := 9) daL_bestPair_0 dbL_bestPair_0.2.2.2.2.2.2.2.1
theorem dL_bestPair_12 : decode cL_bestPair 12 = .ok (.i2l, 1) := dgq (p := 12) daL_bestPair_0 dbL_bestPair_0.2.2.2.2.2.2.2.2.1
theorem dL_bestPair_13 : decode cL_bestPair 13 = .ok (.lastore, 1) := dgq (p := 13) daL_bestPair_0 dbL_bestPair_0.2.2.2.2.2.2.2.2.2
def dsL_bestPair_14 : ByteArray := ⟨#[167, 0, 7, 58, 6, 4, 172, 3, 172]⟩
theorem daL_bestPair_14 : agB cL_bestPair dsL_bestPair_14 14 := agB_of (n := 9) (by decide +kernel)
theorem dbL_bestPair_14 : (decode dsL_bestPair_14 0 = .ok (.goto 7, 3) ∧ okop dsL_bestPair_14 0 = true) ∧ (decode dsL_bestPair_14 3 = .ok (.astore 6, 2) ∧ okop dsL_bestPair_14 3 = true) ∧ (decode dsL_bestPair_14 5 = .ok (.iconst 1, 1) ∧ okop dsL_bestPair_14 5 = true) ∧ (decode dsL_bestPair_14 6 = .ok (.ireturn, 1) ∧ okop dsL_bestPair_14 6 = true) ∧ (decode dsL_bestPair_14 7 = .ok (.iconst 0, 1) ∧ okop dsL_bestPair_14 7 = true) ∧ (decode dsL_bestPair_14 8 = .ok (.ireturn, 1) ∧ okop dsL_bestPair_14 8 = true) := by decide +kernel
theorem dL_bestPair_14 : decode cL_bestPair 14 = .ok (.goto 7, 3) := dgq (p := 0) daL_bestPair_14 dbL_bestPair_14.1
theorem dL_bestPair_17 : decode cL_bestPair 17 = .ok (.astore 6, 2) := dgq (p := 3) daL_bestPair_14 dbL_bestPair_14.2.1
theorem dL_bestPair_19 : decode cL_bestPair 19 = .ok (.iconst 1, 1) := dgq (p := 5) daL_bestPair_14 dbL_bestPair_14.2.2.1
theorem dL_bestPair_20 : decode cL_bestPair 20 = .ok (.ireturn, 1) := dgq (p := 6) daL_bestPair_14 dbL_bestPair_14.2.2.2.1
theorem dL_bestPair_21 : decode cL_bestPair 21 = .ok (.iconst 0, 1) := dgq (p := 7) daL_bestPair_14 dbL_bestPair_14.2.2.2.2.1
theorem dL_bestPair_22 : decode cL_bestPair 22 = .ok (.ireturn, 1) := dgq (p := 8) daL_bestPair_14 dbL_bestPair_14.2.2.2.2.2
set_option maxRecDepth 20000 in
theorem ggL_bestMate_X9_bestMate : GoodIn wsL_bestMate wsX9_bestMate := goodIn_ca (goodIn_ca (goodIn_ca (goodIn_q _ [6, 7, 8, 5, 9, 10, 11, 12, 13, 14, 15, 16, 17, 18, 19, 20, 21, 22, 23, 24, 25, 26, 27, 28, 29, 30, 31, 32, 33, 34, 35, 36, 37, 38, 39, 40, 41, 42, 43, 44, 45, 46, 47, 48, 49, 50, 51, 52, 53, 54, 55, 56, 57, 58, 59, 60, 61] rfl (by decide +kernel)) (goodIn_sub (fun _ h => (List.mem_cons_of_mem _ (List.mem_append_left _ (List.mem_append_left _ (List.mem_append_left _ (List.mem_append_right _ h)))))) tg_wsX80)) (goodIn_sub (fun _ h => List.mem_cons_of_mem _ (List.mem_append_left _ (List.mem_append_right _ h))) (by decide +kernel))) (goodIn_sub (fun _ h => List.mem_cons_of_mem _ (List.mem_append_right _ h)) (by decide +kernel))
set_option maxRecDepth 20000 in
theorem gL_bestMate_X9_bestMate : GoodIn wsL_bestMate (wsV RL 70 RX9 yX9_bestMate wsX9_bestMate) := goodIn_app (goodIn_q _ [2, 3, 4, 5] rfl (by decide +kernel)) ggL_bestMate_X9_bestMate
def dsL_bestMate_0 : ByteArray := ⟨#[25, 5, 3, 42, 27, 28, 29, 21, 4, 182, 0, 70, 133, 80]⟩
theorem daL_bestMate_0 : agB cL_bestMate dsL_bestMate_0 0 := agB_of (n := 14) (by decide +kernel)
theorem dbL_bestMate_0 : (decode dsL_bestMate_0 0 = .ok (.aload 5, 2) ∧ okop dsL_bestMate_0 0 = true) ∧ (decode dsL_bestMate_0 2 = .ok (.iconst 0, 1) ∧ okop dsL_bestMate_0 2 = true) ∧ (decode dsL_bestMate_0 3 = .ok (.aload_n 0, 1) ∧ okop dsL_bestMate_0 3 = true) ∧ (decode dsL_bestMate_0 4 = .ok (.iload_n 1, 1) ∧ okop dsL_bestMate_0 4 = true) ∧ (decode dsL_bestMate_0 5 = .ok (.iload_n 2, 1) ∧ okop dsL_bestMate_0 5 = true) ∧ (decode dsL_bestMate_0 6 = .ok (.iload_n 3, 1) ∧ okop dsL_bestMate_0 6 = true) ∧ (decode dsL_bestMate_0 7 = .ok (.iload 4, 2) ∧ okop dsL_bestMate_0 7 = true) ∧ (decode dsL_bestMate_0 9 = .ok (.invokevirtual 70, 3) ∧ okop dsL_bestMate_0 9 = true) ∧ (decode dsL_bestMate_0 12 = .ok (.i2l, 1) ∧ okop dsL_bestMate_0 12 = true) ∧ (decode dsL_bestMate_0 13 = .ok (.lastore, 1) ∧ okop dsL_bestMate_0 13 = true) := by decide +kernel
theorem dL_bestMate_0 : decode cL_bestMate 0 = .ok (.aload 5, 2) := dgq (p := 0) daL_bestMate_0 dbL_bestMate_0.1
theorem dL_bestMate_2 : decode cL_bestMate 2 = .ok (.iconst 0, 1) := dgq (p := 2) daL_bestMate_0 dbL_bestMate_0.2.1
theorem dL_bestMate_3 : decode cL_bestMate 3 = .ok (.aload_n 0, 1) := dgq (p := 3) daL_bestMate_0 dbL_bestMate_0.2.2.1
theorem dL_bestMate_4 : decode cL_bestMate 4 = .ok (.iload_n 1, 1) := dgq (p := 4) daL_bestMate_0 dbL_bestMate_0.2.2.2.1
theorem dL_bestMate_5 : decode cL_bestMate 5 = .ok (.iload_n 2, 1) := dgq (p := 5) daL_bestMate_0 dbL_bestMate_0.2.2.2.2.1
theorem dL_bestMate_6 : decode cL_bestMate 6 = .ok (.iload_n 3, 1) := dgq (p := 6) daL_bestMate_0 dbL_bestMate_0.2.2.2.2.2.1
theorem dL_bestMate_7 : decode cL_bestMate 7 = .ok (.iload 4, 2) := dgq (p := 7) daL_bestMate_0 dbL_bestMate_0.2.2.2.2.2.2.1
theorem dL_bestMate_9 : decode cL_bestMate 9 = .ok (.invokevirtual 70, 3) := dgq (p := 9) daL_bestMate_0 dbL_bestMate_0.2.2.2.2.2.2.2.1
theorem dL_bestMate_12 : decode cL_bestMate 12 = .ok (.i2l, 1) := dgq (p := 12) daL_bestMate_0 dbL_bestMate_0.2.2.2.2.2.2.2.2.1
theorem dL_bestMate_13 : decode cL_bestMate 13 = .ok (.lastore, 1) := dgq (p := 13) daL_bestMate_0 dbL_bestMate_0.2.2.2.2.2.2.2.2.2
def dsL_bestMate_14 : ByteArray := ⟨#[167, 0, 7, 58, 6, 4, 172, 3, 172]⟩
theorem daL_bestMate_14 : agB cL_bestMate dsL_bestMate_14 14 := agB_of (n := 9) (by decide +kernel)
theorem dbL_bestMate_14 : (decode dsL_bestMate_14 0 = .ok (.goto 7, 3) ∧ okop dsL_bestMate_14 0 = true) ∧ (decode dsL_bestMate_14 3 = .ok (.astore 6, 2) ∧ okop dsL_bestMate_14 3 = true) ∧ (decode dsL_bestMate_14 5 = .ok (.iconst 1, 1) ∧ okop dsL_bestMate_14 5 = true) ∧ (decode dsL_bestMate_14 6 = .ok (.ireturn, 1) ∧ okop dsL_bestMate_14 6 = true) ∧ (decode dsL_bestMate_14 7 = .ok (.iconst 0, 1) ∧ okop dsL_bestMate_14 7 = true) ∧ (decode dsL_bestMate_14 8 = .ok (.ireturn, 1) ∧ okop dsL_bestMate_14 8 = true) := by decide +kernel
theorem dL_bestMate_14 : decode cL_bestMate 14 = .ok (.goto 7, 3) := dgq (p := 0) daL_bestMate_14 dbL_bestMate_14.1
theorem dL_bestMate_17 : decode cL_bestMate 17 = .ok (.astore 6, 2) := dgq (p := 3) daL_bestMate_14 dbL_bestMate_14.2.1
theorem dL_bestMate_19 : decode cL_bestMate 19 = .ok (.iconst 1, 1) := dgq (p := 5) daL_bestMate_14 dbL_bestMate_14.2.2.1
theorem dL_bestMate_20 : decode cL_bestMate 20 = .ok (.ireturn, 1) := dgq (p := 6) daL_bestMate_14 dbL_bestMate_14.2.2.2.1
theorem dL_bestMate_21 : decode cL_bestMate 21 = .ok (.iconst 0, 1) := dgq (p := 7) daL_bestMate_14 dbL_bestMate_14.2.2.2.2.1
theorem dL_bestMate_22 : decode cL_bestMate 22 = .ok (.ireturn, 1) := dgq (p := 8) daL_bestMate_14 dbL_bestMate_14.2.2.2.2.2
set_option maxRecDepth 20000 in
theorem ggL_planets_X9_planets : GoodIn wsL_planets wsX9_planets := goodIn_ca (goodIn_ca (goodIn_ca (goodIn_q _ [6, 7, 8, 5, 9, 10, 11, 12, 13, 14, 15, 16, 17, 18] rfl (by decide +kernel)) (goodIn_sub (fun _ h => List.mem_cons_of_mem _ (List.mem_append_left _ (List.mem_append_right _ h))) (by decide +kernel))) (goodIn_sub (fun _ h => List.mem_cons_of_mem _ (List.mem_append_right _ h)) (by decide +kernel))) (goodIn_sub (fun _ h => List.mem_cons_of_mem _ (List.mem_append_left _ (List.mem_append_left _ (List.mem_append_right _ h)))) (by decide +kernel))
set_option maxRecDepth 20000 in
theorem gL_planets_X9_planets : GoodIn wsL_planets (wsV RL 73 RX9 yX9_planets wsX9_planets) := goodIn_app (goodIn_q _ [2, 3, 4, 5] rfl (by decide +kernel)) ggL_planets_X9_planets
def dsL_planets_0 : ByteArray := ⟨#[25, 4, 3, 42, 27, 28, 29, 182, 0, 73, 133, 80, 167, 0, 7]⟩
theorem daL_planets_0 : agB cL_planets dsL_planets_0 0 := agB_of (n := 15) (by decide +kernel)
theorem dbL_planets_0 : (decode dsL_planets_0 0 = .ok (.aload 4, 2) ∧ okop dsL_planets_0 0 = true) ∧ (decode dsL_planets_0 2 = .ok (.iconst 0, 1) ∧ okop dsL_planets_0 2 = true) ∧ (decode dsL_planets_0 3 = .ok (.aload_n 0, 1) ∧ okop dsL_planets_0 3 = true) ∧ (decode dsL_planets_0 4 = .ok (.iload_n 1, 1) ∧ okop dsL_planets_0 4 = true) ∧ (decode dsL_planets_0 5 = .ok (.iload_n 2, 1) ∧ okop dsL_planets_0 5 = true) ∧ (decode dsL_planets_0 6 = .ok (.iload_n 3, 1) ∧ okop dsL_planets_0 6 = true) ∧ (decode dsL_planets_0 7 = .ok (.invokevirtual 73, 3) ∧ okop dsL_planets_0 7 = true) ∧ (decode dsL_planets_0 10 = .ok (.i2l, 1) ∧ okop dsL_planets_0 10 = true) ∧ (decode dsL_planets_0 11 = .ok (.lastore, 1) ∧ okop dsL_planets_0 11 = true) ∧ (decode dsL_planets_0 12 = .ok (.goto 7, 3) ∧ okop dsL_planets_0 12 = true) := by decide +kernel
theorem dL_planets_0 : decode cL_planets 0 = .ok (.aload 4, 2) := dgq (p := 0) daL_planets_0 dbL_planets_0.1
theorem dL_planets_2 : decode cL_planets 2 = .ok (.iconst 0, 1) := dgq (p := 2) daL_planets_0 dbL_planets_0.2.1
theorem dL_planets_3 : decode cL_planets 3 = .ok (.aload_n 0, 1) := dgq (p := 3) daL_planets_0 dbL_planets_0.2.2.1
theorem dL_planets_4 : decode cL_planets 4 = .ok (.iload_n 1, 1) := dgq (p := 4) daL_planets_0 dbL_planets_0.2.2.2.1
theorem dL_planets_5 : decode cL_planets 5 = .ok (.iload_n 2, 1) := dgq (p := 5) daL_planets_0 dbL_planets_0.2.2.2.2.1
theorem dL_planets_6 : decode cL_planets 6 = .ok (.iload_n 3, 1) := dgq (p := 6) daL_planets_0 dbL_planets_0.2.2.2.2.2.1
theorem dL_planets_7 : decode cL_planets 7 = .ok (.invokevirtual 73, 3) := dgq (p := 7) daL_planets_0 dbL_planets_0.2.2.2.2.2.2.1
theorem dL_planets_10 : decode cL_planets 10 = .ok (.i2l, 1) := dgq (p := 10) daL_planets_0 dbL_planets_0.2.2.2.2.2.2.2.1
theorem dL_planets_11 : decode cL_planets 11 = .ok (.lastore, 1) := dgq (p := 11) daL_planets_0 dbL_planets_0.2.2.2.2.2.2.2.2.1
theorem dL_planets_12 : decode cL_planets 12 = .ok (.goto 7, 3) := dgq (p := 12) daL_planets_0 dbL_planets_0.2.2.2.2.2.2.2.2.2
def dsL_planets_15 : ByteArray := ⟨#[58, 5, 4, 172, 3, 172]⟩
theorem daL_planets_15 : agB cL_planets dsL_planets_15 15 := agB_of (n := 6) (by decide +kernel)
theorem dbL_planets_15 : (decode dsL_planets_15 0 = .ok (.astore 5, 2) ∧ okop dsL_planets_15 0 = true) ∧ (decode dsL_planets_15 2 = .ok (.iconst 1, 1) ∧ okop dsL_planets_15 2 = true) ∧ (decode dsL_planets_15 3 = .ok (.ireturn, 1) ∧ okop dsL_planets_15 3 = true) ∧ (decode dsL_planets_15 4 = .ok (.iconst 0, 1) ∧ okop dsL_planets_15 4 = true) ∧ (decode dsL_planets_15 5 = .ok (.ireturn, 1) ∧ okop dsL_planets_15 5 = true) := by decide +kernel
theorem dL_planets_15 : decode cL_planets 15 = .ok (.astore 5, 2) := dgq (p := 0) daL_planets_15 dbL_planets_15.1
theorem dL_planets_17 : decode cL_planets 17 = .ok (.iconst 1, 1) := dgq (p := 2) daL_planets_15 dbL_planets_15.2.1
theorem dL_planets_18 : decode cL_planets 18 = .ok (.ireturn, 1) := dgq (p := 3) daL_planets_15 dbL_planets_15.2.2.1
theorem dL_planets_19 : decode cL_planets 19 = .ok (.iconst 0, 1) := dgq (p := 4) daL_planets_15 dbL_planets_15.2.2.2.1
theorem dL_planets_20 : decode cL_planets 20 = .ok (.ireturn, 1) := dgq (p := 5) daL_planets_15 dbL_planets_15.2.2.2.2
set_option maxRecDepth 20000 in
theorem ggL_rings_X9_rings : GoodIn wsL_rings wsX9_rings := goodIn_ca (goodIn_ca (goodIn_ca (goodIn_q _ [6, 7, 8, 5, 9, 10, 11, 12, 13, 14, 15, 16, 17, 18] rfl (by decide +kernel)) (goodIn_sub (fun _ h => List.mem_cons_of_mem _ (List.mem_append_left _ (List.mem_append_right _ h))) (by decide +kernel))) (goodIn_sub (fun _ h => List.mem_cons_of_mem _ (List.mem_append_right _ h)) (by decide +kernel))) (goodIn_sub (fun _ h => List.mem_cons_of_mem _ (List.mem_append_left _ (List.mem_append_left _ (List.mem_append_right _ h)))) (by decide +kernel))
set_option maxRecDepth 20000 in
theorem gL_rings_X9_rings : GoodIn wsL_rings (wsV RL 77 RX9 yX9_rings wsX9_rings) := goodIn_app (goodIn_q _ [2, 3, 4, 5] rfl (by decide +kernel)) ggL_rings_X9_rings
def dsL_rings_0 : ByteArray := ⟨#[25, 5, 3, 42, 27, 28, 29, 21, 4, 182, 0, 77, 133, 80]⟩
theorem daL_rings_0 : agB cL_rings dsL_rings_0 0 := agB_of (n := 14) (by decide +kernel)
theorem dbL_rings_0 : (decode dsL_rings_0 0 = .ok (.aload 5, 2) ∧ okop dsL_rings_0 0 = true) ∧ (decode dsL_rings_0 2 = .ok (.iconst 0, 1) ∧ okop dsL_rings_0 2 = true) ∧ (decode dsL_rings_0 3 = .ok (.aload_n 0, 1) ∧ okop dsL_rings_0 3 = true) ∧ (decode dsL_rings_0 4 = .ok (.iload_n 1, 1) ∧ okop dsL_rings_0 4 = true) ∧ (decode dsL_rings_0 5 = .ok (.iload_n 2, 1) ∧ okop dsL_rings_0 5 = true) ∧ (decode dsL_rings_0 6 = .ok (.iload_n 3, 1) ∧ okop dsL_rings_0 6 = true) ∧ (decode dsL_rings_0 7 = .ok (.iload 4, 2) ∧ okop dsL_rings_0 7 = true) ∧ (decode dsL_rings_0 9 = .ok (.invokevirtual 77, 3) ∧ okop dsL_rings_0 9 = true) ∧ (decode dsL_rings_0 12 = .ok (.i2l, 1) ∧ okop dsL_rings_0 12 = true) ∧ (decode dsL_rings_0 13 = .ok (.lastore, 1) ∧ okop dsL_rings_0 13 = true) := by decide +kernel
theorem dL_rings_0 : decode cL_rings 0 = .ok (.aload 5, 2) := dgq (p := 0) daL_rings_0 dbL_rings_0.1
theorem dL_rings_2 : decode cL_rings 2 = .ok (.iconst 0, 1) := dgq (p := 2) daL_rings_0 dbL_rings_0.2.1
theorem dL_rings_3 : decode cL_rings 3 = .ok (.aload_n 0, 1) := dgq (p := 3) daL_rings_0 dbL_rings_0.2.2.1
theorem dL_rings_4 : decode cL_rings 4 = .ok (.iload_n 1, 1) := dgq (p := 4) daL_rings_0 dbL_rings_0.2.2.2.1
theorem dL_rings_5 : decode cL_rings 5 = .ok (.iload_n 2, 1) := dgq (p := 5) daL_rings_0 dbL_rings_0.2.2.2.2.1
theorem dL_rings_6 : decode cL_rings 6 = .ok (.iload_n 3, 1) := dgq (p := 6) daL_rings_0 dbL_rings_0.2.2.2.2.2.1
theorem dL_rings_7 : decode cL_rings 7 = .ok (.iload 4, 2) := dgq (p := 7) daL_rings_0 dbL_rings_0.2.2.2.2.2.2.1
theorem dL_rings_9 : decode cL_rings 9 = .ok (.invokevirtual 77, 3) := dgq (p := 9) daL_rings_0 dbL_rings_0.2.2.2.2.2.2.2.1
theorem dL_rings_12 : decode cL_rings 12 = .ok (.i2l, 1) := dgq (p := 12) daL_rings_0 dbL_rings_0.2.2.2.2.2.2.2.2.1
theorem dL_rings_13 : decode cL_rings 13 = .ok (.lastore, 1) := dgq (p := 13) daL_rings_0 dbL_rings_0.2.2.2.2.2.2.2.2.2
def dsL_rings_14 : ByteArray := ⟨#[167, 0, 7, 58, 6, 4, 172, 3, 172]⟩
theorem daL_rings_14 : agB cL_rings dsL_rings_14 14 := agB_of (n := 9) (by decide +kernel)
theorem dbL_rings_14 : (decode dsL_rings_14 0 = .ok (.goto 7, 3) ∧ okop dsL_rings_14 0 = true) ∧ (decode dsL_rings_14 3 = .ok (.astore 6, 2) ∧ okop dsL_rings_14 3 = true) ∧ (decode dsL_rings_14 5 = .ok (.iconst 1, 1) ∧ okop dsL_rings_14 5 = true) ∧ (decode dsL_rings_14 6 = .ok (.ireturn, 1) ∧ okop dsL_rings_14 6 = true) ∧ (decode dsL_rings_14 7 = .ok (.iconst 0, 1) ∧ okop dsL_rings_14 7 = true) ∧ (decode dsL_rings_14 8 = .ok (.ireturn, 1) ∧ okop dsL_rings_14 8 = true) := by decide +kernel
theorem dL_rings_14 : decode cL_rings 14 = .ok (.goto 7, 3) := dgq (p := 0) daL_rings_14 dbL_rings_14.1
theorem dL_rings_17 : decode cL_rings 17 = .ok (.astore 6, 2) := dgq (p := 3) daL_rings_14 dbL_rings_14.2.1
theorem dL_rings_19 : decode cL_rings 19 = .ok (.iconst 1, 1) := dgq (p := 5) daL_rings_14 dbL_rings_14.2.2.1
theorem dL_rings_20 : decode cL_rings 20 = .ok (.ireturn, 1) := dgq (p := 6) daL_rings_14 dbL_rings_14.2.2.2.1
theorem dL_rings_21 : decode cL_rings 21 = .ok (.iconst 0, 1) := dgq (p := 7) daL_rings_14 dbL_rings_14.2.2.2.2.1
theorem dL_rings_22 : decode cL_rings 22 = .ok (.ireturn, 1) := dgq (p := 8) daL_rings_14 dbL_rings_14.2.2.2.2.2
set_option maxRecDepth 20000 in
theorem ggL_wheel_X9_wheel : GoodIn wsL_wheel wsX9_wheel := goodIn_ca (goodIn_ca (goodIn_ca (goodIn_ca (goodIn_ca (goodIn_q _ [7, 8, 9, 10, 11, 12, 6, 13, 14, 15, 16, 17, 18, 19, 20, 21, 22, 23, 24, 25, 26] rfl (by decide +kernel)) (goodIn_sub (fun _ h => (List.mem_cons_of_mem _ (List.mem_append_left _ (List.mem_append_left _ (List.mem_append_left _ (List.mem_append_left _ (List.mem_append_right _ h))))))) tg_wsX90)) (goodIn_sub (fun _ h => (List.mem_cons_of_mem _ (List.mem_append_left _ (List.mem_append_left _ (List.mem_append_left _ (List.mem_append_right _ h)))))) tg_wsX00)) (goodIn_sub (fun _ h => List.mem_cons_of_mem _ (List.mem_append_left _ (List.mem_append_right _ h))) (by decide +kernel))) (goodIn_sub (fun _ h => List.mem_cons_of_mem _ (List.mem_append_right _ h)) (by decide +kernel))) (goodIn_sub (fun _ h => List.mem_cons_of_mem _ (List.mem_append_left _ (List.mem_append_left _ (List.mem_append_right _ h)))) (by decide +kernel))
set_option maxRecDepth 20000 in
theorem gL_wheel_X9_wheel : GoodIn wsL_wheel (wsV RL 80 RX9 yX9_wheel wsX9_wheel) := goodIn_app (goodIn_q _ [3, 4, 5, 6] rfl (by decide +kernel)) ggL_wheel_X9_wheel
def dsL_wheel_0 : ByteArray := ⟨#[44, 3, 42, 27, 182, 0, 80, 133, 80, 167, 0, 9, 78, 4]⟩
theorem daL_wheel_0 : agB cL_wheel dsL_wheel_0 0 := agB_of (n := 14) (by decide +kernel)
theorem dbL_wheel_0 : (decode dsL_wheel_0 0 = .ok (.aload_n 2, 1) ∧ okop dsL_wheel_0 0 = true) ∧ (decode dsL_wheel_0 1 = .ok (.iconst 0, 1) ∧ okop dsL_wheel_0 1 = true) ∧ (decode dsL_wheel_0 2 = .ok (.aload_n 0, 1) ∧ okop dsL_wheel_0 2 = true) ∧ (decode dsL_wheel_0 3 = .ok (.iload_n 1, 1) ∧ okop dsL_wheel_0 3 = true) ∧ (decode dsL_wheel_0 4 = .ok (.invokevirtual 80, 3) ∧ okop dsL_wheel_0 4 = true) ∧ (decode dsL_wheel_0 7 = .ok (.i2l, 1) ∧ okop dsL_wheel_0 7 = true) ∧ (decode dsL_wheel_0 8 = .ok (.lastore, 1) ∧ okop dsL_wheel_0 8 = true) ∧ (decode dsL_wheel_0 9 = .ok (.goto 9, 3) ∧ okop dsL_wheel_0 9 = true) ∧ (decode dsL_wheel_0 12 = .ok (.astore_n 3, 1) ∧ okop dsL_wheel_0 12 = true) ∧ (decode dsL_wheel_0 13 = .ok (.iconst 1, 1) ∧ okop dsL_wheel_0 13 = true) := by decide +kernel
theorem dL_wheel_0 : decode cL_wheel 0 = .ok (.aload_n 2, 1) := dgq (p := 0) daL_wheel_0 dbL_wheel_0.1
theorem dL_wheel_1 : decode cL_wheel 1 = .ok (.iconst 0, 1) := dgq (p := 1) daL_wheel_0 dbL_wheel_0.2.1
theorem dL_wheel_2 : decode cL_wheel 2 = .ok (.aload_n 0, 1) := dgq (p := 2) daL_wheel_0 dbL_wheel_0.2.2.1
theorem dL_wheel_3 : decode cL_wheel 3 = .ok (.iload_n 1, 1) := dgq (p := 3) daL_wheel_0 dbL_wheel_0.2.2.2.1
theorem dL_wheel_4 : decode cL_wheel 4 = .ok (.invokevirtual 80, 3) := dgq (p := 4) daL_wheel_0 dbL_wheel_0.2.2.2.2.1
theorem dL_wheel_7 : decode cL_wheel 7 = .ok (.i2l, 1) := dgq (p := 7) daL_wheel_0 dbL_wheel_0.2.2.2.2.2.1
theorem dL_wheel_8 : decode cL_wheel 8 = .ok (.lastore, 1) := dgq (p := 8) daL_wheel_0 dbL_wheel_0.2.2.2.2.2.2.1
theorem dL_wheel_9 : decode cL_wheel 9 = .ok (.goto 9, 3) := dgq (p := 9) daL_wheel_0 dbL_wheel_0.2.2.2.2.2.2.2.1
theorem dL_wheel_12 : decode cL_wheel 12 = .ok (.astore_n 3, 1) := dgq (p := 12) daL_wheel_0 dbL_wheel_0.2.2.2.2.2.2.2.2.1
theorem dL_wheel_13 : decode cL_wheel 13 = .ok (.iconst 1, 1) := dgq (p := 13) daL_wheel_0 dbL_wheel_0.2.2.2.2.2.2.2.2.2
def dsL_wheel_14 : ByteArray := ⟨#[172, 78, 5, 172, 3, 172]⟩
theorem daL_wheel_14 : agB cL_wheel dsL_wheel_14 14 := agB_of (n := 6) (by decide +kernel)
theorem dbL_wheel_14 : (decode dsL_wheel_14 0 = .ok (.ireturn, 1) ∧ okop dsL_wheel_14 0 = true) ∧ (decode dsL_wheel_14 1 = .ok (.astore_n 3, 1) ∧ okop dsL_wheel_14 1 = true) ∧ (decode dsL_wheel_14 2 = .ok (.iconst 2, 1) ∧ okop dsL_wheel_14 2 = true) ∧ (decode dsL_wheel_14 3 = .ok (.ireturn, 1) ∧ okop dsL_wheel_14 3 = true) ∧ (decode dsL_wheel_14 4 = .ok (.iconst 0, 1) ∧ okop dsL_wheel_14 4 = true) ∧ (decode dsL_wheel_14 5 = .ok (.ireturn, 1) ∧ okop dsL_wheel_14 5 = true) := by decide +kernel
theorem dL_wheel_14 : decode cL_wheel 14 = .ok (.ireturn, 1) := dgq (p := 0) daL_wheel_14 dbL_wheel_14.1
theorem dL_wheel_15 : decode cL_wheel 15 = .ok (.astore_n 3, 1) := dgq (p := 1) daL_wheel_14 dbL_wheel_14.2.1
theorem dL_wheel_16 : decode cL_wheel 16 = .ok (.iconst 2, 1) := dgq (p := 2) daL_wheel_14 dbL_wheel_14.2.2.1
theorem dL_wheel_17 : decode cL_wheel 17 = .ok (.ireturn, 1) := dgq (p := 3) daL_wheel_14 dbL_wheel_14.2.2.2.1
theorem dL_wheel_18 : decode cL_wheel 18 = .ok (.iconst 0, 1) := dgq (p := 4) daL_wheel_14 dbL_wheel_14.2.2.2.2.1
theorem dL_wheel_19 : decode cL_wheel 19 = .ok (.ireturn, 1) := dgq (p := 5) daL_wheel_14 dbL_wheel_14.2.2.2.2.2
set_option maxRecDepth 20000 in
theorem ggL_change_X9_change : GoodIn wsL_change wsX9_change := goodIn_ca (goodIn_ca (goodIn_ca (goodIn_ca (goodIn_ca (goodIn_q _ [7, 8, 9, 10, 6, 11, 12, 13, 14, 15, 16, 17, 18, 19, 20, 21, 22, 23, 24, 25, 26, 27, 28, 29, 30, 31, 32, 33, 34, 35, 36, 37, 38, 39, 40, 41, 42, 43, 44, 45, 46, 47, 48, 49, 50, 51, 52, 53, 54, 55] rfl (by decide +kernel)) (goodIn_sub (fun _ h => (List.mem_cons_of_mem _ (List.mem_append_left _ (List.mem_append_left _ (List.mem_append_left _ (List.mem_append_left _ (List.mem_append_right _ h))))))) tg_wsX90)) (goodIn_sub (fun _ h => (List.mem_cons_of_mem _ (List.mem_append_left _ (List.mem_append_left _ (List.mem_append_left _ (List.mem_append_right _ h)))))) tg_wsX00)) (goodIn_sub (fun _ h => List.mem_cons_of_mem _ (List.mem_append_left _ (List.mem_append_right _ h))) (by decide +kernel))) (goodIn_sub (fun _ h => List.mem_cons_of_mem _ (List.mem_append_right _ h)) (by decide +kernel))) (goodIn_sub (fun _ h => List.mem_cons_of_mem _ (List.mem_append_left _ (List.mem_append_left _ (List.mem_append_right _ h)))) (by decide +kernel))
set_option maxRecDepth 20000 in
theorem gL_change_X9_change : GoodIn wsL_change (wsV RL 83 RX9 yX9_change wsX9_change) := goodIn_app (goodIn_q _ [3, 4, 5, 6] rfl (by decide +kernel)) ggL_change_X9_change
def dsL_change_0 : ByteArray := ⟨#[25, 4, 3, 42, 27, 28, 29, 182, 0, 83, 133, 80, 167, 0, 11]⟩
theorem daL_change_0 : agB cL_change dsL_change_0 0 := agB_of (n := 15) (by decide +kernel)
theorem dbL_change_0 : (decode dsL_change_0 0 = .ok (.aload 4, 2) ∧ okop dsL_change_0 0 = true) ∧ (decode dsL_change_0 2 = .ok (.iconst 0, 1) ∧ okop dsL_change_0 2 = true) ∧ (decode dsL_change_0 3 = .ok (.aload_n 0, 1) ∧ okop dsL_change_0 3 = true) ∧ (decode dsL_change_0 4 = .ok (.iload_n 1, 1) ∧ okop dsL_change_0 4 = true) ∧ (decode dsL_change_0 5 = .ok (.iload_n 2, 1) ∧ okop dsL_change_0 5 = true) ∧ (decode dsL_change_0 6 = .ok (.iload_n 3, 1) ∧ okop dsL_change_0 6 = true) ∧ (decode dsL_change_0 7 = .ok (.invokevirtual 83, 3) ∧ okop dsL_change_0 7 = true) ∧ (decode dsL_change_0 10 = .ok (.i2l, 1) ∧ okop dsL_change_0 10 = true) ∧ (decode dsL_change_0 11 = .ok (.lastore, 1) ∧ okop dsL_change_0 11 = true) ∧ (decode dsL_change_0 12 = .ok (.goto 11, 3) ∧ okop dsL_change_0 12 = true) := by decide +kernel
theorem dL_change_0 : decode cL_change 0 = .ok (.aload 4, 2) := dgq (p := 0) daL_change_0 dbL_change_0.1
theorem dL_change_2 : decode cL_change 2 = .ok (.iconst 0, 1) := dgq (p := 2) daL_change_0 dbL_change_0.2.1
theorem dL_change_3 : decode cL_change 3 = .ok (.aload_n 0, 1) := dgq (p := 3) daL_change_0 dbL_change_0.2.2.1
theorem dL_change_4 : decode cL_change 4 = .ok (.iload_n 1, 1) := dgq (p := 4) daL_change_0 dbL_change_0.2.2.2.1
theorem dL_change_5 : decode cL_change 5 = .ok (.iload_n 2, 1) := dgq (p := 5) daL_change_0 dbL_change_0.2.2.2.2.1
theorem dL_change_6 : decode cL_change 6 = .ok (.iload_n 3, 1) := dgq (p := 6) daL_change_0 dbL_change_0.2.2.2.2.2.1
theorem dL_change_7 : decode cL_change 7 = .ok (.invokevirtual 83, 3) := dgq (p := 7) daL_change_0 dbL_change_0.2.2.2.2.2.2.1
theorem dL_change_10 : decode cL_change 10 = .ok (.i2l, 1) := dgq (p := 10) daL_change_0 dbL_change_0.2.2.2.2.2.2.2.1
theorem dL_change_11 : decode cL_change 11 = .ok (.lastore, 1) := dgq (p := 11) daL_change_0 dbL_change_0.2.2.2.2.2.2.2.2.1
theorem dL_change_12 : decode cL_change 12 = .ok (.goto 11, 3) := dgq (p := 12) daL_change_0 dbL_change_0.2.2.2.2.2.2.2.2.2
def dsL_change_15 : ByteArray := ⟨#[58, 5, 4, 172, 58, 5, 5, 172, 3, 172]⟩
theorem daL_change_15 : agB cL_change dsL_change_15 15 := agB_of (n := 10) (by decide +kernel)
theorem dbL_change_15 : (decode dsL_change_15 0 = .ok (.astore 5, 2) ∧ okop dsL_change_15 0 = true) ∧ (decode dsL_change_15 2 = .ok (.iconst 1, 1) ∧ okop dsL_change_15 2 = true) ∧ (decode dsL_change_15 3 = .ok (.ireturn, 1) ∧ okop dsL_change_15 3 = true) ∧ (decode dsL_change_15 4 = .ok (.astore 5, 2) ∧ okop dsL_change_15 4 = true) ∧ (decode dsL_change_15 6 = .ok (.iconst 2, 1) ∧ okop dsL_change_15 6 = true) ∧ (decode dsL_change_15 7 = .ok (.ireturn, 1) ∧ okop dsL_change_15 7 = true) ∧ (decode dsL_change_15 8 = .ok (.iconst 0, 1) ∧ okop dsL_change_15 8 = true) ∧ (decode dsL_change_15 9 = .ok (.ireturn, 1) ∧ okop dsL_change_15 9 = true) := by decide +kernel
theorem dL_change_15 : decode cL_change 15 = .ok (.astore 5, 2) := dgq (p := 0) daL_change_15 dbL_change_15.1
theorem dL_change_17 : decode cL_change 17 = .ok (.iconst 1, 1) := dgq (p := 2) daL_change_15 dbL_change_15.2.1
theorem dL_change_18 : decode cL_change 18 = .ok (.ireturn, 1) := dgq (p := 3) daL_change_15 dbL_change_15.2.2.1
theorem dL_change_19 : decode cL_change 19 = .ok (.astore 5, 2) := dgq (p := 4) daL_change_15 dbL_change_15.2.2.2.1
theorem dL_change_21 : decode cL_change 21 = .ok (.iconst 2, 1) := dgq (p := 6) daL_change_15 dbL_change_15.2.2.2.2.1
theorem dL_change_22 : decode cL_change 22 = .ok (.ireturn, 1) := dgq (p := 7) daL_change_15 dbL_change_15.2.2.2.2.2.1
theorem dL_change_23 : decode cL_change 23 = .ok (.iconst 0, 1) := dgq (p := 8) daL_change_15 dbL_change_15.2.2.2.2.2.2.1
theorem dL_change_24 : decode cL_change 24 = .ok (.ireturn, 1) := dgq (p := 9) daL_change_15 dbL_change_15.2.2.2.2.2.2.2
set_option maxRecDepth 20000 in
theorem ggL_meets_X9_meets : GoodIn wsL_meets wsX9_meets := goodIn_ca (goodIn_ca (goodIn_ca (goodIn_ca (goodIn_ca (goodIn_q _ [7, 8, 9, 10, 11, 6, 12, 13, 14, 15, 16, 17, 18, 19, 20, 21, 22, 23, 24, 25, 26, 27, 28, 29, 30, 31, 32, 33, 34, 35, 36, 37, 38, 39, 40, 41, 42, 43, 44, 45, 46, 47, 48, 49, 50, 51, 52, 53, 54, 55, 56, 57] rfl (by decide +kernel)) (goodIn_sub (fun _ h => (List.mem_cons_of_mem _ (List.mem_append_left _ (List.mem_append_left _ (List.mem_append_left _ (List.mem_append_left _ (List.mem_append_right _ h))))))) tg_wsX90)) (goodIn_sub (fun _ h => (List.mem_cons_of_mem _ (List.mem_append_left _ (List.mem_append_left _ (List.mem_append_left _ (List.mem_append_right _ h)))))) tg_wsX00)) (goodIn_sub (fun _ h => List.mem_cons_of_mem _ (List.mem_append_left _ (List.mem_append_right _ h))) (by decide +kernel))) (goodIn_sub (fun _ h => List.mem_cons_of_mem _ (List.mem_append_right _ h)) (by decide +kernel))) (goodIn_sub (fun _ h => List.mem_cons_of_mem _ (List.mem_append_left _ (List.mem_append_left _ (List.mem_append_right _ h)))) (by decide +kernel))
set_option maxRecDepth 20000 in
theorem gL_meets_X9_meets : GoodIn wsL_meets (wsV RL 87 RX9 yX9_meets wsX9_meets) := goodIn_app (goodIn_q _ [3, 4, 5, 6] rfl (by decide +kernel)) ggL_meets_X9_meets
def dsL_meets_0 : ByteArray := ⟨#[25, 4, 3, 42, 27, 28, 29, 182, 0, 87, 153, 0, 7, 10, 167, 0, 4]⟩
theorem daL_meets_0 : agB cL_meets dsL_meets_0 0 := agB_of (n := 17) (by decide +kernel)
theorem dbL_meets_0 : (decode dsL_meets_0 0 = .ok (.aload 4, 2) ∧ okop dsL_meets_0 0 = true) ∧ (decode dsL_meets_0 2 = .ok (.iconst 0, 1) ∧ okop dsL_meets_0 2 = true) ∧ (decode dsL_meets_0 3 = .ok (.aload_n 0, 1) ∧ okop dsL_meets_0 3 = true) ∧ (decode dsL_meets_0 4 = .ok (.iload_n 1, 1) ∧ okop dsL_meets_0 4 = true) ∧ (decode dsL_meets_0 5 = .ok (.iload_n 2, 1) ∧ okop dsL_meets_0 5 = true) ∧ (decode dsL_meets_0 6 = .ok (.iload_n 3, 1) ∧ okop dsL_meets_0 6 = true) ∧ (decode dsL_meets_0 7 = .ok (.invokevirtual 87, 3) ∧ okop dsL_meets_0 7 = true) ∧ (decode dsL_meets_0 10 = .ok (.ifCond .eq 7, 3) ∧ okop dsL_meets_0 10 = true) ∧ (decode dsL_meets_0 13 = .ok (.lconst 1, 1) ∧ okop dsL_meets_0 13 = true) ∧ (decode dsL_meets_0 14 = .ok (.goto 4, 3) ∧ okop dsL_meets_0 14 = true) := by decide +kernel
theorem dL_meets_0 : decode cL_meets 0 = .ok (.aload 4, 2) := dgq (p := 0) daL_meets_0 dbL_meets_0.1
theorem dL_meets_2 : decode cL_meets 2 = .ok (.iconst 0, 1) := dgq (p := 2) daL_meets_0 dbL_meets_0.2.1
theorem dL_meets_3 : decode cL_meets 3 = .ok (.aload_n 0, 1) := dgq (p := 3) daL_meets_0 dbL_meets_0.2.2.1
theorem dL_meets_4 : decode cL_meets 4 = .ok (.iload_n 1, 1) := dgq (p := 4) daL_meets_0 dbL_meets_0.2.2.2.1
theorem dL_meets_5 : decode cL_meets 5 = .ok (.iload_n 2, 1) := dgq (p := 5) daL_meets_0 dbL_meets_0.2.2.2.2.1
theorem dL_meets_6 : decode cL_meets 6 = .ok (.iload_n 3, 1) := dgq (p := 6) daL_meets_0 dbL_meets_0.2.2.2.2.2.1
theorem dL_meets_7 : decode cL_meets 7 = .ok (.invokevirtual 87, 3) := dgq (p := 7) daL_meets_0 dbL_meets_0.2.2.2.2.2.2.1
theorem dL_meets_10 : decode cL_meets 10 = .ok (.ifCond .eq 7, 3) := dgq (p := 10) daL_meets_0 dbL_meets_0.2.2.2.2.2.2.2.1
theorem dL_meets_13 : decode cL_meets 13 = .ok (.lconst 1, 1) := dgq (p := 13) daL_meets_0 dbL_meets_0.2.2.2.2.2.2.2.2.1
theorem dL_meets_14 : decode cL_meets 14 = .ok (.goto 4, 3) := dgq (p := 14) daL_meets_0 dbL_meets_0.2.2.2.2.2.2.2.2.2
def dsL_meets_17 : ByteArray := ⟨#[9, 80, 167, 0, 11, 58, 5, 4, 172, 58, 5, 5, 172, 3]⟩
theorem daL_meets_17 : agB cL_meets dsL_meets_17 17 := agB_of (n := 14) (by decide +kernel)
theorem dbL_meets_17 : (decode dsL_meets_17 0 = .ok (.lconst 0, 1) ∧ okop dsL_meets_17 0 = true) ∧ (decode dsL_meets_17 1 = .ok (.lastore, 1) ∧ okop dsL_meets_17 1 = true) ∧ (decode dsL_meets_17 2 = .ok (.goto 11, 3) ∧ okop dsL_meets_17 2 = true) ∧ (decode dsL_meets_17 5 = .ok (.astore 5, 2) ∧ okop dsL_meets_17 5 = true) ∧ (decode dsL_meets_17 7 = .ok (.iconst 1, 1) ∧ okop dsL_meets_17 7 = true) ∧ (decode dsL_meets_17 8 = .ok (.ireturn, 1) ∧ okop dsL_meets_17 8 = true) ∧ (decode dsL_meets_17 9 = .ok (.astore 5, 2) ∧ okop dsL_meets_17 9 = true) ∧ (decode dsL_meets_17 11 = .ok (.iconst 2, 1) ∧ okop dsL_meets_17 11 = true) ∧ (decode dsL_meets_17 12 = .ok (.ireturn, 1) ∧ okop dsL_meets_17 12 = true) ∧ (decode dsL_meets_17 13 = .ok (.iconst 0, 1) ∧ okop dsL_meets_17 13 = true) := by decide +kernel
theorem dL_meets_17 : decode cL_meets 17 = .ok (.lconst 0, 1) := dgq (p := 0) daL_meets_17 dbL_meets_17.1
theorem dL_meets_18 : decode cL_meets 18 = .ok (.lastore, 1) := dgq (p := 1) daL_meets_17 dbL_meets_17.2.1
theorem dL_meets_19 : decode cL_meets 19 = .ok (.goto 11, 3) := dgq (p := 2) daL_meets_17 dbL_meets_17.2.2.1
theorem dL_meets_22 : decode cL_meets 22 = .ok (.astore 5, 2) := dgq (p := 5) daL_meets_17 dbL_meets_17.2.2.2.1
theorem dL_meets_24 : decode cL_meets 24 = .ok (.iconst 1, 1) := dgq (p := 7) daL_meets_17 dbL_meets_17.2.2.2.2.1
theorem dL_meets_25 : decode cL_meets 25 = .ok (.ireturn, 1) := dgq (p := 8) daL_meets_17 dbL_meets_17.2.2.2.2.2.1
theorem dL_meets_26 : decode cL_meets 26 = .ok (.astore 5, 2) := dgq (p := 9) daL_meets_17 dbL_meets_17.2.2.2.2.2.2.1
theorem dL_meets_28 : decode cL_meets 28 = .ok (.iconst 2, 1) := dgq (p := 11) daL_meets_17 dbL_meets_17.2.2.2.2.2.2.2.1
theorem dL_meets_29 : decode cL_meets 29 = .ok (.ireturn, 1) := dgq (p := 12) daL_meets_17 dbL_meets_17.2.2.2.2.2.2.2.2.1
theorem dL_meets_30 : decode cL_meets 30 = .ok (.iconst 0, 1) := dgq (p := 13) daL_meets_17 dbL_meets_17.2.2.2.2.2.2.2.2.2
theorem dL_meets_31 : decode cL_meets 31 = .ok (.ireturn, 1) := by decide +kernel
set_option maxRecDepth 20000 in
theorem ggL_setMachine_X9_setMachine : GoodIn wsL_setMachine wsX9_setMachine := goodIn_ca (goodIn_ca (goodIn_q _ [6, 7, 8, 9, 10, 5, 11, 12, 13] rfl (by decide +kernel)) (goodIn_sub (fun _ h => (List.mem_cons_of_mem _ (List.mem_append_left _ (List.mem_append_left _ (List.mem_append_right _ h))))) tg_wsX90)) (goodIn_sub (fun _ h => List.mem_cons_of_mem _ (List.mem_append_right _ h)) (by decide +kernel))
set_option maxRecDepth 20000 in
theorem gL_setMachine_X9_setMachine : GoodIn wsL_setMachine (wsV RL 91 RX9 yX9_setMachine wsX9_setMachine) := goodIn_app (goodIn_q _ [2, 3, 4, 5] rfl (by decide +kernel)) ggL_setMachine_X9_setMachine
def dsL_setMachine_0 : ByteArray := ⟨#[45, 3, 42, 27, 28, 182, 0, 91, 133, 80, 167, 0, 7, 58, 4]⟩
theorem daL_setMachine_0 : agB cL_setMachine dsL_setMachine_0 0 := agB_of (n := 15) (by decide +kernel)
theorem dbL_setMachine_0 : (decode dsL_setMachine_0 0 = .ok (.aload_n 3, 1) ∧ okop dsL_setMachine_0 0 = true) ∧ (decode dsL_setMachine_0 1 = .ok (.iconst 0, 1) ∧ okop dsL_setMachine_0 1 = true) ∧ (decode dsL_setMachine_0 2 = .ok (.aload_n 0, 1) ∧ okop dsL_setMachine_0 2 = true) ∧ (decode dsL_setMachine_0 3 = .ok (.iload_n 1, 1) ∧ okop dsL_setMachine_0 3 = true) ∧ (decode dsL_setMachine_0 4 = .ok (.iload_n 2, 1) ∧ okop dsL_setMachine_0 4 = true) ∧ (decode dsL_setMachine_0 5 = .ok (.invokevirtual 91, 3) ∧ okop dsL_setMachine_0 5 = true) ∧ (decode dsL_setMachine_0 8 = .ok (.i2l, 1) ∧ okop dsL_setMachine_0 8 = true) ∧ (decode dsL_setMachine_0 9 = .ok (.lastore, 1) ∧ okop dsL_setMachine_0 9 = true) ∧ (decode dsL_setMachine_0 10 = .ok (.goto 7, 3) ∧ okop dsL_setMachine_0 10 = true) ∧ (decode dsL_setMachine_0 13 = .ok (.astore 4, 2) ∧ okop dsL_setMachine_0 13 = true) := by decide +kernel
theorem dL_setMachine_0 : decode cL_setMachine 0 = .ok (.aload_n 3, 1) := dgq (p := 0) daL_setMachine_0 dbL_setMachine_0.1
theorem dL_setMachine_1 : decode cL_setMachine 1 = .ok (.iconst 0, 1) := dgq (p := 1) daL_setMachine_0 dbL_setMachine_0.2.1
theorem dL_setMachine_2 : decode cL_setMachine 2 = .ok (.aload_n 0, 1) := dgq (p := 2) daL_setMachine_0 dbL_setMachine_0.2.2.1
theorem dL_setMachine_3 : decode cL_setMachine 3 = .ok (.iload_n 1, 1) := dgq (p := 3) daL_setMachine_0 dbL_setMachine_0.2.2.2.1
theorem dL_setMachine_4 : decode cL_setMachine 4 = .ok (.iload_n 2, 1) := dgq (p := 4) daL_setMachine_0 dbL_setMachine_0.2.2.2.2.1
theorem dL_setMachine_5 : decode cL_setMachine 5 = .ok (.invokevirtual 91, 3) := dgq (p := 5) daL_setMachine_0 dbL_setMachine_0.2.2.2.2.2.1
theorem dL_setMachine_8 : decode cL_setMachine 8 = .ok (.i2l, 1) := dgq (p := 8) daL_setMachine_0 dbL_setMachine_0.2.2.2.2.2.2.1
theorem dL_setMachine_9 : decode cL_setMachine 9 = .ok (.lastore, 1) := dgq (p := 9) daL_setMachine_0 dbL_setMachine_0.2.2.2.2.2.2.2.1
theorem dL_setMachine_10 : decode cL_setMachine 10 = .ok (.goto 7, 3) := dgq (p := 10) daL_setMachine_0 dbL_setMachine_0.2.2.2.2.2.2.2.2.1
theorem dL_setMachine_13 : decode cL_setMachine 13 = .ok (.astore 4, 2) := dgq (p := 13) daL_setMachine_0 dbL_setMachine_0.2.2.2.2.2.2.2.2.2
def dsL_setMachine_15 : ByteArray := ⟨#[4, 172, 3, 172]⟩
theorem daL_setMachine_15 : agB cL_setMachine dsL_setMachine_15 15 := agB_of (n := 4) (by decide +kernel)
theorem dbL_setMachine_15 : (decode dsL_setMachine_15 0 = .ok (.iconst 1, 1) ∧ okop dsL_setMachine_15 0 = true) ∧ (decode dsL_setMachine_15 1 = .ok (.ireturn, 1) ∧ okop dsL_setMachine_15 1 = true) ∧ (decode dsL_setMachine_15 2 = .ok (.iconst 0, 1) ∧ okop dsL_setMachine_15 2 = true) ∧ (decode dsL_setMachine_15 3 = .ok (.ireturn, 1) ∧ okop dsL_setMachine_15 3 = true) := by decide +kernel
theorem dL_setMachine_15 : decode cL_setMachine 15 = .ok (.iconst 1, 1) := dgq (p := 0) daL_setMachine_15 dbL_setMachine_15.1
theorem dL_setMachine_16 : decode cL_setMachine 16 = .ok (.ireturn, 1) := dgq (p := 1) daL_setMachine_15 dbL_setMachine_15.2.1
theorem dL_setMachine_17 : decode cL_setMachine 17 = .ok (.iconst 0, 1) := dgq (p := 2) daL_setMachine_15 dbL_setMachine_15.2.2.1
theorem dL_setMachine_18 : decode cL_setMachine 18 = .ok (.ireturn, 1) := dgq (p := 3) daL_setMachine_15 dbL_setMachine_15.2.2.2
set_option maxRecDepth 20000 in
theorem ggL_hob_X9_hob : GoodIn wsL_hob wsX9_hob := goodIn_ca (goodIn_ca (goodIn_ca (goodIn_ca (goodIn_q _ [7, 8, 9, 10, 11, 12, 13, 14, 15, 16, 17, 6, 18, 19, 20, 21, 22, 23, 24, 25, 26, 27, 28, 29, 30, 31] rfl (by decide +kernel)) (goodIn_sub (fun _ h => (List.mem_cons_of_mem _ (List.mem_append_left _ (List.mem_append_left _ (List.mem_append_left _ (List.mem_append_left _ (List.mem_append_right _ h))))))) tg_wsX90)) (goodIn_sub (fun _ h => (List.mem_cons_of_mem _ (List.mem_append_left _ (List.mem_append_left _ (List.mem_append_left _ (List.mem_append_right _ h)))))) tg_wsX30)) (goodIn_sub (fun _ h => List.mem_cons_of_mem _ (List.mem_append_left _ (List.mem_append_right _ h))) (by decide +kernel))) (goodIn_sub (fun _ h => List.mem_cons_of_mem _ (List.mem_append_right _ h)) (by decide +kernel))
set_option maxRecDepth 20000 in
theorem gL_hob_X9_hob : GoodIn wsL_hob (wsV RL 94 RX9 yX9_hob wsX9_hob) := goodIn_app (goodIn_q _ [3, 4, 5, 6] rfl (by decide +kernel)) ggL_hob_X9_hob
def dsL_hob_0 : ByteArray := ⟨#[25, 5, 3, 42, 27, 28, 29, 21, 4, 182, 0, 94, 133, 80]⟩
theorem daL_hob_0 : agB cL_hob dsL_hob_0 0 := agB_of (n := 14) (by decide +kernel)
theorem dbL_hob_0 : (decode dsL_hob_0 0 = .ok (.aload 5, 2) ∧ okop dsL_hob_0 0 = true) ∧ (decode dsL_hob_0 2 = .ok (.iconst 0, 1) ∧ okop dsL_hob_0 2 = true) ∧ (decode dsL_hob_0 3 = .ok (.aload_n 0, 1) ∧ okop dsL_hob_0 3 = true) ∧ (decode dsL_hob_0 4 = .ok (.iload_n 1, 1) ∧ okop dsL_hob_0 4 = true) ∧ (decode dsL_hob_0 5 = .ok (.iload_n 2, 1) ∧ okop dsL_hob_0 5 = true) ∧ (decode dsL_hob_0 6 = .ok (.iload_n 3, 1) ∧ okop dsL_hob_0 6 = true) ∧ (decode dsL_hob_0 7 = .ok (.iload 4, 2) ∧ okop dsL_hob_0 7 = true) ∧ (decode dsL_hob_0 9 = .ok (.invokevirtual 94, 3) ∧ okop dsL_hob_0 9 = true) ∧ (decode dsL_hob_0 12 = .ok (.i2l, 1) ∧ okop dsL_hob_0 12 = true) ∧ (decode dsL_hob_0 13 = .ok (.lastore, 1) ∧ okop dsL_hob_0 13 = true) := by decide +kernel
theorem dL_hob_0 : decode cL_hob 0 = .ok (.aload 5, 2) := dgq (p := 0) daL_hob_0 dbL_hob_0.1
theorem dL_hob_2 : decode cL_hob 2 = .ok (.iconst 0, 1) := dgq (p := 2) daL_hob_0 dbL_hob_0.2.1
theorem dL_hob_3 : decode cL_hob 3 = .ok (.aload_n 0, 1) := dgq (p := 3) daL_hob_0 dbL_hob_0.2.2.1
theorem dL_hob_4 : decode cL_hob 4 = .ok (.iload_n 1, 1) := dgq (p := 4) daL_hob_0 dbL_hob_0.2.2.2.1
theorem dL_hob_5 : decode cL_hob 5 = .ok (.iload_n 2, 1) := dgq (p := 5) daL_hob_0 dbL_hob_0.2.2.2.2.1
theorem dL_hob_6 : decode cL_hob 6 = .ok (.iload_n 3, 1) := dgq (p := 6) daL_hob_0 dbL_hob_0.2.2.2.2.2.1
theorem dL_hob_7 : decode cL_hob 7 = .ok (.iload 4, 2) := dgq (p := 7) daL_hob_0 dbL_hob_0.2.2.2.2.2.2.1
theorem dL_hob_9 : decode cL_hob 9 = .ok (.invokevirtual 94, 3) := dgq (p := 9) daL_hob_0 dbL_hob_0.2.2.2.2.2.2.2.1
theorem dL_hob_12 : decode cL_hob 12 = .ok (.i2l, 1) := dgq (p := 12) daL_hob_0 dbL_hob_0.2.2.2.2.2.2.2.2.1
theorem dL_hob_13 : decode cL_hob 13 = .ok (.lastore, 1) := dgq (p := 13) daL_hob_0 dbL_hob_0.2.2.2.2.2.2.2.2.2
def dsL_hob_14 : ByteArray := ⟨#[167, 0, 11, 58, 6, 4, 172, 58, 6, 5, 172, 3, 172]⟩
theorem daL_hob_14 : agB cL_hob dsL_hob_14 14 := agB_of (n := 13) (by decide +kernel)
theorem dbL_hob_14 : (decode dsL_hob_14 0 = .ok (.goto 11, 3) ∧ okop dsL_hob_14 0 = true) ∧ (decode dsL_hob_14 3 = .ok (.astore 6, 2) ∧ okop dsL_hob_14 3 = true) ∧ (decode dsL_hob_14 5 = .ok (.iconst 1, 1) ∧ okop dsL_hob_14 5 = true) ∧ (decode dsL_hob_14 6 = .ok (.ireturn, 1) ∧ okop dsL_hob_14 6 = true) ∧ (decode dsL_hob_14 7 = .ok (.astore 6, 2) ∧ okop dsL_hob_14 7 = true) ∧ (decode dsL_hob_14 9 = .ok (.iconst 2, 1) ∧ okop dsL_hob_14 9 = true) ∧ (decode dsL_hob_14 10 = .ok (.ireturn, 1) ∧ okop dsL_hob_14 10 = true) ∧ (decode dsL_hob_14 11 = .ok (.iconst 0, 1) ∧ okop dsL_hob_14 11 = true) ∧ (decode dsL_hob_14 12 = .ok (.ireturn, 1) ∧ okop dsL_hob_14 12 = true) := by decide +kernel
theorem dL_hob_14 : decode cL_hob 14 = .ok (.goto 11, 3) := dgq (p := 0) daL_hob_14 dbL_hob_14.1
theorem dL_hob_17 : decode cL_hob 17 = .ok (.astore 6, 2) := dgq (p := 3) daL_hob_14 dbL_hob_14.2.1
theorem dL_hob_19 : decode cL_hob 19 = .ok (.iconst 1, 1) := dgq (p := 5) daL_hob_14 dbL_hob_14.2.2.1
theorem dL_hob_20 : decode cL_hob 20 = .ok (.ireturn, 1) := dgq (p := 6) daL_hob_14 dbL_hob_14.2.2.2.1
theorem dL_hob_21 : decode cL_hob 21 = .ok (.astore 6, 2) := dgq (p := 7) daL_hob_14 dbL_hob_14.2.2.2.2.1
theorem dL_hob_23 : decode cL_hob 23 = .ok (.iconst 2, 1) := dgq (p := 9) daL_hob_14 dbL_hob_14.2.2.2.2.2.1
theorem dL_hob_24 : decode cL_hob 24 = .ok (.ireturn, 1) := dgq (p := 10) daL_hob_14 dbL_hob_14.2.2.2.2.2.2.1
theorem dL_hob_25 : decode cL_hob 25 = .ok (.iconst 0, 1) := dgq (p := 11) daL_hob_14 dbL_hob_14.2.2.2.2.2.2.2.1
theorem dL_hob_26 : decode cL_hob 26 = .ok (.ireturn, 1) := dgq (p := 12) daL_hob_14 dbL_hob_14.2.2.2.2.2.2.2.2
set_option maxRecDepth 20000 in
theorem ggL_indexes_X9_indexes : GoodIn wsL_indexes wsX9_indexes := goodIn_ca (goodIn_ca (goodIn_ca (goodIn_ca (goodIn_ca (goodIn_ca (goodIn_ca (goodIn_ca (goodIn_q _ [8, 9, 10, 11, 12, 13, 14, 15, 16, 7, 17, 18, 19, 20, 21, 22, 23, 24, 25, 26, 27, 28, 29, 30, 31, 32, 33, 34, 35, 36, 37, 38, 39, 40, 41, 42, 43, 44, 45, 46, 47, 48, 49, 50, 51, 52, 53, 54, 55, 56, 57, 58, 59, 60, 61, 62, 63, 64, 65, 66, 67, 68, 69, 70, 71, 72] rfl (by decide +kernel)) (goodIn_sub (fun _ h => (List.mem_cons_of_mem _ (List.mem_append_left _ (List.mem_append_left _ (List.mem_append_left _ (List.mem_append_left _ (List.mem_append_left _ (List.mem_append_left _ (List.mem_append_left _ (List.mem_append_right _ h)))))))))) tg_wsX90)) (goodIn_sub (fun _ h => (List.mem_cons_of_mem _ (List.mem_append_left _ (List.mem_append_left _ (List.mem_append_left _ (List.mem_append_left _ (List.mem_append_left _ (List.mem_append_left _ (List.mem_append_right _ h))))))))) tg_wsX30)) (goodIn_sub (fun _ h => (List.mem_cons_of_mem _ (List.mem_append_left _ (List.mem_append_left _ (List.mem_append_left _ (List.mem_append_left _ (List.mem_append_left _ (List.mem_append_right _ h)))))))) tg_wsX20)) (goodIn_sub (fun _ h => (List.mem_cons_of_mem _ (List.mem_append_left _ (List.mem_append_left _ (List.mem_append_left _ (List.mem_append_left _ (List.mem_append_right _ h))))))) tg_wsX00)) (goodIn_sub (fun _ h => List.mem_cons_of_mem _ (List.mem_append_left _ (List.mem_append_left _ (List.mem_append_right _ h)))) (by decide +kernel))) (goodIn_sub (fun _ h => List.mem_cons_of_mem _ (List.mem_append_left _ (List.mem_append_right _ h))) (by decide +kernel))) (goodIn_sub (fun _ h => List.mem_cons_of_mem _ (List.mem_append_right _ h)) (by decide +kernel))) (goodIn_sub (fun _ h => List.mem_cons_of_mem _ (List.mem_append_left _ (List.mem_append_left _ (List.mem_append_left _ (List.mem_append_right _ h))))) (by decide +kernel))
set_option maxRecDepth 20000 in
theorem gL_indexes_X9_indexes : GoodIn wsL_indexes (wsV RL 97 RX9 yX9_indexes wsX9_indexes) := goodIn_app (goodIn_q _ [4, 5, 6, 7] rfl (by decide +kernel)) ggL_indexes_X9_indexes
def dsL_indexes_0 : ByteArray := ⟨#[25, 4, 3, 42, 27, 28, 29, 182, 0, 97, 153, 0, 7, 10, 167, 0, 4]⟩
theorem daL_indexes_0 : agB cL_indexes dsL_indexes_0 0 := agB_of (n := 17) (by decide +kernel)
theorem dbL_indexes_0 : (decode dsL_indexes_0 0 = .ok (.aload 4, 2) ∧ okop dsL_indexes_0 0 = true) ∧ (decode dsL_indexes_0 2 = .ok (.iconst 0, 1) ∧ okop dsL_indexes_0 2 = true) ∧ (decode dsL_indexes_0 3 = .ok (.aload_n 0, 1) ∧ okop dsL_indexes_0 3 = true) ∧ (decode dsL_indexes_0 4 = .ok (.iload_n 1, 1) ∧ okop dsL_indexes_0 4 = true) ∧ (decode dsL_indexes_0 5 = .ok (.iload_n 2, 1) ∧ okop dsL_indexes_0 5 = true) ∧ (decode dsL_indexes_0 6 = .ok (.iload_n 3, 1) ∧ okop dsL_indexes_0 6 = true) ∧ (decode dsL_indexes_0 7 = .ok (.invokevirtual 97, 3) ∧ okop dsL_indexes_0 7 = true) ∧ (decode dsL_indexes_0 10 = .ok (.ifCond .eq 7, 3) ∧ okop dsL_indexes_0 10 = true) ∧ (decode dsL_indexes_0 13 = .ok (.lconst 1, 1) ∧ okop dsL_indexes_0 13 = true) ∧ (decode dsL_indexes_0 14 = .ok (.goto 4, 3) ∧ okop dsL_indexes_0 14 = true) := by decide +kernel
theorem dL_indexes_0 : decode cL_indexes 0 = .ok (.aload 4, 2) := dgq (p := 0) daL_indexes_0 dbL_indexes_0.1
theorem dL_indexes_2 : decode cL_indexes 2 = .ok (.iconst 0, 1) := dgq (p := 2) daL_indexes_0 dbL_indexes_0.2.1
theorem dL_indexes_3 : decode cL_indexes 3 = .ok (.aload_n 0, 1) := dgq (p := 3) daL_indexes_0 dbL_indexes_0.2.2.1
theorem dL_indexes_4 : decode cL_indexes 4 = .ok (.iload_n 1, 1) := dgq (p := 4) daL_indexes_0 dbL_indexes_0.2.2.2.1
theorem dL_indexes_5 : decode cL_indexes 5 = .ok (.iload_n 2, 1) := dgq (p := 5) daL_indexes_0 dbL_indexes_0.2.2.2.2.1
theorem dL_indexes_6 : decode cL_indexes 6 = .ok (.iload_n 3, 1) := dgq (p := 6) daL_indexes_0 dbL_indexes_0.2.2.2.2.2.1
theorem dL_indexes_7 : decode cL_indexes 7 = .ok (.invokevirtual 97, 3) := dgq (p := 7) daL_indexes_0 dbL_indexes_0.2.2.2.2.2.2.1
theorem dL_indexes_10 : decode cL_indexes 10 = .ok (.ifCond .eq 7, 3) := dgq (p := 10) daL_indexes_0 dbL_indexes_0.2.2.2.2.2.2.2.1
theorem dL_indexes_13 : decode cL_indexes 13 = .ok (.lconst 1, 1) := dgq (p := 13) daL_indexes_0 dbL_indexes_0.2.2.2.2.2.2.2.2.1
theorem dL_indexes_14 : decode cL_indexes 14 = .ok (.goto 4, 3) := dgq (p := 14) daL_indexes_0 dbL_indexes_0.2.2.2.2.2.2.2.2.2
def dsL_indexes_17 : ByteArray := ⟨#[9, 80, 167, 0, 15, 58, 5, 4, 172, 58, 5, 5, 172, 58, 5]⟩
theorem daL_indexes_17 : agB cL_indexes dsL_indexes_17 17 := agB_of (n := 15) (by decide +kernel)
theorem dbL_indexes_17 : (decode dsL_indexes_17 0 = .ok (.lconst 0, 1) ∧ okop dsL_indexes_17 0 = true) ∧ (decode dsL_indexes_17 1 = .ok (.lastore, 1) ∧ okop dsL_indexes_17 1 = true) ∧ (decode dsL_indexes_17 2 = .ok (.goto 15, 3) ∧ okop dsL_indexes_17 2 = true) ∧ (decode dsL_indexes_17 5 = .ok (.astore 5, 2) ∧ okop dsL_indexes_17 5 = true) ∧ (decode dsL_indexes_17 7 = .ok (.iconst 1, 1) ∧ okop dsL_indexes_17 7 = true) ∧ (decode dsL_indexes_17 8 = .ok (.ireturn, 1) ∧ okop dsL_indexes_17 8 = true) ∧ (decode dsL_indexes_17 9 = .ok (.astore 5, 2) ∧ okop dsL_indexes_17 9 = true) ∧ (decode dsL_indexes_17 11 = .ok (.iconst 2, 1) ∧ okop dsL_indexes_17 11 = true) ∧ (decode dsL_indexes_17 12 = .ok (.ireturn, 1) ∧ okop dsL_indexes_17 12 = true) ∧ (decode dsL_indexes_17 13 = .ok (.astore 5, 2) ∧ okop dsL_indexes_17 13 = true) := by decide +kernel
theorem dL_indexes_17 : decode cL_indexes 17 = .ok (.lconst 0, 1) := dgq (p := 0) daL_indexes_17 dbL_indexes_17.1
theorem dL_indexes_18 : decode cL_indexes 18 = .ok (.lastore, 1) := dgq (p := 1) daL_indexes_17 dbL_indexes_17.2.1
theorem dL_indexes_19 : decode cL_indexes 19 = .ok (.goto 15, 3) := dgq (p := 2) daL_indexes_17 dbL_indexes_17.2.2.1
theorem dL_indexes_22 : decode cL_indexes 22 = .ok (.astore 5, 2) := dgq (p := 5) daL_indexes_17 dbL_indexes_17.2.2.2.1
theorem dL_indexes_24 : decode cL_indexes 24 = .ok (.iconst 1, 1) := dgq (p := 7) daL_indexes_17 dbL_indexes_17.2.2.2.2.1
theorem dL_indexes_25 : decode cL_indexes 25 = .ok (.ireturn, 1) := dgq (p := 8) daL_indexes_17 dbL_indexes_17.2.2.2.2.2.1
theorem dL_indexes_26 : decode cL_indexes 26 = .ok (.astore 5, 2) := dgq (p := 9) daL_indexes_17 dbL_indexes_17.2.2.2.2.2.2.1
theorem dL_indexes_28 : decode cL_indexes 28 = .ok (.iconst 2, 1) := dgq (p := 11) daL_indexes_17 dbL_indexes_17.2.2.2.2.2.2.2.1
theorem dL_indexes_29 : decode cL_indexes 29 = .ok (.ireturn, 1) := dgq (p := 12) daL_indexes_17 dbL_indexes_17.2.2.2.2.2.2.2.2.1
theorem dL_indexes_30 : decode cL_indexes 30 = .ok (.astore 5, 2) := dgq (p := 13) daL_indexes_17 dbL_indexes_17.2.2.2.2.2.2.2.2.2
def dsL_indexes_32 : ByteArray := ⟨#[6, 172, 3, 172]⟩
theorem daL_indexes_32 : agB cL_indexes dsL_indexes_32 32 := agB_of (n := 4) (by decide +kernel)
theorem dbL_indexes_32 : (decode dsL_indexes_32 0 = .ok (.iconst 3, 1) ∧ okop dsL_indexes_32 0 = true) ∧ (decode dsL_indexes_32 1 = .ok (.ireturn, 1) ∧ okop dsL_indexes_32 1 = true) ∧ (decode dsL_indexes_32 2 = .ok (.iconst 0, 1) ∧ okop dsL_indexes_32 2 = true) ∧ (decode dsL_indexes_32 3 = .ok (.ireturn, 1) ∧ okop dsL_indexes_32 3 = true) := by decide +kernel
theorem dL_indexes_32 : decode cL_indexes 32 = .ok (.iconst 3, 1) := dgq (p := 0) daL_indexes_32 dbL_indexes_32.1
theorem dL_indexes_33 : decode cL_indexes 33 = .ok (.ireturn, 1) := dgq (p := 1) daL_indexes_32 dbL_indexes_32.2.1
theorem dL_indexes_34 : decode cL_indexes 34 = .ok (.iconst 0, 1) := dgq (p := 2) daL_indexes_32 dbL_indexes_32.2.2.1
theorem dL_indexes_35 : decode cL_indexes 35 = .ok (.ireturn, 1) := dgq (p := 3) daL_indexes_32 dbL_indexes_32.2.2.2
set_option maxRecDepth 20000 in
theorem ggL_differs_X9_differs : GoodIn wsL_differs wsX9_differs := goodIn_ca (goodIn_ca (goodIn_ca (goodIn_ca (goodIn_ca (goodIn_ca (goodIn_ca (goodIn_ca (goodIn_ca (goodIn_q _ [9, 10, 11, 12, 13, 14, 15, 16, 17, 18, 19, 20, 21, 22, 8, 23, 24, 25, 26, 27, 28, 29, 30, 31, 32, 33, 34, 35, 36, 37, 38, 39, 40, 41, 42, 43, 44, 45, 46, 47, 48, 49, 50, 51, 52, 53, 54, 55, 56, 57, 58, 59, 60, 61, 62, 63, 64, 65, 66, 67, 68, 69, 70, 71, 72, 73, 74, 75, 76, 77, 78, 79, 80, 81, 82] rfl (by decide +kernel)) (goodIn_sub (fun _ h => (List.mem_cons_of_mem _ (List.mem_append_left _ (List.mem_append_left _ (List.mem_append_left _ (List.mem_append_left _ (List.mem_append_left _ (List.mem_append_left _ (List.mem_append_left _ (List.mem_append_left _ (List.mem_append_right _ h))))))))))) tg_wsX20)) (goodIn_sub (fun _ h => (List.mem_cons_of_mem _ (List.mem_append_left _ (List.mem_append_left _ (List.mem_append_left _ (List.mem_append_left _ (List.mem_append_left _ (List.mem_append_left _ (List.mem_append_left _ (List.mem_append_right _ h)))))))))) tg_wsX90)) (goodIn_sub (fun _ h => (List.mem_cons_of_mem _ (List.mem_append_left _ (List.mem_append_left _ (List.mem_append_left _ (List.mem_append_left _ (List.mem_append_left _ (List.mem_append_left _ (List.mem_append_right _ h))))))))) tg_wsX30)) (goodIn_sub (fun _ h => (List.mem_cons_of_mem _ (List.mem_append_left _ (List.mem_append_left _ (List.mem_append_left _ (List.mem_append_left _ (List.mem_append_left _ (List.mem_append_right _ h)))))))) tg_wsX00)) (goodIn_sub (fun _ h => List.mem_cons_of_mem _ (List.mem_append_left _ (List.mem_append_left _ (List.mem_append_left _ (List.mem_append_right _ h))))) (by decide +kernel))) (goodIn_sub (fun _ h => List.mem_cons_of_mem _ (List.mem_append_left _ (List.mem_append_left _ (List.mem_append_right _ h)))) (by decide +kernel))) (goodIn_sub (fun _ h => List.mem_cons_of_mem _ (List.mem_append_left _ (List.mem_append_right _ h))) (by decide +kernel))) (goodIn_sub (fun _ h => List.mem_cons_of_mem _ (List.mem_append_right _ h)) (by decide +kernel))) (goodIn_sub (fun _ h => List.mem_cons_of_mem _ (List.mem_append_left _ (List.mem_append_left _ (List.mem_append_left _ (List.mem_append_left _ (List.mem_append_right _ h)))))) (by decide +kernel))
set_option maxRecDepth 20000 in
theorem gL_differs_X9_differs : GoodIn wsL_differs (wsV RL 100 RX9 yX9_differs wsX9_differs) := goodIn_app (goodIn_q _ [5, 6, 7, 8] rfl (by decide +kernel)) ggL_differs_X9_differs
def dsL_differs_0 : ByteArray := ⟨#[25, 4, 3, 42, 27, 28, 29, 182, 0, 100, 153, 0, 7, 10, 167, 0, 4]⟩
theorem daL_differs_0 : agB cL_differs dsL_differs_0 0 := agB_of (n := 17) (by decide +kernel)
theorem dbL_differs_0 : (decode dsL_differs_0 0 = .ok (.aload 4, 2) ∧ okop dsL_differs_0 0 = true) ∧ (decode dsL_differs_0 2 = .ok (.iconst 0, 1) ∧ okop dsL_differs_0 2 = true) ∧ (decode dsL_differs_0 3 = .ok (.aload_n 0, 1) ∧ okop dsL_differs_0 3 = true) ∧ (decode dsL_differs_0 4 = .ok (.iload_n 1, 1) ∧ okop dsL_differs_0 4 = true) ∧ (decode dsL_differs_0 5 = .ok (.iload_n 2, 1) ∧ okop dsL_differs_0 5 = true) ∧ (decode dsL_differs_0 6 = .ok (.iload_n 3, 1) ∧ okop dsL_differs_0 6 = true) ∧ (decode dsL_differs_0 7 = .ok (.invokevirtual 100, 3) ∧ okop dsL_differs_0 7 = true) ∧ (decode dsL_differs_0 10 = .ok (.ifCond .eq 7, 3) ∧ okop dsL_differs_0 10 = true) ∧ (decode dsL_differs_0 13 = .ok (.lconst 1, 1) ∧ okop dsL_differs_0 13 = true) ∧ (decode dsL_differs_0 14 = .ok (.goto 4, 3) ∧ okop dsL_differs_0 14 = true) := by decide +kernel
theorem dL_differs_0 : decode cL_differs 0 = .ok (.aload 4, 2) := dgq (p := 0) daL_differs_0 dbL_differs_0.1
theorem dL_differs_2 : decode cL_differs 2 = .ok (.iconst 0, 1) := dgq (p := 2) daL_differs_0 dbL_differs_0.2.1
theorem dL_differs_3 : decode cL_differs 3 = .ok (.aload_n 0, 1) := dgq (p := 3) daL_differs_0 dbL_differs_0.2.2.1
theorem dL_differs_4 : decode cL_differs 4 = .ok (.iload_n 1, 1) := dgq (p := 4) daL_differs_0 dbL_differs_0.2.2.2.1
theorem dL_differs_5 : decode cL_differs 5 = .ok (.iload_n 2, 1) := dgq (p := 5) daL_differs_0 dbL_differs_0.2.2.2.2.1
theorem dL_differs_6 : decode cL_differs 6 = .ok (.iload_n 3, 1) := dgq (p := 6) daL_differs_0 dbL_differs_0.2.2.2.2.2.1
theorem dL_differs_7 : decode cL_differs 7 = .ok (.invokevirtual 100, 3) := dgq (p := 7) daL_differs_0 dbL_differs_0.2.2.2.2.2.2.1
theorem dL_differs_10 : decode cL_differs 10 = .ok (.ifCond .eq 7, 3) := dgq (p := 10) daL_differs_0 dbL_differs_0.2.2.2.2.2.2.2.1
theorem dL_differs_13 : decode cL_differs 13 = .ok (.lconst 1, 1) := dgq (p := 13) daL_differs_0 dbL_differs_0.2.2.2.2.2.2.2.2.1
theorem dL_differs_14 : decode cL_differs 14 = .ok (.goto 4, 3) := dgq (p := 14) daL_differs_0 dbL_differs_0.2.2.2.2.2.2.2.2.2
def dsL_differs_17 : ByteArray := ⟨#[9, 80, 167, 0, 19, 58, 5, 4, 172, 58, 5, 5, 172, 58, 5]⟩
theorem daL_differs_17 : agB cL_differs dsL_differs_17 17 := agB_of (n := 15) (by decide +kernel)
theorem dbL_differs_17 : (decode dsL_differs_17 0 = .ok (.lconst 0, 1) ∧ okop dsL_differs_17 0 = true) ∧ (decode dsL_differs_17 1 = .ok (.lastore, 1) ∧ okop dsL_differs_17 1 = true) ∧ (decode dsL_differs_17 2 = .ok (.goto 19, 3) ∧ okop dsL_differs_17 2 = true) ∧ (decode dsL_differs_17 5 = .ok (.astore 5, 2) ∧ okop dsL_differs_17 5 = true) ∧ (decode dsL_differs_17 7 = .ok (.iconst 1, 1) ∧ okop dsL_differs_17 7 = true) ∧ (decode dsL_differs_17 8 = .ok (.ireturn, 1) ∧ okop dsL_differs_17 8 = true) ∧ (decode dsL_differs_17 9 = .ok (.astore 5, 2) ∧ okop dsL_differs_17 9 = true) ∧ (decode dsL_differs_17 11 = .ok (.iconst 2, 1) ∧ okop dsL_differs_17 11 = true) ∧ (decode dsL_differs_17 12 = .ok (.ireturn, 1) ∧ okop dsL_differs_17 12 = true) ∧ (decode dsL_differs_17 13 = .ok (.astore 5, 2) ∧ okop dsL_differs_17 13 = true) := by decide +kernel
theorem dL_differs_17 : decode cL_differs 17 = .ok (.lconst 0, 1) := dgq (p := 0) daL_differs_17 dbL_differs_17.1
theorem dL_differs_18 : decode cL_differs 18 = .ok (.lastore, 1) := dgq (p := 1) daL_differs_17 dbL_differs_17.2.1
theorem dL_differs_19 : decode cL_differs 19 = .ok (.goto 19, 3) := dgq (p := 2) daL_differs_17 dbL_differs_17.2.2.1
theorem dL_differs_22 : decode cL_differs 22 = .ok (.astore 5, 2) := dgq (p := 5) daL_differs_17 dbL_differs_17.2.2.2.1
theorem dL_differs_24 : decode cL_differs 24 = .ok (.iconst 1, 1) := dgq (p := 7) daL_differs_17 dbL_differs_17.2.2.2.2.1
theorem dL_differs_25 : decode cL_differs 25 = .ok (.ireturn, 1) := dgq (p := 8) daL_differs_17 dbL_differs_17.2.2.2.2.2.1
theorem dL_differs_26 : decode cL_differs 26 = .ok (.astore 5, 2) := dgq (p := 9) daL_differs_17 dbL_differs_17.2.2.2.2.2.2.1
theorem dL_differs_28 : decode cL_differs 28 = .ok (.iconst 2, 1) := dgq (p := 11) daL_differs_17 dbL_differs_17.2.2.2.2.2.2.2.1
theorem dL_differs_29 : decode cL_differs 29 = .ok (.ireturn, 1) := dgq (p := 12) daL_differs_17 dbL_differs_17.2.2.2.2.2.2.2.2.1
theorem dL_differs_30 : decode cL_differs 30 = .ok (.astore 5, 2) := dgq (p := 13) daL_differs_17 dbL_differs_17.2.2.2.2.2.2.2.2.2
def dsL_differs_32 : ByteArray := ⟨#[6, 172, 58, 5, 7, 172, 3, 172]⟩
theorem daL_differs_32 : agB cL_differs dsL_differs_32 32 := agB_of (n := 8) (by decide +kernel)
theorem dbL_differs_32 : (decode dsL_differs_32 0 = .ok (.iconst 3, 1) ∧ okop dsL_differs_32 0 = true) ∧ (decode dsL_differs_32 1 = .ok (.ireturn, 1) ∧ okop dsL_differs_32 1 = true) ∧ (decode dsL_differs_32 2 = .ok (.astore 5, 2) ∧ okop dsL_differs_32 2 = true) ∧ (decode dsL_differs_32 4 = .ok (.iconst 4, 1) ∧ okop dsL_differs_32 4 = true) ∧ (decode dsL_differs_32 5 = .ok (.ireturn, 1) ∧ okop dsL_differs_32 5 = true) ∧ (decode dsL_differs_32 6 = .ok (.iconst 0, 1) ∧ okop dsL_differs_32 6 = true) ∧ (decode dsL_differs_32 7 = .ok (.ireturn, 1) ∧ okop dsL_differs_32 7 = true) := by decide +kernel
theorem dL_differs_32 : decode cL_differs 32 = .ok (.iconst 3, 1) := dgq (p := 0) daL_differs_32 dbL_differs_32.1
theorem dL_differs_33 : decode cL_differs 33 = .ok (.ireturn, 1) := dgq (p := 1) daL_differs_32 dbL_differs_32.2.1
theorem dL_differs_34 : decode cL_differs 34 = .ok (.astore 5, 2) := dgq (p := 2) daL_differs_32 dbL_differs_32.2.2.1
theorem dL_differs_36 : decode cL_differs 36 = .ok (.iconst 4, 1) := dgq (p := 4) daL_differs_32 dbL_differs_32.2.2.2.1
theorem dL_differs_37 : decode cL_differs 37 = .ok (.ireturn, 1) := dgq (p := 5) daL_differs_32 dbL_differs_32.2.2.2.2.1
theorem dL_differs_38 : decode cL_differs 38 = .ok (.iconst 0, 1) := dgq (p := 6) daL_differs_32 dbL_differs_32.2.2.2.2.2.1
theorem dL_differs_39 : decode cL_differs 39 = .ok (.ireturn, 1) := dgq (p := 7) daL_differs_32 dbL_differs_32.2.2.2.2.2.2
set_option maxRecDepth 20000 in
theorem ggL_shoulder_X9_shoulder : GoodIn wsL_shoulder wsX9_shoulder := goodIn_ca (goodIn_ca (goodIn_ca (goodIn_ca (goodIn_q _ [7, 8, 9, 10, 11, 12, 6, 13, 14, 15, 16, 17, 18, 19, 20, 21, 22] rfl (by decide +kernel)) (goodIn_sub (fun _ h => (List.mem_cons_of_mem _ (List.mem_append_left _ (List.mem_append_left _ (List.mem_append_left _ (List.mem_append_left _ (List.mem_append_right _ h))))))) tg_wsX20)) (goodIn_sub (fun _ h => (List.mem_cons_of_mem _ (List.mem_append_left _ (List.mem_append_left _ (List.mem_append_left _ (List.mem_append_right _ h)))))) tg_wsX90)) (goodIn_sub (fun _ h => List.mem_cons_of_mem _ (List.mem_append_left _ (List.mem_append_right _ h))) (by decide +kernel))) (goodIn_sub (fun _ h => List.mem_cons_of_mem _ (List.mem_append_right _ h)) (by decide +kernel))
set_option maxRecDepth 20000 in
theorem gL_shoulder_X9_shoulder : GoodIn wsL_shoulder (wsV RL 103 RX9 yX9_shoulder wsX9_shoulder) := goodIn_app (goodIn_q _ [3, 4, 5, 6] rfl (by decide +kernel)) ggL_shoulder_X9_shoulder
def dsL_shoulder_0 : ByteArray := ⟨#[45, 3, 42, 27, 28, 182, 0, 103, 133, 80, 167, 0, 11, 58, 4]⟩
theorem daL_shoulder_0 : agB cL_shoulder dsL_shoulder_0 0 := agB_of (n := 15) (by decide +kernel)
theorem dbL_shoulder_0 : (decode dsL_shoulder_0 0 = .ok (.aload_n 3, 1) ∧ okop dsL_shoulder_0 0 = true) ∧ (decode dsL_shoulder_0 1 = .ok (.iconst 0, 1) ∧ okop dsL_shoulder_0 1 = true) ∧ (decode dsL_shoulder_0 2 = .ok (.aload_n 0, 1) ∧ okop dsL_shoulder_0 2 = true) ∧ (decode dsL_shoulder_0 3 = .ok (.iload_n 1, 1) ∧ okop dsL_shoulder_0 3 = true) ∧ (decode dsL_shoulder_0 4 = .ok (.iload_n 2, 1) ∧ okop dsL_shoulder_0 4 = true) ∧ (decode dsL_shoulder_0 5 = .ok (.invokevirtual 103, 3) ∧ okop dsL_shoulder_0 5 = true) ∧ (decode dsL_shoulder_0 8 = .ok (.i2l, 1) ∧ okop dsL_shoulder_0 8 = true) ∧ (decode dsL_shoulder_0 9 = .ok (.lastore, 1) ∧ okop dsL_shoulder_0 9 = true) ∧ (decode dsL_shoulder_0 10 = .ok (.goto 11, 3) ∧ okop dsL_shoulder_0 10 = true) ∧ (decode dsL_shoulder_0 13 = .ok (.astore 4, 2) ∧ okop dsL_shoulder_0 13 = true) := by decide +kernel
theorem dL_shoulder_0 : decode cL_shoulder 0 = .ok (.aload_n 3, 1) := dgq (p := 0) daL_shoulder_0 dbL_shoulder_0.1
theorem dL_shoulder_1 : decode cL_shoulder 1 = .ok (.iconst 0, 1) := dgq (p := 1) daL_shoulder_0 dbL_shoulder_0.2.1
theorem dL_shoulder_2 : decode cL_shoulder 2 = .ok (.aload_n 0, 1) := dgq (p := 2) daL_shoulder_0 dbL_shoulder_0.2.2.1
theorem dL_shoulder_3 : decode cL_shoulder 3 = .ok (.iload_n 1, 1) := dgq (p := 3) daL_shoulder_0 dbL_shoulder_0.2.2.2.1
theorem dL_shoulder_4 : decode cL_shoulder 4 = .ok (.iload_n 2, 1) := dgq (p := 4) daL_shoulder_0 dbL_shoulder_0.2.2.2.2.1
theorem dL_shoulder_5 : decode cL_shoulder 5 = .ok (.invokevirtual 103, 3) := dgq (p := 5) daL_shoulder_0 dbL_shoulder_0.2.2.2.2.2.1
theorem dL_shoulder_8 : decode cL_shoulder 8 = .ok (.i2l, 1) := dgq (p := 8) daL_shoulder_0 dbL_shoulder_0.2.2.2.2.2.2.1
theorem dL_shoulder_9 : decode cL_shoulder 9 = .ok (.lastore, 1) := dgq (p := 9) daL_shoulder_0 dbL_shoulder_0.2.2.2.2.2.2.2.1
theorem dL_shoulder_10 : decode cL_shoulder 10 = .ok (.goto 11, 3) := dgq (p := 10) daL_shoulder_0 dbL_shoulder_0.2.2.2.2.2.2.2.2.1
theorem dL_shoulder_13 : decode cL_shoulder 13 = .ok (.astore 4, 2) := dgq (p := 13) daL_shoulder_0 dbL_shoulder_0.2.2.2.2.2.2.2.2.2
def dsL_shoulder_15 : ByteArray := ⟨#[4, 172, 58, 4, 5, 172, 3, 172]⟩
theorem daL_shoulder_15 : agB cL_shoulder dsL_shoulder_15 15 := agB_of (n := 8) (by decide +kernel)
theorem dbL_shoulder_15 : (decode dsL_shoulder_15 0 = .ok (.iconst 1, 1) ∧ okop dsL_shoulder_15 0 = true) ∧ (decode dsL_shoulder_15 1 = .ok (.ireturn, 1) ∧ okop dsL_shoulder_15 1 = true) ∧ (decode dsL_shoulder_15 2 = .ok (.astore 4, 2) ∧ okop dsL_shoulder_15 2 = true) ∧ (decode dsL_shoulder_15 4 = .ok (.iconst 2, 1) ∧ okop dsL_shoulder_15 4 = true) ∧ (decode dsL_shoulder_15 5 = .ok (.ireturn, 1) ∧ okop dsL_shoulder_15 5 = true) ∧ (decode dsL_shoulder_15 6 = .ok (.iconst 0, 1) ∧ okop dsL_shoulder_15 6 = true) ∧ (decode dsL_shoulder_15 7 = .ok (.ireturn, 1) ∧ okop dsL_shoulder_15 7 = true) := by decide +kernel
theorem dL_shoulder_15 : decode cL_shoulder 15 = .ok (.iconst 1, 1) := dgq (p := 0) daL_shoulder_15 dbL_shoulder_15.1
theorem dL_shoulder_16 : decode cL_shoulder 16 = .ok (.ireturn, 1) := dgq (p := 1) daL_shoulder_15 dbL_shoulder_15.2.1
theorem dL_shoulder_17 : decode cL_shoulder 17 = .ok (.astore 4, 2) := dgq (p := 2) daL_shoulder_15 dbL_shoulder_15.2.2.1
theorem dL_shoulder_19 : decode cL_shoulder 19 = .ok (.iconst 2, 1) := dgq (p := 4) daL_shoulder_15 dbL_shoulder_15.2.2.2.1
theorem dL_shoulder_20 : decode cL_shoulder 20 = .ok (.ireturn, 1) := dgq (p := 5) daL_shoulder_15 dbL_shoulder_15.2.2.2.2.1
theorem dL_shoulder_21 : decode cL_shoulder 21 = .ok (.iconst 0, 1) := dgq (p := 6) daL_shoulder_15 dbL_shoulder_15.2.2.2.2.2.1
theorem dL_shoulder_22 : decode cL_shoulder 22 = .ok (.ireturn, 1) := dgq (p := 7) daL_shoulder_15 dbL_shoulder_15.2.2.2.2.2.2
set_option maxRecDepth 20000 in
theorem ggL_approach_X9_approach : GoodIn wsL_approach wsX9_approach := goodIn_ca (goodIn_ca (goodIn_ca (goodIn_q _ [6, 7, 8, 9, 5, 10, 11, 12, 13, 14, 15, 16, 17, 18, 19, 20, 21, 22, 23, 24, 25] rfl (by decide +kernel)) (goodIn_sub (fun _ h => (List.mem_cons_of_mem _ (List.mem_append_left _ (List.mem_append_left _ (List.mem_append_left _ (List.mem_append_right _ h)))))) tg_wsX90)) (goodIn_sub (fun _ h => (List.mem_cons_of_mem _ (List.mem_append_left _ (List.mem_append_left _ (List.mem_append_right _ h))))) tg_wsX30)) (goodIn_sub (fun _ h => List.mem_cons_of_mem _ (List.mem_append_right _ h)) (by decide +kernel))
set_option maxRecDepth 20000 in
theorem gL_approach_X9_approach : GoodIn wsL_approach (wsV RL 106 RX9 yX9_approach wsX9_approach) := goodIn_app (goodIn_q _ [2, 3, 4, 5] rfl (by decide +kernel)) ggL_approach_X9_approach
def dsL_approach_0 : ByteArray := ⟨#[44, 3, 42, 27, 182, 0, 106, 133, 80, 167, 0, 6, 78, 4]⟩
theorem daL_approach_0 : agB cL_approach dsL_approach_0 0 := agB_of (n := 14) (by decide +kernel)
theorem dbL_approach_0 : (decode dsL_approach_0 0 = .ok (.aload_n 2, 1) ∧ okop dsL_approach_0 0 = true) ∧ (decode dsL_approach_0 1 = .ok (.iconst 0, 1) ∧ okop dsL_approach_0 1 = true) ∧ (decode dsL_approach_0 2 = .ok (.aload_n 0, 1) ∧ okop dsL_approach_0 2 = true) ∧ (decode dsL_approach_0 3 = .ok (.iload_n 1, 1) ∧ okop dsL_approach_0 3 = true) ∧ (decode dsL_approach_0 4 = .ok (.invokevirtual 106, 3) ∧ okop dsL_approach_0 4 = true) ∧ (decode dsL_approach_0 7 = .ok (.i2l, 1) ∧ okop dsL_approach_0 7 = true) ∧ (decode dsL_approach_0 8 = .ok (.lastore, 1) ∧ okop dsL_approach_0 8 = true) ∧ (decode dsL_approach_0 9 = .ok (.goto 6, 3) ∧ okop dsL_approach_0 9 = true) ∧ (decode dsL_approach_0 12 = .ok (.astore_n 3, 1) ∧ okop dsL_approach_0 12 = true) ∧ (decode dsL_approach_0 13 = .ok (.iconst 1, 1) ∧ okop dsL_approach_0 13 = true) := by decide +kernel
theorem dL_approach_0 : decode cL_approach 0 = .ok (.aload_n 2, 1) := dgq (p := 0) daL_approach_0 dbL_approach_0.1
theorem dL_approach_1 : decode cL_approach 1 = .ok (.iconst 0, 1) := dgq (p := 1) daL_approach_0 dbL_approach_0.2.1
theorem dL_approach_2 : decode cL_approach 2 = .ok (.aload_n 0, 1) := dgq (p := 2) daL_approach_0 dbL_approach_0.2.2.1
theorem dL_approach_3 : decode cL_approach 3 = .ok (.iload_n 1, 1) := dgq (p := 3) daL_approach_0 dbL_approach_0.2.2.2.1
theorem dL_approach_4 : decode cL_approach 4 = .ok (.invokevirtual 106, 3) := dgq (p := 4) daL_approach_0 dbL_approach_0.2.2.2.2.1
theorem dL_approach_7 : decode cL_approach 7 = .ok (.i2l, 1) := dgq (p := 7) daL_approach_0 dbL_approach_0.2.2.2.2.2.1
theorem dL_approach_8 : decode cL_approach 8 = .ok (.lastore, 1) := dgq (p := 8) daL_approach_0 dbL_approach_0.2.2.2.2.2.2.1
theorem dL_approach_9 : decode cL_approach 9 = .ok (.goto 6, 3) := dgq (p := 9) daL_approach_0 dbL_approach_0.2.2.2.2.2.2.2.1
theorem dL_approach_12 : decode cL_approach 12 = .ok (.astore_n 3, 1) := dgq (p := 12) daL_approach_0 dbL_approach_0.2.2.2.2.2.2.2.2.1
theorem dL_approach_13 : decode cL_approach 13 = .ok (.iconst 1, 1) := dgq (p := 13) daL_approach_0 dbL_approach_0.2.2.2.2.2.2.2.2.2
def dsL_approach_14 : ByteArray := ⟨#[172, 3, 172]⟩
theorem daL_approach_14 : agB cL_approach dsL_approach_14 14 := agB_of (n := 3) (by decide +kernel)
theorem dbL_approach_14 : (decode dsL_approach_14 0 = .ok (.ireturn, 1) ∧ okop dsL_approach_14 0 = true) ∧ (decode dsL_approach_14 1 = .ok (.iconst 0, 1) ∧ okop dsL_approach_14 1 = true) ∧ (decode dsL_approach_14 2 = .ok (.ireturn, 1) ∧ okop dsL_approach_14 2 = true) := by decide +kernel
theorem dL_approach_14 : decode cL_approach 14 = .ok (.ireturn, 1) := dgq (p := 0) daL_approach_14 dbL_approach_14.1
theorem dL_approach_15 : decode cL_approach 15 = .ok (.iconst 0, 1) := dgq (p := 1) daL_approach_14 dbL_approach_14.2.1
theorem dL_approach_16 : decode cL_approach 16 = .ok (.ireturn, 1) := dgq (p := 2) daL_approach_14 dbL_approach_14.2.2
set_option maxRecDepth 20000 in
theorem ggL_cut_X9_cut : GoodIn wsL_cut wsX9_cut := goodIn_ca (goodIn_ca (goodIn_ca (goodIn_ca (goodIn_ca (goodIn_ca (goodIn_ca (goodIn_ca (goodIn_q _ [8, 9, 10, 11, 12, 13, 14, 15, 16, 17, 18, 7, 19, 20, 21, 22, 23, 24, 25, 26, 27, 28, 29, 30, 31, 32, 33, 34, 35, 36, 37, 38, 39, 40, 41, 42, 43, 44, 45, 46, 47, 48, 49, 50, 51, 52, 53, 54, 55, 56, 57, 58, 59, 60, 61, 62, 63, 64, 65, 66, 67, 68, 69] rfl (by decide +kernel)) (goodIn_sub (fun _ h => (List.mem_cons_of_mem _ (List.mem_append_left _ (List.mem_append_left _ (List.mem_append_left _ (List.mem_append_left _ (List.mem_append_left _ (List.mem_append_left _ (List.mem_append_left _ (List.mem_append_right _ h)))))))))) tg_wsX20)) (goodIn_sub (fun _ h => (List.mem_cons_of_mem _ (List.mem_append_left _ (List.mem_append_left _ (List.mem_append_left _ (List.mem_append_left _ (List.mem_append_left _ (List.mem_append_left _ (List.mem_append_right _ h))))))))) tg_wsX30)) (goodIn_sub (fun _ h => (List.mem_cons_of_mem _ (List.mem_append_left _ (List.mem_append_left _ (List.mem_append_left _ (List.mem_append_left _ (List.mem_append_left _ (List.mem_append_right _ h)))))))) tg_wsX90)) (goodIn_sub (fun _ h => List.mem_cons_of_mem _ (List.mem_append_left _ (List.mem_append_left _ (List.mem_append_left _ (List.mem_append_right _ h))))) (by decide +kernel))) (goodIn_sub (fun _ h => List.mem_cons_of_mem _ (List.mem_append_left _ (List.mem_append_left _ (List.mem_append_right _ h)))) (by decide +kernel))) (goodIn_sub (fun _ h => List.mem_cons_of_mem _ (List.mem_append_left _ (List.mem_append_left _ (List.mem_append_left _ (List.mem_append_left _ (List.mem_append_right _ h)))))) (by decide +kernel))) (goodIn_sub (fun _ h => List.mem_cons_of_mem _ (List.mem_append_left _ (List.mem_append_right _ h))) (by decide +kernel))) (goodIn_sub (fun _ h => List.mem_cons_of_mem _ (List.mem_append_right _ h)) (by decide +kernel))
set_option maxRecDepth 20000 in
theorem gL_cut_X9_cut : GoodIn wsL_cut (wsV RL 109 RX9 yX9_cut wsX9_cut) := goodIn_app (goodIn_q _ [4, 5, 6, 7] rfl (by decide +kernel)) ggL_cut_X9_cut
def dsL_cut_0 : ByteArray := ⟨#[25, 4, 3, 42, 27, 28, 29, 182, 0, 109, 133, 80, 167, 0, 15]⟩
theorem daL_cut_0 : agB cL_cut dsL_cut_0 0 := agB_of (n := 15) (by decide +kernel)
theorem dbL_cut_0 : (decode dsL_cut_0 0 = .ok (.aload 4, 2) ∧ okop dsL_cut_0 0 = true) ∧ (decode dsL_cut_0 2 = .ok (.iconst 0, 1) ∧ okop dsL_cut_0 2 = true) ∧ (decode dsL_cut_0 3 = .ok (.aload_n 0, 1) ∧ okop dsL_cut_0 3 = true) ∧ (decode dsL_cut_0 4 = .ok (.iload_n 1, 1) ∧ okop dsL_cut_0 4 = true) ∧ (decode dsL_cut_0 5 = .ok (.iload_n 2, 1) ∧ okop dsL_cut_0 5 = true) ∧ (decode dsL_cut_0 6 = .ok (.iload_n 3, 1) ∧ okop dsL_cut_0 6 = true) ∧ (decode dsL_cut_0 7 = .ok (.invokevirtual 109, 3) ∧ okop dsL_cut_0 7 = true) ∧ (decode dsL_cut_0 10 = .ok (.i2l, 1) ∧ okop dsL_cut_0 10 = true) ∧ (decode dsL_cut_0 11 = .ok (.lastore, 1) ∧ okop dsL_cut_0 11 = true) ∧ (decode dsL_cut_0 12 = .ok (.goto 15, 3) ∧ okop dsL_cut_0 12 = true) := by decide +kernel
theorem dL_cut_0 : decode cL_cut 0 = .ok (.aload 4, 2) := dgq (p := 0) daL_cut_0 dbL_cut_0.1
theorem dL_cut_2 : decode cL_cut 2 = .ok (.iconst 0, 1) := dgq (p := 2) daL_cut_0 dbL_cut_0.2.1
theorem dL_cut_3 : decode cL_cut 3 = .ok (.aload_n 0, 1) := dgq (p := 3) daL_cut_0 dbL_cut_0.2.2.1
theorem dL_cut_4 : decode cL_cut 4 = .ok (.iload_n 1, 1) := dgq (p := 4) daL_cut_0 dbL_cut_0.2.2.2.1
theorem dL_cut_5 : decode cL_cut 5 = .ok (.iload_n 2, 1) := dgq (p := 5) daL_cut_0 dbL_cut_0.2.2.2.2.1
theorem dL_cut_6 : decode cL_cut 6 = .ok (.iload_n 3, 1) := dgq (p := 6) daL_cut_0 dbL_cut_0.2.2.2.2.2.1
theorem dL_cut_7 : decode cL_cut 7 = .ok (.invokevirtual 109, 3) := dgq (p := 7) daL_cut_0 dbL_cut_0.2.2.2.2.2.2.1
theorem dL_cut_10 : decode cL_cut 10 = .ok (.i2l, 1) := dgq (p := 10) daL_cut_0 dbL_cut_0.2.2.2.2.2.2.2.1
theorem dL_cut_11 : decode cL_cut 11 = .ok (.lastore, 1) := dgq (p := 11) daL_cut_0 dbL_cut_0.2.2.2.2.2.2.2.2.1
theorem dL_cut_12 : decode cL_cut 12 = .ok (.goto 15, 3) := dgq (p := 12) daL_cut_0 dbL_cut_0.2.2.2.2.2.2.2.2.2
def dsL_cut_15 : ByteArray := ⟨#[58, 5, 4, 172, 58, 5, 5, 172, 58, 5, 6, 172, 3]⟩
theorem daL_cut_15 : agB cL_cut dsL_cut_15 15 := agB_of (n := 13) (by decide +kernel)
theorem dbL_cut_15 : (decode dsL_cut_15 0 = .ok (.astore 5, 2) ∧ okop dsL_cut_15 0 = true) ∧ (decode dsL_cut_15 2 = .ok (.iconst 1, 1) ∧ okop dsL_cut_15 2 = true) ∧ (decode dsL_cut_15 3 = .ok (.ireturn, 1) ∧ okop dsL_cut_15 3 = true) ∧ (decode dsL_cut_15 4 = .ok (.astore 5, 2) ∧ okop dsL_cut_15 4 = true) ∧ (decode dsL_cut_15 6 = .ok (.iconst 2, 1) ∧ okop dsL_cut_15 6 = true) ∧ (decode dsL_cut_15 7 = .ok (.ireturn, 1) ∧ okop dsL_cut_15 7 = true) ∧ (decode dsL_cut_15 8 = .ok (.astore 5, 2) ∧ okop dsL_cut_15 8 = true) ∧ (decode dsL_cut_15 10 = .ok (.iconst 3, 1) ∧ okop dsL_cut_15 10 = true) ∧ (decode dsL_cut_15 11 = .ok (.ireturn, 1) ∧ okop dsL_cut_15 11 = true) ∧ (decode dsL_cut_15 12 = .ok (.iconst 0, 1) ∧ okop dsL_cut_15 12 = true) := by decide +kernel
theorem dL_cut_15 : decode cL_cut 15 = .ok (.astore 5, 2) := dgq (p := 0) daL_cut_15 dbL_cut_15.1
theorem dL_cut_17 : decode cL_cut 17 = .ok (.iconst 1, 1) := dgq (p := 2) daL_cut_15 dbL_cut_15.2.1
theorem dL_cut_18 : decode cL_cut 18 = .ok (.ireturn, 1) := dgq (p := 3) daL_cut_15 dbL_cut_15.2.2.1
theorem dL_cut_19 : decode cL_cut 19 = .ok (.astore 5, 2) := dgq (p := 4) daL_cut_15 dbL_cut_15.2.2.2.1
theorem dL_cut_21 : decode cL_cut 21 = .ok (.iconst 2, 1) := dgq (p := 6) daL_cut_15 dbL_cut_15.2.2.2.2.1
theorem dL_cut_22 : decode cL_cut 22 = .ok (.ireturn, 1) := dgq (p := 7) daL_cut_15 dbL_cut_15.2.2.2.2.2.1
theorem dL_cut_23 : decode cL_cut 23 = .ok (.astore 5, 2) := dgq (p := 8) daL_cut_15 dbL_cut_15.2.2.2.2.2.2.1
theorem dL_cut_25 : decode cL_cut 25 = .ok (.iconst 3, 1) := dgq (p := 10) daL_cut_15 dbL_cut_15.2.2.2.2.2.2.2.1
theorem dL_cut_26 : decode cL_cut 26 = .ok (.ireturn, 1) := dgq (p := 11) daL_cut_15 dbL_cut_15.2.2.2.2.2.2.2.2.1
theorem dL_cut_27 : decode cL_cut 27 = .ok (.iconst 0, 1) := dgq (p := 12) daL_cut_15 dbL_cut_15.2.2.2.2.2.2.2.2.2
theorem dL_cut_28 : decode cL_cut 28 = .ok (.ireturn, 1) := by decide +kernel
set_option maxRecDepth 20000 in
theorem ggL_wear_X9_wear : GoodIn wsL_wear wsX9_wear := goodIn_ca (goodIn_ca (goodIn_ca (goodIn_ca (goodIn_q _ [6, 7, 8, 9, 10, 11, 12, 5, 13, 14, 15] rfl (by decide +kernel)) (goodIn_sub (fun _ h => (List.mem_cons_of_mem _ (List.mem_append_left _ (List.mem_append_left _ (List.mem_append_left _ (List.mem_append_right _ h)))))) tg_wsX30)) (goodIn_sub (fun _ h => (List.mem_cons_of_mem _ (List.mem_append_left _ (List.mem_append_left _ (List.mem_append_right _ h))))) tg_wsX90)) (goodIn_sub (fun _ h => List.mem_cons_of_mem _ (List.mem_append_right _ h)) (by decide +kernel))) (goodIn_sub (fun _ h => List.mem_cons_of_mem _ (List.mem_append_left _ (List.mem_append_right _ h))) (by decide +kernel))
set_option maxRecDepth 20000 in
theorem gL_wear_X9_wear : GoodIn wsL_wear (wsV RL 112 RX9 yX9_wear wsX9_wear) := goodIn_app (goodIn_q _ [2, 3, 4, 5] rfl (by decide +kernel)) ggL_wear_X9_wear
def dsL_wear_0 : ByteArray := ⟨#[45, 3, 42, 27, 28, 182, 0, 112, 133, 80, 167, 0, 7, 58, 4]⟩
theorem daL_wear_0 : agB cL_wear dsL_wear_0 0 := agB_of (n := 15) (by decide +kernel)
theorem dbL_wear_0 : (decode dsL_wear_0 0 = .ok (.aload_n 3, 1) ∧ okop dsL_wear_0 0 = true) ∧ (decode dsL_wear_0 1 = .ok (.iconst 0, 1) ∧ okop dsL_wear_0 1 = true) ∧ (decode dsL_wear_0 2 = .ok (.aload_n 0, 1) ∧ okop dsL_wear_0 2 = true) ∧ (decode dsL_wear_0 3 = .ok (.iload_n 1, 1) ∧ okop dsL_wear_0 3 = true) ∧ (decode dsL_wear_0 4 = .ok (.iload_n 2, 1) ∧ okop dsL_wear_0 4 = true) ∧ (decode dsL_wear_0 5 = .ok (.invokevirtual 112, 3) ∧ okop dsL_wear_0 5 = true) ∧ (decode dsL_wear_0 8 = .ok (.i2l, 1) ∧ okop dsL_wear_0 8 = true) ∧ (decode dsL_wear_0 9 = .ok (.lastore, 1) ∧ okop dsL_wear_0 9 = true) ∧ (decode dsL_wear_0 10 = .ok (.goto 7, 3) ∧ okop dsL_wear_0 10 = true) ∧ (decode dsL_wear_0 13 = .ok (.astore 4, 2) ∧ okop dsL_wear_0 13 = true) := by decide +kernel
theorem dL_wear_0 : decode cL_wear 0 = .ok (.aload_n 3, 1) := dgq (p := 0) daL_wear_0 dbL_wear_0.1
theorem dL_wear_1 : decode cL_wear 1 = .ok (.iconst 0, 1) := dgq (p := 1) daL_wear_0 dbL_wear_0.2.1
theorem dL_wear_2 : decode cL_wear 2 = .ok (.aload_n 0, 1) := dgq (p := 2) daL_wear_0 dbL_wear_0.2.2.1
theorem dL_wear_3 : decode cL_wear 3 = .ok (.iload_n 1, 1) := dgq (p := 3) daL_wear_0 dbL_wear_0.2.2.2.1
theorem dL_wear_4 : decode cL_wear 4 = .ok (.iload_n 2, 1) := dgq (p := 4) daL_wear_0 dbL_wear_0.2.2.2.2.1
theorem dL_wear_5 : decode cL_wear 5 = .ok (.invokevirtual 112, 3) := dgq (p := 5) daL_wear_0 dbL_wear_0.2.2.2.2.2.1
theorem dL_wear_8 : decode cL_wear 8 = .ok (.i2l, 1) := dgq (p := 8) daL_wear_0 dbL_wear_0.2.2.2.2.2.2.1
theorem dL_wear_9 : decode cL_wear 9 = .ok (.lastore, 1) := dgq (p := 9) daL_wear_0 dbL_wear_0.2.2.2.2.2.2.2.1
theorem dL_wear_10 : decode cL_wear 10 = .ok (.goto 7, 3) := dgq (p := 10) daL_wear_0 dbL_wear_0.2.2.2.2.2.2.2.2.1
theorem dL_wear_13 : decode cL_wear 13 = .ok (.astore 4, 2) := dgq (p := 13) daL_wear_0 dbL_wear_0.2.2.2.2.2.2.2.2.2
def dsL_wear_15 : ByteArray := ⟨#[4, 172, 3, 172]⟩
theorem daL_wear_15 : agB cL_wear dsL_wear_15 15 := agB_of (n := 4) (by decide +kernel)
theorem dbL_wear_15 : (decode dsL_wear_15 0 = .ok (.iconst 1, 1) ∧ okop dsL_wear_15 0 = true) ∧ (decode dsL_wear_15 1 = .ok (.ireturn, 1) ∧ okop dsL_wear_15 1 = true) ∧ (decode dsL_wear_15 2 = .ok (.iconst 0, 1) ∧ okop dsL_wear_15 2 = true) ∧ (decode dsL_wear_15 3 = .ok (.ireturn, 1) ∧ okop dsL_wear_15 3 = true) := by decide +kernel
theorem dL_wear_15 : decode cL_wear 15 = .ok (.iconst 1, 1) := dgq (p := 0) daL_wear_15 dbL_wear_15.1
theorem dL_wear_16 : decode cL_wear 16 = .ok (.ireturn, 1) := dgq (p := 1) daL_wear_15 dbL_wear_15.2.1
theorem dL_wear_17 : decode cL_wear 17 = .ok (.iconst 0, 1) := dgq (p := 2) daL_wear_15 dbL_wear_15.2.2.1
theorem dL_wear_18 : decode cL_wear 18 = .ok (.ireturn, 1) := dgq (p := 3) daL_wear_15 dbL_wear_15.2.2.2
set_option maxRecDepth 20000 in
theorem ggL_regrind_X9_regrind : GoodIn wsL_regrind wsX9_regrind := goodIn_ca (goodIn_ca (goodIn_ca (goodIn_ca (goodIn_ca (goodIn_q _ [7, 8, 9, 10, 11, 12, 6, 13, 14, 15, 16, 17, 18, 19, 20, 21, 22, 23, 24, 25, 26, 27, 28, 29, 30] rfl (by decide +kernel)) (goodIn_sub (fun _ h => (List.mem_cons_of_mem _ (List.mem_append_left _ (List.mem_append_left _ (List.mem_append_left _ (List.mem_append_left _ (List.mem_append_right _ h))))))) tg_wsX30)) (goodIn_sub (fun _ h => (List.mem_cons_of_mem _ (List.mem_append_left _ (List.mem_append_left _ (List.mem_append_left _ (List.mem_append_right _ h)))))) tg_wsX90)) (goodIn_sub (fun _ h => List.mem_cons_of_mem _ (List.mem_append_left _ (List.mem_append_right _ h))) (by decide +kernel))) (goodIn_sub (fun _ h => List.mem_cons_of_mem _ (List.mem_append_right _ h)) (by decide +kernel))) (goodIn_sub (fun _ h => List.mem_cons_of_mem _ (List.mem_append_left _ (List.mem_append_left _ (List.mem_append_right _ h)))) (by decide +kernel))
set_option maxRecDepth 20000 in
theorem gL_regrind_X9_regrind : GoodIn wsL_regrind (wsV RL 115 RX9 yX9_regrind wsX9_regrind) := goodIn_app (goodIn_q _ [3, 4, 5, 6] rfl (by decide +kernel)) ggL_regrind_X9_regrind
def dsL_regrind_0 : ByteArray := ⟨#[44, 3, 42, 27, 182, 0, 115, 133, 80, 167, 0, 9, 78, 4]⟩
theorem daL_regrind_0 : agB cL_regrind dsL_regrind_0 0 := agB_of (n := 14) (by decide +kernel)
theorem dbL_regrind_0 : (decode dsL_regrind_0 0 = .ok (.aload_n 2, 1) ∧ okop dsL_regrind_0 0 = true) ∧ (decode dsL_regrind_0 1 = .ok (.iconst 0, 1) ∧ okop dsL_regrind_0 1 = true) ∧ (decode dsL_regrind_0 2 = .ok (.aload_n 0, 1) ∧ okop dsL_regrind_0 2 = true) ∧ (decode dsL_regrind_0 3 = .ok (.iload_n 1, 1) ∧ okop dsL_regrind_0 3 = true) ∧ (decode dsL_regrind_0 4 = .ok (.invokevirtual 115, 3) ∧ okop dsL_regrind_0 4 = true) ∧ (decode dsL_regrind_0 7 = .ok (.i2l, 1) ∧ okop dsL_regrind_0 7 = true) ∧ (decode dsL_regrind_0 8 = .ok (.lastore, 1) ∧ okop dsL_regrind_0 8 = true) ∧ (decode dsL_regrind_0 9 = .ok (.goto 9, 3) ∧ okop dsL_regrind_0 9 = true) ∧ (decode dsL_regrind_0 12 = .ok (.astore_n 3, 1) ∧ okop dsL_regrind_0 12 = true) ∧ (decode dsL_regrind_0 13 = .ok (.iconst 1, 1) ∧ okop dsL_regrind_0 13 = true) := by decide +kernel
theorem dL_regrind_0 : decode cL_regrind 0 = .ok (.aload_n 2, 1) := dgq (p := 0) daL_regrind_0 dbL_regrind_0.1
theorem dL_regrind_1 : decode cL_regrind 1 = .ok (.iconst 0, 1) := dgq (p := 1) daL_regrind_0 dbL_regrind_0.2.1
theorem dL_regrind_2 : decode cL_regrind 2 = .ok (.aload_n 0, 1) := dgq (p := 2) daL_regrind_0 dbL_regrind_0.2.2.1
theorem dL_regrind_3 : decode cL_regrind 3 = .ok (.iload_n 1, 1) := dgq (p := 3) daL_regrind_0 dbL_regrind_0.2.2.2.1
theorem dL_regrind_4 : decode cL_regrind 4 = .ok (.invokevirtual 115, 3) := dgq (p := 4) daL_regrind_0 dbL_regrind_0.2.2.2.2.1
theorem dL_regrind_7 : decode cL_regrind 7 = .ok (.i2l, 1) := dgq (p := 7) daL_regrind_0 dbL_regrind_0.2.2.2.2.2.1
theorem dL_regrind_8 : decode cL_regrind 8 = .ok (.lastore, 1) := dgq (p := 8) daL_regrind_0 dbL_regrind_0.2.2.2.2.2.2.1
theorem dL_regrind_9 : decode cL_regrind 9 = .ok (.goto 9, 3) := dgq (p := 9) daL_regrind_0 dbL_regrind_0.2.2.2.2.2.2.2.1
theorem dL_regrind_12 : decode cL_regrind 12 = .ok (.astore_n 3, 1) := dgq (p := 12) daL_regrind_0 dbL_regrind_0.2.2.2.2.2.2.2.2.1
theorem dL_regrind_13 : decode cL_regrind 13 = .ok (.iconst 1, 1) := dgq (p := 13) daL_regrind_0 dbL_regrind_0.2.2.2.2.2.2.2.2.2
def dsL_regrind_14 : ByteArray := ⟨#[172, 78, 5, 172, 3, 172]⟩
theorem daL_regrind_14 : agB cL_regrind dsL_regrind_14 14 := agB_of (n := 6) (by decide +kernel)
theorem dbL_regrind_14 : (decode dsL_regrind_14 0 = .ok (.ireturn, 1) ∧ okop dsL_regrind_14 0 = true) ∧ (decode dsL_regrind_14 1 = .ok (.astore_n 3, 1) ∧ okop dsL_regrind_14 1 = true) ∧ (decode dsL_regrind_14 2 = .ok (.iconst 2, 1) ∧ okop dsL_regrind_14 2 = true) ∧ (decode dsL_regrind_14 3 = .ok (.ireturn, 1) ∧ okop dsL_regrind_14 3 = true) ∧ (decode dsL_regrind_14 4 = .ok (.iconst 0, 1) ∧ okop dsL_regrind_14 4 = true) ∧ (decode dsL_regrind_14 5 = .ok (.ireturn, 1) ∧ okop dsL_regrind_14 5 = true) := by decide +kernel
theorem dL_regrind_14 : decode cL_regrind 14 = .ok (.ireturn, 1) := dgq (p := 0) daL_regrind_14 dbL_regrind_14.1
theorem dL_regrind_15 : decode cL_regrind 15 = .ok (.astore_n 3, 1) := dgq (p := 1) daL_regrind_14 dbL_regrind_14.2.1
theorem dL_regrind_16 : decode cL_regrind 16 = .ok (.iconst 2, 1) := dgq (p := 2) daL_regrind_14 dbL_regrind_14.2.2.1
theorem dL_regrind_17 : decode cL_regrind 17 = .ok (.ireturn, 1) := dgq (p := 3) daL_regrind_14 dbL_regrind_14.2.2.2.1
theorem dL_regrind_18 : decode cL_regrind 18 = .ok (.iconst 0, 1) := dgq (p := 4) daL_regrind_14 dbL_regrind_14.2.2.2.2.1
theorem dL_regrind_19 : decode cL_regrind 19 = .ok (.ireturn, 1) := dgq (p := 5) daL_regrind_14 dbL_regrind_14.2.2.2.2.2
set_option maxRecDepth 20000 in
theorem ggL_inStep_X9_inStep : GoodIn wsL_inStep wsX9_inStep := goodIn_ca (goodIn_ca (goodIn_q _ [6, 7, 8, 9, 5, 10, 11, 12, 13, 14, 15, 16, 17, 18, 19, 20, 21, 22, 23, 24, 25] rfl (by decide +kernel)) (goodIn_sub (fun _ h => List.mem_cons_of_mem _ (List.mem_append_left _ (List.mem_append_right _ h))) (by decide +kernel))) (goodIn_sub (fun _ h => List.mem_cons_of_mem _ (List.mem_append_right _ h)) (by decide +kernel))
set_option maxRecDepth 20000 in
theorem gL_inStep_X9_inStep : GoodIn wsL_inStep (wsV RL 118 RX9 yX9_inStep wsX9_inStep) := goodIn_app (goodIn_q _ [2, 3, 4, 5] rfl (by decide +kernel)) ggL_inStep_X9_inStep
def dsL_inStep_0 : ByteArray := ⟨#[25, 5, 3, 42, 27, 28, 29, 21, 4, 182, 0, 118, 153, 0, 7, 10]⟩
theorem daL_inStep_0 : agB cL_inStep dsL_inStep_0 0 := agB_of (n := 16) (by decide +kernel)
theorem dbL_inStep_0 : (decode dsL_inStep_0 0 = .ok (.aload 5, 2) ∧ okop dsL_inStep_0 0 = true) ∧ (decode dsL_inStep_0 2 = .ok (.iconst 0, 1) ∧ okop dsL_inStep_0 2 = true) ∧ (decode dsL_inStep_0 3 = .ok (.aload_n 0, 1) ∧ okop dsL_inStep_0 3 = true) ∧ (decode dsL_inStep_0 4 = .ok (.iload_n 1, 1) ∧ okop dsL_inStep_0 4 = true) ∧ (decode dsL_inStep_0 5 = .ok (.iload_n 2, 1) ∧ okop dsL_inStep_0 5 = true) ∧ (decode dsL_inStep_0 6 = .ok (.iload_n 3, 1) ∧ okop dsL_inStep_0 6 = true) ∧ (decode dsL_inStep_0 7 = .ok (.iload 4, 2) ∧ okop dsL_inStep_0 7 = true) ∧ (decode dsL_inStep_0 9 = .ok (.invokevirtual 118, 3) ∧ okop dsL_inStep_0 9 = true) ∧ (decode dsL_inStep_0 12 = .ok (.ifCond .eq 7, 3) ∧ okop dsL_inStep_0 12 = true) ∧ (decode dsL_inStep_0 15 = .ok (.lconst 1, 1) ∧ okop dsL_inStep_0 15 = true) := by decide +kernel
theorem dL_inStep_0 : decode cL_inStep 0 = .ok (.aload 5, 2) := dgq (p := 0) daL_inStep_0 dbL_inStep_0.1
theorem dL_inStep_2 : decode cL_inStep 2 = .ok (.iconst 0, 1) := dgq (p := 2) daL_inStep_0 dbL_inStep_0.2.1
theorem dL_inStep_3 : decode cL_inStep 3 = .ok (.aload_n 0, 1) := dgq (p := 3) daL_inStep_0 dbL_inStep_0.2.2.1
theorem dL_inStep_4 : decode cL_inStep 4 = .ok (.iload_n 1, 1) := dgq (p := 4) daL_inStep_0 dbL_inStep_0.2.2.2.1
theorem dL_inStep_5 : decode cL_inStep 5 = .ok (.iload_n 2, 1) := dgq (p := 5) daL_inStep_0 dbL_inStep_0.2.2.2.2.1
theorem dL_inStep_6 : decode cL_inStep 6 = .ok (.iload_n 3, 1) := dgq (p := 6) daL_inStep_0 dbL_inStep_0.2.2.2.2.2.1
theorem dL_inStep_7 : decode cL_inStep 7 = .ok (.iload 4, 2) := dgq (p := 7) daL_inStep_0 dbL_inStep_0.2.2.2.2.2.2.1
theorem dL_inStep_9 : decode cL_inStep 9 = .ok (.invokevirtual 118, 3) := dgq (p := 9) daL_inStep_0 dbL_inStep_0.2.2.2.2.2.2.2.1
theorem dL_inStep_12 : decode cL_inStep 12 = .ok (.ifCond .eq 7, 3) := dgq (p := 12) daL_inStep_0 dbL_inStep_0.2.2.2.2.2.2.2.2.1
theorem dL_inStep_15 : decode cL_inStep 15 = .ok (.lconst 1, 1) := dgq (p := 15) daL_inStep_0 dbL_inStep_0.2.2.2.2.2.2.2.2.2
def dsL_inStep_16 : ByteArray := ⟨#[167, 0, 4, 9, 80, 167, 0, 7, 58, 6, 4, 172, 3, 172]⟩
theorem daL_inStep_16 : agB cL_inStep dsL_inStep_16 16 := agB_of (n := 14) (by decide +kernel)
theorem dbL_inStep_16 : (decode dsL_inStep_16 0 = .ok (.goto 4, 3) ∧ okop dsL_inStep_16 0 = true) ∧ (decode dsL_inStep_16 3 = .ok (.lconst 0, 1) ∧ okop dsL_inStep_16 3 = true) ∧ (decode dsL_inStep_16 4 = .ok (.lastore, 1) ∧ okop dsL_inStep_16 4 = true) ∧ (decode dsL_inStep_16 5 = .ok (.goto 7, 3) ∧ okop dsL_inStep_16 5 = true) ∧ (decode dsL_inStep_16 8 = .ok (.astore 6, 2) ∧ okop dsL_inStep_16 8 = true) ∧ (decode dsL_inStep_16 10 = .ok (.iconst 1, 1) ∧ okop dsL_inStep_16 10 = true) ∧ (decode dsL_inStep_16 11 = .ok (.ireturn, 1) ∧ okop dsL_inStep_16 11 = true) ∧ (decode dsL_inStep_16 12 = .ok (.iconst 0, 1) ∧ okop dsL_inStep_16 12 = true) ∧ (decode dsL_inStep_16 13 = .ok (.ireturn, 1) ∧ okop dsL_inStep_16 13 = true) := by decide +kernel
theorem dL_inStep_16 : decode cL_inStep 16 = .ok (.goto 4, 3) := dgq (p := 0) daL_inStep_16 dbL_inStep_16.1
theorem dL_inStep_19 : decode cL_inStep 19 = .ok (.lconst 0, 1) := dgq (p := 3) daL_inStep_16 dbL_inStep_16.2.1
theorem dL_inStep_20 : decode cL_inStep 20 = .ok (.lastore, 1) := dgq (p := 4) daL_inStep_16 dbL_inStep_16.2.2.1
theorem dL_inStep_21 : decode cL_inStep 21 = .ok (.goto 7, 3) := dgq (p := 5) daL_inStep_16 dbL_inStep_16.2.2.2.1
theorem dL_inStep_24 : decode cL_inStep 24 = .ok (.astore 6, 2) := dgq (p := 8) daL_inStep_16 dbL_inStep_16.2.2.2.2.1
theorem dL_inStep_26 : decode cL_inStep 26 = .ok (.iconst 1, 1) := dgq (p := 10) daL_inStep_16 dbL_inStep_16.2.2.2.2.2.1
theorem dL_inStep_27 : decode cL_inStep 27 = .ok (.ireturn, 1) := dgq (p := 11) daL_inStep_16 dbL_inStep_16.2.2.2.2.2.2.1
theorem dL_inStep_28 : decode cL_inStep 28 = .ok (.iconst 0, 1) := dgq (p := 12) daL_inStep_16 dbL_inStep_16.2.2.2.2.2.2.2.1
theorem dL_inStep_29 : decode cL_inStep 29 = .ok (.ireturn, 1) := dgq (p := 13) daL_inStep_16 dbL_inStep_16.2.2.2.2.2.2.2.2
set_option maxRecDepth 20000 in
theorem ggL_clock_X9_clock : GoodIn wsL_clock wsX9_clock := goodIn_ca (goodIn_q _ [6, 7, 8, 5, 9, 10, 11, 12, 13, 14, 15, 16, 17, 18] rfl (by decide +kernel)) (goodIn_sub (fun _ h => List.mem_cons_of_mem _ (List.mem_append_right _ h)) (by decide +kernel))
set_option maxRecDepth 20000 in
theorem gL_clock_X9_clock : GoodIn wsL_clock (wsV RL 122 RX9 yX9_clock wsX9_clock) := goodIn_app (goodIn_q _ [2, 3, 4, 5] rfl (by decide +kernel)) ggL_clock_X9_clock
def dsL_clock_0 : ByteArray := ⟨#[25, 4, 3, 42, 27, 28, 29, 182, 0, 122, 133, 80, 167, 0, 7]⟩
theorem daL_clock_0 : agB cL_clock dsL_clock_0 0 := agB_of (n := 15) (by decide +kernel)
theorem dbL_clock_0 : (decode dsL_clock_0 0 = .ok (.aload 4, 2) ∧ okop dsL_clock_0 0 = true) ∧ (decode dsL_clock_0 2 = .ok (.iconst 0, 1) ∧ okop dsL_clock_0 2 = true) ∧ (decode dsL_clock_0 3 = .ok (.aload_n 0, 1) ∧ okop dsL_clock_0 3 = true) ∧ (decode dsL_clock_0 4 = .ok (.iload_n 1, 1) ∧ okop dsL_clock_0 4 = true) ∧ (decode dsL_clock_0 5 = .ok (.iload_n 2, 1) ∧ okop dsL_clock_0 5 = true) ∧ (decode dsL_clock_0 6 = .ok (.iload_n 3, 1) ∧ okop dsL_clock_0 6 = true) ∧ (decode dsL_clock_0 7 = .ok (.invokevirtual 122, 3) ∧ okop dsL_clock_0 7 = true) ∧ (decode dsL_clock_0 10 = .ok (.i2l, 1) ∧ okop dsL_clock_0 10 = true) ∧ (decode dsL_clock_0 11 = .ok (.lastore, 1) ∧ okop dsL_clock_0 11 = true) ∧ (decode dsL_clock_0 12 = .ok (.goto 7, 3) ∧ okop dsL_clock_0 12 = true) := by decide +kernel
theorem dL_clock_0 : decode cL_clock 0 = .ok (.aload 4, 2) := dgq (p := 0) daL_clock_0 dbL_clock_0.1
theorem dL_clock_2 : decode cL_clock 2 = .ok (.iconst 0, 1) := dgq (p := 2) daL_clock_0 dbL_clock_0.2.1
theorem dL_clock_3 : decode cL_clock 3 = .ok (.aload_n 0, 1) := dgq (p := 3) daL_clock_0 dbL_clock_0.2.2.1
theorem dL_clock_4 : decode cL_clock 4 = .ok (.iload_n 1, 1) := dgq (p := 4) daL_clock_0 dbL_clock_0.2.2.2.1
theorem dL_clock_5 : decode cL_clock 5 = .ok (.iload_n 2, 1) := dgq (p := 5) daL_clock_0 dbL_clock_0.2.2.2.2.1
theorem dL_clock_6 : decode cL_clock 6 = .ok (.iload_n 3, 1) := dgq (p := 6) daL_clock_0 dbL_clock_0.2.2.2.2.2.1
theorem dL_clock_7 : decode cL_clock 7 = .ok (.invokevirtual 122, 3) := dgq (p := 7) daL_clock_0 dbL_clock_0.2.2.2.2.2.2.1
theorem dL_clock_10 : decode cL_clock 10 = .ok (.i2l, 1) := dgq (p := 10) daL_clock_0 dbL_clock_0.2.2.2.2.2.2.2.1
theorem dL_clock_11 : decode cL_clock 11 = .ok (.lastore, 1) := dgq (p := 11) daL_clock_0 dbL_clock_0.2.2.2.2.2.2.2.2.1
theorem dL_clock_12 : decode cL_clock 12 = .ok (.goto 7, 3) := dgq (p := 12) daL_clock_0 dbL_clock_0.2.2.2.2.2.2.2.2.2
def dsL_clock_15 : ByteArray := ⟨#[58, 5, 4, 172, 3, 172]⟩
theorem daL_clock_15 : agB cL_clock dsL_clock_15 15 := agB_of (n := 6) (by decide +kernel)
theorem dbL_clock_15 : (decode dsL_clock_15 0 = .ok (.astore 5, 2) ∧ okop dsL_clock_15 0 = true) ∧ (decode dsL_clock_15 2 = .ok (.iconst 1, 1) ∧ okop dsL_clock_15 2 = true) ∧ (decode dsL_clock_15 3 = .ok (.ireturn, 1) ∧ okop dsL_clock_15 3 = true) ∧ (decode dsL_clock_15 4 = .ok (.iconst 0, 1) ∧ okop dsL_clock_15 4 = true) ∧ (decode dsL_clock_15 5 = .ok (.ireturn, 1) ∧ okop dsL_clock_15 5 = true) := by decide +kernel
theorem dL_clock_15 : decode cL_clock 15 = .ok (.astore 5, 2) := dgq (p := 0) daL_clock_15 dbL_clock_15.1
theorem dL_clock_17 : decode cL_clock 17 = .ok (.iconst 1, 1) := dgq (p := 2) daL_clock_15 dbL_clock_15.2.1
theorem dL_clock_18 : decode cL_clock 18 = .ok (.ireturn, 1) := dgq (p := 3) daL_clock_15 dbL_clock_15.2.2.1
theorem dL_clock_19 : decode cL_clock 19 = .ok (.iconst 0, 1) := dgq (p := 4) daL_clock_15 dbL_clock_15.2.2.2.1
theorem dL_clock_20 : decode cL_clock 20 = .ok (.ireturn, 1) := dgq (p := 5) daL_clock_15 dbL_clock_15.2.2.2.2
set_option maxRecDepth 20000 in
theorem ggL_harden_X9_harden : GoodIn wsL_harden wsX9_harden := goodIn_ca (goodIn_ca (goodIn_ca (goodIn_ca (goodIn_ca (goodIn_ca (goodIn_q _ [8, 9, 10, 11, 12, 7, 13, 14, 15, 16, 17, 18, 19, 20, 21, 22, 23, 24, 25, 26, 27, 28, 29, 30, 31, 32, 33, 34, 35, 36, 37, 38, 39, 40, 41, 42, 43, 44, 45, 46, 47, 48, 49, 50, 51, 52, 53, 54, 55, 56, 57, 58, 59, 60, 61] rfl (by decide +kernel)) (goodIn_sub (fun _ h => (List.mem_cons_of_mem _ (List.mem_append_left _ (List.mem_append_left _ (List.mem_append_left _ (List.mem_append_left _ (List.mem_append_left _ (List.mem_append_left _ (List.mem_append_right _ h))))))))) tg_wsX20)) (goodIn_sub (fun _ h => (List.mem_cons_of_mem _ (List.mem_append_left _ (List.mem_append_left _ (List.mem_append_left _ (List.mem_append_left _ (List.mem_append_left _ (List.mem_append_right _ h)))))))) tg_wsX90)) (goodIn_sub (fun _ h => List.mem_cons_of_mem _ (List.mem_append_left _ (List.mem_append_left _ (List.mem_append_left _ (List.mem_append_right _ h))))) (by decide +kernel))) (goodIn_sub (fun _ h => List.mem_cons_of_mem _ (List.mem_append_left _ (List.mem_append_left _ (List.mem_append_right _ h)))) (by decide +kernel))) (goodIn_sub (fun _ h => List.mem_cons_of_mem _ (List.mem_append_left _ (List.mem_append_right _ h))) (by decide +kernel))) (goodIn_sub (fun _ h => List.mem_cons_of_mem _ (List.mem_append_right _ h)) (by decide +kernel))
set_option maxRecDepth 20000 in
theorem gL_harden_X9_harden : GoodIn wsL_harden (wsV RL 125 RX9 yX9_harden wsX9_harden) := goodIn_app (goodIn_q _ [4, 5, 6, 7] rfl (by decide +kernel)) ggL_harden_X9_harden
def dsL_harden_0 : ByteArray := ⟨#[25, 4, 3, 42, 27, 28, 29, 182, 0, 125, 133, 80, 167, 0, 15]⟩
theorem daL_harden_0 : agB cL_harden dsL_harden_0 0 := agB_of (n := 15) (by decide +kernel)
theorem dbL_harden_0 : (decode dsL_harden_0 0 = .ok (.aload 4, 2) ∧ okop dsL_harden_0 0 = true) ∧ (decode dsL_harden_0 2 = .ok (.iconst 0, 1) ∧ okop dsL_harden_0 2 = true) ∧ (decode dsL_harden_0 3 = .ok (.aload_n 0, 1) ∧ okop dsL_harden_0 3 = true) ∧ (decode dsL_harden_0 4 = .ok (.iload_n 1, 1) ∧ okop dsL_harden_0 4 = true) ∧ (decode dsL_harden_0 5 = .ok (.iload_n 2, 1) ∧ okop dsL_harden_0 5 = true) ∧ (decode dsL_harden_0 6 = .ok (.iload_n 3, 1) ∧ okop dsL_harden_0 6 = true) ∧ (decode dsL_harden_0 7 = .ok (.invokevirtual 125, 3) ∧ okop dsL_harden_0 7 = true) ∧ (decode dsL_harden_0 10 = .ok (.i2l, 1) ∧ okop dsL_harden_0 10 = true) ∧ (decode dsL_harden_0 11 = .ok (.lastore, 1) ∧ okop dsL_harden_0 11 = true) ∧ (decode dsL_harden_0 12 = .ok (.goto 15, 3) ∧ okop dsL_harden_0 12 = true) := by decide +kernel
theorem dL_harden_0 : decode cL_harden 0 = .ok (.aload 4, 2) := dgq (p := 0) daL_harden_0 dbL_harden_0.1
theorem dL_harden_2 : decode cL_harden 2 = .ok (.iconst 0, 1) := dgq (p := 2) daL_harden_0 dbL_harden_0.2.1
theorem dL_harden_3 : decode cL_harden 3 = .ok (.aload_n 0, 1) := dgq (p := 3) daL_harden_0 dbL_harden_0.2.2.1
theorem dL_harden_4 : decode cL_harden 4 = .ok (.iload_n 1, 1) := dgq (p := 4) daL_harden_0 dbL_harden_0.2.2.2.1
theorem dL_harden_5 : decode cL_harden 5 = .ok (.iload_n 2, 1) := dgq (p := 5) daL_harden_0 dbL_harden_0.2.2.2.2.1
theorem dL_harden_6 : decode cL_harden 6 = .ok (.iload_n 3, 1) := dgq (p := 6) daL_harden_0 dbL_harden_0.2.2.2.2.2.1
theorem dL_harden_7 : decode cL_harden 7 = .ok (.invokevirtual 125, 3) := dgq (p := 7) daL_harden_0 dbL_harden_0.2.2.2.2.2.2.1
theorem dL_harden_10 : decode cL_harden 10 = .ok (.i2l, 1) := dgq (p := 10) daL_harden_0 dbL_harden_0.2.2.2.2.2.2.2.1
theorem dL_harden_11 : decode cL_harden 11 = .ok (.lastore, 1) := dgq (p := 11) daL_harden_0 dbL_harden_0.2.2.2.2.2.2.2.2.1
theorem dL_harden_12 : decode cL_harden 12 = .ok (.goto 15, 3) := dgq (p := 12) daL_harden_0 dbL_harden_0.2.2.2.2.2.2.2.2.2
def dsL_harden_15 : ByteArray := ⟨#[58, 5, 4, 172, 58, 5, 5, 172, 58, 5, 6, 172, 3]⟩
theorem daL_harden_15 : agB cL_harden dsL_harden_15 15 := agB_of (n := 13) (by decide +kernel)
theorem dbL_harden_15 : (decode dsL_harden_15 0 = .ok (.astore 5, 2) ∧ okop dsL_harden_15 0 = true) ∧ (decode dsL_harden_15 2 = .ok (.iconst 1, 1) ∧ okop dsL_harden_15 2 = true) ∧ (decode dsL_harden_15 3 = .ok (.ireturn, 1) ∧ okop dsL_harden_15 3 = true) ∧ (decode dsL_harden_15 4 = .ok (.astore 5, 2) ∧ okop dsL_harden_15 4 = true) ∧ (decode dsL_harden_15 6 = .ok (.iconst 2, 1) ∧ okop dsL_harden_15 6 = true) ∧ (decode dsL_harden_15 7 = .ok (.ireturn, 1) ∧ okop dsL_harden_15 7 = true) ∧ (decode dsL_harden_15 8 = .ok (.astore 5, 2) ∧ okop dsL_harden_15 8 = true) ∧ (decode dsL_harden_15 10 = .ok (.iconst 3, 1) ∧ okop dsL_harden_15 10 = true) ∧ (decode dsL_harden_15 11 = .ok (.ireturn, 1) ∧ okop dsL_harden_15 11 = true) ∧ (decode dsL_harden_15 12 = .ok (.iconst 0, 1) ∧ okop dsL_harden_15 12 = true) := by decide +kernel
theorem dL_harden_15 : decode cL_harden 15 = .ok (.astore 5, 2) := dgq (p := 0) daL_harden_15 dbL_harden_15.1
theorem dL_harden_17 : decode cL_harden 17 = .ok (.iconst 1, 1) := dgq (p := 2) daL_harden_15 dbL_harden_15.2.1
theorem dL_harden_18 : decode cL_harden 18 = .ok (.ireturn, 1) := dgq (p := 3) daL_harden_15 dbL_harden_15.2.2.1
theorem dL_harden_19 : decode cL_harden 19 = .ok (.astore 5, 2) := dgq (p := 4) daL_harden_15 dbL_harden_15.2.2.2.1
theorem dL_harden_21 : decode cL_harden 21 = .ok (.iconst 2, 1) := dgq (p := 6) daL_harden_15 dbL_harden_15.2.2.2.2.1
theorem dL_harden_22 : decode cL_harden 22 = .ok (.ireturn, 1) := dgq (p := 7) daL_harden_15 dbL_harden_15.2.2.2.2.2.1
theorem dL_harden_23 : decode cL_harden 23 = .ok (.astore 5, 2) := dgq (p := 8) daL_harden_15 dbL_harden_15.2.2.2.2.2.2.1
theorem dL_harden_25 : decode cL_harden 25 = .ok (.iconst 3, 1) := dgq (p := 10) daL_harden_15 dbL_harden_15.2.2.2.2.2.2.2.1
theorem dL_harden_26 : decode cL_harden 26 = .ok (.ireturn, 1) := dgq (p := 11) daL_harden_15 dbL_harden_15.2.2.2.2.2.2.2.2.1
theorem dL_harden_27 : decode cL_harden 27 = .ok (.iconst 0, 1) := dgq (p := 12) daL_harden_15 dbL_harden_15.2.2.2.2.2.2.2.2.2
theorem dL_harden_28 : decode cL_harden 28 = .ok (.ireturn, 1) := by decide +kernel
set_option maxRecDepth 20000 in
theorem ggL_caseOf_X9_caseOf : GoodIn wsL_caseOf wsX9_caseOf := goodIn_ca (goodIn_ca (goodIn_ca (goodIn_q _ [6, 7, 8, 9, 10, 5, 11, 12, 13, 14, 15] rfl (by decide +kernel)) (goodIn_sub (fun _ h => (List.mem_cons_of_mem _ (List.mem_append_left _ (List.mem_append_left _ (List.mem_append_left _ (List.mem_append_right _ h)))))) tg_wsX20)) (goodIn_sub (fun _ h => (List.mem_cons_of_mem _ (List.mem_append_left _ (List.mem_append_left _ (List.mem_append_right _ h))))) tg_wsX90)) (goodIn_sub (fun _ h => List.mem_cons_of_mem _ (List.mem_append_right _ h)) (by decide +kernel))
set_option maxRecDepth 20000 in
theorem gL_caseOf_X9_caseOf : GoodIn wsL_caseOf (wsV RL 129 RX9 yX9_caseOf wsX9_caseOf) := goodIn_app (goodIn_q _ [2, 3, 4, 5] rfl (by decide +kernel)) ggL_caseOf_X9_caseOf
def dsL_caseOf_0 : ByteArray := ⟨#[44, 3, 42, 27, 182, 0, 129, 133, 80, 167, 0, 6, 78, 4]⟩
theorem daL_caseOf_0 : agB cL_caseOf dsL_caseOf_0 0 := agB_of (n := 14) (by decide +kernel)
theorem dbL_caseOf_0 : (decode dsL_caseOf_0 0 = .ok (.aload_n 2, 1) ∧ okop dsL_caseOf_0 0 = true) ∧ (decode dsL_caseOf_0 1 = .ok (.iconst 0, 1) ∧ okop dsL_caseOf_0 1 = true) ∧ (decode dsL_caseOf_0 2 = .ok (.aload_n 0, 1) ∧ okop dsL_caseOf_0 2 = true) ∧ (decode dsL_caseOf_0 3 = .ok (.iload_n 1, 1) ∧ okop dsL_caseOf_0 3 = true) ∧ (decode dsL_caseOf_0 4 = .ok (.invokevirtual 129, 3) ∧ okop dsL_caseOf_0 4 = true) ∧ (decode dsL_caseOf_0 7 = .ok (.i2l, 1) ∧ okop dsL_caseOf_0 7 = true) ∧ (decode dsL_caseOf_0 8 = .ok (.lastore, 1) ∧ okop dsL_caseOf_0 8 = true) ∧ (decode dsL_caseOf_0 9 = .ok (.goto 6, 3) ∧ okop dsL_caseOf_0 9 = true) ∧ (decode dsL_caseOf_0 12 = .ok (.astore_n 3, 1) ∧ okop dsL_caseOf_0 12 = true) ∧ (decode dsL_caseOf_0 13 = .ok (.iconst 1, 1) ∧ okop dsL_caseOf_0 13 = true) := by decide +kernel
theorem dL_caseOf_0 : decode cL_caseOf 0 = .ok (.aload_n 2, 1) := dgq (p := 0) daL_caseOf_0 dbL_caseOf_0.1
theorem dL_caseOf_1 : decode cL_caseOf 1 = .ok (.iconst 0, 1) := dgq (p := 1) daL_caseOf_0 dbL_caseOf_0.2.1
theorem dL_caseOf_2 : decode cL_caseOf 2 = .ok (.aload_n 0, 1) := dgq (p := 2) daL_caseOf_0 dbL_caseOf_0.2.2.1
theorem dL_caseOf_3 : decode cL_caseOf 3 = .ok (.iload_n 1, 1) := dgq (p := 3) daL_caseOf_0 dbL_caseOf_0.2.2.2.1
theorem dL_caseOf_4 : decode cL_caseOf 4 = .ok (.invokevirtual 129, 3) := dgq (p := 4) daL_caseOf_0 dbL_caseOf_0.2.2.2.2.1
theorem dL_caseOf_7 : decode cL_caseOf 7 = .ok (.i2l, 1) := dgq (p := 7) daL_caseOf_0 dbL_caseOf_0.2.2.2.2.2.1
theorem dL_caseOf_8 : decode cL_caseOf 8 = .ok (.lastore, 1) := dgq (p := 8) daL_caseOf_0 dbL_caseOf_0.2.2.2.2.2.2.1
theorem dL_caseOf_9 : decode cL_caseOf 9 = .ok (.goto 6, 3) := dgq (p := 9) daL_caseOf_0 dbL_caseOf_0.2.2.2.2.2.2.2.1
theorem dL_caseOf_12 : decode cL_caseOf 12 = .ok (.astore_n 3, 1) := dgq (p := 12) daL_caseOf_0 dbL_caseOf_0.2.2.2.2.2.2.2.2.1
theorem dL_caseOf_13 : decode cL_caseOf 13 = .ok (.iconst 1, 1) := dgq (p := 13) daL_caseOf_0 dbL_caseOf_0.2.2.2.2.2.2.2.2.2
def dsL_caseOf_14 : ByteArray := ⟨#[172, 3, 172]⟩
theorem daL_caseOf_14 : agB cL_caseOf dsL_caseOf_14 14 := agB_of (n := 3) (by decide +kernel)
theorem dbL_caseOf_14 : (decode dsL_caseOf_14 0 = .ok (.ireturn, 1) ∧ okop dsL_caseOf_14 0 = true) ∧ (decode dsL_caseOf_14 1 = .ok (.iconst 0, 1) ∧ okop dsL_caseOf_14 1 = true) ∧ (decode dsL_caseOf_14 2 = .ok (.ireturn, 1) ∧ okop dsL_caseOf_14 2 = true) := by decide +kernel
theorem dL_caseOf_14 : decode cL_caseOf 14 = .ok (.ireturn, 1) := dgq (p := 0) daL_caseOf_14 dbL_caseOf_14.1
theorem dL_caseOf_15 : decode cL_caseOf 15 = .ok (.iconst 0, 1) := dgq (p := 1) daL_caseOf_14 dbL_caseOf_14.2.1
theorem dL_caseOf_16 : decode cL_caseOf 16 = .ok (.ireturn, 1) := dgq (p := 2) daL_caseOf_14 dbL_caseOf_14.2.2
set_option maxRecDepth 20000 in
theorem ggL_isClean_X9_isClean : GoodIn wsL_isClean wsX9_isClean := goodIn_ca (goodIn_ca (goodIn_ca (goodIn_ca (goodIn_q _ [7, 8, 9, 10, 11, 12, 6, 13, 14, 15, 16, 17, 18, 19, 20, 21, 22] rfl (by decide +kernel)) (goodIn_sub (fun _ h => (List.mem_cons_of_mem _ (List.mem_append_left _ (List.mem_append_left _ (List.mem_append_left _ (List.mem_append_left _ (List.mem_append_right _ h))))))) tg_wsX20)) (goodIn_sub (fun _ h => (List.mem_cons_of_mem _ (List.mem_append_left _ (List.mem_append_left _ (List.mem_append_left _ (List.mem_append_right _ h)))))) tg_wsX90)) (goodIn_sub (fun _ h => List.mem_cons_of_mem _ (List.mem_append_left _ (List.mem_append_right _ h))) (by decide +kernel))) (goodIn_sub (fun _ h => List.mem_cons_of_mem _ (List.mem_append_right _ h)) (by decide +kernel))
set_option maxRecDepth 20000 in
theorem gL_isClean_X9_isClean : GoodIn wsL_isClean (wsV RL 132 RX9 yX9_isClean wsX9_isClean) := goodIn_app (goodIn_q _ [3, 4, 5, 6] rfl (by decide +kernel)) ggL_isClean_X9_isClean
def dsL_isClean_0 : ByteArray := ⟨#[44, 3, 42, 27, 182, 0, 132, 153, 0, 7, 10, 167, 0, 4, 9, 80]⟩
theorem daL_isClean_0 : agB cL_isClean dsL_isClean_0 0 := agB_of (n := 16) (by decide +kernel)
theorem dbL_isClean_0 : (decode dsL_isClean_0 0 = .ok (.aload_n 2, 1) ∧ okop dsL_isClean_0 0 = true) ∧ (decode dsL_isClean_0 1 = .ok (.iconst 0, 1) ∧ okop dsL_isClean_0 1 = true) ∧ (decode dsL_isClean_0 2 = .ok (.aload_n 0, 1) ∧ okop dsL_isClean_0 2 = true) ∧ (decode dsL_isClean_0 3 = .ok (.iload_n 1, 1) ∧ okop dsL_isClean_0 3 = true) ∧ (decode dsL_isClean_0 4 = .ok (.invokevirtual 132, 3) ∧ okop dsL_isClean_0 4 = true) ∧ (decode dsL_isClean_0 7 = .ok (.ifCond .eq 7, 3) ∧ okop dsL_isClean_0 7 = true) ∧ (decode dsL_isClean_0 10 = .ok (.lconst 1, 1) ∧ okop dsL_isClean_0 10 = true) ∧ (decode dsL_isClean_0 11 = .ok (.goto 4, 3) ∧ okop dsL_isClean_0 11 = true) ∧ (decode dsL_isClean_0 14 = .ok (.lconst 0, 1) ∧ okop dsL_isClean_0 14 = true) ∧ (decode dsL_isClean_0 15 = .ok (.lastore, 1) ∧ okop dsL_isClean_0 15 = true) := by decide +kernel
theorem dL_isClean_0 : decode cL_isClean 0 = .ok (.aload_n 2, 1) := dgq (p := 0) daL_isClean_0 dbL_isClean_0.1
theorem dL_isClean_1 : decode cL_isClean 1 = .ok (.iconst 0, 1) := dgq (p := 1) daL_isClean_0 dbL_isClean_0.2.1
theorem dL_isClean_2 : decode cL_isClean 2 = .ok (.aload_n 0, 1) := dgq (p := 2) daL_isClean_0 dbL_isClean_0.2.2.1
theorem dL_isClean_3 : decode cL_isClean 3 = .ok (.iload_n 1, 1) := dgq (p := 3) daL_isClean_0 dbL_isClean_0.2.2.2.1
theorem dL_isClean_4 : decode cL_isClean 4 = .ok (.invokevirtual 132, 3) := dgq (p := 4) daL_isClean_0 dbL_isClean_0.2.2.2.2.1
theorem dL_isClean_7 : decode cL_isClean 7 = .ok (.ifCond .eq 7, 3) := dgq (p := 7) daL_isClean_0 dbL_isClean_0.2.2.2.2.2.1
theorem dL_isClean_10 : decode cL_isClean 10 = .ok (.lconst 1, 1) := dgq (p := 10) daL_isClean_0 dbL_isClean_0.2.2.2.2.2.2.1
theorem dL_isClean_11 : decode cL_isClean 11 = .ok (.goto 4, 3) := dgq (p := 11) daL_isClean_0 dbL_isClean_0.2.2.2.2.2.2.2.1
theorem dL_isClean_14 : decode cL_isClean 14 = .ok (.lconst 0, 1) := dgq (p := 14) daL_isClean_0 dbL_isClean_0.2.2.2.2.2.2.2.2.1
theorem dL_isClean_15 : decode cL_isClean 15 = .ok (.lastore, 1) := dgq (p := 15) daL_isClean_0 dbL_isClean_0.2.2.2.2.2.2.2.2.2
def dsL_isClean_16 : ByteArray := ⟨#[167, 0, 9, 78, 4, 172, 78, 5, 172, 3, 172]⟩
theorem daL_isClean_16 : agB cL_isClean dsL_isClean_16 16 := agB_of (n := 11) (by decide +kernel)
theorem dbL_isClean_16 : (decode dsL_isClean_16 0 = .ok (.goto 9, 3) ∧ okop dsL_isClean_16 0 = true) ∧ (decode dsL_isClean_16 3 = .ok (.astore_n 3, 1) ∧ okop dsL_isClean_16 3 = true) ∧ (decode dsL_isClean_16 4 = .ok (.iconst 1, 1) ∧ okop dsL_isClean_16 4 = true) ∧ (decode dsL_isClean_16 5 = .ok (.ireturn, 1) ∧ okop dsL_isClean_16 5 = true) ∧ (decode dsL_isClean_16 6 = .ok (.astore_n 3, 1) ∧ okop dsL_isClean_16 6 = true) ∧ (decode dsL_isClean_16 7 = .ok (.iconst 2, 1) ∧ okop dsL_isClean_16 7 = true) ∧ (decode dsL_isClean_16 8 = .ok (.ireturn, 1) ∧ okop dsL_isClean_16 8 = true) ∧ (decode dsL_isClean_16 9 = .ok (.iconst 0, 1) ∧ okop dsL_isClean_16 9 = true) ∧ (decode dsL_isClean_16 10 = .ok (.ireturn, 1) ∧ okop dsL_isClean_16 10 = true) := by decide +kernel
theorem dL_isClean_16 : decode cL_isClean 16 = .ok (.goto 9, 3) := dgq (p := 0) daL_isClean_16 dbL_isClean_16.1
theorem dL_isClean_19 : decode cL_isClean 19 = .ok (.astore_n 3, 1) := dgq (p := 3) daL_isClean_16 dbL_isClean_16.2.1
theorem dL_isClean_20 : decode cL_isClean 20 = .ok (.iconst 1, 1) := dgq (p := 4) daL_isClean_16 dbL_isClean_16.2.2.1
theorem dL_isClean_21 : decode cL_isClean 21 = .ok (.ireturn, 1) := dgq (p := 5) daL_isClean_16 dbL_isClean_16.2.2.2.1
theorem dL_isClean_22 : decode cL_isClean 22 = .ok (.astore_n 3, 1) := dgq (p := 6) daL_isClean_16 dbL_isClean_16.2.2.2.2.1
theorem dL_isClean_23 : decode cL_isClean 23 = .ok (.iconst 2, 1) := dgq (p := 7) daL_isClean_16 dbL_isClean_16.2.2.2.2.2.1
theorem dL_isClean_24 : decode cL_isClean 24 = .ok (.ireturn, 1) := dgq (p := 8) daL_isClean_16 dbL_isClean_16.2.2.2.2.2.2.1
theorem dL_isClean_25 : decode cL_isClean 25 = .ok (.iconst 0, 1) := dgq (p := 9) daL_isClean_16 dbL_isClean_16.2.2.2.2.2.2.2.1
theorem dL_isClean_26 : decode cL_isClean 26 = .ok (.ireturn, 1) := dgq (p := 10) daL_isClean_16 dbL_isClean_16.2.2.2.2.2.2.2.2
set_option maxRecDepth 20000 in
theorem ggL_grind_X9_grind : GoodIn wsL_grind wsX9_grind := goodIn_ca (goodIn_ca (goodIn_ca (goodIn_ca (goodIn_ca (goodIn_q _ [8, 9, 10, 11, 12, 13, 14, 15, 16, 7, 17, 18, 19, 20, 21, 22, 23, 24, 25, 26, 27, 28, 29, 30, 31, 32, 33, 34, 35, 36, 37, 38, 39, 40, 41, 42, 43, 44, 45, 46, 47, 48, 49, 50, 51, 52, 53, 54] rfl (by decide +kernel)) (goodIn_sub (fun _ h => (List.mem_cons_of_mem _ (List.mem_append_left _ (List.mem_append_left _ (List.mem_append_left _ (List.mem_append_left _ (List.mem_append_left _ (List.mem_append_right _ h)))))))) tg_wsX20)) (goodIn_sub (fun _ h => (List.mem_cons_of_mem _ (List.mem_append_left _ (List.mem_append_left _ (List.mem_append_left _ (List.mem_append_left _ (List.mem_append_right _ h))))))) tg_wsX90)) (goodIn_sub (fun _ h => List.mem_cons_of_mem _ (List.mem_append_left _ (List.mem_append_left _ (List.mem_append_right _ h)))) (by decide +kernel))) (goodIn_sub (fun _ h => List.mem_cons_of_mem _ (List.mem_append_left _ (List.mem_append_right _ h))) (by decide +kernel))) (goodIn_sub (fun _ h => List.mem_cons_of_mem _ (List.mem_append_right _ h)) (by decide +kernel))
set_option maxRecDepth 20000 in
theorem gL_grind_X9_grind : GoodIn wsL_grind (wsV RL 135 RX9 yX9_grind wsX9_grind) := goodIn_app (goodIn_q _ [4, 5, 6, 7] rfl (by decide +kernel)) ggL_grind_X9_grind
def dsL_grind_0 : ByteArray := ⟨#[25, 4, 3, 42, 27, 28, 29, 182, 0, 135, 133, 80, 167, 0, 15]⟩
theorem daL_grind_0 : agB cL_grind dsL_grind_0 0 := agB_of (n := 15) (by decide +kernel)
theorem dbL_grind_0 : (decode dsL_grind_0 0 = .ok (.aload 4, 2) ∧ okop dsL_grind_0 0 = true) ∧ (decode dsL_grind_0 2 = .ok (.iconst 0, 1) ∧ okop dsL_grind_0 2 = true) ∧ (decode dsL_grind_0 3 = .ok (.aload_n 0, 1) ∧ okop dsL_grind_0 3 = true) ∧ (decode dsL_grind_0 4 = .ok (.iload_n 1, 1) ∧ okop dsL_grind_0 4 = true) ∧ (decode dsL_grind_0 5 = .ok (.iload_n 2, 1) ∧ okop dsL_grind_0 5 = true) ∧ (decode dsL_grind_0 6 = .ok (.iload_n 3, 1) ∧ okop dsL_grind_0 6 = true) ∧ (decode dsL_grind_0 7 = .ok (.invokevirtual 135, 3) ∧ okop dsL_grind_0 7 = true) ∧ (decode dsL_grind_0 10 = .ok (.i2l, 1) ∧ okop dsL_grind_0 10 = true) ∧ (decode dsL_grind_0 11 = .ok (.lastore, 1) ∧ okop dsL_grind_0 11 = true) ∧ (decode dsL_grind_0 12 = .ok (.goto 15, 3) ∧ okop dsL_grind_0 12 = true) := by decide +kernel
theorem dL_grind_0 : decode cL_grind 0 = .ok (.aload 4, 2) := dgq (p := 0) daL_grind_0 dbL_grind_0.1
theorem dL_grind_2 : decode cL_grind 2 = .ok (.iconst 0, 1) := dgq (p := 2) daL_grind_0 dbL_grind_0.2.1
theorem dL_grind_3 : decode cL_grind 3 = .ok (.aload_n 0, 1) := dgq (p := 3) daL_grind_0 dbL_grind_0.2.2.1
theorem dL_grind_4 : decode cL_grind 4 = .ok (.iload_n 1, 1) := dgq (p := 4) daL_grind_0 dbL_grind_0.2.2.2.1
theorem dL_grind_5 : decode cL_grind 5 = .ok (.iload_n 2, 1) := dgq (p := 5) daL_grind_0 dbL_grind_0.2.2.2.2.1
theorem dL_grind_6 : decode cL_grind 6 = .ok (.iload_n 3, 1) := dgq (p := 6) daL_grind_0 dbL_grind_0.2.2.2.2.2.1
theorem dL_grind_7 : decode cL_grind 7 = .ok (.invokevirtual 135, 3) := dgq (p := 7) daL_grind_0 dbL_grind_0.2.2.2.2.2.2.1
theorem dL_grind_10 : decode cL_grind 10 = .ok (.i2l, 1) := dgq (p := 10) daL_grind_0 dbL_grind_0.2.2.2.2.2.2.2.1
theorem dL_grind_11 : decode cL_grind 11 = .ok (.lastore, 1) := dgq (p := 11) daL_grind_0 dbL_grind_0.2.2.2.2.2.2.2.2.1
theorem dL_grind_12 : decode cL_grind 12 = .ok (.goto 15, 3) := dgq (p := 12) daL_grind_0 dbL_grind_0.2.2.2.2.2.2.2.2.2
def dsL_grind_15 : ByteArray := ⟨#[58, 5, 4, 172, 58, 5, 5, 172, 58, 5, 6, 172, 3]⟩
theorem daL_grind_15 : agB cL_grind dsL_grind_15 15 := agB_of (n := 13) (by decide +kernel)
theorem dbL_grind_15 : (decode dsL_grind_15 0 = .ok (.astore 5, 2) ∧ okop dsL_grind_15 0 = true) ∧ (decode dsL_grind_15 2 = .ok (.iconst 1, 1) ∧ okop dsL_grind_15 2 = true) ∧ (decode dsL_grind_15 3 = .ok (.ireturn, 1) ∧ okop dsL_grind_15 3 = true) ∧ (decode dsL_grind_15 4 = .ok (.astore 5, 2) ∧ okop dsL_grind_15 4 = true) ∧ (decode dsL_grind_15 6 = .ok (.iconst 2, 1) ∧ okop dsL_grind_15 6 = true) ∧ (decode dsL_grind_15 7 = .ok (.ireturn, 1) ∧ okop dsL_grind_15 7 = true) ∧ (decode dsL_grind_15 8 = .ok (.astore 5, 2) ∧ okop dsL_grind_15 8 = true) ∧ (decode dsL_grind_15 10 = .ok (.iconst 3, 1) ∧ okop dsL_grind_15 10 = true) ∧ (decode dsL_grind_15 11 = .ok (.ireturn, 1) ∧ okop dsL_grind_15 11 = true) ∧ (decode dsL_grind_15 12 = .ok (.iconst 0, 1) ∧ okop dsL_grind_15 12 = true) := by decide +kernel
theorem dL_grind_15 : decode cL_grind 15 = .ok (.astore 5, 2) := dgq (p := 0) daL_grind_15 dbL_grind_15.1
theorem dL_grind_17 : decode cL_grind 17 = .ok (.iconst 1, 1) := dgq (p := 2) daL_grind_15 dbL_grind_15.2.1
theorem dL_grind_18 : decode cL_grind 18 = .ok (.ireturn, 1) := dgq (p := 3) daL_grind_15 dbL_grind_15.2.2.1
theorem dL_grind_19 : decode cL_grind 19 = .ok (.astore 5, 2) := dgq (p := 4) daL_grind_15 dbL_grind_15.2.2.2.1
theorem dL_grind_21 : decode cL_grind 21 = .ok (.iconst 2, 1) := dgq (p := 6) daL_grind_15 dbL_grind_15.2.2.2.2.1
theorem dL_grind_22 : decode cL_grind 22 = .ok (.ireturn, 1) := dgq (p := 7) daL_grind_15 dbL_grind_15.2.2.2.2.2.1
theorem dL_grind_23 : decode cL_grind 23 = .ok (.astore 5, 2) := dgq (p := 8) daL_grind_15 dbL_grind_15.2.2.2.2.2.2.1
theorem dL_grind_25 : decode cL_grind 25 = .ok (.iconst 3, 1) := dgq (p := 10) daL_grind_15 dbL_grind_15.2.2.2.2.2.2.2.1
theorem dL_grind_26 : decode cL_grind 26 = .ok (.ireturn, 1) := dgq (p := 11) daL_grind_15 dbL_grind_15.2.2.2.2.2.2.2.2.1
theorem dL_grind_27 : decode cL_grind 27 = .ok (.iconst 0, 1) := dgq (p := 12) daL_grind_15 dbL_grind_15.2.2.2.2.2.2.2.2.2
theorem dL_grind_28 : decode cL_grind 28 = .ok (.ireturn, 1) := by decide +kernel
set_option maxRecDepth 20000 in
theorem ggL_stateOf_X9_stateOf : GoodIn wsL_stateOf wsX9_stateOf := goodIn_ca (goodIn_ca (goodIn_ca (goodIn_q _ [6, 7, 8, 9, 10, 11, 12, 13, 5, 14, 15, 16, 17, 18, 19, 20, 21, 22, 23, 24, 25] rfl (by decide +kernel)) (goodIn_sub (fun _ h => (List.mem_cons_of_mem _ (List.mem_append_left _ (List.mem_append_left _ (List.mem_append_left _ (List.mem_append_right _ h)))))) tg_wsX20)) (goodIn_sub (fun _ h => (List.mem_cons_of_mem _ (List.mem_append_left _ (List.mem_append_left _ (List.mem_append_right _ h))))) tg_wsX90)) (goodIn_sub (fun _ h => List.mem_cons_of_mem _ (List.mem_append_right _ h)) (by decide +kernel))
set_option maxRecDepth 20000 in
theorem gL_stateOf_X9_stateOf : GoodIn wsL_stateOf (wsV RL 138 RX9 yX9_stateOf wsX9_stateOf) := goodIn_app (goodIn_q _ [2, 3, 4, 5] rfl (by decide +kernel)) ggL_stateOf_X9_stateOf
def dsL_stateOf_0 : ByteArray := ⟨#[44, 3, 42, 27, 182, 0, 138, 133, 80, 167, 0, 6, 78, 4]⟩
theorem daL_stateOf_0 : agB cL_stateOf dsL_stateOf_0 0 := agB_of (n := 14) (by decide +kernel)
theorem dbL_stateOf_0 : (decode dsL_stateOf_0 0 = .ok (.aload_n 2, 1) ∧ okop dsL_stateOf_0 0 = true) ∧ (decode dsL_stateOf_0 1 = .ok (.iconst 0, 1) ∧ okop dsL_stateOf_0 1 = true) ∧ (decode dsL_stateOf_0 2 = .ok (.aload_n 0, 1) ∧ okop dsL_stateOf_0 2 = true) ∧ (decode dsL_stateOf_0 3 = .ok (.iload_n 1, 1) ∧ okop dsL_stateOf_0 3 = true) ∧ (decode dsL_stateOf_0 4 = .ok (.invokevirtual 138, 3) ∧ okop dsL_stateOf_0 4 = true) ∧ (decode dsL_stateOf_0 7 = .ok (.i2l, 1) ∧ okop dsL_stateOf_0 7 = true) ∧ (decode dsL_stateOf_0 8 = .ok (.lastore, 1) ∧ okop dsL_stateOf_0 8 = true) ∧ (decode dsL_stateOf_0 9 = .ok (.goto 6, 3) ∧ okop dsL_stateOf_0 9 = true) ∧ (decode dsL_stateOf_0 12 = .ok (.astore_n 3, 1) ∧ okop dsL_stateOf_0 12 = true) ∧ (decode dsL_stateOf_0 13 = .ok (.iconst 1, 1) ∧ okop dsL_stateOf_0 13 = true) := by decide +kernel
theorem dL_stateOf_0 : decode cL_stateOf 0 = .ok (.aload_n 2, 1) := dgq (p := 0) daL_stateOf_0 dbL_stateOf_0.1
theorem dL_stateOf_1 : decode cL_stateOf 1 = .ok (.iconst 0, 1) := dgq (p := 1) daL_stateOf_0 dbL_stateOf_0.2.1
theorem dL_stateOf_2 : decode cL_stateOf 2 = .ok (.aload_n 0, 1) := dgq (p := 2) daL_stateOf_0 dbL_stateOf_0.2.2.1
theorem dL_stateOf_3 : decode cL_stateOf 3 = .ok (.iload_n 1, 1) := dgq (p := 3) daL_stateOf_0 dbL_stateOf_0.2.2.2.1
theorem dL_stateOf_4 : decode cL_stateOf 4 = .ok (.invokevirtual 138, 3) := dgq (p := 4) daL_stateOf_0 dbL_stateOf_0.2.2.2.2.1
theorem dL_stateOf_7 : decode cL_stateOf 7 = .ok (.i2l, 1) := dgq (p := 7) daL_stateOf_0 dbL_stateOf_0.2.2.2.2.2.1
theorem dL_stateOf_8 : decode cL_stateOf 8 = .ok (.lastore, 1) := dgq (p := 8) daL_stateOf_0 dbL_stateOf_0.2.2.2.2.2.2.1
theorem dL_stateOf_9 : decode cL_stateOf 9 = .ok (.goto 6, 3) := dgq (p := 9) daL_stateOf_0 dbL_stateOf_0.2.2.2.2.2.2.2.1
theorem dL_stateOf_12 : decode cL_stateOf 12 = .ok (.astore_n 3, 1) := dgq (p := 12) daL_stateOf_0 dbL_stateOf_0.2.2.2.2.2.2.2.2.1
theorem dL_stateOf_13 : decode cL_stateOf 13 = .ok (.iconst 1, 1) := dgq (p := 13) daL_stateOf_0 dbL_stateOf_0.2.2.2.2.2.2.2.2.2
def dsL_stateOf_14 : ByteArray := ⟨#[172, 3, 172]⟩
theorem daL_stateOf_14 : agB cL_stateOf dsL_stateOf_14 14 := agB_of (n := 3) (by decide +kernel)
theorem dbL_stateOf_14 : (decode dsL_stateOf_14 0 = .ok (.ireturn, 1) ∧ okop dsL_stateOf_14 0 = true) ∧ (decode dsL_stateOf_14 1 = .ok (.iconst 0, 1) ∧ okop dsL_stateOf_14 1 = true) ∧ (decode dsL_stateOf_14 2 = .ok (.ireturn, 1) ∧ okop dsL_stateOf_14 2 = true) := by decide +kernel
theorem dL_stateOf_14 : decode cL_stateOf 14 = .ok (.ireturn, 1) := dgq (p := 0) daL_stateOf_14 dbL_stateOf_14.1
theorem dL_stateOf_15 : decode cL_stateOf 15 = .ok (.iconst 0, 1) := dgq (p := 1) daL_stateOf_14 dbL_stateOf_14.2.1
theorem dL_stateOf_16 : decode cL_stateOf 16 = .ok (.ireturn, 1) := dgq (p := 2) daL_stateOf_14 dbL_stateOf_14.2.2
set_option maxRecDepth 20000 in
theorem ggL_chart_X9_chart : GoodIn wsL_chart wsX9_chart := goodIn_ca (goodIn_ca (goodIn_ca (goodIn_ca (goodIn_ca (goodIn_ca (goodIn_ca (goodIn_q _ [7, 8, 9, 10, 11, 12, 6, 13, 14, 15, 16, 17, 18, 19, 20, 21, 22, 23, 24, 25, 26, 27, 28, 29, 30, 31, 32, 33, 34, 35, 36, 37, 38, 39, 40, 41, 42, 43, 44, 45] rfl (by decide +kernel)) (goodIn_sub (fun _ h => (List.mem_cons_of_mem _ (List.mem_append_left _ (List.mem_append_left _ (List.mem_append_left _ (List.mem_append_left _ (List.mem_append_left _ (List.mem_append_left _ (List.mem_append_right _ h))))))))) tg_wsX20)) (goodIn_sub (fun _ h => (List.mem_cons_of_mem _ (List.mem_append_left _ (List.mem_append_left _ (List.mem_append_left _ (List.mem_append_left _ (List.mem_append_left _ (List.mem_append_right _ h)))))))) tg_wsX90)) (goodIn_sub (fun _ h => (List.mem_cons_of_mem _ (List.mem_append_left _ (List.mem_append_left _ (List.mem_append_left _ (List.mem_append_left _ (List.mem_append_right _ h))))))) tg_wsX10)) (goodIn_sub (fun _ h => List.mem_cons_of_mem _ (List.mem_append_left _ (List.mem_append_left _ (List.mem_append_right _ h)))) (by decide +kernel))) (goodIn_sub (fun _ h => List.mem_cons_of_mem _ (List.mem_append_left _ (List.mem_append_right _ h))) (by decide +kernel))) (goodIn_sub (fun _ h => List.mem_cons_of_mem _ (List.mem_append_left _ (List.mem_append_left _ (List.mem_append_left _ (List.mem_append_right _ h))))) (by decide +kernel))) (goodIn_sub (fun _ h => List.mem_cons_of_mem _ (List.mem_append_right _ h)) (by decide +kernel))
set_option maxRecDepth 20000 in
theorem gL_chart_X9_chart : GoodIn wsL_chart (wsV RL 142 RX9 yX9_chart wsX9_chart) := goodIn_app (goodIn_q _ [3, 4, 5, 6] rfl (by decide +kernel)) ggL_chart_X9_chart
def dsL_chart_0 : ByteArray := ⟨#[25, 4, 3, 42, 27, 28, 29, 182, 0, 142, 133, 80, 167, 0, 11]⟩
theorem daL_chart_0 : agB cL_chart dsL_chart_0 0 := agB_of (n := 15) (by decide +kernel)
theorem dbL_chart_0 : (decode dsL_chart_0 0 = .ok (.aload 4, 2) ∧ okop dsL_chart_0 0 = true) ∧ (decode dsL_chart_0 2 = .ok (.iconst 0, 1) ∧ okop dsL_chart_0 2 = true) ∧ (decode dsL_chart_0 3 = .ok (.aload_n 0, 1) ∧ okop dsL_chart_0 3 = true) ∧ (decode dsL_chart_0 4 = .ok (.iload_n 1, 1) ∧ okop dsL_chart_0 4 = true) ∧ (decode dsL_chart_0 5 = .ok (.iload_n 2, 1) ∧ okop dsL_chart_0 5 = true) ∧ (decode dsL_chart_0 6 = .ok (.iload_n 3, 1) ∧ okop dsL_chart_0 6 = true) ∧ (decode dsL_chart_0 7 = .ok (.invokevirtual 142, 3) ∧ okop dsL_chart_0 7 = true) ∧ (decode dsL_chart_0 10 = .ok (.i2l, 1) ∧ okop dsL_chart_0 10 = true) ∧ (decode dsL_chart_0 11 = .ok (.lastore, 1) ∧ okop dsL_chart_0 11 = true) ∧ (decode dsL_chart_0 12 = .ok (.goto 11, 3) ∧ okop dsL_chart_0 12 = true) := by decide +kernel
theorem dL_chart_0 : decode cL_chart 0 = .ok (.aload 4, 2) := dgq (p := 0) daL_chart_0 dbL_chart_0.1
theorem dL_chart_2 : decode cL_chart 2 = .ok (.iconst 0, 1) := dgq (p := 2) daL_chart_0 dbL_chart_0.2.1
theorem dL_chart_3 : decode cL_chart 3 = .ok (.aload_n 0, 1) := dgq (p := 3) daL_chart_0 dbL_chart_0.2.2.1
theorem dL_chart_4 : decode cL_chart 4 = .ok (.iload_n 1, 1) := dgq (p := 4) daL_chart_0 dbL_chart_0.2.2.2.1
theorem dL_chart_5 : decode cL_chart 5 = .ok (.iload_n 2, 1) := dgq (p := 5) daL_chart_0 dbL_chart_0.2.2.2.2.1
theorem dL_chart_6 : decode cL_chart 6 = .ok (.iload_n 3, 1) := dgq (p := 6) daL_chart_0 dbL_chart_0.2.2.2.2.2.1
theorem dL_chart_7 : decode cL_chart 7 = .ok (.invokevirtual 142, 3) := dgq (p := 7) daL_chart_0 dbL_chart_0.2.2.2.2.2.2.1
theorem dL_chart_10 : decode cL_chart 10 = .ok (.i2l, 1) := dgq (p := 10) daL_chart_0 dbL_chart_0.2.2.2.2.2.2.2.1
theorem dL_chart_11 : decode cL_chart 11 = .ok (.lastore, 1) := dgq (p := 11) daL_chart_0 dbL_chart_0.2.2.2.2.2.2.2.2.1
theorem dL_chart_12 : decode cL_chart 12 = .ok (.goto 11, 3) := dgq (p := 12) daL_chart_0 dbL_chart_0.2.2.2.2.2.2.2.2.2
def dsL_chart_15 : ByteArray := ⟨#[58, 5, 4, 172, 58, 5, 5, 172, 3, 172]⟩
theorem daL_chart_15 : agB cL_chart dsL_chart_15 15 := agB_of (n := 10) (by decide +kernel)
theorem dbL_chart_15 : (decode dsL_chart_15 0 = .ok (.astore 5, 2) ∧ okop dsL_chart_15 0 = true) ∧ (decode dsL_chart_15 2 = .ok (.iconst 1, 1) ∧ okop dsL_chart_15 2 = true) ∧ (decode dsL_chart_15 3 = .ok (.ireturn, 1) ∧ okop dsL_chart_15 3 = true) ∧ (decode dsL_chart_15 4 = .ok (.astore 5, 2) ∧ okop dsL_chart_15 4 = true) ∧ (decode dsL_chart_15 6 = .ok (.iconst 2, 1) ∧ okop dsL_chart_15 6 = true) ∧ (decode dsL_chart_15 7 = .ok (.ireturn, 1) ∧ okop dsL_chart_15 7 = true) ∧ (decode dsL_chart_15 8 = .ok (.iconst 0, 1) ∧ okop dsL_chart_15 8 = true) ∧ (decode dsL_chart_15 9 = .ok (.ireturn, 1) ∧ okop dsL_chart_15 9 = true) := by decide +kernel
theorem dL_chart_15 : decode cL_chart 15 = .ok (.astore 5, 2) := dgq (p := 0) daL_chart_15 dbL_chart_15.1
theorem dL_chart_17 : decode cL_chart 17 = .ok (.iconst 1, 1) := dgq (p := 2) daL_chart_15 dbL_chart_15.2.1
theorem dL_chart_18 : decode cL_chart 18 = .ok (.ireturn, 1) := dgq (p := 3) daL_chart_15 dbL_chart_15.2.2.1
theorem dL_chart_19 : decode cL_chart 19 = .ok (.astore 5, 2) := dgq (p := 4) daL_chart_15 dbL_chart_15.2.2.2.1
theorem dL_chart_21 : decode cL_chart 21 = .ok (.iconst 2, 1) := dgq (p := 6) daL_chart_15 dbL_chart_15.2.2.2.2.1
theorem dL_chart_22 : decode cL_chart 22 = .ok (.ireturn, 1) := dgq (p := 7) daL_chart_15 dbL_chart_15.2.2.2.2.2.1
theorem dL_chart_23 : decode cL_chart 23 = .ok (.iconst 0, 1) := dgq (p := 8) daL_chart_15 dbL_chart_15.2.2.2.2.2.2.1
theorem dL_chart_24 : decode cL_chart 24 = .ok (.ireturn, 1) := dgq (p := 9) daL_chart_15 dbL_chart_15.2.2.2.2.2.2.2
set_option maxRecDepth 20000 in
theorem ggL_total_X9_total : GoodIn wsL_total wsX9_total := goodIn_ca (goodIn_ca (goodIn_ca (goodIn_ca (goodIn_q _ [6, 7, 8, 9, 10, 11, 5, 12, 13, 14, 15, 16] rfl (by decide +kernel)) (goodIn_sub (fun _ h => (List.mem_cons_of_mem _ (List.mem_append_left _ (List.mem_append_left _ (List.mem_append_left _ (List.mem_append_left _ (List.mem_append_right _ h))))))) tg_wsX20)) (goodIn_sub (fun _ h => (List.mem_cons_of_mem _ (List.mem_append_left _ (List.mem_append_left _ (List.mem_append_left _ (List.mem_append_right _ h)))))) tg_wsX10)) (goodIn_sub (fun _ h => (List.mem_cons_of_mem _ (List.mem_append_left _ (List.mem_append_left _ (List.mem_append_right _ h))))) tg_wsX90)) (goodIn_sub (fun _ h => List.mem_cons_of_mem _ (List.mem_append_right _ h)) (by decide +kernel))
set_option maxRecDepth 20000 in
theorem gL_total_X9_total : GoodIn wsL_total (wsV RL 145 RX9 yX9_total wsX9_total) := goodIn_app (goodIn_q _ [2, 3, 4, 5] rfl (by decide +kernel)) ggL_total_X9_total
def dsL_total_0 : ByteArray := ⟨#[44, 3, 42, 27, 182, 0, 145, 133, 80, 167, 0, 6, 78, 4]⟩
theorem daL_total_0 : agB cL_total dsL_total_0 0 := agB_of (n := 14) (by decide +kernel)
theorem dbL_total_0 : (decode dsL_total_0 0 = .ok (.aload_n 2, 1) ∧ okop dsL_total_0 0 = true) ∧ (decode dsL_total_0 1 = .ok (.iconst 0, 1) ∧ okop dsL_total_0 1 = true) ∧ (decode dsL_total_0 2 = .ok (.aload_n 0, 1) ∧ okop dsL_total_0 2 = true) ∧ (decode dsL_total_0 3 = .ok (.iload_n 1, 1) ∧ okop dsL_total_0 3 = true) ∧ (decode dsL_total_0 4 = .ok (.invokevirtual 145, 3) ∧ okop dsL_total_0 4 = true) ∧ (decode dsL_total_0 7 = .ok (.i2l, 1) ∧ okop dsL_total_0 7 = true) ∧ (decode dsL_total_0 8 = .ok (.lastore, 1) ∧ okop dsL_total_0 8 = true) ∧ (decode dsL_total_0 9 = .ok (.goto 6, 3) ∧ okop dsL_total_0 9 = true) ∧ (decode dsL_total_0 12 = .ok (.astore_n 3, 1) ∧ okop dsL_total_0 12 = true) ∧ (decode dsL_total_0 13 = .ok (.iconst 1, 1) ∧ okop dsL_total_0 13 = true) := by decide +kernel
theorem dL_total_0 : decode cL_total 0 = .ok (.aload_n 2, 1) := dgq (p := 0) daL_total_0 dbL_total_0.1
theorem dL_total_1 : decode cL_total 1 = .ok (.iconst 0, 1) := dgq (p := 1) daL_total_0 dbL_total_0.2.1
theorem dL_total_2 : decode cL_total 2 = .ok (.aload_n 0, 1) := dgq (p := 2) daL_total_0 dbL_total_0.2.2.1
theorem dL_total_3 : decode cL_total 3 = .ok (.iload_n 1, 1) := dgq (p := 3) daL_total_0 dbL_total_0.2.2.2.1
theorem dL_total_4 : decode cL_total 4 = .ok (.invokevirtual 145, 3) := dgq (p := 4) daL_total_0 dbL_total_0.2.2.2.2.1
theorem dL_total_7 : decode cL_total 7 = .ok (.i2l, 1) := dgq (p := 7) daL_total_0 dbL_total_0.2.2.2.2.2.1
theorem dL_total_8 : decode cL_total 8 = .ok (.lastore, 1) := dgq (p := 8) daL_total_0 dbL_total_0.2.2.2.2.2.2.1
theorem dL_total_9 : decode cL_total 9 = .ok (.goto 6, 3) := dgq (p := 9) daL_total_0 dbL_total_0.2.2.2.2.2.2.2.1
theorem dL_total_12 : decode cL_total 12 = .ok (.astore_n 3, 1) := dgq (p := 12) daL_total_0 dbL_total_0.2.2.2.2.2.2.2.2.1
theorem dL_total_13 : decode cL_total 13 = .ok (.iconst 1, 1) := dgq (p := 13) daL_total_0 dbL_total_0.2.2.2.2.2.2.2.2.2
def dsL_total_14 : ByteArray := ⟨#[172, 3, 172]⟩
theorem daL_total_14 : agB cL_total dsL_total_14 14 := agB_of (n := 3) (by decide +kernel)
theorem dbL_total_14 : (decode dsL_total_14 0 = .ok (.ireturn, 1) ∧ okop dsL_total_14 0 = true) ∧ (decode dsL_total_14 1 = .ok (.iconst 0, 1) ∧ okop dsL_total_14 1 = true) ∧ (decode dsL_total_14 2 = .ok (.ireturn, 1) ∧ okop dsL_total_14 2 = true) := by decide +kernel
theorem dL_total_14 : decode cL_total 14 = .ok (.ireturn, 1) := dgq (p := 0) daL_total_14 dbL_total_14.1
theorem dL_total_15 : decode cL_total 15 = .ok (.iconst 0, 1) := dgq (p := 1) daL_total_14 dbL_total_14.2.1
theorem dL_total_16 : decode cL_total 16 = .ok (.ireturn, 1) := dgq (p := 2) daL_total_14 dbL_total_14.2.2
set_option maxRecDepth 20000 in
theorem ggL_grade_X9_grade : GoodIn wsL_grade wsX9_grade := goodIn_ca (goodIn_ca (goodIn_ca (goodIn_ca (goodIn_ca (goodIn_q _ [6, 7, 8, 9, 5, 10, 11, 12, 13, 14, 15, 16, 17, 18, 19, 20, 21, 22, 23, 24, 25, 26, 27, 28, 29, 30, 31, 32, 33, 34, 35, 36, 37, 38, 39] rfl (by decide +kernel)) (goodIn_sub (fun _ h => (List.mem_cons_of_mem _ (List.mem_append_left _ (List.mem_append_left _ (List.mem_append_left _ (List.mem_append_left _ (List.mem_append_right _ h))))))) tg_wsX90)) (goodIn_sub (fun _ h => (List.mem_cons_of_mem _ (List.mem_append_left _ (List.mem_append_left _ (List.mem_append_left _ (List.mem_append_right _ h)))))) tg_wsX20)) (goodIn_sub (fun _ h => (List.mem_cons_of_mem _ (List.mem_append_left _ (List.mem_append_left _ (List.mem_append_right _ h))))) tg_wsX10)) (goodIn_sub (fun _ h => List.mem_cons_of_mem _ (List.mem_append_right _ h)) (by decide +kernel))) (goodIn_sub (fun _ h => List.mem_cons_of_mem _ (List.mem_append_left _ (List.mem_append_right _ h))) (by decide +kernel))
set_option maxRecDepth 20000 in
theorem gL_grade_X9_grade : GoodIn wsL_grade (wsV RL 148 RX9 yX9_grade wsX9_grade) := goodIn_app (goodIn_q _ [2, 3, 4, 5] rfl (by decide +kernel)) ggL_grade_X9_grade
def dsL_grade_0 : ByteArray := ⟨#[44, 3, 42, 27, 182, 0, 148, 133, 80, 167, 0, 6, 78, 4]⟩
theorem daL_grade_0 : agB cL_grade dsL_grade_0 0 := agB_of (n := 14) (by decide +kernel)
theorem dbL_grade_0 : (decode dsL_grade_0 0 = .ok (.aload_n 2, 1) ∧ okop dsL_grade_0 0 = true) ∧ (decode dsL_grade_0 1 = .ok (.iconst 0, 1) ∧ okop dsL_grade_0 1 = true) ∧ (decode dsL_grade_0 2 = .ok (.aload_n 0, 1) ∧ okop dsL_grade_0 2 = true) ∧ (decode dsL_grade_0 3 = .ok (.iload_n 1, 1) ∧ okop dsL_grade_0 3 = true) ∧ (decode dsL_grade_0 4 = .ok (.invokevirtual 148, 3) ∧ okop dsL_grade_0 4 = true) ∧ (decode dsL_grade_0 7 = .ok (.i2l, 1) ∧ okop dsL_grade_0 7 = true) ∧ (decode dsL_grade_0 8 = .ok (.lastore, 1) ∧ okop dsL_grade_0 8 = true) ∧ (decode dsL_grade_0 9 = .ok (.goto 6, 3) ∧ okop dsL_grade_0 9 = true) ∧ (decode dsL_grade_0 12 = .ok (.astore_n 3, 1) ∧ okop dsL_grade_0 12 = true) ∧ (decode dsL_grade_0 13 = .ok (.iconst 1, 1) ∧ okop dsL_grade_0 13 = true) := by decide +kernel
theorem dL_grade_0 : decode cL_grade 0 = .ok (.aload_n 2, 1) := dgq (p := 0) daL_grade_0 dbL_grade_0.1
theorem dL_grade_1 : decode cL_grade 1 = .ok (.iconst 0, 1) := dgq (p := 1) daL_grade_0 dbL_grade_0.2.1
theorem dL_grade_2 : decode cL_grade 2 = .ok (.aload_n 0, 1) := dgq (p := 2) daL_grade_0 dbL_grade_0.2.2.1
theorem dL_grade_3 : decode cL_grade 3 = .ok (.iload_n 1, 1) := dgq (p := 3) daL_grade_0 dbL_grade_0.2.2.2.1
theorem dL_grade_4 : decode cL_grade 4 = .ok (.invokevirtual 148, 3) := dgq (p := 4) daL_grade_0 dbL_grade_0.2.2.2.2.1
theorem dL_grade_7 : decode cL_grade 7 = .ok (.i2l, 1) := dgq (p := 7) daL_grade_0 dbL_grade_0.2.2.2.2.2.1
theorem dL_grade_8 : decode cL_grade 8 = .ok (.lastore, 1) := dgq (p := 8) daL_grade_0 dbL_grade_0.2.2.2.2.2.2.1
theorem dL_grade_9 : decode cL_grade 9 = .ok (.goto 6, 3) := dgq (p := 9) daL_grade_0 dbL_grade_0.2.2.2.2.2.2.2.1
theorem dL_grade_12 : decode cL_grade 12 = .ok (.astore_n 3, 1) := dgq (p := 12) daL_grade_0 dbL_grade_0.2.2.2.2.2.2.2.2.1
theorem dL_grade_13 : decode cL_grade 13 = .ok (.iconst 1, 1) := dgq (p := 13) daL_grade_0 dbL_grade_0.2.2.2.2.2.2.2.2.2
def dsL_grade_14 : ByteArray := ⟨#[172, 3, 172]⟩
theorem daL_grade_14 : agB cL_grade dsL_grade_14 14 := agB_of (n := 3) (by decide +kernel)
theorem dbL_grade_14 : (decode dsL_grade_14 0 = .ok (.ireturn, 1) ∧ okop dsL_grade_14 0 = true) ∧ (decode dsL_grade_14 1 = .ok (.iconst 0, 1) ∧ okop dsL_grade_14 1 = true) ∧ (decode dsL_grade_14 2 = .ok (.ireturn, 1) ∧ okop dsL_grade_14 2 = true) := by decide +kernel
theorem dL_grade_14 : decode cL_grade 14 = .ok (.ireturn, 1) := dgq (p := 0) daL_grade_14 dbL_grade_14.1
theorem dL_grade_15 : decode cL_grade 15 = .ok (.iconst 0, 1) := dgq (p := 1) daL_grade_14 dbL_grade_14.2.1
theorem dL_grade_16 : decode cL_grade 16 = .ok (.ireturn, 1) := dgq (p := 2) daL_grade_14 dbL_grade_14.2.2
set_option maxRecDepth 20000 in
theorem ggL_part_X9_part : GoodIn wsL_part wsX9_part := goodIn_ca (goodIn_ca (goodIn_ca (goodIn_ca (goodIn_ca (goodIn_ca (goodIn_ca (goodIn_q _ [7, 8, 9, 10, 11, 12, 13, 14, 6, 15, 16, 17, 18, 19, 20, 21, 22, 23, 24, 25, 26, 27, 28, 29, 30, 31, 32, 33, 34, 35, 36] rfl (by decide +kernel)) (goodIn_sub (fun _ h => (List.mem_cons_of_mem _ (List.mem_append_left _ (List.mem_append_left _ (List.mem_append_left _ (List.mem_append_left _ (List.mem_append_left _ (List.mem_append_left _ (List.mem_append_right _ h))))))))) tg_wsX20)) (goodIn_sub (fun _ h => (List.mem_cons_of_mem _ (List.mem_append_left _ (List.mem_append_left _ (List.mem_append_left _ (List.mem_append_left _ (List.mem_append_left _ (List.mem_append_right _ h)))))))) tg_wsX90)) (goodIn_sub (fun _ h => (List.mem_cons_of_mem _ (List.mem_append_left _ (List.mem_append_left _ (List.mem_append_left _ (List.mem_append_left _ (List.mem_append_right _ h))))))) tg_wsX10)) (goodIn_sub (fun _ h => List.mem_cons_of_mem _ (List.mem_append_left _ (List.mem_append_left _ (List.mem_append_right _ h)))) (by decide +kernel))) (goodIn_sub (fun _ h => List.mem_cons_of_mem _ (List.mem_append_left _ (List.mem_append_right _ h))) (by decide +kernel))) (goodIn_sub (fun _ h => List.mem_cons_of_mem _ (List.mem_append_right _ h)) (by decide +kernel))) (goodIn_sub (fun _ h => List.mem_cons_of_mem _ (List.mem_append_left _ (List.mem_append_left _ (List.mem_append_left _ (List.mem_append_right _ h))))) (by decide +kernel))
set_option maxRecDepth 20000 in
theorem gL_part_X9_part : GoodIn wsL_part (wsV RL 151 RX9 yX9_part wsX9_part) := goodIn_app (goodIn_q _ [3, 4, 5, 6] rfl (by decide +kernel)) ggL_part_X9_part
def dsL_part_0 : ByteArray := ⟨#[45, 3, 42, 27, 28, 182, 0, 151, 133, 80, 167, 0, 11, 58, 4]⟩
theorem daL_part_0 : agB cL_part dsL_part_0 0 := agB_of (n := 15) (by decide +kernel)
theorem dbL_part_0 : (decode dsL_part_0 0 = .ok (.aload_n 3, 1) ∧ okop dsL_part_0 0 = true) ∧ (decode dsL_part_0 1 = .ok (.iconst 0, 1) ∧ okop dsL_part_0 1 = true) ∧ (decode dsL_part_0 2 = .ok (.aload_n 0, 1) ∧ okop dsL_part_0 2 = true) ∧ (decode dsL_part_0 3 = .ok (.iload_n 1, 1) ∧ okop dsL_part_0 3 = true) ∧ (decode dsL_part_0 4 = .ok (.iload_n 2, 1) ∧ okop dsL_part_0 4 = true) ∧ (decode dsL_part_0 5 = .ok (.invokevirtual 151, 3) ∧ okop dsL_part_0 5 = true) ∧ (decode dsL_part_0 8 = .ok (.i2l, 1) ∧ okop dsL_part_0 8 = true) ∧ (decode dsL_part_0 9 = .ok (.lastore, 1) ∧ okop dsL_part_0 9 = true) ∧ (decode dsL_part_0 10 = .ok (.goto 11, 3) ∧ okop dsL_part_0 10 = true) ∧ (decode dsL_part_0 13 = .ok (.astore 4, 2) ∧ okop dsL_part_0 13 = true) := by decide +kernel
theorem dL_part_0 : decode cL_part 0 = .ok (.aload_n 3, 1) := dgq (p := 0) daL_part_0 dbL_part_0.1
theorem dL_part_1 : decode cL_part 1 = .ok (.iconst 0, 1) := dgq (p := 1) daL_part_0 dbL_part_0.2.1
theorem dL_part_2 : decode cL_part 2 = .ok (.aload_n 0, 1) := dgq (p := 2) daL_part_0 dbL_part_0.2.2.1
theorem dL_part_3 : decode cL_part 3 = .ok (.iload_n 1, 1) := dgq (p := 3) daL_part_0 dbL_part_0.2.2.2.1
theorem dL_part_4 : decode cL_part 4 = .ok (.iload_n 2, 1) := dgq (p := 4) daL_part_0 dbL_part_0.2.2.2.2.1
theorem dL_part_5 : decode cL_part 5 = .ok (.invokevirtual 151, 3) := dgq (p := 5) daL_part_0 dbL_part_0.2.2.2.2.2.1
theorem dL_part_8 : decode cL_part 8 = .ok (.i2l, 1) := dgq (p := 8) daL_part_0 dbL_part_0.2.2.2.2.2.2.1
theorem dL_part_9 : decode cL_part 9 = .ok (.lastore, 1) := dgq (p := 9) daL_part_0 dbL_part_0.2.2.2.2.2.2.2.1
theorem dL_part_10 : decode cL_part 10 = .ok (.goto 11, 3) := dgq (p := 10) daL_part_0 dbL_part_0.2.2.2.2.2.2.2.2.1
theorem dL_part_13 : decode cL_part 13 = .ok (.astore 4, 2) := dgq (p := 13) daL_part_0 dbL_part_0.2.2.2.2.2.2.2.2.2
def dsL_part_15 : ByteArray := ⟨#[4, 172, 58, 4, 5, 172, 3, 172]⟩
theorem daL_part_15 : agB cL_part dsL_part_15 15 := agB_of (n := 8) (by decide +kernel)
theorem dbL_part_15 : (decode dsL_part_15 0 = .ok (.iconst 1, 1) ∧ okop dsL_part_15 0 = true) ∧ (decode dsL_part_15 1 = .ok (.ireturn, 1) ∧ okop dsL_part_15 1 = true) ∧ (decode dsL_part_15 2 = .ok (.astore 4, 2) ∧ okop dsL_part_15 2 = true) ∧ (decode dsL_part_15 4 = .ok (.iconst 2, 1) ∧ okop dsL_part_15 4 = true) ∧ (decode dsL_part_15 5 = .ok (.ireturn, 1) ∧ okop dsL_part_15 5 = true) ∧ (decode dsL_part_15 6 = .ok (.iconst 0, 1) ∧ okop dsL_part_15 6 = true) ∧ (decode dsL_part_15 7 = .ok (.ireturn, 1) ∧ okop dsL_part_15 7 = true) := by decide +kernel
theorem dL_part_15 : decode cL_part 15 = .ok (.iconst 1, 1) := dgq (p := 0) daL_part_15 dbL_part_15.1
theorem dL_part_16 : decode cL_part 16 = .ok (.ireturn, 1) := dgq (p := 1) daL_part_15 dbL_part_15.2.1
theorem dL_part_17 : decode cL_part 17 = .ok (.astore 4, 2) := dgq (p := 2) daL_part_15 dbL_part_15.2.2.1
theorem dL_part_19 : decode cL_part 19 = .ok (.iconst 2, 1) := dgq (p := 4) daL_part_15 dbL_part_15.2.2.2.1
theorem dL_part_20 : decode cL_part 20 = .ok (.ireturn, 1) := dgq (p := 5) daL_part_15 dbL_part_15.2.2.2.2.1
theorem dL_part_21 : decode cL_part 21 = .ok (.iconst 0, 1) := dgq (p := 6) daL_part_15 dbL_part_15.2.2.2.2.2.1
theorem dL_part_22 : decode cL_part 22 = .ok (.ireturn, 1) := dgq (p := 7) daL_part_15 dbL_part_15.2.2.2.2.2.2
set_option maxRecDepth 20000 in
theorem ggL_cause_X9_cause : GoodIn wsL_cause wsX9_cause := goodIn_ca (goodIn_ca (goodIn_ca (goodIn_ca (goodIn_ca (goodIn_ca (goodIn_q _ [6, 7, 8, 9, 10, 11, 12, 13, 14, 15, 16, 17, 18, 5, 19, 20, 21, 22, 23, 24, 25, 26, 27, 28, 29, 30, 31, 32, 33, 34, 35, 36, 37, 38, 39, 40] rfl (by decide +kernel)) (goodIn_sub (fun _ h => (List.mem_cons_of_mem _ (List.mem_append_left _ (List.mem_append_left _ (List.mem_append_left _ (List.mem_append_left _ (List.mem_append_left _ (List.mem_append_right _ h)))))))) tg_wsX20)) (goodIn_sub (fun _ h => (List.mem_cons_of_mem _ (List.mem_append_left _ (List.mem_append_left _ (List.mem_append_left _ (List.mem_append_left _ (List.mem_append_right _ h))))))) tg_wsX90)) (goodIn_sub (fun _ h => (List.mem_cons_of_mem _ (List.mem_append_left _ (List.mem_append_left _ (List.mem_append_left _ (List.mem_append_right _ h)))))) tg_wsX10)) (goodIn_sub (fun _ h => List.mem_cons_of_mem _ (List.mem_append_left _ (List.mem_append_right _ h))) (by decide +kernel))) (goodIn_sub (fun _ h => List.mem_cons_of_mem _ (List.mem_append_right _ h)) (by decide +kernel))) (goodIn_sub (fun _ h => List.mem_cons_of_mem _ (List.mem_append_left _ (List.mem_append_left _ (List.mem_append_right _ h)))) (by decide +kernel))
set_option maxRecDepth 20000 in
theorem gL_cause_X9_cause : GoodIn wsL_cause (wsV RL 154 RX9 yX9_cause wsX9_cause) := goodIn_app (goodIn_q _ [2, 3, 4, 5] rfl (by decide +kernel)) ggL_cause_X9_cause
def dsL_cause_0 : ByteArray := ⟨#[44, 3, 42, 27, 182, 0, 154, 133, 80, 167, 0, 6, 78, 4]⟩
theorem daL_cause_0 : agB cL_cause dsL_cause_0 0 := agB_of (n := 14) (by decide +kernel)
theorem dbL_cause_0 : (decode dsL_cause_0 0 = .ok (.aload_n 2, 1) ∧ okop dsL_cause_0 0 = true) ∧ (decode dsL_cause_0 1 = .ok (.iconst 0, 1) ∧ okop dsL_cause_0 1 = true) ∧ (decode dsL_cause_0 2 = .ok (.aload_n 0, 1) ∧ okop dsL_cause_0 2 = true) ∧ (decode dsL_cause_0 3 = .ok (.iload_n 1, 1) ∧ okop dsL_cause_0 3 = true) ∧ (decode dsL_cause_0 4 = .ok (.invokevirtual 154, 3) ∧ okop dsL_cause_0 4 = true) ∧ (decode dsL_cause_0 7 = .ok (.i2l, 1) ∧ okop dsL_cause_0 7 = true) ∧ (decode dsL_cause_0 8 = .ok (.lastore, 1) ∧ okop dsL_cause_0 8 = true) ∧ (decode dsL_cause_0 9 = .ok (.goto 6, 3) ∧ okop dsL_cause_0 9 = true) ∧ (decode dsL_cause_0 12 = .ok (.astore_n 3, 1) ∧ okop dsL_cause_0 12 = true) ∧ (decode dsL_cause_0 13 = .ok (.iconst 1, 1) ∧ okop dsL_cause_0 13 = true) := by decide +kernel
theorem dL_cause_0 : decode cL_cause 0 = .ok (.aload_n 2, 1) := dgq (p := 0) daL_cause_0 dbL_cause_0.1
theorem dL_cause_1 : decode cL_cause 1 = .ok (.iconst 0, 1) := dgq (p := 1) daL_cause_0 dbL_cause_0.2.1
theorem dL_cause_2 : decode cL_cause 2 = .ok (.aload_n 0, 1) := dgq (p := 2) daL_cause_0 dbL_cause_0.2.2.1
theorem dL_cause_3 : decode cL_cause 3 = .ok (.iload_n 1, 1) := dgq (p := 3) daL_cause_0 dbL_cause_0.2.2.2.1
theorem dL_cause_4 : decode cL_cause 4 = .ok (.invokevirtual 154, 3) := dgq (p := 4) daL_cause_0 dbL_cause_0.2.2.2.2.1
theorem dL_cause_7 : decode cL_cause 7 = .ok (.i2l, 1) := dgq (p := 7) daL_cause_0 dbL_cause_0.2.2.2.2.2.1
theorem dL_cause_8 : decode cL_cause 8 = .ok (.lastore, 1) := dgq (p := 8) daL_cause_0 dbL_cause_0.2.2.2.2.2.2.1
theorem dL_cause_9 : decode cL_cause 9 = .ok (.goto 6, 3) := dgq (p := 9) daL_cause_0 dbL_cause_0.2.2.2.2.2.2.2.1
theorem dL_cause_12 : decode cL_cause 12 = .ok (.astore_n 3, 1) := dgq (p := 12) daL_cause_0 dbL_cause_0.2.2.2.2.2.2.2.2.1
theorem dL_cause_13 : decode cL_cause 13 = .ok (.iconst 1, 1) := dgq (p := 13) daL_cause_0 dbL_cause_0.2.2.2.2.2.2.2.2.2
def dsL_cause_14 : ByteArray := ⟨#[172, 3, 172]⟩
theorem daL_cause_14 : agB cL_cause dsL_cause_14 14 := agB_of (n := 3) (by decide +kernel)
theorem dbL_cause_14 : (decode dsL_cause_14 0 = .ok (.ireturn, 1) ∧ okop dsL_cause_14 0 = true) ∧ (decode dsL_cause_14 1 = .ok (.iconst 0, 1) ∧ okop dsL_cause_14 1 = true) ∧ (decode dsL_cause_14 2 = .ok (.ireturn, 1) ∧ okop dsL_cause_14 2 = true) := by decide +kernel
theorem dL_cause_14 : decode cL_cause 14 = .ok (.ireturn, 1) := dgq (p := 0) daL_cause_14 dbL_cause_14.1
theorem dL_cause_15 : decode cL_cause 15 = .ok (.iconst 0, 1) := dgq (p := 1) daL_cause_14 dbL_cause_14.2.1
theorem dL_cause_16 : decode cL_cause 16 = .ok (.ireturn, 1) := dgq (p := 2) daL_cause_14 dbL_cause_14.2.2
set_option maxRecDepth 20000 in
theorem ggL_peak_X9_peak : GoodIn wsL_peak wsX9_peak := goodIn_ca (goodIn_ca (goodIn_ca (goodIn_ca (goodIn_ca (goodIn_ca (goodIn_ca (goodIn_ca (goodIn_ca (goodIn_q _ [8, 9, 10, 11, 12, 13, 14, 7, 15, 16, 17, 18, 19, 20, 21, 22, 23, 24, 25, 26, 27, 28, 29, 30, 31, 32, 33, 34, 35, 36, 37, 38, 39, 40, 41, 42, 43, 44, 45, 46, 47, 48, 49, 50, 51, 52, 53, 54, 55, 56, 57, 58, 59, 60, 61, 62, 63, 64, 65, 66, 67, 68, 69, 70, 71, 72, 73, 74] rfl (by decide +kernel)) (goodIn_sub (fun _ h => (List.mem_cons_of_mem _ (List.mem_append_left _ (List.mem_append_left _ (List.mem_append_left _ (List.mem_append_left _ (List.mem_append_left _ (List.mem_append_left _ (List.mem_append_left _ (List.mem_append_left _ (List.mem_append_right _ h))))))))))) tg_wsX20)) (goodIn_sub (fun _ h => (List.mem_cons_of_mem _ (List.mem_append_left _ (List.mem_append_left _ (List.mem_append_left _ (List.mem_append_left _ (List.mem_append_left _ (List.mem_append_left _ (List.mem_append_left _ (List.mem_append_right _ h)))))))))) tg_wsX90)) (goodIn_sub (fun _ h => (List.mem_cons_of_mem _ (List.mem_append_left _ (List.mem_append_left _ (List.mem_append_left _ (List.mem_append_left _ (List.mem_append_left _ (List.mem_append_left _ (List.mem_append_right _ h))))))))) tg_wsX10)) (goodIn_sub (fun _ h => (List.mem_cons_of_mem _ (List.mem_append_left _ (List.mem_append_left _ (List.mem_append_left _ (List.mem_append_left _ (List.mem_append_left _ (List.mem_append_right _ h)))))))) tg_wsX60)) (goodIn_sub (fun _ h => List.mem_cons_of_mem _ (List.mem_append_left _ (List.mem_append_left _ (List.mem_append_left _ (List.mem_append_right _ h))))) (by decide +kernel))) (goodIn_sub (fun _ h => List.mem_cons_of_mem _ (List.mem_append_left _ (List.mem_append_left _ (List.mem_append_right _ h)))) (by decide +kernel))) (goodIn_sub (fun _ h => List.mem_cons_of_mem _ (List.mem_append_left _ (List.mem_append_right _ h))) (by decide +kernel))) (goodIn_sub (fun _ h => List.mem_cons_of_mem _ (List.mem_append_right _ h)) (by decide +kernel))) (goodIn_sub (fun _ h => List.mem_cons_of_mem _ (List.mem_append_left _ (List.mem_append_left _ (List.mem_append_left _ (List.mem_append_left _ (List.mem_append_right _ h)))))) (by decide +kernel))
set_option maxRecDepth 20000 in
theorem gL_peak_X9_peak : GoodIn wsL_peak (wsV RL 157 RX9 yX9_peak wsX9_peak) := goodIn_app (goodIn_q _ [4, 5, 6, 7] rfl (by decide +kernel)) ggL_peak_X9_peak
def dsL_peak_0 : ByteArray := ⟨#[25, 4, 3, 42, 27, 28, 29, 182, 0, 157, 133, 80, 167, 0, 15]⟩
theorem daL_peak_0 : agB cL_peak dsL_peak_0 0 := agB_of (n := 15) (by decide +kernel)
theorem dbL_peak_0 : (decode dsL_peak_0 0 = .ok (.aload 4, 2) ∧ okop dsL_peak_0 0 = true) ∧ (decode dsL_peak_0 2 = .ok (.iconst 0, 1) ∧ okop dsL_peak_0 2 = true) ∧ (decode dsL_peak_0 3 = .ok (.aload_n 0, 1) ∧ okop dsL_peak_0 3 = true) ∧ (decode dsL_peak_0 4 = .ok (.iload_n 1, 1) ∧ okop dsL_peak_0 4 = true) ∧ (decode dsL_peak_0 5 = .ok (.iload_n 2, 1) ∧ okop dsL_peak_0 5 = true) ∧ (decode dsL_peak_0 6 = .ok (.iload_n 3, 1) ∧ okop dsL_peak_0 6 = true) ∧ (decode dsL_peak_0 7 = .ok (.invokevirtual 157, 3) ∧ okop dsL_peak_0 7 = true) ∧ (decode dsL_peak_0 10 = .ok (.i2l, 1) ∧ okop dsL_peak_0 10 = true) ∧ (decode dsL_peak_0 11 = .ok (.lastore, 1) ∧ okop dsL_peak_0 11 = true) ∧ (decode dsL_peak_0 12 = .ok (.goto 15, 3) ∧ okop dsL_peak_0 12 = true) := by decide +kernel
theorem dL_peak_0 : decode cL_peak 0 = .ok (.aload 4, 2) := dgq (p := 0) daL_peak_0 dbL_peak_0.1
theorem dL_peak_2 : decode cL_peak 2 = .ok (.iconst 0, 1) := dgq (p := 2) daL_peak_0 dbL_peak_0.2.1
theorem dL_peak_3 : decode cL_peak 3 = .ok (.aload_n 0, 1) := dgq (p := 3) daL_peak_0 dbL_peak_0.2.2.1
theorem dL_peak_4 : decode cL_peak 4 = .ok (.iload_n 1, 1) := dgq (p := 4) daL_peak_0 dbL_peak_0.2.2.2.1
theorem dL_peak_5 : decode cL_peak 5 = .ok (.iload_n 2, 1) := dgq (p := 5) daL_peak_0 dbL_peak_0.2.2.2.2.1
theorem dL_peak_6 : decode cL_peak 6 = .ok (.iload_n 3, 1) := dgq (p := 6) daL_peak_0 dbL_peak_0.2.2.2.2.2.1
theorem dL_peak_7 : decode cL_peak 7 = .ok (.invokevirtual 157, 3) := dgq (p := 7) daL_peak_0 dbL_peak_0.2.2.2.2.2.2.1
theorem dL_peak_10 : decode cL_peak 10 = .ok (.i2l, 1) := dgq (p := 10) daL_peak_0 dbL_peak_0.2.2.2.2.2.2.2.1
theorem dL_peak_11 : decode cL_peak 11 = .ok (.lastore, 1) := dgq (p := 11) daL_peak_0 dbL_peak_0.2.2.2.2.2.2.2.2.1
theorem dL_peak_12 : decode cL_peak 12 = .ok (.goto 15, 3) := dgq (p := 12) daL_peak_0 dbL_peak_0.2.2.2.2.2.2.2.2.2
def dsL_peak_15 : ByteArray := ⟨#[58, 5, 4, 172, 58, 5, 5, 172, 58, 5, 6, 172, 3]⟩
theorem daL_peak_15 : agB cL_peak dsL_peak_15 15 := agB_of (n := 13) (by decide +kernel)
theorem dbL_peak_15 : (decode dsL_peak_15 0 = .ok (.astore 5, 2) ∧ okop dsL_peak_15 0 = true) ∧ (decode dsL_peak_15 2 = .ok (.iconst 1, 1) ∧ okop dsL_peak_15 2 = true) ∧ (decode dsL_peak_15 3 = .ok (.ireturn, 1) ∧ okop dsL_peak_15 3 = true) ∧ (decode dsL_peak_15 4 = .ok (.astore 5, 2) ∧ okop dsL_peak_15 4 = true) ∧ (decode dsL_peak_15 6 = .ok (.iconst 2, 1) ∧ okop dsL_peak_15 6 = true) ∧ (decode dsL_peak_15 7 = .ok (.ireturn, 1) ∧ okop dsL_peak_15 7 = true) ∧ (decode dsL_peak_15 8 = .ok (.astore 5, 2) ∧ okop dsL_peak_15 8 = true) ∧ (decode dsL_peak_15 10 = .ok (.iconst 3, 1) ∧ okop dsL_peak_15 10 = true) ∧ (decode dsL_peak_15 11 = .ok (.ireturn, 1) ∧ okop dsL_peak_15 11 = true) ∧ (decode dsL_peak_15 12 = .ok (.iconst 0, 1) ∧ okop dsL_peak_15 12 = true) := by decide +kernel
theorem dL_peak_15 : decode cL_peak 15 = .ok (.astore 5, 2) := dgq (p := 0) daL_peak_15 dbL_peak_15.1
theorem dL_peak_17 : decode cL_peak 17 = .ok (.iconst 1, 1) := dgq (p := 2) daL_peak_15 dbL_peak_15.2.1
theorem dL_peak_18 : decode cL_peak 18 = .ok (.ireturn, 1) := dgq (p := 3) daL_peak_15 dbL_peak_15.2.2.1
theorem dL_peak_19 : decode cL_peak 19 = .ok (.astore 5, 2) := dgq (p := 4) daL_peak_15 dbL_peak_15.2.2.2.1
theorem dL_peak_21 : decode cL_peak 21 = .ok (.iconst 2, 1) := dgq (p := 6) daL_peak_15 dbL_peak_15.2.2.2.2.1
theorem dL_peak_22 : decode cL_peak 22 = .ok (.ireturn, 1) := dgq (p := 7) daL_peak_15 dbL_peak_15.2.2.2.2.2.1
theorem dL_peak_23 : decode cL_peak 23 = .ok (.astore 5, 2) := dgq (p := 8) daL_peak_15 dbL_peak_15.2.2.2.2.2.2.1
theorem dL_peak_25 : decode cL_peak 25 = .ok (.iconst 3, 1) := dgq (p := 10) daL_peak_15 dbL_peak_15.2.2.2.2.2.2.2.1
theorem dL_peak_26 : decode cL_peak 26 = .ok (.ireturn, 1) := dgq (p := 11) daL_peak_15 dbL_peak_15.2.2.2.2.2.2.2.2.1
theorem dL_peak_27 : decode cL_peak 27 = .ok (.iconst 0, 1) := dgq (p := 12) daL_peak_15 dbL_peak_15.2.2.2.2.2.2.2.2.2
theorem dL_peak_28 : decode cL_peak 28 = .ok (.ireturn, 1) := by decide +kernel
set_option maxRecDepth 20000 in
theorem ggL_quietest_X9_quietest : GoodIn wsL_quietest wsX9_quietest := goodIn_ca (goodIn_ca (goodIn_ca (goodIn_ca (goodIn_ca (goodIn_ca (goodIn_ca (goodIn_ca (goodIn_q _ [7, 8, 9, 10, 11, 12, 6, 13, 14, 15, 16, 17, 18, 19, 20, 21, 22, 23, 24, 25, 26, 27, 28, 29, 30, 31, 32, 33, 34, 35, 36, 37, 38, 39, 40, 41, 42, 43, 44, 45, 46, 47, 48, 49, 50, 51, 52, 53, 54, 55, 56, 57, 58, 59, 60, 61, 62, 63, 64, 65, 66, 67, 68, 69, 70, 71] rfl (by decide +kernel)) (goodIn_sub (fun _ h => (List.mem_cons_of_mem _ (List.mem_append_left _ (List.mem_append_left _ (List.mem_append_left _ (List.mem_append_left _ (List.mem_append_left _ (List.mem_append_left _ (List.mem_append_left _ (List.mem_append_right _ h)))))))))) tg_wsX90)) (goodIn_sub (fun _ h => (List.mem_cons_of_mem _ (List.mem_append_left _ (List.mem_append_left _ (List.mem_append_left _ (List.mem_append_left _ (List.mem_append_left _ (List.mem_append_left _ (List.mem_append_right _ h))))))))) tg_wsX20)) (goodIn_sub (fun _ h => (List.mem_cons_of_mem _ (List.mem_append_left _ (List.mem_append_left _ (List.mem_append_left _ (List.mem_append_left _ (List.mem_append_left _ (List.mem_append_right _ h)))))))) tg_wsX10)) (goodIn_sub (fun _ h => (List.mem_cons_of_mem _ (List.mem_append_left _ (List.mem_append_left _ (List.mem_append_left _ (List.mem_append_left _ (List.mem_append_right _ h))))))) tg_wsX60)) (goodIn_sub (fun _ h => List.mem_cons_of_mem _ (List.mem_append_left _ (List.mem_append_left _ (List.mem_append_right _ h)))) (by decide +kernel))) (goodIn_sub (fun _ h => List.mem_cons_of_mem _ (List.mem_append_left _ (List.mem_append_right _ h))) (by decide +kernel))) (goodIn_sub (fun _ h => List.mem_cons_of_mem _ (List.mem_append_right _ h)) (by decide +kernel))) (goodIn_sub (fun _ h => List.mem_cons_of_mem _ (List.mem_append_left _ (List.mem_append_left _ (List.mem_append_left _ (List.mem_append_right _ h))))) (by decide +kernel))
set_option maxRecDepth 20000 in
theorem gL_quietest_X9_quietest : GoodIn wsL_quietest (wsV RL 160 RX9 yX9_quietest wsX9_quietest) := goodIn_app (goodIn_q _ [3, 4, 5, 6] rfl (by decide +kernel)) ggL_quietest_X9_quietest
def dsL_quietest_0 : ByteArray := ⟨#[45, 3, 42, 27, 28, 182, 0, 160, 133, 80, 167, 0, 11, 58, 4]⟩
theorem daL_quietest_0 : agB cL_quietest dsL_quietest_0 0 := agB_of (n := 15) (by decide +kernel)
theorem dbL_quietest_0 : (decode dsL_quietest_0 0 = .ok (.aload_n 3, 1) ∧ okop dsL_quietest_0 0 = true) ∧ (decode dsL_quietest_0 1 = .ok (.iconst 0, 1) ∧ okop dsL_quietest_0 1 = true) ∧ (decode dsL_quietest_0 2 = .ok (.aload_n 0, 1) ∧ okop dsL_quietest_0 2 = true) ∧ (decode dsL_quietest_0 3 = .ok (.iload_n 1, 1) ∧ okop dsL_quietest_0 3 = true) ∧ (decode dsL_quietest_0 4 = .ok (.iload_n 2, 1) ∧ okop dsL_quietest_0 4 = true) ∧ (decode dsL_quietest_0 5 = .ok (.invokevirtual 160, 3) ∧ okop dsL_quietest_0 5 = true) ∧ (decode dsL_quietest_0 8 = .ok (.i2l, 1) ∧ okop dsL_quietest_0 8 = true) ∧ (decode dsL_quietest_0 9 = .ok (.lastore, 1) ∧ okop dsL_quietest_0 9 = true) ∧ (decode dsL_quietest_0 10 = .ok (.goto 11, 3) ∧ okop dsL_quietest_0 10 = true) ∧ (decode dsL_quietest_0 13 = .ok (.astore 4, 2) ∧ okop dsL_quietest_0 13 = true) := by decide +kernel
theorem dL_quietest_0 : decode cL_quietest 0 = .ok (.aload_n 3, 1) := dgq (p := 0) daL_quietest_0 dbL_quietest_0.1
theorem dL_quietest_1 : decode cL_quietest 1 = .ok (.iconst 0, 1) := dgq (p := 1) daL_quietest_0 dbL_quietest_0.2.1
theorem dL_quietest_2 : decode cL_quietest 2 = .ok (.aload_n 0, 1) := dgq (p := 2) daL_quietest_0 dbL_quietest_0.2.2.1
theorem dL_quietest_3 : decode cL_quietest 3 = .ok (.iload_n 1, 1) := dgq (p := 3) daL_quietest_0 dbL_quietest_0.2.2.2.1
theorem dL_quietest_4 : decode cL_quietest 4 = .ok (.iload_n 2, 1) := dgq (p := 4) daL_quietest_0 dbL_quietest_0.2.2.2.2.1
theorem dL_quietest_5 : decode cL_quietest 5 = .ok (.invokevirtual 160, 3) := dgq (p := 5) daL_quietest_0 dbL_quietest_0.2.2.2.2.2.1
theorem dL_quietest_8 : decode cL_quietest 8 = .ok (.i2l, 1) := dgq (p := 8) daL_quietest_0 dbL_quietest_0.2.2.2.2.2.2.1
theorem dL_quietest_9 : decode cL_quietest 9 = .ok (.lastore, 1) := dgq (p := 9) daL_quietest_0 dbL_quietest_0.2.2.2.2.2.2.2.1
theorem dL_quietest_10 : decode cL_quietest 10 = .ok (.goto 11, 3) := dgq (p := 10) daL_quietest_0 dbL_quietest_0.2.2.2.2.2.2.2.2.1
theorem dL_quietest_13 : decode cL_quietest 13 = .ok (.astore 4, 2) := dgq (p := 13) daL_quietest_0 dbL_quietest_0.2.2.2.2.2.2.2.2.2
def dsL_quietest_15 : ByteArray := ⟨#[4, 172, 58, 4, 5, 172, 3, 172]⟩
theorem daL_quietest_15 : agB cL_quietest dsL_quietest_15 15 := agB_of (n := 8) (by decide +kernel)
theorem dbL_quietest_15 : (decode dsL_quietest_15 0 = .ok (.iconst 1, 1) ∧ okop dsL_quietest_15 0 = true) ∧ (decode dsL_quietest_15 1 = .ok (.ireturn, 1) ∧ okop dsL_quietest_15 1 = true) ∧ (decode dsL_quietest_15 2 = .ok (.astore 4, 2) ∧ okop dsL_quietest_15 2 = true) ∧ (decode dsL_quietest_15 4 = .ok (.iconst 2, 1) ∧ okop dsL_quietest_15 4 = true) ∧ (decode dsL_quietest_15 5 = .ok (.ireturn, 1) ∧ okop dsL_quietest_15 5 = true) ∧ (decode dsL_quietest_15 6 = .ok (.iconst 0, 1) ∧ okop dsL_quietest_15 6 = true) ∧ (decode dsL_quietest_15 7 = .ok (.ireturn, 1) ∧ okop dsL_quietest_15 7 = true) := by decide +kernel
theorem dL_quietest_15 : decode cL_quietest 15 = .ok (.iconst 1, 1) := dgq (p := 0) daL_quietest_15 dbL_quietest_15.1
theorem dL_quietest_16 : decode cL_quietest 16 = .ok (.ireturn, 1) := dgq (p := 1) daL_quietest_15 dbL_quietest_15.2.1
theorem dL_quietest_17 : decode cL_quietest 17 = .ok (.astore 4, 2) := dgq (p := 2) daL_quietest_15 dbL_quietest_15.2.2.1
theorem dL_quietest_19 : decode cL_quietest 19 = .ok (.iconst 2, 1) := dgq (p := 4) daL_quietest_15 dbL_quietest_15.2.2.2.1
theorem dL_quietest_20 : decode cL_quietest 20 = .ok (.ireturn, 1) := dgq (p := 5) daL_quietest_15 dbL_quietest_15.2.2.2.2.1
theorem dL_quietest_21 : decode cL_quietest 21 = .ok (.iconst 0, 1) := dgq (p := 6) daL_quietest_15 dbL_quietest_15.2.2.2.2.2.1
theorem dL_quietest_22 : decode cL_quietest 22 = .ok (.ireturn, 1) := dgq (p := 7) daL_quietest_15 dbL_quietest_15.2.2.2.2.2.2
set_option maxRecDepth 20000 in
theorem ggL_note_X9_note : GoodIn wsL_note wsX9_note := goodIn_ca (goodIn_ca (goodIn_ca (goodIn_ca (goodIn_ca (goodIn_ca (goodIn_ca (goodIn_ca (goodIn_q _ [8, 9, 10, 11, 12, 13, 14, 15, 16, 7, 17, 18, 19, 20, 21, 22, 23, 24, 25, 26, 27, 28, 29, 30, 31, 32, 33, 34, 35, 36, 37, 38, 39, 40, 41, 42, 43, 44, 45, 46, 47, 48, 49, 50, 51, 52, 53, 54, 55, 56, 57] rfl (by decide +kernel)) (goodIn_sub (fun _ h => (List.mem_cons_of_mem _ (List.mem_append_left _ (List.mem_append_left _ (List.mem_append_left _ (List.mem_append_left _ (List.mem_append_left _ (List.mem_append_left _ (List.mem_append_left _ (List.mem_append_right _ h)))))))))) tg_wsX20)) (goodIn_sub (fun _ h => (List.mem_cons_of_mem _ (List.mem_append_left _ (List.mem_append_left _ (List.mem_append_left _ (List.mem_append_left _ (List.mem_append_left _ (List.mem_append_left _ (List.mem_append_right _ h))))))))) tg_wsX90)) (goodIn_sub (fun _ h => (List.mem_cons_of_mem _ (List.mem_append_left _ (List.mem_append_left _ (List.mem_append_left _ (List.mem_append_left _ (List.mem_append_left _ (List.mem_append_right _ h)))))))) tg_wsX10)) (goodIn_sub (fun _ h => List.mem_cons_of_mem _ (List.mem_append_left _ (List.mem_append_left _ (List.mem_append_left _ (List.mem_append_right _ h))))) (by decide +kernel))) (goodIn_sub (fun _ h => List.mem_cons_of_mem _ (List.mem_append_left _ (List.mem_append_left _ (List.mem_append_right _ h)))) (by decide +kernel))) (goodIn_sub (fun _ h => List.mem_cons_of_mem _ (List.mem_append_left _ (List.mem_append_right _ h))) (by decide +kernel))) (goodIn_sub (fun _ h => List.mem_cons_of_mem _ (List.mem_append_right _ h)) (by decide +kernel))) (goodIn_sub (fun _ h => List.mem_cons_of_mem _ (List.mem_append_left _ (List.mem_append_left _ (List.mem_append_left _ (List.mem_append_left _ (List.mem_append_right _ h)))))) (by decide +kernel))
set_option maxRecDepth 20000 in
theorem gL_note_X9_note : GoodIn wsL_note (wsV RL 163 RX9 yX9_note wsX9_note) := goodIn_app (goodIn_q _ [4, 5, 6, 7] rfl (by decide +kernel)) ggL_note_X9_note
def dsL_note_0 : ByteArray := ⟨#[25, 4, 3, 42, 27, 28, 29, 182, 0, 163, 133, 80, 167, 0, 15]⟩
theorem daL_note_0 : agB cL_note dsL_note_0 0 := agB_of (n := 15) (by decide +kernel)
theorem dbL_note_0 : (decode dsL_note_0 0 = .ok (.aload 4, 2) ∧ okop dsL_note_0 0 = true) ∧ (decode dsL_note_0 2 = .ok (.iconst 0, 1) ∧ okop dsL_note_0 2 = true) ∧ (decode dsL_note_0 3 = .ok (.aload_n 0, 1) ∧ okop dsL_note_0 3 = true) ∧ (decode dsL_note_0 4 = .ok (.iload_n 1, 1) ∧ okop dsL_note_0 4 = true) ∧ (decode dsL_note_0 5 = .ok (.iload_n 2, 1) ∧ okop dsL_note_0 5 = true) ∧ (decode dsL_note_0 6 = .ok (.iload_n 3, 1) ∧ okop dsL_note_0 6 = true) ∧ (decode dsL_note_0 7 = .ok (.invokevirtual 163, 3) ∧ okop dsL_note_0 7 = true) ∧ (decode dsL_note_0 10 = .ok (.i2l, 1) ∧ okop dsL_note_0 10 = true) ∧ (decode dsL_note_0 11 = .ok (.lastore, 1) ∧ okop dsL_note_0 11 = true) ∧ (decode dsL_note_0 12 = .ok (.goto 15, 3) ∧ okop dsL_note_0 12 = true) := by decide +kernel
theorem dL_note_0 : decode cL_note 0 = .ok (.aload 4, 2) := dgq (p := 0) daL_note_0 dbL_note_0.1
theorem dL_note_2 : decode cL_note 2 = .ok (.iconst 0, 1) := dgq (p := 2) daL_note_0 dbL_note_0.2.1
theorem dL_note_3 : decode cL_note 3 = .ok (.aload_n 0, 1) := dgq (p := 3) daL_note_0 dbL_note_0.2.2.1
theorem dL_note_4 : decode cL_note 4 = .ok (.iload_n 1, 1) := dgq (p := 4) daL_note_0 dbL_note_0.2.2.2.1
theorem dL_note_5 : decode cL_note 5 = .ok (.iload_n 2, 1) := dgq (p := 5) daL_note_0 dbL_note_0.2.2.2.2.1
theorem dL_note_6 : decode cL_note 6 = .ok (.iload_n 3, 1) := dgq (p := 6) daL_note_0 dbL_note_0.2.2.2.2.2.1
theorem dL_note_7 : decode cL_note 7 = .ok (.invokevirtual 163, 3) := dgq (p := 7) daL_note_0 dbL_note_0.2.2.2.2.2.2.1
theorem dL_note_10 : decode cL_note 10 = .ok (.i2l, 1) := dgq (p := 10) daL_note_0 dbL_note_0.2.2.2.2.2.2.2.1
theorem dL_note_11 : decode cL_note 11 = .ok (.lastore, 1) := dgq (p := 11) daL_note_0 dbL_note_0.2.2.2.2.2.2.2.2.1
theorem dL_note_12 : decode cL_note 12 = .ok (.goto 15, 3) := dgq (p := 12) daL_note_0 dbL_note_0.2.2.2.2.2.2.2.2.2
def dsL_note_15 : ByteArray := ⟨#[58, 5, 4, 172, 58, 5, 5, 172, 58, 5, 6, 172, 3]⟩
theorem daL_note_15 : agB cL_note dsL_note_15 15 := agB_of (n := 13) (by decide +kernel)
theorem dbL_note_15 : (decode dsL_note_15 0 = .ok (.astore 5, 2) ∧ okop dsL_note_15 0 = true) ∧ (decode dsL_note_15 2 = .ok (.iconst 1, 1) ∧ okop dsL_note_15 2 = true) ∧ (decode dsL_note_15 3 = .ok (.ireturn, 1) ∧ okop dsL_note_15 3 = true) ∧ (decode dsL_note_15 4 = .ok (.astore 5, 2) ∧ okop dsL_note_15 4 = true) ∧ (decode dsL_note_15 6 = .ok (.iconst 2, 1) ∧ okop dsL_note_15 6 = true) ∧ (decode dsL_note_15 7 = .ok (.ireturn, 1) ∧ okop dsL_note_15 7 = true) ∧ (decode dsL_note_15 8 = .ok (.astore 5, 2) ∧ okop dsL_note_15 8 = true) ∧ (decode dsL_note_15 10 = .ok (.iconst 3, 1) ∧ okop dsL_note_15 10 = true) ∧ (decode dsL_note_15 11 = .ok (.ireturn, 1) ∧ okop dsL_note_15 11 = true) ∧ (decode dsL_note_15 12 = .ok (.iconst 0, 1) ∧ okop dsL_note_15 12 = true) := by decide +kernel
theorem dL_note_15 : decode cL_note 15 = .ok (.astore 5, 2) := dgq (p := 0) daL_note_15 dbL_note_15.1
theorem dL_note_17 : decode cL_note 17 = .ok (.iconst 1, 1) := dgq (p := 2) daL_note_15 dbL_note_15.2.1
theorem dL_note_18 : decode cL_note 18 = .ok (.ireturn, 1) := dgq (p := 3) daL_note_15 dbL_note_15.2.2.1
theorem dL_note_19 : decode cL_note 19 = .ok (.astore 5, 2) := dgq (p := 4) daL_note_15 dbL_note_15.2.2.2.1
theorem dL_note_21 : decode cL_note 21 = .ok (.iconst 2, 1) := dgq (p := 6) daL_note_15 dbL_note_15.2.2.2.2.1
theorem dL_note_22 : decode cL_note 22 = .ok (.ireturn, 1) := dgq (p := 7) daL_note_15 dbL_note_15.2.2.2.2.2.1
theorem dL_note_23 : decode cL_note 23 = .ok (.astore 5, 2) := dgq (p := 8) daL_note_15 dbL_note_15.2.2.2.2.2.2.1
theorem dL_note_25 : decode cL_note 25 = .ok (.iconst 3, 1) := dgq (p := 10) daL_note_15 dbL_note_15.2.2.2.2.2.2.2.1
theorem dL_note_26 : decode cL_note 26 = .ok (.ireturn, 1) := dgq (p := 11) daL_note_15 dbL_note_15.2.2.2.2.2.2.2.2.1
theorem dL_note_27 : decode cL_note 27 = .ok (.iconst 0, 1) := dgq (p := 12) daL_note_15 dbL_note_15.2.2.2.2.2.2.2.2.2
theorem dL_note_28 : decode cL_note 28 = .ok (.ireturn, 1) := by decide +kernel
set_option maxRecDepth 20000 in
theorem ggL_hunts_X9_hunts : GoodIn wsL_hunts wsX9_hunts := goodIn_ca (goodIn_ca (goodIn_ca (goodIn_ca (goodIn_ca (goodIn_q _ [7, 8, 9, 10, 11, 6, 12, 13, 14, 15, 16, 17, 18, 19, 20, 21, 22, 23, 24, 25, 26, 27, 28, 29, 30, 31, 32, 33, 34, 35, 36, 37, 38] rfl (by decide +kernel)) (goodIn_sub (fun _ h => (List.mem_cons_of_mem _ (List.mem_append_left _ (List.mem_append_left _ (List.mem_append_left _ (List.mem_append_left _ (List.mem_append_left _ (List.mem_append_right _ h)))))))) tg_wsX20)) (goodIn_sub (fun _ h => (List.mem_cons_of_mem _ (List.mem_append_left _ (List.mem_append_left _ (List.mem_append_left _ (List.mem_append_left _ (List.mem_append_right _ h))))))) tg_wsX90)) (goodIn_sub (fun _ h => List.mem_cons_of_mem _ (List.mem_append_left _ (List.mem_append_left _ (List.mem_append_right _ h)))) (by decide +kernel))) (goodIn_sub (fun _ h => List.mem_cons_of_mem _ (List.mem_append_left _ (List.mem_append_right _ h))) (by decide +kernel))) (goodIn_sub (fun _ h => List.mem_cons_of_mem _ (List.mem_append_right _ h)) (by decide +kernel))
set_option maxRecDepth 20000 in
theorem gL_hunts_X9_hunts : GoodIn wsL_hunts (wsV RL 166 RX9 yX9_hunts wsX9_hunts) := goodIn_app (goodIn_q _ [3, 4, 5, 6] rfl (by decide +kernel)) ggL_hunts_X9_hunts
def dsL_hunts_0 : ByteArray := ⟨#[45, 3, 42, 27, 28, 182, 0, 166, 153, 0, 7, 10, 167, 0, 4, 9]⟩
theorem daL_hunts_0 : agB cL_hunts dsL_hunts_0 0 := agB_of (n := 16) (by decide +kernel)
theorem dbL_hunts_0 : (decode dsL_hunts_0 0 = .ok (.aload_n 3, 1) ∧ okop dsL_hunts_0 0 = true) ∧ (decode dsL_hunts_0 1 = .ok (.iconst 0, 1) ∧ okop dsL_hunts_0 1 = true) ∧ (decode dsL_hunts_0 2 = .ok (.aload_n 0, 1) ∧ okop dsL_hunts_0 2 = true) ∧ (decode dsL_hunts_0 3 = .ok (.iload_n 1, 1) ∧ okop dsL_hunts_0 3 = true) ∧ (decode dsL_hunts_0 4 = .ok (.iload_n 2, 1) ∧ okop dsL_hunts_0 4 = true) ∧ (decode dsL_hunts_0 5 = .ok (.invokevirtual 166, 3) ∧ okop dsL_hunts_0 5 = true) ∧ (decode dsL_hunts_0 8 = .ok (.ifCond .eq 7, 3) ∧ okop dsL_hunts_0 8 = true) ∧ (decode dsL_hunts_0 11 = .ok (.lconst 1, 1) ∧ okop dsL_hunts_0 11 = true) ∧ (decode dsL_hunts_0 12 = .ok (.goto 4, 3) ∧ okop dsL_hunts_0 12 = true) ∧ (decode dsL_hunts_0 15 = .ok (.lconst 0, 1) ∧ okop dsL_hunts_0 15 = true) := by decide +kernel
theorem dL_hunts_0 : decode cL_hunts 0 = .ok (.aload_n 3, 1) := dgq (p := 0) daL_hunts_0 dbL_hunts_0.1
theorem dL_hunts_1 : decode cL_hunts 1 = .ok (.iconst 0, 1) := dgq (p := 1) daL_hunts_0 dbL_hunts_0.2.1
theorem dL_hunts_2 : decode cL_hunts 2 = .ok (.aload_n 0, 1) := dgq (p := 2) daL_hunts_0 dbL_hunts_0.2.2.1
theorem dL_hunts_3 : decode cL_hunts 3 = .ok (.iload_n 1, 1) := dgq (p := 3) daL_hunts_0 dbL_hunts_0.2.2.2.1
theorem dL_hunts_4 : decode cL_hunts 4 = .ok (.iload_n 2, 1) := dgq (p := 4) daL_hunts_0 dbL_hunts_0.2.2.2.2.1
theorem dL_hunts_5 : decode cL_hunts 5 = .ok (.invokevirtual 166, 3) := dgq (p := 5) daL_hunts_0 dbL_hunts_0.2.2.2.2.2.1
theorem dL_hunts_8 : decode cL_hunts 8 = .ok (.ifCond .eq 7, 3) := dgq (p := 8) daL_hunts_0 dbL_hunts_0.2.2.2.2.2.2.1
theorem dL_hunts_11 : decode cL_hunts 11 = .ok (.lconst 1, 1) := dgq (p := 11) daL_hunts_0 dbL_hunts_0.2.2.2.2.2.2.2.1
theorem dL_hunts_12 : decode cL_hunts 12 = .ok (.goto 4, 3) := dgq (p := 12) daL_hunts_0 dbL_hunts_0.2.2.2.2.2.2.2.2.1
theorem dL_hunts_15 : decode cL_hunts 15 = .ok (.lconst 0, 1) := dgq (p := 15) daL_hunts_0 dbL_hunts_0.2.2.2.2.2.2.2.2.2
def dsL_hunts_16 : ByteArray := ⟨#[80, 167, 0, 11, 58, 4, 4, 172, 58, 4, 5, 172, 3, 172]⟩
theorem daL_hunts_16 : agB cL_hunts dsL_hunts_16 16 := agB_of (n := 14) (by decide +kernel)
theorem dbL_hunts_16 : (decode dsL_hunts_16 0 = .ok (.lastore, 1) ∧ okop dsL_hunts_16 0 = true) ∧ (decode dsL_hunts_16 1 = .ok (.goto 11, 3) ∧ okop dsL_hunts_16 1 = true) ∧ (decode dsL_hunts_16 4 = .ok (.astore 4, 2) ∧ okop dsL_hunts_16 4 = true) ∧ (decode dsL_hunts_16 6 = .ok (.iconst 1, 1) ∧ okop dsL_hunts_16 6 = true) ∧ (decode dsL_hunts_16 7 = .ok (.ireturn, 1) ∧ okop dsL_hunts_16 7 = true) ∧ (decode dsL_hunts_16 8 = .ok (.astore 4, 2) ∧ okop dsL_hunts_16 8 = true) ∧ (decode dsL_hunts_16 10 = .ok (.iconst 2, 1) ∧ okop dsL_hunts_16 10 = true) ∧ (decode dsL_hunts_16 11 = .ok (.ireturn, 1) ∧ okop dsL_hunts_16 11 = true) ∧ (decode dsL_hunts_16 12 = .ok (.iconst 0, 1) ∧ okop dsL_hunts_16 12 = true) ∧ (decode dsL_hunts_16 13 = .ok (.ireturn, 1) ∧ okop dsL_hunts_16 13 = true) := by decide +kernel
theorem dL_hunts_16 : decode cL_hunts 16 = .ok (.lastore, 1) := dgq (p := 0) daL_hunts_16 dbL_hunts_16.1
theorem dL_hunts_17 : decode cL_hunts 17 = .ok (.goto 11, 3) := dgq (p := 1) daL_hunts_16 dbL_hunts_16.2.1
theorem dL_hunts_20 : decode cL_hunts 20 = .ok (.astore 4, 2) := dgq (p := 4) daL_hunts_16 dbL_hunts_16.2.2.1
theorem dL_hunts_22 : decode cL_hunts 22 = .ok (.iconst 1, 1) := dgq (p := 6) daL_hunts_16 dbL_hunts_16.2.2.2.1
theorem dL_hunts_23 : decode cL_hunts 23 = .ok (.ireturn, 1) := dgq (p := 7) daL_hunts_16 dbL_hunts_16.2.2.2.2.1
theorem dL_hunts_24 : decode cL_hunts 24 = .ok (.astore 4, 2) := dgq (p := 8) daL_hunts_16 dbL_hunts_16.2.2.2.2.2.1
theorem dL_hunts_26 : decode cL_hunts 26 = .ok (.iconst 2, 1) := dgq (p := 10) daL_hunts_16 dbL_hunts_16.2.2.2.2.2.2.1
theorem dL_hunts_27 : decode cL_hunts 27 = .ok (.ireturn, 1) := dgq (p := 11) daL_hunts_16 dbL_hunts_16.2.2.2.2.2.2.2.1
theorem dL_hunts_28 : decode cL_hunts 28 = .ok (.iconst 0, 1) := dgq (p := 12) daL_hunts_16 dbL_hunts_16.2.2.2.2.2.2.2.2.1
theorem dL_hunts_29 : decode cL_hunts 29 = .ok (.ireturn, 1) := dgq (p := 13) daL_hunts_16 dbL_hunts_16.2.2.2.2.2.2.2.2.2
set_option maxRecDepth 20000 in
theorem ggL_bears_X9_bears : GoodIn wsL_bears wsX9_bears := goodIn_ca (goodIn_ca (goodIn_ca (goodIn_ca (goodIn_q _ [6, 7, 8, 9, 5, 10, 11, 12, 13, 14, 15, 16, 17, 18, 19, 20, 21, 22, 23, 24, 25, 26, 27, 28, 29, 30, 31, 32, 33, 34, 35, 36, 37, 38, 39, 40, 41, 42, 43] rfl (by decide +kernel)) (goodIn_sub (fun _ h => (List.mem_cons_of_mem _ (List.mem_append_left _ (List.mem_append_left _ (List.mem_append_left _ (List.mem_append_left _ (List.mem_append_right _ h))))))) tg_wsX90)) (goodIn_sub (fun _ h => (List.mem_cons_of_mem _ (List.mem_append_left _ (List.mem_append_left _ (List.mem_append_left _ (List.mem_append_right _ h)))))) tg_wsX20)) (goodIn_sub (fun _ h => List.mem_cons_of_mem _ (List.mem_append_left _ (List.mem_append_right _ h))) (by decide +kernel))) (goodIn_sub (fun _ h => List.mem_cons_of_mem _ (List.mem_append_right _ h)) (by decide +kernel))
set_option maxRecDepth 20000 in
theorem gL_bears_X9_bears : GoodIn wsL_bears (wsV RL 169 RX9 yX9_bears wsX9_bears) := goodIn_app (goodIn_q _ [2, 3, 4, 5] rfl (by decide +kernel)) ggL_bears_X9_bears
def dsL_bears_0 : ByteArray := ⟨#[44, 3, 42, 27, 182, 0, 169, 133, 80, 167, 0, 6, 78, 4]⟩
theorem daL_bears_0 : agB cL_bears dsL_bears_0 0 := agB_of (n := 14) (by decide +kernel)
theorem dbL_bears_0 : (decode dsL_bears_0 0 = .ok (.aload_n 2, 1) ∧ okop dsL_bears_0 0 = true) ∧ (decode dsL_bears_0 1 = .ok (.iconst 0, 1) ∧ okop dsL_bears_0 1 = true) ∧ (decode dsL_bears_0 2 = .ok (.aload_n 0, 1) ∧ okop dsL_bears_0 2 = true) ∧ (decode dsL_bears_0 3 = .ok (.iload_n 1, 1) ∧ okop dsL_bears_0 3 = true) ∧ (decode dsL_bears_0 4 = .ok (.invokevirtual 169, 3) ∧ okop dsL_bears_0 4 = true) ∧ (decode dsL_bears_0 7 = .ok (.i2l, 1) ∧ okop dsL_bears_0 7 = true) ∧ (decode dsL_bears_0 8 = .ok (.lastore, 1) ∧ okop dsL_bears_0 8 = true) ∧ (decode dsL_bears_0 9 = .ok (.goto 6, 3) ∧ okop dsL_bears_0 9 = true) ∧ (decode dsL_bears_0 12 = .ok (.astore_n 3, 1) ∧ okop dsL_bears_0 12 = true) ∧ (decode dsL_bears_0 13 = .ok (.iconst 1, 1) ∧ okop dsL_bears_0 13 = true) := by decide +kernel
theorem dL_bears_0 : decode cL_bears 0 = .ok (.aload_n 2, 1) := dgq (p := 0) daL_bears_0 dbL_bears_0.1
theorem dL_bears_1 : decode cL_bears 1 = .ok (.iconst 0, 1) := dgq (p := 1) daL_bears_0 dbL_bears_0.2.1
theorem dL_bears_2 : decode cL_bears 2 = .ok (.aload_n 0, 1) := dgq (p := 2) daL_bears_0 dbL_bears_0.2.2.1
theorem dL_bears_3 : decode cL_bears 3 = .ok (.iload_n 1, 1) := dgq (p := 3) daL_bears_0 dbL_bears_0.2.2.2.1
theorem dL_bears_4 : decode cL_bears 4 = .ok (.invokevirtual 169, 3) := dgq (p := 4) daL_bears_0 dbL_bears_0.2.2.2.2.1
theorem dL_bears_7 : decode cL_bears 7 = .ok (.i2l, 1) := dgq (p := 7) daL_bears_0 dbL_bears_0.2.2.2.2.2.1
theorem dL_bears_8 : decode cL_bears 8 = .ok (.lastore, 1) := dgq (p := 8) daL_bears_0 dbL_bears_0.2.2.2.2.2.2.1
theorem dL_bears_9 : decode cL_bears 9 = .ok (.goto 6, 3) := dgq (p := 9) daL_bears_0 dbL_bears_0.2.2.2.2.2.2.2.1
theorem dL_bears_12 : decode cL_bears 12 = .ok (.astore_n 3, 1) := dgq (p := 12) daL_bears_0 dbL_bears_0.2.2.2.2.2.2.2.2.1
theorem dL_bears_13 : decode cL_bears 13 = .ok (.iconst 1, 1) := dgq (p := 13) daL_bears_0 dbL_bears_0.2.2.2.2.2.2.2.2.2
def dsL_bears_14 : ByteArray := ⟨#[172, 3, 172]⟩
theorem daL_bears_14 : agB cL_bears dsL_bears_14 14 := agB_of (n := 3) (by decide +kernel)
theorem dbL_bears_14 : (decode dsL_bears_14 0 = .ok (.ireturn, 1) ∧ okop dsL_bears_14 0 = true) ∧ (decode dsL_bears_14 1 = .ok (.iconst 0, 1) ∧ okop dsL_bears_14 1 = true) ∧ (decode dsL_bears_14 2 = .ok (.ireturn, 1) ∧ okop dsL_bears_14 2 = true) := by decide +kernel
theorem dL_bears_14 : decode cL_bears 14 = .ok (.ireturn, 1) := dgq (p := 0) daL_bears_14 dbL_bears_14.1
theorem dL_bears_15 : decode cL_bears 15 = .ok (.iconst 0, 1) := dgq (p := 1) daL_bears_14 dbL_bears_14.2.1
theorem dL_bears_16 : decode cL_bears 16 = .ok (.ireturn, 1) := dgq (p := 2) daL_bears_14 dbL_bears_14.2.2
set_option maxRecDepth 20000 in
theorem ggL_life_X9_life : GoodIn wsL_life wsX9_life := goodIn_ca (goodIn_ca (goodIn_ca (goodIn_ca (goodIn_ca (goodIn_q _ [7, 8, 9, 10, 11, 6, 12, 13, 14, 15, 16, 17, 18, 19, 20, 21, 22, 23, 24, 25, 26, 27, 28, 29, 30, 31, 32, 33, 34, 35, 36, 37, 38, 39, 40, 41, 42, 43, 44, 45, 46, 47, 48, 49, 50, 51, 52, 53, 54, 55] rfl (by decide +kernel)) (goodIn_sub (fun _ h => (List.mem_cons_of_mem _ (List.mem_append_left _ (List.mem_append_left _ (List.mem_append_left _ (List.mem_append_left _ (List.mem_append_left _ (List.mem_append_right _ h)))))))) tg_wsX90)) (goodIn_sub (fun _ h => (List.mem_cons_of_mem _ (List.mem_append_left _ (List.mem_append_left _ (List.mem_append_left _ (List.mem_append_left _ (List.mem_append_right _ h))))))) tg_wsX20)) (goodIn_sub (fun _ h => List.mem_cons_of_mem _ (List.mem_append_left _ (List.mem_append_left _ (List.mem_append_right _ h)))) (by decide +kernel))) (goodIn_sub (fun _ h => List.mem_cons_of_mem _ (List.mem_append_left _ (List.mem_append_right _ h))) (by decide +kernel))) (goodIn_sub (fun _ h => List.mem_cons_of_mem _ (List.mem_append_right _ h)) (by decide +kernel))
set_option maxRecDepth 20000 in
theorem gL_life_X9_life : GoodIn wsL_life (wsV RL 172 RX9 yX9_life wsX9_life) := goodIn_app (goodIn_q _ [3, 4, 5, 6] rfl (by decide +kernel)) ggL_life_X9_life
def dsL_life_0 : ByteArray := ⟨#[45, 3, 42, 27, 28, 182, 0, 172, 80, 167, 0, 11, 58, 4, 4]⟩
theorem daL_life_0 : agB cL_life dsL_life_0 0 := agB_of (n := 15) (by decide +kernel)
theorem dbL_life_0 : (decode dsL_life_0 0 = .ok (.aload_n 3, 1) ∧ okop dsL_life_0 0 = true) ∧ (decode dsL_life_0 1 = .ok (.iconst 0, 1) ∧ okop dsL_life_0 1 = true) ∧ (decode dsL_life_0 2 = .ok (.aload_n 0, 1) ∧ okop dsL_life_0 2 = true) ∧ (decode dsL_life_0 3 = .ok (.iload_n 1, 1) ∧ okop dsL_life_0 3 = true) ∧ (decode dsL_life_0 4 = .ok (.iload_n 2, 1) ∧ okop dsL_life_0 4 = true) ∧ (decode dsL_life_0 5 = .ok (.invokevirtual 172, 3) ∧ okop dsL_life_0 5 = true) ∧ (decode dsL_life_0 8 = .ok (.lastore, 1) ∧ okop dsL_life_0 8 = true) ∧ (decode dsL_life_0 9 = .ok (.goto 11, 3) ∧ okop dsL_life_0 9 = true) ∧ (decode dsL_life_0 12 = .ok (.astore 4, 2) ∧ okop dsL_life_0 12 = true) ∧ (decode dsL_life_0 14 = .ok (.iconst 1, 1) ∧ okop dsL_life_0 14 = true) := by decide +kernel
theorem dL_life_0 : decode cL_life 0 = .ok (.aload_n 3, 1) := dgq (p := 0) daL_life_0 dbL_life_0.1
theorem dL_life_1 : decode cL_life 1 = .ok (.iconst 0, 1) := dgq (p := 1) daL_life_0 dbL_life_0.2.1
theorem dL_life_2 : decode cL_life 2 = .ok (.aload_n 0, 1) := dgq (p := 2) daL_life_0 dbL_life_0.2.2.1
theorem dL_life_3 : decode cL_life 3 = .ok (.iload_n 1, 1) := dgq (p := 3) daL_life_0 dbL_life_0.2.2.2.1
theorem dL_life_4 : decode cL_life 4 = .ok (.iload_n 2, 1) := dgq (p := 4) daL_life_0 dbL_life_0.2.2.2.2.1
theorem dL_life_5 : decode cL_life 5 = .ok (.invokevirtual 172, 3) := dgq (p := 5) daL_life_0 dbL_life_0.2.2.2.2.2.1
theorem dL_life_8 : decode cL_life 8 = .ok (.lastore, 1) := dgq (p := 8) daL_life_0 dbL_life_0.2.2.2.2.2.2.1
theorem dL_life_9 : decode cL_life 9 = .ok (.goto 11, 3) := dgq (p := 9) daL_life_0 dbL_life_0.2.2.2.2.2.2.2.1
theorem dL_life_12 : decode cL_life 12 = .ok (.astore 4, 2) := dgq (p := 12) daL_life_0 dbL_life_0.2.2.2.2.2.2.2.2.1
theorem dL_life_14 : decode cL_life 14 = .ok (.iconst 1, 1) := dgq (p := 14) daL_life_0 dbL_life_0.2.2.2.2.2.2.2.2.2
def dsL_life_15 : ByteArray := ⟨#[172, 58, 4, 5, 172, 3, 172]⟩
theorem daL_life_15 : agB cL_life dsL_life_15 15 := agB_of (n := 7) (by decide +kernel)
theorem dbL_life_15 : (decode dsL_life_15 0 = .ok (.ireturn, 1) ∧ okop dsL_life_15 0 = true) ∧ (decode dsL_life_15 1 = .ok (.astore 4, 2) ∧ okop dsL_life_15 1 = true) ∧ (decode dsL_life_15 3 = .ok (.iconst 2, 1) ∧ okop dsL_life_15 3 = true) ∧ (decode dsL_life_15 4 = .ok (.ireturn, 1) ∧ okop dsL_life_15 4 = true) ∧ (decode dsL_life_15 5 = .ok (.iconst 0, 1) ∧ okop dsL_life_15 5 = true) ∧ (decode dsL_life_15 6 = .ok (.ireturn, 1) ∧ okop dsL_life_15 6 = true) := by decide +kernel
theorem dL_life_15 : decode cL_life 15 = .ok (.ireturn, 1) := dgq (p := 0) daL_life_15 dbL_life_15.1
theorem dL_life_16 : decode cL_life 16 = .ok (.astore 4, 2) := dgq (p := 1) daL_life_15 dbL_life_15.2.1
theorem dL_life_18 : decode cL_life 18 = .ok (.iconst 2, 1) := dgq (p := 3) daL_life_15 dbL_life_15.2.2.1
theorem dL_life_19 : decode cL_life 19 = .ok (.ireturn, 1) := dgq (p := 4) daL_life_15 dbL_life_15.2.2.2.1
theorem dL_life_20 : decode cL_life 20 = .ok (.iconst 0, 1) := dgq (p := 5) daL_life_15 dbL_life_15.2.2.2.2.1
theorem dL_life_21 : decode cL_life 21 = .ok (.ireturn, 1) := dgq (p := 6) daL_life_15 dbL_life_15.2.2.2.2.2
set_option maxRecDepth 20000 in
theorem ggL_run_X9_run : GoodIn wsL_run wsX9_run := goodIn_ca (goodIn_ca (goodIn_ca (goodIn_ca (goodIn_ca (goodIn_ca (goodIn_q _ [8, 9, 10, 11, 12, 13, 14, 7, 15, 16, 17, 18, 19, 20, 21, 22, 23, 24, 25, 26, 27, 28, 29, 30, 31, 32, 33, 34, 35, 36, 37, 38, 39, 40, 41, 42, 43, 44, 45, 46, 47, 48, 49, 50, 51, 52, 53, 54, 55, 56, 57, 58, 59, 60, 61, 62, 63, 64, 65, 66, 67, 68, 69, 70, 71, 72, 73, 74, 75, 76, 77, 78, 79, 80, 81, 82, 83, 84, 85, 86, 87, 88, 89, 90, 91, 92, 93] rfl (by decide +kernel)) (goodIn_sub (fun _ h => (List.mem_cons_of_mem _ (List.mem_append_left _ (List.mem_append_left _ (List.mem_append_left _ (List.mem_append_left _ (List.mem_append_left _ (List.mem_append_left _ (List.mem_append_right _ h))))))))) tg_wsX20)) (goodIn_sub (fun _ h => (List.mem_cons_of_mem _ (List.mem_append_left _ (List.mem_append_left _ (List.mem_append_left _ (List.mem_append_left _ (List.mem_append_left _ (List.mem_append_right _ h)))))))) tg_wsX90)) (goodIn_sub (fun _ h => List.mem_cons_of_mem _ (List.mem_append_left _ (List.mem_append_left _ (List.mem_append_left _ (List.mem_append_right _ h))))) (by decide +kernel))) (goodIn_sub (fun _ h => List.mem_cons_of_mem _ (List.mem_append_left _ (List.mem_append_left _ (List.mem_append_right _ h)))) (by decide +kernel))) (goodIn_sub (fun _ h => List.mem_cons_of_mem _ (List.mem_append_left _ (List.mem_append_right _ h))) (by decide +kernel))) (goodIn_sub (fun _ h => List.mem_cons_of_mem _ (List.mem_append_right _ h)) (by decide +kernel))
set_option maxRecDepth 20000 in
theorem gL_run_X9_run : GoodIn wsL_run (wsV RL 175 RX9 yX9_run wsX9_run) := goodIn_app (goodIn_q _ [4, 5, 6, 7] rfl (by decide +kernel)) ggL_run_X9_run
def dsL_run_0 : ByteArray := ⟨#[25, 5, 3, 42, 27, 28, 29, 21, 4, 182, 0, 175, 133, 80]⟩
theorem daL_run_0 : agB cL_run dsL_run_0 0 := agB_of (n := 14) (by decide +kernel)
theorem dbL_run_0 : (decode dsL_run_0 0 = .ok (.aload 5, 2) ∧ okop dsL_run_0 0 = true) ∧ (decode dsL_run_0 2 = .ok (.iconst 0, 1) ∧ okop dsL_run_0 2 = true) ∧ (decode dsL_run_0 3 = .ok (.aload_n 0, 1) ∧ okop dsL_run_0 3 = true) ∧ (decode dsL_run_0 4 = .ok (.iload_n 1, 1) ∧ okop dsL_run_0 4 = true) ∧ (decode dsL_run_0 5 = .ok (.iload_n 2, 1) ∧ okop dsL_run_0 5 = true) ∧ (decode dsL_run_0 6 = .ok (.iload_n 3, 1) ∧ okop dsL_run_0 6 = true) ∧ (decode dsL_run_0 7 = .ok (.iload 4, 2) ∧ okop dsL_run_0 7 = true) ∧ (decode dsL_run_0 9 = .ok (.invokevirtual 175, 3) ∧ okop dsL_run_0 9 = true) ∧ (decode dsL_run_0 12 = .ok (.i2l, 1) ∧ okop dsL_run_0 12 = true) ∧ (decode dsL_run_0 13 = .ok (.lastore, 1) ∧ okop dsL_run_0 13 = true) := by decide +kernel
theorem dL_run_0 : decode cL_run 0 = .ok (.aload 5, 2) := dgq (p := 0) daL_run_0 dbL_run_0.1
theorem dL_run_2 : decode cL_run 2 = .ok (.iconst 0, 1) := dgq (p := 2) daL_run_0 dbL_run_0.2.1
theorem dL_run_3 : decode cL_run 3 = .ok (.aload_n 0, 1) := dgq (p := 3) daL_run_0 dbL_run_0.2.2.1
theorem dL_run_4 : decode cL_run 4 = .ok (.iload_n 1, 1) := dgq (p := 4) daL_run_0 dbL_run_0.2.2.2.1
theorem dL_run_5 : decode cL_run 5 = .ok (.iload_n 2, 1) := dgq (p := 5) daL_run_0 dbL_run_0.2.2.2.2.1
theorem dL_run_6 : decode cL_run 6 = .ok (.iload_n 3, 1) := dgq (p := 6) daL_run_0 dbL_run_0.2.2.2.2.2.1
theorem dL_run_7 : decode cL_run 7 = .ok (.iload 4, 2) := dgq (p := 7) daL_run_0 dbL_run_0.2.2.2.2.2.2.1
theorem dL_run_9 : decode cL_run 9 = .ok (.invokevirtual 175, 3) := dgq (p := 9) daL_run_0 dbL_run_0.2.2.2.2.2.2.2.1
theorem dL_run_12 : decode cL_run 12 = .ok (.i2l, 1) := dgq (p := 12) daL_run_0 dbL_run_0.2.2.2.2.2.2.2.2.1
theorem dL_run_13 : decode cL_run 13 = .ok (.lastore, 1) := dgq (p := 13) daL_run_0 dbL_run_0.2.2.2.2.2.2.2.2.2
def dsL_run_14 : ByteArray := ⟨#[167, 0, 15, 58, 6, 4, 172, 58, 6, 5, 172, 58, 6, 6, 172]⟩
theorem daL_run_14 : agB cL_run dsL_run_14 14 := agB_of (n := 15) (by decide +kernel)
theorem dbL_run_14 : (decode dsL_run_14 0 = .ok (.goto 15, 3) ∧ okop dsL_run_14 0 = true) ∧ (decode dsL_run_14 3 = .ok (.astore 6, 2) ∧ okop dsL_run_14 3 = true) ∧ (decode dsL_run_14 5 = .ok (.iconst 1, 1) ∧ okop dsL_run_14 5 = true) ∧ (decode dsL_run_14 6 = .ok (.ireturn, 1) ∧ okop dsL_run_14 6 = true) ∧ (decode dsL_run_14 7 = .ok (.astore 6, 2) ∧ okop dsL_run_14 7 = true) ∧ (decode dsL_run_14 9 = .ok (.iconst 2, 1) ∧ okop dsL_run_14 9 = true) ∧ (decode dsL_run_14 10 = .ok (.ireturn, 1) ∧ okop dsL_run_14 10 = true) ∧ (decode dsL_run_14 11 = .ok (.astore 6, 2) ∧ okop dsL_run_14 11 = true) ∧ (decode dsL_run_14 13 = .ok (.iconst 3, 1) ∧ okop dsL_run_14 13 = true) ∧ (decode dsL_run_14 14 = .ok (.ireturn, 1) ∧ okop dsL_run_14 14 = true) := by decide +kernel
theorem dL_run_14 : decode cL_run 14 = .ok (.goto 15, 3) := dgq (p := 0) daL_run_14 dbL_run_14.1
theorem dL_run_17 : decode cL_run 17 = .ok (.astore 6, 2) := dgq (p := 3) daL_run_14 dbL_run_14.2.1
theorem dL_run_19 : decode cL_run 19 = .ok (.iconst 1, 1) := dgq (p := 5) daL_run_14 dbL_run_14.2.2.1
theorem dL_run_20 : decode cL_run 20 = .ok (.ireturn, 1) := dgq (p := 6) daL_run_14 dbL_run_14.2.2.2.1
theorem dL_run_21 : decode cL_run 21 = .ok (.astore 6, 2) := dgq (p := 7) daL_run_14 dbL_run_14.2.2.2.2.1
theorem dL_run_23 : decode cL_run 23 = .ok (.iconst 2, 1) := dgq (p := 9) daL_run_14 dbL_run_14.2.2.2.2.2.1
theorem dL_run_24 : decode cL_run 24 = .ok (.ireturn, 1) := dgq (p := 10) daL_run_14 dbL_run_14.2.2.2.2.2.2.1
theorem dL_run_25 : decode cL_run 25 = .ok (.astore 6, 2) := dgq (p := 11) daL_run_14 dbL_run_14.2.2.2.2.2.2.2.1
theorem dL_run_27 : decode cL_run 27 = .ok (.iconst 3, 1) := dgq (p := 13) daL_run_14 dbL_run_14.2.2.2.2.2.2.2.2.1
theorem dL_run_28 : decode cL_run 28 = .ok (.ireturn, 1) := dgq (p := 14) daL_run_14 dbL_run_14.2.2.2.2.2.2.2.2.2
theorem dL_run_29 : decode cL_run 29 = .ok (.iconst 0, 1) := by decide +kernel
theorem dL_run_30 : decode cL_run 30 = .ok (.ireturn, 1) := by decide +kernel
set_option maxRecDepth 20000 in
theorem ggL_damage_X9_damage : GoodIn wsL_damage wsX9_damage := goodIn_ca (goodIn_ca (goodIn_ca (goodIn_q _ [6, 7, 8, 9, 10, 5, 11, 12, 13, 14, 15] rfl (by decide +kernel)) (goodIn_sub (fun _ h => (List.mem_cons_of_mem _ (List.mem_append_left _ (List.mem_append_left _ (List.mem_append_left _ (List.mem_append_right _ h)))))) tg_wsX20)) (goodIn_sub (fun _ h => (List.mem_cons_of_mem _ (List.mem_append_left _ (List.mem_append_left _ (List.mem_append_right _ h))))) tg_wsX90)) (goodIn_sub (fun _ h => List.mem_cons_of_mem _ (List.mem_append_right _ h)) (by decide +kernel))
set_option maxRecDepth 20000 in
theorem gL_damage_X9_damage : GoodIn wsL_damage (wsV RL 178 RX9 yX9_damage wsX9_damage) := goodIn_app (goodIn_q _ [2, 3, 4, 5] rfl (by decide +kernel)) ggL_damage_X9_damage
def dsL_damage_0 : ByteArray := ⟨#[44, 3, 42, 27, 182, 0, 178, 80, 167, 0, 6, 78, 4, 172]⟩
theorem daL_damage_0 : agB cL_damage dsL_damage_0 0 := agB_of (n := 14) (by decide +kernel)
theorem dbL_damage_0 : (decode dsL_damage_0 0 = .ok (.aload_n 2, 1) ∧ okop dsL_damage_0 0 = true) ∧ (decode dsL_damage_0 1 = .ok (.iconst 0, 1) ∧ okop dsL_damage_0 1 = true) ∧ (decode dsL_damage_0 2 = .ok (.aload_n 0, 1) ∧ okop dsL_damage_0 2 = true) ∧ (decode dsL_damage_0 3 = .ok (.iload_n 1, 1) ∧ okop dsL_damage_0 3 = true) ∧ (decode dsL_damage_0 4 = .ok (.invokevirtual 178, 3) ∧ okop dsL_damage_0 4 = true) ∧ (decode dsL_damage_0 7 = .ok (.lastore, 1) ∧ okop dsL_damage_0 7 = true) ∧ (decode dsL_damage_0 8 = .ok (.goto 6, 3) ∧ okop dsL_damage_0 8 = true) ∧ (decode dsL_damage_0 11 = .ok (.astore_n 3, 1) ∧ okop dsL_damage_0 11 = true) ∧ (decode dsL_damage_0 12 = .ok (.iconst 1, 1) ∧ okop dsL_damage_0 12 = true) ∧ (decode dsL_damage_0 13 = .ok (.ireturn, 1) ∧ okop dsL_damage_0 13 = true) := by decide +kernel
theorem dL_damage_0 : decode cL_damage 0 = .ok (.aload_n 2, 1) := dgq (p := 0) daL_damage_0 dbL_damage_0.1
theorem dL_damage_1 : decode cL_damage 1 = .ok (.iconst 0, 1) := dgq (p := 1) daL_damage_0 dbL_damage_0.2.1
theorem dL_damage_2 : decode cL_damage 2 = .ok (.aload_n 0, 1) := dgq (p := 2) daL_damage_0 dbL_damage_0.2.2.1
theorem dL_damage_3 : decode cL_damage 3 = .ok (.iload_n 1, 1) := dgq (p := 3) daL_damage_0 dbL_damage_0.2.2.2.1
theorem dL_damage_4 : decode cL_damage 4 = .ok (.invokevirtual 178, 3) := dgq (p := 4) daL_damage_0 dbL_damage_0.2.2.2.2.1
theorem dL_damage_7 : decode cL_damage 7 = .ok (.lastore, 1) := dgq (p := 7) daL_damage_0 dbL_damage_0.2.2.2.2.2.1
theorem dL_damage_8 : decode cL_damage 8 = .ok (.goto 6, 3) := dgq (p := 8) daL_damage_0 dbL_damage_0.2.2.2.2.2.2.1
theorem dL_damage_11 : decode cL_damage 11 = .ok (.astore_n 3, 1) := dgq (p := 11) daL_damage_0 dbL_damage_0.2.2.2.2.2.2.2.1
theorem dL_damage_12 : decode cL_damage 12 = .ok (.iconst 1, 1) := dgq (p := 12) daL_damage_0 dbL_damage_0.2.2.2.2.2.2.2.2.1
theorem dL_damage_13 : decode cL_damage 13 = .ok (.ireturn, 1) := dgq (p := 13) daL_damage_0 dbL_damage_0.2.2.2.2.2.2.2.2.2
theorem dL_damage_14 : decode cL_damage 14 = .ok (.iconst 0, 1) := by decide +kernel
theorem dL_damage_15 : decode cL_damage 15 = .ok (.ireturn, 1) := by decide +kernel
set_option maxRecDepth 20000 in
theorem ggL_match_X9_match : GoodIn wsL_match wsX9_match := goodIn_ca (goodIn_ca (goodIn_ca (goodIn_ca (goodIn_ca (goodIn_ca (goodIn_ca (goodIn_ca (goodIn_ca (goodIn_q _ [7, 8, 9, 10, 11, 12, 13, 14, 15, 16, 17, 18, 6, 19, 20, 21, 22, 23, 24, 25, 26, 27, 28, 29, 30, 31, 32, 33, 34, 35, 36, 37, 38, 39, 40, 41, 42, 43, 44, 45, 46, 47, 48, 49, 50, 51, 52, 53, 54, 55, 56, 57, 58, 59, 60, 61, 62, 63, 64, 65, 66, 67, 68, 69, 70, 71, 72, 73, 74, 75, 76, 77, 78, 79, 80, 81, 82, 83, 84, 85, 86, 87, 88, 89, 90, 91, 92, 93, 94, 95, 96, 97, 98, 99, 100, 101, 102, 103, 104, 105, 106, 107, 108, 109, 110, 111, 112, 113, 114, 115, 116, 117, 118, 119, 120, 121, 122, 123, 124] rfl (by decide +kernel)) (goodIn_sub (fun _ h => (List.mem_cons_of_mem _ (List.mem_append_left _ (List.mem_append_left _ (List.mem_append_left _ (List.mem_append_left _ (List.mem_append_left _ (List.mem_append_left _ (List.mem_append_left _ (List.mem_append_left _ (List.mem_append_right _ h))))))))))) tg_wsX90)) (goodIn_sub (fun _ h => (List.mem_cons_of_mem _ (List.mem_append_left _ (List.mem_append_left _ (List.mem_append_left _ (List.mem_append_left _ (List.mem_append_left _ (List.mem_append_left _ (List.mem_append_left _ (List.mem_append_right _ h)))))))))) tg_wsX20)) (goodIn_sub (fun _ h => (List.mem_cons_of_mem _ (List.mem_append_left _ (List.mem_append_left _ (List.mem_append_left _ (List.mem_append_left _ (List.mem_append_left _ (List.mem_append_left _ (List.mem_append_right _ h))))))))) tg_wsX40)) (goodIn_sub (fun _ h => (List.mem_cons_of_mem _ (List.mem_append_left _ (List.mem_append_left _ (List.mem_append_left _ (List.mem_append_left _ (List.mem_append_left _ (List.mem_append_right _ h)))))))) tg_wsX10)) (goodIn_sub (fun _ h => (List.mem_cons_of_mem _ (List.mem_append_left _ (List.mem_append_left _ (List.mem_append_left _ (List.mem_append_left _ (List.mem_append_right _ h))))))) tg_wsX60)) (goodIn_sub (fun _ h => List.mem_cons_of_mem _ (List.mem_append_left _ (List.mem_append_left _ (List.mem_append_right _ h)))) (by decide +kernel))) (goodIn_sub (fun _ h => List.mem_cons_of_mem _ (List.mem_append_left _ (List.mem_append_right _ h))) (by decide +kernel))) (goodIn_sub (fun _ h => List.mem_cons_of_mem _ (List.mem_append_left _ (List.mem_append_left _ (List.mem_append_left _ (List.mem_append_right _ h))))) (by decide +kernel))) (goodIn_sub (fun _ h => List.mem_cons_of_mem _ (List.mem_append_right _ h)) (by decide +kernel))
set_option maxRecDepth 20000 in
theorem gL_match_X9_match : GoodIn wsL_match (wsV RL 182 RX9 yX9_match wsX9_match) := goodIn_app (goodIn_q _ [3, 4, 5, 6] rfl (by decide +kernel)) ggL_match_X9_match
def dsL_match_0 : ByteArray := ⟨#[25, 4, 3, 42, 27, 28, 29, 182, 0, 182, 133, 80, 167, 0, 11]⟩
theorem daL_match_0 : agB cL_match dsL_match_0 0 := agB_of (n := 15) (by decide +kernel)
theorem dbL_match_0 : (decode dsL_match_0 0 = .ok (.aload 4, 2) ∧ okop dsL_match_0 0 = true) ∧ (decode dsL_match_0 2 = .ok (.iconst 0, 1) ∧ okop dsL_match_0 2 = true) ∧ (decode dsL_match_0 3 = .ok (.aload_n 0, 1) ∧ okop dsL_match_0 3 = true) ∧ (decode dsL_match_0 4 = .ok (.iload_n 1, 1) ∧ okop dsL_match_0 4 = true) ∧ (decode dsL_match_0 5 = .ok (.iload_n 2, 1) ∧ okop dsL_match_0 5 = true) ∧ (decode dsL_match_0 6 = .ok (.iload_n 3, 1) ∧ okop dsL_match_0 6 = true) ∧ (decode dsL_match_0 7 = .ok (.invokevirtual 182, 3) ∧ okop dsL_match_0 7 = true) ∧ (decode dsL_match_0 10 = .ok (.i2l, 1) ∧ okop dsL_match_0 10 = true) ∧ (decode dsL_match_0 11 = .ok (.lastore, 1) ∧ okop dsL_match_0 11 = true) ∧ (decode dsL_match_0 12 = .ok (.goto 11, 3) ∧ okop dsL_match_0 12 = true) := by decide +kernel
theorem dL_match_0 : decode cL_match 0 = .ok (.aload 4, 2) := dgq (p := 0) daL_match_0 dbL_match_0.1
theorem dL_match_2 : decode cL_match 2 = .ok (.iconst 0, 1) := dgq (p := 2) daL_match_0 dbL_match_0.2.1
theorem dL_match_3 : decode cL_match 3 = .ok (.aload_n 0, 1) := dgq (p := 3) daL_match_0 dbL_match_0.2.2.1
theorem dL_match_4 : decode cL_match 4 = .ok (.iload_n 1, 1) := dgq (p := 4) daL_match_0 dbL_match_0.2.2.2.1
theorem dL_match_5 : decode cL_match 5 = .ok (.iload_n 2, 1) := dgq (p := 5) daL_match_0 dbL_match_0.2.2.2.2.1
theorem dL_match_6 : decode cL_match 6 = .ok (.iload_n 3, 1) := dgq (p := 6) daL_match_0 dbL_match_0.2.2.2.2.2.1
theorem dL_match_7 : decode cL_match 7 = .ok (.invokevirtual 182, 3) := dgq (p := 7) daL_match_0 dbL_match_0.2.2.2.2.2.2.1
theorem dL_match_10 : decode cL_match 10 = .ok (.i2l, 1) := dgq (p := 10) daL_match_0 dbL_match_0.2.2.2.2.2.2.2.1
theorem dL_match_11 : decode cL_match 11 = .ok (.lastore, 1) := dgq (p := 11) daL_match_0 dbL_match_0.2.2.2.2.2.2.2.2.1
theorem dL_match_12 : decode cL_match 12 = .ok (.goto 11, 3) := dgq (p := 12) daL_match_0 dbL_match_0.2.2.2.2.2.2.2.2.2
def dsL_match_15 : ByteArray := ⟨#[58, 5, 4, 172, 58, 5, 5, 172, 3, 172]⟩
theorem daL_match_15 : agB cL_match dsL_match_15 15 := agB_of (n := 10) (by decide +kernel)
theorem dbL_match_15 : (decode dsL_match_15 0 = .ok (.astore 5, 2) ∧ okop dsL_match_15 0 = true) ∧ (decode dsL_match_15 2 = .ok (.iconst 1, 1) ∧ okop dsL_match_15 2 = true) ∧ (decode dsL_match_15 3 = .ok (.ireturn, 1) ∧ okop dsL_match_15 3 = true) ∧ (decode dsL_match_15 4 = .ok (.astore 5, 2) ∧ okop dsL_match_15 4 = true) ∧ (decode dsL_match_15 6 = .ok (.iconst 2, 1) ∧ okop dsL_match_15 6 = true) ∧ (decode dsL_match_15 7 = .ok (.ireturn, 1) ∧ okop dsL_match_15 7 = true) ∧ (decode dsL_match_15 8 = .ok (.iconst 0, 1) ∧ okop dsL_match_15 8 = true) ∧ (decode dsL_match_15 9 = .ok (.ireturn, 1) ∧ okop dsL_match_15 9 = true) := by decide +kernel
theorem dL_match_15 : decode cL_match 15 = .ok (.astore 5, 2) := dgq (p := 0) daL_match_15 dbL_match_15.1
theorem dL_match_17 : decode cL_match 17 = .ok (.iconst 1, 1) := dgq (p := 2) daL_match_15 dbL_match_15.2.1
theorem dL_match_18 : decode cL_match 18 = .ok (.ireturn, 1) := dgq (p := 3) daL_match_15 dbL_match_15.2.2.1
theorem dL_match_19 : decode cL_match 19 = .ok (.astore 5, 2) := dgq (p := 4) daL_match_15 dbL_match_15.2.2.2.1
theorem dL_match_21 : decode cL_match 21 = .ok (.iconst 2, 1) := dgq (p := 6) daL_match_15 dbL_match_15.2.2.2.2.1
theorem dL_match_22 : decode cL_match 22 = .ok (.ireturn, 1) := dgq (p := 7) daL_match_15 dbL_match_15.2.2.2.2.2.1
theorem dL_match_23 : decode cL_match 23 = .ok (.iconst 0, 1) := dgq (p := 8) daL_match_15 dbL_match_15.2.2.2.2.2.2.1
theorem dL_match_24 : decode cL_match 24 = .ok (.ireturn, 1) := dgq (p := 9) daL_match_15 dbL_match_15.2.2.2.2.2.2.2
set_option maxRecDepth 20000 in
theorem ggL_mate_X9_mate : GoodIn wsL_mate wsX9_mate := goodIn_ca (goodIn_ca (goodIn_ca (goodIn_ca (goodIn_q _ [7, 8, 9, 10, 11, 12, 13, 6, 14, 15, 16, 17, 18] rfl (by decide +kernel)) (goodIn_sub (fun _ h => (List.mem_cons_of_mem _ (List.mem_append_left _ (List.mem_append_left _ (List.mem_append_left _ (List.mem_append_left _ (List.mem_append_right _ h))))))) tg_wsX20)) (goodIn_sub (fun _ h => (List.mem_cons_of_mem _ (List.mem_append_left _ (List.mem_append_left _ (List.mem_append_left _ (List.mem_append_right _ h)))))) tg_wsX90)) (goodIn_sub (fun _ h => List.mem_cons_of_mem _ (List.mem_append_left _ (List.mem_append_right _ h))) (by decide +kernel))) (goodIn_sub (fun _ h => List.mem_cons_of_mem _ (List.mem_append_right _ h)) (by decide +kernel))
set_option maxRecDepth 20000 in
theorem gL_mate_X9_mate : GoodIn wsL_mate (wsV RL 185 RX9 yX9_mate wsX9_mate) := goodIn_app (goodIn_q _ [3, 4, 5, 6] rfl (by decide +kernel)) ggL_mate_X9_mate
def dsL_mate_0 : ByteArray := ⟨#[44, 3, 42, 27, 182, 0, 185, 133, 80, 167, 0, 9, 78, 4]⟩
theorem daL_mate_0 : agB cL_mate dsL_mate_0 0 := agB_of (n := 14) (by decide +kernel)
theorem dbL_mate_0 : (decode dsL_mate_0 0 = .ok (.aload_n 2, 1) ∧ okop dsL_mate_0 0 = true) ∧ (decode dsL_mate_0 1 = .ok (.iconst 0, 1) ∧ okop dsL_mate_0 1 = true) ∧ (decode dsL_mate_0 2 = .ok (.aload_n 0, 1) ∧ okop dsL_mate_0 2 = true) ∧ (decode dsL_mate_0 3 = .ok (.iload_n 1, 1) ∧ okop dsL_mate_0 3 = true) ∧ (decode dsL_mate_0 4 = .ok (.invokevirtual 185, 3) ∧ okop dsL_mate_0 4 = true) ∧ (decode dsL_mate_0 7 = .ok (.i2l, 1) ∧ okop dsL_mate_0 7 = true) ∧ (decode dsL_mate_0 8 = .ok (.lastore, 1) ∧ okop dsL_mate_0 8 = true) ∧ (decode dsL_mate_0 9 = .ok (.goto 9, 3) ∧ okop dsL_mate_0 9 = true) ∧ (decode dsL_mate_0 12 = .ok (.astore_n 3, 1) ∧ okop dsL_mate_0 12 = true) ∧ (decode dsL_mate_0 13 = .ok (.iconst 1, 1) ∧ okop dsL_mate_0 13 = true) := by decide +kernel
theorem dL_mate_0 : decode cL_mate 0 = .ok (.aload_n 2, 1) := dgq (p := 0) daL_mate_0 dbL_mate_0.1
theorem dL_mate_1 : decode cL_mate 1 = .ok (.iconst 0, 1) := dgq (p := 1) daL_mate_0 dbL_mate_0.2.1
theorem dL_mate_2 : decode cL_mate 2 = .ok (.aload_n 0, 1) := dgq (p := 2) daL_mate_0 dbL_mate_0.2.2.1
theorem dL_mate_3 : decode cL_mate 3 = .ok (.iload_n 1, 1) := dgq (p := 3) daL_mate_0 dbL_mate_0.2.2.2.1
theorem dL_mate_4 : decode cL_mate 4 = .ok (.invokevirtual 185, 3) := dgq (p := 4) daL_mate_0 dbL_mate_0.2.2.2.2.1
theorem dL_mate_7 : decode cL_mate 7 = .ok (.i2l, 1) := dgq (p := 7) daL_mate_0 dbL_mate_0.2.2.2.2.2.1
theorem dL_mate_8 : decode cL_mate 8 = .ok (.lastore, 1) := dgq (p := 8) daL_mate_0 dbL_mate_0.2.2.2.2.2.2.1
theorem dL_mate_9 : decode cL_mate 9 = .ok (.goto 9, 3) := dgq (p := 9) daL_mate_0 dbL_mate_0.2.2.2.2.2.2.2.1
theorem dL_mate_12 : decode cL_mate 12 = .ok (.astore_n 3, 1) := dgq (p := 12) daL_mate_0 dbL_mate_0.2.2.2.2.2.2.2.2.1
theorem dL_mate_13 : decode cL_mate 13 = .ok (.iconst 1, 1) := dgq (p := 13) daL_mate_0 dbL_mate_0.2.2.2.2.2.2.2.2.2
def dsL_mate_14 : ByteArray := ⟨#[172, 78, 5, 172, 3, 172]⟩
theorem daL_mate_14 : agB cL_mate dsL_mate_14 14 := agB_of (n := 6) (by decide +kernel)
theorem dbL_mate_14 : (decode dsL_mate_14 0 = .ok (.ireturn, 1) ∧ okop dsL_mate_14 0 = true) ∧ (decode dsL_mate_14 1 = .ok (.astore_n 3, 1) ∧ okop dsL_mate_14 1 = true) ∧ (decode dsL_mate_14 2 = .ok (.iconst 2, 1) ∧ okop dsL_mate_14 2 = true) ∧ (decode dsL_mate_14 3 = .ok (.ireturn, 1) ∧ okop dsL_mate_14 3 = true) ∧ (decode dsL_mate_14 4 = .ok (.iconst 0, 1) ∧ okop dsL_mate_14 4 = true) ∧ (decode dsL_mate_14 5 = .ok (.ireturn, 1) ∧ okop dsL_mate_14 5 = true) := by decide +kernel
theorem dL_mate_14 : decode cL_mate 14 = .ok (.ireturn, 1) := dgq (p := 0) daL_mate_14 dbL_mate_14.1
theorem dL_mate_15 : decode cL_mate 15 = .ok (.astore_n 3, 1) := dgq (p := 1) daL_mate_14 dbL_mate_14.2.1
theorem dL_mate_16 : decode cL_mate 16 = .ok (.iconst 2, 1) := dgq (p := 2) daL_mate_14 dbL_mate_14.2.2.1
theorem dL_mate_17 : decode cL_mate 17 = .ok (.ireturn, 1) := dgq (p := 3) daL_mate_14 dbL_mate_14.2.2.2.1
theorem dL_mate_18 : decode cL_mate 18 = .ok (.iconst 0, 1) := dgq (p := 4) daL_mate_14 dbL_mate_14.2.2.2.2.1
theorem dL_mate_19 : decode cL_mate 19 = .ok (.ireturn, 1) := dgq (p := 5) daL_mate_14 dbL_mate_14.2.2.2.2.2
set_option maxRecDepth 20000 in
theorem ggL_separate_X9_separate : GoodIn wsL_separate wsX9_separate := goodIn_ca (goodIn_ca (goodIn_ca (goodIn_ca (goodIn_q _ [7, 8, 9, 10, 11, 12, 6, 13, 14, 15, 16, 17, 18, 19, 20, 21, 22] rfl (by decide +kernel)) (goodIn_sub (fun _ h => (List.mem_cons_of_mem _ (List.mem_append_left _ (List.mem_append_left _ (List.mem_append_left _ (List.mem_append_left _ (List.mem_append_right _ h))))))) tg_wsX20)) (goodIn_sub (fun _ h => (List.mem_cons_of_mem _ (List.mem_append_left _ (List.mem_append_left _ (List.mem_append_left _ (List.mem_append_right _ h)))))) tg_wsX90)) (goodIn_sub (fun _ h => List.mem_cons_of_mem _ (List.mem_append_left _ (List.mem_append_right _ h))) (by decide +kernel))) (goodIn_sub (fun _ h => List.mem_cons_of_mem _ (List.mem_append_right _ h)) (by decide +kernel))
set_option maxRecDepth 20000 in
theorem gL_separate_X9_separate : GoodIn wsL_separate (wsV RL 188 RX9 yX9_separate wsX9_separate) := goodIn_app (goodIn_q _ [3, 4, 5, 6] rfl (by decide +kernel)) ggL_separate_X9_separate
def dsL_separate_0 : ByteArray := ⟨#[44, 3, 42, 27, 182, 0, 188, 133, 80, 167, 0, 9, 78, 4]⟩
theorem daL_separate_0 : agB cL_separate dsL_separate_0 0 := agB_of (n := 14) (by decide +kernel)
theorem dbL_separate_0 : (decode dsL_separate_0 0 = .ok (.aload_n 2, 1) ∧ okop dsL_separate_0 0 = true) ∧ (decode dsL_separate_0 1 = .ok (.iconst 0, 1) ∧ okop dsL_separate_0 1 = true) ∧ (decode dsL_separate_0 2 = .ok (.aload_n 0, 1) ∧ okop dsL_separate_0 2 = true) ∧ (decode dsL_separate_0 3 = .ok (.iload_n 1, 1) ∧ okop dsL_separate_0 3 = true) ∧ (decode dsL_separate_0 4 = .ok (.invokevirtual 188, 3) ∧ okop dsL_separate_0 4 = true) ∧ (decode dsL_separate_0 7 = .ok (.i2l, 1) ∧ okop dsL_separate_0 7 = true) ∧ (decode dsL_separate_0 8 = .ok (.lastore, 1) ∧ okop dsL_separate_0 8 = true) ∧ (decode dsL_separate_0 9 = .ok (.goto 9, 3) ∧ okop dsL_separate_0 9 = true) ∧ (decode dsL_separate_0 12 = .ok (.astore_n 3, 1) ∧ okop dsL_separate_0 12 = true) ∧ (decode dsL_separate_0 13 = .ok (.iconst 1, 1) ∧ okop dsL_separate_0 13 = true) := by decide +kernel
theorem dL_separate_0 : decode cL_separate 0 = .ok (.aload_n 2, 1) := dgq (p := 0) daL_separate_0 dbL_separate_0.1
theorem dL_separate_1 : decode cL_separate 1 = .ok (.iconst 0, 1) := dgq (p := 1) daL_separate_0 dbL_separate_0.2.1
theorem dL_separate_2 : decode cL_separate 2 = .ok (.aload_n 0, 1) := dgq (p := 2) daL_separate_0 dbL_separate_0.2.2.1
theorem dL_separate_3 : decode cL_separate 3 = .ok (.iload_n 1, 1) := dgq (p := 3) daL_separate_0 dbL_separate_0.2.2.2.1
theorem dL_separate_4 : decode cL_separate 4 = .ok (.invokevirtual 188, 3) := dgq (p := 4) daL_separate_0 dbL_separate_0.2.2.2.2.1
theorem dL_separate_7 : decode cL_separate 7 = .ok (.i2l, 1) := dgq (p := 7) daL_separate_0 dbL_separate_0.2.2.2.2.2.1
theorem dL_separate_8 : decode cL_separate 8 = .ok (.lastore, 1) := dgq (p := 8) daL_separate_0 dbL_separate_0.2.2.2.2.2.2.1
theorem dL_separate_9 : decode cL_separate 9 = .ok (.goto 9, 3) := dgq (p := 9) daL_separate_0 dbL_separate_0.2.2.2.2.2.2.2.1
theorem dL_separate_12 : decode cL_separate 12 = .ok (.astore_n 3, 1) := dgq (p := 12) daL_separate_0 dbL_separate_0.2.2.2.2.2.2.2.2.1
theorem dL_separate_13 : decode cL_separate 13 = .ok (.iconst 1, 1) := dgq (p := 13) daL_separate_0 dbL_separate_0.2.2.2.2.2.2.2.2.2
def dsL_separate_14 : ByteArray := ⟨#[172, 78, 5, 172, 3, 172]⟩
theorem daL_separate_14 : agB cL_separate dsL_separate_14 14 := agB_of (n := 6) (by decide +kernel)
theorem dbL_separate_14 : (decode dsL_separate_14 0 = .ok (.ireturn, 1) ∧ okop dsL_separate_14 0 = true) ∧ (decode dsL_separate_14 1 = .ok (.astore_n 3, 1) ∧ okop dsL_separate_14 1 = true) ∧ (decode dsL_separate_14 2 = .ok (.iconst 2, 1) ∧ okop dsL_separate_14 2 = true) ∧ (decode dsL_separate_14 3 = .ok (.ireturn, 1) ∧ okop dsL_separate_14 3 = true) ∧ (decode dsL_separate_14 4 = .ok (.iconst 0, 1) ∧ okop dsL_separate_14 4 = true) ∧ (decode dsL_separate_14 5 = .ok (.ireturn, 1) ∧ okop dsL_separate_14 5 = true) := by decide +kernel
theorem dL_separate_14 : decode cL_separate 14 = .ok (.ireturn, 1) := dgq (p := 0) daL_separate_14 dbL_separate_14.1
theorem dL_separate_15 : decode cL_separate 15 = .ok (.astore_n 3, 1) := dgq (p := 1) daL_separate_14 dbL_separate_14.2.1
theorem dL_separate_16 : decode cL_separate 16 = .ok (.iconst 2, 1) := dgq (p := 2) daL_separate_14 dbL_separate_14.2.2.1
theorem dL_separate_17 : decode cL_separate 17 = .ok (.ireturn, 1) := dgq (p := 3) daL_separate_14 dbL_separate_14.2.2.2.1
theorem dL_separate_18 : decode cL_separate 18 = .ok (.iconst 0, 1) := dgq (p := 4) daL_separate_14 dbL_separate_14.2.2.2.2.1
theorem dL_separate_19 : decode cL_separate 19 = .ok (.ireturn, 1) := dgq (p := 5) daL_separate_14 dbL_separate_14.2.2.2.2.2
set_option maxRecDepth 20000 in
theorem ggL_machine_X9_machine : GoodIn wsL_machine wsX9_machine := goodIn_ca (goodIn_ca (goodIn_ca (goodIn_ca (goodIn_q _ [7, 8, 9, 10, 11, 12, 13, 14, 15, 16, 6, 17, 18, 19, 20, 21, 22, 23, 24, 25, 26, 27, 28, 29, 30] rfl (by decide +kernel)) (goodIn_sub (fun _ h => (List.mem_cons_of_mem _ (List.mem_append_left _ (List.mem_append_left _ (List.mem_append_left _ (List.mem_append_left _ (List.mem_append_right _ h))))))) tg_wsX90)) (goodIn_sub (fun _ h => (List.mem_cons_of_mem _ (List.mem_append_left _ (List.mem_append_left _ (List.mem_append_left _ (List.mem_append_right _ h)))))) tg_wsX70)) (goodIn_sub (fun _ h => List.mem_cons_of_mem _ (List.mem_append_left _ (List.mem_append_right _ h))) (by decide +kernel))) (goodIn_sub (fun _ h => List.mem_cons_of_mem _ (List.mem_append_right _ h)) (by decide +kernel))
set_option maxRecDepth 20000 in
theorem gL_machine_X9_machine : GoodIn wsL_machine (wsV RL 191 RX9 yX9_machine wsX9_machine) := goodIn_app (goodIn_q _ [3, 4, 5, 6] rfl (by decide +kernel)) ggL_machine_X9_machine
def dsL_machine_0 : ByteArray := ⟨#[45, 3, 42, 27, 28, 182, 0, 191, 133, 80, 167, 0, 11, 58, 4]⟩
theorem daL_machine_0 : agB cL_machine dsL_machine_0 0 := agB_of (n := 15) (by decide +kernel)
theorem dbL_machine_0 : (decode dsL_machine_0 0 = .ok (.aload_n 3, 1) ∧ okop dsL_machine_0 0 = true) ∧ (decode dsL_machine_0 1 = .ok (.iconst 0, 1) ∧ okop dsL_machine_0 1 = true) ∧ (decode dsL_machine_0 2 = .ok (.aload_n 0, 1) ∧ okop dsL_machine_0 2 = true) ∧ (decode dsL_machine_0 3 = .ok (.iload_n 1, 1) ∧ okop dsL_machine_0 3 = true) ∧ (decode dsL_machine_0 4 = .ok (.iload_n 2, 1) ∧ okop dsL_machine_0 4 = true) ∧ (decode dsL_machine_0 5 = .ok (.invokevirtual 191, 3) ∧ okop dsL_machine_0 5 = true) ∧ (decode dsL_machine_0 8 = .ok (.i2l, 1) ∧ okop dsL_machine_0 8 = true) ∧ (decode dsL_machine_0 9 = .ok (.lastore, 1) ∧ okop dsL_machine_0 9 = true) ∧ (decode dsL_machine_0 10 = .ok (.goto 11, 3) ∧ okop dsL_machine_0 10 = true) ∧ (decode dsL_machine_0 13 = .ok (.astore 4, 2) ∧ okop dsL_machine_0 13 = true) := by decide +kernel
theorem dL_machine_0 : decode cL_machine 0 = .ok (.aload_n 3, 1) := dgq (p := 0) daL_machine_0 dbL_machine_0.1
theorem dL_machine_1 : decode cL_machine 1 = .ok (.iconst 0, 1) := dgq (p := 1) daL_machine_0 dbL_machine_0.2.1
theorem dL_machine_2 : decode cL_machine 2 = .ok (.aload_n 0, 1) := dgq (p := 2) daL_machine_0 dbL_machine_0.2.2.1
theorem dL_machine_3 : decode cL_machine 3 = .ok (.iload_n 1, 1) := dgq (p := 3) daL_machine_0 dbL_machine_0.2.2.2.1
theorem dL_machine_4 : decode cL_machine 4 = .ok (.iload_n 2, 1) := dgq (p := 4) daL_machine_0 dbL_machine_0.2.2.2.2.1
theorem dL_machine_5 : decode cL_machine 5 = .ok (.invokevirtual 191, 3) := dgq (p := 5) daL_machine_0 dbL_machine_0.2.2.2.2.2.1
theorem dL_machine_8 : decode cL_machine 8 = .ok (.i2l, 1) := dgq (p := 8) daL_machine_0 dbL_machine_0.2.2.2.2.2.2.1
theorem dL_machine_9 : decode cL_machine 9 = .ok (.lastore, 1) := dgq (p := 9) daL_machine_0 dbL_machine_0.2.2.2.2.2.2.2.1
theorem dL_machine_10 : decode cL_machine 10 = .ok (.goto 11, 3) := dgq (p := 10) daL_machine_0 dbL_machine_0.2.2.2.2.2.2.2.2.1
theorem dL_machine_13 : decode cL_machine 13 = .ok (.astore 4, 2) := dgq (p := 13) daL_machine_0 dbL_machine_0.2.2.2.2.2.2.2.2.2
def dsL_machine_15 : ByteArray := ⟨#[4, 172, 58, 4, 5, 172, 3, 172]⟩
theorem daL_machine_15 : agB cL_machine dsL_machine_15 15 := agB_of (n := 8) (by decide +kernel)
theorem dbL_machine_15 : (decode dsL_machine_15 0 = .ok (.iconst 1, 1) ∧ okop dsL_machine_15 0 = true) ∧ (decode dsL_machine_15 1 = .ok (.ireturn, 1) ∧ okop dsL_machine_15 1 = true) ∧ (decode dsL_machine_15 2 = .ok (.astore 4, 2) ∧ okop dsL_machine_15 2 = true) ∧ (decode dsL_machine_15 4 = .ok (.iconst 2, 1) ∧ okop dsL_machine_15 4 = true) ∧ (decode dsL_machine_15 5 = .ok (.ireturn, 1) ∧ okop dsL_machine_15 5 = true) ∧ (decode dsL_machine_15 6 = .ok (.iconst 0, 1) ∧ okop dsL_machine_15 6 = true) ∧ (decode dsL_machine_15 7 = .ok (.ireturn, 1) ∧ okop dsL_machine_15 7 = true) := by decide +kernel
theorem dL_machine_15 : decode cL_machine 15 = .ok (.iconst 1, 1) := dgq (p := 0) daL_machine_15 dbL_machine_15.1
theorem dL_machine_16 : decode cL_machine 16 = .ok (.ireturn, 1) := dgq (p := 1) daL_machine_15 dbL_machine_15.2.1
theorem dL_machine_17 : decode cL_machine 17 = .ok (.astore 4, 2) := dgq (p := 2) daL_machine_15 dbL_machine_15.2.2.1
theorem dL_machine_19 : decode cL_machine 19 = .ok (.iconst 2, 1) := dgq (p := 4) daL_machine_15 dbL_machine_15.2.2.2.1
theorem dL_machine_20 : decode cL_machine 20 = .ok (.ireturn, 1) := dgq (p := 5) daL_machine_15 dbL_machine_15.2.2.2.2.1
theorem dL_machine_21 : decode cL_machine 21 = .ok (.iconst 0, 1) := dgq (p := 6) daL_machine_15 dbL_machine_15.2.2.2.2.2.1
theorem dL_machine_22 : decode cL_machine 22 = .ok (.ireturn, 1) := dgq (p := 7) daL_machine_15 dbL_machine_15.2.2.2.2.2.2
set_option maxRecDepth 20000 in
theorem ggL_toolsAt_X9_toolsAt : GoodIn wsL_toolsAt wsX9_toolsAt := goodIn_ca (goodIn_ca (goodIn_ca (goodIn_ca (goodIn_q _ [7, 8, 9, 10, 11, 12, 13, 14, 6, 15, 16, 17] rfl (by decide +kernel)) (goodIn_sub (fun _ h => (List.mem_cons_of_mem _ (List.mem_append_left _ (List.mem_append_left _ (List.mem_append_left _ (List.mem_append_left _ (List.mem_append_right _ h))))))) tg_wsX90)) (goodIn_sub (fun _ h => (List.mem_cons_of_mem _ (List.mem_append_left _ (List.mem_append_left _ (List.mem_append_left _ (List.mem_append_right _ h)))))) tg_wsX70)) (goodIn_sub (fun _ h => List.mem_cons_of_mem _ (List.mem_append_left _ (List.mem_append_right _ h))) (by decide +kernel))) (goodIn_sub (fun _ h => List.mem_cons_of_mem _ (List.mem_append_right _ h)) (by decide +kernel))
set_option maxRecDepth 20000 in
theorem gL_toolsAt_X9_toolsAt : GoodIn wsL_toolsAt (wsV RL 195 RX9 yX9_toolsAt wsX9_toolsAt) := goodIn_app (goodIn_q _ [3, 4, 5, 6] rfl (by decide +kernel)) ggL_toolsAt_X9_toolsAt
def dsL_toolsAt_0 : ByteArray := ⟨#[45, 3, 42, 27, 28, 182, 0, 195, 133, 80, 167, 0, 11, 58, 4]⟩
theorem daL_toolsAt_0 : agB cL_toolsAt dsL_toolsAt_0 0 := agB_of (n := 15) (by decide +kernel)
theorem dbL_toolsAt_0 : (decode dsL_toolsAt_0 0 = .ok (.aload_n 3, 1) ∧ okop dsL_toolsAt_0 0 = true) ∧ (decode dsL_toolsAt_0 1 = .ok (.iconst 0, 1) ∧ okop dsL_toolsAt_0 1 = true) ∧ (decode dsL_toolsAt_0 2 = .ok (.aload_n 0, 1) ∧ okop dsL_toolsAt_0 2 = true) ∧ (decode dsL_toolsAt_0 3 = .ok (.iload_n 1, 1) ∧ okop dsL_toolsAt_0 3 = true) ∧ (decode dsL_toolsAt_0 4 = .ok (.iload_n 2, 1) ∧ okop dsL_toolsAt_0 4 = true) ∧ (decode dsL_toolsAt_0 5 = .ok (.invokevirtual 195, 3) ∧ okop dsL_toolsAt_0 5 = true) ∧ (decode dsL_toolsAt_0 8 = .ok (.i2l, 1) ∧ okop dsL_toolsAt_0 8 = true) ∧ (decode dsL_toolsAt_0 9 = .ok (.lastore, 1) ∧ okop dsL_toolsAt_0 9 = true) ∧ (decode dsL_toolsAt_0 10 = .ok (.goto 11, 3) ∧ okop dsL_toolsAt_0 10 = true) ∧ (decode dsL_toolsAt_0 13 = .ok (.astore 4, 2) ∧ okop dsL_toolsAt_0 13 = true) := by decide +kernel
theorem dL_toolsAt_0 : decode cL_toolsAt 0 = .ok (.aload_n 3, 1) := dgq (p := 0) daL_toolsAt_0 dbL_toolsAt_0.1
theorem dL_toolsAt_1 : decode cL_toolsAt 1 = .ok (.iconst 0, 1) := dgq (p := 1) daL_toolsAt_0 dbL_toolsAt_0.2.1
theorem dL_toolsAt_2 : decode cL_toolsAt 2 = .ok (.aload_n 0, 1) := dgq (p := 2) daL_toolsAt_0 dbL_toolsAt_0.2.2.1
theorem dL_toolsAt_3 : decode cL_toolsAt 3 = .ok (.iload_n 1, 1) := dgq (p := 3) daL_toolsAt_0 dbL_toolsAt_0.2.2.2.1
theorem dL_toolsAt_4 : decode cL_toolsAt 4 = .ok (.iload_n 2, 1) := dgq (p := 4) daL_toolsAt_0 dbL_toolsAt_0.2.2.2.2.1
theorem dL_toolsAt_5 : decode cL_toolsAt 5 = .ok (.invokevirtual 195, 3) := dgq (p := 5) daL_toolsAt_0 dbL_toolsAt_0.2.2.2.2.2.1
theorem dL_toolsAt_8 : decode cL_toolsAt 8 = .ok (.i2l, 1) := dgq (p := 8) daL_toolsAt_0 dbL_toolsAt_0.2.2.2.2.2.2.1
theorem dL_toolsAt_9 : decode cL_toolsAt 9 = .ok (.lastore, 1) := dgq (p := 9) daL_toolsAt_0 dbL_toolsAt_0.2.2.2.2.2.2.2.1
theorem dL_toolsAt_10 : decode cL_toolsAt 10 = .ok (.goto 11, 3) := dgq (p := 10) daL_toolsAt_0 dbL_toolsAt_0.2.2.2.2.2.2.2.2.1
theorem dL_toolsAt_13 : decode cL_toolsAt 13 = .ok (.astore 4, 2) := dgq (p := 13) daL_toolsAt_0 dbL_toolsAt_0.2.2.2.2.2.2.2.2.2
def dsL_toolsAt_15 : ByteArray := ⟨#[4, 172, 58, 4, 5, 172, 3, 172]⟩
theorem daL_toolsAt_15 : agB cL_toolsAt dsL_toolsAt_15 15 := agB_of (n := 8) (by decide +kernel)
theorem dbL_toolsAt_15 : (decode dsL_toolsAt_15 0 = .ok (.iconst 1, 1) ∧ okop dsL_toolsAt_15 0 = true) ∧ (decode dsL_toolsAt_15 1 = .ok (.ireturn, 1) ∧ okop dsL_toolsAt_15 1 = true) ∧ (decode dsL_toolsAt_15 2 = .ok (.astore 4, 2) ∧ okop dsL_toolsAt_15 2 = true) ∧ (decode dsL_toolsAt_15 4 = .ok (.iconst 2, 1) ∧ okop dsL_toolsAt_15 4 = true) ∧ (decode dsL_toolsAt_15 5 = .ok (.ireturn, 1) ∧ okop dsL_toolsAt_15 5 = true) ∧ (decode dsL_toolsAt_15 6 = .ok (.iconst 0, 1) ∧ okop dsL_toolsAt_15 6 = true) ∧ (decode dsL_toolsAt_15 7 = .ok (.ireturn, 1) ∧ okop dsL_toolsAt_15 7 = true) := by decide +kernel
theorem dL_toolsAt_15 : decode cL_toolsAt 15 = .ok (.iconst 1, 1) := dgq (p := 0) daL_toolsAt_15 dbL_toolsAt_15.1
theorem dL_toolsAt_16 : decode cL_toolsAt 16 = .ok (.ireturn, 1) := dgq (p := 1) daL_toolsAt_15 dbL_toolsAt_15.2.1
theorem dL_toolsAt_17 : decode cL_toolsAt 17 = .ok (.astore 4, 2) := dgq (p := 2) daL_toolsAt_15 dbL_toolsAt_15.2.2.1
theorem dL_toolsAt_19 : decode cL_toolsAt 19 = .ok (.iconst 2, 1) := dgq (p := 4) daL_toolsAt_15 dbL_toolsAt_15.2.2.2.1
theorem dL_toolsAt_20 : decode cL_toolsAt 20 = .ok (.ireturn, 1) := dgq (p := 5) daL_toolsAt_15 dbL_toolsAt_15.2.2.2.2.1
theorem dL_toolsAt_21 : decode cL_toolsAt 21 = .ok (.iconst 0, 1) := dgq (p := 6) daL_toolsAt_15 dbL_toolsAt_15.2.2.2.2.2.1
theorem dL_toolsAt_22 : decode cL_toolsAt 22 = .ok (.ireturn, 1) := dgq (p := 7) daL_toolsAt_15 dbL_toolsAt_15.2.2.2.2.2.2
set_option maxRecDepth 20000 in
theorem ggL_route_X9_route : GoodIn wsL_route wsX9_route := goodIn_ca (goodIn_ca (goodIn_ca (goodIn_ca (goodIn_ca (goodIn_ca (goodIn_q _ [8, 9, 10, 11, 12, 13, 14, 7, 15, 16, 17, 18, 19, 20, 21, 22, 23, 24, 25, 26, 27, 28, 29, 30, 31, 32, 33, 34, 35, 36, 37, 38, 39, 40, 41, 42, 43, 44, 45, 46, 47, 48, 49, 50, 51, 52, 53, 54, 55, 56, 57, 58, 59, 60, 61, 62, 63, 64, 65, 66, 67, 68, 69, 70, 71, 72, 73, 74, 75, 76, 77, 78, 79, 80, 81, 82, 83, 84, 85, 86, 87, 88, 89, 90, 91, 92, 93, 94, 95, 96, 97, 98, 99, 100, 101, 102, 103, 104, 105, 106, 107, 108, 109, 110, 111, 112, 113, 114, 115, 116, 117, 118, 119, 120, 121, 122, 123, 124, 125, 126, 127, 128, 129, 130, 131, 132, 133, 134, 135, 136, 137, 138, 139, 140, 141, 142, 143, 144, 145, 146, 147, 148, 149] rfl (by decide +kernel)) (goodIn_sub (fun _ h => (List.mem_cons_of_mem _ (List.mem_append_left _ (List.mem_append_left _ (List.mem_append_left _ (List.mem_append_left _ (List.mem_append_left _ (List.mem_append_left _ (List.mem_append_right _ h))))))))) tg_wsX20)) (goodIn_sub (fun _ h => (List.mem_cons_of_mem _ (List.mem_append_left _ (List.mem_append_left _ (List.mem_append_left _ (List.mem_append_left _ (List.mem_append_left _ (List.mem_append_right _ h)))))))) tg_wsX90)) (goodIn_sub (fun _ h => (List.mem_cons_of_mem _ (List.mem_append_left _ (List.mem_append_left _ (List.mem_append_left _ (List.mem_append_left _ (List.mem_append_right _ h))))))) tg_wsJ40)) (goodIn_sub (fun _ h => List.mem_cons_of_mem _ (List.mem_append_left _ (List.mem_append_left _ (List.mem_append_right _ h)))) (by decide +kernel))) (goodIn_sub (fun _ h => List.mem_cons_of_mem _ (List.mem_append_left _ (List.mem_append_right _ h))) (by decide +kernel))) (goodIn_sub (fun _ h => List.mem_cons_of_mem _ (List.mem_append_right _ h)) (by decide +kernel))
set_option maxRecDepth 20000 in
theorem gL_route_X9_route : GoodIn wsL_route (wsV RL 198 RX9 yX9_route wsX9_route) := goodIn_app (goodIn_q _ [4, 5, 6, 7] rfl (by decide +kernel)) ggL_route_X9_route
def dsL_route_0 : ByteArray := ⟨#[45, 3, 42, 27, 28, 182, 0, 198, 133, 80, 167, 0, 15, 58, 4]⟩
theorem daL_route_0 : agB cL_route dsL_route_0 0 := agB_of (n := 15) (by decide +kernel)
theorem dbL_route_0 : (decode dsL_route_0 0 = .ok (.aload_n 3, 1) ∧ okop dsL_route_0 0 = true) ∧ (decode dsL_route_0 1 = .ok (.iconst 0, 1) ∧ okop dsL_route_0 1 = true) ∧ (decode dsL_route_0 2 = .ok (.aload_n 0, 1) ∧ okop dsL_route_0 2 = true) ∧ (decode dsL_route_0 3 = .ok (.iload_n 1, 1) ∧ okop dsL_route_0 3 = true) ∧ (decode dsL_route_0 4 = .ok (.iload_n 2, 1) ∧ okop dsL_route_0 4 = true) ∧ (decode dsL_route_0 5 = .ok (.invokevirtual 198, 3) ∧ okop dsL_route_0 5 = true) ∧ (decode dsL_route_0 8 = .ok (.i2l, 1) ∧ okop dsL_route_0 8 = true) ∧ (decode dsL_route_0 9 = .ok (.lastore, 1) ∧ okop dsL_route_0 9 = true) ∧ (decode dsL_route_0 10 = .ok (.goto 15, 3) ∧ okop dsL_route_0 10 = true) ∧ (decode dsL_route_0 13 = .ok (.astore 4, 2) ∧ okop dsL_route_0 13 = true) := by decide +kernel
theorem dL_route_0 : decode cL_route 0 = .ok (.aload_n 3, 1) := dgq (p := 0) daL_route_0 dbL_route_0.1
theorem dL_route_1 : decode cL_route 1 = .ok (.iconst 0, 1) := dgq (p := 1) daL_route_0 dbL_route_0.2.1
theorem dL_route_2 : decode cL_route 2 = .ok (.aload_n 0, 1) := dgq (p := 2) daL_route_0 dbL_route_0.2.2.1
theorem dL_route_3 : decode cL_route 3 = .ok (.iload_n 1, 1) := dgq (p := 3) daL_route_0 dbL_route_0.2.2.2.1
theorem dL_route_4 : decode cL_route 4 = .ok (.iload_n 2, 1) := dgq (p := 4) daL_route_0 dbL_route_0.2.2.2.2.1
theorem dL_route_5 : decode cL_route 5 = .ok (.invokevirtual 198, 3) := dgq (p := 5) daL_route_0 dbL_route_0.2.2.2.2.2.1
theorem dL_route_8 : decode cL_route 8 = .ok (.i2l, 1) := dgq (p := 8) daL_route_0 dbL_route_0.2.2.2.2.2.2.1
theorem dL_route_9 : decode cL_route 9 = .ok (.lastore, 1) := dgq (p := 9) daL_route_0 dbL_route_0.2.2.2.2.2.2.2.1
theorem dL_route_10 : decode cL_route 10 = .ok (.goto 15, 3) := dgq (p := 10) daL_route_0 dbL_route_0.2.2.2.2.2.2.2.2.1
theorem dL_route_13 : decode cL_route 13 = .ok (.astore 4, 2) := dgq (p := 13) daL_route_0 dbL_route_0.2.2.2.2.2.2.2.2.2
def dsL_route_15 : ByteArray := ⟨#[4, 172, 58, 4]⟩
theorem daL_route_15 : agB cL_route dsL_route_15 15 := agB_of (n := 4) (by decide +kernel)
theorem dbL_route_15 : (decode dsL_route_15 0 = .ok (.iconst 1, 1) ∧ okop dsL_route_15 0 = true) ∧ (decode dsL_route_15 1 = .ok (.ireturn, 1) ∧ okop dsL_route_15 1 = true) ∧ (decode dsL_route_15 2 = .ok (.astore 4, 2) ∧ okop dsL_route_15 2 = true) := by decide +kernel
theorem dL_route_15 : decode cL_route 15 = .ok (.iconst 1, 1) := dgq (p := 0) daL_route_15 dbL_route_15.1
theorem dL_route_16 : decode cL_route 16 = .ok (.ireturn, 1) := dgq (p := 1) daL_route_15 dbL_route_15.2.1
theorem dL_route_17 : decode cL_route 17 = .ok (.astore 4, 2) := dgq (p := 2) daL_route_15 dbL_route_15.2.2

