set_option maxRecDepth 20000 in
theorem ggL_gear_X9_gear : GoodIn wsL_gear wsX9_gear := goodIn_ca (goodIn_ca (goodIn_ca (goodIn_ca (goodIn_ca (goodIn_ca (goodIn_q _ [7, 8, 9, 10, 11, 12, 13, 14, 15, 16, 17, 6, 18, 19, 20, 21, 22, 23, 24, 25, 26, 27, 28, 29, 30, 31, 32, 33, 34, 35, 36, 37, 38, 39, 40, 41, 42, 43, 44, 45, 46, 47, 48, 49, 50, 51, 52, 53, 54, 55, 56, 57, 58, 59, 60, 61, 62, 63, 64, 65, 66, 67, 68, 69, 70, 71] rfl (by decide +kernel)) (goodIn_sub (fun _ h => (List.mem_cons_of_mem _ (List.mem_append_left _ (List.mem_append_left _ (List.mem_append_left _ (List.mem_append_left _ (List.mem_append_left _ (List.mem_append_left _ (List.mem_append_right _ h))))))))) tg_wsX90)) (goodIn_sub (fun _ h => (List.mem_cons_of_mem _ (List.mem_append_left _ (List.mem_append_left _ (List.mem_append_left _ (List.mem_append_left _ (List.mem_append_left _ (List.mem_append_right _ h)))))))) tg_wsX20)) (goodIn_sub (fun _ h => (List.mem_cons_of_mem _ (List.mem_append_left _ (List.mem_append_left _ (List.mem_append_left _ (List.mem_append_left _ (List.mem_append_right _ h))))))) tg_wsX10)) (goodIn_sub (fun _ h => (List.mem_cons_of_mem _ (List.mem_append_left _ (List.mem_append_left _ (List.mem_append_left _ (List.mem_append_right _ h)))))) tg_wsJ40)) (goodIn_sub (fun _ h => List.mem_cons_of_mem _ (List.mem_append_left _ (List.mem_append_right _ h))) (by decide +kernel))) (goodIn_sub (fun _ h => List.mem_cons_of_mem _ (List.mem_append_right _ h)) (by decide +kernel))
set_option maxRecDepth 20000 in
theorem gL_gear_X9_gear : GoodIn wsL_gear (wsV RL 7 RX9 yX9_gear wsX9_gear) := goodIn_app (goodIn_q _ [3, 4, 5, 6] rfl (by decide +kernel)) ggL_gear_X9_gear
def dsL_gear_0 : ByteArray := ⟨#[25, 5, 3, 42, 27, 28, 29, 21, 4, 182, 0, 7, 133, 80]⟩
theorem daL_gear_0 : agB cL_gear dsL_gear_0 0 := agB_of (n := 14) (by decide +kernel)
theorem dbL_gear_0 : (decode dsL_gear_0 0 = .ok (.aload 5, 2) ∧ okop dsL_gear_0 0 = true) ∧ (decode dsL_gear_0 2 = .ok (.iconst 0, 1) ∧ okop dsL_gear_0 2 = true) ∧ (decode dsL_gear_0 3 = .ok (.aload_n 0, 1) ∧ okop dsL_gear_0 3 = true) ∧ (decode dsL_gear_0 4 = .ok (.iload_n 1, 1) ∧ okop dsL_gear_0 4 = true) ∧ (decode dsL_gear_0 5 = .ok (.iload_n 2, 1) ∧ okop dsL_gear_0 5 = true) ∧ (decode dsL_gear_0 6 = .ok (.iload_n 3, 1) ∧ okop dsL_gear_0 6 = true) ∧ (decode dsL_gear_0 7 = .ok (.iload 4, 2) ∧ okop dsL_gear_0 7 = true) ∧ (decode dsL_gear_0 9 = .ok (.invokevirtual 7, 3) ∧ okop dsL_gear_0 9 = true) ∧ (decode dsL_gear_0 12 = .ok (.i2l, 1) ∧ okop dsL_gear_0 12 = true) ∧ (decode dsL_gear_0 13 = .ok (.lastore, 1) ∧ okop dsL_gear_0 13 = true) := by decide +kernel
theorem dL_gear_0 : decode cL_gear 0 = .ok (.aload 5, 2) := dgq (p := 0) daL_gear_0 dbL_gear_0.1
theorem dL_gear_2 : decode cL_gear 2 = .ok (.iconst 0, 1) := dgq (p := 2) daL_gear_0 dbL_gear_0.2.1
theorem dL_gear_3 : decode cL_gear 3 = .ok (.aload_n 0, 1) := dgq (p := 3) daL_gear_0 dbL_gear_0.2.2.1
theorem dL_gear_4 : decode cL_gear 4 = .ok (.iload_n 1, 1) := dgq (p := 4) daL_gear_0 dbL_gear_0.2.2.2.1
theorem dL_gear_5 : decode cL_gear 5 = .ok (.iload_n 2, 1) := dgq (p := 5) daL_gear_0 dbL_gear_0.2.2.2.2.1
theorem dL_gear_6 : decode cL_gear 6 = .ok (.iload_n 3, 1) := dgq (p := 6) daL_gear_0 dbL_gear_0.2.2.2.2.2.1
theorem dL_gear_7 : decode cL_gear 7 = .ok (.iload 4, 2) := dgq (p := 7) daL_gear_0 dbL_gear_0.2.2.2.2.2.2.1
theorem dL_gear_9 : decode cL_gear 9 = .ok (.invokevirtual 7, 3) := dgq (p := 9) daL_gear_0 dbL_gear_0.2.2.2.2.2.2.2.1
theorem dL_gear_12 : decode cL_gear 12 = .ok (.i2l, 1) := dgq (p := 12) daL_gear_0 dbL_gear_0.2.2.2.2.2.2.2.2.1
theorem dL_gear_13 : decode cL_gear 13 = .ok (.lastore, 1) := dgq (p := 13) daL_gear_0 dbL_gear_0.2.2.2.2.2.2.2.2.2
def dsL_gear_14 : ByteArray := ⟨#[167, 0, 11, 58, 6, 4, 172, 58, 6, 5, 172, 3, 172]⟩
theorem daL_gear_14 : agB cL_gear dsL_gear_14 14 := agB_of (n := 13) (by decide +kernel)
theorem dbL_gear_14 : (decode dsL_gear_14 0 = .ok (.goto 11, 3) ∧ okop dsL_gear_14 0 = true) ∧ (decode dsL_gear_14 3 = .ok (.astore 6, 2) ∧ okop dsL_gear_14 3 = true) ∧ (decode dsL_gear_14 5 = .ok (.iconst 1, 1) ∧ okop dsL_gear_14 5 = true) ∧ (decode dsL_gear_14 6 = .ok (.ireturn, 1) ∧ okop dsL_gear_14 6 = true) ∧ (decode dsL_gear_14 7 = .ok (.astore 6, 2) ∧ okop dsL_gear_14 7 = true) ∧ (decode dsL_gear_14 9 = .ok (.iconst 2, 1) ∧ okop dsL_gear_14 9 = true) ∧ (decode dsL_gear_14 10 = .ok (.ireturn, 1) ∧ okop dsL_gear_14 10 = true) ∧ (decode dsL_gear_14 11 = .ok (.iconst 0, 1) ∧ okop dsL_gear_14 11 = true) ∧ (decode dsL_gear_14 12 = .ok (.ireturn, 1) ∧ okop dsL_gear_14 12 = true) := by decide +kernel
theorem dL_gear_14 : decode cL_gear 14 = .ok (.goto 11, 3) := dgq (p := 0) daL_gear_14 dbL_gear_14.1
theorem dL_gear_17 : decode cL_gear 17 = .ok (.astore 6, 2) := dgq (p := 3) daL_gear_14 dbL_gear_14.2.1
theorem dL_gear_19 : decode cL_gear 19 = .ok (.iconst 1, 1) := dgq (p := 5) daL_gear_14 dbL_gear_14.2.2.1
theorem dL_gear_20 : decode cL_gear 20 = .ok (.ireturn, 1) := dgq (p := 6) daL_gear_14 dbL_gear_14.2.2.2.1
theorem dL_gear_21 : decode cL_gear 21 = .ok (.astore 6, 2) := dgq (p := 7) daL_gear_14 dbL_gear_14.2.2.2.2.1
theorem dL_gear_23 : decode cL_gear 23 = .ok (.iconst 2, 1) := dgq (p := 9) daL_gear_14 dbL_gear_14.2.2.2.2.2.1
theorem dL_gear_24 : decode cL_gear 24 = .ok (.ireturn, 1) := dgq (p := 10) daL_gear_14 dbL_gear_14.2.2.2.2.2.2.1
theorem dL_gear_25 : decode cL_gear 25 = .ok (.iconst 0, 1) := dgq (p := 11) daL_gear_14 dbL_gear_14.2.2.2.2.2.2.2.1
theorem dL_gear_26 : decode cL_gear 26 = .ok (.ireturn, 1) := dgq (p := 12) daL_gear_14 dbL_gear_14.2.2.2.2.2.2.2.2
set_option maxRecDepth 20000 in
theorem ggL_setShift_X9_setShift : GoodIn wsL_setShift wsX9_setShift := goodIn_ca (goodIn_ca (goodIn_ca (goodIn_ca (goodIn_ca (goodIn_q _ [8, 9, 10, 11, 12, 13, 7, 14, 15, 16, 17, 18, 19, 20, 21, 22, 23, 24, 25, 26, 27, 28] rfl (by decide +kernel)) (goodIn_sub (fun _ h => (List.mem_cons_of_mem _ (List.mem_append_left _ (List.mem_append_left _ (List.mem_append_left _ (List.mem_append_left _ (List.mem_append_left _ (List.mem_append_right _ h)))))))) tg_wsX20)) (goodIn_sub (fun _ h => (List.mem_cons_of_mem _ (List.mem_append_left _ (List.mem_append_left _ (List.mem_append_left _ (List.mem_append_left _ (List.mem_append_right _ h))))))) tg_wsX90)) (goodIn_sub (fun _ h => List.mem_cons_of_mem _ (List.mem_append_left _ (List.mem_append_left _ (List.mem_append_right _ h)))) (by decide +kernel))) (goodIn_sub (fun _ h => List.mem_cons_of_mem _ (List.mem_append_left _ (List.mem_append_right _ h))) (by decide +kernel))) (goodIn_sub (fun _ h => List.mem_cons_of_mem _ (List.mem_append_right _ h)) (by decide +kernel))
set_option maxRecDepth 20000 in
theorem gL_setShift_X9_setShift : GoodIn wsL_setShift (wsV RL 17 RX9 yX9_setShift wsX9_setShift) := goodIn_app (goodIn_q _ [4, 5, 6, 7] rfl (by decide +kernel)) ggL_setShift_X9_setShift
def dsL_setShift_0 : ByteArray := ⟨#[45, 3, 42, 27, 28, 182, 0, 17, 133, 80, 167, 0, 15, 58, 4]⟩
theorem daL_setShift_0 : agB cL_setShift dsL_setShift_0 0 := agB_of (n := 15) (by decide +kernel)
theorem dbL_setShift_0 : (decode dsL_setShift_0 0 = .ok (.aload_n 3, 1) ∧ okop dsL_setShift_0 0 = true) ∧ (decode dsL_setShift_0 1 = .ok (.iconst 0, 1) ∧ okop dsL_setShift_0 1 = true) ∧ (decode dsL_setShift_0 2 = .ok (.aload_n 0, 1) ∧ okop dsL_setShift_0 2 = true) ∧ (decode dsL_setShift_0 3 = .ok (.iload_n 1, 1) ∧ okop dsL_setShift_0 3 = true) ∧ (decode dsL_setShift_0 4 = .ok (.iload_n 2, 1) ∧ okop dsL_setShift_0 4 = true) ∧ (decode dsL_setShift_0 5 = .ok (.invokevirtual 17, 3) ∧ okop dsL_setShift_0 5 = true) ∧ (decode dsL_setShift_0 8 = .ok (.i2l, 1) ∧ okop dsL_setShift_0 8 = true) ∧ (decode dsL_setShift_0 9 = .ok (.lastore, 1) ∧ okop dsL_setShift_0 9 = true) ∧ (decode dsL_setShift_0 10 = .ok (.goto 15, 3) ∧ okop dsL_setShift_0 10 = true) ∧ (decode dsL_setShift_0 13 = .ok (.astore 4, 2) ∧ okop dsL_setShift_0 13 = true) := by decide +kernel
theorem dL_setShift_0 : decode cL_setShift 0 = .ok (.aload_n 3, 1) := dgq (p := 0) daL_setShift_0 dbL_setShift_0.1
theorem dL_setShift_1 : decode cL_setShift 1 = .ok (.iconst 0, 1) := dgq (p := 1) daL_setShift_0 dbL_setShift_0.2.1
theorem dL_setShift_2 : decode cL_setShift 2 = .ok (.aload_n 0, 1) := dgq (p := 2) daL_setShift_0 dbL_setShift_0.2.2.1
theorem dL_setShift_3 : decode cL_setShift 3 = .ok (.iload_n 1, 1) := dgq (p := 3) daL_setShift_0 dbL_setShift_0.2.2.2.1
theorem dL_setShift_4 : decode cL_setShift 4 = .ok (.iload_n 2, 1) := dgq (p := 4) daL_setShift_0 dbL_setShift_0.2.2.2.2.1
theorem dL_setShift_5 : decode cL_setShift 5 = .ok (.invokevirtual 17, 3) := dgq (p := 5) daL_setShift_0 dbL_setShift_0.2.2.2.2.2.1
theorem dL_setShift_8 : decode cL_setShift 8 = .ok (.i2l, 1) := dgq (p := 8) daL_setShift_0 dbL_setShift_0.2.2.2.2.2.2.1
theorem dL_setShift_9 : decode cL_setShift 9 = .ok (.lastore, 1) := dgq (p := 9) daL_setShift_0 dbL_setShift_0.2.2.2.2.2.2.2.1
theorem dL_setShift_10 : decode cL_setShift 10 = .ok (.goto 15, 3) := dgq (p := 10) daL_setShift_0 dbL_setShift_0.2.2.2.2.2.2.2.2.1
theorem dL_setShift_13 : decode cL_setShift 13 = .ok (.astore 4, 2) := dgq (p := 13) daL_setShift_0 dbL_setShift_0.2.2.2.2.2.2.2.2.2
def dsL_setShift_15 : ByteArray := ⟨#[4, 172, 58, 4, 5, 172, 58, 4, 6, 172, 3, 172]⟩
theorem daL_setShift_15 : agB cL_setShift dsL_setShift_15 15 := agB_of (n := 12) (by decide +kernel)
theorem dbL_setShift_15 : (decode dsL_setShift_15 0 = .ok (.iconst 1, 1) ∧ okop dsL_setShift_15 0 = true) ∧ (decode dsL_setShift_15 1 = .ok (.ireturn, 1) ∧ okop dsL_setShift_15 1 = true) ∧ (decode dsL_setShift_15 2 = .ok (.astore 4, 2) ∧ okop dsL_setShift_15 2 = true) ∧ (decode dsL_setShift_15 4 = .ok (.iconst 2, 1) ∧ okop dsL_setShift_15 4 = true) ∧ (decode dsL_setShift_15 5 = .ok (.ireturn, 1) ∧ okop dsL_setShift_15 5 = true) ∧ (decode dsL_setShift_15 6 = .ok (.astore 4, 2) ∧ okop dsL_setShift_15 6 = true) ∧ (decode dsL_setShift_15 8 = .ok (.iconst 3, 1) ∧ okop dsL_setShift_15 8 = true) ∧ (decode dsL_setShift_15 9 = .ok (.ireturn, 1) ∧ okop dsL_setShift_15 9 = true) ∧ (decode dsL_setShift_15 10 = .ok (.iconst 0, 1) ∧ okop dsL_setShift_15 10 = true) ∧ (decode dsL_setShift_15 11 = .ok (.ireturn, 1) ∧ okop dsL_setShift_15 11 = true) := by decide +kernel
theorem dL_setShift_15 : decode cL_setShift 15 = .ok (.iconst 1, 1) := dgq (p := 0) daL_setShift_15 dbL_setShift_15.1
theorem dL_setShift_16 : decode cL_setShift 16 = .ok (.ireturn, 1) := dgq (p := 1) daL_setShift_15 dbL_setShift_15.2.1
theorem dL_setShift_17 : decode cL_setShift 17 = .ok (.astore 4, 2) := dgq (p := 2) daL_setShift_15 dbL_setShift_15.2.2.1
theorem dL_setShift_19 : decode cL_setShift 19 = .ok (.iconst 2, 1) := dgq (p := 4) daL_setShift_15 dbL_setShift_15.2.2.2.1
theorem dL_setShift_20 : decode cL_setShift 20 = .ok (.ireturn, 1) := dgq (p := 5) daL_setShift_15 dbL_setShift_15.2.2.2.2.1
theorem dL_setShift_21 : decode cL_setShift 21 = .ok (.astore 4, 2) := dgq (p := 6) daL_setShift_15 dbL_setShift_15.2.2.2.2.2.1
theorem dL_setShift_23 : decode cL_setShift 23 = .ok (.iconst 3, 1) := dgq (p := 8) daL_setShift_15 dbL_setShift_15.2.2.2.2.2.2.1
theorem dL_setShift_24 : decode cL_setShift 24 = .ok (.ireturn, 1) := dgq (p := 9) daL_setShift_15 dbL_setShift_15.2.2.2.2.2.2.2.1
theorem dL_setShift_25 : decode cL_setShift 25 = .ok (.iconst 0, 1) := dgq (p := 10) daL_setShift_15 dbL_setShift_15.2.2.2.2.2.2.2.2.1
theorem dL_setShift_26 : decode cL_setShift 26 = .ok (.ireturn, 1) := dgq (p := 11) daL_setShift_15 dbL_setShift_15.2.2.2.2.2.2.2.2.2
set_option maxRecDepth 20000 in
theorem ggL_diameter_X9_diameter : GoodIn wsL_diameter wsX9_diameter := goodIn_ca (goodIn_ca (goodIn_ca (goodIn_q _ [6, 7, 8, 9, 5, 10, 11, 12, 13, 14, 15, 16, 17, 18, 19, 20, 21] rfl (by decide +kernel)) (goodIn_sub (fun _ h => (List.mem_cons_of_mem _ (List.mem_append_left _ (List.mem_append_left _ (List.mem_append_left _ (List.mem_append_right _ h)))))) tg_wsX90)) (goodIn_sub (fun _ h => (List.mem_cons_of_mem _ (List.mem_append_left _ (List.mem_append_left _ (List.mem_append_right _ h))))) tg_wsX20)) (goodIn_sub (fun _ h => List.mem_cons_of_mem _ (List.mem_append_right _ h)) (by decide +kernel))
set_option maxRecDepth 20000 in
theorem gL_diameter_X9_diameter : GoodIn wsL_diameter (wsV RL 25 RX9 yX9_diameter wsX9_diameter) := goodIn_app (goodIn_q _ [2, 3, 4, 5] rfl (by decide +kernel)) ggL_diameter_X9_diameter
def dsL_diameter_0 : ByteArray := ⟨#[44, 3, 42, 27, 182, 0, 25, 133, 80, 167, 0, 6, 78, 4]⟩
theorem daL_diameter_0 : agB cL_diameter dsL_diameter_0 0 := agB_of (n := 14) (by decide +kernel)
theorem dbL_diameter_0 : (decode dsL_diameter_0 0 = .ok (.aload_n 2, 1) ∧ okop dsL_diameter_0 0 = true) ∧ (decode dsL_diameter_0 1 = .ok (.iconst 0, 1) ∧ okop dsL_diameter_0 1 = true) ∧ (decode dsL_diameter_0 2 = .ok (.aload_n 0, 1) ∧ okop dsL_diameter_0 2 = true) ∧ (decode dsL_diameter_0 3 = .ok (.iload_n 1, 1) ∧ okop dsL_diameter_0 3 = true) ∧ (decode dsL_diameter_0 4 = .ok (.invokevirtual 25, 3) ∧ okop dsL_diameter_0 4 = true) ∧ (decode dsL_diameter_0 7 = .ok (.i2l, 1) ∧ okop dsL_diameter_0 7 = true) ∧ (decode dsL_diameter_0 8 = .ok (.lastore, 1) ∧ okop dsL_diameter_0 8 = true) ∧ (decode dsL_diameter_0 9 = .ok (.goto 6, 3) ∧ okop dsL_diameter_0 9 = true) ∧ (decode dsL_diameter_0 12 = .ok (.astore_n 3, 1) ∧ okop dsL_diameter_0 12 = true) ∧ (decode dsL_diameter_0 13 = .ok (.iconst 1, 1) ∧ okop dsL_diameter_0 13 = true) := by decide +kernel
theorem dL_diameter_0 : decode cL_diameter 0 = .ok (.aload_n 2, 1) := dgq (p := 0) daL_diameter_0 dbL_diameter_0.1
theorem dL_diameter_1 : decode cL_diameter 1 = .ok (.iconst 0, 1) := dgq (p := 1) daL_diameter_0 dbL_diameter_0.2.1
theorem dL_diameter_2 : decode cL_diameter 2 = .ok (.aload_n 0, 1) := dgq (p := 2) daL_diameter_0 dbL_diameter_0.2.2.1
theorem dL_diameter_3 : decode cL_diameter 3 = .ok (.iload_n 1, 1) := dgq (p := 3) daL_diameter_0 dbL_diameter_0.2.2.2.1
theorem dL_diameter_4 : decode cL_diameter 4 = .ok (.invokevirtual 25, 3) := dgq (p := 4) daL_diameter_0 dbL_diameter_0.2.2.2.2.1
theorem dL_diameter_7 : decode cL_diameter 7 = .ok (.i2l, 1) := dgq (p := 7) daL_diameter_0 dbL_diameter_0.2.2.2.2.2.1
theorem dL_diameter_8 : decode cL_diameter 8 = .ok (.lastore, 1) := dgq (p := 8) daL_diameter_0 dbL_diameter_0.2.2.2.2.2.2.1
theorem dL_diameter_9 : decode cL_diameter 9 = .ok (.goto 6, 3) := dgq (p := 9) daL_diameter_0 dbL_diameter_0.2.2.2.2.2.2.2.1
theorem dL_diameter_12 : decode cL_diameter 12 = .ok (.astore_n 3, 1) := dgq (p := 12) daL_diameter_0 dbL_diameter_0.2.2.2.2.2.2.2.2.1
theorem dL_diameter_13 : decode cL_diameter 13 = .ok (.iconst 1, 1) := dgq (p := 13) daL_diameter_0 dbL_diameter_0.2.2.2.2.2.2.2.2.2
def dsL_diameter_14 : ByteArray := ⟨#[172, 3, 172]⟩
theorem daL_diameter_14 : agB cL_diameter dsL_diameter_14 14 := agB_of (n := 3) (by decide +kernel)
theorem dbL_diameter_14 : (decode dsL_diameter_14 0 = .ok (.ireturn, 1) ∧ okop dsL_diameter_14 0 = true) ∧ (decode dsL_diameter_14 1 = .ok (.iconst 0, 1) ∧ okop dsL_diameter_14 1 = true) ∧ (decode dsL_diameter_14 2 = .ok (.ireturn, 1) ∧ okop dsL_diameter_14 2 = true) := by decide +kernel
theorem dL_diameter_14 : decode cL_diameter 14 = .ok (.ireturn, 1) := dgq (p := 0) daL_diameter_14 dbL_diameter_14.1
theorem dL_diameter_15 : decode cL_diameter 15 = .ok (.iconst 0, 1) := dgq (p := 1) daL_diameter_14 dbL_diameter_14.2.1
theorem dL_diameter_16 : decode cL_diameter 16 = .ok (.ireturn, 1) := dgq (p := 2) daL_diameter_14 dbL_diameter_14.2.2
set_option maxRecDepth 20000 in
theorem ggL_tip_X9_tip : GoodIn wsL_tip wsX9_tip := goodIn_ca (goodIn_ca (goodIn_ca (goodIn_q _ [6, 7, 8, 9, 10, 5, 11, 12, 13, 14, 15, 16, 17, 18, 19, 20, 21, 22, 23, 24] rfl (by decide +kernel)) (goodIn_sub (fun _ h => (List.mem_cons_of_mem _ (List.mem_append_left _ (List.mem_append_left _ (List.mem_append_left _ (List.mem_append_right _ h)))))) tg_wsX20)) (goodIn_sub (fun _ h => (List.mem_cons_of_mem _ (List.mem_append_left _ (List.mem_append_left _ (List.mem_append_right _ h))))) tg_wsX90)) (goodIn_sub (fun _ h => List.mem_cons_of_mem _ (List.mem_append_right _ h)) (by decide +kernel))
set_option maxRecDepth 20000 in
theorem gL_tip_X9_tip : GoodIn wsL_tip (wsV RL 29 RX9 yX9_tip wsX9_tip) := goodIn_app (goodIn_q _ [2, 3, 4, 5] rfl (by decide +kernel)) ggL_tip_X9_tip
def dsL_tip_0 : ByteArray := ⟨#[44, 3, 42, 27, 182, 0, 29, 133, 80, 167, 0, 6, 78, 4]⟩
theorem daL_tip_0 : agB cL_tip dsL_tip_0 0 := agB_of (n := 14) (by decide +kernel)
theorem dbL_tip_0 : (decode dsL_tip_0 0 = .ok (.aload_n 2, 1) ∧ okop dsL_tip_0 0 = true) ∧ (decode dsL_tip_0 1 = .ok (.iconst 0, 1) ∧ okop dsL_tip_0 1 = true) ∧ (decode dsL_tip_0 2 = .ok (.aload_n 0, 1) ∧ okop dsL_tip_0 2 = true) ∧ (decode dsL_tip_0 3 = .ok (.iload_n 1, 1) ∧ okop dsL_tip_0 3 = true) ∧ (decode dsL_tip_0 4 = .ok (.invokevirtual 29, 3) ∧ okop dsL_tip_0 4 = true) ∧ (decode dsL_tip_0 7 = .ok (.i2l, 1) ∧ okop dsL_tip_0 7 = true) ∧ (decode dsL_tip_0 8 = .ok (.lastore, 1) ∧ okop dsL_tip_0 8 = true) ∧ (decode dsL_tip_0 9 = .ok (.goto 6, 3) ∧ okop dsL_tip_0 9 = true) ∧ (decode dsL_tip_0 12 = .ok (.astore_n 3, 1) ∧ okop dsL_tip_0 12 = true) ∧ (decode dsL_tip_0 13 = .ok (.iconst 1, 1) ∧ okop dsL_tip_0 13 = true) := by decide +kernel
theorem dL_tip_0 : decode cL_tip 0 = .ok (.aload_n 2, 1) := dgq (p := 0) daL_tip_0 dbL_tip_0.1
theorem dL_tip_1 : decode cL_tip 1 = .ok (.iconst 0, 1) := dgq (p := 1) daL_tip_0 dbL_tip_0.2.1
theorem dL_tip_2 : decode cL_tip 2 = .ok (.aload_n 0, 1) := dgq (p := 2) daL_tip_0 dbL_tip_0.2.2.1
theorem dL_tip_3 : decode cL_tip 3 = .ok (.iload_n 1, 1) := dgq (p := 3) daL_tip_0 dbL_tip_0.2.2.2.1
theorem dL_tip_4 : decode cL_tip 4 = .ok (.invokevirtual 29, 3) := dgq (p := 4) daL_tip_0 dbL_tip_0.2.2.2.2.1
theorem dL_tip_7 : decode cL_tip 7 = .ok (.i2l, 1) := dgq (p := 7) daL_tip_0 dbL_tip_0.2.2.2.2.2.1
theorem dL_tip_8 : decode cL_tip 8 = .ok (.lastore, 1) := dgq (p := 8) daL_tip_0 dbL_tip_0.2.2.2.2.2.2.1
theorem dL_tip_9 : decode cL_tip 9 = .ok (.goto 6, 3) := dgq (p := 9) daL_tip_0 dbL_tip_0.2.2.2.2.2.2.2.1
theorem dL_tip_12 : decode cL_tip 12 = .ok (.astore_n 3, 1) := dgq (p := 12) daL_tip_0 dbL_tip_0.2.2.2.2.2.2.2.2.1
theorem dL_tip_13 : decode cL_tip 13 = .ok (.iconst 1, 1) := dgq (p := 13) daL_tip_0 dbL_tip_0.2.2.2.2.2.2.2.2.2
def dsL_tip_14 : ByteArray := ⟨#[172, 3, 172]⟩
theorem daL_tip_14 : agB cL_tip dsL_tip_14 14 := agB_of (n := 3) (by decide +kernel)
theorem dbL_tip_14 : (decode dsL_tip_14 0 = .ok (.ireturn, 1) ∧ okop dsL_tip_14 0 = true) ∧ (decode dsL_tip_14 1 = .ok (.iconst 0, 1) ∧ okop dsL_tip_14 1 = true) ∧ (decode dsL_tip_14 2 = .ok (.ireturn, 1) ∧ okop dsL_tip_14 2 = true) := by decide +kernel
theorem dL_tip_14 : decode cL_tip 14 = .ok (.ireturn, 1) := dgq (p := 0) daL_tip_14 dbL_tip_14.1
theorem dL_tip_15 : decode cL_tip 15 = .ok (.iconst 0, 1) := dgq (p := 1) daL_tip_14 dbL_tip_14.2.1
theorem dL_tip_16 : decode cL_tip 16 = .ok (.ireturn, 1) := dgq (p := 2) daL_tip_14 dbL_tip_14.2.2
set_option maxRecDepth 20000 in
theorem ggL_isUndercut_X9_isUndercut : GoodIn wsL_isUndercut wsX9_isUndercut := goodIn_ca (goodIn_ca (goodIn_ca (goodIn_q _ [6, 7, 8, 9, 10, 11, 5, 12, 13, 14, 15, 16, 17, 18, 19] rfl (by decide +kernel)) (goodIn_sub (fun _ h => (List.mem_cons_of_mem _ (List.mem_append_left _ (List.mem_append_left _ (List.mem_append_left _ (List.mem_append_right _ h)))))) tg_wsX20)) (goodIn_sub (fun _ h => (List.mem_cons_of_mem _ (List.mem_append_left _ (List.mem_append_left _ (List.mem_append_right _ h))))) tg_wsX90)) (goodIn_sub (fun _ h => List.mem_cons_of_mem _ (List.mem_append_right _ h)) (by decide +kernel))
set_option maxRecDepth 20000 in
theorem gL_isUndercut_X9_isUndercut : GoodIn wsL_isUndercut (wsV RL 32 RX9 yX9_isUndercut wsX9_isUndercut) := goodIn_app (goodIn_q _ [2, 3, 4, 5] rfl (by decide +kernel)) ggL_isUndercut_X9_isUndercut
def dsL_isUndercut_0 : ByteArray := ⟨#[44, 3, 42, 27, 182, 0, 32, 153, 0, 7, 10, 167, 0, 4, 9, 80]⟩
theorem daL_isUndercut_0 : agB cL_isUndercut dsL_isUndercut_0 0 := agB_of (n := 16) (by decide +kernel)
theorem dbL_isUndercut_0 : (decode dsL_isUndercut_0 0 = .ok (.aload_n 2, 1) ∧ okop dsL_isUndercut_0 0 = true) ∧ (decode dsL_isUndercut_0 1 = .ok (.iconst 0, 1) ∧ okop dsL_isUndercut_0 1 = true) ∧ (decode dsL_isUndercut_0 2 = .ok (.aload_n 0, 1) ∧ okop dsL_isUndercut_0 2 = true) ∧ (decode dsL_isUndercut_0 3 = .ok (.iload_n 1, 1) ∧ okop dsL_isUndercut_0 3 = true) ∧ (decode dsL_isUndercut_0 4 = .ok (.invokevirtual 32, 3) ∧ okop dsL_isUndercut_0 4 = true) ∧ (decode dsL_isUndercut_0 7 = .ok (.ifCond .eq 7, 3) ∧ okop dsL_isUndercut_0 7 = true) ∧ (decode dsL_isUndercut_0 10 = .ok (.lconst 1, 1) ∧ okop dsL_isUndercut_0 10 = true) ∧ (decode dsL_isUndercut_0 11 = .ok (.goto 4, 3) ∧ okop dsL_isUndercut_0 11 = true) ∧ (decode dsL_isUndercut_0 14 = .ok (.lconst 0, 1) ∧ okop dsL_isUndercut_0 14 = true) ∧ (decode dsL_isUndercut_0 15 = .ok (.lastore, 1) ∧ okop dsL_isUndercut_0 15 = true) := by decide +kernel
theorem dL_isUndercut_0 : decode cL_isUndercut 0 = .ok (.aload_n 2, 1) := dgq (p := 0) daL_isUndercut_0 dbL_isUndercut_0.1
theorem dL_isUndercut_1 : decode cL_isUndercut 1 = .ok (.iconst 0, 1) := dgq (p := 1) daL_isUndercut_0 dbL_isUndercut_0.2.1
theorem dL_isUndercut_2 : decode cL_isUndercut 2 = .ok (.aload_n 0, 1) := dgq (p := 2) daL_isUndercut_0 dbL_isUndercut_0.2.2.1
theorem dL_isUndercut_3 : decode cL_isUndercut 3 = .ok (.iload_n 1, 1) := dgq (p := 3) daL_isUndercut_0 dbL_isUndercut_0.2.2.2.1
theorem dL_isUndercut_4 : decode cL_isUndercut 4 = .ok (.invokevirtual 32, 3) := dgq (p := 4) daL_isUndercut_0 dbL_isUndercut_0.2.2.2.2.1
theorem dL_isUndercut_7 : decode cL_isUndercut 7 = .ok (.ifCond .eq 7, 3) := dgq (p := 7) daL_isUndercut_0 dbL_isUndercut_0.2.2.2.2.2.1
theorem dL_isUndercut_10 : decode cL_isUndercut 10 = .ok (.lconst 1, 1) := dgq (p := 10) daL_isUndercut_0 dbL_isUndercut_0.2.2.2.2.2.2.1
theorem dL_isUndercut_11 : decode cL_isUndercut 11 = .ok (.goto 4, 3) := dgq (p := 11) daL_isUndercut_0 dbL_isUndercut_0.2.2.2.2.2.2.2.1
theorem dL_isUndercut_14 : decode cL_isUndercut 14 = .ok (.lconst 0, 1) := dgq (p := 14) daL_isUndercut_0 dbL_isUndercut_0.2.2.2.2.2.2.2.2.1
theorem dL_isUndercut_15 : decode cL_isUndercut 15 = .ok (.lastore, 1) := dgq (p := 15) daL_isUndercut_0 dbL_isUndercut_0.2.2.2.2.2.2.2.2.2
def dsL_isUndercut_16 : ByteArray := ⟨#[167, 0, 6, 78, 4, 172, 3, 172]⟩
theorem daL_isUndercut_16 : agB cL_isUndercut dsL_isUndercut_16 16 := agB_of (n := 8) (by decide +kernel)
theorem dbL_isUndercut_16 : (decode dsL_isUndercut_16 0 = .ok (.goto 6, 3) ∧ okop dsL_isUndercut_16 0 = true) ∧ (decode dsL_isUndercut_16 3 = .ok (.astore_n 3, 1) ∧ okop dsL_isUndercut_16 3 = true) ∧ (decode dsL_isUndercut_16 4 = .ok (.iconst 1, 1) ∧ okop dsL_isUndercut_16 4 = true) ∧ (decode dsL_isUndercut_16 5 = .ok (.ireturn, 1) ∧ okop dsL_isUndercut_16 5 = true) ∧ (decode dsL_isUndercut_16 6 = .ok (.iconst 0, 1) ∧ okop dsL_isUndercut_16 6 = true) ∧ (decode dsL_isUndercut_16 7 = .ok (.ireturn, 1) ∧ okop dsL_isUndercut_16 7 = true) := by decide +kernel
theorem dL_isUndercut_16 : decode cL_isUndercut 16 = .ok (.goto 6, 3) := dgq (p := 0) daL_isUndercut_16 dbL_isUndercut_16.1
theorem dL_isUndercut_19 : decode cL_isUndercut 19 = .ok (.astore_n 3, 1) := dgq (p := 3) daL_isUndercut_16 dbL_isUndercut_16.2.1
theorem dL_isUndercut_20 : decode cL_isUndercut 20 = .ok (.iconst 1, 1) := dgq (p := 4) daL_isUndercut_16 dbL_isUndercut_16.2.2.1
theorem dL_isUndercut_21 : decode cL_isUndercut 21 = .ok (.ireturn, 1) := dgq (p := 5) daL_isUndercut_16 dbL_isUndercut_16.2.2.2.1
theorem dL_isUndercut_22 : decode cL_isUndercut 22 = .ok (.iconst 0, 1) := dgq (p := 6) daL_isUndercut_16 dbL_isUndercut_16.2.2.2.2.1
theorem dL_isUndercut_23 : decode cL_isUndercut 23 = .ok (.ireturn, 1) := dgq (p := 7) daL_isUndercut_16 dbL_isUndercut_16.2.2.2.2.2
set_option maxRecDepth 20000 in
theorem ggL_isSharp_X9_isSharp : GoodIn wsL_isSharp wsX9_isSharp := goodIn_ca (goodIn_ca (goodIn_ca (goodIn_q _ [6, 7, 8, 9, 10, 11, 5, 12, 13, 14, 15, 16, 17, 18, 19] rfl (by decide +kernel)) (goodIn_sub (fun _ h => (List.mem_cons_of_mem _ (List.mem_append_left _ (List.mem_append_left _ (List.mem_append_left _ (List.mem_append_right _ h)))))) tg_wsX20)) (goodIn_sub (fun _ h => (List.mem_cons_of_mem _ (List.mem_append_left _ (List.mem_append_left _ (List.mem_append_right _ h))))) tg_wsX90)) (goodIn_sub (fun _ h => List.mem_cons_of_mem _ (List.mem_append_right _ h)) (by decide +kernel))
set_option maxRecDepth 20000 in
theorem gL_isSharp_X9_isSharp : GoodIn wsL_isSharp (wsV RL 36 RX9 yX9_isSharp wsX9_isSharp) := goodIn_app (goodIn_q _ [2, 3, 4, 5] rfl (by decide +kernel)) ggL_isSharp_X9_isSharp
def dsL_isSharp_0 : ByteArray := ⟨#[44, 3, 42, 27, 182, 0, 36, 153, 0, 7, 10, 167, 0, 4, 9, 80]⟩
theorem daL_isSharp_0 : agB cL_isSharp dsL_isSharp_0 0 := agB_of (n := 16) (by decide +kernel)
theorem dbL_isSharp_0 : (decode dsL_isSharp_0 0 = .ok (.aload_n 2, 1) ∧ okop dsL_isSharp_0 0 = true) ∧ (decode dsL_isSharp_0 1 = .ok (.iconst 0, 1) ∧ okop dsL_isSharp_0 1 = true) ∧ (decode dsL_isSharp_0 2 = .ok (.aload_n 0, 1) ∧ okop dsL_isSharp_0 2 = true) ∧ (decode dsL_isSharp_0 3 = .ok (.iload_n 1, 1) ∧ okop dsL_isSharp_0 3 = true) ∧ (decode dsL_isSharp_0 4 = .ok (.invokevirtual 36, 3) ∧ okop dsL_isSharp_0 4 = true) ∧ (decode dsL_isSharp_0 7 = .ok (.ifCond .eq 7, 3) ∧ okop dsL_isSharp_0 7 = true) ∧ (decode dsL_isSharp_0 10 = .ok (.lconst 1, 1) ∧ okop dsL_isSharp_0 10 = true) ∧ (decode dsL_isSharp_0 11 = .ok (.goto 4, 3) ∧ okop dsL_isSharp_0 11 = true) ∧ (decode dsL_isSharp_0 14 = .ok (.lconst 0, 1) ∧ okop dsL_isSharp_0 14 = true) ∧ (decode dsL_isSharp_0 15 = .ok (.lastore, 1) ∧ okop dsL_isSharp_0 15 = true) := by decide +kernel
theorem dL_isSharp_0 : decode cL_isSharp 0 = .ok (.aload_n 2, 1) := dgq (p := 0) daL_isSharp_0 dbL_isSharp_0.1
theorem dL_isSharp_1 : decode cL_isSharp 1 = .ok (.iconst 0, 1) := dgq (p := 1) daL_isSharp_0 dbL_isSharp_0.2.1
theorem dL_isSharp_2 : decode cL_isSharp 2 = .ok (.aload_n 0, 1) := dgq (p := 2) daL_isSharp_0 dbL_isSharp_0.2.2.1
theorem dL_isSharp_3 : decode cL_isSharp 3 = .ok (.iload_n 1, 1) := dgq (p := 3) daL_isSharp_0 dbL_isSharp_0.2.2.2.1
theorem dL_isSharp_4 : decode cL_isSharp 4 = .ok (.invokevirtual 36, 3) := dgq (p := 4) daL_isSharp_0 dbL_isSharp_0.2.2.2.2.1
theorem dL_isSharp_7 : decode cL_isSharp 7 = .ok (.ifCond .eq 7, 3) := dgq (p := 7) daL_isSharp_0 dbL_isSharp_0.2.2.2.2.2.1
theorem dL_isSharp_10 : decode cL_isSharp 10 = .ok (.lconst 1, 1) := dgq (p := 10) daL_isSharp_0 dbL_isSharp_0.2.2.2.2.2.2.1
theorem dL_isSharp_11 : decode cL_isSharp 11 = .ok (.goto 4, 3) := dgq (p := 11) daL_isSharp_0 dbL_isSharp_0.2.2.2.2.2.2.2.1
theorem dL_isSharp_14 : decode cL_isSharp 14 = .ok (.lconst 0, 1) := dgq (p := 14) daL_isSharp_0 dbL_isSharp_0.2.2.2.2.2.2.2.2.1
theorem dL_isSharp_15 : decode cL_isSharp 15 = .ok (.lastore, 1) := dgq (p := 15) daL_isSharp_0 dbL_isSharp_0.2.2.2.2.2.2.2.2.2
def dsL_isSharp_16 : ByteArray := ⟨#[167, 0, 6, 78, 4, 172, 3, 172]⟩
theorem daL_isSharp_16 : agB cL_isSharp dsL_isSharp_16 16 := agB_of (n := 8) (by decide +kernel)
theorem dbL_isSharp_16 : (decode dsL_isSharp_16 0 = .ok (.goto 6, 3) ∧ okop dsL_isSharp_16 0 = true) ∧ (decode dsL_isSharp_16 3 = .ok (.astore_n 3, 1) ∧ okop dsL_isSharp_16 3 = true) ∧ (decode dsL_isSharp_16 4 = .ok (.iconst 1, 1) ∧ okop dsL_isSharp_16 4 = true) ∧ (decode dsL_isSharp_16 5 = .ok (.ireturn, 1) ∧ okop dsL_isSharp_16 5 = true) ∧ (decode dsL_isSharp_16 6 = .ok (.iconst 0, 1) ∧ okop dsL_isSharp_16 6 = true) ∧ (decode dsL_isSharp_16 7 = .ok (.ireturn, 1) ∧ okop dsL_isSharp_16 7 = true) := by decide +kernel
theorem dL_isSharp_16 : decode cL_isSharp 16 = .ok (.goto 6, 3) := dgq (p := 0) daL_isSharp_16 dbL_isSharp_16.1
theorem dL_isSharp_19 : decode cL_isSharp 19 = .ok (.astore_n 3, 1) := dgq (p := 3) daL_isSharp_16 dbL_isSharp_16.2.1
theorem dL_isSharp_20 : decode cL_isSharp 20 = .ok (.iconst 1, 1) := dgq (p := 4) daL_isSharp_16 dbL_isSharp_16.2.2.1
theorem dL_isSharp_21 : decode cL_isSharp 21 = .ok (.ireturn, 1) := dgq (p := 5) daL_isSharp_16 dbL_isSharp_16.2.2.2.1
theorem dL_isSharp_22 : decode cL_isSharp 22 = .ok (.iconst 0, 1) := dgq (p := 6) daL_isSharp_16 dbL_isSharp_16.2.2.2.2.1
theorem dL_isSharp_23 : decode cL_isSharp 23 = .ok (.ireturn, 1) := dgq (p := 7) daL_isSharp_16 dbL_isSharp_16.2.2.2.2.2
set_option maxRecDepth 20000 in
theorem ggL_fewest_X9_fewest : GoodIn wsL_fewest wsX9_fewest := goodIn_ca (goodIn_q _ [6, 7, 8, 5, 9, 10, 11, 12, 13, 14] rfl (by decide +kernel)) (goodIn_sub (fun _ h => List.mem_cons_of_mem _ (List.mem_append_right _ h)) (by decide +kernel))
set_option maxRecDepth 20000 in
theorem gL_fewest_X9_fewest : GoodIn wsL_fewest (wsV RL 39 RX9 yX9_fewest wsX9_fewest) := goodIn_app (goodIn_q _ [2, 3, 4, 5] rfl (by decide +kernel)) ggL_fewest_X9_fewest
def dsL_fewest_0 : ByteArray := ⟨#[44, 3, 42, 27, 182, 0, 39, 133, 80, 167, 0, 6, 78, 4]⟩
theorem daL_fewest_0 : agB cL_fewest dsL_fewest_0 0 := agB_of (n := 14) (by decide +kernel)
theorem dbL_fewest_0 : (decode dsL_fewest_0 0 = .ok (.aload_n 2, 1) ∧ okop dsL_fewest_0 0 = true) ∧ (decode dsL_fewest_0 1 = .ok (.iconst 0, 1) ∧ okop dsL_fewest_0 1 = true) ∧ (decode dsL_fewest_0 2 = .ok (.aload_n 0, 1) ∧ okop dsL_fewest_0 2 = true) ∧ (decode dsL_fewest_0 3 = .ok (.iload_n 1, 1) ∧ okop dsL_fewest_0 3 = true) ∧ (decode dsL_fewest_0 4 = .ok (.invokevirtual 39, 3) ∧ okop dsL_fewest_0 4 = true) ∧ (decode dsL_fewest_0 7 = .ok (.i2l, 1) ∧ okop dsL_fewest_0 7 = true) ∧ (decode dsL_fewest_0 8 = .ok (.lastore, 1) ∧ okop dsL_fewest_0 8 = true) ∧ (decode dsL_fewest_0 9 = .ok (.goto 6, 3) ∧ okop dsL_fewest_0 9 = true) ∧ (decode dsL_fewest_0 12 = .ok (.astore_n 3, 1) ∧ okop dsL_fewest_0 12 = true) ∧ (decode dsL_fewest_0 13 = .ok (.iconst 1, 1) ∧ okop dsL_fewest_0 13 = true) := by decide +kernel
theorem dL_fewest_0 : decode cL_fewest 0 = .ok (.aload_n 2, 1) := dgq (p := 0) daL_fewest_0 dbL_fewest_0.1
theorem dL_fewest_1 : decode cL_fewest 1 = .ok (.iconst 0, 1) := dgq (p := 1) daL_fewest_0 dbL_fewest_0.2.1
theorem dL_fewest_2 : decode cL_fewest 2 = .ok (.aload_n 0, 1) := dgq (p := 2) daL_fewest_0 dbL_fewest_0.2.2.1
theorem dL_fewest_3 : decode cL_fewest 3 = .ok (.iload_n 1, 1) := dgq (p := 3) daL_fewest_0 dbL_fewest_0.2.2.2.1
theorem dL_fewest_4 : decode cL_fewest 4 = .ok (.invokevirtual 39, 3) := dgq (p := 4) daL_fewest_0 dbL_fewest_0.2.2.2.2.1
theorem dL_fewest_7 : decode cL_fewest 7 = .ok (.i2l, 1) := dgq (p := 7) daL_fewest_0 dbL_fewest_0.2.2.2.2.2.1
theorem dL_fewest_8 : decode cL_fewest 8 = .ok (.lastore, 1) := dgq (p := 8) daL_fewest_0 dbL_fewest_0.2.2.2.2.2.2.1
theorem dL_fewest_9 : decode cL_fewest 9 = .ok (.goto 6, 3) := dgq (p := 9) daL_fewest_0 dbL_fewest_0.2.2.2.2.2.2.2.1
theorem dL_fewest_12 : decode cL_fewest 12 = .ok (.astore_n 3, 1) := dgq (p := 12) daL_fewest_0 dbL_fewest_0.2.2.2.2.2.2.2.2.1
theorem dL_fewest_13 : decode cL_fewest 13 = .ok (.iconst 1, 1) := dgq (p := 13) daL_fewest_0 dbL_fewest_0.2.2.2.2.2.2.2.2.2
def dsL_fewest_14 : ByteArray := ⟨#[172, 3, 172]⟩
theorem daL_fewest_14 : agB cL_fewest dsL_fewest_14 14 := agB_of (n := 3) (by decide +kernel)
theorem dbL_fewest_14 : (decode dsL_fewest_14 0 = .ok (.ireturn, 1) ∧ okop dsL_fewest_14 0 = true) ∧ (decode dsL_fewest_14 1 = .ok (.iconst 0, 1) ∧ okop dsL_fewest_14 1 = true) ∧ (decode dsL_fewest_14 2 = .ok (.ireturn, 1) ∧ okop dsL_fewest_14 2 = true) := by decide +kernel
theorem dL_fewest_14 : decode cL_fewest 14 = .ok (.ireturn, 1) := dgq (p := 0) daL_fewest_14 dbL_fewest_14.1
theorem dL_fewest_15 : decode cL_fewest 15 = .ok (.iconst 0, 1) := dgq (p := 1) daL_fewest_14 dbL_fewest_14.2.1
theorem dL_fewest_16 : decode cL_fewest 16 = .ok (.ireturn, 1) := dgq (p := 2) daL_fewest_14 dbL_fewest_14.2.2
set_option maxRecDepth 20000 in
theorem ggL_doPair_X9_doPair : GoodIn wsL_doPair wsX9_doPair := goodIn_ca (goodIn_ca (goodIn_ca (goodIn_ca (goodIn_q _ [7, 8, 9, 10, 11, 12, 6, 13, 14, 15, 16, 17, 18, 19, 20, 21, 22, 23, 24] rfl (by decide +kernel)) (goodIn_sub (fun _ h => (List.mem_cons_of_mem _ (List.mem_append_left _ (List.mem_append_left _ (List.mem_append_left _ (List.mem_append_left _ (List.mem_append_right _ h))))))) tg_wsX90)) (goodIn_sub (fun _ h => (List.mem_cons_of_mem _ (List.mem_append_left _ (List.mem_append_left _ (List.mem_append_left _ (List.mem_append_right _ h)))))) tg_wsX20)) (goodIn_sub (fun _ h => List.mem_cons_of_mem _ (List.mem_append_left _ (List.mem_append_right _ h))) (by decide +kernel))) (goodIn_sub (fun _ h => List.mem_cons_of_mem _ (List.mem_append_right _ h)) (by decide +kernel))
set_option maxRecDepth 20000 in
theorem gL_doPair_X9_doPair : GoodIn wsL_doPair (wsV RL 42 RX9 yX9_doPair wsX9_doPair) := goodIn_app (goodIn_q _ [3, 4, 5, 6] rfl (by decide +kernel)) ggL_doPair_X9_doPair
def dsL_doPair_0 : ByteArray := ⟨#[45, 3, 42, 27, 28, 182, 0, 42, 153, 0, 7, 10, 167, 0, 4, 9]⟩
theorem daL_doPair_0 : agB cL_doPair dsL_doPair_0 0 := agB_of (n := 16) (by decide +kernel)
theorem dbL_doPair_0 : (decode dsL_doPair_0 0 = .ok (.aload_n 3, 1) ∧ okop dsL_doPair_0 0 = true) ∧ (decode dsL_doPair_0 1 = .ok (.iconst 0, 1) ∧ okop dsL_doPair_0 1 = true) ∧ (decode dsL_doPair_0 2 = .ok (.aload_n 0, 1) ∧ okop dsL_doPair_0 2 = true) ∧ (decode dsL_doPair_0 3 = .ok (.iload_n 1, 1) ∧ okop dsL_doPair_0 3 = true) ∧ (decode dsL_doPair_0 4 = .ok (.iload_n 2, 1) ∧ okop dsL_doPair_0 4 = true) ∧ (decode dsL_doPair_0 5 = .ok (.invokevirtual 42, 3) ∧ okop dsL_doPair_0 5 = true) ∧ (decode dsL_doPair_0 8 = .ok (.ifCond .eq 7, 3) ∧ okop dsL_doPair_0 8 = true) ∧ (decode dsL_doPair_0 11 = .ok (.lconst 1, 1) ∧ okop dsL_doPair_0 11 = true) ∧ (decode dsL_doPair_0 12 = .ok (.goto 4, 3) ∧ okop dsL_doPair_0 12 = true) ∧ (decode dsL_doPair_0 15 = .ok (.lconst 0, 1) ∧ okop dsL_doPair_0 15 = true) := by decide +kernel
theorem dL_doPair_0 : decode cL_doPair 0 = .ok (.aload_n 3, 1) := dgq (p := 0) daL_doPair_0 dbL_doPair_0.1
theorem dL_doPair_1 : decode cL_doPair 1 = .ok (.iconst 0, 1) := dgq (p := 1) daL_doPair_0 dbL_doPair_0.2.1
theorem dL_doPair_2 : decode cL_doPair 2 = .ok (.aload_n 0, 1) := dgq (p := 2) daL_doPair_0 dbL_doPair_0.2.2.1
theorem dL_doPair_3 : decode cL_doPair 3 = .ok (.iload_n 1, 1) := dgq (p := 3) daL_doPair_0 dbL_doPair_0.2.2.2.1
theorem dL_doPair_4 : decode cL_doPair 4 = .ok (.iload_n 2, 1) := dgq (p := 4) daL_doPair_0 dbL_doPair_0.2.2.2.2.1
theorem dL_doPair_5 : decode cL_doPair 5 = .ok (.invokevirtual 42, 3) := dgq (p := 5) daL_doPair_0 dbL_doPair_0.2.2.2.2.2.1
theorem dL_doPair_8 : decode cL_doPair 8 = .ok (.ifCond .eq 7, 3) := dgq (p := 8) daL_doPair_0 dbL_doPair_0.2.2.2.2.2.2.1
theorem dL_doPair_11 : decode cL_doPair 11 = .ok (.lconst 1, 1) := dgq (p := 11) daL_doPair_0 dbL_doPair_0.2.2.2.2.2.2.2.1
theorem dL_doPair_12 : decode cL_doPair 12 = .ok (.goto 4, 3) := dgq (p := 12) daL_doPair_0 dbL_doPair_0.2.2.2.2.2.2.2.2.1
theorem dL_doPair_15 : decode cL_doPair 15 = .ok (.lconst 0, 1) := dgq (p := 15) daL_doPair_0 dbL_doPair_0.2.2.2.2.2.2.2.2.2
def dsL_doPair_16 : ByteArray := ⟨#[80, 167, 0, 11, 58, 4, 4, 172, 58, 4, 5, 172, 3, 172]⟩
theorem daL_doPair_16 : agB cL_doPair dsL_doPair_16 16 := agB_of (n := 14) (by decide +kernel)
theorem dbL_doPair_16 : (decode dsL_doPair_16 0 = .ok (.lastore, 1) ∧ okop dsL_doPair_16 0 = true) ∧ (decode dsL_doPair_16 1 = .ok (.goto 11, 3) ∧ okop dsL_doPair_16 1 = true) ∧ (decode dsL_doPair_16 4 = .ok (.astore 4, 2) ∧ okop dsL_doPair_16 4 = true) ∧ (decode dsL_doPair_16 6 = .ok (.iconst 1, 1) ∧ okop dsL_doPair_16 6 = true) ∧ (decode dsL_doPair_16 7 = .ok (.ireturn, 1) ∧ okop dsL_doPair_16 7 = true) ∧ (decode dsL_doPair_16 8 = .ok (.astore 4, 2) ∧ okop dsL_doPair_16 8 = true) ∧ (decode dsL_doPair_16 10 = .ok (.iconst 2, 1) ∧ okop dsL_doPair_16 10 = true) ∧ (decode dsL_doPair_16 11 = .ok (.ireturn, 1) ∧ okop dsL_doPair_16 11 = true) ∧ (decode dsL_doPair_16 12 = .ok (.iconst 0, 1) ∧ okop dsL_doPair_16 12 = true) ∧ (decode dsL_doPair_16 13 = .ok (.ireturn, 1) ∧ okop dsL_doPair_16 13 = true) := by decide +kernel
theorem dL_doPair_16 : decode cL_doPair 16 = .ok (.lastore, 1) := dgq (p := 0) daL_doPair_16 dbL_doPair_16.1
theorem dL_doPair_17 : decode cL_doPair 17 = .ok (.goto 11, 3) := dgq (p := 1) daL_doPair_16 dbL_doPair_16.2.1
theorem dL_doPair_20 : decode cL_doPair 20 = .ok (.astore 4, 2) := dgq (p := 4) daL_doPair_16 dbL_doPair_16.2.2.1
theorem dL_doPair_22 : decode cL_doPair 22 = .ok (.iconst 1, 1) := dgq (p := 6) daL_doPair_16 dbL_doPair_16.2.2.2.1
theorem dL_doPair_23 : decode cL_doPair 23 = .ok (.ireturn, 1) := dgq (p := 7) daL_doPair_16 dbL_doPair_16.2.2.2.2.1
theorem dL_doPair_24 : decode cL_doPair 24 = .ok (.astore 4, 2) := dgq (p := 8) daL_doPair_16 dbL_doPair_16.2.2.2.2.2.1
theorem dL_doPair_26 : decode cL_doPair 26 = .ok (.iconst 2, 1) := dgq (p := 10) daL_doPair_16 dbL_doPair_16.2.2.2.2.2.2.1
theorem dL_doPair_27 : decode cL_doPair 27 = .ok (.ireturn, 1) := dgq (p := 11) daL_doPair_16 dbL_doPair_16.2.2.2.2.2.2.2.1
theorem dL_doPair_28 : decode cL_doPair 28 = .ok (.iconst 0, 1) := dgq (p := 12) daL_doPair_16 dbL_doPair_16.2.2.2.2.2.2.2.2.1
theorem dL_doPair_29 : decode cL_doPair 29 = .ok (.ireturn, 1) := dgq (p := 13) daL_doPair_16 dbL_doPair_16.2.2.2.2.2.2.2.2.2
set_option maxRecDepth 20000 in
theorem ggL_contact_X9_contact : GoodIn wsL_contact wsX9_contact := goodIn_ca (goodIn_ca (goodIn_ca (goodIn_ca (goodIn_ca (goodIn_q _ [7, 8, 9, 10, 6, 11, 12, 13, 14, 15, 16, 17, 18, 19, 20, 21, 22, 23, 24, 25, 26, 27, 28, 29, 30, 31, 32, 33, 34, 35, 36, 37, 38, 39, 40, 41, 42, 43, 44, 45, 46, 47, 48, 49, 50, 51, 52, 53, 54, 55, 56, 57, 58, 59, 60, 61] rfl (by decide +kernel)) (goodIn_sub (fun _ h => (List.mem_cons_of_mem _ (List.mem_append_left _ (List.mem_append_left _ (List.mem_append_left _ (List.mem_append_left _ (List.mem_append_left _ (List.mem_append_right _ h)))))))) tg_wsX90)) (goodIn_sub (fun _ h => (List.mem_cons_of_mem _ (List.mem_append_left _ (List.mem_append_left _ (List.mem_append_left _ (List.mem_append_left _ (List.mem_append_right _ h))))))) tg_wsX20)) (goodIn_sub (fun _ h => List.mem_cons_of_mem _ (List.mem_append_left _ (List.mem_append_left _ (List.mem_append_right _ h)))) (by decide +kernel))) (goodIn_sub (fun _ h => List.mem_cons_of_mem _ (List.mem_append_left _ (List.mem_append_right _ h))) (by decide +kernel))) (goodIn_sub (fun _ h => List.mem_cons_of_mem _ (List.mem_append_right _ h)) (by decide +kernel))
set_option maxRecDepth 20000 in
theorem gL_contact_X9_contact : GoodIn wsL_contact (wsV RL 46 RX9 yX9_contact wsX9_contact) := goodIn_app (goodIn_q _ [3, 4, 5, 6] rfl (by decide +kernel)) ggL_contact_X9_contact
def dsL_contact_0 : ByteArray := ⟨#[45, 3, 42, 27, 28, 182, 0, 46, 80, 167, 0, 11, 58, 4, 4]⟩
theorem daL_contact_0 : agB cL_contact dsL_contact_0 0 := agB_of (n := 15) (by decide +kernel)
theorem dbL_contact_0 : (decode dsL_contact_0 0 = .ok (.aload_n 3, 1) ∧ okop dsL_contact_0 0 = true) ∧ (decode dsL_contact_0 1 = .ok (.iconst 0, 1) ∧ okop dsL_contact_0 1 = true) ∧ (decode dsL_contact_0 2 = .ok (.aload_n 0, 1) ∧ okop dsL_contact_0 2 = true) ∧ (decode dsL_contact_0 3 = .ok (.iload_n 1, 1) ∧ okop dsL_contact_0 3 = true) ∧ (decode dsL_contact_0 4 = .ok (.iload_n 2, 1) ∧ okop dsL_contact_0 4 = true) ∧ (decode dsL_contact_0 5 = .ok (.invokevirtual 46, 3) ∧ okop dsL_contact_0 5 = true) ∧ (decode dsL_contact_0 8 = .ok (.lastore, 1) ∧ okop dsL_contact_0 8 = true) ∧ (decode dsL_contact_0 9 = .ok (.goto 11, 3) ∧ okop dsL_contact_0 9 = true) ∧ (decode dsL_contact_0 12 = .ok (.astore 4, 2) ∧ okop dsL_contact_0 12 = true) ∧ (decode dsL_contact_0 14 = .ok (.iconst 1, 1) ∧ okop dsL_contact_0 14 = true) := by decide +kernel
theorem dL_contact_0 : decode cL_contact 0 = .ok (.aload_n 3, 1) := dgq (p := 0) daL_contact_0 dbL_contact_0.1
theorem dL_contact_1 : decode cL_contact 1 = .ok (.iconst 0, 1) := dgq (p := 1) daL_contact_0 dbL_contact_0.2.1
theorem dL_contact_2 : decode cL_contact 2 = .ok (.aload_n 0, 1) := dgq (p := 2) daL_contact_0 dbL_contact_0.2.2.1
theorem dL_contact_3 : decode cL_contact 3 = .ok (.iload_n 1, 1) := dgq (p := 3) daL_contact_0 dbL_contact_0.2.2.2.1
theorem dL_contact_4 : decode cL_contact 4 = .ok (.iload_n 2, 1) := dgq (p := 4) daL_contact_0 dbL_contact_0.2.2.2.2.1
theorem dL_contact_5 : decode cL_contact 5 = .ok (.invokevirtual 46, 3) := dgq (p := 5) daL_contact_0 dbL_contact_0.2.2.2.2.2.1
theorem dL_contact_8 : decode cL_contact 8 = .ok (.lastore, 1) := dgq (p := 8) daL_contact_0 dbL_contact_0.2.2.2.2.2.2.1
theorem dL_contact_9 : decode cL_contact 9 = .ok (.goto 11, 3) := dgq (p := 9) daL_contact_0 dbL_contact_0.2.2.2.2.2.2.2.1
theorem dL_contact_12 : decode cL_contact 12 = .ok (.astore 4, 2) := dgq (p := 12) daL_contact_0 dbL_contact_0.2.2.2.2.2.2.2.2.1
theorem dL_contact_14 : decode cL_contact 14 = .ok (.iconst 1, 1) := dgq (p := 14) daL_contact_0 dbL_contact_0.2.2.2.2.2.2.2.2.2
def dsL_contact_15 : ByteArray := ⟨#[172, 58, 4, 5, 172, 3, 172]⟩
theorem daL_contact_15 : agB cL_contact dsL_contact_15 15 := agB_of (n := 7) (by decide +kernel)
theorem dbL_contact_15 : (decode dsL_contact_15 0 = .ok (.ireturn, 1) ∧ okop dsL_contact_15 0 = true) ∧ (decode dsL_contact_15 1 = .ok (.astore 4, 2) ∧ okop dsL_contact_15 1 = true) ∧ (decode dsL_contact_15 3 = .ok (.iconst 2, 1) ∧ okop dsL_contact_15 3 = true) ∧ (decode dsL_contact_15 4 = .ok (.ireturn, 1) ∧ okop dsL_contact_15 4 = true) ∧ (decode dsL_contact_15 5 = .ok (.iconst 0, 1) ∧ okop dsL_contact_15 5 = true) ∧ (decode dsL_contact_15 6 = .ok (.ireturn, 1) ∧ okop dsL_contact_15 6 = true) := by decide +kernel
theorem dL_contact_15 : decode cL_contact 15 = .ok (.ireturn, 1) := dgq (p := 0) daL_contact_15 dbL_contact_15.1
theorem dL_contact_16 : decode cL_contact 16 = .ok (.astore 4, 2) := dgq (p := 1) daL_contact_15 dbL_contact_15.2.1
theorem dL_contact_18 : decode cL_contact 18 = .ok (.iconst 2, 1) := dgq (p := 3) daL_contact_15 dbL_contact_15.2.2.1
theorem dL_contact_19 : decode cL_contact 19 = .ok (.ireturn, 1) := dgq (p := 4) daL_contact_15 dbL_contact_15.2.2.2.1
theorem dL_contact_20 : decode cL_contact 20 = .ok (.iconst 0, 1) := dgq (p := 5) daL_contact_15 dbL_contact_15.2.2.2.2.1
theorem dL_contact_21 : decode cL_contact 21 = .ok (.ireturn, 1) := dgq (p := 6) daL_contact_15 dbL_contact_15.2.2.2.2.2
set_option maxRecDepth 20000 in
theorem ggL_overlap_X9_overlap : GoodIn wsL_overlap wsX9_overlap := goodIn_ca (goodIn_ca (goodIn_ca (goodIn_ca (goodIn_ca (goodIn_q _ [7, 8, 9, 10, 6, 11, 12, 13, 14, 15, 16, 17, 18, 19, 20, 21, 22, 23, 24, 25, 26, 27, 28, 29, 30, 31, 32, 33, 34, 35, 36, 37, 38, 39, 40, 41, 42, 43, 44, 45] rfl (by decide +kernel)) (goodIn_sub (fun _ h => (List.mem_cons_of_mem _ (List.mem_append_left _ (List.mem_append_left _ (List.mem_append_left _ (List.mem_append_left _ (List.mem_append_left _ (List.mem_append_right _ h)))))))) tg_wsX90)) (goodIn_sub (fun _ h => (List.mem_cons_of_mem _ (List.mem_append_left _ (List.mem_append_left _ (List.mem_append_left _ (List.mem_append_left _ (List.mem_append_right _ h))))))) tg_wsX20)) (goodIn_sub (fun _ h => List.mem_cons_of_mem _ (List.mem_append_left _ (List.mem_append_left _ (List.mem_append_right _ h)))) (by decide +kernel))) (goodIn_sub (fun _ h => List.mem_cons_of_mem _ (List.mem_append_left _ (List.mem_append_right _ h))) (by decide +kernel))) (goodIn_sub (fun _ h => List.mem_cons_of_mem _ (List.mem_append_right _ h)) (by decide +kernel))
set_option maxRecDepth 20000 in
theorem gL_overlap_X9_overlap : GoodIn wsL_overlap (wsV RL 50 RX9 yX9_overlap wsX9_overlap) := goodIn_app (goodIn_q _ [3, 4, 5, 6] rfl (by decide +kernel)) ggL_overlap_X9_overlap
def dsL_overlap_0 : ByteArray := ⟨#[45, 3, 42, 27, 28, 182, 0, 50, 80, 167, 0, 11, 58, 4, 4]⟩
theorem daL_overlap_0 : agB cL_overlap dsL_overlap_0 0 := agB_of (n := 15) (by decide +kernel)
theorem dbL_overlap_0 : (decode dsL_overlap_0 0 = .ok (.aload_n 3, 1) ∧ okop dsL_overlap_0 0 = true) ∧ (decode dsL_overlap_0 1 = .ok (.iconst 0, 1) ∧ okop dsL_overlap_0 1 = true) ∧ (decode dsL_overlap_0 2 = .ok (.aload_n 0, 1) ∧ okop dsL_overlap_0 2 = true) ∧ (decode dsL_overlap_0 3 = .ok (.iload_n 1, 1) ∧ okop dsL_overlap_0 3 = true) ∧ (decode dsL_overlap_0 4 = .ok (.iload_n 2, 1) ∧ okop dsL_overlap_0 4 = true) ∧ (decode dsL_overlap_0 5 = .ok (.invokevirtual 50, 3) ∧ okop dsL_overlap_0 5 = true) ∧ (decode dsL_overlap_0 8 = .ok (.lastore, 1) ∧ okop dsL_overlap_0 8 = true) ∧ (decode dsL_overlap_0 9 = .ok (.goto 11, 3) ∧ okop dsL_overlap_0 9 = true) ∧ (decode dsL_overlap_0 12 = .ok (.astore 4, 2) ∧ okop dsL_overlap_0 12 = true) ∧ (decode dsL_overlap_0 14 = .ok (.iconst 1, 1) ∧ okop dsL_overlap_0 14 = true) := by decide +kernel
theorem dL_overlap_0 : decode cL_overlap 0 = .ok (.aload_n 3, 1) := dgq (p := 0) daL_overlap_0 dbL_overlap_0.1
theorem dL_overlap_1 : decode cL_overlap 1 = .ok (.iconst 0, 1) := dgq (p := 1) daL_overlap_0 dbL_overlap_0.2.1
theorem dL_overlap_2 : decode cL_overlap 2 = .ok (.aload_n 0, 1) := dgq (p := 2) daL_overlap_0 dbL_overlap_0.2.2.1
theorem dL_overlap_3 : decode cL_overlap 3 = .ok (.iload_n 1, 1) := dgq (p := 3) daL_overlap_0 dbL_overlap_0.2.2.2.1
theorem dL_overlap_4 : decode cL_overlap 4 = .ok (.iload_n 2, 1) := dgq (p := 4) daL_overlap_0 dbL_overlap_0.2.2.2.2.1
theorem dL_overlap_5 : decode cL_overlap 5 = .ok (.invokevirtual 50, 3) := dgq (p := 5) daL_overlap_0 dbL_overlap_0.2.2.2.2.2.1
theorem dL_overlap_8 : decode cL_overlap 8 = .ok (.lastore, 1) := dgq (p := 8) daL_overlap_0 dbL_overlap_0.2.2.2.2.2.2.1
theorem dL_overlap_9 : decode cL_overlap 9 = .ok (.goto 11, 3) := dgq (p := 9) daL_overlap_0 dbL_overlap_0.2.2.2.2.2.2.2.1
theorem dL_overlap_12 : decode cL_overlap 12 = .ok (.astore 4, 2) := dgq (p := 12) daL_overlap_0 dbL_overlap_0.2.2.2.2.2.2.2.2.1
theorem dL_overlap_14 : decode cL_overlap 14 = .ok (.iconst 1, 1) := dgq (p := 14) daL_overlap_0 dbL_overlap_0.2.2.2.2.2.2.2.2.2
def dsL_overlap_15 : ByteArray := ⟨#[172, 58, 4, 5, 172, 3, 172]⟩
theorem daL_overlap_15 : agB cL_overlap dsL_overlap_15 15 := agB_of (n := 7) (by decide +kernel)
theorem dbL_overlap_15 : (decode dsL_overlap_15 0 = .ok (.ireturn, 1) ∧ okop dsL_overlap_15 0 = true) ∧ (decode dsL_overlap_15 1 = .ok (.astore 4, 2) ∧ okop dsL_overlap_15 1 = true) ∧ (decode dsL_overlap_15 3 = .ok (.iconst 2, 1) ∧ okop dsL_overlap_15 3 = true) ∧ (decode dsL_overlap_15 4 = .ok (.ireturn, 1) ∧ okop dsL_overlap_15 4 = true) ∧ (decode dsL_overlap_15 5 = .ok (.iconst 0, 1) ∧ okop dsL_overlap_15 5 = true) ∧ (decode dsL_overlap_15 6 = .ok (.ireturn, 1) ∧ okop dsL_overlap_15 6 = true) := by decide +kernel
theorem dL_overlap_15 : decode cL_overlap 15 = .ok (.ireturn, 1) := dgq (p := 0) daL_overlap_15 dbL_overlap_15.1
theorem dL_overlap_16 : decode cL_overlap 16 = .ok (.astore 4, 2) := dgq (p := 1) daL_overlap_15 dbL_overlap_15.2.1
theorem dL_overlap_18 : decode cL_overlap 18 = .ok (.iconst 2, 1) := dgq (p := 3) daL_overlap_15 dbL_overlap_15.2.2.1
theorem dL_overlap_19 : decode cL_overlap 19 = .ok (.ireturn, 1) := dgq (p := 4) daL_overlap_15 dbL_overlap_15.2.2.2.1
theorem dL_overlap_20 : decode cL_overlap 20 = .ok (.iconst 0, 1) := dgq (p := 5) daL_overlap_15 dbL_overlap_15.2.2.2.2.1
theorem dL_overlap_21 : decode cL_overlap 21 = .ok (.ireturn, 1) := dgq (p := 6) daL_overlap_15 dbL_overlap_15.2.2.2.2.2
set_option maxRecDepth 20000 in
theorem ggL_runsWell_X9_runsWell : GoodIn wsL_runsWell wsX9_runsWell := goodIn_ca (goodIn_ca (goodIn_ca (goodIn_ca (goodIn_ca (goodIn_q _ [7, 8, 9, 10, 11, 12, 6, 13, 14, 15, 16, 17, 18, 19, 20, 21, 22, 23, 24, 25, 26, 27, 28, 29, 30, 31, 32, 33, 34, 35, 36, 37, 38, 39, 40, 41, 42, 43, 44, 45, 46, 47, 48, 49, 50, 51, 52, 53, 54, 55, 56, 57, 58, 59, 60, 61, 62, 63, 64, 65, 66, 67, 68, 69, 70, 71, 72, 73, 74, 75, 76, 77, 78, 79, 80, 81, 82, 83] rfl (by decide +kernel)) (goodIn_sub (fun _ h => (List.mem_cons_of_mem _ (List.mem_append_left _ (List.mem_append_left _ (List.mem_append_left _ (List.mem_append_left _ (List.mem_append_left _ (List.mem_append_right _ h)))))))) tg_wsX20)) (goodIn_sub (fun _ h => (List.mem_cons_of_mem _ (List.mem_append_left _ (List.mem_append_left _ (List.mem_append_left _ (List.mem_append_left _ (List.mem_append_right _ h))))))) tg_wsX90)) (goodIn_sub (fun _ h => List.mem_cons_of_mem _ (List.mem_append_left _ (List.mem_append_left _ (List.mem_append_right _ h)))) (by decide +kernel))) (goodIn_sub (fun _ h => List.mem_cons_of_mem _ (List.mem_append_left _ (List.mem_append_right _ h))) (by decide +kernel))) (goodIn_sub (fun _ h => List.mem_cons_of_mem _ (List.mem_append_right _ h)) (by decide +kernel))
set_option maxRecDepth 20000 in
theorem gL_runsWell_X9_runsWell : GoodIn wsL_runsWell (wsV RL 53 RX9 yX9_runsWell wsX9_runsWell) := goodIn_app (goodIn_q _ [3, 4, 5, 6] rfl (by decide +kernel)) ggL_runsWell_X9_runsWell
def dsL_runsWell_0 : ByteArray := ⟨#[45, 3, 42, 27, 28, 182, 0, 53, 153, 0, 7, 10, 167, 0, 4, 9]⟩
theorem daL_runsWell_0 : agB cL_runsWell dsL_runsWell_0 0 := agB_of (n := 16) (by decide +kernel)
theorem dbL_runsWell_0 : (decode dsL_runsWell_0 0 = .ok (.aload_n 3, 1) ∧ okop dsL_runsWell_0 0 = true) ∧ (decode dsL_runsWell_0 1 = .ok (.iconst 0, 1) ∧ okop dsL_runsWell_0 1 = true) ∧ (decode dsL_runsWell_0 2 = .ok (.aload_n 0, 1) ∧ okop dsL_runsWell_0 2 = true) ∧ (decode dsL_runsWell_0 3 = .ok (.iload_n 1, 1) ∧ okop dsL_runsWell_0 3 = true) ∧ (decode dsL_runsWell_0 4 = .ok (.iload_n 2, 1) ∧ okop dsL_runsWell_0 4 = true) ∧ (decode dsL_runsWell_0 5 = .ok (.invokevirtual 53, 3) ∧ okop dsL_runsWell_0 5 = true) ∧ (decode dsL_runsWell_0 8 = .ok (.ifCond .eq 7, 3) ∧ okop dsL_runsWell_0 8 = true) ∧ (decode dsL_runsWell_0 11 = .ok (.lconst 1, 1) ∧ okop dsL_runsWell_0 11 = true) ∧ (decode dsL_runsWell_0 12 = .ok (.goto 4, 3) ∧ okop dsL_runsWell_0 12 = true) ∧ (decode dsL_runsWell_0 15 = .ok (.lconst 0, 1) ∧ okop dsL_runsWell_0 15 = true) := by decide +kernel
theorem dL_runsWell_0 : decode cL_runsWell 0 = .ok (.aload_n 3, 1) := dgq (p := 0) daL_runsWell_0 dbL_runsWell_0.1
theorem dL_runsWell_1 : decode cL_runsWell 1 = .ok (.iconst 0, 1) := dgq (p := 1) daL_runsWell_0 dbL_runsWell_0.2.1
theorem dL_runsWell_2 : decode cL_runsWell 2 = .ok (.aload_n 0, 1) := dgq (p := 2) daL_runsWell_0 dbL_runsWell_0.2.2.1
theorem dL_runsWell_3 : decode cL_runsWell 3 = .ok (.iload_n 1, 1) := dgq (p := 3) daL_runsWell_0 dbL_runsWell_0.2.2.2.1
theorem dL_runsWell_4 : decode cL_runsWell 4 = .ok (.iload_n 2, 1) := dgq (p := 4) daL_runsWell_0 dbL_runsWell_0.2.2.2.2.1
theorem dL_runsWell_5 : decode cL_runsWell 5 = .ok (.invokevirtual 53, 3) := dgq (p := 5) daL_runsWell_0 dbL_runsWell_0.2.2.2.2.2.1
theorem dL_runsWell_8 : decode cL_runsWell 8 = .ok (.ifCond .eq 7, 3) := dgq (p := 8) daL_runsWell_0 dbL_runsWell_0.2.2.2.2.2.2.1
theorem dL_runsWell_11 : decode cL_runsWell 11 = .ok (.lconst 1, 1) := dgq (p := 11) daL_runsWell_0 dbL_runsWell_0.2.2.2.2.2.2.2.1
theorem dL_runsWell_12 : decode cL_runsWell 12 = .ok (.goto 4, 3) := dgq (p := 12) daL_runsWell_0 dbL_runsWell_0.2.2.2.2.2.2.2.2.1
theorem dL_runsWell_15 : decode cL_runsWell 15 = .ok (.lconst 0, 1) := dgq (p := 15) daL_runsWell_0 dbL_runsWell_0.2.2.2.2.2.2.2.2.2
def dsL_runsWell_16 : ByteArray := ⟨#[80, 167, 0, 11, 58, 4, 4, 172, 58, 4, 5, 172, 3, 172]⟩
theorem daL_runsWell_16 : agB cL_runsWell dsL_runsWell_16 16 := agB_of (n := 14) (by decide +kernel)
theorem dbL_runsWell_16 : (decode dsL_runsWell_16 0 = .ok (.lastore, 1) ∧ okop dsL_runsWell_16 0 = true) ∧ (decode dsL_runsWell_16 1 = .ok (.goto 11, 3) ∧ okop dsL_runsWell_16 1 = true) ∧ (decode dsL_runsWell_16 4 = .ok (.astore 4, 2) ∧ okop dsL_runsWell_16 4 = true) ∧ (decode dsL_runsWell_16 6 = .ok (.iconst 1, 1) ∧ okop dsL_runsWell_16 6 = true) ∧ (decode dsL_runsWell_16 7 = .ok (.ireturn, 1) ∧ okop dsL_runsWell_16 7 = true) ∧ (decode dsL_runsWell_16 8 = .ok (.astore 4, 2) ∧ okop dsL_runsWell_16 8 = true) ∧ (decode dsL_runsWell_16 10 = .ok (.iconst 2, 1) ∧ okop dsL_runsWell_16 10 = true) ∧ (decode dsL_runsWell_16 11 = .ok (.ireturn, 1) ∧ okop dsL_runsWell_16 11 = true) ∧ (decode dsL_runsWell_16 12 = .ok (.iconst 0, 1) ∧ okop dsL_runsWell_16 12 = true) ∧ (decode dsL_runsWell_16 13 = .ok (.ireturn, 1) ∧ okop dsL_runsWell_16 13 = true) := by decide +kernel
theorem dL_runsWell_16 : decode cL_runsWell 16 = .ok (.lastore, 1) := dgq (p := 0) daL_runsWell_16 dbL_runsWell_16.1
theorem dL_runsWell_17 : decode cL_runsWell 17 = .ok (.goto 11, 3) := dgq (p := 1) daL_runsWell_16 dbL_runsWell_16.2.1
theorem dL_runsWell_20 : decode cL_runsWell 20 = .ok (.astore 4, 2) := dgq (p := 4) daL_runsWell_16 dbL_runsWell_16.2.2.1
theorem dL_runsWell_22 : decode cL_runsWell 22 = .ok (.iconst 1, 1) := dgq (p := 6) daL_runsWell_16 dbL_runsWell_16.2.2.2.1
theorem dL_runsWell_23 : decode cL_runsWell 23 = .ok (.ireturn, 1) := dgq (p := 7) daL_runsWell_16 dbL_runsWell_16.2.2.2.2.1
theorem dL_runsWell_24 : decode cL_runsWell 24 = .ok (.astore 4, 2) := dgq (p := 8) daL_runsWell_16 dbL_runsWell_16.2.2.2.2.2.1
theorem dL_runsWell_26 : decode cL_runsWell 26 = .ok (.iconst 2, 1) := dgq (p := 10) daL_runsWell_16 dbL_runsWell_16.2.2.2.2.2.2.1
theorem dL_runsWell_27 : decode cL_runsWell 27 = .ok (.ireturn, 1) := dgq (p := 11) daL_runsWell_16 dbL_runsWell_16.2.2.2.2.2.2.2.1
theorem dL_runsWell_28 : decode cL_runsWell 28 = .ok (.iconst 0, 1) := dgq (p := 12) daL_runsWell_16 dbL_runsWell_16.2.2.2.2.2.2.2.2.1
theorem dL_runsWell_29 : decode cL_runsWell 29 = .ok (.ireturn, 1) := dgq (p := 13) daL_runsWell_16 dbL_runsWell_16.2.2.2.2.2.2.2.2.2
set_option maxRecDepth 20000 in
theorem ggL_slide_X9_slide : GoodIn wsL_slide wsX9_slide := goodIn_ca (goodIn_ca (goodIn_ca (goodIn_ca (goodIn_q _ [7, 8, 9, 10, 11, 12, 13, 14, 15, 6, 16, 17, 18, 19, 20, 21, 22, 23, 24, 25, 26, 27, 28, 29, 30, 31, 32, 33, 34, 35, 36, 37, 38, 39, 40, 41, 42, 43, 44, 45, 46, 47, 48, 49, 50, 51, 52, 53, 54, 55, 56, 57, 58, 59] rfl (by decide +kernel)) (goodIn_sub (fun _ h => (List.mem_cons_of_mem _ (List.mem_append_left _ (List.mem_append_left _ (List.mem_append_left _ (List.mem_append_left _ (List.mem_append_right _ h))))))) tg_wsX20)) (goodIn_sub (fun _ h => (List.mem_cons_of_mem _ (List.mem_append_left _ (List.mem_append_left _ (List.mem_append_left _ (List.mem_append_right _ h)))))) tg_wsX90)) (goodIn_sub (fun _ h => List.mem_cons_of_mem _ (List.mem_append_left _ (List.mem_append_right _ h))) (by decide +kernel))) (goodIn_sub (fun _ h => List.mem_cons_of_mem _ (List.mem_append_right _ h)) (by decide +kernel))
set_option maxRecDepth 20000 in
theorem gL_slide_X9_slide : GoodIn wsL_slide (wsV RL 56 RX9 yX9_slide wsX9_slide) := goodIn_app (goodIn_q _ [3, 4, 5, 6] rfl (by decide +kernel)) ggL_slide_X9_slide
def dsL_slide_0 : ByteArray := ⟨#[45, 3, 42, 27, 28, 182, 0, 56, 80, 167, 0, 11, 58, 4, 4]⟩
theorem daL_slide_0 : agB cL_slide dsL_slide_0 0 := agB_of (n := 15) (by decide +kernel)
theorem dbL_slide_0 : (decode dsL_slide_0 0 = .ok (.aload_n 3, 1) ∧ okop dsL_slide_0 0 = true) ∧ (decode dsL_slide_0 1 = .ok (.iconst 0, 1) ∧ okop dsL_slide_0 1 = true) ∧ (decode dsL_slide_0 2 = .ok (.aload_n 0, 1) ∧ okop dsL_slide_0 2 = true) ∧ (decode dsL_slide_0 3 = .ok (.iload_n 1, 1) ∧ okop dsL_slide_0 3 = true) ∧ (decode dsL_slide_0 4 = .ok (.iload_n 2, 1) ∧ okop dsL_slide_0 4 = true) ∧ (decode dsL_slide_0 5 = .ok (.invokevirtual 56, 3) ∧ okop dsL_slide_0 5 = true) ∧ (decode dsL_slide_0 8 = .ok (.lastore, 1) ∧ okop dsL_slide_0 8 = true) ∧ (decode dsL_slide_0 9 = .ok (.goto 11, 3) ∧ okop dsL_slide_0 9 = true) ∧ (decode dsL_slide_0 12 = .ok (.astore 4, 2) ∧ okop dsL_slide_0 12 = true) ∧ (decode dsL_slide_0 14 = .ok (.iconst 1, 1) ∧ okop dsL_slide_0 14 = true) := by decide +kernel
theorem dL_slide_0 : decode cL_slide 0 = .ok (.aload_n 3, 1) := dgq (p := 0) daL_slide_0 dbL_slide_0.1
theorem dL_slide_1 : decode cL_slide 1 = .ok (.iconst 0, 1) := dgq (p := 1) daL_slide_0 dbL_slide_0.2.1
theorem dL_slide_2 : decode cL_slide 2 = .ok (.aload_n 0, 1) := dgq (p := 2) daL_slide_0 dbL_slide_0.2.2.1
theorem dL_slide_3 : decode cL_slide 3 = .ok (.iload_n 1, 1) := dgq (p := 3) daL_slide_0 dbL_slide_0.2.2.2.1
theorem dL_slide_4 : decode cL_slide 4 = .ok (.iload_n 2, 1) := dgq (p := 4) daL_slide_0 dbL_slide_0.2.2.2.2.1
theorem dL_slide_5 : decode cL_slide 5 = .ok (.invokevirtual 56, 3) := dgq (p := 5) daL_slide_0 dbL_slide_0.2.2.2.2.2.1
theorem dL_slide_8 : decode cL_slide 8 = .ok (.lastore, 1) := dgq (p := 8) daL_slide_0 dbL_slide_0.2.2.2.2.2.2.1
theorem dL_slide_9 : decode cL_slide 9 = .ok (.goto 11, 3) := dgq (p := 9) daL_slide_0 dbL_slide_0.2.2.2.2.2.2.2.1
theorem dL_slide_12 : decode cL_slide 12 = .ok (.astore 4, 2) := dgq (p := 12) daL_slide_0 dbL_slide_0.2.2.2.2.2.2.2.2.1
theorem dL_slide_14 : decode cL_slide 14 = .ok (.iconst 1, 1) := dgq (p := 14) daL_slide_0 dbL_slide_0.2.2.2.2.2.2.2.2.2
def dsL_slide_15 : ByteArray := ⟨#[172, 58, 4, 5, 172, 3, 172]⟩
theorem daL_slide_15 : agB cL_slide dsL_slide_15 15 := agB_of (n := 7) (by decide +kernel)
theorem dbL_slide_15 : (decode dsL_slide_15 0 = .ok (.ireturn, 1) ∧ okop dsL_slide_15 0 = true) ∧ (decode dsL_slide_15 1 = .ok (.astore 4, 2) ∧ okop dsL_slide_15 1 = true) ∧ (decode dsL_slide_15 3 = .ok (.iconst 2, 1) ∧ okop dsL_slide_15 3 = true) ∧ (decode dsL_slide_15 4 = .ok (.ireturn, 1) ∧ okop dsL_slide_15 4 = true) ∧ (decode dsL_slide_15 5 = .ok (.iconst 0, 1) ∧ okop dsL_slide_15 5 = true) ∧ (decode dsL_slide_15 6 = .ok (.ireturn, 1) ∧ okop dsL_slide_15 6 = true) := by decide +kernel
theorem dL_slide_15 : decode cL_slide 15 = .ok (.ireturn, 1) := dgq (p := 0) daL_slide_15 dbL_slide_15.1
theorem dL_slide_16 : decode cL_slide 16 = .ok (.astore 4, 2) := dgq (p := 1) daL_slide_15 dbL_slide_15.2.1
theorem dL_slide_18 : decode cL_slide 18 = .ok (.iconst 2, 1) := dgq (p := 3) daL_slide_15 dbL_slide_15.2.2.1
theorem dL_slide_19 : decode cL_slide 19 = .ok (.ireturn, 1) := dgq (p := 4) daL_slide_15 dbL_slide_15.2.2.2.1
theorem dL_slide_20 : decode cL_slide 20 = .ok (.iconst 0, 1) := dgq (p := 5) daL_slide_15 dbL_slide_15.2.2.2.2.1
theorem dL_slide_21 : decode cL_slide 21 = .ok (.ireturn, 1) := dgq (p := 6) daL_slide_15 dbL_slide_15.2.2.2.2.2
set_option maxRecDepth 20000 in
theorem ggL_balance_X9_balance : GoodIn wsL_balance wsX9_balance := goodIn_ca (goodIn_ca (goodIn_ca (goodIn_ca (goodIn_ca (goodIn_q _ [8, 9, 10, 11, 12, 13, 14, 15, 7, 16, 17, 18, 19, 20, 21, 22, 23, 24, 25, 26, 27, 28, 29, 30, 31, 32, 33, 34, 35, 36, 37, 38, 39, 40, 41, 42, 43, 44, 45, 46, 47, 48, 49, 50, 51, 52, 53, 54, 55, 56, 57, 58, 59, 60, 61, 62, 63, 64, 65, 66, 67, 68, 69, 70, 71, 72, 73, 74, 75, 76, 77, 78] rfl (by decide +kernel)) (goodIn_sub (fun _ h => (List.mem_cons_of_mem _ (List.mem_append_left _ (List.mem_append_left _ (List.mem_append_left _ (List.mem_append_left _ (List.mem_append_left _ (List.mem_append_right _ h)))))))) tg_wsX20)) (goodIn_sub (fun _ h => (List.mem_cons_of_mem _ (List.mem_append_left _ (List.mem_append_left _ (List.mem_append_left _ (List.mem_append_left _ (List.mem_append_right _ h))))))) tg_wsX90)) (goodIn_sub (fun _ h => List.mem_cons_of_mem _ (List.mem_append_left _ (List.mem_append_left _ (List.mem_append_right _ h)))) (by decide +kernel))) (goodIn_sub (fun _ h => List.mem_cons_of_mem _ (List.mem_append_left _ (List.mem_append_right _ h))) (by decide +kernel))) (goodIn_sub (fun _ h => List.mem_cons_of_mem _ (List.mem_append_right _ h)) (by decide +kernel))
set_option maxRecDepth 20000 in
theorem gL_balance_X9_balance : GoodIn wsL_balance (wsV RL 59 RX9 yX9_balance wsX9_balance) := goodIn_app (goodIn_q _ [4, 5, 6, 7] rfl (by decide +kernel)) ggL_balance_X9_balance
def dsL_balance_0 : ByteArray := ⟨#[45, 3, 42, 27, 28, 182, 0, 59, 133, 80, 167, 0, 15, 58, 4]⟩
theorem daL_balance_0 : agB cL_balance dsL_balance_0 0 := agB_of (n := 15) (by decide +kernel)
theorem dbL_balance_0 : (decode dsL_balance_0 0 = .ok (.aload_n 3, 1) ∧ okop dsL_balance_0 0 = true) ∧ (decode dsL_balance_0 1 = .ok (.iconst 0, 1) ∧ okop dsL_balance_0 1 = true) ∧ (decode dsL_balance_0 2 = .ok (.aload_n 0, 1) ∧ okop dsL_balance_0 2 = true) ∧ (decode dsL_balance_0 3 = .ok (.iload_n 1, 1) ∧ okop dsL_balance_0 3 = true) ∧ (decode dsL_balance_0 4 = .ok (.iload_n 2, 1) ∧ okop dsL_balance_0 4 = true) ∧ (decode dsL_balance_0 5 = .ok (.invokevirtual 59, 3) ∧ okop dsL_balance_0 5 = true) ∧ (decode dsL_balance_0 8 = .ok (.i2l, 1) ∧ okop dsL_balance_0 8 = true) ∧ (decode dsL_balance_0 9 = .ok (.lastore, 1) ∧ okop dsL_balance_0 9 = true) ∧ (decode dsL_balance_0 10 = .ok (.goto 15, 3) ∧ okop dsL_balance_0 10 = true) ∧ (decode dsL_balance_0 13 = .ok (.astore 4, 2) ∧ okop dsL_balance_0 13 = true) := by decide +kernel
theorem dL_balance_0 : decode cL_balance 0 = .ok (.aload_n 3, 1) := dgq (p := 0) daL_balance_0 dbL_balance_0.1
theorem dL_balance_1 : decode cL_balance 1 = .ok (.iconst 0, 1) := dgq (p := 1) daL_balance_0 dbL_balance_0.2.1
theorem dL_balance_2 : decode cL_balance 2 = .ok (.aload_n 0, 1) := dgq (p := 2) daL_balance_0 dbL_balance_0.2.2.1
theorem dL_balance_3 : decode cL_balance 3 = .ok (.iload_n 1, 1) := dgq (p := 3) daL_balance_0 dbL_balance_0.2.2.2.1
theorem dL_balance_4 : decode cL_balance 4 = .ok (.iload_n 2, 1) := dgq (p := 4) daL_balance_0 dbL_balance_0.2.2.2.2.1
theorem dL_balance_5 : decode cL_balance 5 = .ok (.invokevirtual 59, 3) := dgq (p := 5) daL_balance_0 dbL_balance_0.2.2.2.2.2.1
theorem dL_balance_8 : decode cL_balance 8 = .ok (.i2l, 1) := dgq (p := 8) daL_balance_0 dbL_balance_0.2.2.2.2.2.2.1
theorem dL_balance_9 : decode cL_balance 9 = .ok (.lastore, 1) := dgq (p := 9) daL_balance_0 dbL_balance_0.2.2.2.2.2.2.2.1
theorem dL_balance_10 : decode cL_balance 10 = .ok (.goto 15, 3) := dgq (p := 10) daL_balance_0 dbL_balance_0.2.2.2.2.2.2.2.2.1
theorem dL_balance_13 : decode cL_balance 13 = .ok (.astore 4, 2) := dgq (p := 13) daL_balance_0 dbL_balance_0.2.2.2.2.2.2.2.2.2
def dsL_balance_15 : ByteArray := ⟨#[4, 172, 58, 4, 5, 172, 58, 4, 6, 172, 3, 172]⟩
theorem daL_balance_15 : agB cL_balance dsL_balance_15 15 := agB_of (n := 12) (by decide +kernel)
theorem dbL_balance_15 : (decode dsL_balance_15 0 = .ok (.iconst 1, 1) ∧ okop dsL_balance_15 0 = true) ∧ (decode dsL_balance_15 1 = .ok (.ireturn, 1) ∧ okop dsL_balance_15 1 = true) ∧ (decode dsL_balance_15 2 = .ok (.astore 4, 2) ∧ okop dsL_balance_15 2 = true) ∧ (decode dsL_balance_15 4 = .ok (.iconst 2, 1) ∧ okop dsL_balance_15 4 = true) ∧ (decode dsL_balance_15 5 = .ok (.ireturn, 1) ∧ okop dsL_balance_15 5 = true) ∧ (decode dsL_balance_15 6 = .ok (.astore 4, 2) ∧ okop dsL_balance_15 6 = true) ∧ (decode dsL_balance_15 8 = .ok (.iconst 3, 1) ∧ okop dsL_balance_15 8 = true) ∧ (decode dsL_balance_15 9 = .ok (.ireturn, 1) ∧ okop dsL_balance_15 9 = true) ∧ (decode dsL_balance_15 10 = .ok (.iconst 0, 1) ∧ okop dsL_balance_15 10 = true) ∧ (decode dsL_balance_15 11 = .ok (.ireturn, 1) ∧ okop dsL_balance_15 11 = true) := by decide +kernel
theorem dL_balance_15 : decode cL_balance 15 = .ok (.iconst 1, 1) := dgq (p := 0) daL_balance_15 dbL_balance_15.1
theorem dL_balance_16 : decode cL_balance 16 = .ok (.ireturn, 1) := dgq (p := 1) daL_balance_15 dbL_balance_15.2.1
theorem dL_balance_17 : decode cL_balance 17 = .ok (.astore 4, 2) := dgq (p := 2) daL_balance_15 dbL_balance_15.2.2.1
theorem dL_balance_19 : decode cL_balance 19 = .ok (.iconst 2, 1) := dgq (p := 4) daL_balance_15 dbL_balance_15.2.2.2.1
theorem dL_balance_20 : decode cL_balance 20 = .ok (.ireturn, 1) := dgq (p := 5) daL_balance_15 dbL_balance_15.2.2.2.2.1
theorem dL_balance_21 : decode cL_balance 21 = .ok (.astore 4, 2) := dgq (p := 6) daL_balance_15 dbL_balance_15.2.2.2.2.2.1
theorem dL_balance_23 : decode cL_balance 23 = .ok (.iconst 3, 1) := dgq (p := 8) daL_balance_15 dbL_balance_15.2.2.2.2.2.2.1
theorem dL_balance_24 : decode cL_balance 24 = .ok (.ireturn, 1) := dgq (p := 9) daL_balance_15 dbL_balance_15.2.2.2.2.2.2.2.1
theorem dL_balance_25 : decode cL_balance 25 = .ok (.iconst 0, 1) := dgq (p := 10) daL_balance_15 dbL_balance_15.2.2.2.2.2.2.2.2.1
theorem dL_balance_26 : decode cL_balance 26 = .ok (.ireturn, 1) := dgq (p := 11) daL_balance_15 dbL_balance_15.2.2.2.2.2.2.2.2.2
set_option maxRecDepth 20000 in
theorem ggL_section_X9_section : GoodIn wsL_section wsX9_section := goodIn_ca (goodIn_ca (goodIn_ca (goodIn_ca (goodIn_ca (goodIn_ca (goodIn_q _ [8, 9, 10, 11, 12, 13, 14, 15, 7, 16, 17, 18, 19, 20, 21, 22, 23, 24, 25, 26, 27, 28, 29, 30, 31, 32, 33, 34, 35, 36, 37, 38, 39, 40] rfl (by decide +kernel)) (goodIn_sub (fun _ h => (List.mem_cons_of_mem _ (List.mem_append_left _ (List.mem_append_left _ (List.mem_append_left _ (List.mem_append_left _ (List.mem_append_left _ (List.mem_append_left _ (List.mem_append_right _ h))))))))) tg_wsX20)) (goodIn_sub (fun _ h => (List.mem_cons_of_mem _ (List.mem_append_left _ (List.mem_append_left _ (List.mem_append_left _ (List.mem_append_left _ (List.mem_append_left _ (List.mem_append_right _ h)))))))) tg_wsX90)) (goodIn_sub (fun _ h => List.mem_cons_of_mem _ (List.mem_append_left _ (List.mem_append_left _ (List.mem_append_left _ (List.mem_append_right _ h))))) (by decide +kernel))) (goodIn_sub (fun _ h => List.mem_cons_of_mem _ (List.mem_append_left _ (List.mem_append_left _ (List.mem_append_right _ h)))) (by decide +kernel))) (goodIn_sub (fun _ h => List.mem_cons_of_mem _ (List.mem_append_left _ (List.mem_append_right _ h))) (by decide +kernel))) (goodIn_sub (fun _ h => List.mem_cons_of_mem _ (List.mem_append_right _ h)) (by decide +kernel))
set_option maxRecDepth 20000 in
theorem gL_section_X9_section : GoodIn wsL_section (wsV RL 64 RX9 yX9_section wsX9_section) := goodIn_app (goodIn_q _ [4, 5, 6, 7] rfl (by decide +kernel)) ggL_section_X9_section
def dsL_section_0 : ByteArray := ⟨#[25, 5, 3, 42, 27, 28, 29, 21, 4]⟩
theorem daL_section_0 : agB cL_section dsL_section_0 0 := agB_of (n := 9) (by decide +kernel)
theorem dbL_section_0 : (decode dsL_section_0 0 = .ok (.aload 5, 2) ∧ okop dsL_section_0 0 = true) ∧ (decode dsL_section_0 2 = .ok (.iconst 0, 1) ∧ okop dsL_section_0 2 = true) ∧ (decode dsL_section_0 3 = .ok (.aload_n 0, 1) ∧ okop dsL_section_0 3 = true) ∧ (decode dsL_section_0 4 = .ok (.iload_n 1, 1) ∧ okop dsL_section_0 4 = true) ∧ (decode dsL_section_0 5 = .ok (.iload_n 2, 1) ∧ okop dsL_section_0 5 = true) ∧ (decode dsL_section_0 6 = .ok (.iload_n 3, 1) ∧ okop dsL_section_0 6 = true) ∧ (decode dsL_section_0 7 = .ok (.iload 4, 2) ∧ okop dsL_section_0 7 = true) := by decide +kernel
theorem dL_section_0 : decode cL_section 0 = .ok (.aload 5, 2) := dgq (p := 0) daL_section_0 dbL_section_0.1
theorem dL_section_2 : decode cL_section 2 = .ok (.iconst 0, 1) := dgq (p := 2) daL_section_0 dbL_section_0.2.1
theorem dL_section_3 : decode cL_section 3 = .ok (.aload_n 0, 1) := dgq (p := 3) daL_section_0 dbL_section_0.2.2.1
theorem dL_section_4 : decode cL_section 4 = .ok (.iload_n 1, 1) := dgq (p := 4) daL_section_0 dbL_section_0.2.2.2.1
theorem dL_section_5 : decode cL_section 5 = .ok (.iload_n 2, 1) := dgq (p := 5) daL_section_0 dbL_section_0.2.2.2.2.1
theorem dL_section_6 : decode cL_section 6 = .ok (.iload_n 3, 1) := dgq (p := 6) daL_section_0 dbL_section_0.2.2.2.2.2.1
theorem dL_section_7 : decode cL_section 7 = .ok (.iload 4, 2) := dgq (p := 7) daL_section_0 dbL_section_0.2.2.2.2.2.2

