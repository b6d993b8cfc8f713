theorem dX9_part_24 : decode cX9_part 24 = .ok (.irem, 1) := by decide +kernel
theorem dX9_part_25 : decode cX9_part 25 = .ok (.ifCond .eq 14, 3) := by decide +kernel
theorem dX9_part_28 : decode cX9_part 28 = .ok (.new 110, 3) := by decide +kernel
theorem dX9_part_31 : decode cX9_part 31 = .ok (.dup, 1) := by decide +kernel
theorem dX9_part_32 : decode cX9_part 32 = .ok (.ldc_w 354, 3) := by decide +kernel
theorem dX9_part_35 : decode cX9_part 35 = .ok (.invokespecial 114, 3) := by decide +kernel
theorem dX9_part_38 : decode cX9_part 38 = .ok (.athrow, 1) := by decide +kernel
theorem dX9_part_39 : decode cX9_part 39 = .ok (.aload_n 3, 1) := by decide +kernel
theorem dX9_part_40 : decode cX9_part 40 = .ok (.getfield 339, 3) := by decide +kernel
theorem dX9_part_43 : decode cX9_part 43 = .ok (.iload_n 2, 1) := by decide +kernel
theorem dX9_part_44 : decode cX9_part 44 = .ok (.invokevirtual 356, 3) := by decide +kernel
theorem dX9_part_47 : decode cX9_part 47 = .ok (.ireturn, 1) := by decide +kernel
set_option maxRecDepth 20000 in
theorem ggX9_cause_X9_gearAt : GoodIn wsX9_cause wsX9_gearAt := goodIn_ca (goodIn_r _ [14, 15, 16, 17, 18, 56, 57, 58, 59, 60, 61, 62, 63, 64, 65, 66] (by decide +kernel) (by decide +kernel)) (goodIn_sub (fun _ h => List.mem_cons_of_mem _ (List.mem_append_left _ (List.mem_append_left _ (List.mem_append_right _ h)))) (by decide +kernel))
set_option maxRecDepth 20000 in
theorem gX9_cause_X9_gearAt : GoodIn wsX9_cause (wsV RX9 77 RX9 yX9_gearAt wsX9_gearAt) := goodIn_app (goodIn_of _ (by decide +kernel)) ggX9_cause_X9_gearAt
set_option maxRecDepth 20000 in
theorem ggX9_cause_X9_commonDivisor : GoodIn wsX9_cause wsX9_commonDivisor := goodIn_ca (goodIn_r _ [21, 6, 7, 8, 9] (by decide +kernel) (by decide +kernel)) (goodIn_sub (fun _ h => List.mem_cons_of_mem _ (List.mem_append_left _ (List.mem_append_right _ h))) (by decide +kernel))
set_option maxRecDepth 20000 in
theorem gX9_cause_X9_commonDivisor : GoodIn wsX9_cause (va_wsS RX9 359 yX9_commonDivisor wsX9_commonDivisor) := goodIn_app (goodIn_of _ (by decide +kernel)) ggX9_cause_X9_commonDivisor
set_option maxRecDepth 20000 in
theorem ggX9_cause_X1_partOf : GoodIn wsX9_cause wsX1_partOf := goodIn_ca (goodIn_ca (goodIn_r _ [26, 27, 28, 7, 8, 9, 29, 30, 31, 32, 33, 34, 25, 35, 67, 68, 69] (by decide +kernel) (by decide +kernel)) (goodIn_sub (fun _ h => List.mem_cons_of_mem _ (List.mem_append_left _ (List.mem_append_right _ h))) (by decide +kernel))) (goodIn_sub (fun _ h => List.mem_cons_of_mem _ (List.mem_append_right _ h)) (by decide +kernel))
set_option maxRecDepth 20000 in
theorem gX9_cause_X1_partOf : GoodIn wsX9_cause (wsV RX9 356 RX1 yX1_partOf wsX1_partOf) := goodIn_app (goodIn_of _ (by decide +kernel)) ggX9_cause_X1_partOf
theorem dX9_cause_0 : decode cX9_cause 0 = .ok (.aload_n 0, 1) := by decide +kernel
theorem dX9_cause_1 : decode cX9_cause 1 = .ok (.iload_n 1, 1) := by decide +kernel
theorem dX9_cause_2 : decode cX9_cause 2 = .ok (.invokevirtual 77, 3) := by decide +kernel
theorem dX9_cause_5 : decode cX9_cause 5 = .ok (.astore_n 2, 1) := by decide +kernel
theorem dX9_cause_6 : decode cX9_cause 6 = .ok (.aload_n 2, 1) := by decide +kernel
theorem dX9_cause_7 : decode cX9_cause 7 = .ok (.getfield 339, 3) := by decide +kernel
theorem dX9_cause_10 : decode cX9_cause 10 = .ok (.aload_n 0, 1) := by decide +kernel
theorem dX9_cause_11 : decode cX9_cause 11 = .ok (.getfield 52, 3) := by decide +kernel
theorem dX9_cause_14 : decode cX9_cause 14 = .ok (.aload_n 2, 1) := by decide +kernel
theorem dX9_cause_15 : decode cX9_cause 15 = .ok (.getfield 100, 3) := by decide +kernel
theorem dX9_cause_18 : decode cX9_cause 18 = .ok (.invokestatic 359, 3) := by decide +kernel
theorem dX9_cause_21 : decode cX9_cause 21 = .ok (.invokevirtual 356, 3) := by decide +kernel
theorem dX9_cause_24 : decode cX9_cause 24 = .ok (.istore_n 3, 1) := by decide +kernel
theorem dX9_cause_25 : decode cX9_cause 25 = .ok (.aload_n 2, 1) := by decide +kernel
theorem dX9_cause_26 : decode cX9_cause 26 = .ok (.getfield 339, 3) := by decide +kernel
theorem dX9_cause_29 : decode cX9_cause 29 = .ok (.aload_n 2, 1) := by decide +kernel
theorem dX9_cause_30 : decode cX9_cause 30 = .ok (.getfield 277, 3) := by decide +kernel
theorem dX9_cause_33 : decode cX9_cause 33 = .ok (.invokevirtual 356, 3) := by decide +kernel
theorem dX9_cause_36 : decode cX9_cause 36 = .ok (.istore 4, 2) := by decide +kernel
theorem dX9_cause_38 : decode cX9_cause 38 = .ok (.aload_n 2, 1) := by decide +kernel
theorem dX9_cause_39 : decode cX9_cause 39 = .ok (.getfield 339, 3) := by decide +kernel
theorem dX9_cause_42 : decode cX9_cause 42 = .ok (.getfield 348, 3) := by decide +kernel
theorem dX9_cause_45 : decode cX9_cause 45 = .ok (.istore 5, 2) := by decide +kernel
theorem dX9_cause_47 : decode cX9_cause 47 = .ok (.iload_n 3, 1) := by decide +kernel
theorem dX9_cause_48 : decode cX9_cause 48 = .ok (.iload 4, 2) := by decide +kernel
theorem dX9_cause_50 : decode cX9_cause 50 = .ok (.iload 5, 2) := by decide +kernel
theorem dX9_cause_52 : decode cX9_cause 52 = .ok (.invokestatic 362, 3) := by decide +kernel
theorem dX9_cause_55 : decode cX9_cause 55 = .ok (.invokestatic 362, 3) := by decide +kernel
theorem dX9_cause_58 : decode cX9_cause 58 = .ok (.istore 6, 2) := by decide +kernel
theorem dX9_cause_60 : decode cX9_cause 60 = .ok (.iload 6, 2) := by decide +kernel
theorem dX9_cause_62 : decode cX9_cause 62 = .ok (.ifCond .ne 6, 3) := by decide +kernel
theorem dX9_cause_65 : decode cX9_cause 65 = .ok (.bipush 110, 2) := by decide +kernel
theorem dX9_cause_67 : decode cX9_cause 67 = .ok (.ireturn, 1) := by decide +kernel
theorem dX9_cause_68 : decode cX9_cause 68 = .ok (.iload_n 3, 1) := by decide +kernel
theorem dX9_cause_69 : decode cX9_cause 69 = .ok (.iload 6, 2) := by decide +kernel
theorem dX9_cause_71 : decode cX9_cause 71 = .ok (.if_icmp .ne 6, 3) := by decide +kernel
theorem dX9_cause_74 : decode cX9_cause 74 = .ok (.bipush 109, 2) := by decide +kernel
theorem dX9_cause_76 : decode cX9_cause 76 = .ok (.ireturn, 1) := by decide +kernel
theorem dX9_cause_77 : decode cX9_cause 77 = .ok (.iload 4, 2) := by decide +kernel
theorem dX9_cause_79 : decode cX9_cause 79 = .ok (.iload 6, 2) := by decide +kernel
theorem dX9_cause_81 : decode cX9_cause 81 = .ok (.if_icmp .ne 8, 3) := by decide +kernel
theorem dX9_cause_84 : decode cX9_cause 84 = .ok (.bipush 116, 2) := by decide +kernel
theorem dX9_cause_86 : decode cX9_cause 86 = .ok (.goto 5, 3) := by decide +kernel
theorem dX9_cause_89 : decode cX9_cause 89 = .ok (.bipush 115, 2) := by decide +kernel
theorem dX9_cause_91 : decode cX9_cause 91 = .ok (.ireturn, 1) := by decide +kernel
set_option maxRecDepth 20000 in
theorem ggX9_peak_X9_gearAt : GoodIn wsX9_peak wsX9_gearAt := goodIn_ca (goodIn_r _ [8, 9, 10, 11, 12, 88, 89, 90, 91, 92, 93, 94, 95, 96, 97, 98] (by decide +kernel) (by decide +kernel)) (goodIn_sub (fun _ h => List.mem_cons_of_mem _ (List.mem_append_left _ (List.mem_append_left _ (List.mem_append_left _ (List.mem_append_left _ (List.mem_append_right _ h)))))) (by decide +kernel))
set_option maxRecDepth 20000 in
theorem gX9_peak_X9_gearAt : GoodIn wsX9_peak (wsV RX9 77 RX9 yX9_gearAt wsX9_gearAt) := goodIn_app (goodIn_of _ (by decide +kernel)) ggX9_peak_X9_gearAt
set_option maxRecDepth 20000 in
theorem ggX9_peak_X9_needRange : GoodIn wsX9_peak wsX9_needRange := goodIn_ca (goodIn_r _ [15, 16, 17] (by decide +kernel) (by decide +kernel)) (goodIn_sub (fun _ h => List.mem_cons_of_mem _ (List.mem_append_left _ (List.mem_append_left _ (List.mem_append_left _ (List.mem_append_right _ h))))) (by decide +kernel))
set_option maxRecDepth 20000 in
theorem gX9_peak_X9_needRange : GoodIn wsX9_peak (va_wsS RX9 59 yX9_needRange wsX9_needRange) := goodIn_app (goodIn_of _ (by decide +kernel)) ggX9_peak_X9_needRange
set_option maxRecDepth 20000 in
theorem ggX9_peak_X9_needPair : GoodIn wsX9_peak wsX9_needPair := goodIn_ca (goodIn_r _ [20, 21, 22, 23, 24, 25, 26, 27, 28, 29, 7, 30, 31, 32, 68, 69, 70, 71, 72, 73, 74, 75, 76, 77, 78, 79, 80, 81, 82, 83, 84, 85, 86, 87] (by decide +kernel) (by decide +kernel)) (goodIn_sub (fun _ h => List.mem_cons_of_mem _ (List.mem_append_left _ (List.mem_append_left _ (List.mem_append_right _ h)))) (by decide +kernel))
set_option maxRecDepth 20000 in
theorem gX9_peak_X9_needPair : GoodIn wsX9_peak (va_wsS RX9 119 yX9_needPair wsX9_needPair) := goodIn_app (goodIn_of _ (by decide +kernel)) ggX9_peak_X9_needPair
set_option maxRecDepth 20000 in
theorem ggX9_peak_X6_take : GoodIn wsX9_peak wsX6_take := goodIn_ca (goodIn_ca (goodIn_r _ [37, 38, 39, 40, 41, 42, 43, 44, 45, 46, 47, 48, 49, 50, 51, 7, 52, 53, 54, 55, 56, 36, 57, 99, 100, 101, 102, 103, 104, 105, 106] (by decide +kernel) (by decide +kernel)) (goodIn_sub (fun _ h => List.mem_cons_of_mem _ (List.mem_append_left _ (List.mem_append_right _ h))) (by decide +kernel))) (goodIn_sub (fun _ h => List.mem_cons_of_mem _ (List.mem_append_right _ h)) (by decide +kernel))
set_option maxRecDepth 20000 in
theorem gX9_peak_X6_take : GoodIn wsX9_peak (wsV RX9 365 RX6 yX6_take wsX6_take) := goodIn_app (goodIn_of _ (by decide +kernel)) ggX9_peak_X6_take
set_option maxRecDepth 20000 in
theorem ggX9_peak_X6_peakFrom : GoodIn wsX9_peak wsX6_peakFrom := goodIn_ca (goodIn_r _ [61, 62, 63, 46, 47, 49, 43, 44, 41, 45, 48, 50, 39, 40, 42, 64, 65, 66, 67, 102, 103, 104, 105, 106] (by decide +kernel) (by decide +kernel)) (goodIn_sub (fun _ h => List.mem_cons_of_mem _ (List.mem_append_right _ h)) (by decide +kernel))
set_option maxRecDepth 20000 in
theorem gX9_peak_X6_peakFrom : GoodIn wsX9_peak (wsV RX9 369 RX6 yX6_peakFrom wsX6_peakFrom) := goodIn_app (goodIn_of _ (by decide +kernel)) ggX9_peak_X6_peakFrom
theorem dX9_peak_0 : decode cX9_peak 0 = .ok (.aload_n 0, 1) := by decide +kernel
theorem dX9_peak_1 : decode cX9_peak 1 = .ok (.iload_n 1, 1) := by decide +kernel
theorem dX9_peak_2 : decode cX9_peak 2 = .ok (.invokevirtual 77, 3) := by decide +kernel
theorem dX9_peak_5 : decode cX9_peak 5 = .ok (.astore 4, 2) := by decide +kernel
theorem dX9_peak_7 : decode cX9_peak 7 = .ok (.aload_n 0, 1) := by decide +kernel
theorem dX9_peak_8 : decode cX9_peak 8 = .ok (.iload_n 2, 1) := by decide +kernel
theorem dX9_peak_9 : decode cX9_peak 9 = .ok (.invokevirtual 77, 3) := by decide +kernel
theorem dX9_peak_12 : decode cX9_peak 12 = .ok (.astore 5, 2) := by decide +kernel
theorem dX9_peak_14 : decode cX9_peak 14 = .ok (.iload_n 3, 1) := by decide +kernel
theorem dX9_peak_15 : decode cX9_peak 15 = .ok (.iconst 0, 1) := by decide +kernel
theorem dX9_peak_16 : decode cX9_peak 16 = .ok (.aload 5, 2) := by decide +kernel
theorem dX9_peak_18 : decode cX9_peak 18 = .ok (.getfield 100, 3) := by decide +kernel
theorem dX9_peak_21 : decode cX9_peak 21 = .ok (.iconst 1, 1) := by decide +kernel
theorem dX9_peak_22 : decode cX9_peak 22 = .ok (.isub, 1) := by decide +kernel
theorem dX9_peak_23 : decode cX9_peak 23 = .ok (.invokestatic 59, 3) := by decide +kernel
theorem dX9_peak_26 : decode cX9_peak 26 = .ok (.aload 4, 2) := by decide +kernel
theorem dX9_peak_28 : decode cX9_peak 28 = .ok (.aload 5, 2) := by decide +kernel
theorem dX9_peak_30 : decode cX9_peak 30 = .ok (.invokestatic 119, 3) := by decide +kernel
theorem dX9_peak_33 : decode cX9_peak 33 = .ok (.aload_n 0, 1) := by decide +kernel
theorem dX9_peak_34 : decode cX9_peak 34 = .ok (.getfield 37, 3) := by decide +kernel
theorem dX9_peak_37 : decode cX9_peak 37 = .ok (.aload 4, 2) := by decide +kernel
theorem dX9_peak_39 : decode cX9_peak 39 = .ok (.getfield 339, 3) := by decide +kernel
theorem dX9_peak_42 : decode cX9_peak 42 = .ok (.aload 5, 2) := by decide +kernel
theorem dX9_peak_44 : decode cX9_peak 44 = .ok (.getfield 339, 3) := by decide +kernel
theorem dX9_peak_47 : decode cX9_peak 47 = .ok (.invokevirtual 365, 3) := by decide +kernel
theorem dX9_peak_50 : decode cX9_peak 50 = .ok (.aload_n 0, 1) := by decide +kernel
theorem dX9_peak_51 : decode cX9_peak 51 = .ok (.getfield 37, 3) := by decide +kernel
theorem dX9_peak_54 : decode cX9_peak 54 = .ok (.iload_n 3, 1) := by decide +kernel
theorem dX9_peak_55 : decode cX9_peak 55 = .ok (.invokevirtual 369, 3) := by decide +kernel
theorem dX9_peak_58 : decode cX9_peak 58 = .ok (.ireturn, 1) := by decide +kernel
set_option maxRecDepth 20000 in
theorem ggX9_quietest_X9_gearAt : GoodIn wsX9_quietest wsX9_gearAt := goodIn_ca (goodIn_r _ [7, 8, 9, 10, 11, 66, 67, 68, 69, 70, 71, 72, 73, 74, 75, 76] (by decide +kernel) (by decide +kernel)) (goodIn_sub (fun _ h => List.mem_cons_of_mem _ (List.mem_append_left _ (List.mem_append_left _ (List.mem_append_left _ (List.mem_append_right _ h))))) (by decide +kernel))
set_option maxRecDepth 20000 in
theorem gX9_quietest_X9_gearAt : GoodIn wsX9_quietest (wsV RX9 77 RX9 yX9_gearAt wsX9_gearAt) := goodIn_app (goodIn_of _ (by decide +kernel)) ggX9_quietest_X9_gearAt
set_option maxRecDepth 20000 in
theorem ggX9_quietest_X9_needPair : GoodIn wsX9_quietest wsX9_needPair := goodIn_ca (goodIn_r _ [14, 15, 16, 17, 18, 19, 20, 21, 22, 23, 6, 24, 25, 26, 77, 78, 79, 80, 81, 82, 83, 84, 85, 86, 87, 88, 89, 90, 91, 92, 93, 94, 95, 96] (by decide +kernel) (by decide +kernel)) (goodIn_sub (fun _ h => List.mem_cons_of_mem _ (List.mem_append_left _ (List.mem_append_left _ (List.mem_append_right _ h)))) (by decide +kernel))
set_option maxRecDepth 20000 in
theorem gX9_quietest_X9_needPair : GoodIn wsX9_quietest (va_wsS RX9 119 yX9_needPair wsX9_needPair) := goodIn_app (goodIn_of _ (by decide +kernel)) ggX9_quietest_X9_needPair
set_option maxRecDepth 20000 in
theorem ggX9_quietest_X6_take : GoodIn wsX9_quietest wsX6_take := goodIn_ca (goodIn_ca (goodIn_r _ [31, 32, 33, 34, 35, 36, 37, 38, 39, 40, 41, 42, 43, 44, 45, 6, 46, 47, 48, 49, 50, 30, 51, 97, 98, 99, 100, 101, 102, 103, 104] (by decide +kernel) (by decide +kernel)) (goodIn_sub (fun _ h => List.mem_cons_of_mem _ (List.mem_append_left _ (List.mem_append_right _ h))) (by decide +kernel))) (goodIn_sub (fun _ h => List.mem_cons_of_mem _ (List.mem_append_right _ h)) (by decide +kernel))
set_option maxRecDepth 20000 in
theorem gX9_quietest_X6_take : GoodIn wsX9_quietest (wsV RX9 365 RX6 yX6_take wsX6_take) := goodIn_app (goodIn_of _ (by decide +kernel)) ggX9_quietest_X6_take
set_option maxRecDepth 20000 in
theorem ggX9_quietest_X6_quietStart : GoodIn wsX9_quietest wsX6_quietStart := goodIn_ca (goodIn_r _ [55, 40, 56, 57, 58, 30, 59, 60, 61, 41, 43, 37, 38, 35, 39, 42, 44, 33, 34, 36, 62, 63, 64, 65, 100, 101, 102, 103, 104] (by decide +kernel) (by decide +kernel)) (goodIn_sub (fun _ h => List.mem_cons_of_mem _ (List.mem_append_right _ h)) (by decide +kernel))
set_option maxRecDepth 20000 in
theorem gX9_quietest_X6_quietStart : GoodIn wsX9_quietest (wsV RX9 372 RX6 yX6_quietStart wsX6_quietStart) := goodIn_app (goodIn_of _ (by decide +kernel)) ggX9_quietest_X6_quietStart
theorem dX9_quietest_0 : decode cX9_quietest 0 = .ok (.aload_n 0, 1) := by decide +kernel
theorem dX9_quietest_1 : decode cX9_quietest 1 = .ok (.iload_n 1, 1) := by decide +kernel
theorem dX9_quietest_2 : decode cX9_quietest 2 = .ok (.invokevirtual 77, 3) := by decide +kernel
theorem dX9_quietest_5 : decode cX9_quietest 5 = .ok (.astore_n 3, 1) := by decide +kernel
theorem dX9_quietest_6 : decode cX9_quietest 6 = .ok (.aload_n 0, 1) := by decide +kernel
theorem dX9_quietest_7 : decode cX9_quietest 7 = .ok (.iload_n 2, 1) := by decide +kernel
theorem dX9_quietest_8 : decode cX9_quietest 8 = .ok (.invokevirtual 77, 3) := by decide +kernel
theorem dX9_quietest_11 : decode cX9_quietest 11 = .ok (.astore 4, 2) := by decide +kernel
theorem dX9_quietest_13 : decode cX9_quietest 13 = .ok (.aload_n 3, 1) := by decide +kernel
theorem dX9_quietest_14 : decode cX9_quietest 14 = .ok (.aload 4, 2) := by decide +kernel
theorem dX9_quietest_16 : decode cX9_quietest 16 = .ok (.invokestatic 119, 3) := by decide +kernel
theorem dX9_quietest_19 : decode cX9_quietest 19 = .ok (.aload_n 0, 1) := by decide +kernel
theorem dX9_quietest_20 : decode cX9_quietest 20 = .ok (.getfield 37, 3) := by decide +kernel
theorem dX9_quietest_23 : decode cX9_quietest 23 = .ok (.aload_n 3, 1) := by decide +kernel
theorem dX9_quietest_24 : decode cX9_quietest 24 = .ok (.getfield 339, 3) := by decide +kernel
theorem dX9_quietest_27 : decode cX9_quietest 27 = .ok (.aload 4, 2) := by decide +kernel
theorem dX9_quietest_29 : decode cX9_quietest 29 = .ok (.getfield 339, 3) := by decide +kernel
theorem dX9_quietest_32 : decode cX9_quietest 32 = .ok (.invokevirtual 365, 3) := by decide +kernel
theorem dX9_quietest_35 : decode cX9_quietest 35 = .ok (.aload_n 0, 1) := by decide +kernel
theorem dX9_quietest_36 : decode cX9_quietest 36 = .ok (.getfield 37, 3) := by decide +kernel
theorem dX9_quietest_39 : decode cX9_quietest 39 = .ok (.invokevirtual 372, 3) := by decide +kernel
theorem dX9_quietest_42 : decode cX9_quietest 42 = .ok (.ireturn, 1) := by decide +kernel
set_option maxRecDepth 20000 in
theorem ggX9_note_X9_gearAt : GoodIn wsX9_note wsX9_gearAt := goodIn_ca (goodIn_r _ [10, 11, 12, 13, 14, 71, 72, 73, 74, 75, 76, 77, 78, 79, 80, 81] (by decide +kernel) (by decide +kernel)) (goodIn_sub (fun _ h => List.mem_cons_of_mem _ (List.mem_append_left _ (List.mem_append_left _ (List.mem_append_left _ (List.mem_append_left _ (List.mem_append_right _ h)))))) (by decide +kernel))
set_option maxRecDepth 20000 in
theorem gX9_note_X9_gearAt : GoodIn wsX9_note (wsV RX9 77 RX9 yX9_gearAt wsX9_gearAt) := goodIn_app (goodIn_of _ (by decide +kernel)) ggX9_note_X9_gearAt
set_option maxRecDepth 20000 in
theorem ggX9_note_X9_needRange : GoodIn wsX9_note wsX9_needRange := goodIn_ca (goodIn_r _ [17, 18, 19] (by decide +kernel) (by decide +kernel)) (goodIn_sub (fun _ h => List.mem_cons_of_mem _ (List.mem_append_left _ (List.mem_append_left _ (List.mem_append_left _ (List.mem_append_right _ h))))) (by decide +kernel))
set_option maxRecDepth 20000 in
theorem gX9_note_X9_needRange : GoodIn wsX9_note (va_wsS RX9 59 yX9_needRange wsX9_needRange) := goodIn_app (goodIn_of _ (by decide +kernel)) ggX9_note_X9_needRange
set_option maxRecDepth 20000 in
theorem ggX9_note_X9_needPair : GoodIn wsX9_note wsX9_needPair := goodIn_ca (goodIn_r _ [22, 23, 24, 25, 26, 27, 28, 29, 30, 31, 9, 32, 33, 34, 51, 52, 53, 54, 55, 56, 57, 58, 59, 60, 61, 62, 63, 64, 65, 66, 67, 68, 69, 70] (by decide +kernel) (by decide +kernel)) (goodIn_sub (fun _ h => List.mem_cons_of_mem _ (List.mem_append_left _ (List.mem_append_left _ (List.mem_append_right _ h)))) (by decide +kernel))
set_option maxRecDepth 20000 in
theorem gX9_note_X9_needPair : GoodIn wsX9_note (va_wsS RX9 119 yX9_needPair wsX9_needPair) := goodIn_app (goodIn_of _ (by decide +kernel)) ggX9_note_X9_needPair
set_option maxRecDepth 20000 in
theorem ggX9_note_X1_partOf : GoodIn wsX9_note wsX1_partOf := goodIn_ca (goodIn_ca (goodIn_r _ [39, 40, 41, 42, 4, 43, 44, 45, 46, 47, 48, 49, 38, 50, 82, 83, 84] (by decide +kernel) (by decide +kernel)) (goodIn_sub (fun _ h => List.mem_cons_of_mem _ (List.mem_append_left _ (List.mem_append_right _ h))) (by decide +kernel))) (goodIn_sub (fun _ h => List.mem_cons_of_mem _ (List.mem_append_right _ h)) (by decide +kernel))
set_option maxRecDepth 20000 in
theorem gX9_note_X1_partOf : GoodIn wsX9_note (wsV RX9 356 RX1 yX1_partOf wsX1_partOf) := goodIn_app (goodIn_of _ (by decide +kernel)) ggX9_note_X1_partOf
theorem dX9_note_0 : decode cX9_note 0 = .ok (.aload_n 0, 1) := by decide +kernel
theorem dX9_note_1 : decode cX9_note 1 = .ok (.iload_n 1, 1) := by decide +kernel
theorem dX9_note_2 : decode cX9_note 2 = .ok (.invokevirtual 77, 3) := by decide +kernel
theorem dX9_note_5 : decode cX9_note 5 = .ok (.astore 4, 2) := by decide +kernel
theorem dX9_note_7 : decode cX9_note 7 = .ok (.aload_n 0, 1) := by decide +kernel
theorem dX9_note_8 : decode cX9_note 8 = .ok (.iload_n 2, 1) := by decide +kernel
theorem dX9_note_9 : decode cX9_note 9 = .ok (.invokevirtual 77, 3) := by decide +kernel
theorem dX9_note_12 : decode cX9_note 12 = .ok (.astore 5, 2) := by decide +kernel
theorem dX9_note_14 : decode cX9_note 14 = .ok (.iload_n 3, 1) := by decide +kernel
theorem dX9_note_15 : decode cX9_note 15 = .ok (.iconst 1, 1) := by decide +kernel
theorem dX9_note_16 : decode cX9_note 16 = .ok (.sipush 200, 3) := by decide +kernel
theorem dX9_note_19 : decode cX9_note 19 = .ok (.invokestatic 59, 3) := by decide +kernel
theorem dX9_note_22 : decode cX9_note 22 = .ok (.aload 4, 2) := by decide +kernel
theorem dX9_note_24 : decode cX9_note 24 = .ok (.aload 5, 2) := by decide +kernel
theorem dX9_note_26 : decode cX9_note 26 = .ok (.invokestatic 119, 3) := by decide +kernel
theorem dX9_note_29 : decode cX9_note 29 = .ok (.aload 4, 2) := by decide +kernel
theorem dX9_note_31 : decode cX9_note 31 = .ok (.getfield 339, 3) := by decide +kernel
theorem dX9_note_34 : decode cX9_note 34 = .ok (.iload_n 3, 1) := by decide +kernel
theorem dX9_note_35 : decode cX9_note 35 = .ok (.invokevirtual 356, 3) := by decide +kernel
theorem dX9_note_38 : decode cX9_note 38 = .ok (.aload 5, 2) := by decide +kernel
theorem dX9_note_40 : decode cX9_note 40 = .ok (.getfield 339, 3) := by decide +kernel
theorem dX9_note_43 : decode cX9_note 43 = .ok (.iload_n 3, 1) := by decide +kernel
theorem dX9_note_44 : decode cX9_note 44 = .ok (.invokevirtual 356, 3) := by decide +kernel
theorem dX9_note_47 : decode cX9_note 47 = .ok (.isub, 1) := by decide +kernel
theorem dX9_note_48 : decode cX9_note 48 = .ok (.invokestatic 188, 3) := by decide +kernel
theorem dX9_note_51 : decode cX9_note 51 = .ok (.ireturn, 1) := by decide +kernel
set_option maxRecDepth 20000 in
theorem ggX9_hunts_X9_gearAt : GoodIn wsX9_hunts wsX9_gearAt := goodIn_ca (goodIn_r _ [6, 7, 8, 9, 10, 53, 54, 55, 56, 57, 58, 59, 60, 61, 62, 63] (by decide +kernel) (by decide +kernel)) (goodIn_sub (fun _ h => List.mem_cons_of_mem _ (List.mem_append_left _ (List.mem_append_left _ (List.mem_append_right _ h)))) (by decide +kernel))
set_option maxRecDepth 20000 in
theorem gX9_hunts_X9_gearAt : GoodIn wsX9_hunts (wsV RX9 77 RX9 yX9_gearAt wsX9_gearAt) := goodIn_app (goodIn_of _ (by decide +kernel)) ggX9_hunts_X9_gearAt
set_option maxRecDepth 20000 in
theorem ggX9_hunts_X9_needPair : GoodIn wsX9_hunts wsX9_needPair := goodIn_ca (goodIn_r _ [13, 14, 15, 16, 17, 18, 19, 20, 21, 22, 5, 23, 24, 25, 33, 34, 35, 36, 37, 38, 39, 40, 41, 42, 43, 44, 45, 46, 47, 48, 49, 50, 51, 52] (by decide +kernel) (by decide +kernel)) (goodIn_sub (fun _ h => List.mem_cons_of_mem _ (List.mem_append_left _ (List.mem_append_right _ h))) (by decide +kernel))
set_option maxRecDepth 20000 in
theorem gX9_hunts_X9_needPair : GoodIn wsX9_hunts (va_wsS RX9 119 yX9_needPair wsX9_needPair) := goodIn_app (goodIn_of _ (by decide +kernel)) ggX9_hunts_X9_needPair
set_option maxRecDepth 20000 in
theorem ggX9_hunts_X9_commonDivisor : GoodIn wsX9_hunts wsX9_commonDivisor := goodIn_ca (goodIn_r _ [28, 29, 30, 31, 32] (by decide +kernel) (by decide +kernel)) (goodIn_sub (fun _ h => List.mem_cons_of_mem _ (List.mem_append_right _ h)) (by decide +kernel))
set_option maxRecDepth 20000 in
theorem gX9_hunts_X9_commonDivisor : GoodIn wsX9_hunts (va_wsS RX9 359 yX9_commonDivisor wsX9_commonDivisor) := goodIn_app (goodIn_of _ (by decide +kernel)) ggX9_hunts_X9_commonDivisor
theorem dX9_hunts_0 : decode cX9_hunts 0 = .ok (.aload_n 0, 1) := by decide +kernel
theorem dX9_hunts_1 : decode cX9_hunts 1 = .ok (.iload_n 1, 1) := by decide +kernel
theorem dX9_hunts_2 : decode cX9_hunts 2 = .ok (.invokevirtual 77, 3) := by decide +kernel
theorem dX9_hunts_5 : decode cX9_hunts 5 = .ok (.astore_n 3, 1) := by decide +kernel
theorem dX9_hunts_6 : decode cX9_hunts 6 = .ok (.aload_n 0, 1) := by decide +kernel
theorem dX9_hunts_7 : decode cX9_hunts 7 = .ok (.iload_n 2, 1) := by decide +kernel
theorem dX9_hunts_8 : decode cX9_hunts 8 = .ok (.invokevirtual 77, 3) := by decide +kernel
theorem dX9_hunts_11 : decode cX9_hunts 11 = .ok (.astore 4, 2) := by decide +kernel
theorem dX9_hunts_13 : decode cX9_hunts 13 = .ok (.aload_n 3, 1) := by decide +kernel
theorem dX9_hunts_14 : decode cX9_hunts 14 = .ok (.aload 4, 2) := by decide +kernel
theorem dX9_hunts_16 : decode cX9_hunts 16 = .ok (.invokestatic 119, 3) := by decide +kernel
theorem dX9_hunts_19 : decode cX9_hunts 19 = .ok (.aload_n 3, 1) := by decide +kernel
theorem dX9_hunts_20 : decode cX9_hunts 20 = .ok (.getfield 100, 3) := by decide +kernel
theorem dX9_hunts_23 : decode cX9_hunts 23 = .ok (.aload 4, 2) := by decide +kernel
theorem dX9_hunts_25 : decode cX9_hunts 25 = .ok (.getfield 100, 3) := by decide +kernel
theorem dX9_hunts_28 : decode cX9_hunts 28 = .ok (.invokestatic 359, 3) := by decide +kernel
theorem dX9_hunts_31 : decode cX9_hunts 31 = .ok (.iconst 1, 1) := by decide +kernel
theorem dX9_hunts_32 : decode cX9_hunts 32 = .ok (.if_icmp .ne 7, 3) := by decide +kernel
theorem dX9_hunts_35 : decode cX9_hunts 35 = .ok (.iconst 1, 1) := by decide +kernel
theorem dX9_hunts_36 : decode cX9_hunts 36 = .ok (.goto 4, 3) := by decide +kernel
theorem dX9_hunts_39 : decode cX9_hunts 39 = .ok (.iconst 0, 1) := by decide +kernel
theorem dX9_hunts_40 : decode cX9_hunts 40 = .ok (.ireturn, 1) := by decide +kernel
set_option maxRecDepth 20000 in
theorem ggX9_bears_X9_gearAt : GoodIn wsX9_bears wsX9_gearAt := goodIn_ca (goodIn_r _ [5, 6, 7, 8, 9, 39, 40, 41, 42, 43, 44, 45, 46, 47, 48, 49] (by decide +kernel) (by decide +kernel)) (goodIn_sub (fun _ h => List.mem_cons_of_mem _ (List.mem_append_left _ (List.mem_append_right _ h))) (by decide +kernel))
set_option maxRecDepth 20000 in
theorem gX9_bears_X9_gearAt : GoodIn wsX9_bears (wsV RX9 77 RX9 yX9_gearAt wsX9_gearAt) := goodIn_app (goodIn_of _ (by decide +kernel)) ggX9_bears_X9_gearAt
set_option maxRecDepth 20000 in
theorem ggX9_bears_X2_borneTorque : GoodIn wsX9_bears wsX2_borneTorque := goodIn_ca (goodIn_r _ [14, 15, 16, 17, 18, 13, 19, 20, 21, 22, 23, 24, 25, 26, 27, 28, 29, 30, 31, 32, 33, 34, 35, 36, 37, 4, 38, 50, 51, 52, 53, 54, 55, 56, 57, 58, 59, 60, 61, 62, 63, 64, 65, 66, 67, 68, 69] (by decide +kernel) (by decide +kernel)) (goodIn_sub (fun _ h => List.mem_cons_of_mem _ (List.mem_append_right _ h)) (by decide +kernel))
set_option maxRecDepth 20000 in
theorem gX9_bears_X2_borneTorque : GoodIn wsX9_bears (wsV RX9 375 RX2 yX2_borneTorque wsX2_borneTorque) := goodIn_app (goodIn_of _ (by decide +kernel)) ggX9_bears_X2_borneTorque
theorem dX9_bears_0 : decode cX9_bears 0 = .ok (.aload_n 0, 1) := by decide +kernel
theorem dX9_bears_1 : decode cX9_bears 1 = .ok (.iload_n 1, 1) := by decide +kernel
theorem dX9_bears_2 : decode cX9_bears 2 = .ok (.invokevirtual 77, 3) := by decide +kernel
theorem dX9_bears_5 : decode cX9_bears 5 = .ok (.invokevirtual 375, 3) := by decide +kernel
theorem dX9_bears_8 : decode cX9_bears 8 = .ok (.ireturn, 1) := by decide +kernel
set_option maxRecDepth 20000 in
theorem ggX9_life_X9_gearAt : GoodIn wsX9_life wsX9_gearAt := goodIn_ca (goodIn_r _ [6, 7, 8, 9, 10, 50, 51, 52, 53, 54, 55, 56, 57, 58, 59, 60] (by decide +kernel) (by decide +kernel)) (goodIn_sub (fun _ h => List.mem_cons_of_mem _ (List.mem_append_left _ (List.mem_append_left _ (List.mem_append_right _ h)))) (by decide +kernel))
set_option maxRecDepth 20000 in
theorem gX9_life_X9_gearAt : GoodIn wsX9_life (wsV RX9 77 RX9 yX9_gearAt wsX9_gearAt) := goodIn_app (goodIn_of _ (by decide +kernel)) ggX9_life_X9_gearAt
set_option maxRecDepth 20000 in
theorem ggX9_life_X9_needRange : GoodIn wsX9_life wsX9_needRange := goodIn_ca (goodIn_r _ [13, 14, 15] (by decide +kernel) (by decide +kernel)) (goodIn_sub (fun _ h => List.mem_cons_of_mem _ (List.mem_append_left _ (List.mem_append_right _ h))) (by decide +kernel))
set_option maxRecDepth 20000 in
theorem gX9_life_X9_needRange : GoodIn wsX9_life (va_wsS RX9 59 yX9_needRange wsX9_needRange) := goodIn_app (goodIn_of _ (by decide +kernel)) ggX9_life_X9_needRange
set_option maxRecDepth 20000 in
theorem ggX9_life_X2_lifeUnder : GoodIn wsX9_life wsX2_lifeUnder := goodIn_ca (goodIn_r _ [20, 21, 22, 23, 24, 25, 19, 26, 27, 28, 29, 30, 31, 32, 33, 34, 35, 36, 37, 38, 39, 40, 41, 42, 43, 44, 45, 46, 47, 48, 5, 49, 61, 62, 63, 64, 65, 66, 67, 68, 69, 70, 71, 72, 73, 74, 75, 76, 77, 78, 79, 80] (by decide +kernel) (by decide +kernel)) (goodIn_sub (fun _ h => List.mem_cons_of_mem _ (List.mem_append_right _ h)) (by decide +kernel))
set_option maxRecDepth 20000 in
theorem gX9_life_X2_lifeUnder : GoodIn wsX9_life (wsV RX9 378 RX2 yX2_lifeUnder wsX2_lifeUnder) := goodIn_app (goodIn_of _ (by decide +kernel)) ggX9_life_X2_lifeUnder
theorem dX9_life_0 : decode cX9_life 0 = .ok (.aload_n 0, 1) := by decide +kernel
theorem dX9_life_1 : decode cX9_life 1 = .ok (.iload_n 1, 1) := by decide +kernel
theorem dX9_life_2 : decode cX9_life 2 = .ok (.invokevirtual 77, 3) := by decide +kernel
theorem dX9_life_5 : decode cX9_life 5 = .ok (.astore_n 3, 1) := by decide +kernel
theorem dX9_life_6 : decode cX9_life 6 = .ok (.iload_n 2, 1) := by decide +kernel
theorem dX9_life_7 : decode cX9_life 7 = .ok (.iconst 1, 1) := by decide +kernel
theorem dX9_life_8 : decode cX9_life 8 = .ok (.ldc 244, 2) := by decide +kernel
theorem dX9_life_10 : decode cX9_life 10 = .ok (.invokestatic 59, 3) := by decide +kernel
theorem dX9_life_13 : decode cX9_life 13 = .ok (.aload_n 3, 1) := by decide +kernel
theorem dX9_life_14 : decode cX9_life 14 = .ok (.iload_n 2, 1) := by decide +kernel
theorem dX9_life_15 : decode cX9_life 15 = .ok (.i2l, 1) := by decide +kernel
theorem dX9_life_16 : decode cX9_life 16 = .ok (.invokevirtual 378, 3) := by decide +kernel
theorem dX9_life_19 : decode cX9_life 19 = .ok (.lreturn, 1) := by decide +kernel
set_option maxRecDepth 20000 in
theorem ggX9_run_X9_gearAt : GoodIn wsX9_run wsX9_gearAt := goodIn_ca (goodIn_r _ [8, 9, 10, 11, 12, 107, 108, 109, 110, 111, 112, 113, 114, 115, 116, 117] (by decide +kernel) (by decide +kernel)) (goodIn_sub (fun _ h => List.mem_cons_of_mem _ (List.mem_append_left _ (List.mem_append_left _ (List.mem_append_right _ h)))) (by decide +kernel))
set_option maxRecDepth 20000 in
theorem gX9_run_X9_gearAt : GoodIn wsX9_run (wsV RX9 77 RX9 yX9_gearAt wsX9_gearAt) := goodIn_app (goodIn_of _ (by decide +kernel)) ggX9_run_X9_gearAt
set_option maxRecDepth 20000 in
theorem ggX9_run_X9_needRange : GoodIn wsX9_run wsX9_needRange := goodIn_ca (goodIn_r _ [15, 16, 17] (by decide +kernel) (by decide +kernel)) (goodIn_sub (fun _ h => List.mem_cons_of_mem _ (List.mem_append_left _ (List.mem_append_right _ h))) (by decide +kernel))
set_option maxRecDepth 20000 in
theorem gX9_run_X9_needRange : GoodIn wsX9_run (va_wsS RX9 59 yX9_needRange wsX9_needRange) := goodIn_app (goodIn_of _ (by decide +kernel)) ggX9_run_X9_needRange
set_option maxRecDepth 20000 in
theorem ggX9_run_X9_needPair : GoodIn wsX9_run wsX9_needPair := goodIn_ca (goodIn_r _ [20, 21, 22, 23, 24, 25, 26, 27, 28, 29, 7, 30, 31, 32, 87, 88, 89, 90, 91, 92, 93, 94, 95, 96, 97, 98, 99, 100, 101, 102, 103, 104, 105, 106] (by decide +kernel) (by decide +kernel)) (goodIn_sub (fun _ h => List.mem_cons_of_mem _ (List.mem_append_right _ h)) (by decide +kernel))
set_option maxRecDepth 20000 in
theorem gX9_run_X9_needPair : GoodIn wsX9_run (va_wsS RX9 119 yX9_needPair wsX9_needPair) := goodIn_app (goodIn_of _ (by decide +kernel)) ggX9_run_X9_needPair
set_option maxRecDepth 20000 in
theorem ggX9_run_X2_isWhole : GoodIn wsX9_run wsX2_isWhole := goodIn_r _ [36, 37, 38, 39, 40, 41, 24, 42, 43, 44, 87, 88, 89, 90, 91, 92, 93, 94, 95, 96, 97, 98, 99, 100, 101, 102, 103, 104, 105, 106] (by decide +kernel) (by decide +kernel)
set_option maxRecDepth 20000 in
theorem gX9_run_X2_isWhole : GoodIn wsX9_run (wsV RX9 311 RX2 yX2_isWhole wsX2_isWhole) := goodIn_app (goodIn_of _ (by decide +kernel)) ggX9_run_X2_isWhole
set_option maxRecDepth 20000 in
theorem ggX9_run_X2_isFreeFor : GoodIn wsX9_run wsX2_isFreeFor := goodIn_r _ [48, 49, 50, 87, 88, 89, 90, 91, 92, 93, 94, 95, 96, 97, 98, 99, 100, 101, 102, 103, 104, 105, 106] (by decide +kernel) (by decide +kernel)
set_option maxRecDepth 20000 in
theorem gX9_run_X2_isFreeFor : GoodIn wsX9_run (wsV RX9 381 RX2 yX2_isFreeFor wsX2_isFreeFor) := goodIn_app (goodIn_of _ (by decide +kernel)) ggX9_run_X2_isFreeFor
set_option maxRecDepth 20000 in
theorem ggX9_run_X9_allowOnly : GoodIn wsX9_run wsX9_allowOnly := goodIn_ca (goodIn_r _ [30, 31, 32] (by decide +kernel) (by decide +kernel)) (goodIn_sub (fun _ h => List.mem_cons_of_mem _ (List.mem_append_right _ h)) (by decide +kernel))
set_option maxRecDepth 20000 in
theorem gX9_run_X9_allowOnly : GoodIn wsX9_run (va_wsS RX9 85 yX9_allowOnly wsX9_allowOnly) := goodIn_app (goodIn_of _ (by decide +kernel)) ggX9_run_X9_allowOnly
set_option maxRecDepth 20000 in
theorem ggX9_run_X2_turn : GoodIn wsX9_run wsX2_turn := goodIn_ca (goodIn_r _ [54, 43, 44, 55, 56, 57, 24, 58, 59, 60, 61, 62, 63, 64, 65, 66, 67, 68, 69, 70, 71, 26, 72, 73, 74, 75, 76, 77, 78, 79, 80, 81, 82, 83, 84, 7, 85, 87, 88, 89, 90, 91, 92, 93, 94, 95, 96, 97, 98, 99, 100, 101, 102, 103, 104, 105, 106] (by decide +kernel) (by decide +kernel)) (goodIn_sub (fun _ h => List.mem_cons_of_mem _ (List.mem_append_left _ (List.mem_append_left _ (List.mem_append_left _ (List.mem_append_right _ h))))) (by decide +kernel))
set_option maxRecDepth 20000 in
theorem gX9_run_X2_turn : GoodIn wsX9_run (wsV RX9 384 RX2 yX2_turn wsX2_turn) := goodIn_app (goodIn_of _ (by decide +kernel)) ggX9_run_X2_turn
set_option maxRecDepth 20000 in
theorem ggX9_run_X2_isBroken : GoodIn wsX9_run wsX2_isBroken := goodIn_r _ [42, 43, 44, 87, 88, 89, 90, 91, 92, 93, 94, 95, 96, 97, 98, 99, 100, 101, 102, 103, 104, 105, 106] (by decide +kernel) (by decide +kernel)
set_option maxRecDepth 20000 in
theorem gX9_run_X2_isBroken : GoodIn wsX9_run (wsV RX9 330 RX2 yX2_isBroken wsX2_isBroken) := goodIn_app (goodIn_of _ (by decide +kernel)) ggX9_run_X2_isBroken
theorem dX9_run_0 : decode cX9_run 0 = .ok (.aload_n 0, 1) := by decide +kernel
theorem dX9_run_1 : decode cX9_run 1 = .ok (.iload_n 1, 1) := by decide +kernel
theorem dX9_run_2 : decode cX9_run 2 = .ok (.invokevirtual 77, 3) := by decide +kernel
theorem dX9_run_5 : decode cX9_run 5 = .ok (.astore 5, 2) := by decide +kernel
theorem dX9_run_7 : decode cX9_run 7 = .ok (.aload_n 0, 1) := by decide +kernel
theorem dX9_run_8 : decode cX9_run 8 = .ok (.iload_n 2, 1) := by decide +kernel
theorem dX9_run_9 : decode cX9_run 9 = .ok (.invokevirtual 77, 3) := by decide +kernel
theorem dX9_run_12 : decode cX9_run 12 = .ok (.astore 6, 2) := by decide +kernel
theorem dX9_run_14 : decode cX9_run 14 = .ok (.iload_n 3, 1) := by decide +kernel
theorem dX9_run_15 : decode cX9_run 15 = .ok (.iconst 1, 1) := by decide +kernel
theorem dX9_run_16 : decode cX9_run 16 = .ok (.ldc 63, 2) := by decide +kernel
theorem dX9_run_18 : decode cX9_run 18 = .ok (.invokestatic 59, 3) := by decide +kernel
theorem dX9_run_21 : decode cX9_run 21 = .ok (.iload 4, 2) := by decide +kernel
theorem dX9_run_23 : decode cX9_run 23 = .ok (.iconst 1, 1) := by decide +kernel
theorem dX9_run_24 : decode cX9_run 24 = .ok (.ldc 244, 2) := by decide +kernel
theorem dX9_run_26 : decode cX9_run 26 = .ok (.invokestatic 59, 3) := by decide +kernel
theorem dX9_run_29 : decode cX9_run 29 = .ok (.aload 5, 2) := by decide +kernel
theorem dX9_run_31 : decode cX9_run 31 = .ok (.aload 6, 2) := by decide +kernel
theorem dX9_run_33 : decode cX9_run 33 = .ok (.invokestatic 119, 3) := by decide +kernel
theorem dX9_run_36 : decode cX9_run 36 = .ok (.aload 5, 2) := by decide +kernel
theorem dX9_run_38 : decode cX9_run 38 = .ok (.invokevirtual 311, 3) := by decide +kernel
theorem dX9_run_41 : decode cX9_run 41 = .ok (.ifCond .eq 35, 3) := by decide +kernel
theorem dX9_run_44 : decode cX9_run 44 = .ok (.aload 6, 2) := by decide +kernel
theorem dX9_run_46 : decode cX9_run 46 = .ok (.invokevirtual 311, 3) := by decide +kernel
theorem dX9_run_49 : decode cX9_run 49 = .ok (.ifCond .eq 27, 3) := by decide +kernel
theorem dX9_run_52 : decode cX9_run 52 = .ok (.aload 5, 2) := by decide +kernel
theorem dX9_run_54 : decode cX9_run 54 = .ok (.aload 6, 2) := by decide +kernel
theorem dX9_run_56 : decode cX9_run 56 = .ok (.invokevirtual 381, 3) := by decide +kernel
theorem dX9_run_59 : decode cX9_run 59 = .ok (.ifCond .eq 17, 3) := by decide +kernel
theorem dX9_run_62 : decode cX9_run 62 = .ok (.aload 6, 2) := by decide +kernel
theorem dX9_run_64 : decode cX9_run 64 = .ok (.aload 5, 2) := by decide +kernel
theorem dX9_run_66 : decode cX9_run 66 = .ok (.invokevirtual 381, 3) := by decide +kernel
theorem dX9_run_69 : decode cX9_run 69 = .ok (.ifCond .eq 7, 3) := by decide +kernel
theorem dX9_run_72 : decode cX9_run 72 = .ok (.iconst 1, 1) := by decide +kernel
theorem dX9_run_73 : decode cX9_run 73 = .ok (.goto 4, 3) := by decide +kernel
theorem dX9_run_76 : decode cX9_run 76 = .ok (.iconst 0, 1) := by decide +kernel
theorem dX9_run_77 : decode cX9_run 77 = .ok (.invokestatic 85, 3) := by decide +kernel
theorem dX9_run_80 : decode cX9_run 80 = .ok (.aload 5, 2) := by decide +kernel
theorem dX9_run_82 : decode cX9_run 82 = .ok (.iload_n 3, 1) := by decide +kernel
theorem dX9_run_83 : decode cX9_run 83 = .ok (.i2l, 1) := by decide +kernel
theorem dX9_run_84 : decode cX9_run 84 = .ok (.iload 4, 2) := by decide +kernel
theorem dX9_run_86 : decode cX9_run 86 = .ok (.i2l, 1) := by decide +kernel
theorem dX9_run_87 : decode cX9_run 87 = .ok (.invokevirtual 384, 3) := by decide +kernel
theorem dX9_run_90 : decode cX9_run 90 = .ok (.aload 6, 2) := by decide +kernel
theorem dX9_run_92 : decode cX9_run 92 = .ok (.iload_n 3, 1) := by decide +kernel
theorem dX9_run_93 : decode cX9_run 93 = .ok (.i2l, 1) := by decide +kernel
theorem dX9_run_94 : decode cX9_run 94 = .ok (.aload 6, 2) := by decide +kernel
theorem dX9_run_96 : decode cX9_run 96 = .ok (.getfield 100, 3) := by decide +kernel
theorem dX9_run_99 : decode cX9_run 99 = .ok (.i2l, 1) := by decide +kernel
theorem dX9_run_100 : decode cX9_run 100 = .ok (.lmul, 1) := by decide +kernel
theorem dX9_run_101 : decode cX9_run 101 = .ok (.aload 5, 2) := by decide +kernel
theorem dX9_run_103 : decode cX9_run 103 = .ok (.getfield 100, 3) := by decide +kernel
theorem dX9_run_106 : decode cX9_run 106 = .ok (.i2l, 1) := by decide +kernel
theorem dX9_run_107 : decode cX9_run 107 = .ok (.ldiv, 1) := by decide +kernel
theorem dX9_run_108 : decode cX9_run 108 = .ok (.iload 4, 2) := by decide +kernel
theorem dX9_run_110 : decode cX9_run 110 = .ok (.i2l, 1) := by decide +kernel
theorem dX9_run_111 : decode cX9_run 111 = .ok (.aload 5, 2) := by decide +kernel
theorem dX9_run_113 : decode cX9_run 113 = .ok (.getfield 100, 3) := by decide +kernel
theorem dX9_run_116 : decode cX9_run 116 = .ok (.i2l, 1) := by decide +kernel
theorem dX9_run_117 : decode cX9_run 117 = .ok (.lmul, 1) := by decide +kernel
theorem dX9_run_118 : decode cX9_run 118 = .ok (.aload 6, 2) := by decide +kernel
theorem dX9_run_120 : decode cX9_run 120 = .ok (.getfield 100, 3) := by decide +kernel
theorem dX9_run_123 : decode cX9_run 123 = .ok (.i2l, 1) := by decide +kernel
theorem dX9_run_124 : decode cX9_run 124 = .ok (.ldiv, 1) := by decide +kernel
theorem dX9_run_125 : decode cX9_run 125 = .ok (.invokevirtual 384, 3) := by decide +kernel
theorem dX9_run_128 : decode cX9_run 128 = .ok (.aload 5, 2) := by decide +kernel
theorem dX9_run_130 : decode cX9_run 130 = .ok (.invokevirtual 330, 3) := by decide +kernel
theorem dX9_run_133 : decode cX9_run 133 = .ok (.ifCond .eq 7, 3) := by decide +kernel
theorem dX9_run_136 : decode cX9_run 136 = .ok (.iconst 1, 1) := by decide +kernel
theorem dX9_run_137 : decode cX9_run 137 = .ok (.goto 4, 3) := by decide +kernel
theorem dX9_run_140 : decode cX9_run 140 = .ok (.iconst 0, 1) := by decide +kernel
theorem dX9_run_141 : decode cX9_run 141 = .ok (.aload 6, 2) := by decide +kernel
theorem dX9_run_143 : decode cX9_run 143 = .ok (.invokevirtual 330, 3) := by decide +kernel
theorem dX9_run_146 : decode cX9_run 146 = .ok (.ifCond .eq 7, 3) := by decide +kernel
theorem dX9_run_149 : decode cX9_run 149 = .ok (.iconst 1, 1) := by decide +kernel
theorem dX9_run_150 : decode cX9_run 150 = .ok (.goto 4, 3) := by decide +kernel
theorem dX9_run_153 : decode cX9_run 153 = .ok (.iconst 0, 1) := by decide +kernel
theorem dX9_run_154 : decode cX9_run 154 = .ok (.iadd, 1) := by decide +kernel
theorem dX9_run_155 : decode cX9_run 155 = .ok (.ireturn, 1) := by decide +kernel
set_option maxRecDepth 20000 in
theorem ggX9_damage_X9_gearAt : GoodIn wsX9_damage wsX9_gearAt := goodIn_ca (goodIn_r _ [6, 7, 8, 9, 10, 31, 32, 33, 34, 35, 36, 37, 38, 39, 40, 41] (by decide +kernel) (by decide +kernel)) (goodIn_sub (fun _ h => List.mem_cons_of_mem _ (List.mem_append_right _ h)) (by decide +kernel))
set_option maxRecDepth 20000 in
theorem gX9_damage_X9_gearAt : GoodIn wsX9_damage (wsV RX9 77 RX9 yX9_gearAt wsX9_gearAt) := goodIn_app (goodIn_of _ (by decide +kernel)) ggX9_damage_X9_gearAt
theorem dX9_damage_0 : decode cX9_damage 0 = .ok (.aload_n 0, 1) := by decide +kernel
theorem dX9_damage_1 : decode cX9_damage 1 = .ok (.iload_n 1, 1) := by decide +kernel
theorem dX9_damage_2 : decode cX9_damage 2 = .ok (.invokevirtual 77, 3) := by decide +kernel
theorem dX9_damage_5 : decode cX9_damage 5 = .ok (.getfield 387, 3) := by decide +kernel
theorem dX9_damage_8 : decode cX9_damage 8 = .ok (.lreturn, 1) := by decide +kernel
set_option maxRecDepth 20000 in
theorem ggX9_match_X9_needRange : GoodIn wsX9_match wsX9_needRange := goodIn_ca (goodIn_r _ [13, 1, 2] (by decide +kernel) (by decide +kernel)) (goodIn_sub (fun _ h => List.mem_cons_of_mem _ (List.mem_append_left _ (List.mem_append_left _ (List.mem_append_left _ (List.mem_append_right _ h))))) (by decide +kernel))
set_option maxRecDepth 20000 in
theorem gX9_match_X9_needRange : GoodIn wsX9_match (va_wsS RX9 59 yX9_needRange wsX9_needRange) := goodIn_app (goodIn_of _ (by decide +kernel)) ggX9_match_X9_needRange
set_option maxRecDepth 20000 in
theorem ggX9_match_X4_begin : GoodIn wsX9_match wsX4_begin := goodIn_r _ [18, 19, 20, 151, 152, 153, 154, 155, 156, 157, 158, 159] (by decide +kernel) (by decide +kernel)
set_option maxRecDepth 20000 in
theorem gX9_match_X4_begin : GoodIn wsX9_match (wsV RX9 393 RX4 yX4_begin wsX4_begin) := goodIn_app (goodIn_of _ (by decide +kernel)) ggX9_match_X4_begin
set_option maxRecDepth 20000 in
theorem ggX9_match_X2_isWhole : GoodIn wsX9_match wsX2_isWhole := goodIn_r _ [25, 26, 27, 28, 29, 30, 24, 31, 32, 33, 131, 132, 133, 134, 135, 136, 137, 138, 139, 140, 141, 142, 143, 144, 145, 146, 147, 148, 149, 150] (by decide +kernel) (by decide +kernel)
set_option maxRecDepth 20000 in
theorem gX9_match_X2_isWhole : GoodIn wsX9_match (wsV RX9 311 RX2 yX2_isWhole wsX2_isWhole) := goodIn_app (goodIn_of _ (by decide +kernel)) ggX9_match_X2_isWhole
set_option maxRecDepth 20000 in
theorem ggX9_match_X4_offer : GoodIn wsX9_match wsX4_offer := goodIn_r _ [37, 38, 19, 39, 20, 40, 131, 132, 133, 134, 135, 136, 137, 138, 139, 140, 141, 142, 143, 144, 145, 146, 147, 148, 149, 150, 151, 152, 153, 154, 155, 156, 157, 158, 159] (by decide +kernel) (by decide +kernel)
set_option maxRecDepth 20000 in
theorem gX9_match_X4_offer : GoodIn wsX9_match (wsV RX9 399 RX4 yX4_offer wsX4_offer) := goodIn_app (goodIn_of _ (by decide +kernel)) ggX9_match_X4_offer
set_option maxRecDepth 20000 in
theorem ggX9_match_X4_rollAll : GoodIn wsX9_match wsX4_rollAll := goodIn_ca (goodIn_ca (goodIn_r _ [44, 19, 20, 45, 39, 40, 46, 47, 48, 49, 24, 50, 51, 52, 53, 54, 55, 56, 57, 58, 59, 60, 61, 62, 63, 64, 65, 66, 67, 68, 69, 70, 71, 12, 72, 73, 74, 75, 76, 77, 78, 79, 80, 81, 82, 83, 84, 85, 86, 87, 88, 89, 90, 91, 92, 151, 152, 153, 154, 155, 156, 157, 158, 159, 131, 132, 133, 134, 135, 136, 137, 138, 139, 140, 141, 142, 143, 144, 145, 146, 147, 148, 149, 150, 160, 161, 162, 163, 164, 165, 166, 167] (by decide +kernel) (by decide +kernel)) (goodIn_sub (fun _ h => List.mem_cons_of_mem _ (List.mem_append_left _ (List.mem_append_right _ h))) (by decide +kernel))) (goodIn_sub (fun _ h => List.mem_cons_of_mem _ (List.mem_append_right _ h)) (by decide +kernel))
set_option maxRecDepth 20000 in
theorem gX9_match_X4_rollAll : GoodIn wsX9_match (wsV RX9 403 RX4 yX4_rollAll wsX4_rollAll) := goodIn_app (goodIn_of _ (by decide +kernel)) ggX9_match_X4_rollAll
set_option maxRecDepth 20000 in
theorem ggX9_match_X4_search : GoodIn wsX9_match wsX4_search := goodIn_ca (goodIn_r _ [96, 97, 98, 99, 100, 101, 102, 103, 104, 17, 105, 19, 20, 45, 106, 107, 108, 109, 110, 111, 112, 113, 151, 152, 153, 154, 155, 156, 157, 158, 159] (by decide +kernel) (by decide +kernel)) (goodIn_sub (fun _ h => List.mem_cons_of_mem _ (List.mem_append_left _ (List.mem_append_right _ h))) (by decide +kernel))
set_option maxRecDepth 20000 in
theorem gX9_match_X4_search : GoodIn wsX9_match (wsV RX9 407 RX4 yX4_search wsX4_search) := goodIn_app (goodIn_of _ (by decide +kernel)) ggX9_match_X4_search
set_option maxRecDepth 20000 in
theorem ggX9_match_X4_bind : GoodIn wsX9_match wsX4_bind := goodIn_ca (goodIn_r _ [117, 19, 101, 20, 39, 40, 118, 119, 151, 152, 153, 154, 155, 156, 157, 158, 159, 131, 132, 133, 134, 135, 136, 137, 138, 139, 140, 141, 142, 143, 144, 145, 146, 147, 148, 149, 150] (by decide +kernel) (by decide +kernel)) (goodIn_sub (fun _ h => List.mem_cons_of_mem _ (List.mem_append_left _ (List.mem_append_right _ h))) (by decide +kernel))
set_option maxRecDepth 20000 in
theorem gX9_match_X4_bind : GoodIn wsX9_match (wsV RX9 411 RX4 yX4_bind wsX4_bind) := goodIn_app (goodIn_of _ (by decide +kernel)) ggX9_match_X4_bind
theorem dX9_match_0 : decode cX9_match 0 = .ok (.iload_n 1, 1) := by decide +kernel
theorem dX9_match_1 : decode cX9_match 1 = .ok (.iload_n 2, 1) := by decide +kernel
theorem dX9_match_2 : decode cX9_match 2 = .ok (.if_icmp .ne 14, 3) := by decide +kernel
theorem dX9_match_5 : decode cX9_match 5 = .ok (.new 110, 3) := by decide +kernel
theorem dX9_match_8 : decode cX9_match 8 = .ok (.dup, 1) := by decide +kernel
theorem dX9_match_9 : decode cX9_match 9 = .ok (.ldc_w 391, 3) := by decide +kernel
theorem dX9_match_12 : decode cX9_match 12 = .ok (.invokespecial 114, 3) := by decide +kernel
theorem dX9_match_15 : decode cX9_match 15 = .ok (.athrow, 1) := by decide +kernel
theorem dX9_match_16 : decode cX9_match 16 = .ok (.iload_n 3, 1) := by decide +kernel
theorem dX9_match_17 : decode cX9_match 17 = .ok (.iconst 1, 1) := by decide +kernel
theorem dX9_match_18 : decode cX9_match 18 = .ok (.iconst 4, 1) := by decide +kernel
theorem dX9_match_19 : decode cX9_match 19 = .ok (.invokestatic 59, 3) := by decide +kernel
theorem dX9_match_22 : decode cX9_match 22 = .ok (.aload_n 0, 1) := by decide +kernel
theorem dX9_match_23 : decode cX9_match 23 = .ok (.getfield 44, 3) := by decide +kernel
theorem dX9_match_26 : decode cX9_match 26 = .ok (.invokevirtual 393, 3) := by decide +kernel
theorem dX9_match_29 : decode cX9_match 29 = .ok (.iconst 0, 1) := by decide +kernel
theorem dX9_match_30 : decode cX9_match 30 = .ok (.istore 4, 2) := by decide +kernel
theorem dX9_match_32 : decode cX9_match 32 = .ok (.iload 4, 2) := by decide +kernel
theorem dX9_match_34 : decode cX9_match 34 = .ok (.aload_n 0, 1) := by decide +kernel
theorem dX9_match_35 : decode cX9_match 35 = .ok (.getfield 64, 3) := by decide +kernel
theorem dX9_match_38 : decode cX9_match 38 = .ok (.if_icmp .ge 52, 3) := by decide +kernel
theorem dX9_match_41 : decode cX9_match 41 = .ok (.aload_n 0, 1) := by decide +kernel
theorem dX9_match_42 : decode cX9_match 42 = .ok (.getfield 11, 3) := by decide +kernel
theorem dX9_match_45 : decode cX9_match 45 = .ok (.iload 4, 2) := by decide +kernel
theorem dX9_match_47 : decode cX9_match 47 = .ok (.aaload, 1) := by decide +kernel
theorem dX9_match_48 : decode cX9_match 48 = .ok (.invokevirtual 311, 3) := by decide +kernel
theorem dX9_match_51 : decode cX9_match 51 = .ok (.ifCond .eq 33, 3) := by decide +kernel
theorem dX9_match_54 : decode cX9_match 54 = .ok (.aload_n 0, 1) := by decide +kernel
theorem dX9_match_55 : decode cX9_match 55 = .ok (.getfield 11, 3) := by decide +kernel
theorem dX9_match_58 : decode cX9_match 58 = .ok (.iload 4, 2) := by decide +kernel
theorem dX9_match_60 : decode cX9_match 60 = .ok (.aaload, 1) := by decide +kernel
theorem dX9_match_61 : decode cX9_match 61 = .ok (.getfield 396, 3) := by decide +kernel
theorem dX9_match_64 : decode cX9_match 64 = .ok (.iconst (-1), 1) := by decide +kernel
theorem dX9_match_65 : decode cX9_match 65 = .ok (.if_icmp .ne 19, 3) := by decide +kernel
theorem dX9_match_68 : decode cX9_match 68 = .ok (.aload_n 0, 1) := by decide +kernel
theorem dX9_match_69 : decode cX9_match 69 = .ok (.getfield 44, 3) := by decide +kernel
theorem dX9_match_72 : decode cX9_match 72 = .ok (.aload_n 0, 1) := by decide +kernel
theorem dX9_match_73 : decode cX9_match 73 = .ok (.getfield 11, 3) := by decide +kernel
theorem dX9_match_76 : decode cX9_match 76 = .ok (.iload 4, 2) := by decide +kernel
theorem dX9_match_78 : decode cX9_match 78 = .ok (.aaload, 1) := by decide +kernel
theorem dX9_match_79 : decode cX9_match 79 = .ok (.iload_n 1, 1) := by decide +kernel
theorem dX9_match_80 : decode cX9_match 80 = .ok (.iload_n 2, 1) := by decide +kernel
theorem dX9_match_81 : decode cX9_match 81 = .ok (.invokevirtual 399, 3) := by decide +kernel
theorem dX9_match_84 : decode cX9_match 84 = .ok (.iinc 4 1, 3) := by decide +kernel
theorem dX9_match_87 : decode cX9_match 87 = .ok (.goto (-55), 3) := by decide +kernel
theorem dX9_match_90 : decode cX9_match 90 = .ok (.aload_n 0, 1) := by decide +kernel
theorem dX9_match_91 : decode cX9_match 91 = .ok (.getfield 44, 3) := by decide +kernel
theorem dX9_match_94 : decode cX9_match 94 = .ok (.aload_n 0, 1) := by decide +kernel
theorem dX9_match_95 : decode cX9_match 95 = .ok (.getfield 37, 3) := by decide +kernel
theorem dX9_match_98 : decode cX9_match 98 = .ok (.invokevirtual 403, 3) := by decide +kernel
theorem dX9_match_101 : decode cX9_match 101 = .ok (.aload_n 0, 1) := by decide +kernel
theorem dX9_match_102 : decode cX9_match 102 = .ok (.getfield 44, 3) := by decide +kernel
theorem dX9_match_105 : decode cX9_match 105 = .ok (.iload_n 3, 1) := by decide +kernel
theorem dX9_match_106 : decode cX9_match 106 = .ok (.invokevirtual 407, 3) := by decide +kernel
theorem dX9_match_109 : decode cX9_match 109 = .ok (.ifCond .ne 14, 3) := by decide +kernel
theorem dX9_match_112 : decode cX9_match 112 = .ok (.new 150, 3) := by decide +kernel
theorem dX9_match_115 : decode cX9_match 115 = .ok (.dup, 1) := by decide +kernel
theorem dX9_match_116 : decode cX9_match 116 = .ok (.ldc_w 409, 3) := by decide +kernel
theorem dX9_match_119 : decode cX9_match 119 = .ok (.invokespecial 154, 3) := by decide +kernel
theorem dX9_match_122 : decode cX9_match 122 = .ok (.athrow, 1) := by decide +kernel
theorem dX9_match_123 : decode cX9_match 123 = .ok (.aload_n 0, 1) := by decide +kernel
theorem dX9_match_124 : decode cX9_match 124 = .ok (.getfield 44, 3) := by decide +kernel
theorem dX9_match_127 : decode cX9_match 127 = .ok (.invokevirtual 411, 3) := by decide +kernel
theorem dX9_match_130 : decode cX9_match 130 = .ok (.aload_n 0, 1) := by decide +kernel
theorem dX9_match_131 : decode cX9_match 131 = .ok (.getfield 44, 3) := by decide +kernel
theorem dX9_match_134 : decode cX9_match 134 = .ok (.getfield 414, 3) := by decide +kernel
theorem dX9_match_137 : decode cX9_match 137 = .ok (.ireturn, 1) := by decide +kernel
set_option maxRecDepth 20000 in
theorem ggX9_mate_X9_gearAt : GoodIn wsX9_mate wsX9_gearAt := goodIn_ca (goodIn_r _ [8, 9, 10, 11, 12, 33, 34, 35, 36, 37, 38, 39, 40, 41, 42, 43] (by decide +kernel) (by decide +kernel)) (goodIn_sub (fun _ h => List.mem_cons_of_mem _ (List.mem_append_right _ h)) (by decide +kernel))
set_option maxRecDepth 20000 in
theorem gX9_mate_X9_gearAt : GoodIn wsX9_mate (wsV RX9 77 RX9 yX9_gearAt wsX9_gearAt) := goodIn_app (goodIn_of _ (by decide +kernel)) ggX9_mate_X9_gearAt
theorem dX9_mate_0 : decode cX9_mate 0 = .ok (.aload_n 0, 1) := by decide +kernel
theorem dX9_mate_1 : decode cX9_mate 1 = .ok (.iload_n 1, 1) := by decide +kernel
theorem dX9_mate_2 : decode cX9_mate 2 = .ok (.invokevirtual 77, 3) := by decide +kernel
theorem dX9_mate_5 : decode cX9_mate 5 = .ok (.astore_n 2, 1) := by decide +kernel
theorem dX9_mate_6 : decode cX9_mate 6 = .ok (.aload_n 2, 1) := by decide +kernel
theorem dX9_mate_7 : decode cX9_mate 7 = .ok (.getfield 396, 3) := by decide +kernel
theorem dX9_mate_10 : decode cX9_mate 10 = .ok (.iconst (-1), 1) := by decide +kernel
theorem dX9_mate_11 : decode cX9_mate 11 = .ok (.if_icmp .ne 14, 3) := by decide +kernel
theorem dX9_mate_14 : decode cX9_mate 14 = .ok (.new 150, 3) := by decide +kernel
theorem dX9_mate_17 : decode cX9_mate 17 = .ok (.dup, 1) := by decide +kernel
theorem dX9_mate_18 : decode cX9_mate 18 = .ok (.ldc_w 417, 3) := by decide +kernel
theorem dX9_mate_21 : decode cX9_mate 21 = .ok (.invokespecial 154, 3) := by decide +kernel
theorem dX9_mate_24 : decode cX9_mate 24 = .ok (.athrow, 1) := by decide +kernel
theorem dX9_mate_25 : decode cX9_mate 25 = .ok (.aload_n 2, 1) := by decide +kernel
theorem dX9_mate_26 : decode cX9_mate 26 = .ok (.getfield 396, 3) := by decide +kernel
theorem dX9_mate_29 : decode cX9_mate 29 = .ok (.ireturn, 1) := by decide +kernel
set_option maxRecDepth 20000 in
theorem ggX9_separate_X9_gearAt : GoodIn wsX9_separate wsX9_gearAt := goodIn_ca (goodIn_r _ [7, 8, 9, 10, 11, 37, 38, 39, 40, 41, 42, 43, 44, 45, 46, 47] (by decide +kernel) (by decide +kernel)) (goodIn_sub (fun _ h => List.mem_cons_of_mem _ (List.mem_append_left _ (List.mem_append_right _ h))) (by decide +kernel))
set_option maxRecDepth 20000 in
theorem gX9_separate_X9_gearAt : GoodIn wsX9_separate (wsV RX9 77 RX9 yX9_gearAt wsX9_gearAt) := goodIn_app (goodIn_of _ (by decide +kernel)) ggX9_separate_X9_gearAt
set_option maxRecDepth 20000 in
theorem ggX9_separate_X9_allowOnly : GoodIn wsX9_separate wsX9_allowOnly := goodIn_ca (goodIn_r _ [14, 15, 16] (by decide +kernel) (by decide +kernel)) (goodIn_sub (fun _ h => List.mem_cons_of_mem _ (List.mem_append_right _ h)) (by decide +kernel))
set_option maxRecDepth 20000 in
theorem gX9_separate_X9_allowOnly : GoodIn wsX9_separate (va_wsS RX9 85 yX9_allowOnly wsX9_allowOnly) := goodIn_app (goodIn_of _ (by decide +kernel)) ggX9_separate_X9_allowOnly
theorem dX9_separate_0 : decode cX9_separate 0 = .ok (.aload_n 0, 1) := by decide +kernel
theorem dX9_separate_1 : decode cX9_separate 1 = .ok (.iload_n 1, 1) := by decide +kernel
theorem dX9_separate_2 : decode cX9_separate 2 = .ok (.invokevirtual 77, 3) := by decide +kernel
theorem dX9_separate_5 : decode cX9_separate 5 = .ok (.astore_n 2, 1) := by decide +kernel
theorem dX9_separate_6 : decode cX9_separate 6 = .ok (.aload_n 2, 1) := by decide +kernel
theorem dX9_separate_7 : decode cX9_separate 7 = .ok (.getfield 396, 3) := by decide +kernel
theorem dX9_separate_10 : decode cX9_separate 10 = .ok (.iconst (-1), 1) := by decide +kernel
theorem dX9_separate_11 : decode cX9_separate 11 = .ok (.if_icmp .eq 7, 3) := by decide +kernel
theorem dX9_separate_14 : decode cX9_separate 14 = .ok (.iconst 1, 1) := by decide +kernel
theorem dX9_separate_15 : decode cX9_separate 15 = .ok (.goto 4, 3) := by decide +kernel
theorem dX9_separate_18 : decode cX9_separate 18 = .ok (.iconst 0, 1) := by decide +kernel
theorem dX9_separate_19 : decode cX9_separate 19 = .ok (.invokestatic 85, 3) := by decide +kernel
theorem dX9_separate_22 : decode cX9_separate 22 = .ok (.aload_n 0, 1) := by decide +kernel
theorem dX9_separate_23 : decode cX9_separate 23 = .ok (.aload_n 2, 1) := by decide +kernel
theorem dX9_separate_24 : decode cX9_separate 24 = .ok (.getfield 396, 3) := by decide +kernel
theorem dX9_separate_27 : decode cX9_separate 27 = .ok (.invokevirtual 77, 3) := by decide +kernel
theorem dX9_separate_30 : decode cX9_separate 30 = .ok (.astore_n 3, 1) := by decide +kernel
theorem dX9_separate_31 : decode cX9_separate 31 = .ok (.aload_n 2, 1) := by decide +kernel
theorem dX9_separate_32 : decode cX9_separate 32 = .ok (.iconst (-1), 1) := by decide +kernel
theorem dX9_separate_33 : decode cX9_separate 33 = .ok (.putfield 396, 3) := by decide +kernel
theorem dX9_separate_36 : decode cX9_separate 36 = .ok (.aload_n 3, 1) := by decide +kernel
theorem dX9_separate_37 : decode cX9_separate 37 = .ok (.iconst (-1), 1) := by decide +kernel
theorem dX9_separate_38 : decode cX9_separate 38 = .ok (.putfield 396, 3) := by decide +kernel
theorem dX9_separate_41 : decode cX9_separate 41 = .ok (.aload_n 3, 1) := by decide +kernel
theorem dX9_separate_42 : decode cX9_separate 42 = .ok (.getfield 419, 3) := by decide +kernel
theorem dX9_separate_45 : decode cX9_separate 45 = .ok (.ireturn, 1) := by decide +kernel
set_option maxRecDepth 20000 in
theorem ggX9_machine_X9_needKind : GoodIn wsX9_machine wsX9_needKind := goodIn_ca (goodIn_r _ [11, 12, 13] (by decide +kernel) (by decide +kernel)) (goodIn_sub (fun _ h => List.mem_cons_of_mem _ (List.mem_append_right _ h)) (by decide +kernel))
set_option maxRecDepth 20000 in
theorem gX9_machine_X9_needKind : GoodIn wsX9_machine (va_wsS RX9 422 yX9_needKind wsX9_needKind) := goodIn_app (goodIn_of _ (by decide +kernel)) ggX9_machine_X9_needKind
set_option maxRecDepth 20000 in
theorem ggX9_machine_X9_needRange : GoodIn wsX9_machine wsX9_needRange := goodIn_ca (goodIn_r _ [16, 12, 13] (by decide +kernel) (by decide +kernel)) (goodIn_sub (fun _ h => List.mem_cons_of_mem _ (List.mem_append_right _ h)) (by decide +kernel))
set_option maxRecDepth 20000 in
theorem gX9_machine_X9_needRange : GoodIn wsX9_machine (va_wsS RX9 59 yX9_needRange wsX9_needRange) := goodIn_app (goodIn_of _ (by decide +kernel)) ggX9_machine_X9_needRange
set_option maxRecDepth 20000 in
theorem ggX9_machine_X7_init : GoodIn wsX9_machine wsX7_init := goodIn_r _ [19, 20, 21, 22, 23, 24, 36, 37, 38, 39] (by decide +kernel) (by decide +kernel)
set_option maxRecDepth 20000 in
theorem gX9_machine_X7_init : GoodIn wsX9_machine (wsX7_init) := ggX9_machine_X7_init
theorem dX9_machine_0 : decode cX9_machine 0 = .ok (.iload_n 1, 1) := by decide +kernel
theorem dX9_machine_1 : decode cX9_machine 1 = .ok (.invokestatic 422, 3) := by decide +kernel
theorem dX9_machine_4 : decode cX9_machine 4 = .ok (.iload_n 2, 1) := by decide +kernel
theorem dX9_machine_5 : decode cX9_machine 5 = .ok (.iconst 1, 1) := by decide +kernel
theorem dX9_machine_6 : decode cX9_machine 6 = .ok (.bipush 99, 2) := by decide +kernel
theorem dX9_machine_8 : decode cX9_machine 8 = .ok (.invokestatic 59, 3) := by decide +kernel
theorem dX9_machine_11 : decode cX9_machine 11 = .ok (.aload_n 0, 1) := by decide +kernel
theorem dX9_machine_12 : decode cX9_machine 12 = .ok (.getfield 426, 3) := by decide +kernel
theorem dX9_machine_15 : decode cX9_machine 15 = .ok (.aload_n 0, 1) := by decide +kernel
theorem dX9_machine_16 : decode cX9_machine 16 = .ok (.getfield 23, 3) := by decide +kernel
theorem dX9_machine_19 : decode cX9_machine 19 = .ok (.arraylength, 1) := by decide +kernel
theorem dX9_machine_20 : decode cX9_machine 20 = .ok (.if_icmp .lt 14, 3) := by decide +kernel
theorem dX9_machine_23 : decode cX9_machine 23 = .ok (.new 67, 3) := by decide +kernel
theorem dX9_machine_26 : decode cX9_machine 26 = .ok (.dup, 1) := by decide +kernel
theorem dX9_machine_27 : decode cX9_machine 27 = .ok (.ldc_w 429, 3) := by decide +kernel
theorem dX9_machine_30 : decode cX9_machine 30 = .ok (.invokespecial 71, 3) := by decide +kernel
theorem dX9_machine_33 : decode cX9_machine 33 = .ok (.athrow, 1) := by decide +kernel
theorem dX9_machine_34 : decode cX9_machine 34 = .ok (.aload_n 0, 1) := by decide +kernel
theorem dX9_machine_35 : decode cX9_machine 35 = .ok (.getfield 426, 3) := by decide +kernel
theorem dX9_machine_38 : decode cX9_machine 38 = .ok (.istore_n 3, 1) := by decide +kernel
theorem dX9_machine_39 : decode cX9_machine 39 = .ok (.aload_n 0, 1) := by decide +kernel
theorem dX9_machine_40 : decode cX9_machine 40 = .ok (.getfield 23, 3) := by decide +kernel
theorem dX9_machine_43 : decode cX9_machine 43 = .ok (.iload_n 3, 1) := by decide +kernel
theorem dX9_machine_44 : decode cX9_machine 44 = .ok (.new 21, 3) := by decide +kernel
theorem dX9_machine_47 : decode cX9_machine 47 = .ok (.dup, 1) := by decide +kernel
theorem dX9_machine_48 : decode cX9_machine 48 = .ok (.iload_n 1, 1) := by decide +kernel
theorem dX9_machine_49 : decode cX9_machine 49 = .ok (.iload_n 2, 1) := by decide +kernel
theorem dX9_machine_50 : decode cX9_machine 50 = .ok (.invokespecial 431, 3) := by decide +kernel
theorem dX9_machine_53 : decode cX9_machine 53 = .ok (.aastore, 1) := by decide +kernel
theorem dX9_machine_54 : decode cX9_machine 54 = .ok (.aload_n 0, 1) := by decide +kernel
theorem dX9_machine_55 : decode cX9_machine 55 = .ok (.dup, 1) := by decide +kernel
theorem dX9_machine_56 : decode cX9_machine 56 = .ok (.getfield 426, 3) := by decide +kernel
theorem dX9_machine_59 : decode cX9_machine 59 = .ok (.iconst 1, 1) := by decide +kernel
theorem dX9_machine_60 : decode cX9_machine 60 = .ok (.iadd, 1) := by decide +kernel
theorem dX9_machine_61 : decode cX9_machine 61 = .ok (.putfield 426, 3) := by decide +kernel
theorem dX9_machine_64 : decode cX9_machine 64 = .ok (.iload_n 3, 1) := by decide +kernel
theorem dX9_machine_65 : decode cX9_machine 65 = .ok (.ireturn, 1) := by decide +kernel
set_option maxRecDepth 20000 in
theorem ggX9_toolsAt_X9_needRange : GoodIn wsX9_toolsAt wsX9_needRange := goodIn_ca (goodIn_r _ [9, 10, 11] (by decide +kernel) (by decide +kernel)) (goodIn_sub (fun _ h => List.mem_cons_of_mem _ (List.mem_append_right _ h)) (by decide +kernel))
set_option maxRecDepth 20000 in
theorem gX9_toolsAt_X9_needRange : GoodIn wsX9_toolsAt (va_wsS RX9 59 yX9_needRange wsX9_needRange) := goodIn_app (goodIn_of _ (by decide +kernel)) ggX9_toolsAt_X9_needRange
theorem dX9_toolsAt_0 : decode cX9_toolsAt 0 = .ok (.iload_n 1, 1) := by decide +kernel
theorem dX9_toolsAt_1 : decode cX9_toolsAt 1 = .ok (.ifCond .lt 11, 3) := by decide +kernel
theorem dX9_toolsAt_4 : decode cX9_toolsAt 4 = .ok (.iload_n 1, 1) := by decide +kernel
theorem dX9_toolsAt_5 : decode cX9_toolsAt 5 = .ok (.aload_n 0, 1) := by decide +kernel
theorem dX9_toolsAt_6 : decode cX9_toolsAt 6 = .ok (.getfield 426, 3) := by decide +kernel
theorem dX9_toolsAt_9 : decode cX9_toolsAt 9 = .ok (.if_icmp .lt 14, 3) := by decide +kernel
theorem dX9_toolsAt_12 : decode cX9_toolsAt 12 = .ok (.new 293, 3) := by decide +kernel
theorem dX9_toolsAt_15 : decode cX9_toolsAt 15 = .ok (.dup, 1) := by decide +kernel
theorem dX9_toolsAt_16 : decode cX9_toolsAt 16 = .ok (.ldc_w 434, 3) := by decide +kernel
theorem dX9_toolsAt_19 : decode cX9_toolsAt 19 = .ok (.invokespecial 297, 3) := by decide +kernel
theorem dX9_toolsAt_22 : decode cX9_toolsAt 22 = .ok (.athrow, 1) := by decide +kernel
theorem dX9_toolsAt_23 : decode cX9_toolsAt 23 = .ok (.iload_n 2, 1) := by decide +kernel
theorem dX9_toolsAt_24 : decode cX9_toolsAt 24 = .ok (.iconst 0, 1) := by decide +kernel
theorem dX9_toolsAt_25 : decode cX9_toolsAt 25 = .ok (.sipush 9999, 3) := by decide +kernel
theorem dX9_toolsAt_28 : decode cX9_toolsAt 28 = .ok (.invokestatic 59, 3) := by decide +kernel
theorem dX9_toolsAt_31 : decode cX9_toolsAt 31 = .ok (.aload_n 0, 1) := by decide +kernel
theorem dX9_toolsAt_32 : decode cX9_toolsAt 32 = .ok (.getfield 23, 3) := by decide +kernel
theorem dX9_toolsAt_35 : decode cX9_toolsAt 35 = .ok (.iload_n 1, 1) := by decide +kernel
theorem dX9_toolsAt_36 : decode cX9_toolsAt 36 = .ok (.aaload, 1) := by decide +kernel
theorem dX9_toolsAt_37 : decode cX9_toolsAt 37 = .ok (.getfield 436, 3) := by decide +kernel
theorem dX9_toolsAt_40 : decode cX9_toolsAt 40 = .ok (.istore_n 3, 1) := by decide +kernel
theorem dX9_toolsAt_41 : decode cX9_toolsAt 41 = .ok (.aload_n 0, 1) := by decide +kernel
theorem dX9_toolsAt_42 : decode cX9_toolsAt 42 = .ok (.getfield 23, 3) := by decide +kernel
theorem dX9_toolsAt_45 : decode cX9_toolsAt 45 = .ok (.iload_n 1, 1) := by decide +kernel
theorem dX9_toolsAt_46 : decode cX9_toolsAt 46 = .ok (.aaload, 1) := by decide +kernel
theorem dX9_toolsAt_47 : decode cX9_toolsAt 47 = .ok (.iload_n 2, 1) := by decide +kernel
theorem dX9_toolsAt_48 : decode cX9_toolsAt 48 = .ok (.putfield 436, 3) := by decide +kernel
theorem dX9_toolsAt_51 : decode cX9_toolsAt 51 = .ok (.iload_n 3, 1) := by decide +kernel
theorem dX9_toolsAt_52 : decode cX9_toolsAt 52 = .ok (.ireturn, 1) := by decide +kernel
set_option maxRecDepth 20000 in
theorem ggX9_route_X9_gearAt : GoodIn wsX9_route wsX9_gearAt := goodIn_ca (goodIn_r _ [8, 9, 10, 11, 12, 163, 164, 165, 166, 167, 168, 169, 170, 171, 172, 173] (by decide +kernel) (by decide +kernel)) (goodIn_sub (fun _ h => List.mem_cons_of_mem _ (List.mem_append_left _ (List.mem_append_right _ h))) (by decide +kernel))
set_option maxRecDepth 20000 in
theorem gX9_route_X9_gearAt : GoodIn wsX9_route (wsV RX9 77 RX9 yX9_gearAt wsX9_gearAt) := goodIn_app (goodIn_of _ (by decide +kernel)) ggX9_route_X9_gearAt
set_option maxRecDepth 20000 in
theorem ggX9_route_X9_needKind : GoodIn wsX9_route wsX9_needKind := goodIn_ca (goodIn_r _ [15, 16, 17] (by decide +kernel) (by decide +kernel)) (goodIn_sub (fun _ h => List.mem_cons_of_mem _ (List.mem_append_right _ h)) (by decide +kernel))
set_option maxRecDepth 20000 in
theorem gX9_route_X9_needKind : GoodIn wsX9_route (va_wsS RX9 422 yX9_needKind wsX9_needKind) := goodIn_app (goodIn_of _ (by decide +kernel)) ggX9_route_X9_needKind
set_option maxRecDepth 20000 in
theorem ggX9_route_J4_length_8abf5 : GoodIn wsX9_route wsJ4_length_8abf5 := goodIn_r _ [22, 23, 24, 25, 26, 27, 28, 29, 174, 175, 176, 177] (by decide +kernel) (by decide +kernel)
set_option maxRecDepth 20000 in
theorem gX9_route_J4_length_8abf5 : GoodIn wsX9_route (wsV RX9 443 RJ4 yJ4_length_8abf5 wsJ4_length_8abf5) := goodIn_app (goodIn_of _ (by decide +kernel)) ggX9_route_J4_length_8abf5
set_option maxRecDepth 20000 in
theorem ggX9_route_J4_append_cf468 : GoodIn wsX9_route wsJ4_append_cf468 := goodIn_r _ [33, 34, 35, 25, 36, 27, 37, 29, 38, 39, 40, 41, 42, 43, 44, 45, 46, 47, 48, 49, 50, 51, 52, 53, 54, 55, 56, 57, 58, 59, 60, 61, 62, 63, 64, 65, 66, 67, 68, 69, 70, 71, 72, 73, 74, 75, 76, 77, 78, 79, 80, 81, 82, 83, 84, 85, 86, 87, 88, 89, 90, 91, 92, 93, 94, 95, 96, 97, 98, 99, 100, 101, 102, 103, 104, 105, 106, 107, 108, 109, 110, 111, 112, 113, 114, 115, 116, 117, 118, 119, 120, 121, 122, 123, 124, 125, 126, 127, 128, 129, 130, 131, 132, 133, 134, 135, 136, 137, 138, 139, 140, 141, 142, 174, 175, 176, 177] (by decide +kernel) (by decide +kernel)
set_option maxRecDepth 20000 in
theorem gX9_route_J4_append_cf468 : GoodIn wsX9_route (wsV RX9 450 RJ4 yJ4_append_cf468 wsJ4_append_cf468) := goodIn_app (goodIn_of _ (by decide +kernel)) ggX9_route_J4_append_cf468
theorem dX9_route_0 : decode cX9_route 0 = .ok (.aload_n 0, 1) := by decide +kernel
theorem dX9_route_1 : decode cX9_route 1 = .ok (.iload_n 1, 1) := by decide +kernel
theorem dX9_route_2 : decode cX9_route 2 = .ok (.invokevirtual 77, 3) := by decide +kernel
theorem dX9_route_5 : decode cX9_route 5 = .ok (.astore_n 3, 1) := by decide +kernel
theorem dX9_route_6 : decode cX9_route 6 = .ok (.iload_n 2, 1) := by decide +kernel
theorem dX9_route_7 : decode cX9_route 7 = .ok (.invokestatic 422, 3) := by decide +kernel
theorem dX9_route_10 : decode cX9_route 10 = .ok (.aload_n 3, 1) := by decide +kernel
theorem dX9_route_11 : decode cX9_route 11 = .ok (.getfield 439, 3) := by decide +kernel
theorem dX9_route_14 : decode cX9_route 14 = .ok (.invokevirtual 443, 3) := by decide +kernel
theorem dX9_route_17 : decode cX9_route 17 = .ok (.bipush 8, 2) := by decide +kernel
theorem dX9_route_19 : decode cX9_route 19 = .ok (.if_icmp .lt 14, 3) := by decide +kernel
theorem dX9_route_22 : decode cX9_route 22 = .ok (.new 67, 3) := by decide +kernel
theorem dX9_route_25 : decode cX9_route 25 = .ok (.dup, 1) := by decide +kernel
theorem dX9_route_26 : decode cX9_route 26 = .ok (.ldc_w 448, 3) := by decide +kernel
theorem dX9_route_29 : decode cX9_route 29 = .ok (.invokespecial 71, 3) := by decide +kernel
theorem dX9_route_32 : decode cX9_route 32 = .ok (.athrow, 1) := by decide +kernel
theorem dX9_route_33 : decode cX9_route 33 = .ok (.aload_n 3, 1) := by decide +kernel
theorem dX9_route_34 : decode cX9_route 34 = .ok (.getfield 439, 3) := by decide +kernel
theorem dX9_route_37 : decode cX9_route 37 = .ok (.iload_n 2, 1) := by decide +kernel
theorem dX9_route_38 : decode cX9_route 38 = .ok (.invokevirtual 450, 3) := by decide +kernel
theorem dX9_route_41 : decode cX9_route 41 = .ok (.pop, 1) := by decide +kernel
theorem dX9_route_42 : decode cX9_route 42 = .ok (.aload_n 3, 1) := by decide +kernel
theorem dX9_route_43 : decode cX9_route 43 = .ok (.getfield 439, 3) := by decide +kernel
theorem dX9_route_46 : decode cX9_route 46 = .ok (.invokevirtual 443, 3) := by decide +kernel
theorem dX9_route_49 : decode cX9_route 49 = .ok (.ireturn, 1) := by decide +kernel
set_option maxRecDepth 20000 in
theorem ggX9_doneAt_X9_gearAt : GoodIn wsX9_doneAt wsX9_gearAt := goodIn_ca (goodIn_r _ [13, 14, 15, 6, 7, 87, 88, 89, 90, 91, 92, 93, 94, 95, 96, 97] (by decide +kernel) (by decide +kernel)) (goodIn_sub (fun _ h => List.mem_cons_of_mem _ (List.mem_append_left _ (List.mem_append_right _ h))) (by decide +kernel))
set_option maxRecDepth 20000 in
theorem gX9_doneAt_X9_gearAt : GoodIn wsX9_doneAt (wsV RX9 77 RX9 yX9_gearAt wsX9_gearAt) := goodIn_app (goodIn_of _ (by decide +kernel)) ggX9_doneAt_X9_gearAt
set_option maxRecDepth 20000 in
theorem ggX9_doneAt_X9_needMachines : GoodIn wsX9_doneAt wsX9_needMachines := goodIn_ca (goodIn_r _ [19, 20, 21, 6, 7, 8, 22, 23, 24, 25, 26, 27, 28, 29, 30, 31, 32, 33, 34, 35, 36, 37, 38, 39, 40, 41, 42, 43, 44, 45, 46, 47, 48, 49, 50, 51, 52, 53, 54, 55, 56, 57, 58, 59, 60, 61, 62, 63, 64, 65, 66, 67, 68, 69, 12, 70, 71, 1, 2, 72, 73, 74, 75, 76, 77, 78, 79, 80, 81, 82, 87, 88, 89, 90, 91, 92, 93, 94, 95, 96, 97, 102, 103, 104, 105, 106, 107, 108, 109, 110, 111, 112, 113, 114, 115, 116, 117, 118, 119, 120, 121, 122, 123, 124, 125, 98, 99, 100, 101] (by decide +kernel) (by decide +kernel)) (goodIn_sub (fun _ h => List.mem_cons_of_mem _ (List.mem_append_right _ h)) (by decide +kernel))
set_option maxRecDepth 20000 in
theorem gX9_doneAt_X9_needMachines : GoodIn wsX9_doneAt (wsV RX9 454 RX9 yX9_needMachines wsX9_needMachines) := goodIn_app (goodIn_of _ (by decide +kernel)) ggX9_doneAt_X9_needMachines
set_option maxRecDepth 20000 in
theorem ggX9_doneAt_X9_passRoute : GoodIn wsX9_doneAt wsX9_passRoute := goodIn_r _ [86, 1, 2, 4, 22, 23, 24, 25, 26, 27, 28, 29, 30, 31, 32, 33, 34, 35, 36, 37, 38, 39, 40, 41, 42, 43, 44, 45, 46, 47, 48, 49, 50, 51, 52, 53, 54, 55, 56, 57, 58, 59, 60, 61, 62, 63, 64, 65, 66, 67, 68, 69, 12, 70, 71, 72, 73, 74, 75, 76, 77, 78, 79, 80, 81, 82, 87, 88, 89, 90, 91, 92, 93, 94, 95, 96, 97, 98, 99, 100, 101, 122, 123, 124, 125] (by decide +kernel) (by decide +kernel)
set_option maxRecDepth 20000 in
theorem gX9_doneAt_X9_passRoute : GoodIn wsX9_doneAt (wsV RX9 460 RX9 yX9_passRoute wsX9_passRoute) := goodIn_app (goodIn_of _ (by decide +kernel)) ggX9_doneAt_X9_passRoute
theorem dX9_doneAt_0 : decode cX9_doneAt 0 = .ok (.aload_n 0, 1) := by decide +kernel
theorem dX9_doneAt_1 : decode cX9_doneAt 1 = .ok (.iload_n 1, 1) := by decide +kernel
theorem dX9_doneAt_2 : decode cX9_doneAt 2 = .ok (.invokevirtual 77, 3) := by decide +kernel
theorem dX9_doneAt_5 : decode cX9_doneAt 5 = .ok (.astore_n 2, 1) := by decide +kernel
theorem dX9_doneAt_6 : decode cX9_doneAt 6 = .ok (.aload_n 0, 1) := by decide +kernel
theorem dX9_doneAt_7 : decode cX9_doneAt 7 = .ok (.invokevirtual 454, 3) := by decide +kernel
theorem dX9_doneAt_10 : decode cX9_doneAt 10 = .ok (.iconst 0, 1) := by decide +kernel
theorem dX9_doneAt_11 : decode cX9_doneAt 11 = .ok (.istore_n 3, 1) := by decide +kernel
theorem dX9_doneAt_12 : decode cX9_doneAt 12 = .ok (.iload_n 3, 1) := by decide +kernel
theorem dX9_doneAt_13 : decode cX9_doneAt 13 = .ok (.aload_n 0, 1) := by decide +kernel
theorem dX9_doneAt_14 : decode cX9_doneAt 14 = .ok (.getfield 426, 3) := by decide +kernel
theorem dX9_doneAt_17 : decode cX9_doneAt 17 = .ok (.if_icmp .ge 27, 3) := by decide +kernel
theorem dX9_doneAt_20 : decode cX9_doneAt 20 = .ok (.aload_n 0, 1) := by decide +kernel
theorem dX9_doneAt_21 : decode cX9_doneAt 21 = .ok (.getfield 23, 3) := by decide +kernel
theorem dX9_doneAt_24 : decode cX9_doneAt 24 = .ok (.iload_n 3, 1) := by decide +kernel
theorem dX9_doneAt_25 : decode cX9_doneAt 25 = .ok (.aaload, 1) := by decide +kernel
theorem dX9_doneAt_26 : decode cX9_doneAt 26 = .ok (.aload_n 0, 1) := by decide +kernel
theorem dX9_doneAt_27 : decode cX9_doneAt 27 = .ok (.getfield 23, 3) := by decide +kernel
theorem dX9_doneAt_30 : decode cX9_doneAt 30 = .ok (.iload_n 3, 1) := by decide +kernel
theorem dX9_doneAt_31 : decode cX9_doneAt 31 = .ok (.aaload, 1) := by decide +kernel
theorem dX9_doneAt_32 : decode cX9_doneAt 32 = .ok (.getfield 436, 3) := by decide +kernel
theorem dX9_doneAt_35 : decode cX9_doneAt 35 = .ok (.putfield 457, 3) := by decide +kernel
theorem dX9_doneAt_38 : decode cX9_doneAt 38 = .ok (.iinc 3 1, 3) := by decide +kernel
theorem dX9_doneAt_41 : decode cX9_doneAt 41 = .ok (.goto (-29), 3) := by decide +kernel
theorem dX9_doneAt_44 : decode cX9_doneAt 44 = .ok (.iconst 0, 1) := by decide +kernel
theorem dX9_doneAt_45 : decode cX9_doneAt 45 = .ok (.istore_n 3, 1) := by decide +kernel
theorem dX9_doneAt_46 : decode cX9_doneAt 46 = .ok (.iconst 0, 1) := by decide +kernel
theorem dX9_doneAt_47 : decode cX9_doneAt 47 = .ok (.istore 4, 2) := by decide +kernel
theorem dX9_doneAt_49 : decode cX9_doneAt 49 = .ok (.iload 4, 2) := by decide +kernel
theorem dX9_doneAt_51 : decode cX9_doneAt 51 = .ok (.aload_n 2, 1) := by decide +kernel
theorem dX9_doneAt_52 : decode cX9_doneAt 52 = .ok (.getfield 419, 3) := by decide +kernel
theorem dX9_doneAt_55 : decode cX9_doneAt 55 = .ok (.if_icmp .gt 33, 3) := by decide +kernel
theorem dX9_doneAt_58 : decode cX9_doneAt 58 = .ok (.iload 4, 2) := by decide +kernel
theorem dX9_doneAt_60 : decode cX9_doneAt 60 = .ok (.aload_n 0, 1) := by decide +kernel
theorem dX9_doneAt_61 : decode cX9_doneAt 61 = .ok (.getfield 64, 3) := by decide +kernel
theorem dX9_doneAt_64 : decode cX9_doneAt 64 = .ok (.if_icmp .ge 24, 3) := by decide +kernel
theorem dX9_doneAt_67 : decode cX9_doneAt 67 = .ok (.aload_n 0, 1) := by decide +kernel
theorem dX9_doneAt_68 : decode cX9_doneAt 68 = .ok (.aload_n 0, 1) := by decide +kernel
theorem dX9_doneAt_69 : decode cX9_doneAt 69 = .ok (.getfield 11, 3) := by decide +kernel
theorem dX9_doneAt_72 : decode cX9_doneAt 72 = .ok (.iload 4, 2) := by decide +kernel
theorem dX9_doneAt_74 : decode cX9_doneAt 74 = .ok (.aaload, 1) := by decide +kernel
theorem dX9_doneAt_75 : decode cX9_doneAt 75 = .ok (.getfield 439, 3) := by decide +kernel
theorem dX9_doneAt_78 : decode cX9_doneAt 78 = .ok (.invokevirtual 460, 3) := by decide +kernel
theorem dX9_doneAt_81 : decode cX9_doneAt 81 = .ok (.istore_n 3, 1) := by decide +kernel
theorem dX9_doneAt_82 : decode cX9_doneAt 82 = .ok (.iinc 4 1, 3) := by decide +kernel
theorem dX9_doneAt_85 : decode cX9_doneAt 85 = .ok (.goto (-36), 3) := by decide +kernel
theorem dX9_doneAt_88 : decode cX9_doneAt 88 = .ok (.iload_n 3, 1) := by decide +kernel
theorem dX9_doneAt_89 : decode cX9_doneAt 89 = .ok (.ireturn, 1) := by decide +kernel
set_option maxRecDepth 20000 in
theorem ggX9_needMachines_J4_length_8abf5 : GoodIn wsX9_needMachines wsJ4_length_8abf5 := goodIn_r _ [10, 11, 12, 13, 14, 15, 16, 17, 101, 102, 103, 104] (by decide +kernel) (by decide +kernel)
set_option maxRecDepth 20000 in
theorem gX9_needMachines_J4_length_8abf5 : GoodIn wsX9_needMachines (wsV RX9 443 RJ4 yJ4_length_8abf5 wsJ4_length_8abf5) := goodIn_app (goodIn_of _ (by decide +kernel)) ggX9_needMachines_J4_length_8abf5
set_option maxRecDepth 20000 in
theorem ggX9_needMachines_J4_charAt_5068e : GoodIn wsX9_needMachines wsJ4_charAt_5068e := goodIn_r _ [21, 22, 23, 13, 24, 15, 25, 26, 27, 17, 28, 29, 30, 31, 32, 33, 34, 35, 36, 37, 38, 39, 40, 41, 42, 43, 44, 45, 46, 47, 48, 49, 50, 101, 102, 103, 104] (by decide +kernel) (by decide +kernel)
set_option maxRecDepth 20000 in
theorem gX9_needMachines_J4_charAt_5068e : GoodIn wsX9_needMachines (wsV RX9 464 RJ4 yJ4_charAt_5068e wsJ4_charAt_5068e) := goodIn_app (goodIn_of _ (by decide +kernel)) ggX9_needMachines_J4_charAt_5068e
set_option maxRecDepth 20000 in
theorem ggX9_needMachines_X9_soonest : GoodIn wsX9_needMachines wsX9_soonest := goodIn_r _ [55, 56, 57, 58, 59, 60, 61, 62, 63, 64, 65, 66, 67, 30, 68, 69, 70, 71, 72, 73, 74, 75, 76, 77, 78, 79, 80, 105, 106, 107, 108] (by decide +kernel) (by decide +kernel)
set_option maxRecDepth 20000 in
theorem gX9_needMachines_X9_soonest : GoodIn wsX9_needMachines (wsV RX9 468 RX9 yX9_soonest wsX9_soonest) := goodIn_app (goodIn_of _ (by decide +kernel)) ggX9_needMachines_X9_soonest
theorem dX9_needMachines_0 : decode cX9_needMachines 0 = .ok (.iconst 0, 1) := by decide +kernel
theorem dX9_needMachines_1 : decode cX9_needMachines 1 = .ok (.istore_n 1, 1) := by decide +kernel
theorem dX9_needMachines_2 : decode cX9_needMachines 2 = .ok (.iload_n 1, 1) := by decide +kernel
theorem dX9_needMachines_3 : decode cX9_needMachines 3 = .ok (.aload_n 0, 1) := by decide +kernel
theorem dX9_needMachines_4 : decode cX9_needMachines 4 = .ok (.getfield 64, 3) := by decide +kernel
theorem dX9_needMachines_7 : decode cX9_needMachines 7 = .ok (.if_icmp .ge 60, 3) := by decide +kernel
theorem dX9_needMachines_10 : decode cX9_needMachines 10 = .ok (.aload_n 0, 1) := by decide +kernel
theorem dX9_needMachines_11 : decode cX9_needMachines 11 = .ok (.getfield 11, 3) := by decide +kernel
theorem dX9_needMachines_14 : decode cX9_needMachines 14 = .ok (.iload_n 1, 1) := by decide +kernel
theorem dX9_needMachines_15 : decode cX9_needMachines 15 = .ok (.aaload, 1) := by decide +kernel
theorem dX9_needMachines_16 : decode cX9_needMachines 16 = .ok (.getfield 439, 3) := by decide +kernel
theorem dX9_needMachines_19 : decode cX9_needMachines 19 = .ok (.astore_n 2, 1) := by decide +kernel
theorem dX9_needMachines_20 : decode cX9_needMachines 20 = .ok (.iconst 0, 1) := by decide +kernel
theorem dX9_needMachines_21 : decode cX9_needMachines 21 = .ok (.istore_n 3, 1) := by decide +kernel
theorem dX9_needMachines_22 : decode cX9_needMachines 22 = .ok (.iload_n 3, 1) := by decide +kernel
theorem dX9_needMachines_23 : decode cX9_needMachines 23 = .ok (.aload_n 2, 1) := by decide +kernel
theorem dX9_needMachines_24 : decode cX9_needMachines 24 = .ok (.invokevirtual 443, 3) := by decide +kernel
theorem dX9_needMachines_27 : decode cX9_needMachines 27 = .ok (.if_icmp .ge 34, 3) := by decide +kernel
theorem dX9_needMachines_30 : decode cX9_needMachines 30 = .ok (.aload_n 0, 1) := by decide +kernel
theorem dX9_needMachines_31 : decode cX9_needMachines 31 = .ok (.aload_n 2, 1) := by decide +kernel
theorem dX9_needMachines_32 : decode cX9_needMachines 32 = .ok (.iload_n 3, 1) := by decide +kernel
theorem dX9_needMachines_33 : decode cX9_needMachines 33 = .ok (.invokevirtual 464, 3) := by decide +kernel
theorem dX9_needMachines_36 : decode cX9_needMachines 36 = .ok (.iconst 0, 1) := by decide +kernel
theorem dX9_needMachines_37 : decode cX9_needMachines 37 = .ok (.invokevirtual 468, 3) := by decide +kernel
theorem dX9_needMachines_40 : decode cX9_needMachines 40 = .ok (.iconst (-1), 1) := by decide +kernel
theorem dX9_needMachines_41 : decode cX9_needMachines 41 = .ok (.if_icmp .ne 14, 3) := by decide +kernel
theorem dX9_needMachines_44 : decode cX9_needMachines 44 = .ok (.new 150, 3) := by decide +kernel
theorem dX9_needMachines_47 : decode cX9_needMachines 47 = .ok (.dup, 1) := by decide +kernel
theorem dX9_needMachines_48 : decode cX9_needMachines 48 = .ok (.ldc_w 472, 3) := by decide +kernel
theorem dX9_needMachines_51 : decode cX9_needMachines 51 = .ok (.invokespecial 154, 3) := by decide +kernel
theorem dX9_needMachines_54 : decode cX9_needMachines 54 = .ok (.athrow, 1) := by decide +kernel
theorem dX9_needMachines_55 : decode cX9_needMachines 55 = .ok (.iinc 3 1, 3) := by decide +kernel
theorem dX9_needMachines_58 : decode cX9_needMachines 58 = .ok (.goto (-36), 3) := by decide +kernel
theorem dX9_needMachines_61 : decode cX9_needMachines 61 = .ok (.iinc 1 1, 3) := by decide +kernel
theorem dX9_needMachines_64 : decode cX9_needMachines 64 = .ok (.goto (-62), 3) := by decide +kernel
theorem dX9_needMachines_67 : decode cX9_needMachines 67 = .ok (.return_, 1) := by decide +kernel
set_option maxRecDepth 20000 in
theorem ggX9_passRoute_J4_length_8abf5 : GoodIn wsX9_passRoute wsJ4_length_8abf5 := goodIn_r _ [8, 9, 10, 11, 12, 13, 14, 15, 81, 82, 83, 84] (by decide +kernel) (by decide +kernel)
set_option maxRecDepth 20000 in
theorem gX9_passRoute_J4_length_8abf5 : GoodIn wsX9_passRoute (wsV RX9 443 RJ4 yJ4_length_8abf5 wsJ4_length_8abf5) := goodIn_app (goodIn_of _ (by decide +kernel)) ggX9_passRoute_J4_length_8abf5
set_option maxRecDepth 20000 in
theorem ggX9_passRoute_J4_charAt_5068e : GoodIn wsX9_passRoute wsJ4_charAt_5068e := goodIn_r _ [19, 20, 21, 11, 22, 13, 23, 24, 25, 15, 26, 27, 28, 29, 30, 31, 32, 33, 34, 35, 36, 37, 38, 39, 40, 41, 42, 43, 44, 45, 46, 47, 48, 81, 82, 83, 84] (by decide +kernel) (by decide +kernel)
set_option maxRecDepth 20000 in
theorem gX9_passRoute_J4_charAt_5068e : GoodIn wsX9_passRoute (wsV RX9 464 RJ4 yJ4_charAt_5068e wsJ4_charAt_5068e) := goodIn_app (goodIn_of _ (by decide +kernel)) ggX9_passRoute_J4_charAt_5068e
set_option maxRecDepth 20000 in
theorem ggX9_passRoute_X9_soonest : GoodIn wsX9_passRoute wsX9_soonest := goodIn_r _ [53, 54, 1, 2, 55, 56, 57, 58, 59, 60, 61, 62, 63, 28, 64, 65, 66, 67, 68, 69, 70, 71, 72, 73, 74, 75, 76, 77, 78, 79, 80] (by decide +kernel) (by decide +kernel)
set_option maxRecDepth 20000 in
theorem gX9_passRoute_X9_soonest : GoodIn wsX9_passRoute (wsV RX9 468 RX9 yX9_soonest wsX9_soonest) := goodIn_app (goodIn_of _ (by decide +kernel)) ggX9_passRoute_X9_soonest
set_option maxRecDepth 20000 in
theorem ggX9_passRoute_X7_endFrom : GoodIn wsX9_passRoute wsX7_endFrom := goodIn_r _ [60, 61, 62, 63, 28, 64, 65, 77, 78, 79, 80] (by decide +kernel) (by decide +kernel)
set_option maxRecDepth 20000 in
theorem gX9_passRoute_X7_endFrom : GoodIn wsX9_passRoute (wsV RX9 474 RX7 yX7_endFrom wsX7_endFrom) := goodIn_app (goodIn_of _ (by decide +kernel)) ggX9_passRoute_X7_endFrom
theorem dX9_passRoute_0 : decode cX9_passRoute 0 = .ok (.iconst 0, 1) := by decide +kernel
theorem dX9_passRoute_1 : decode cX9_passRoute 1 = .ok (.istore_n 2, 1) := by decide +kernel
theorem dX9_passRoute_2 : decode cX9_passRoute 2 = .ok (.iconst 0, 1) := by decide +kernel
theorem dX9_passRoute_3 : decode cX9_passRoute 3 = .ok (.istore_n 3, 1) := by decide +kernel
theorem dX9_passRoute_4 : decode cX9_passRoute 4 = .ok (.iload_n 3, 1) := by decide +kernel
theorem dX9_passRoute_5 : decode cX9_passRoute 5 = .ok (.aload_n 1, 1) := by decide +kernel
theorem dX9_passRoute_6 : decode cX9_passRoute 6 = .ok (.invokevirtual 443, 3) := by decide +kernel
theorem dX9_passRoute_9 : decode cX9_passRoute 9 = .ok (.if_icmp .ge 58, 3) := by decide +kernel
theorem dX9_passRoute_12 : decode cX9_passRoute 12 = .ok (.aload_n 0, 1) := by decide +kernel
theorem dX9_passRoute_13 : decode cX9_passRoute 13 = .ok (.aload_n 1, 1) := by decide +kernel
theorem dX9_passRoute_14 : decode cX9_passRoute 14 = .ok (.iload_n 3, 1) := by decide +kernel
theorem dX9_passRoute_15 : decode cX9_passRoute 15 = .ok (.invokevirtual 464, 3) := by decide +kernel
theorem dX9_passRoute_18 : decode cX9_passRoute 18 = .ok (.iload_n 2, 1) := by decide +kernel
theorem dX9_passRoute_19 : decode cX9_passRoute 19 = .ok (.invokevirtual 468, 3) := by decide +kernel
theorem dX9_passRoute_22 : decode cX9_passRoute 22 = .ok (.istore 4, 2) := by decide +kernel
theorem dX9_passRoute_24 : decode cX9_passRoute 24 = .ok (.iload 4, 2) := by decide +kernel
theorem dX9_passRoute_26 : decode cX9_passRoute 26 = .ok (.ifCond .lt 35, 3) := by decide +kernel
theorem dX9_passRoute_29 : decode cX9_passRoute 29 = .ok (.iload 4, 2) := by decide +kernel
theorem dX9_passRoute_31 : decode cX9_passRoute 31 = .ok (.aload_n 0, 1) := by decide +kernel
theorem dX9_passRoute_32 : decode cX9_passRoute 32 = .ok (.getfield 426, 3) := by decide +kernel
theorem dX9_passRoute_35 : decode cX9_passRoute 35 = .ok (.if_icmp .ge 26, 3) := by decide +kernel
theorem dX9_passRoute_38 : decode cX9_passRoute 38 = .ok (.aload_n 0, 1) := by decide +kernel
theorem dX9_passRoute_39 : decode cX9_passRoute 39 = .ok (.getfield 23, 3) := by decide +kernel
theorem dX9_passRoute_42 : decode cX9_passRoute 42 = .ok (.iload 4, 2) := by decide +kernel
theorem dX9_passRoute_44 : decode cX9_passRoute 44 = .ok (.aaload, 1) := by decide +kernel
theorem dX9_passRoute_45 : decode cX9_passRoute 45 = .ok (.iload_n 2, 1) := by decide +kernel
theorem dX9_passRoute_46 : decode cX9_passRoute 46 = .ok (.invokevirtual 474, 3) := by decide +kernel
theorem dX9_passRoute_49 : decode cX9_passRoute 49 = .ok (.istore_n 2, 1) := by decide +kernel
theorem dX9_passRoute_50 : decode cX9_passRoute 50 = .ok (.aload_n 0, 1) := by decide +kernel
theorem dX9_passRoute_51 : decode cX9_passRoute 51 = .ok (.getfield 23, 3) := by decide +kernel
theorem dX9_passRoute_54 : decode cX9_passRoute 54 = .ok (.iload 4, 2) := by decide +kernel
theorem dX9_passRoute_56 : decode cX9_passRoute 56 = .ok (.aaload, 1) := by decide +kernel
theorem dX9_passRoute_57 : decode cX9_passRoute 57 = .ok (.iload_n 2, 1) := by decide +kernel
theorem dX9_passRoute_58 : decode cX9_passRoute 58 = .ok (.putfield 457, 3) := by decide +kernel
theorem dX9_passRoute_61 : decode cX9_passRoute 61 = .ok (.iinc 3 1, 3) := by decide +kernel
theorem dX9_passRoute_64 : decode cX9_passRoute 64 = .ok (.goto (-60), 3) := by decide +kernel
theorem dX9_passRoute_67 : decode cX9_passRoute 67 = .ok (.iload_n 2, 1) := by decide +kernel
theorem dX9_passRoute_68 : decode cX9_passRoute 68 = .ok (.ireturn, 1) := by decide +kernel
set_option maxRecDepth 20000 in
theorem ggX9_soonest_X7_endFrom : GoodIn wsX9_soonest wsX7_endFrom := goodIn_r _ [9, 10, 11, 12, 13, 14, 15, 27, 28, 29, 30] (by decide +kernel) (by decide +kernel)
set_option maxRecDepth 20000 in
theorem gX9_soonest_X7_endFrom : GoodIn wsX9_soonest (wsV RX9 474 RX7 yX7_endFrom wsX7_endFrom) := goodIn_app (goodIn_of _ (by decide +kernel)) ggX9_soonest_X7_endFrom
theorem dX9_soonest_0 : decode cX9_soonest 0 = .ok (.iconst (-1), 1) := by decide +kernel
theorem dX9_soonest_1 : decode cX9_soonest 1 = .ok (.istore_n 3, 1) := by decide +kernel
theorem dX9_soonest_2 : decode cX9_soonest 2 = .ok (.ldc_w 304, 3) := by decide +kernel
theorem dX9_soonest_5 : decode cX9_soonest 5 = .ok (.istore 4, 2) := by decide +kernel
theorem dX9_soonest_7 : decode cX9_soonest 7 = .ok (.iconst 0, 1) := by decide +kernel
theorem dX9_soonest_8 : decode cX9_soonest 8 = .ok (.istore 5, 2) := by decide +kernel
theorem dX9_soonest_10 : decode cX9_soonest 10 = .ok (.iload 5, 2) := by decide +kernel
theorem dX9_soonest_12 : decode cX9_soonest 12 = .ok (.aload_n 0, 1) := by decide +kernel
theorem dX9_soonest_13 : decode cX9_soonest 13 = .ok (.getfield 426, 3) := by decide +kernel
theorem dX9_soonest_16 : decode cX9_soonest 16 = .ok (.if_icmp .ge 55, 3) := by decide +kernel
theorem dX9_soonest_19 : decode cX9_soonest 19 = .ok (.aload_n 0, 1) := by decide +kernel
theorem dX9_soonest_20 : decode cX9_soonest 20 = .ok (.getfield 23, 3) := by decide +kernel
theorem dX9_soonest_23 : decode cX9_soonest 23 = .ok (.iload 5, 2) := by decide +kernel
theorem dX9_soonest_25 : decode cX9_soonest 25 = .ok (.aaload, 1) := by decide +kernel
theorem dX9_soonest_26 : decode cX9_soonest 26 = .ok (.getfield 477, 3) := by decide +kernel
theorem dX9_soonest_29 : decode cX9_soonest 29 = .ok (.iload_n 1, 1) := by decide +kernel
theorem dX9_soonest_30 : decode cX9_soonest 30 = .ok (.if_icmp .ne 35, 3) := by decide +kernel
theorem dX9_soonest_33 : decode cX9_soonest 33 = .ok (.aload_n 0, 1) := by decide +kernel
theorem dX9_soonest_34 : decode cX9_soonest 34 = .ok (.getfield 23, 3) := by decide +kernel
theorem dX9_soonest_37 : decode cX9_soonest 37 = .ok (.iload 5, 2) := by decide +kernel
theorem dX9_soonest_39 : decode cX9_soonest 39 = .ok (.aaload, 1) := by decide +kernel
theorem dX9_soonest_40 : decode cX9_soonest 40 = .ok (.iload_n 2, 1) := by decide +kernel
theorem dX9_soonest_41 : decode cX9_soonest 41 = .ok (.invokevirtual 474, 3) := by decide +kernel
theorem dX9_soonest_44 : decode cX9_soonest 44 = .ok (.iload 4, 2) := by decide +kernel
theorem dX9_soonest_46 : decode cX9_soonest 46 = .ok (.if_icmp .ge 19, 3) := by decide +kernel
theorem dX9_soonest_49 : decode cX9_soonest 49 = .ok (.iload 5, 2) := by decide +kernel
theorem dX9_soonest_51 : decode cX9_soonest 51 = .ok (.istore_n 3, 1) := by decide +kernel
theorem dX9_soonest_52 : decode cX9_soonest 52 = .ok (.aload_n 0, 1) := by decide +kernel
theorem dX9_soonest_53 : decode cX9_soonest 53 = .ok (.getfield 23, 3) := by decide +kernel
theorem dX9_soonest_56 : decode cX9_soonest 56 = .ok (.iload 5, 2) := by decide +kernel
theorem dX9_soonest_58 : decode cX9_soonest 58 = .ok (.aaload, 1) := by decide +kernel
theorem dX9_soonest_59 : decode cX9_soonest 59 = .ok (.iload_n 2, 1) := by decide +kernel
theorem dX9_soonest_60 : decode cX9_soonest 60 = .ok (.invokevirtual 474, 3) := by decide +kernel
theorem dX9_soonest_63 : decode cX9_soonest 63 = .ok (.istore 4, 2) := by decide +kernel
theorem dX9_soonest_65 : decode cX9_soonest 65 = .ok (.iinc 5 1, 3) := by decide +kernel
theorem dX9_soonest_68 : decode cX9_soonest 68 = .ok (.goto (-58), 3) := by decide +kernel
theorem dX9_soonest_71 : decode cX9_soonest 71 = .ok (.iload_n 3, 1) := by decide +kernel
theorem dX9_soonest_72 : decode cX9_soonest 72 = .ok (.ireturn, 1) := by decide +kernel
set_option maxRecDepth 20000 in
theorem ggX9_oldModule_X9_tellOld : GoodIn wsX9_oldModule wsX9_tellOld := goodIn_ca (goodIn_ca (goodIn_r _ [4, 5, 6, 7, 8, 9, 10, 11, 12, 3, 13, 14, 15, 16, 17, 18, 19, 20, 21, 22, 23, 24, 25, 26, 27, 28, 29, 30, 31, 32, 33, 34, 35, 36, 37, 38, 39, 40, 41, 42, 43, 44, 45, 46, 47, 48, 49, 50, 51, 52] (by decide +kernel) (by decide +kernel)) (goodIn_sub (fun _ h => List.mem_cons_of_mem _ (List.mem_append_left _ (List.mem_append_right _ h))) (by decide +kernel))) (goodIn_sub (fun _ h => List.mem_cons_of_mem _ (List.mem_append_right _ h)) (by decide +kernel))
set_option maxRecDepth 20000 in
theorem gX9_oldModule_X9_tellOld : GoodIn wsX9_oldModule (va_wsS RX9 481 yX9_tellOld wsX9_tellOld) := goodIn_app (goodIn_of _ (by decide +kernel)) ggX9_oldModule_X9_tellOld
theorem dX9_oldModule_0 : decode cX9_oldModule 0 = .ok (.iload_n 1, 1) := by decide +kernel
theorem dX9_oldModule_1 : decode cX9_oldModule 1 = .ok (.iload_n 2, 1) := by decide +kernel
theorem dX9_oldModule_2 : decode cX9_oldModule 2 = .ok (.iload_n 3, 1) := by decide +kernel
theorem dX9_oldModule_3 : decode cX9_oldModule 3 = .ok (.invokestatic 481, 3) := by decide +kernel
theorem dX9_oldModule_6 : decode cX9_oldModule 6 = .ok (.getfield 485, 3) := by decide +kernel
theorem dX9_oldModule_9 : decode cX9_oldModule 9 = .ok (.ireturn, 1) := by decide +kernel
set_option maxRecDepth 20000 in
theorem ggX9_oldShift_X9_tellOld : GoodIn wsX9_oldShift wsX9_tellOld := goodIn_ca (goodIn_ca (goodIn_r _ [4, 5, 6, 7, 8, 9, 10, 11, 12, 3, 13, 14, 15, 16, 17, 18, 19, 20, 21, 22, 23, 24, 25, 26, 27, 28, 29, 30, 31, 32, 33, 34, 35, 36, 37, 38, 39, 40, 41, 42, 43, 44, 45, 46, 47, 48, 49, 50, 51, 52] (by decide +kernel) (by decide +kernel)) (goodIn_sub (fun _ h => List.mem_cons_of_mem _ (List.mem_append_left _ (List.mem_append_right _ h))) (by decide +kernel))) (goodIn_sub (fun _ h => List.mem_cons_of_mem _ (List.mem_append_right _ h)) (by decide +kernel))
set_option maxRecDepth 20000 in
theorem gX9_oldShift_X9_tellOld : GoodIn wsX9_oldShift (va_wsS RX9 481 yX9_tellOld wsX9_tellOld) := goodIn_app (goodIn_of _ (by decide +kernel)) ggX9_oldShift_X9_tellOld
theorem dX9_oldShift_0 : decode cX9_oldShift 0 = .ok (.iload_n 1, 1) := by decide +kernel
theorem dX9_oldShift_1 : decode cX9_oldShift 1 = .ok (.iload_n 2, 1) := by decide +kernel
theorem dX9_oldShift_2 : decode cX9_oldShift 2 = .ok (.iload_n 3, 1) := by decide +kernel
theorem dX9_oldShift_3 : decode cX9_oldShift 3 = .ok (.invokestatic 481, 3) := by decide +kernel
theorem dX9_oldShift_6 : decode cX9_oldShift 6 = .ok (.getfield 488, 3) := by decide +kernel
theorem dX9_oldShift_9 : decode cX9_oldShift 9 = .ok (.ireturn, 1) := by decide +kernel
set_option maxRecDepth 20000 in
theorem ggX9_tellOld_X9_needTeeth : GoodIn wsX9_tellOld wsX9_needTeeth := goodIn_ca (goodIn_r _ [10, 11, 12, 9, 13, 14, 15] (by decide +kernel) (by decide +kernel)) (goodIn_sub (fun _ h => List.mem_cons_of_mem _ (List.mem_append_right _ h)) (by decide +kernel))
set_option maxRecDepth 20000 in
theorem gX9_tellOld_X9_needTeeth : GoodIn wsX9_tellOld (va_wsS RX9 55 yX9_needTeeth wsX9_needTeeth) := goodIn_app (goodIn_of _ (by decide +kernel)) ggX9_tellOld_X9_needTeeth
set_option maxRecDepth 20000 in
theorem ggX9_tellOld_X9_needRange : GoodIn wsX9_tellOld wsX9_needRange := goodIn_ca (goodIn_r _ [13, 14, 15] (by decide +kernel) (by decide +kernel)) (goodIn_sub (fun _ h => List.mem_cons_of_mem _ (List.mem_append_right _ h)) (by decide +kernel))
set_option maxRecDepth 20000 in
theorem gX9_tellOld_X9_needRange : GoodIn wsX9_tellOld (va_wsS RX9 59 yX9_needRange wsX9_needRange) := goodIn_app (goodIn_of _ (by decide +kernel)) ggX9_tellOld_X9_needRange
set_option maxRecDepth 20000 in
theorem ggX9_tellOld_X5_init : GoodIn wsX9_tellOld wsX5_init := goodIn_r _ [18, 19, 20, 21, 22, 23, 24, 25, 26, 44, 45, 46, 47, 48, 49] (by decide +kernel) (by decide +kernel)
set_option maxRecDepth 20000 in
theorem gX9_tellOld_X5_init : GoodIn wsX9_tellOld (wsX5_init) := ggX9_tellOld_X5_init
set_option maxRecDepth 20000 in
theorem ggX9_tellOld_X5_search : GoodIn wsX9_tellOld wsX5_search := goodIn_r _ [30, 31, 32, 33, 6, 34, 23, 22, 35, 36, 37, 38, 24, 25, 26, 39, 40, 41, 9, 42, 44, 45, 46, 47, 48, 49] (by decide +kernel) (by decide +kernel)
set_option maxRecDepth 20000 in
theorem gX9_tellOld_X5_search : GoodIn wsX9_tellOld (wsV RX9 492 RX5 yX5_search wsX5_search) := goodIn_app (goodIn_of _ (by decide +kernel)) ggX9_tellOld_X5_search
set_option maxRecDepth 20000 in
theorem ggX9_tellOld_X5_isFound : GoodIn wsX9_tellOld wsX5_isFound := goodIn_r _ [34, 23, 22, 44, 45, 46, 47, 48, 49] (by decide +kernel) (by decide +kernel)
set_option maxRecDepth 20000 in
theorem gX9_tellOld_X5_isFound : GoodIn wsX9_tellOld (wsV RX9 494 RX5 yX5_isFound wsX5_isFound) := goodIn_app (goodIn_of _ (by decide +kernel)) ggX9_tellOld_X5_isFound
theorem dX9_tellOld_0 : decode cX9_tellOld 0 = .ok (.iload_n 0, 1) := by decide +kernel
theorem dX9_tellOld_1 : decode cX9_tellOld 1 = .ok (.invokestatic 55, 3) := by decide +kernel
theorem dX9_tellOld_4 : decode cX9_tellOld 4 = .ok (.iload_n 1, 1) := by decide +kernel
theorem dX9_tellOld_5 : decode cX9_tellOld 5 = .ok (.sipush 1000, 3) := by decide +kernel
theorem dX9_tellOld_8 : decode cX9_tellOld 8 = .ok (.ldc_w 489, 3) := by decide +kernel
theorem dX9_tellOld_11 : decode cX9_tellOld 11 = .ok (.invokestatic 59, 3) := by decide +kernel
theorem dX9_tellOld_14 : decode cX9_tellOld 14 = .ok (.iload_n 2, 1) := by decide +kernel
theorem dX9_tellOld_15 : decode cX9_tellOld 15 = .ok (.iconst 0, 1) := by decide +kernel
theorem dX9_tellOld_16 : decode cX9_tellOld 16 = .ok (.sipush 9999, 3) := by decide +kernel
theorem dX9_tellOld_19 : decode cX9_tellOld 19 = .ok (.invokestatic 59, 3) := by decide +kernel
theorem dX9_tellOld_22 : decode cX9_tellOld 22 = .ok (.new 486, 3) := by decide +kernel
theorem dX9_tellOld_25 : decode cX9_tellOld 25 = .ok (.dup, 1) := by decide +kernel
theorem dX9_tellOld_26 : decode cX9_tellOld 26 = .ok (.iload_n 0, 1) := by decide +kernel
theorem dX9_tellOld_27 : decode cX9_tellOld 27 = .ok (.iload_n 1, 1) := by decide +kernel
theorem dX9_tellOld_28 : decode cX9_tellOld 28 = .ok (.iload_n 2, 1) := by decide +kernel
theorem dX9_tellOld_29 : decode cX9_tellOld 29 = .ok (.invokespecial 490, 3) := by decide +kernel
theorem dX9_tellOld_32 : decode cX9_tellOld 32 = .ok (.astore_n 3, 1) := by decide +kernel
theorem dX9_tellOld_33 : decode cX9_tellOld 33 = .ok (.aload_n 3, 1) := by decide +kernel
theorem dX9_tellOld_34 : decode cX9_tellOld 34 = .ok (.invokevirtual 492, 3) := by decide +kernel
theorem dX9_tellOld_37 : decode cX9_tellOld 37 = .ok (.aload_n 3, 1) := by decide +kernel
theorem dX9_tellOld_38 : decode cX9_tellOld 38 = .ok (.invokevirtual 494, 3) := by decide +kernel
theorem dX9_tellOld_41 : decode cX9_tellOld 41 = .ok (.ifCond .ne 14, 3) := by decide +kernel
theorem dX9_tellOld_44 : decode cX9_tellOld 44 = .ok (.new 150, 3) := by decide +kernel
theorem dX9_tellOld_47 : decode cX9_tellOld 47 = .ok (.dup, 1) := by decide +kernel
theorem dX9_tellOld_48 : decode cX9_tellOld 48 = .ok (.ldc_w 497, 3) := by decide +kernel
theorem dX9_tellOld_51 : decode cX9_tellOld 51 = .ok (.invokespecial 154, 3) := by decide +kernel
theorem dX9_tellOld_54 : decode cX9_tellOld 54 = .ok (.athrow, 1) := by decide +kernel
theorem dX9_tellOld_55 : decode cX9_tellOld 55 = .ok (.aload_n 3, 1) := by decide +kernel
theorem dX9_tellOld_56 : decode cX9_tellOld 56 = .ok (.areturn, 1) := by decide +kernel
theorem dX9_allDamage_0 : decode cX9_allDamage 0 = .ok (.lconst 0, 1) := by decide +kernel
theorem dX9_allDamage_1 : decode cX9_allDamage 1 = .ok (.lstore_n 1, 1) := by decide +kernel
theorem dX9_allDamage_2 : decode cX9_allDamage 2 = .ok (.iconst 0, 1) := by decide +kernel
theorem dX9_allDamage_3 : decode cX9_allDamage 3 = .ok (.istore_n 3, 1) := by decide +kernel
theorem dX9_allDamage_4 : decode cX9_allDamage 4 = .ok (.iload_n 3, 1) := by decide +kernel
theorem dX9_allDamage_5 : decode cX9_allDamage 5 = .ok (.aload_n 0, 1) := by decide +kernel
theorem dX9_allDamage_6 : decode cX9_allDamage 6 = .ok (.getfield 64, 3) := by decide +kernel
theorem dX9_allDamage_9 : decode cX9_allDamage 9 = .ok (.if_icmp .ge 21, 3) := by decide +kernel
theorem dX9_allDamage_12 : decode cX9_allDamage 12 = .ok (.lload_n 1, 1) := by decide +kernel
theorem dX9_allDamage_13 : decode cX9_allDamage 13 = .ok (.aload_n 0, 1) := by decide +kernel
theorem dX9_allDamage_14 : decode cX9_allDamage 14 = .ok (.getfield 11, 3) := by decide +kernel
theorem dX9_allDamage_17 : decode cX9_allDamage 17 = .ok (.iload_n 3, 1) := by decide +kernel
theorem dX9_allDamage_18 : decode cX9_allDamage 18 = .ok (.aaload, 1) := by decide +kernel
theorem dX9_allDamage_19 : decode cX9_allDamage 19 = .ok (.getfield 387, 3) := by decide +kernel
theorem dX9_allDamage_22 : decode cX9_allDamage 22 = .ok (.ladd, 1) := by decide +kernel
theorem dX9_allDamage_23 : decode cX9_allDamage 23 = .ok (.lstore_n 1, 1) := by decide +kernel
theorem dX9_allDamage_24 : decode cX9_allDamage 24 = .ok (.iinc 3 1, 3) := by decide +kernel
theorem dX9_allDamage_27 : decode cX9_allDamage 27 = .ok (.goto (-23), 3) := by decide +kernel
theorem dX9_allDamage_30 : decode cX9_allDamage 30 = .ok (.lload_n 1, 1) := by decide +kernel
theorem dX9_allDamage_31 : decode cX9_allDamage 31 = .ok (.lreturn, 1) := by decide +kernel
set_option maxRecDepth 20000 in
theorem ggX9_cutShare_X9_needAnyGear : GoodIn wsX9_cutShare wsX9_needAnyGear := goodIn_ca (goodIn_r _ [8, 9, 10, 1, 11, 12, 13, 14, 15, 16, 17, 18, 19, 20, 21] (by decide +kernel) (by decide +kernel)) (goodIn_sub (fun _ h => List.mem_cons_of_mem _ (List.mem_append_right _ h)) (by decide +kernel))
set_option maxRecDepth 20000 in
theorem gX9_cutShare_X9_needAnyGear : GoodIn wsX9_cutShare (wsV RX9 499 RX9 yX9_needAnyGear wsX9_needAnyGear) := goodIn_app (goodIn_of _ (by decide +kernel)) ggX9_cutShare_X9_needAnyGear
theorem dX9_cutShare_0 : decode cX9_cutShare 0 = .ok (.aload_n 0, 1) := by decide +kernel
theorem dX9_cutShare_1 : decode cX9_cutShare 1 = .ok (.invokevirtual 499, 3) := by decide +kernel
theorem dX9_cutShare_4 : decode cX9_cutShare 4 = .ok (.iconst 0, 1) := by decide +kernel
theorem dX9_cutShare_5 : decode cX9_cutShare 5 = .ok (.istore_n 1, 1) := by decide +kernel
theorem dX9_cutShare_6 : decode cX9_cutShare 6 = .ok (.iconst 0, 1) := by decide +kernel
theorem dX9_cutShare_7 : decode cX9_cutShare 7 = .ok (.istore_n 2, 1) := by decide +kernel
theorem dX9_cutShare_8 : decode cX9_cutShare 8 = .ok (.iload_n 2, 1) := by decide +kernel
theorem dX9_cutShare_9 : decode cX9_cutShare 9 = .ok (.aload_n 0, 1) := by decide +kernel
theorem dX9_cutShare_10 : decode cX9_cutShare 10 = .ok (.getfield 64, 3) := by decide +kernel
theorem dX9_cutShare_13 : decode cX9_cutShare 13 = .ok (.if_icmp .ge 24, 3) := by decide +kernel
theorem dX9_cutShare_16 : decode cX9_cutShare 16 = .ok (.aload_n 0, 1) := by decide +kernel
theorem dX9_cutShare_17 : decode cX9_cutShare 17 = .ok (.getfield 11, 3) := by decide +kernel
theorem dX9_cutShare_20 : decode cX9_cutShare 20 = .ok (.iload_n 2, 1) := by decide +kernel
theorem dX9_cutShare_21 : decode cX9_cutShare 21 = .ok (.aaload, 1) := by decide +kernel
theorem dX9_cutShare_22 : decode cX9_cutShare 22 = .ok (.getfield 81, 3) := by decide +kernel
theorem dX9_cutShare_25 : decode cX9_cutShare 25 = .ok (.ifCond .eq 6, 3) := by decide +kernel
theorem dX9_cutShare_28 : decode cX9_cutShare 28 = .ok (.iinc 1 1, 3) := by decide +kernel
theorem dX9_cutShare_31 : decode cX9_cutShare 31 = .ok (.iinc 2 1, 3) := by decide +kernel
theorem dX9_cutShare_34 : decode cX9_cutShare 34 = .ok (.goto (-26), 3) := by decide +kernel
theorem dX9_cutShare_37 : decode cX9_cutShare 37 = .ok (.iload_n 1, 1) := by decide +kernel
theorem dX9_cutShare_38 : decode cX9_cutShare 38 = .ok (.i2f, 1) := by decide +kernel
theorem dX9_cutShare_39 : decode cX9_cutShare 39 = .ok (.aload_n 0, 1) := by decide +kernel
theorem dX9_cutShare_40 : decode cX9_cutShare 40 = .ok (.getfield 64, 3) := by decide +kernel
theorem dX9_cutShare_43 : decode cX9_cutShare 43 = .ok (.i2f, 1) := by decide +kernel
theorem dX9_cutShare_44 : decode cX9_cutShare 44 = .ok (.fdiv, 1) := by decide +kernel
theorem dX9_cutShare_45 : decode cX9_cutShare 45 = .ok (.freturn, 1) := by decide +kernel
set_option maxRecDepth 20000 in
theorem ggX9_meanGrade_X9_needAnyGear : GoodIn wsX9_meanGrade wsX9_needAnyGear := goodIn_ca (goodIn_r _ [7, 8, 9, 1, 35, 36, 37, 38, 39, 40, 41, 42, 43, 44, 45] (by decide +kernel) (by decide +kernel)) (goodIn_sub (fun _ h => List.mem_cons_of_mem _ (List.mem_append_left _ (List.mem_append_right _ h))) (by decide +kernel))
set_option maxRecDepth 20000 in
theorem gX9_meanGrade_X9_needAnyGear : GoodIn wsX9_meanGrade (wsV RX9 499 RX9 yX9_needAnyGear wsX9_needAnyGear) := goodIn_app (goodIn_of _ (by decide +kernel)) ggX9_meanGrade_X9_needAnyGear
set_option maxRecDepth 20000 in
theorem ggX9_meanGrade_X2_worstGrade : GoodIn wsX9_meanGrade wsX2_worstGrade := goodIn_ca (goodIn_r _ [14, 15, 16, 17, 18, 19, 20, 21, 22, 23, 24, 25, 26, 27, 28, 29, 30, 31, 32, 6, 33, 34, 46, 47, 48, 49, 50, 51, 52, 53, 54, 55, 56, 57, 58, 59, 60, 61, 62, 63, 64, 65, 66, 67, 68] (by decide +kernel) (by decide +kernel)) (goodIn_sub (fun _ h => List.mem_cons_of_mem _ (List.mem_append_right _ h)) (by decide +kernel))
set_option maxRecDepth 20000 in
theorem gX9_meanGrade_X2_worstGrade : GoodIn wsX9_meanGrade (wsV RX9 351 RX2 yX2_worstGrade wsX2_worstGrade) := goodIn_app (goodIn_of _ (by decide +kernel)) ggX9_meanGrade_X2_worstGrade
theorem dX9_meanGrade_0 : decode cX9_meanGrade 0 = .ok (.aload_n 0, 1) := by decide +kernel
theorem dX9_meanGrade_1 : decode cX9_meanGrade 1 = .ok (.invokevirtual 499, 3) := by decide +kernel
theorem dX9_meanGrade_4 : decode cX9_meanGrade 4 = .ok (.iconst 0, 1) := by decide +kernel
theorem dX9_meanGrade_5 : decode cX9_meanGrade 5 = .ok (.istore_n 1, 1) := by decide +kernel
theorem dX9_meanGrade_6 : decode cX9_meanGrade 6 = .ok (.iconst 0, 1) := by decide +kernel
theorem dX9_meanGrade_7 : decode cX9_meanGrade 7 = .ok (.istore_n 2, 1) := by decide +kernel
theorem dX9_meanGrade_8 : decode cX9_meanGrade 8 = .ok (.iload_n 2, 1) := by decide +kernel
theorem dX9_meanGrade_9 : decode cX9_meanGrade 9 = .ok (.aload_n 0, 1) := by decide +kernel
theorem dX9_meanGrade_10 : decode cX9_meanGrade 10 = .ok (.getfield 64, 3) := by decide +kernel
theorem dX9_meanGrade_13 : decode cX9_meanGrade 13 = .ok (.if_icmp .ge 21, 3) := by decide +kernel
theorem dX9_meanGrade_16 : decode cX9_meanGrade 16 = .ok (.iload_n 1, 1) := by decide +kernel
theorem dX9_meanGrade_17 : decode cX9_meanGrade 17 = .ok (.aload_n 0, 1) := by decide +kernel
theorem dX9_meanGrade_18 : decode cX9_meanGrade 18 = .ok (.getfield 11, 3) := by decide +kernel
theorem dX9_meanGrade_21 : decode cX9_meanGrade 21 = .ok (.iload_n 2, 1) := by decide +kernel
theorem dX9_meanGrade_22 : decode cX9_meanGrade 22 = .ok (.aaload, 1) := by decide +kernel
theorem dX9_meanGrade_23 : decode cX9_meanGrade 23 = .ok (.invokevirtual 351, 3) := by decide +kernel
theorem dX9_meanGrade_26 : decode cX9_meanGrade 26 = .ok (.iadd, 1) := by decide +kernel
theorem dX9_meanGrade_27 : decode cX9_meanGrade 27 = .ok (.istore_n 1, 1) := by decide +kernel
theorem dX9_meanGrade_28 : decode cX9_meanGrade 28 = .ok (.iinc 2 1, 3) := by decide +kernel
theorem dX9_meanGrade_31 : decode cX9_meanGrade 31 = .ok (.goto (-23), 3) := by decide +kernel
theorem dX9_meanGrade_34 : decode cX9_meanGrade 34 = .ok (.iload_n 1, 1) := by decide +kernel
theorem dX9_meanGrade_35 : decode cX9_meanGrade 35 = .ok (.i2d, 1) := by decide +kernel
theorem dX9_meanGrade_36 : decode cX9_meanGrade 36 = .ok (.aload_n 0, 1) := by decide +kernel
theorem dX9_meanGrade_37 : decode cX9_meanGrade 37 = .ok (.getfield 64, 3) := by decide +kernel
theorem dX9_meanGrade_40 : decode cX9_meanGrade 40 = .ok (.i2d, 1) := by decide +kernel
theorem dX9_meanGrade_41 : decode cX9_meanGrade 41 = .ok (.ddiv, 1) := by decide +kernel
theorem dX9_meanGrade_42 : decode cX9_meanGrade 42 = .ok (.dreturn, 1) := by decide +kernel
set_option maxRecDepth 20000 in
theorem ggX9_isSound_X9_isMatedRightly : GoodIn wsX9_isSound wsX9_isMatedRightly := goodIn_r _ [8, 9, 1, 2, 10, 11, 12, 13, 14, 15, 16, 17, 18, 91, 92, 93, 94, 95, 96, 97, 98, 99, 100, 101, 102, 103, 104, 105, 106, 107, 108, 109, 110, 80, 81, 82, 83, 84, 85, 86, 87, 88, 89, 90] (by decide +kernel) (by decide +kernel)
set_option maxRecDepth 20000 in
theorem gX9_isSound_X9_isMatedRightly : GoodIn wsX9_isSound (wsV RX9 502 RX9 yX9_isMatedRightly wsX9_isMatedRightly) := goodIn_app (goodIn_of _ (by decide +kernel)) ggX9_isSound_X9_isMatedRightly
set_option maxRecDepth 20000 in
theorem ggX9_isSound_X2_pairsWith : GoodIn wsX9_isSound wsX2_pairsWith := goodIn_r _ [16, 17, 18, 91, 92, 93, 94, 95, 96, 97, 98, 99, 100, 101, 102, 103, 104, 105, 106, 107, 108, 109, 110] (by decide +kernel) (by decide +kernel)
set_option maxRecDepth 20000 in
theorem gX9_isSound_X2_pairsWith : GoodIn wsX9_isSound (wsV RX9 115 RX2 yX2_pairsWith wsX2_pairsWith) := goodIn_app (goodIn_of _ (by decide +kernel)) ggX9_isSound_X2_pairsWith
set_option maxRecDepth 20000 in
theorem ggX9_isSound_X9_rollsAsTold : GoodIn wsX9_isSound wsX9_rollsAsTold := goodIn_ca (goodIn_ca (goodIn_r _ [22, 23, 24, 25, 26, 27, 28, 29, 30, 31, 32, 33, 34, 35, 36, 37, 38, 39, 40, 41, 42, 7, 43, 44, 45, 46, 47, 48, 49, 50, 51, 52, 53, 54, 55, 56, 57, 58, 59, 60, 61, 62, 63, 64, 65, 66, 67, 68, 69, 70, 71, 72, 73, 74, 75, 76, 77, 78, 79, 80, 81, 82, 83, 84, 85, 86, 87, 88, 89, 90, 111, 112, 113, 114, 115, 116, 117, 118] (by decide +kernel) (by decide +kernel)) (goodIn_sub (fun _ h => List.mem_cons_of_mem _ (List.mem_append_left _ (List.mem_append_right _ h))) (by decide +kernel))) (goodIn_sub (fun _ h => List.mem_cons_of_mem _ (List.mem_append_right _ h)) (by decide +kernel))
set_option maxRecDepth 20000 in
theorem gX9_isSound_X9_rollsAsTold : GoodIn wsX9_isSound (wsV RX9 505 RX9 yX9_rollsAsTold wsX9_rollsAsTold) := goodIn_app (goodIn_of _ (by decide +kernel)) ggX9_isSound_X9_rollsAsTold
theorem dX9_isSound_0 : decode cX9_isSound 0 = .ok (.iconst 0, 1) := by decide +kernel
theorem dX9_isSound_1 : decode cX9_isSound 1 = .ok (.istore_n 1, 1) := by decide +kernel
theorem dX9_isSound_2 : decode cX9_isSound 2 = .ok (.iload_n 1, 1) := by decide +kernel
theorem dX9_isSound_3 : decode cX9_isSound 3 = .ok (.aload_n 0, 1) := by decide +kernel
theorem dX9_isSound_4 : decode cX9_isSound 4 = .ok (.getfield 64, 3) := by decide +kernel
theorem dX9_isSound_7 : decode cX9_isSound 7 = .ok (.if_icmp .ge 87, 3) := by decide +kernel
theorem dX9_isSound_10 : decode cX9_isSound 10 = .ok (.aload_n 0, 1) := by decide +kernel
theorem dX9_isSound_11 : decode cX9_isSound 11 = .ok (.aload_n 0, 1) := by decide +kernel
theorem dX9_isSound_12 : decode cX9_isSound 12 = .ok (.getfield 11, 3) := by decide +kernel
theorem dX9_isSound_15 : decode cX9_isSound 15 = .ok (.iload_n 1, 1) := by decide +kernel
theorem dX9_isSound_16 : decode cX9_isSound 16 = .ok (.aaload, 1) := by decide +kernel
theorem dX9_isSound_17 : decode cX9_isSound 17 = .ok (.invokevirtual 502, 3) := by decide +kernel
theorem dX9_isSound_20 : decode cX9_isSound 20 = .ok (.ifCond .ne 5, 3) := by decide +kernel
theorem dX9_isSound_23 : decode cX9_isSound 23 = .ok (.iconst 0, 1) := by decide +kernel
theorem dX9_isSound_24 : decode cX9_isSound 24 = .ok (.ireturn, 1) := by decide +kernel
theorem dX9_isSound_25 : decode cX9_isSound 25 = .ok (.iload_n 1, 1) := by decide +kernel
theorem dX9_isSound_26 : decode cX9_isSound 26 = .ok (.iconst 1, 1) := by decide +kernel
theorem dX9_isSound_27 : decode cX9_isSound 27 = .ok (.iadd, 1) := by decide +kernel
theorem dX9_isSound_28 : decode cX9_isSound 28 = .ok (.istore_n 2, 1) := by decide +kernel
theorem dX9_isSound_29 : decode cX9_isSound 29 = .ok (.iload_n 2, 1) := by decide +kernel
theorem dX9_isSound_30 : decode cX9_isSound 30 = .ok (.aload_n 0, 1) := by decide +kernel
theorem dX9_isSound_31 : decode cX9_isSound 31 = .ok (.getfield 64, 3) := by decide +kernel
theorem dX9_isSound_34 : decode cX9_isSound 34 = .ok (.if_icmp .ge 54, 3) := by decide +kernel
theorem dX9_isSound_37 : decode cX9_isSound 37 = .ok (.aload_n 0, 1) := by decide +kernel
theorem dX9_isSound_38 : decode cX9_isSound 38 = .ok (.getfield 11, 3) := by decide +kernel
theorem dX9_isSound_41 : decode cX9_isSound 41 = .ok (.iload_n 1, 1) := by decide +kernel
theorem dX9_isSound_42 : decode cX9_isSound 42 = .ok (.aaload, 1) := by decide +kernel
theorem dX9_isSound_43 : decode cX9_isSound 43 = .ok (.aload_n 0, 1) := by decide +kernel
theorem dX9_isSound_44 : decode cX9_isSound 44 = .ok (.getfield 11, 3) := by decide +kernel
theorem dX9_isSound_47 : decode cX9_isSound 47 = .ok (.iload_n 2, 1) := by decide +kernel
theorem dX9_isSound_48 : decode cX9_isSound 48 = .ok (.aaload, 1) := by decide +kernel
theorem dX9_isSound_49 : decode cX9_isSound 49 = .ok (.invokevirtual 115, 3) := by decide +kernel
theorem dX9_isSound_52 : decode cX9_isSound 52 = .ok (.ifCond .eq 30, 3) := by decide +kernel
theorem dX9_isSound_55 : decode cX9_isSound 55 = .ok (.aload_n 0, 1) := by decide +kernel
theorem dX9_isSound_56 : decode cX9_isSound 56 = .ok (.aload_n 0, 1) := by decide +kernel
theorem dX9_isSound_57 : decode cX9_isSound 57 = .ok (.getfield 11, 3) := by decide +kernel
theorem dX9_isSound_60 : decode cX9_isSound 60 = .ok (.iload_n 1, 1) := by decide +kernel
theorem dX9_isSound_61 : decode cX9_isSound 61 = .ok (.aaload, 1) := by decide +kernel
theorem dX9_isSound_62 : decode cX9_isSound 62 = .ok (.getfield 339, 3) := by decide +kernel
theorem dX9_isSound_65 : decode cX9_isSound 65 = .ok (.aload_n 0, 1) := by decide +kernel
theorem dX9_isSound_66 : decode cX9_isSound 66 = .ok (.getfield 11, 3) := by decide +kernel
theorem dX9_isSound_69 : decode cX9_isSound 69 = .ok (.iload_n 2, 1) := by decide +kernel
theorem dX9_isSound_70 : decode cX9_isSound 70 = .ok (.aaload, 1) := by decide +kernel
theorem dX9_isSound_71 : decode cX9_isSound 71 = .ok (.getfield 339, 3) := by decide +kernel
theorem dX9_isSound_74 : decode cX9_isSound 74 = .ok (.invokevirtual 505, 3) := by decide +kernel
theorem dX9_isSound_77 : decode cX9_isSound 77 = .ok (.ifCond .ne 5, 3) := by decide +kernel
theorem dX9_isSound_80 : decode cX9_isSound 80 = .ok (.iconst 0, 1) := by decide +kernel
theorem dX9_isSound_81 : decode cX9_isSound 81 = .ok (.ireturn, 1) := by decide +kernel
theorem dX9_isSound_82 : decode cX9_isSound 82 = .ok (.iinc 2 1, 3) := by decide +kernel
theorem dX9_isSound_85 : decode cX9_isSound 85 = .ok (.goto (-56), 3) := by decide +kernel
theorem dX9_isSound_88 : decode cX9_isSound 88 = .ok (.iinc 1 1, 3) := by decide +kernel
theorem dX9_isSound_91 : decode cX9_isSound 91 = .ok (.goto (-89), 3) := by decide +kernel
theorem dX9_isSound_94 : decode cX9_isSound 94 = .ok (.iconst 1, 1) := by decide +kernel
theorem dX9_isSound_95 : decode cX9_isSound 95 = .ok (.ireturn, 1) := by decide +kernel
set_option maxRecDepth 20000 in
theorem ggX9_isMatedRightly_X2_pairsWith : GoodIn wsX9_isMatedRightly wsX2_pairsWith := goodIn_r _ [10, 11, 12, 13, 14, 15, 16, 17, 18, 19, 20, 21, 22, 23, 24, 25, 26, 27, 28, 29, 30, 31, 32] (by decide +kernel) (by decide +kernel)
set_option maxRecDepth 20000 in
theorem gX9_isMatedRightly_X2_pairsWith : GoodIn wsX9_isMatedRightly (wsV RX9 115 RX2 yX2_pairsWith wsX2_pairsWith) := goodIn_app (goodIn_of _ (by decide +kernel)) ggX9_isMatedRightly_X2_pairsWith
theorem dX9_isMatedRightly_0 : decode cX9_isMatedRightly 0 = .ok (.aload_n 1, 1) := by decide +kernel
theorem dX9_isMatedRightly_1 : decode cX9_isMatedRightly 1 = .ok (.getfield 396, 3) := by decide +kernel
theorem dX9_isMatedRightly_4 : decode cX9_isMatedRightly 4 = .ok (.iconst (-1), 1) := by decide +kernel
theorem dX9_isMatedRightly_5 : decode cX9_isMatedRightly 5 = .ok (.if_icmp .ne 5, 3) := by decide +kernel
theorem dX9_isMatedRightly_8 : decode cX9_isMatedRightly 8 = .ok (.iconst 1, 1) := by decide +kernel
theorem dX9_isMatedRightly_9 : decode cX9_isMatedRightly 9 = .ok (.ireturn, 1) := by decide +kernel
theorem dX9_isMatedRightly_10 : decode cX9_isMatedRightly 10 = .ok (.aload_n 1, 1) := by decide +kernel
theorem dX9_isMatedRightly_11 : decode cX9_isMatedRightly 11 = .ok (.getfield 396, 3) := by decide +kernel
theorem dX9_isMatedRightly_14 : decode cX9_isMatedRightly 14 = .ok (.ifCond .lt 14, 3) := by decide +kernel
theorem dX9_isMatedRightly_17 : decode cX9_isMatedRightly 17 = .ok (.aload_n 1, 1) := by decide +kernel
theorem dX9_isMatedRightly_18 : decode cX9_isMatedRightly 18 = .ok (.getfield 396, 3) := by decide +kernel
theorem dX9_isMatedRightly_21 : decode cX9_isMatedRightly 21 = .ok (.aload_n 0, 1) := by decide +kernel
theorem dX9_isMatedRightly_22 : decode cX9_isMatedRightly 22 = .ok (.getfield 64, 3) := by decide +kernel
theorem dX9_isMatedRightly_25 : decode cX9_isMatedRightly 25 = .ok (.if_icmp .lt 5, 3) := by decide +kernel
theorem dX9_isMatedRightly_28 : decode cX9_isMatedRightly 28 = .ok (.iconst 0, 1) := by decide +kernel
theorem dX9_isMatedRightly_29 : decode cX9_isMatedRightly 29 = .ok (.ireturn, 1) := by decide +kernel
theorem dX9_isMatedRightly_30 : decode cX9_isMatedRightly 30 = .ok (.aload_n 0, 1) := by decide +kernel
theorem dX9_isMatedRightly_31 : decode cX9_isMatedRightly 31 = .ok (.getfield 11, 3) := by decide +kernel
theorem dX9_isMatedRightly_34 : decode cX9_isMatedRightly 34 = .ok (.aload_n 1, 1) := by decide +kernel
theorem dX9_isMatedRightly_35 : decode cX9_isMatedRightly 35 = .ok (.getfield 396, 3) := by decide +kernel
theorem dX9_isMatedRightly_38 : decode cX9_isMatedRightly 38 = .ok (.aaload, 1) := by decide +kernel
theorem dX9_isMatedRightly_39 : decode cX9_isMatedRightly 39 = .ok (.astore_n 2, 1) := by decide +kernel
theorem dX9_isMatedRightly_40 : decode cX9_isMatedRightly 40 = .ok (.aload_n 1, 1) := by decide +kernel
theorem dX9_isMatedRightly_41 : decode cX9_isMatedRightly 41 = .ok (.aload_n 2, 1) := by decide +kernel
theorem dX9_isMatedRightly_42 : decode cX9_isMatedRightly 42 = .ok (.if_acmp .eq 33, 3) := by decide +kernel
theorem dX9_isMatedRightly_45 : decode cX9_isMatedRightly 45 = .ok (.aload_n 2, 1) := by decide +kernel
theorem dX9_isMatedRightly_46 : decode cX9_isMatedRightly 46 = .ok (.getfield 396, 3) := by decide +kernel
theorem dX9_isMatedRightly_49 : decode cX9_isMatedRightly 49 = .ok (.aload_n 1, 1) := by decide +kernel
theorem dX9_isMatedRightly_50 : decode cX9_isMatedRightly 50 = .ok (.getfield 419, 3) := by decide +kernel
theorem dX9_isMatedRightly_53 : decode cX9_isMatedRightly 53 = .ok (.if_icmp .ne 22, 3) := by decide +kernel
theorem dX9_isMatedRightly_56 : decode cX9_isMatedRightly 56 = .ok (.aload_n 1, 1) := by decide +kernel
theorem dX9_isMatedRightly_57 : decode cX9_isMatedRightly 57 = .ok (.getfield 81, 3) := by decide +kernel
theorem dX9_isMatedRightly_60 : decode cX9_isMatedRightly 60 = .ok (.ifCond .eq 15, 3) := by decide +kernel
theorem dX9_isMatedRightly_63 : decode cX9_isMatedRightly 63 = .ok (.aload_n 1, 1) := by decide +kernel
theorem dX9_isMatedRightly_64 : decode cX9_isMatedRightly 64 = .ok (.aload_n 2, 1) := by decide +kernel
theorem dX9_isMatedRightly_65 : decode cX9_isMatedRightly 65 = .ok (.invokevirtual 115, 3) := by decide +kernel
theorem dX9_isMatedRightly_68 : decode cX9_isMatedRightly 68 = .ok (.ifCond .eq 7, 3) := by decide +kernel
theorem dX9_isMatedRightly_71 : decode cX9_isMatedRightly 71 = .ok (.iconst 1, 1) := by decide +kernel
theorem dX9_isMatedRightly_72 : decode cX9_isMatedRightly 72 = .ok (.goto 4, 3) := by decide +kernel
theorem dX9_isMatedRightly_75 : decode cX9_isMatedRightly 75 = .ok (.iconst 0, 1) := by decide +kernel
theorem dX9_isMatedRightly_76 : decode cX9_isMatedRightly 76 = .ok (.ireturn, 1) := by decide +kernel
set_option maxRecDepth 20000 in
theorem ggX9_rollsAsTold_X6_take : GoodIn wsX9_rollsAsTold wsX6_take := goodIn_ca (goodIn_ca (goodIn_r _ [6, 7, 8, 9, 10, 11, 12, 13, 14, 15, 16, 17, 18, 19, 20, 21, 22, 23, 24, 25, 26, 5, 27, 70, 71, 72, 73, 74, 75, 76, 77] (by decide +kernel) (by decide +kernel)) (goodIn_sub (fun _ h => List.mem_cons_of_mem _ (List.mem_append_left _ (List.mem_append_right _ h))) (by decide +kernel))) (goodIn_sub (fun _ h => List.mem_cons_of_mem _ (List.mem_append_right _ h)) (by decide +kernel))
set_option maxRecDepth 20000 in
theorem gX9_rollsAsTold_X6_take : GoodIn wsX9_rollsAsTold (wsV RX9 365 RX6 yX6_take wsX6_take) := goodIn_app (goodIn_of _ (by decide +kernel)) ggX9_rollsAsTold_X6_take
set_option maxRecDepth 20000 in
theorem ggX9_rollsAsTold_X6_quietStart : GoodIn wsX9_rollsAsTold wsX6_quietStart := goodIn_ca (goodIn_r _ [31, 15, 32, 33, 34, 5, 35, 36, 37, 16, 18, 12, 13, 10, 14, 17, 19, 8, 9, 11, 38, 39, 40, 41, 73, 74, 75, 76, 77] (by decide +kernel) (by decide +kernel)) (goodIn_sub (fun _ h => List.mem_cons_of_mem _ (List.mem_append_right _ h)) (by decide +kernel))
set_option maxRecDepth 20000 in
theorem gX9_rollsAsTold_X6_quietStart : GoodIn wsX9_rollsAsTold (wsV RX9 372 RX6 yX6_quietStart wsX6_quietStart) := goodIn_app (goodIn_of _ (by decide +kernel)) ggX9_rollsAsTold_X6_quietStart
set_option maxRecDepth 20000 in
theorem ggX9_rollsAsTold_X9_isAsRolled : GoodIn wsX9_rollsAsTold wsX9_isAsRolled := goodIn_ca (goodIn_ca (goodIn_r _ [45, 1, 46, 47, 33, 34, 5, 35, 36, 37, 15, 16, 18, 12, 13, 10, 14, 17, 19, 8, 9, 11, 38, 39, 40, 41, 48, 49, 21, 50, 51, 52, 53, 23, 54, 55, 56, 57, 58, 20, 22, 59, 60, 61, 62, 63, 64, 65, 66, 67, 68, 69, 70, 71, 72, 73, 74, 75, 76, 77] (by decide +kernel) (by decide +kernel)) (goodIn_sub (fun _ h => List.mem_cons_of_mem _ (List.mem_append_right _ h)) (by decide +kernel))) (goodIn_sub (fun _ h => List.mem_cons_of_mem _ (List.mem_append_left _ (List.mem_append_right _ h))) (by decide +kernel))
set_option maxRecDepth 20000 in
theorem gX9_rollsAsTold_X9_isAsRolled : GoodIn wsX9_rollsAsTold (wsV RX9 509 RX9 yX9_isAsRolled wsX9_isAsRolled) := goodIn_app (goodIn_of _ (by decide +kernel)) ggX9_rollsAsTold_X9_isAsRolled
theorem dX9_rollsAsTold_0 : decode cX9_rollsAsTold 0 = .ok (.aload_n 0, 1) := by decide +kernel
theorem dX9_rollsAsTold_1 : decode cX9_rollsAsTold 1 = .ok (.getfield 37, 3) := by decide +kernel
theorem dX9_rollsAsTold_4 : decode cX9_rollsAsTold 4 = .ok (.aload_n 1, 1) := by decide +kernel
theorem dX9_rollsAsTold_5 : decode cX9_rollsAsTold 5 = .ok (.aload_n 2, 1) := by decide +kernel
theorem dX9_rollsAsTold_6 : decode cX9_rollsAsTold 6 = .ok (.invokevirtual 365, 3) := by decide +kernel
theorem dX9_rollsAsTold_9 : decode cX9_rollsAsTold 9 = .ok (.aload_n 0, 1) := by decide +kernel
theorem dX9_rollsAsTold_10 : decode cX9_rollsAsTold 10 = .ok (.getfield 37, 3) := by decide +kernel
theorem dX9_rollsAsTold_13 : decode cX9_rollsAsTold 13 = .ok (.invokevirtual 372, 3) := by decide +kernel
theorem dX9_rollsAsTold_16 : decode cX9_rollsAsTold 16 = .ok (.istore_n 3, 1) := by decide +kernel
theorem dX9_rollsAsTold_17 : decode cX9_rollsAsTold 17 = .ok (.aload_n 0, 1) := by decide +kernel
theorem dX9_rollsAsTold_18 : decode cX9_rollsAsTold 18 = .ok (.aload_n 1, 1) := by decide +kernel
theorem dX9_rollsAsTold_19 : decode cX9_rollsAsTold 19 = .ok (.aload_n 2, 1) := by decide +kernel
theorem dX9_rollsAsTold_20 : decode cX9_rollsAsTold 20 = .ok (.iconst 0, 1) := by decide +kernel
theorem dX9_rollsAsTold_21 : decode cX9_rollsAsTold 21 = .ok (.invokevirtual 509, 3) := by decide +kernel
theorem dX9_rollsAsTold_24 : decode cX9_rollsAsTold 24 = .ok (.ifCond .eq 21, 3) := by decide +kernel
theorem dX9_rollsAsTold_27 : decode cX9_rollsAsTold 27 = .ok (.iload_n 3, 1) := by decide +kernel
theorem dX9_rollsAsTold_28 : decode cX9_rollsAsTold 28 = .ok (.ifCond .eq 13, 3) := by decide +kernel
theorem dX9_rollsAsTold_31 : decode cX9_rollsAsTold 31 = .ok (.aload_n 0, 1) := by decide +kernel
theorem dX9_rollsAsTold_32 : decode cX9_rollsAsTold 32 = .ok (.aload_n 1, 1) := by decide +kernel
theorem dX9_rollsAsTold_33 : decode cX9_rollsAsTold 33 = .ok (.aload_n 2, 1) := by decide +kernel
theorem dX9_rollsAsTold_34 : decode cX9_rollsAsTold 34 = .ok (.iload_n 3, 1) := by decide +kernel
theorem dX9_rollsAsTold_35 : decode cX9_rollsAsTold 35 = .ok (.invokevirtual 509, 3) := by decide +kernel
theorem dX9_rollsAsTold_38 : decode cX9_rollsAsTold 38 = .ok (.ifCond .eq 7, 3) := by decide +kernel
theorem dX9_rollsAsTold_41 : decode cX9_rollsAsTold 41 = .ok (.iconst 1, 1) := by decide +kernel
theorem dX9_rollsAsTold_42 : decode cX9_rollsAsTold 42 = .ok (.goto 4, 3) := by decide +kernel
theorem dX9_rollsAsTold_45 : decode cX9_rollsAsTold 45 = .ok (.iconst 0, 1) := by decide +kernel
theorem dX9_rollsAsTold_46 : decode cX9_rollsAsTold 46 = .ok (.ireturn, 1) := by decide +kernel
set_option maxRecDepth 20000 in
theorem ggX9_isAsRolled_X6_peakFrom : GoodIn wsX9_isAsRolled wsX6_peakFrom := goodIn_ca (goodIn_r _ [7, 8, 9, 10, 11, 12, 13, 14, 15, 16, 17, 18, 19, 20, 21, 22, 23, 24, 25, 55, 56, 57, 58, 59] (by decide +kernel) (by decide +kernel)) (goodIn_sub (fun _ h => List.mem_cons_of_mem _ (List.mem_append_left _ (List.mem_append_right _ h))) (by decide +kernel))
set_option maxRecDepth 20000 in
theorem gX9_isAsRolled_X6_peakFrom : GoodIn wsX9_isAsRolled (wsV RX9 369 RX6 yX6_peakFrom wsX6_peakFrom) := goodIn_app (goodIn_of _ (by decide +kernel)) ggX9_isAsRolled_X6_peakFrom
set_option maxRecDepth 20000 in
theorem ggX9_isAsRolled_X9_rolledPeak : GoodIn wsX9_isAsRolled wsX9_rolledPeak := goodIn_ca (goodIn_ca (goodIn_r _ [29, 30, 31, 32, 33, 14, 15, 16, 34, 20, 21, 35, 36, 28, 37, 38, 39, 40, 52, 53, 54] (by decide +kernel) (by decide +kernel)) (goodIn_sub (fun _ h => List.mem_cons_of_mem _ (List.mem_append_left _ (List.mem_append_right _ h))) (by decide +kernel))) (goodIn_sub (fun _ h => List.mem_cons_of_mem _ (List.mem_append_right _ h)) (by decide +kernel))
set_option maxRecDepth 20000 in
theorem gX9_isAsRolled_X9_rolledPeak : GoodIn wsX9_isAsRolled (va_wsS RX9 513 yX9_rolledPeak wsX9_rolledPeak) := goodIn_app (goodIn_of _ (by decide +kernel)) ggX9_isAsRolled_X9_rolledPeak
theorem dX9_isAsRolled_0 : decode cX9_isAsRolled 0 = .ok (.aload_n 0, 1) := by decide +kernel
theorem dX9_isAsRolled_1 : decode cX9_isAsRolled 1 = .ok (.getfield 37, 3) := by decide +kernel
theorem dX9_isAsRolled_4 : decode cX9_isAsRolled 4 = .ok (.iload_n 3, 1) := by decide +kernel
theorem dX9_isAsRolled_5 : decode cX9_isAsRolled 5 = .ok (.invokevirtual 369, 3) := by decide +kernel
theorem dX9_isAsRolled_8 : decode cX9_isAsRolled 8 = .ok (.istore 4, 2) := by decide +kernel
theorem dX9_isAsRolled_10 : decode cX9_isAsRolled 10 = .ok (.iload 4, 2) := by decide +kernel
theorem dX9_isAsRolled_12 : decode cX9_isAsRolled 12 = .ok (.aload_n 1, 1) := by decide +kernel
theorem dX9_isAsRolled_13 : decode cX9_isAsRolled 13 = .ok (.aload_n 2, 1) := by decide +kernel
theorem dX9_isAsRolled_14 : decode cX9_isAsRolled 14 = .ok (.iload_n 3, 1) := by decide +kernel
theorem dX9_isAsRolled_15 : decode cX9_isAsRolled 15 = .ok (.invokestatic 513, 3) := by decide +kernel
theorem dX9_isAsRolled_18 : decode cX9_isAsRolled 18 = .ok (.if_icmp .ne 23, 3) := by decide +kernel
theorem dX9_isAsRolled_21 : decode cX9_isAsRolled 21 = .ok (.iload 4, 2) := by decide +kernel
theorem dX9_isAsRolled_23 : decode cX9_isAsRolled 23 = .ok (.aload_n 1, 1) := by decide +kernel
theorem dX9_isAsRolled_24 : decode cX9_isAsRolled 24 = .ok (.getfield 348, 3) := by decide +kernel
theorem dX9_isAsRolled_27 : decode cX9_isAsRolled 27 = .ok (.aload_n 2, 1) := by decide +kernel
theorem dX9_isAsRolled_28 : decode cX9_isAsRolled 28 = .ok (.getfield 348, 3) := by decide +kernel
theorem dX9_isAsRolled_31 : decode cX9_isAsRolled 31 = .ok (.iadd, 1) := by decide +kernel
theorem dX9_isAsRolled_32 : decode cX9_isAsRolled 32 = .ok (.iconst 2, 1) := by decide +kernel
theorem dX9_isAsRolled_33 : decode cX9_isAsRolled 33 = .ok (.iadd, 1) := by decide +kernel
theorem dX9_isAsRolled_34 : decode cX9_isAsRolled 34 = .ok (.if_icmp .gt 7, 3) := by decide +kernel
theorem dX9_isAsRolled_37 : decode cX9_isAsRolled 37 = .ok (.iconst 1, 1) := by decide +kernel
theorem dX9_isAsRolled_38 : decode cX9_isAsRolled 38 = .ok (.goto 4, 3) := by decide +kernel
theorem dX9_isAsRolled_41 : decode cX9_isAsRolled 41 = .ok (.iconst 0, 1) := by decide +kernel
theorem dX9_isAsRolled_42 : decode cX9_isAsRolled 42 = .ok (.ireturn, 1) := by decide +kernel
set_option maxRecDepth 20000 in
theorem ggX9_rolledPeak_X9_commonMultiple : GoodIn wsX9_rolledPeak wsX9_commonMultiple := goodIn_ca (goodIn_r _ [14, 15, 16, 13, 17, 4, 5, 6, 7] (by decide +kernel) (by decide +kernel)) (goodIn_sub (fun _ h => List.mem_cons_of_mem _ (List.mem_append_right _ h)) (by decide +kernel))
set_option maxRecDepth 20000 in
theorem gX9_rolledPeak_X9_commonMultiple : GoodIn wsX9_rolledPeak (va_wsS RX9 305 yX9_commonMultiple wsX9_commonMultiple) := goodIn_app (goodIn_of _ (by decide +kernel)) ggX9_rolledPeak_X9_commonMultiple
theorem dX9_rolledPeak_0 : decode cX9_rolledPeak 0 = .ok (.aload_n 0, 1) := by decide +kernel
theorem dX9_rolledPeak_1 : decode cX9_rolledPeak 1 = .ok (.getfield 517, 3) := by decide +kernel
theorem dX9_rolledPeak_4 : decode cX9_rolledPeak 4 = .ok (.astore_n 3, 1) := by decide +kernel
theorem dX9_rolledPeak_5 : decode cX9_rolledPeak 5 = .ok (.aload_n 1, 1) := by decide +kernel
theorem dX9_rolledPeak_6 : decode cX9_rolledPeak 6 = .ok (.getfield 517, 3) := by decide +kernel
theorem dX9_rolledPeak_9 : decode cX9_rolledPeak 9 = .ok (.astore 4, 2) := by decide +kernel
theorem dX9_rolledPeak_11 : decode cX9_rolledPeak 11 = .ok (.ldc_w 520, 3) := by decide +kernel
theorem dX9_rolledPeak_14 : decode cX9_rolledPeak 14 = .ok (.istore 5, 2) := by decide +kernel
theorem dX9_rolledPeak_16 : decode cX9_rolledPeak 16 = .ok (.ldc_w 304, 3) := by decide +kernel
theorem dX9_rolledPeak_19 : decode cX9_rolledPeak 19 = .ok (.istore 6, 2) := by decide +kernel
theorem dX9_rolledPeak_21 : decode cX9_rolledPeak 21 = .ok (.aload_n 3, 1) := by decide +kernel
theorem dX9_rolledPeak_22 : decode cX9_rolledPeak 22 = .ok (.arraylength, 1) := by decide +kernel
theorem dX9_rolledPeak_23 : decode cX9_rolledPeak 23 = .ok (.aload 4, 2) := by decide +kernel
theorem dX9_rolledPeak_25 : decode cX9_rolledPeak 25 = .ok (.arraylength, 1) := by decide +kernel
theorem dX9_rolledPeak_26 : decode cX9_rolledPeak 26 = .ok (.invokestatic 305, 3) := by decide +kernel
theorem dX9_rolledPeak_29 : decode cX9_rolledPeak 29 = .ok (.istore 7, 2) := by decide +kernel
theorem dX9_rolledPeak_31 : decode cX9_rolledPeak 31 = .ok (.iconst 0, 1) := by decide +kernel
theorem dX9_rolledPeak_32 : decode cX9_rolledPeak 32 = .ok (.istore 8, 2) := by decide +kernel
theorem dX9_rolledPeak_34 : decode cX9_rolledPeak 34 = .ok (.iload_n 2, 1) := by decide +kernel
theorem dX9_rolledPeak_35 : decode cX9_rolledPeak 35 = .ok (.istore 9, 2) := by decide +kernel
theorem dX9_rolledPeak_37 : decode cX9_rolledPeak 37 = .ok (.iconst 0, 1) := by decide +kernel
theorem dX9_rolledPeak_38 : decode cX9_rolledPeak 38 = .ok (.istore 10, 2) := by decide +kernel
theorem dX9_rolledPeak_40 : decode cX9_rolledPeak 40 = .ok (.iload 10, 2) := by decide +kernel
theorem dX9_rolledPeak_42 : decode cX9_rolledPeak 42 = .ok (.iload 7, 2) := by decide +kernel
theorem dX9_rolledPeak_44 : decode cX9_rolledPeak 44 = .ok (.if_icmp .ge 98, 3) := by decide +kernel
theorem dX9_rolledPeak_47 : decode cX9_rolledPeak 47 = .ok (.iload 8, 2) := by decide +kernel
theorem dX9_rolledPeak_49 : decode cX9_rolledPeak 49 = .ok (.aload_n 3, 1) := by decide +kernel
theorem dX9_rolledPeak_50 : decode cX9_rolledPeak 50 = .ok (.arraylength, 1) := by decide +kernel
theorem dX9_rolledPeak_51 : decode cX9_rolledPeak 51 = .ok (.if_icmp .ge 91, 3) := by decide +kernel
theorem dX9_rolledPeak_54 : decode cX9_rolledPeak 54 = .ok (.iload 9, 2) := by decide +kernel
theorem dX9_rolledPeak_56 : decode cX9_rolledPeak 56 = .ok (.ifCond .lt 86, 3) := by decide +kernel
theorem dX9_rolledPeak_59 : decode cX9_rolledPeak 59 = .ok (.iload 9, 2) := by decide +kernel
theorem dX9_rolledPeak_61 : decode cX9_rolledPeak 61 = .ok (.aload 4, 2) := by decide +kernel
theorem dX9_rolledPeak_63 : decode cX9_rolledPeak 63 = .ok (.arraylength, 1) := by decide +kernel
theorem dX9_rolledPeak_64 : decode cX9_rolledPeak 64 = .ok (.if_icmp .ge 78, 3) := by decide +kernel
theorem dX9_rolledPeak_67 : decode cX9_rolledPeak 67 = .ok (.aload_n 3, 1) := by decide +kernel
theorem dX9_rolledPeak_68 : decode cX9_rolledPeak 68 = .ok (.iload 8, 2) := by decide +kernel
theorem dX9_rolledPeak_70 : decode cX9_rolledPeak 70 = .ok (.iaload, 1) := by decide +kernel
theorem dX9_rolledPeak_71 : decode cX9_rolledPeak 71 = .ok (.aload 4, 2) := by decide +kernel
theorem dX9_rolledPeak_73 : decode cX9_rolledPeak 73 = .ok (.iload 9, 2) := by decide +kernel
theorem dX9_rolledPeak_75 : decode cX9_rolledPeak 75 = .ok (.iaload, 1) := by decide +kernel
theorem dX9_rolledPeak_76 : decode cX9_rolledPeak 76 = .ok (.iadd, 1) := by decide +kernel
theorem dX9_rolledPeak_77 : decode cX9_rolledPeak 77 = .ok (.istore 11, 2) := by decide +kernel
theorem dX9_rolledPeak_79 : decode cX9_rolledPeak 79 = .ok (.iload 5, 2) := by decide +kernel
theorem dX9_rolledPeak_81 : decode cX9_rolledPeak 81 = .ok (.iload 11, 2) := by decide +kernel
theorem dX9_rolledPeak_83 : decode cX9_rolledPeak 83 = .ok (.invokestatic 362, 3) := by decide +kernel
theorem dX9_rolledPeak_86 : decode cX9_rolledPeak 86 = .ok (.istore 5, 2) := by decide +kernel
theorem dX9_rolledPeak_88 : decode cX9_rolledPeak 88 = .ok (.iload 6, 2) := by decide +kernel
theorem dX9_rolledPeak_90 : decode cX9_rolledPeak 90 = .ok (.iload 11, 2) := by decide +kernel
theorem dX9_rolledPeak_92 : decode cX9_rolledPeak 92 = .ok (.invokestatic 181, 3) := by decide +kernel
theorem dX9_rolledPeak_95 : decode cX9_rolledPeak 95 = .ok (.istore 6, 2) := by decide +kernel
theorem dX9_rolledPeak_97 : decode cX9_rolledPeak 97 = .ok (.iload 8, 2) := by decide +kernel
theorem dX9_rolledPeak_99 : decode cX9_rolledPeak 99 = .ok (.iconst 1, 1) := by decide +kernel
theorem dX9_rolledPeak_100 : decode cX9_rolledPeak 100 = .ok (.iadd, 1) := by decide +kernel
theorem dX9_rolledPeak_101 : decode cX9_rolledPeak 101 = .ok (.aload_n 3, 1) := by decide +kernel
theorem dX9_rolledPeak_102 : decode cX9_rolledPeak 102 = .ok (.arraylength, 1) := by decide +kernel
theorem dX9_rolledPeak_103 : decode cX9_rolledPeak 103 = .ok (.if_icmp .ge 10, 3) := by decide +kernel
theorem dX9_rolledPeak_106 : decode cX9_rolledPeak 106 = .ok (.iload 8, 2) := by decide +kernel
theorem dX9_rolledPeak_108 : decode cX9_rolledPeak 108 = .ok (.iconst 1, 1) := by decide +kernel
theorem dX9_rolledPeak_109 : decode cX9_rolledPeak 109 = .ok (.iadd, 1) := by decide +kernel
theorem dX9_rolledPeak_110 : decode cX9_rolledPeak 110 = .ok (.goto 4, 3) := by decide +kernel
theorem dX9_rolledPeak_113 : decode cX9_rolledPeak 113 = .ok (.iconst 0, 1) := by decide +kernel
theorem dX9_rolledPeak_114 : decode cX9_rolledPeak 114 = .ok (.istore 8, 2) := by decide +kernel
theorem dX9_rolledPeak_116 : decode cX9_rolledPeak 116 = .ok (.iload 9, 2) := by decide +kernel
theorem dX9_rolledPeak_118 : decode cX9_rolledPeak 118 = .ok (.iconst 1, 1) := by decide +kernel
theorem dX9_rolledPeak_119 : decode cX9_rolledPeak 119 = .ok (.iadd, 1) := by decide +kernel
theorem dX9_rolledPeak_120 : decode cX9_rolledPeak 120 = .ok (.aload 4, 2) := by decide +kernel
theorem dX9_rolledPeak_122 : decode cX9_rolledPeak 122 = .ok (.arraylength, 1) := by decide +kernel
theorem dX9_rolledPeak_123 : decode cX9_rolledPeak 123 = .ok (.if_icmp .ge 10, 3) := by decide +kernel
theorem dX9_rolledPeak_126 : decode cX9_rolledPeak 126 = .ok (.iload 9, 2) := by decide +kernel
theorem dX9_rolledPeak_128 : decode cX9_rolledPeak 128 = .ok (.iconst 1, 1) := by decide +kernel
theorem dX9_rolledPeak_129 : decode cX9_rolledPeak 129 = .ok (.iadd, 1) := by decide +kernel
theorem dX9_rolledPeak_130 : decode cX9_rolledPeak 130 = .ok (.goto 4, 3) := by decide +kernel
theorem dX9_rolledPeak_133 : decode cX9_rolledPeak 133 = .ok (.iconst 0, 1) := by decide +kernel
theorem dX9_rolledPeak_134 : decode cX9_rolledPeak 134 = .ok (.istore 9, 2) := by decide +kernel
theorem dX9_rolledPeak_136 : decode cX9_rolledPeak 136 = .ok (.iinc 10 1, 3) := by decide +kernel
theorem dX9_rolledPeak_139 : decode cX9_rolledPeak 139 = .ok (.goto (-99), 3) := by decide +kernel
theorem dX9_rolledPeak_142 : decode cX9_rolledPeak 142 = .ok (.iload 5, 2) := by decide +kernel
theorem dX9_rolledPeak_144 : decode cX9_rolledPeak 144 = .ok (.iload 6, 2) := by decide +kernel
theorem dX9_rolledPeak_146 : decode cX9_rolledPeak 146 = .ok (.isub, 1) := by decide +kernel
theorem dX9_rolledPeak_147 : decode cX9_rolledPeak 147 = .ok (.ireturn, 1) := by decide +kernel
theorem dX9_gearAt_0 : decode cX9_gearAt 0 = .ok (.iload_n 1, 1) := by decide +kernel
theorem dX9_gearAt_1 : decode cX9_gearAt 1 = .ok (.ifCond .lt 11, 3) := by decide +kernel
theorem dX9_gearAt_4 : decode cX9_gearAt 4 = .ok (.iload_n 1, 1) := by decide +kernel
theorem dX9_gearAt_5 : decode cX9_gearAt 5 = .ok (.aload_n 0, 1) := by decide +kernel
theorem dX9_gearAt_6 : decode cX9_gearAt 6 = .ok (.getfield 64, 3) := by decide +kernel
theorem dX9_gearAt_9 : decode cX9_gearAt 9 = .ok (.if_icmp .lt 14, 3) := by decide +kernel
theorem dX9_gearAt_12 : decode cX9_gearAt 12 = .ok (.new 293, 3) := by decide +kernel
theorem dX9_gearAt_15 : decode cX9_gearAt 15 = .ok (.dup, 1) := by decide +kernel
theorem dX9_gearAt_16 : decode cX9_gearAt 16 = .ok (.ldc_w 521, 3) := by decide +kernel
theorem dX9_gearAt_19 : decode cX9_gearAt 19 = .ok (.invokespecial 297, 3) := by decide +kernel
theorem dX9_gearAt_22 : decode cX9_gearAt 22 = .ok (.athrow, 1) := by decide +kernel
theorem dX9_gearAt_23 : decode cX9_gearAt 23 = .ok (.aload_n 0, 1) := by decide +kernel
theorem dX9_gearAt_24 : decode cX9_gearAt 24 = .ok (.getfield 11, 3) := by decide +kernel
theorem dX9_gearAt_27 : decode cX9_gearAt 27 = .ok (.iload_n 1, 1) := by decide +kernel
theorem dX9_gearAt_28 : decode cX9_gearAt 28 = .ok (.aaload, 1) := by decide +kernel
theorem dX9_gearAt_29 : decode cX9_gearAt 29 = .ok (.areturn, 1) := by decide +kernel
theorem dX9_hobAt_0 : decode cX9_hobAt 0 = .ok (.iload_n 1, 1) := by decide +kernel
theorem dX9_hobAt_1 : decode cX9_hobAt 1 = .ok (.ifCond .lt 11, 3) := by decide +kernel
theorem dX9_hobAt_4 : decode cX9_hobAt 4 = .ok (.iload_n 1, 1) := by decide +kernel
theorem dX9_hobAt_5 : decode cX9_hobAt 5 = .ok (.aload_n 0, 1) := by decide +kernel
theorem dX9_hobAt_6 : decode cX9_hobAt 6 = .ok (.getfield 249, 3) := by decide +kernel
theorem dX9_hobAt_9 : decode cX9_hobAt 9 = .ok (.if_icmp .lt 14, 3) := by decide +kernel
theorem dX9_hobAt_12 : decode cX9_hobAt 12 = .ok (.new 293, 3) := by decide +kernel
theorem dX9_hobAt_15 : decode cX9_hobAt 15 = .ok (.dup, 1) := by decide +kernel
theorem dX9_hobAt_16 : decode cX9_hobAt 16 = .ok (.ldc_w 523, 3) := by decide +kernel
theorem dX9_hobAt_19 : decode cX9_hobAt 19 = .ok (.invokespecial 297, 3) := by decide +kernel
theorem dX9_hobAt_22 : decode cX9_hobAt 22 = .ok (.athrow, 1) := by decide +kernel
theorem dX9_hobAt_23 : decode cX9_hobAt 23 = .ok (.aload_n 0, 1) := by decide +kernel
theorem dX9_hobAt_24 : decode cX9_hobAt 24 = .ok (.getfield 17, 3) := by decide +kernel
theorem dX9_hobAt_27 : decode cX9_hobAt 27 = .ok (.iload_n 1, 1) := by decide +kernel
theorem dX9_hobAt_28 : decode cX9_hobAt 28 = .ok (.aaload, 1) := by decide +kernel
theorem dX9_hobAt_29 : decode cX9_hobAt 29 = .ok (.areturn, 1) := by decide +kernel
theorem dX9_needRange_0 : decode cX9_needRange 0 = .ok (.iload_n 0, 1) := by decide +kernel
theorem dX9_needRange_1 : decode cX9_needRange 1 = .ok (.iload_n 1, 1) := by decide +kernel
theorem dX9_needRange_2 : decode cX9_needRange 2 = .ok (.if_icmp .lt 8, 3) := by decide +kernel
theorem dX9_needRange_5 : decode cX9_needRange 5 = .ok (.iload_n 0, 1) := by decide +kernel
theorem dX9_needRange_6 : decode cX9_needRange 6 = .ok (.iload_n 2, 1) := by decide +kernel
theorem dX9_needRange_7 : decode cX9_needRange 7 = .ok (.if_icmp .le 14, 3) := by decide +kernel
theorem dX9_needRange_10 : decode cX9_needRange 10 = .ok (.new 110, 3) := by decide +kernel
theorem dX9_needRange_13 : decode cX9_needRange 13 = .ok (.dup, 1) := by decide +kernel
theorem dX9_needRange_14 : decode cX9_needRange 14 = .ok (.ldc_w 525, 3) := by decide +kernel
theorem dX9_needRange_17 : decode cX9_needRange 17 = .ok (.invokespecial 114, 3) := by decide +kernel
theorem dX9_needRange_20 : decode cX9_needRange 20 = .ok (.athrow, 1) := by decide +kernel
theorem dX9_needRange_21 : decode cX9_needRange 21 = .ok (.return_, 1) := by decide +kernel
set_option maxRecDepth 20000 in
theorem ggX9_needTeeth_X9_needRange : GoodIn wsX9_needTeeth wsX9_needRange := goodIn_ca (goodIn_r _ [4, 5, 6] (by decide +kernel) (by decide +kernel)) (goodIn_sub (fun _ h => List.mem_cons_of_mem _ (List.mem_append_right _ h)) (by decide +kernel))
set_option maxRecDepth 20000 in
theorem gX9_needTeeth_X9_needRange : GoodIn wsX9_needTeeth (va_wsS RX9 59 yX9_needRange wsX9_needRange) := goodIn_app (goodIn_of _ (by decide +kernel)) ggX9_needTeeth_X9_needRange
theorem dX9_needTeeth_0 : decode cX9_needTeeth 0 = .ok (.iload_n 0, 1) := by decide +kernel
theorem dX9_needTeeth_1 : decode cX9_needTeeth 1 = .ok (.bipush 6, 2) := by decide +kernel
theorem dX9_needTeeth_3 : decode cX9_needTeeth 3 = .ok (.sipush 200, 3) := by decide +kernel
theorem dX9_needTeeth_6 : decode cX9_needTeeth 6 = .ok (.invokestatic 59, 3) := by decide +kernel
theorem dX9_needTeeth_9 : decode cX9_needTeeth 9 = .ok (.return_, 1) := by decide +kernel
set_option maxRecDepth 20000 in
theorem ggX9_needRatio_X9_needRange : GoodIn wsX9_needRatio wsX9_needRange := goodIn_ca (goodIn_r _ [4, 5, 6] (by decide +kernel) (by decide +kernel)) (goodIn_sub (fun _ h => List.mem_cons_of_mem _ (List.mem_append_right _ h)) (by decide +kernel))
set_option maxRecDepth 20000 in
theorem gX9_needRatio_X9_needRange : GoodIn wsX9_needRatio (va_wsS RX9 59 yX9_needRange wsX9_needRange) := goodIn_app (goodIn_of _ (by decide +kernel)) ggX9_needRatio_X9_needRange
theorem dX9_needRatio_0 : decode cX9_needRatio 0 = .ok (.iload_n 0, 1) := by decide +kernel
theorem dX9_needRatio_1 : decode cX9_needRatio 1 = .ok (.iconst 1, 1) := by decide +kernel
theorem dX9_needRatio_2 : decode cX9_needRatio 2 = .ok (.sipush 9999, 3) := by decide +kernel
theorem dX9_needRatio_5 : decode cX9_needRatio 5 = .ok (.invokestatic 59, 3) := by decide +kernel
theorem dX9_needRatio_8 : decode cX9_needRatio 8 = .ok (.iload_n 1, 1) := by decide +kernel
theorem dX9_needRatio_9 : decode cX9_needRatio 9 = .ok (.iconst 1, 1) := by decide +kernel
theorem dX9_needRatio_10 : decode cX9_needRatio 10 = .ok (.sipush 9999, 3) := by decide +kernel
theorem dX9_needRatio_13 : decode cX9_needRatio 13 = .ok (.invokestatic 59, 3) := by decide +kernel
theorem dX9_needRatio_16 : decode cX9_needRatio 16 = .ok (.return_, 1) := by decide +kernel
theorem dX9_needKind_0 : decode cX9_needKind 0 = .ok (.iload_n 0, 1) := by decide +kernel
theorem dX9_needKind_1 : decode cX9_needKind 1 = .ok (.bipush 104, 2) := by decide +kernel
theorem dX9_needKind_3 : decode cX9_needKind 3 = .ok (.if_icmp .eq 32, 3) := by decide +kernel
theorem dX9_needKind_6 : decode cX9_needKind 6 = .ok (.iload_n 0, 1) := by decide +kernel
theorem dX9_needKind_7 : decode cX9_needKind 7 = .ok (.bipush 102, 2) := by decide +kernel
theorem dX9_needKind_9 : decode cX9_needKind 9 = .ok (.if_icmp .eq 26, 3) := by decide +kernel
theorem dX9_needKind_12 : decode cX9_needKind 12 = .ok (.iload_n 0, 1) := by decide +kernel
theorem dX9_needKind_13 : decode cX9_needKind 13 = .ok (.bipush 103, 2) := by decide +kernel
theorem dX9_needKind_15 : decode cX9_needKind 15 = .ok (.if_icmp .eq 20, 3) := by decide +kernel
theorem dX9_needKind_18 : decode cX9_needKind 18 = .ok (.iload_n 0, 1) := by decide +kernel
theorem dX9_needKind_19 : decode cX9_needKind 19 = .ok (.bipush 99, 2) := by decide +kernel
theorem dX9_needKind_21 : decode cX9_needKind 21 = .ok (.if_icmp .eq 14, 3) := by decide +kernel
theorem dX9_needKind_24 : decode cX9_needKind 24 = .ok (.new 110, 3) := by decide +kernel
theorem dX9_needKind_27 : decode cX9_needKind 27 = .ok (.dup, 1) := by decide +kernel
theorem dX9_needKind_28 : decode cX9_needKind 28 = .ok (.ldc_w 527, 3) := by decide +kernel
theorem dX9_needKind_31 : decode cX9_needKind 31 = .ok (.invokespecial 114, 3) := by decide +kernel
theorem dX9_needKind_34 : decode cX9_needKind 34 = .ok (.athrow, 1) := by decide +kernel
theorem dX9_needKind_35 : decode cX9_needKind 35 = .ok (.return_, 1) := by decide +kernel
set_option maxRecDepth 20000 in
theorem ggX9_needPair_X2_pairsWith : GoodIn wsX9_needPair wsX2_pairsWith := goodIn_r _ [5, 6, 7, 14, 15, 16, 17, 18, 19, 20, 21, 22, 23, 24, 25, 26, 27, 28, 29, 30, 31, 32, 33] (by decide +kernel) (by decide +kernel)
set_option maxRecDepth 20000 in
theorem gX9_needPair_X2_pairsWith : GoodIn wsX9_needPair (wsV RX9 115 RX2 yX2_pairsWith wsX2_pairsWith) := goodIn_app (goodIn_of _ (by decide +kernel)) ggX9_needPair_X2_pairsWith
set_option maxRecDepth 20000 in
theorem ggX9_needPair_X9_allowOnly : GoodIn wsX9_needPair wsX9_allowOnly := goodIn_ca (goodIn_r _ [11, 12, 13] (by decide +kernel) (by decide +kernel)) (goodIn_sub (fun _ h => List.mem_cons_of_mem _ (List.mem_append_right _ h)) (by decide +kernel))
set_option maxRecDepth 20000 in
theorem gX9_needPair_X9_allowOnly : GoodIn wsX9_needPair (va_wsS RX9 85 yX9_allowOnly wsX9_allowOnly) := goodIn_app (goodIn_of _ (by decide +kernel)) ggX9_needPair_X9_allowOnly
theorem dX9_needPair_0 : decode cX9_needPair 0 = .ok (.aload_n 0, 1) := by decide +kernel
theorem dX9_needPair_1 : decode cX9_needPair 1 = .ok (.aload_n 1, 1) := by decide +kernel
theorem dX9_needPair_2 : decode cX9_needPair 2 = .ok (.if_acmp .eq 15, 3) := by decide +kernel
theorem dX9_needPair_5 : decode cX9_needPair 5 = .ok (.aload_n 0, 1) := by decide +kernel
theorem dX9_needPair_6 : decode cX9_needPair 6 = .ok (.aload_n 1, 1) := by decide +kernel
theorem dX9_needPair_7 : decode cX9_needPair 7 = .ok (.invokevirtual 115, 3) := by decide +kernel
theorem dX9_needPair_10 : decode cX9_needPair 10 = .ok (.ifCond .eq 7, 3) := by decide +kernel
theorem dX9_needPair_13 : decode cX9_needPair 13 = .ok (.iconst 1, 1) := by decide +kernel
theorem dX9_needPair_14 : decode cX9_needPair 14 = .ok (.goto 4, 3) := by decide +kernel
theorem dX9_needPair_17 : decode cX9_needPair 17 = .ok (.iconst 0, 1) := by decide +kernel
theorem dX9_needPair_18 : decode cX9_needPair 18 = .ok (.invokestatic 85, 3) := by decide +kernel
theorem dX9_needPair_21 : decode cX9_needPair 21 = .ok (.return_, 1) := by decide +kernel
theorem dX9_allowOnly_0 : decode cX9_allowOnly 0 = .ok (.iload_n 0, 1) := by decide +kernel
theorem dX9_allowOnly_1 : decode cX9_allowOnly 1 = .ok (.ifCond .ne 14, 3) := by decide +kernel
theorem dX9_allowOnly_4 : decode cX9_allowOnly 4 = .ok (.new 529, 3) := by decide +kernel
theorem dX9_allowOnly_7 : decode cX9_allowOnly 7 = .ok (.dup, 1) := by decide +kernel
theorem dX9_allowOnly_8 : decode cX9_allowOnly 8 = .ok (.ldc_w 531, 3) := by decide +kernel
theorem dX9_allowOnly_11 : decode cX9_allowOnly 11 = .ok (.invokespecial 533, 3) := by decide +kernel
theorem dX9_allowOnly_14 : decode cX9_allowOnly 14 = .ok (.athrow, 1) := by decide +kernel
theorem dX9_allowOnly_15 : decode cX9_allowOnly 15 = .ok (.return_, 1) := by decide +kernel
set_option maxRecDepth 20000 in
theorem ggX9_needFourWheels_X0_hasFour : GoodIn wsX9_needFourWheels wsX0_hasFour := goodIn_r _ [8, 9, 21, 22, 23, 24, 25, 26, 27] (by decide +kernel) (by decide +kernel)
set_option maxRecDepth 20000 in
theorem gX9_needFourWheels_X0_hasFour : GoodIn wsX9_needFourWheels (wsV RX9 534 RX0 yX0_hasFour wsX0_hasFour) := goodIn_app (goodIn_of _ (by decide +kernel)) ggX9_needFourWheels_X0_hasFour
theorem dX9_needFourWheels_0 : decode cX9_needFourWheels 0 = .ok (.aload_n 0, 1) := by decide +kernel
theorem dX9_needFourWheels_1 : decode cX9_needFourWheels 1 = .ok (.getfield 30, 3) := by decide +kernel
theorem dX9_needFourWheels_4 : decode cX9_needFourWheels 4 = .ok (.invokevirtual 534, 3) := by decide +kernel
theorem dX9_needFourWheels_7 : decode cX9_needFourWheels 7 = .ok (.ifCond .ne 14, 3) := by decide +kernel
theorem dX9_needFourWheels_10 : decode cX9_needFourWheels 10 = .ok (.new 150, 3) := by decide +kernel
theorem dX9_needFourWheels_13 : decode cX9_needFourWheels 13 = .ok (.dup, 1) := by decide +kernel
theorem dX9_needFourWheels_14 : decode cX9_needFourWheels 14 = .ok (.ldc_w 537, 3) := by decide +kernel
theorem dX9_needFourWheels_17 : decode cX9_needFourWheels 17 = .ok (.invokespecial 154, 3) := by decide +kernel
theorem dX9_needFourWheels_20 : decode cX9_needFourWheels 20 = .ok (.athrow, 1) := by decide +kernel
theorem dX9_needFourWheels_21 : decode cX9_needFourWheels 21 = .ok (.return_, 1) := by decide +kernel
theorem dX9_needAnyGear_0 : decode cX9_needAnyGear 0 = .ok (.aload_n 0, 1) := by decide +kernel
theorem dX9_needAnyGear_1 : decode cX9_needAnyGear 1 = .ok (.getfield 64, 3) := by decide +kernel
theorem dX9_needAnyGear_4 : decode cX9_needAnyGear 4 = .ok (.ifCond .ne 14, 3) := by decide +kernel
theorem dX9_needAnyGear_7 : decode cX9_needAnyGear 7 = .ok (.new 539, 3) := by decide +kernel
theorem dX9_needAnyGear_10 : decode cX9_needAnyGear 10 = .ok (.dup, 1) := by decide +kernel
theorem dX9_needAnyGear_11 : decode cX9_needAnyGear 11 = .ok (.ldc_w 541, 3) := by decide +kernel
theorem dX9_needAnyGear_14 : decode cX9_needAnyGear 14 = .ok (.invokespecial 543, 3) := by decide +kernel
theorem dX9_needAnyGear_17 : decode cX9_needAnyGear 17 = .ok (.athrow, 1) := by decide +kernel
theorem dX9_needAnyGear_18 : decode cX9_needAnyGear 18 = .ok (.return_, 1) := by decide +kernel
theorem dX9_root_0 : decode cX9_root 0 = .ok (.lconst 0, 1) := by decide +kernel
theorem dX9_root_1 : decode cX9_root 1 = .ok (.lstore_n 2, 1) := by decide +kernel
theorem dX9_root_2 : decode cX9_root 2 = .ok (.bipush 30, 2) := by decide +kernel
theorem dX9_root_4 : decode cX9_root 4 = .ok (.istore 4, 2) := by decide +kernel
theorem dX9_root_6 : decode cX9_root 6 = .ok (.iload 4, 2) := by decide +kernel
theorem dX9_root_8 : decode cX9_root 8 = .ok (.ifCond .lt 30, 3) := by decide +kernel
theorem dX9_root_11 : decode cX9_root 11 = .ok (.lload_n 2, 1) := by decide +kernel
theorem dX9_root_12 : decode cX9_root 12 = .ok (.lconst 1, 1) := by decide +kernel
theorem dX9_root_13 : decode cX9_root 13 = .ok (.iload 4, 2) := by decide +kernel
theorem dX9_root_15 : decode cX9_root 15 = .ok (.lshl, 1) := by decide +kernel
theorem dX9_root_16 : decode cX9_root 16 = .ok (.ladd, 1) := by decide +kernel
theorem dX9_root_17 : decode cX9_root 17 = .ok (.lstore 5, 2) := by decide +kernel
theorem dX9_root_19 : decode cX9_root 19 = .ok (.lload 5, 2) := by decide +kernel
theorem dX9_root_21 : decode cX9_root 21 = .ok (.lload 5, 2) := by decide +kernel
theorem dX9_root_23 : decode cX9_root 23 = .ok (.lmul, 1) := by decide +kernel
theorem dX9_root_24 : decode cX9_root 24 = .ok (.lload_n 0, 1) := by decide +kernel
theorem dX9_root_25 : decode cX9_root 25 = .ok (.lcmp, 1) := by decide +kernel
theorem dX9_root_26 : decode cX9_root 26 = .ok (.ifCond .gt 6, 3) := by decide +kernel
theorem dX9_root_29 : decode cX9_root 29 = .ok (.lload 5, 2) := by decide +kernel
theorem dX9_root_31 : decode cX9_root 31 = .ok (.lstore_n 2, 1) := by decide +kernel
theorem dX9_root_32 : decode cX9_root 32 = .ok (.iinc 4 (-1), 3) := by decide +kernel
theorem dX9_root_35 : decode cX9_root 35 = .ok (.goto (-29), 3) := by decide +kernel
theorem dX9_root_38 : decode cX9_root 38 = .ok (.lload_n 2, 1) := by decide +kernel
theorem dX9_root_39 : decode cX9_root 39 = .ok (.lreturn, 1) := by decide +kernel
theorem dX9_commonDivisor_0 : decode cX9_commonDivisor 0 = .ok (.iload_n 0, 1) := by decide +kernel
theorem dX9_commonDivisor_1 : decode cX9_commonDivisor 1 = .ok (.istore_n 2, 1) := by decide +kernel
theorem dX9_commonDivisor_2 : decode cX9_commonDivisor 2 = .ok (.iload_n 1, 1) := by decide +kernel
theorem dX9_commonDivisor_3 : decode cX9_commonDivisor 3 = .ok (.istore_n 3, 1) := by decide +kernel
theorem dX9_commonDivisor_4 : decode cX9_commonDivisor 4 = .ok (.iconst 0, 1) := by decide +kernel
theorem dX9_commonDivisor_5 : decode cX9_commonDivisor 5 = .ok (.istore 4, 2) := by decide +kernel
theorem dX9_commonDivisor_7 : decode cX9_commonDivisor 7 = .ok (.iload 4, 2) := by decide +kernel
theorem dX9_commonDivisor_9 : decode cX9_commonDivisor 9 = .ok (.bipush 64, 2) := by decide +kernel
theorem dX9_commonDivisor_11 : decode cX9_commonDivisor 11 = .ok (.if_icmp .ge 23, 3) := by decide +kernel
theorem dX9_commonDivisor_14 : decode cX9_commonDivisor 14 = .ok (.iload_n 3, 1) := by decide +kernel
theorem dX9_commonDivisor_15 : decode cX9_commonDivisor 15 = .ok (.ifCond .eq 19, 3) := by decide +kernel
theorem dX9_commonDivisor_18 : decode cX9_commonDivisor 18 = .ok (.iload_n 2, 1) := by decide +kernel
theorem dX9_commonDivisor_19 : decode cX9_commonDivisor 19 = .ok (.iload_n 3, 1) := by decide +kernel
theorem dX9_commonDivisor_20 : decode cX9_commonDivisor 20 = .ok (.irem, 1) := by decide +kernel
theorem dX9_commonDivisor_21 : decode cX9_commonDivisor 21 = .ok (.istore 5, 2) := by decide +kernel
theorem dX9_commonDivisor_23 : decode cX9_commonDivisor 23 = .ok (.iload_n 3, 1) := by decide +kernel
theorem dX9_commonDivisor_24 : decode cX9_commonDivisor 24 = .ok (.istore_n 2, 1) := by decide +kernel
theorem dX9_commonDivisor_25 : decode cX9_commonDivisor 25 = .ok (.iload 5, 2) := by decide +kernel
theorem dX9_commonDivisor_27 : decode cX9_commonDivisor 27 = .ok (.istore_n 3, 1) := by decide +kernel
theorem dX9_commonDivisor_28 : decode cX9_commonDivisor 28 = .ok (.iinc 4 1, 3) := by decide +kernel
theorem dX9_commonDivisor_31 : decode cX9_commonDivisor 31 = .ok (.goto (-24), 3) := by decide +kernel
theorem dX9_commonDivisor_34 : decode cX9_commonDivisor 34 = .ok (.iload_n 2, 1) := by decide +kernel
theorem dX9_commonDivisor_35 : decode cX9_commonDivisor 35 = .ok (.iconst 1, 1) := by decide +kernel
theorem dX9_commonDivisor_36 : decode cX9_commonDivisor 36 = .ok (.invokestatic 362, 3) := by decide +kernel
theorem dX9_commonDivisor_39 : decode cX9_commonDivisor 39 = .ok (.ireturn, 1) := by decide +kernel
set_option maxRecDepth 20000 in
theorem ggX9_commonMultiple_X9_commonDivisor : GoodIn wsX9_commonMultiple wsX9_commonDivisor := goodIn_ca (goodIn_r _ [4, 5, 6, 7, 8] (by decide +kernel) (by decide +kernel)) (goodIn_sub (fun _ h => List.mem_cons_of_mem _ (List.mem_append_right _ h)) (by decide +kernel))
set_option maxRecDepth 20000 in
theorem gX9_commonMultiple_X9_commonDivisor : GoodIn wsX9_commonMultiple (va_wsS RX9 359 yX9_commonDivisor wsX9_commonDivisor) := goodIn_app (goodIn_of _ (by decide +kernel)) ggX9_commonMultiple_X9_commonDivisor
theorem dX9_commonMultiple_0 : decode cX9_commonMultiple 0 = .ok (.iload_n 0, 1) := by decide +kernel
theorem dX9_commonMultiple_1 : decode cX9_commonMultiple 1 = .ok (.iload_n 0, 1) := by decide +kernel
theorem dX9_commonMultiple_2 : decode cX9_commonMultiple 2 = .ok (.iload_n 1, 1) := by decide +kernel
theorem dX9_commonMultiple_3 : decode cX9_commonMultiple 3 = .ok (.invokestatic 359, 3) := by decide +kernel
theorem dX9_commonMultiple_6 : decode cX9_commonMultiple 6 = .ok (.idiv, 1) := by decide +kernel
theorem dX9_commonMultiple_7 : decode cX9_commonMultiple 7 = .ok (.iload_n 1, 1) := by decide +kernel
theorem dX9_commonMultiple_8 : decode cX9_commonMultiple 8 = .ok (.imul, 1) := by decide +kernel
theorem dX9_commonMultiple_9 : decode cX9_commonMultiple 9 = .ok (.ireturn, 1) := by decide +kernel
theorem dX9_gradeOf_0 : decode cX9_gradeOf 0 = .ok (.iconst 0, 1) := by decide +kernel
theorem dX9_gradeOf_1 : decode cX9_gradeOf 1 = .ok (.istore_n 1, 1) := by decide +kernel
theorem dX9_gradeOf_2 : decode cX9_gradeOf 2 = .ok (.iload_n 1, 1) := by decide +kernel
theorem dX9_gradeOf_3 : decode cX9_gradeOf 3 = .ok (.getstatic 544, 3) := by decide +kernel
theorem dX9_gradeOf_6 : decode cX9_gradeOf 6 = .ok (.arraylength, 1) := by decide +kernel
theorem dX9_gradeOf_7 : decode cX9_gradeOf 7 = .ok (.if_icmp .ge 18, 3) := by decide +kernel
theorem dX9_gradeOf_10 : decode cX9_gradeOf 10 = .ok (.getstatic 544, 3) := by decide +kernel
theorem dX9_gradeOf_13 : decode cX9_gradeOf 13 = .ok (.iload_n 1, 1) := by decide +kernel
theorem dX9_gradeOf_14 : decode cX9_gradeOf 14 = .ok (.iaload, 1) := by decide +kernel
theorem dX9_gradeOf_15 : decode cX9_gradeOf 15 = .ok (.iload_n 0, 1) := by decide +kernel
theorem dX9_gradeOf_16 : decode cX9_gradeOf 16 = .ok (.if_icmp .ge 9, 3) := by decide +kernel
theorem dX9_gradeOf_19 : decode cX9_gradeOf 19 = .ok (.iinc 1 1, 3) := by decide +kernel
theorem dX9_gradeOf_22 : decode cX9_gradeOf 22 = .ok (.goto (-20), 3) := by decide +kernel
theorem dX9_gradeOf_25 : decode cX9_gradeOf 25 = .ok (.iload_n 1, 1) := by decide +kernel
theorem dX9_gradeOf_26 : decode cX9_gradeOf 26 = .ok (.ireturn, 1) := by decide +kernel
theorem dX10_init_0 : decode cX10_init 0 = .ok (.aload_n 0, 1) := by decide +kernel
theorem dX10_init_1 : decode cX10_init 1 = .ok (.invokespecial 3, 3) := by decide +kernel
theorem dX10_init_4 : decode cX10_init 4 = .ok (.aload_n 0, 1) := by decide +kernel
theorem dX10_init_5 : decode cX10_init 5 = .ok (.sipush 200, 3) := by decide +kernel
theorem dX10_init_8 : decode cX10_init 8 = .ok (.newarray .int, 2) := by decide +kernel
theorem dX10_init_10 : decode cX10_init 10 = .ok (.putfield 9, 3) := by decide +kernel
theorem dX10_init_13 : decode cX10_init 13 = .ok (.aload_n 0, 1) := by decide +kernel
theorem dX10_init_14 : decode cX10_init 14 = .ok (.bipush 8, 2) := by decide +kernel
theorem dX10_init_16 : decode cX10_init 16 = .ok (.newarray .char, 2) := by decide +kernel
theorem dX10_init_18 : decode cX10_init 18 = .ok (.putfield 15, 3) := by decide +kernel
theorem dX10_init_21 : decode cX10_init 21 = .ok (.aload_n 0, 1) := by decide +kernel
theorem dX10_init_22 : decode cX10_init 22 = .ok (.iconst (-1), 1) := by decide +kernel
theorem dX10_init_23 : decode cX10_init 23 = .ok (.putfield 19, 3) := by decide +kernel
theorem dX10_init_26 : decode cX10_init 26 = .ok (.aload_n 0, 1) := by decide +kernel
theorem dX10_init_27 : decode cX10_init 27 = .ok (.iconst (-1), 1) := by decide +kernel
theorem dX10_init_28 : decode cX10_init 28 = .ok (.putfield 23, 3) := by decide +kernel
theorem dX10_init_31 : decode cX10_init 31 = .ok (.aload_n 0, 1) := by decide +kernel
theorem dX10_init_32 : decode cX10_init 32 = .ok (.iload_n 1, 1) := by decide +kernel
theorem dX10_init_33 : decode cX10_init 33 = .ok (.putfield 26, 3) := by decide +kernel
theorem dX10_init_36 : decode cX10_init 36 = .ok (.aload_n 0, 1) := by decide +kernel
theorem dX10_init_37 : decode cX10_init 37 = .ok (.iload_n 2, 1) := by decide +kernel
theorem dX10_init_38 : decode cX10_init 38 = .ok (.putfield 29, 3) := by decide +kernel
theorem dX10_init_41 : decode cX10_init 41 = .ok (.aload_n 0, 1) := by decide +kernel
theorem dX10_init_42 : decode cX10_init 42 = .ok (.iload_n 3, 1) := by decide +kernel
theorem dX10_init_43 : decode cX10_init 43 = .ok (.putfield 32, 3) := by decide +kernel
theorem dX10_init_46 : decode cX10_init 46 = .ok (.aload_n 0, 1) := by decide +kernel
theorem dX10_init_47 : decode cX10_init 47 = .ok (.iload 4, 2) := by decide +kernel
theorem dX10_init_49 : decode cX10_init 49 = .ok (.putfield 35, 3) := by decide +kernel
theorem dX10_init_52 : decode cX10_init 52 = .ok (.aload_n 0, 1) := by decide +kernel
theorem dX10_init_53 : decode cX10_init 53 = .ok (.iload 5, 2) := by decide +kernel
theorem dX10_init_55 : decode cX10_init 55 = .ok (.putfield 38, 3) := by decide +kernel
theorem dX10_init_58 : decode cX10_init 58 = .ok (.return_, 1) := by decide +kernel
theorem dX10_across_0 : decode cX10_across 0 = .ok (.aload_n 0, 1) := by decide +kernel
theorem dX10_across_1 : decode cX10_across 1 = .ok (.getfield 29, 3) := by decide +kernel
theorem dX10_across_4 : decode cX10_across 4 = .ok (.i2l, 1) := by decide +kernel
theorem dX10_across_5 : decode cX10_across 5 = .ok (.aload_n 0, 1) := by decide +kernel
theorem dX10_across_6 : decode cX10_across 6 = .ok (.getfield 32, 3) := by decide +kernel
theorem dX10_across_9 : decode cX10_across 9 = .ok (.i2l, 1) := by decide +kernel
theorem dX10_across_10 : decode cX10_across 10 = .ok (.lmul, 1) := by decide +kernel
theorem dX10_across_11 : decode cX10_across 11 = .ok (.lreturn, 1) := by decide +kernel
set_option maxRecDepth 20000 in
theorem ggX10_tip_X10_across : GoodIn wsX10_tip wsX10_across := goodIn_r _ [8, 9, 2, 10, 11, 12, 13, 14, 15, 16, 17, 18, 19, 20, 21, 22, 23, 24, 25, 26, 27, 28, 29, 30, 31, 32] (by decide +kernel) (by decide +kernel)
set_option maxRecDepth 20000 in
theorem gX10_tip_X10_across : GoodIn wsX10_tip (wsV RX10 41 RX10 yX10_across wsX10_across) := goodIn_app (goodIn_of _ (by decide +kernel)) ggX10_tip_X10_across
theorem dX10_tip_0 : decode cX10_tip 0 = .ok (.aload_n 0, 1) := by decide +kernel
theorem dX10_tip_1 : decode cX10_tip 1 = .ok (.invokevirtual 41, 3) := by decide +kernel
theorem dX10_tip_4 : decode cX10_tip 4 = .ok (.ldc2_w 45, 3) := by decide +kernel
theorem dX10_tip_7 : decode cX10_tip 7 = .ok (.aload_n 0, 1) := by decide +kernel
theorem dX10_tip_8 : decode cX10_tip 8 = .ok (.getfield 32, 3) := by decide +kernel
theorem dX10_tip_11 : decode cX10_tip 11 = .ok (.i2l, 1) := by decide +kernel
theorem dX10_tip_12 : decode cX10_tip 12 = .ok (.lmul, 1) := by decide +kernel
theorem dX10_tip_13 : decode cX10_tip 13 = .ok (.ladd, 1) := by decide +kernel
theorem dX10_tip_14 : decode cX10_tip 14 = .ok (.ldc2_w 45, 3) := by decide +kernel
theorem dX10_tip_17 : decode cX10_tip 17 = .ok (.iload_n 1, 1) := by decide +kernel
theorem dX10_tip_18 : decode cX10_tip 18 = .ok (.i2l, 1) := by decide +kernel
theorem dX10_tip_19 : decode cX10_tip 19 = .ok (.lmul, 1) := by decide +kernel
theorem dX10_tip_20 : decode cX10_tip 20 = .ok (.aload_n 0, 1) := by decide +kernel
theorem dX10_tip_21 : decode cX10_tip 21 = .ok (.getfield 32, 3) := by decide +kernel
theorem dX10_tip_24 : decode cX10_tip 24 = .ok (.i2l, 1) := by decide +kernel
theorem dX10_tip_25 : decode cX10_tip 25 = .ok (.lmul, 1) := by decide +kernel
theorem dX10_tip_26 : decode cX10_tip 26 = .ok (.ldc2_w 47, 3) := by decide +kernel
theorem dX10_tip_29 : decode cX10_tip 29 = .ok (.ldiv, 1) := by decide +kernel
theorem dX10_tip_30 : decode cX10_tip 30 = .ok (.ladd, 1) := by decide +kernel
theorem dX10_tip_31 : decode cX10_tip 31 = .ok (.lreturn, 1) := by decide +kernel
theorem dX10_isUndercut_0 : decode cX10_isUndercut 0 = .ok (.sipush 137, 3) := by decide +kernel
theorem dX10_isUndercut_3 : decode cX10_isUndercut 3 = .ok (.iload_n 1, 1) := by decide +kernel
theorem dX10_isUndercut_4 : decode cX10_isUndercut 4 = .ok (.imul, 1) := by decide +kernel
theorem dX10_isUndercut_5 : decode cX10_isUndercut 5 = .ok (.bipush 100, 2) := by decide +kernel
theorem dX10_isUndercut_7 : decode cX10_isUndercut 7 = .ok (.sipush 137, 3) := by decide +kernel
theorem dX10_isUndercut_10 : decode cX10_isUndercut 10 = .ok (.bipush 8, 2) := by decide +kernel
theorem dX10_isUndercut_12 : decode cX10_isUndercut 12 = .ok (.aload_n 0, 1) := by decide +kernel
theorem dX10_isUndercut_13 : decode cX10_isUndercut 13 = .ok (.getfield 29, 3) := by decide +kernel
theorem dX10_isUndercut_16 : decode cX10_isUndercut 16 = .ok (.imul, 1) := by decide +kernel
theorem dX10_isUndercut_17 : decode cX10_isUndercut 17 = .ok (.isub, 1) := by decide +kernel
theorem dX10_isUndercut_18 : decode cX10_isUndercut 18 = .ok (.imul, 1) := by decide +kernel
theorem dX10_isUndercut_19 : decode cX10_isUndercut 19 = .ok (.if_icmp .ge 7, 3) := by decide +kernel
theorem dX10_isUndercut_22 : decode cX10_isUndercut 22 = .ok (.iconst 1, 1) := by decide +kernel
theorem dX10_isUndercut_23 : decode cX10_isUndercut 23 = .ok (.goto 4, 3) := by decide +kernel
theorem dX10_isUndercut_26 : decode cX10_isUndercut 26 = .ok (.iconst 0, 1) := by decide +kernel
theorem dX10_isUndercut_27 : decode cX10_isUndercut 27 = .ok (.ireturn, 1) := by decide +kernel
theorem dX10_isSharp_0 : decode cX10_isSharp 0 = .ok (.bipush 40, 2) := by decide +kernel
theorem dX10_isSharp_2 : decode cX10_isSharp 2 = .ok (.iload_n 1, 1) := by decide +kernel
theorem dX10_isSharp_3 : decode cX10_isSharp 3 = .ok (.imul, 1) := by decide +kernel
theorem dX10_isSharp_4 : decode cX10_isSharp 4 = .ok (.bipush 100, 2) := by decide +kernel
theorem dX10_isSharp_6 : decode cX10_isSharp 6 = .ok (.aload_n 0, 1) := by decide +kernel
theorem dX10_isSharp_7 : decode cX10_isSharp 7 = .ok (.getfield 29, 3) := by decide +kernel
theorem dX10_isSharp_10 : decode cX10_isSharp 10 = .ok (.bipush 10, 2) := by decide +kernel
theorem dX10_isSharp_12 : decode cX10_isSharp 12 = .ok (.iadd, 1) := by decide +kernel
theorem dX10_isSharp_13 : decode cX10_isSharp 13 = .ok (.imul, 1) := by decide +kernel
theorem dX10_isSharp_14 : decode cX10_isSharp 14 = .ok (.if_icmp .le 7, 3) := by decide +kernel
theorem dX10_isSharp_17 : decode cX10_isSharp 17 = .ok (.iconst 1, 1) := by decide +kernel
theorem dX10_isSharp_18 : decode cX10_isSharp 18 = .ok (.goto 4, 3) := by decide +kernel
theorem dX10_isSharp_21 : decode cX10_isSharp 21 = .ok (.iconst 0, 1) := by decide +kernel
theorem dX10_isSharp_22 : decode cX10_isSharp 22 = .ok (.ireturn, 1) := by decide +kernel
set_option maxRecDepth 20000 in
theorem ggX10_line_X10_tip : GoodIn wsX10_line wsX10_tip := goodIn_r _ [7, 8, 9, 10, 11, 12, 13, 6, 14, 15, 21, 22, 23, 24, 25, 26, 27, 28, 29, 30, 31, 32, 33, 34, 35, 36, 37, 38, 39, 40, 41, 42, 43] (by decide +kernel) (by decide +kernel)
set_option maxRecDepth 20000 in
theorem gX10_line_X10_tip : GoodIn wsX10_line (wsV RX10 51 RX10 yX10_tip wsX10_tip) := goodIn_app (goodIn_of _ (by decide +kernel)) ggX10_line_X10_tip
set_option maxRecDepth 20000 in
theorem ggX10_line_X10_across : GoodIn wsX10_line wsX10_across := goodIn_r _ [14, 15, 9, 21, 22, 23, 24, 25, 26, 27, 28, 29, 30, 31, 32, 33, 34, 35, 36, 37, 38, 39, 40, 41, 42, 43] (by decide +kernel) (by decide +kernel)
set_option maxRecDepth 20000 in
theorem gX10_line_X10_across : GoodIn wsX10_line (wsV RX10 41 RX10 yX10_across wsX10_across) := goodIn_app (goodIn_of _ (by decide +kernel)) ggX10_line_X10_across
set_option maxRecDepth 20000 in
theorem ggX10_line_X12_root : GoodIn wsX10_line wsX12_root := goodIn_r _ [18, 19, 20] (by decide +kernel) (by decide +kernel)
set_option maxRecDepth 20000 in
theorem gX10_line_X12_root_n57 : GoodIn wsX10_line (wsX12_root) := ggX10_line_X12_root
theorem dX10_line_0 : decode cX10_line 0 = .ok (.ldc2_w 49, 3) := by decide +kernel
theorem dX10_line_3 : decode cX10_line 3 = .ok (.aload_n 0, 1) := by decide +kernel
theorem dX10_line_4 : decode cX10_line 4 = .ok (.iload_n 1, 1) := by decide +kernel
theorem dX10_line_5 : decode cX10_line 5 = .ok (.invokevirtual 51, 3) := by decide +kernel
theorem dX10_line_8 : decode cX10_line 8 = .ok (.lmul, 1) := by decide +kernel
theorem dX10_line_9 : decode cX10_line 9 = .ok (.aload_n 0, 1) := by decide +kernel
theorem dX10_line_10 : decode cX10_line 10 = .ok (.iload_n 1, 1) := by decide +kernel
theorem dX10_line_11 : decode cX10_line 11 = .ok (.invokevirtual 51, 3) := by decide +kernel
theorem dX10_line_14 : decode cX10_line 14 = .ok (.lmul, 1) := by decide +kernel
theorem dX10_line_15 : decode cX10_line 15 = .ok (.ldc2_w 55, 3) := by decide +kernel
theorem dX10_line_18 : decode cX10_line 18 = .ok (.aload_n 0, 1) := by decide +kernel
theorem dX10_line_19 : decode cX10_line 19 = .ok (.invokevirtual 41, 3) := by decide +kernel
theorem dX10_line_22 : decode cX10_line 22 = .ok (.lmul, 1) := by decide +kernel
theorem dX10_line_23 : decode cX10_line 23 = .ok (.aload_n 0, 1) := by decide +kernel
theorem dX10_line_24 : decode cX10_line 24 = .ok (.invokevirtual 41, 3) := by decide +kernel
theorem dX10_line_27 : decode cX10_line 27 = .ok (.lmul, 1) := by decide +kernel
theorem dX10_line_28 : decode cX10_line 28 = .ok (.lsub, 1) := by decide +kernel
theorem dX10_line_29 : decode cX10_line 29 = .ok (.ldc2_w 49, 3) := by decide +kernel
theorem dX10_line_32 : decode cX10_line 32 = .ok (.ldiv, 1) := by decide +kernel
theorem dX10_line_33 : decode cX10_line 33 = .ok (.invokestatic 57, 3) := by decide +kernel
theorem dX10_line_36 : decode cX10_line 36 = .ok (.lreturn, 1) := by decide +kernel
set_option maxRecDepth 20000 in
theorem ggX10_way_X10_line : GoodIn wsX10_way wsX10_line := goodIn_r _ [7, 2, 8, 9, 10, 11, 6, 12, 13, 14, 15, 16, 17, 18, 19, 20, 21, 22, 23, 24, 25, 26, 27, 28, 29, 30, 31, 32, 33, 34, 35, 36, 37, 38, 39, 40, 41, 42, 43, 44, 45, 46, 47, 48] (by decide +kernel) (by decide +kernel)
set_option maxRecDepth 20000 in
theorem gX10_way_X10_line : GoodIn wsX10_way (wsV RX10 61 RX10 yX10_line wsX10_line) := goodIn_app (goodIn_of _ (by decide +kernel)) ggX10_way_X10_line
set_option maxRecDepth 20000 in
theorem ggX10_way_X10_across : GoodIn wsX10_way wsX10_across := goodIn_r _ [19, 20, 14, 26, 27, 28, 29, 30, 31, 32, 33, 34, 35, 36, 37, 38, 39, 40, 41, 42, 43, 44, 45, 46, 47, 48] (by decide +kernel) (by decide +kernel)
set_option maxRecDepth 20000 in
theorem gX10_way_X10_across : GoodIn wsX10_way (wsV RX10 41 RX10 yX10_across wsX10_across) := goodIn_app (goodIn_of _ (by decide +kernel)) ggX10_way_X10_across
set_option maxRecDepth 20000 in
theorem ggX10_way_X12_root : GoodIn wsX10_way wsX12_root := goodIn_r _ [23, 24, 25] (by decide +kernel) (by decide +kernel)
set_option maxRecDepth 20000 in
theorem gX10_way_X12_root_n57 : GoodIn wsX10_way (wsX12_root) := ggX10_way_X12_root
theorem dX10_way_0 : decode cX10_way 0 = .ok (.aload_n 0, 1) := by decide +kernel
theorem dX10_way_1 : decode cX10_way 1 = .ok (.iload_n 1, 1) := by decide +kernel
theorem dX10_way_2 : decode cX10_way 2 = .ok (.invokevirtual 61, 3) := by decide +kernel
theorem dX10_way_5 : decode cX10_way 5 = .ok (.ldc2_w 64, 3) := by decide +kernel
theorem dX10_way_8 : decode cX10_way 8 = .ok (.aload_n 0, 1) := by decide +kernel
theorem dX10_way_9 : decode cX10_way 9 = .ok (.invokevirtual 41, 3) := by decide +kernel
theorem dX10_way_12 : decode cX10_way 12 = .ok (.lmul, 1) := by decide +kernel
theorem dX10_way_13 : decode cX10_way 13 = .ok (.aload_n 0, 1) := by decide +kernel
theorem dX10_way_14 : decode cX10_way 14 = .ok (.invokevirtual 41, 3) := by decide +kernel
theorem dX10_way_17 : decode cX10_way 17 = .ok (.lmul, 1) := by decide +kernel
theorem dX10_way_18 : decode cX10_way 18 = .ok (.ldc2_w 49, 3) := by decide +kernel
theorem dX10_way_21 : decode cX10_way 21 = .ok (.ldiv, 1) := by decide +kernel
theorem dX10_way_22 : decode cX10_way 22 = .ok (.invokestatic 57, 3) := by decide +kernel
theorem dX10_way_25 : decode cX10_way 25 = .ok (.lsub, 1) := by decide +kernel
theorem dX10_way_26 : decode cX10_way 26 = .ok (.lreturn, 1) := by decide +kernel
set_option maxRecDepth 20000 in
theorem ggX10_isFine_X10_isUndercut : GoodIn wsX10_isFine wsX10_isUndercut := goodIn_r _ [5, 6, 11, 12, 13, 14, 15, 16, 17, 18, 19, 20, 21, 22, 23, 24, 25, 26, 27, 28, 29, 30, 31, 32, 33] (by decide +kernel) (by decide +kernel)
set_option maxRecDepth 20000 in
theorem gX10_isFine_X10_isUndercut : GoodIn wsX10_isFine (wsV RX10 66 RX10 yX10_isUndercut wsX10_isUndercut) := goodIn_app (goodIn_of _ (by decide +kernel)) ggX10_isFine_X10_isUndercut
set_option maxRecDepth 20000 in
theorem ggX10_isFine_X10_isSharp : GoodIn wsX10_isFine wsX10_isSharp := goodIn_r _ [10, 6, 11, 12, 13, 14, 15, 16, 17, 18, 19, 20, 21, 22, 23, 24, 25, 26, 27, 28, 29, 30, 31, 32, 33] (by decide +kernel) (by decide +kernel)
set_option maxRecDepth 20000 in
theorem gX10_isFine_X10_isSharp : GoodIn wsX10_isFine (wsV RX10 70 RX10 yX10_isSharp wsX10_isSharp) := goodIn_app (goodIn_of _ (by decide +kernel)) ggX10_isFine_X10_isSharp
theorem dX10_isFine_0 : decode cX10_isFine 0 = .ok (.aload_n 0, 1) := by decide +kernel
theorem dX10_isFine_1 : decode cX10_isFine 1 = .ok (.iload_n 1, 1) := by decide +kernel
theorem dX10_isFine_2 : decode cX10_isFine 2 = .ok (.invokevirtual 66, 3) := by decide +kernel
theorem dX10_isFine_5 : decode cX10_isFine 5 = .ok (.ifCond .ne 15, 3) := by decide +kernel
theorem dX10_isFine_8 : decode cX10_isFine 8 = .ok (.aload_n 0, 1) := by decide +kernel
theorem dX10_isFine_9 : decode cX10_isFine 9 = .ok (.iload_n 1, 1) := by decide +kernel
theorem dX10_isFine_10 : decode cX10_isFine 10 = .ok (.invokevirtual 70, 3) := by decide +kernel
theorem dX10_isFine_13 : decode cX10_isFine 13 = .ok (.ifCond .ne 7, 3) := by decide +kernel
theorem dX10_isFine_16 : decode cX10_isFine 16 = .ok (.iconst 1, 1) := by decide +kernel
theorem dX10_isFine_17 : decode cX10_isFine 17 = .ok (.goto 4, 3) := by decide +kernel
theorem dX10_isFine_20 : decode cX10_isFine 20 = .ok (.iconst 0, 1) := by decide +kernel
theorem dX10_isFine_21 : decode cX10_isFine 21 = .ok (.ireturn, 1) := by decide +kernel
theorem dX10_caseLeft_0 : decode cX10_caseLeft 0 = .ok (.aload_n 0, 1) := by decide +kernel
theorem dX10_caseLeft_1 : decode cX10_caseLeft 1 = .ok (.getfield 73, 3) := by decide +kernel
theorem dX10_caseLeft_4 : decode cX10_caseLeft 4 = .ok (.ifCond .eq 19, 3) := by decide +kernel
theorem dX10_caseLeft_7 : decode cX10_caseLeft 7 = .ok (.iconst 0, 1) := by decide +kernel
theorem dX10_caseLeft_8 : decode cX10_caseLeft 8 = .ok (.aload_n 0, 1) := by decide +kernel
theorem dX10_caseLeft_9 : decode cX10_caseLeft 9 = .ok (.getfield 77, 3) := by decide +kernel
theorem dX10_caseLeft_12 : decode cX10_caseLeft 12 = .ok (.aload_n 0, 1) := by decide +kernel
theorem dX10_caseLeft_13 : decode cX10_caseLeft 13 = .ok (.getfield 80, 3) := by decide +kernel
theorem dX10_caseLeft_16 : decode cX10_caseLeft 16 = .ok (.isub, 1) := by decide +kernel
theorem dX10_caseLeft_17 : decode cX10_caseLeft 17 = .ok (.invokestatic 83, 3) := by decide +kernel
theorem dX10_caseLeft_20 : decode cX10_caseLeft 20 = .ok (.goto 4, 3) := by decide +kernel
theorem dX10_caseLeft_23 : decode cX10_caseLeft 23 = .ok (.iconst 0, 1) := by decide +kernel
theorem dX10_caseLeft_24 : decode cX10_caseLeft 24 = .ok (.ireturn, 1) := by decide +kernel
theorem dX10_isBroken_0 : decode cX10_isBroken 0 = .ok (.aload_n 0, 1) := by decide +kernel
theorem dX10_isBroken_1 : decode cX10_isBroken 1 = .ok (.getfield 89, 3) := by decide +kernel
theorem dX10_isBroken_4 : decode cX10_isBroken 4 = .ok (.ldc2_w 93, 3) := by decide +kernel
theorem dX10_isBroken_7 : decode cX10_isBroken 7 = .ok (.lcmp, 1) := by decide +kernel
theorem dX10_isBroken_8 : decode cX10_isBroken 8 = .ok (.ifCond .lt 7, 3) := by decide +kernel
theorem dX10_isBroken_11 : decode cX10_isBroken 11 = .ok (.iconst 1, 1) := by decide +kernel
theorem dX10_isBroken_12 : decode cX10_isBroken 12 = .ok (.goto 4, 3) := by decide +kernel
theorem dX10_isBroken_15 : decode cX10_isBroken 15 = .ok (.iconst 0, 1) := by decide +kernel
theorem dX10_isBroken_16 : decode cX10_isBroken 16 = .ok (.ireturn, 1) := by decide +kernel
set_option maxRecDepth 20000 in
theorem ggX10_isFree_X10_isBroken : GoodIn wsX10_isFree wsX10_isBroken := goodIn_r _ [8, 9, 10, 11, 12, 13, 14, 15, 16, 17, 18, 19, 20, 21, 22, 23, 24, 25, 26, 27, 28, 29, 30, 31, 32, 33] (by decide +kernel) (by decide +kernel)
set_option maxRecDepth 20000 in
theorem gX10_isFree_X10_isBroken : GoodIn wsX10_isFree (wsV RX10 101 RX10 yX10_isBroken wsX10_isBroken) := goodIn_app (goodIn_of _ (by decide +kernel)) ggX10_isFree_X10_isBroken
theorem dX10_isFree_0 : decode cX10_isFree 0 = .ok (.aload_n 0, 1) := by decide +kernel
theorem dX10_isFree_1 : decode cX10_isFree 1 = .ok (.getfield 95, 3) := by decide +kernel
theorem dX10_isFree_4 : decode cX10_isFree 4 = .ok (.ifCond .eq 29, 3) := by decide +kernel
theorem dX10_isFree_7 : decode cX10_isFree 7 = .ok (.aload_n 0, 1) := by decide +kernel
theorem dX10_isFree_8 : decode cX10_isFree 8 = .ok (.getfield 98, 3) := by decide +kernel
theorem dX10_isFree_11 : decode cX10_isFree 11 = .ok (.ifCond .ne 22, 3) := by decide +kernel
theorem dX10_isFree_14 : decode cX10_isFree 14 = .ok (.aload_n 0, 1) := by decide +kernel
theorem dX10_isFree_15 : decode cX10_isFree 15 = .ok (.invokevirtual 101, 3) := by decide +kernel
theorem dX10_isFree_18 : decode cX10_isFree 18 = .ok (.ifCond .ne 15, 3) := by decide +kernel
theorem dX10_isFree_21 : decode cX10_isFree 21 = .ok (.aload_n 0, 1) := by decide +kernel
theorem dX10_isFree_22 : decode cX10_isFree 22 = .ok (.getfield 23, 3) := by decide +kernel
theorem dX10_isFree_25 : decode cX10_isFree 25 = .ok (.iconst (-1), 1) := by decide +kernel
theorem dX10_isFree_26 : decode cX10_isFree 26 = .ok (.if_icmp .ne 7, 3) := by decide +kernel
theorem dX10_isFree_29 : decode cX10_isFree 29 = .ok (.iconst 1, 1) := by decide +kernel
theorem dX10_isFree_30 : decode cX10_isFree 30 = .ok (.goto 4, 3) := by decide +kernel
theorem dX10_isFree_33 : decode cX10_isFree 33 = .ok (.iconst 0, 1) := by decide +kernel
theorem dX10_isFree_34 : decode cX10_isFree 34 = .ok (.ireturn, 1) := by decide +kernel
theorem dX10_greatest_0 : decode cX10_greatest 0 = .ok (.iconst 0, 1) := by decide +kernel
theorem dX10_greatest_1 : decode cX10_greatest 1 = .ok (.istore_n 1, 1) := by decide +kernel
theorem dX10_greatest_2 : decode cX10_greatest 2 = .ok (.iconst 0, 1) := by decide +kernel
theorem dX10_greatest_3 : decode cX10_greatest 3 = .ok (.istore_n 2, 1) := by decide +kernel
theorem dX10_greatest_4 : decode cX10_greatest 4 = .ok (.iload_n 2, 1) := by decide +kernel
theorem dX10_greatest_5 : decode cX10_greatest 5 = .ok (.aload_n 0, 1) := by decide +kernel
theorem dX10_greatest_6 : decode cX10_greatest 6 = .ok (.getfield 29, 3) := by decide +kernel
theorem dX10_greatest_9 : decode cX10_greatest 9 = .ok (.if_icmp .ge 23, 3) := by decide +kernel
theorem dX10_greatest_12 : decode cX10_greatest 12 = .ok (.iload_n 1, 1) := by decide +kernel
theorem dX10_greatest_13 : decode cX10_greatest 13 = .ok (.aload_n 0, 1) := by decide +kernel
theorem dX10_greatest_14 : decode cX10_greatest 14 = .ok (.getfield 9, 3) := by decide +kernel
theorem dX10_greatest_17 : decode cX10_greatest 17 = .ok (.iload_n 2, 1) := by decide +kernel
theorem dX10_greatest_18 : decode cX10_greatest 18 = .ok (.iaload, 1) := by decide +kernel
theorem dX10_greatest_19 : decode cX10_greatest 19 = .ok (.invokestatic 105, 3) := by decide +kernel
theorem dX10_greatest_22 : decode cX10_greatest 22 = .ok (.invokestatic 83, 3) := by decide +kernel
theorem dX10_greatest_25 : decode cX10_greatest 25 = .ok (.istore_n 1, 1) := by decide +kernel
theorem dX10_greatest_26 : decode cX10_greatest 26 = .ok (.iinc 2 1, 3) := by decide +kernel
theorem dX10_greatest_29 : decode cX10_greatest 29 = .ok (.goto (-25), 3) := by decide +kernel
theorem dX10_greatest_32 : decode cX10_greatest 32 = .ok (.iload_n 1, 1) := by decide +kernel
theorem dX10_greatest_33 : decode cX10_greatest 33 = .ok (.ireturn, 1) := by decide +kernel
theorem dX10_all_0 : decode cX10_all 0 = .ok (.iconst 0, 1) := by decide +kernel
theorem dX10_all_1 : decode cX10_all 1 = .ok (.istore_n 1, 1) := by decide +kernel
theorem dX10_all_2 : decode cX10_all 2 = .ok (.iconst 0, 1) := by decide +kernel
theorem dX10_all_3 : decode cX10_all 3 = .ok (.istore_n 2, 1) := by decide +kernel
theorem dX10_all_4 : decode cX10_all 4 = .ok (.iload_n 2, 1) := by decide +kernel
theorem dX10_all_5 : decode cX10_all 5 = .ok (.aload_n 0, 1) := by decide +kernel
theorem dX10_all_6 : decode cX10_all 6 = .ok (.getfield 29, 3) := by decide +kernel
theorem dX10_all_9 : decode cX10_all 9 = .ok (.if_icmp .ge 18, 3) := by decide +kernel
theorem dX10_all_12 : decode cX10_all 12 = .ok (.iload_n 1, 1) := by decide +kernel
theorem dX10_all_13 : decode cX10_all 13 = .ok (.aload_n 0, 1) := by decide +kernel
theorem dX10_all_14 : decode cX10_all 14 = .ok (.getfield 9, 3) := by decide +kernel
theorem dX10_all_17 : decode cX10_all 17 = .ok (.iload_n 2, 1) := by decide +kernel
theorem dX10_all_18 : decode cX10_all 18 = .ok (.iaload, 1) := by decide +kernel
theorem dX10_all_19 : decode cX10_all 19 = .ok (.iadd, 1) := by decide +kernel
theorem dX10_all_20 : decode cX10_all 20 = .ok (.istore_n 1, 1) := by decide +kernel
theorem dX10_all_21 : decode cX10_all 21 = .ok (.iinc 2 1, 3) := by decide +kernel
theorem dX10_all_24 : decode cX10_all 24 = .ok (.goto (-20), 3) := by decide +kernel
theorem dX10_all_27 : decode cX10_all 27 = .ok (.iload_n 1, 1) := by decide +kernel
theorem dX10_all_28 : decode cX10_all 28 = .ok (.ireturn, 1) := by decide +kernel
set_option maxRecDepth 20000 in
theorem ggX10_total_X10_all : GoodIn wsX10_total wsX10_all := goodIn_ca (goodIn_r _ [14, 1, 9, 15, 16, 17, 18, 19, 20, 21, 22, 23, 24, 25, 26, 27, 28, 29, 30, 31, 32, 33, 34, 35, 36, 37] (by decide +kernel) (by decide +kernel)) (goodIn_sub (fun _ h => List.mem_cons_of_mem _ (List.mem_append_left _ (List.mem_append_right _ h))) (by decide +kernel))
set_option maxRecDepth 20000 in
theorem gX10_total_X10_all : GoodIn wsX10_total (wsV RX10 109 RX10 yX10_all wsX10_all) := goodIn_app (goodIn_of _ (by decide +kernel)) ggX10_total_X10_all
theorem dX10_total_0 : decode cX10_total 0 = .ok (.iconst 0, 1) := by decide +kernel
theorem dX10_total_1 : decode cX10_total 1 = .ok (.istore_n 1, 1) := by decide +kernel
theorem dX10_total_2 : decode cX10_total 2 = .ok (.iconst 0, 1) := by decide +kernel
theorem dX10_total_3 : decode cX10_total 3 = .ok (.istore_n 2, 1) := by decide +kernel
theorem dX10_total_4 : decode cX10_total 4 = .ok (.iconst 0, 1) := by decide +kernel
theorem dX10_total_5 : decode cX10_total 5 = .ok (.istore_n 3, 1) := by decide +kernel
theorem dX10_total_6 : decode cX10_total 6 = .ok (.aload_n 0, 1) := by decide +kernel
theorem dX10_total_7 : decode cX10_total 7 = .ok (.invokevirtual 109, 3) := by decide +kernel
theorem dX10_total_10 : decode cX10_total 10 = .ok (.istore 4, 2) := by decide +kernel
theorem dX10_total_12 : decode cX10_total 12 = .ok (.iconst 0, 1) := by decide +kernel
theorem dX10_total_13 : decode cX10_total 13 = .ok (.istore 5, 2) := by decide +kernel
theorem dX10_total_15 : decode cX10_total 15 = .ok (.iload 5, 2) := by decide +kernel
theorem dX10_total_17 : decode cX10_total 17 = .ok (.aload_n 0, 1) := by decide +kernel
theorem dX10_total_18 : decode cX10_total 18 = .ok (.getfield 29, 3) := by decide +kernel
theorem dX10_total_21 : decode cX10_total 21 = .ok (.if_icmp .ge 47, 3) := by decide +kernel
theorem dX10_total_24 : decode cX10_total 24 = .ok (.aload_n 0, 1) := by decide +kernel
theorem dX10_total_25 : decode cX10_total 25 = .ok (.getfield 29, 3) := by decide +kernel
theorem dX10_total_28 : decode cX10_total 28 = .ok (.iload_n 1, 1) := by decide +kernel
theorem dX10_total_29 : decode cX10_total 29 = .ok (.imul, 1) := by decide +kernel
theorem dX10_total_30 : decode cX10_total 30 = .ok (.iload 5, 2) := by decide +kernel
theorem dX10_total_32 : decode cX10_total 32 = .ok (.iload 4, 2) := by decide +kernel
theorem dX10_total_34 : decode cX10_total 34 = .ok (.imul, 1) := by decide +kernel
theorem dX10_total_35 : decode cX10_total 35 = .ok (.isub, 1) := by decide +kernel
theorem dX10_total_36 : decode cX10_total 36 = .ok (.istore 6, 2) := by decide +kernel
theorem dX10_total_38 : decode cX10_total 38 = .ok (.iload_n 2, 1) := by decide +kernel
theorem dX10_total_39 : decode cX10_total 39 = .ok (.iload 6, 2) := by decide +kernel
theorem dX10_total_41 : decode cX10_total 41 = .ok (.invokestatic 83, 3) := by decide +kernel
theorem dX10_total_44 : decode cX10_total 44 = .ok (.istore_n 2, 1) := by decide +kernel
theorem dX10_total_45 : decode cX10_total 45 = .ok (.iload_n 3, 1) := by decide +kernel
theorem dX10_total_46 : decode cX10_total 46 = .ok (.iload 6, 2) := by decide +kernel
theorem dX10_total_48 : decode cX10_total 48 = .ok (.invokestatic 113, 3) := by decide +kernel
theorem dX10_total_51 : decode cX10_total 51 = .ok (.istore_n 3, 1) := by decide +kernel
theorem dX10_total_52 : decode cX10_total 52 = .ok (.iload_n 1, 1) := by decide +kernel
theorem dX10_total_53 : decode cX10_total 53 = .ok (.aload_n 0, 1) := by decide +kernel
theorem dX10_total_54 : decode cX10_total 54 = .ok (.getfield 9, 3) := by decide +kernel
theorem dX10_total_57 : decode cX10_total 57 = .ok (.iload 5, 2) := by decide +kernel
theorem dX10_total_59 : decode cX10_total 59 = .ok (.iaload, 1) := by decide +kernel
theorem dX10_total_60 : decode cX10_total 60 = .ok (.iadd, 1) := by decide +kernel
theorem dX10_total_61 : decode cX10_total 61 = .ok (.istore_n 1, 1) := by decide +kernel
theorem dX10_total_62 : decode cX10_total 62 = .ok (.iinc 5 1, 3) := by decide +kernel
theorem dX10_total_65 : decode cX10_total 65 = .ok (.goto (-50), 3) := by decide +kernel
theorem dX10_total_68 : decode cX10_total 68 = .ok (.iload_n 2, 1) := by decide +kernel
theorem dX10_total_69 : decode cX10_total 69 = .ok (.iload_n 3, 1) := by decide +kernel
theorem dX10_total_70 : decode cX10_total 70 = .ok (.isub, 1) := by decide +kernel
theorem dX10_total_71 : decode cX10_total 71 = .ok (.aload_n 0, 1) := by decide +kernel
theorem dX10_total_72 : decode cX10_total 72 = .ok (.getfield 29, 3) := by decide +kernel
theorem dX10_total_75 : decode cX10_total 75 = .ok (.idiv, 1) := by decide +kernel
theorem dX10_total_76 : decode cX10_total 76 = .ok (.ireturn, 1) := by decide +kernel
set_option maxRecDepth 20000 in
theorem ggX10_places_X10_all : GoodIn wsX10_places wsX10_all := goodIn_ca (goodIn_r _ [14, 1, 2, 15, 16, 17, 18, 19, 20, 21, 22, 23, 24, 25, 26, 27, 28, 29, 30, 31, 32, 33, 34, 35, 36, 37] (by decide +kernel) (by decide +kernel)) (goodIn_sub (fun _ h => List.mem_cons_of_mem _ (List.mem_append_right _ h)) (by decide +kernel))
set_option maxRecDepth 20000 in
theorem gX10_places_X10_all : GoodIn wsX10_places (wsV RX10 109 RX10 yX10_all wsX10_all) := goodIn_app (goodIn_of _ (by decide +kernel)) ggX10_places_X10_all
theorem dX10_places_0 : decode cX10_places 0 = .ok (.iconst 0, 1) := by decide +kernel
theorem dX10_places_1 : decode cX10_places 1 = .ok (.istore 4, 2) := by decide +kernel
theorem dX10_places_3 : decode cX10_places 3 = .ok (.aload_n 0, 1) := by decide +kernel
theorem dX10_places_4 : decode cX10_places 4 = .ok (.invokevirtual 109, 3) := by decide +kernel
theorem dX10_places_7 : decode cX10_places 7 = .ok (.istore 5, 2) := by decide +kernel
theorem dX10_places_9 : decode cX10_places 9 = .ok (.iconst 0, 1) := by decide +kernel
theorem dX10_places_10 : decode cX10_places 10 = .ok (.istore 6, 2) := by decide +kernel
theorem dX10_places_12 : decode cX10_places 12 = .ok (.iload 6, 2) := by decide +kernel
theorem dX10_places_14 : decode cX10_places 14 = .ok (.aload_n 0, 1) := by decide +kernel
theorem dX10_places_15 : decode cX10_places 15 = .ok (.getfield 29, 3) := by decide +kernel
theorem dX10_places_18 : decode cX10_places 18 = .ok (.if_icmp .ge 97, 3) := by decide +kernel
theorem dX10_places_21 : decode cX10_places 21 = .ok (.aload_n 0, 1) := by decide +kernel
theorem dX10_places_22 : decode cX10_places 22 = .ok (.getfield 29, 3) := by decide +kernel
theorem dX10_places_25 : decode cX10_places 25 = .ok (.iload 4, 2) := by decide +kernel
theorem dX10_places_27 : decode cX10_places 27 = .ok (.imul, 1) := by decide +kernel
theorem dX10_places_28 : decode cX10_places 28 = .ok (.iload 6, 2) := by decide +kernel
theorem dX10_places_30 : decode cX10_places 30 = .ok (.iload 5, 2) := by decide +kernel
theorem dX10_places_32 : decode cX10_places 32 = .ok (.imul, 1) := by decide +kernel
theorem dX10_places_33 : decode cX10_places 33 = .ok (.isub, 1) := by decide +kernel
theorem dX10_places_34 : decode cX10_places 34 = .ok (.aload_n 0, 1) := by decide +kernel
theorem dX10_places_35 : decode cX10_places 35 = .ok (.getfield 29, 3) := by decide +kernel
theorem dX10_places_38 : decode cX10_places 38 = .ok (.idiv, 1) := by decide +kernel
theorem dX10_places_39 : decode cX10_places 39 = .ok (.istore 7, 2) := by decide +kernel
theorem dX10_places_41 : decode cX10_places 41 = .ok (.iload 4, 2) := by decide +kernel
theorem dX10_places_43 : decode cX10_places 43 = .ok (.aload_n 0, 1) := by decide +kernel
theorem dX10_places_44 : decode cX10_places 44 = .ok (.getfield 9, 3) := by decide +kernel
theorem dX10_places_47 : decode cX10_places 47 = .ok (.iload 6, 2) := by decide +kernel
theorem dX10_places_49 : decode cX10_places 49 = .ok (.iaload, 1) := by decide +kernel
theorem dX10_places_50 : decode cX10_places 50 = .ok (.iadd, 1) := by decide +kernel
theorem dX10_places_51 : decode cX10_places 51 = .ok (.istore 4, 2) := by decide +kernel
theorem dX10_places_53 : decode cX10_places 53 = .ok (.aload_n 2, 1) := by decide +kernel
theorem dX10_places_54 : decode cX10_places 54 = .ok (.iload 6, 2) := by decide +kernel
theorem dX10_places_56 : decode cX10_places 56 = .ok (.iload_n 1, 1) := by decide +kernel
theorem dX10_places_57 : decode cX10_places 57 = .ok (.irem, 1) := by decide +kernel
theorem dX10_places_58 : decode cX10_places 58 = .ok (.iload 6, 2) := by decide +kernel
theorem dX10_places_60 : decode cX10_places 60 = .ok (.iload_n 1, 1) := by decide +kernel
theorem dX10_places_61 : decode cX10_places 61 = .ok (.if_icmp .ge 8, 3) := by decide +kernel
theorem dX10_places_64 : decode cX10_places 64 = .ok (.iload 7, 2) := by decide +kernel
theorem dX10_places_66 : decode cX10_places 66 = .ok (.goto 14, 3) := by decide +kernel
theorem dX10_places_69 : decode cX10_places 69 = .ok (.aload_n 2, 1) := by decide +kernel
theorem dX10_places_70 : decode cX10_places 70 = .ok (.iload 6, 2) := by decide +kernel
theorem dX10_places_72 : decode cX10_places 72 = .ok (.iload_n 1, 1) := by decide +kernel
theorem dX10_places_73 : decode cX10_places 73 = .ok (.irem, 1) := by decide +kernel
theorem dX10_places_74 : decode cX10_places 74 = .ok (.iaload, 1) := by decide +kernel
theorem dX10_places_75 : decode cX10_places 75 = .ok (.iload 7, 2) := by decide +kernel
theorem dX10_places_77 : decode cX10_places 77 = .ok (.invokestatic 83, 3) := by decide +kernel
theorem dX10_places_80 : decode cX10_places 80 = .ok (.iastore, 1) := by decide +kernel
theorem dX10_places_81 : decode cX10_places 81 = .ok (.aload_n 3, 1) := by decide +kernel
theorem dX10_places_82 : decode cX10_places 82 = .ok (.iload 6, 2) := by decide +kernel
theorem dX10_places_84 : decode cX10_places 84 = .ok (.iload_n 1, 1) := by decide +kernel
theorem dX10_places_85 : decode cX10_places 85 = .ok (.irem, 1) := by decide +kernel
theorem dX10_places_86 : decode cX10_places 86 = .ok (.iload 6, 2) := by decide +kernel
theorem dX10_places_88 : decode cX10_places 88 = .ok (.iload_n 1, 1) := by decide +kernel
theorem dX10_places_89 : decode cX10_places 89 = .ok (.if_icmp .ge 8, 3) := by decide +kernel
theorem dX10_places_92 : decode cX10_places 92 = .ok (.iload 7, 2) := by decide +kernel
theorem dX10_places_94 : decode cX10_places 94 = .ok (.goto 14, 3) := by decide +kernel
theorem dX10_places_97 : decode cX10_places 97 = .ok (.aload_n 3, 1) := by decide +kernel
theorem dX10_places_98 : decode cX10_places 98 = .ok (.iload 6, 2) := by decide +kernel
theorem dX10_places_100 : decode cX10_places 100 = .ok (.iload_n 1, 1) := by decide +kernel
theorem dX10_places_101 : decode cX10_places 101 = .ok (.irem, 1) := by decide +kernel
theorem dX10_places_102 : decode cX10_places 102 = .ok (.iaload, 1) := by decide +kernel
theorem dX10_places_103 : decode cX10_places 103 = .ok (.iload 7, 2) := by decide +kernel
theorem dX10_places_105 : decode cX10_places 105 = .ok (.invokestatic 113, 3) := by decide +kernel
theorem dX10_places_108 : decode cX10_places 108 = .ok (.iastore, 1) := by decide +kernel
theorem dX10_places_109 : decode cX10_places 109 = .ok (.iinc 6 1, 3) := by decide +kernel
theorem dX10_places_112 : decode cX10_places 112 = .ok (.goto (-100), 3) := by decide +kernel
theorem dX10_places_115 : decode cX10_places 115 = .ok (.return_, 1) := by decide +kernel
theorem dX10_part_0 : decode cX10_part 0 = .ok (.iconst 0, 1) := by decide +kernel
theorem dX10_part_1 : decode cX10_part 1 = .ok (.istore_n 2, 1) := by decide +kernel
theorem dX10_part_2 : decode cX10_part 2 = .ok (.iconst 0, 1) := by decide +kernel
theorem dX10_part_3 : decode cX10_part 3 = .ok (.istore_n 3, 1) := by decide +kernel
theorem dX10_part_4 : decode cX10_part 4 = .ok (.iconst 0, 1) := by decide +kernel
theorem dX10_part_5 : decode cX10_part 5 = .ok (.istore 4, 2) := by decide +kernel
theorem dX10_part_7 : decode cX10_part 7 = .ok (.iload 4, 2) := by decide +kernel
theorem dX10_part_9 : decode cX10_part 9 = .ok (.iload_n 1, 1) := by decide +kernel
theorem dX10_part_10 : decode cX10_part 10 = .ok (.if_icmp .ge 80, 3) := by decide +kernel
theorem dX10_part_13 : decode cX10_part 13 = .ok (.iconst 0, 1) := by decide +kernel
theorem dX10_part_14 : decode cX10_part 14 = .ok (.istore 5, 2) := by decide +kernel
theorem dX10_part_16 : decode cX10_part 16 = .ok (.iload 4, 2) := by decide +kernel
theorem dX10_part_18 : decode cX10_part 18 = .ok (.istore 6, 2) := by decide +kernel
theorem dX10_part_20 : decode cX10_part 20 = .ok (.iload 6, 2) := by decide +kernel
theorem dX10_part_22 : decode cX10_part 22 = .ok (.aload_n 0, 1) := by decide +kernel
theorem dX10_part_23 : decode cX10_part 23 = .ok (.getfield 29, 3) := by decide +kernel
theorem dX10_part_26 : decode cX10_part 26 = .ok (.if_icmp .ge 24, 3) := by decide +kernel
theorem dX10_part_29 : decode cX10_part 29 = .ok (.iload 5, 2) := by decide +kernel
theorem dX10_part_31 : decode cX10_part 31 = .ok (.aload_n 0, 1) := by decide +kernel
theorem dX10_part_32 : decode cX10_part 32 = .ok (.getfield 9, 3) := by decide +kernel
theorem dX10_part_35 : decode cX10_part 35 = .ok (.iload 6, 2) := by decide +kernel
theorem dX10_part_37 : decode cX10_part 37 = .ok (.iaload, 1) := by decide +kernel
theorem dX10_part_38 : decode cX10_part 38 = .ok (.iadd, 1) := by decide +kernel
theorem dX10_part_39 : decode cX10_part 39 = .ok (.istore 5, 2) := by decide +kernel
theorem dX10_part_41 : decode cX10_part 41 = .ok (.iload 6, 2) := by decide +kernel
theorem dX10_part_43 : decode cX10_part 43 = .ok (.iload_n 1, 1) := by decide +kernel
theorem dX10_part_44 : decode cX10_part 44 = .ok (.iadd, 1) := by decide +kernel
theorem dX10_part_45 : decode cX10_part 45 = .ok (.istore 6, 2) := by decide +kernel
theorem dX10_part_47 : decode cX10_part 47 = .ok (.goto (-27), 3) := by decide +kernel
theorem dX10_part_50 : decode cX10_part 50 = .ok (.iload 4, 2) := by decide +kernel
theorem dX10_part_52 : decode cX10_part 52 = .ok (.ifCond .ne 8, 3) := by decide +kernel
theorem dX10_part_55 : decode cX10_part 55 = .ok (.iload 5, 2) := by decide +kernel
theorem dX10_part_57 : decode cX10_part 57 = .ok (.goto 9, 3) := by decide +kernel
theorem dX10_part_60 : decode cX10_part 60 = .ok (.iload_n 2, 1) := by decide +kernel
theorem dX10_part_61 : decode cX10_part 61 = .ok (.iload 5, 2) := by decide +kernel
theorem dX10_part_63 : decode cX10_part 63 = .ok (.invokestatic 83, 3) := by decide +kernel
theorem dX10_part_66 : decode cX10_part 66 = .ok (.istore_n 2, 1) := by decide +kernel
theorem dX10_part_67 : decode cX10_part 67 = .ok (.iload 4, 2) := by decide +kernel
theorem dX10_part_69 : decode cX10_part 69 = .ok (.ifCond .ne 8, 3) := by decide +kernel
theorem dX10_part_72 : decode cX10_part 72 = .ok (.iload 5, 2) := by decide +kernel
theorem dX10_part_74 : decode cX10_part 74 = .ok (.goto 9, 3) := by decide +kernel
theorem dX10_part_77 : decode cX10_part 77 = .ok (.iload_n 3, 1) := by decide +kernel
theorem dX10_part_78 : decode cX10_part 78 = .ok (.iload 5, 2) := by decide +kernel
theorem dX10_part_80 : decode cX10_part 80 = .ok (.invokestatic 113, 3) := by decide +kernel
theorem dX10_part_83 : decode cX10_part 83 = .ok (.istore_n 3, 1) := by decide +kernel
theorem dX10_part_84 : decode cX10_part 84 = .ok (.iinc 4 1, 3) := by decide +kernel
theorem dX10_part_87 : decode cX10_part 87 = .ok (.goto (-80), 3) := by decide +kernel
theorem dX10_part_90 : decode cX10_part 90 = .ok (.iload_n 2, 1) := by decide +kernel
theorem dX10_part_91 : decode cX10_part 91 = .ok (.iload_n 3, 1) := by decide +kernel
theorem dX10_part_92 : decode cX10_part 92 = .ok (.isub, 1) := by decide +kernel
theorem dX10_part_93 : decode cX10_part 93 = .ok (.iload_n 1, 1) := by decide +kernel
theorem dX10_part_94 : decode cX10_part 94 = .ok (.imul, 1) := by decide +kernel
theorem dX10_part_95 : decode cX10_part 95 = .ok (.aload_n 0, 1) := by decide +kernel
theorem dX10_part_96 : decode cX10_part 96 = .ok (.getfield 29, 3) := by decide +kernel
theorem dX10_part_99 : decode cX10_part 99 = .ok (.idiv, 1) := by decide +kernel
theorem dX10_part_100 : decode cX10_part 100 = .ok (.ireturn, 1) := by decide +kernel
set_option maxRecDepth 20000 in
theorem ggX10_partOrNone_X10_part : GoodIn wsX10_partOrNone wsX10_part := goodIn_ca (goodIn_ca (goodIn_r _ [6, 1, 7, 8, 9, 10, 11, 12, 13, 14, 15, 16, 17, 18, 19, 20, 21, 22, 23, 24, 25, 26, 27, 28, 29, 30, 31, 32, 33, 34, 35, 36, 37] (by decide +kernel) (by decide +kernel)) (goodIn_sub (fun _ h => List.mem_cons_of_mem _ (List.mem_append_right _ h)) (by decide +kernel))) (goodIn_sub (fun _ h => List.mem_cons_of_mem _ (List.mem_append_left _ (List.mem_append_right _ h))) (by decide +kernel))
set_option maxRecDepth 20000 in
theorem gX10_partOrNone_X10_part : GoodIn wsX10_partOrNone (wsV RX10 116 RX10 yX10_part wsX10_part) := goodIn_app (goodIn_of _ (by decide +kernel)) ggX10_partOrNone_X10_part
theorem dX10_partOrNone_0 : decode cX10_partOrNone 0 = .ok (.iload_n 1, 1) := by decide +kernel
theorem dX10_partOrNone_1 : decode cX10_partOrNone 1 = .ok (.ifCond .le 20, 3) := by decide +kernel
theorem dX10_partOrNone_4 : decode cX10_partOrNone 4 = .ok (.aload_n 0, 1) := by decide +kernel
theorem dX10_partOrNone_5 : decode cX10_partOrNone 5 = .ok (.getfield 29, 3) := by decide +kernel
theorem dX10_partOrNone_8 : decode cX10_partOrNone 8 = .ok (.iload_n 1, 1) := by decide +kernel
theorem dX10_partOrNone_9 : decode cX10_partOrNone 9 = .ok (.irem, 1) := by decide +kernel
theorem dX10_partOrNone_10 : decode cX10_partOrNone 10 = .ok (.ifCond .ne 11, 3) := by decide +kernel
theorem dX10_partOrNone_13 : decode cX10_partOrNone 13 = .ok (.aload_n 0, 1) := by decide +kernel
theorem dX10_partOrNone_14 : decode cX10_partOrNone 14 = .ok (.iload_n 1, 1) := by decide +kernel
theorem dX10_partOrNone_15 : decode cX10_partOrNone 15 = .ok (.invokevirtual 116, 3) := by decide +kernel
theorem dX10_partOrNone_18 : decode cX10_partOrNone 18 = .ok (.goto 4, 3) := by decide +kernel
theorem dX10_partOrNone_21 : decode cX10_partOrNone 21 = .ok (.iconst 0, 1) := by decide +kernel
theorem dX10_partOrNone_22 : decode cX10_partOrNone 22 = .ok (.ireturn, 1) := by decide +kernel
set_option maxRecDepth 20000 in
theorem ggX10_grade_X10_greatest : GoodIn wsX10_grade wsX10_greatest := goodIn_ca (goodIn_r _ [10, 11, 12, 13, 14, 4, 15, 2, 3, 5, 33, 34, 35, 36, 37, 38, 39, 40, 41, 42, 43, 44, 45, 46, 47, 48, 49, 50, 51, 52, 53, 54, 55] (by decide +kernel) (by decide +kernel)) (goodIn_sub (fun _ h => List.mem_cons_of_mem _ (List.mem_append_left _ (List.mem_append_right _ h))) (by decide +kernel))
set_option maxRecDepth 20000 in
theorem gX10_grade_X10_greatest : GoodIn wsX10_grade (wsV RX10 119 RX10 yX10_greatest wsX10_greatest) := goodIn_app (goodIn_of _ (by decide +kernel)) ggX10_grade_X10_greatest
set_option maxRecDepth 20000 in
theorem ggX10_grade_X12_gradeOf : GoodIn wsX10_grade wsX12_gradeOf := goodIn_r _ [18, 19, 20, 17, 21] (by decide +kernel) (by decide +kernel)
set_option maxRecDepth 20000 in
theorem gX10_grade_X12_gradeOf_n122 : GoodIn wsX10_grade (wsX12_gradeOf) := ggX10_grade_X12_gradeOf
set_option maxRecDepth 20000 in
theorem ggX10_grade_X10_total : GoodIn wsX10_grade wsX10_total := goodIn_ca (goodIn_ca (goodIn_r _ [25, 11, 2, 3, 4, 5, 26, 27, 28, 12, 29, 30, 31, 9, 32, 33, 34, 35, 36, 37, 38, 39, 40, 41, 42, 43, 44, 45, 46, 47, 48, 49, 50, 51, 52, 53, 54, 55] (by decide +kernel) (by decide +kernel)) (goodIn_sub (fun _ h => List.mem_cons_of_mem _ (List.mem_append_left _ (List.mem_append_right _ h))) (by decide +kernel))) (goodIn_sub (fun _ h => List.mem_cons_of_mem _ (List.mem_append_right _ h)) (by decide +kernel))
set_option maxRecDepth 20000 in
theorem gX10_grade_X10_total : GoodIn wsX10_grade (wsV RX10 125 RX10 yX10_total wsX10_total) := goodIn_app (goodIn_of _ (by decide +kernel)) ggX10_grade_X10_total
theorem dX10_grade_0 : decode cX10_grade 0 = .ok (.aload_n 0, 1) := by decide +kernel
theorem dX10_grade_1 : decode cX10_grade 1 = .ok (.invokevirtual 119, 3) := by decide +kernel
theorem dX10_grade_4 : decode cX10_grade 4 = .ok (.invokestatic 122, 3) := by decide +kernel
theorem dX10_grade_7 : decode cX10_grade 7 = .ok (.aload_n 0, 1) := by decide +kernel
theorem dX10_grade_8 : decode cX10_grade 8 = .ok (.invokevirtual 125, 3) := by decide +kernel
theorem dX10_grade_11 : decode cX10_grade 11 = .ok (.iconst 4, 1) := by decide +kernel
theorem dX10_grade_12 : decode cX10_grade 12 = .ok (.idiv, 1) := by decide +kernel
theorem dX10_grade_13 : decode cX10_grade 13 = .ok (.invokestatic 122, 3) := by decide +kernel
theorem dX10_grade_16 : decode cX10_grade 16 = .ok (.iconst 2, 1) := by decide +kernel
theorem dX10_grade_17 : decode cX10_grade 17 = .ok (.aload_n 0, 1) := by decide +kernel
theorem dX10_grade_18 : decode cX10_grade 18 = .ok (.getfield 128, 3) := by decide +kernel
theorem dX10_grade_21 : decode cX10_grade 21 = .ok (.imul, 1) := by decide +kernel
theorem dX10_grade_22 : decode cX10_grade 22 = .ok (.invokestatic 122, 3) := by decide +kernel
theorem dX10_grade_25 : decode cX10_grade 25 = .ok (.invokestatic 83, 3) := by decide +kernel
theorem dX10_grade_28 : decode cX10_grade 28 = .ok (.invokestatic 83, 3) := by decide +kernel
theorem dX10_grade_31 : decode cX10_grade 31 = .ok (.ireturn, 1) := by decide +kernel
set_option maxRecDepth 20000 in
theorem ggX10_bears_X10_across : GoodIn wsX10_bears wsX10_across := goodIn_r _ [12, 2, 5, 29, 30, 31, 32, 33, 34, 35, 36, 37, 38, 39, 40, 41, 42, 43, 44, 45, 46, 47, 48, 49, 50, 51] (by decide +kernel) (by decide +kernel)
set_option maxRecDepth 20000 in
theorem gX10_bears_X10_across : GoodIn wsX10_bears (wsV RX10 41 RX10 yX10_across wsX10_across) := goodIn_app (goodIn_of _ (by decide +kernel)) ggX10_bears_X10_across
set_option maxRecDepth 20000 in
theorem ggX10_bears_X12_root : GoodIn wsX10_bears wsX12_root := goodIn_r _ [15, 16, 17] (by decide +kernel) (by decide +kernel)
set_option maxRecDepth 20000 in
theorem gX10_bears_X12_root_n57 : GoodIn wsX10_bears (wsX12_root) := ggX10_bears_X12_root
set_option maxRecDepth 20000 in
theorem ggX10_bears_X10_caseLeft : GoodIn wsX10_bears wsX10_caseLeft := goodIn_r _ [21, 22, 23, 24, 25, 26, 27, 28, 29, 30, 31, 32, 33, 34, 35, 36, 37, 38, 39, 40, 41, 42, 43, 44, 45, 46, 47, 48, 49, 50, 51] (by decide +kernel) (by decide +kernel)
set_option maxRecDepth 20000 in
theorem gX10_bears_X10_caseLeft : GoodIn wsX10_bears (wsV RX10 135 RX10 yX10_caseLeft wsX10_caseLeft) := goodIn_app (goodIn_of _ (by decide +kernel)) ggX10_bears_X10_caseLeft
theorem dX10_bears_0 : decode cX10_bears 0 = .ok (.ldc2_w 131, 3) := by decide +kernel
theorem dX10_bears_3 : decode cX10_bears 3 = .ok (.lload_n 1, 1) := by decide +kernel
theorem dX10_bears_4 : decode cX10_bears 4 = .ok (.lmul, 1) := by decide +kernel
theorem dX10_bears_5 : decode cX10_bears 5 = .ok (.aload_n 0, 1) := by decide +kernel
theorem dX10_bears_6 : decode cX10_bears 6 = .ok (.invokevirtual 41, 3) := by decide +kernel
theorem dX10_bears_9 : decode cX10_bears 9 = .ok (.ldiv, 1) := by decide +kernel
theorem dX10_bears_10 : decode cX10_bears 10 = .ok (.lstore_n 3, 1) := by decide +kernel
theorem dX10_bears_11 : decode cX10_bears 11 = .ok (.lload_n 3, 1) := by decide +kernel
theorem dX10_bears_12 : decode cX10_bears 12 = .ok (.aload_n 0, 1) := by decide +kernel
theorem dX10_bears_13 : decode cX10_bears 13 = .ok (.getfield 29, 3) := by decide +kernel
theorem dX10_bears_16 : decode cX10_bears 16 = .ok (.bipush 20, 2) := by decide +kernel
theorem dX10_bears_18 : decode cX10_bears 18 = .ok (.iadd, 1) := by decide +kernel
theorem dX10_bears_19 : decode cX10_bears 19 = .ok (.i2l, 1) := by decide +kernel
theorem dX10_bears_20 : decode cX10_bears 20 = .ok (.lmul, 1) := by decide +kernel
theorem dX10_bears_21 : decode cX10_bears 21 = .ok (.aload_n 0, 1) := by decide +kernel
theorem dX10_bears_22 : decode cX10_bears 22 = .ok (.getfield 29, 3) := by decide +kernel
theorem dX10_bears_25 : decode cX10_bears 25 = .ok (.i2l, 1) := by decide +kernel
theorem dX10_bears_26 : decode cX10_bears 26 = .ok (.ldiv, 1) := by decide +kernel
theorem dX10_bears_27 : decode cX10_bears 27 = .ok (.ldc2_w 93, 3) := by decide +kernel
theorem dX10_bears_30 : decode cX10_bears 30 = .ok (.lmul, 1) := by decide +kernel
theorem dX10_bears_31 : decode cX10_bears 31 = .ok (.aload_n 0, 1) := by decide +kernel
theorem dX10_bears_32 : decode cX10_bears 32 = .ok (.getfield 38, 3) := by decide +kernel
theorem dX10_bears_35 : decode cX10_bears 35 = .ok (.i2l, 1) := by decide +kernel
theorem dX10_bears_36 : decode cX10_bears 36 = .ok (.aload_n 0, 1) := by decide +kernel
theorem dX10_bears_37 : decode cX10_bears 37 = .ok (.getfield 32, 3) := by decide +kernel
theorem dX10_bears_40 : decode cX10_bears 40 = .ok (.i2l, 1) := by decide +kernel
theorem dX10_bears_41 : decode cX10_bears 41 = .ok (.lmul, 1) := by decide +kernel
theorem dX10_bears_42 : decode cX10_bears 42 = .ok (.ldiv, 1) := by decide +kernel
theorem dX10_bears_43 : decode cX10_bears 43 = .ok (.lstore 5, 2) := by decide +kernel
theorem dX10_bears_45 : decode cX10_bears 45 = .ok (.lload_n 3, 1) := by decide +kernel
theorem dX10_bears_46 : decode cX10_bears 46 = .ok (.ldc2_w 93, 3) := by decide +kernel
theorem dX10_bears_49 : decode cX10_bears 49 = .ok (.lmul, 1) := by decide +kernel
theorem dX10_bears_50 : decode cX10_bears 50 = .ok (.aload_n 0, 1) := by decide +kernel
theorem dX10_bears_51 : decode cX10_bears 51 = .ok (.invokevirtual 41, 3) := by decide +kernel
theorem dX10_bears_54 : decode cX10_bears 54 = .ok (.ldiv, 1) := by decide +kernel
theorem dX10_bears_55 : decode cX10_bears 55 = .ok (.ldc2_w 133, 3) := by decide +kernel
theorem dX10_bears_58 : decode cX10_bears 58 = .ok (.lmul, 1) := by decide +kernel
theorem dX10_bears_59 : decode cX10_bears 59 = .ok (.aload_n 0, 1) := by decide +kernel
theorem dX10_bears_60 : decode cX10_bears 60 = .ok (.getfield 38, 3) := by decide +kernel
theorem dX10_bears_63 : decode cX10_bears 63 = .ok (.i2l, 1) := by decide +kernel
theorem dX10_bears_64 : decode cX10_bears 64 = .ok (.ldiv, 1) := by decide +kernel
theorem dX10_bears_65 : decode cX10_bears 65 = .ok (.invokestatic 57, 3) := by decide +kernel
theorem dX10_bears_68 : decode cX10_bears 68 = .ok (.lstore 7, 2) := by decide +kernel
theorem dX10_bears_70 : decode cX10_bears 70 = .ok (.aload_n 0, 1) := by decide +kernel
theorem dX10_bears_71 : decode cX10_bears 71 = .ok (.invokevirtual 135, 3) := by decide +kernel
theorem dX10_bears_74 : decode cX10_bears 74 = .ok (.ifCond .ne 7, 3) := by decide +kernel
theorem dX10_bears_77 : decode cX10_bears 77 = .ok (.iconst 0, 1) := by decide +kernel
theorem dX10_bears_78 : decode cX10_bears 78 = .ok (.goto 26, 3) := by decide +kernel
theorem dX10_bears_81 : decode cX10_bears 81 = .ok (.ldc2_w 138, 3) := by decide +kernel
theorem dX10_bears_84 : decode cX10_bears 84 = .ok (.aload_n 0, 1) := by decide +kernel
theorem dX10_bears_85 : decode cX10_bears 85 = .ok (.invokevirtual 135, 3) := by decide +kernel
theorem dX10_bears_88 : decode cX10_bears 88 = .ok (.i2l, 1) := by decide +kernel
theorem dX10_bears_89 : decode cX10_bears 89 = .ok (.lmul, 1) := by decide +kernel
theorem dX10_bears_90 : decode cX10_bears 90 = .ok (.aload_n 0, 1) := by decide +kernel
theorem dX10_bears_91 : decode cX10_bears 91 = .ok (.getfield 32, 3) := by decide +kernel
theorem dX10_bears_94 : decode cX10_bears 94 = .ok (.i2l, 1) := by decide +kernel
theorem dX10_bears_95 : decode cX10_bears 95 = .ok (.lcmp, 1) := by decide +kernel
theorem dX10_bears_96 : decode cX10_bears 96 = .ok (.ifCond .lt 7, 3) := by decide +kernel
theorem dX10_bears_99 : decode cX10_bears 99 = .ok (.iconst 2, 1) := by decide +kernel
theorem dX10_bears_100 : decode cX10_bears 100 = .ok (.goto 4, 3) := by decide +kernel
theorem dX10_bears_103 : decode cX10_bears 103 = .ok (.iconst 1, 1) := by decide +kernel
theorem dX10_bears_104 : decode cX10_bears 104 = .ok (.istore 9, 2) := by decide +kernel
theorem dX10_bears_106 : decode cX10_bears 106 = .ok (.lload 5, 2) := by decide +kernel
theorem dX10_bears_108 : decode cX10_bears 108 = .ok (.iload 9, 2) := by decide +kernel
theorem dX10_bears_110 : decode cX10_bears 110 = .ok (.ifCond .ne 9, 3) := by decide +kernel
theorem dX10_bears_113 : decode cX10_bears 113 = .ok (.sipush 200, 3) := by decide +kernel
theorem dX10_bears_116 : decode cX10_bears 116 = .ok (.goto 18, 3) := by decide +kernel
theorem dX10_bears_119 : decode cX10_bears 119 = .ok (.iload 9, 2) := by decide +kernel
theorem dX10_bears_121 : decode cX10_bears 121 = .ok (.iconst 1, 1) := by decide +kernel
theorem dX10_bears_122 : decode cX10_bears 122 = .ok (.if_icmp .ne 9, 3) := by decide +kernel
theorem dX10_bears_125 : decode cX10_bears 125 = .ok (.sipush 300, 3) := by decide +kernel
theorem dX10_bears_128 : decode cX10_bears 128 = .ok (.goto 6, 3) := by decide +kernel
theorem dX10_bears_131 : decode cX10_bears 131 = .ok (.sipush 400, 3) := by decide +kernel
theorem dX10_bears_134 : decode cX10_bears 134 = .ok (.i2l, 1) := by decide +kernel
theorem dX10_bears_135 : decode cX10_bears 135 = .ok (.lcmp, 1) := by decide +kernel
theorem dX10_bears_136 : decode cX10_bears 136 = .ok (.ifCond .gt 40, 3) := by decide +kernel
theorem dX10_bears_139 : decode cX10_bears 139 = .ok (.lload 7, 2) := by decide +kernel
theorem dX10_bears_141 : decode cX10_bears 141 = .ok (.iload 9, 2) := by decide +kernel
theorem dX10_bears_143 : decode cX10_bears 143 = .ok (.ifCond .ne 9, 3) := by decide +kernel
theorem dX10_bears_146 : decode cX10_bears 146 = .ok (.sipush 600, 3) := by decide +kernel
theorem dX10_bears_149 : decode cX10_bears 149 = .ok (.goto 18, 3) := by decide +kernel
theorem dX10_bears_152 : decode cX10_bears 152 = .ok (.iload 9, 2) := by decide +kernel
theorem dX10_bears_154 : decode cX10_bears 154 = .ok (.iconst 1, 1) := by decide +kernel
theorem dX10_bears_155 : decode cX10_bears 155 = .ok (.if_icmp .ne 9, 3) := by decide +kernel
theorem dX10_bears_158 : decode cX10_bears 158 = .ok (.sipush 1000, 3) := by decide +kernel
theorem dX10_bears_161 : decode cX10_bears 161 = .ok (.goto 6, 3) := by decide +kernel
theorem dX10_bears_164 : decode cX10_bears 164 = .ok (.sipush 1400, 3) := by decide +kernel
theorem dX10_bears_167 : decode cX10_bears 167 = .ok (.i2l, 1) := by decide +kernel
theorem dX10_bears_168 : decode cX10_bears 168 = .ok (.lcmp, 1) := by decide +kernel
theorem dX10_bears_169 : decode cX10_bears 169 = .ok (.ifCond .gt 7, 3) := by decide +kernel
theorem dX10_bears_172 : decode cX10_bears 172 = .ok (.iconst 1, 1) := by decide +kernel
theorem dX10_bears_173 : decode cX10_bears 173 = .ok (.goto 4, 3) := by decide +kernel
theorem dX10_bears_176 : decode cX10_bears 176 = .ok (.iconst 0, 1) := by decide +kernel
theorem dX10_bears_177 : decode cX10_bears 177 = .ok (.ireturn, 1) := by decide +kernel
set_option maxRecDepth 20000 in
theorem ggX10_bears__X10_bears : GoodIn wsX10_bears_ wsX10_bears := goodIn_ca (goodIn_r _ [6, 7, 8, 9, 10, 11, 12, 13, 14, 15, 16, 5, 17, 18, 19, 20, 21, 22, 23, 24, 25, 26, 27, 28, 29, 30, 31, 32, 33, 34, 35, 36, 37, 38, 39, 40, 41, 42, 43, 44, 45, 46, 47, 48, 49, 50, 51, 52, 53, 54, 55, 56] (by decide +kernel) (by decide +kernel)) (goodIn_sub (fun _ h => List.mem_cons_of_mem _ (List.mem_append_right _ h)) (by decide +kernel))
set_option maxRecDepth 20000 in
theorem gX10_bears__X10_bears : GoodIn wsX10_bears_ (wsV RX10 141 RX10 yX10_bears wsX10_bears) := goodIn_app (goodIn_of _ (by decide +kernel)) ggX10_bears__X10_bears
theorem dX10_bears__0 : decode cX10_bears_ 0 = .ok (.iconst 0, 1) := by decide +kernel
theorem dX10_bears__1 : decode cX10_bears_ 1 = .ok (.istore_n 1, 1) := by decide +kernel
theorem dX10_bears__2 : decode cX10_bears_ 2 = .ok (.ldc 140, 2) := by decide +kernel
theorem dX10_bears__4 : decode cX10_bears_ 4 = .ok (.istore_n 2, 1) := by decide +kernel
theorem dX10_bears__5 : decode cX10_bears_ 5 = .ok (.iload_n 2, 1) := by decide +kernel
theorem dX10_bears__6 : decode cX10_bears_ 6 = .ok (.iload_n 1, 1) := by decide +kernel
theorem dX10_bears__7 : decode cX10_bears_ 7 = .ok (.isub, 1) := by decide +kernel
theorem dX10_bears__8 : decode cX10_bears_ 8 = .ok (.iconst 1, 1) := by decide +kernel
theorem dX10_bears__9 : decode cX10_bears_ 9 = .ok (.if_icmp .le 28, 3) := by decide +kernel
theorem dX10_bears__12 : decode cX10_bears_ 12 = .ok (.iload_n 1, 1) := by decide +kernel
theorem dX10_bears__13 : decode cX10_bears_ 13 = .ok (.iload_n 2, 1) := by decide +kernel
theorem dX10_bears__14 : decode cX10_bears_ 14 = .ok (.iadd, 1) := by decide +kernel
theorem dX10_bears__15 : decode cX10_bears_ 15 = .ok (.iconst 2, 1) := by decide +kernel
theorem dX10_bears__16 : decode cX10_bears_ 16 = .ok (.idiv, 1) := by decide +kernel
theorem dX10_bears__17 : decode cX10_bears_ 17 = .ok (.istore_n 3, 1) := by decide +kernel
theorem dX10_bears__18 : decode cX10_bears_ 18 = .ok (.aload_n 0, 1) := by decide +kernel
theorem dX10_bears__19 : decode cX10_bears_ 19 = .ok (.iload_n 3, 1) := by decide +kernel
theorem dX10_bears__20 : decode cX10_bears_ 20 = .ok (.i2l, 1) := by decide +kernel
theorem dX10_bears__21 : decode cX10_bears_ 21 = .ok (.invokevirtual 141, 3) := by decide +kernel
theorem dX10_bears__24 : decode cX10_bears_ 24 = .ok (.ifCond .eq 8, 3) := by decide +kernel
theorem dX10_bears__27 : decode cX10_bears_ 27 = .ok (.iload_n 3, 1) := by decide +kernel
theorem dX10_bears__28 : decode cX10_bears_ 28 = .ok (.istore_n 1, 1) := by decide +kernel
theorem dX10_bears__29 : decode cX10_bears_ 29 = .ok (.goto 5, 3) := by decide +kernel
theorem dX10_bears__32 : decode cX10_bears_ 32 = .ok (.iload_n 3, 1) := by decide +kernel
theorem dX10_bears__33 : decode cX10_bears_ 33 = .ok (.istore_n 2, 1) := by decide +kernel
theorem dX10_bears__34 : decode cX10_bears_ 34 = .ok (.goto (-29), 3) := by decide +kernel
theorem dX10_bears__37 : decode cX10_bears_ 37 = .ok (.iload_n 1, 1) := by decide +kernel
theorem dX10_bears__38 : decode cX10_bears_ 38 = .ok (.ireturn, 1) := by decide +kernel
set_option maxRecDepth 20000 in
theorem ggX10_life_X10_bears_ : GoodIn wsX10_life wsX10_bears_ := goodIn_ca (goodIn_r _ [7, 8, 9, 10, 11, 6, 12, 13, 14, 2, 15, 16, 17, 18, 19, 20, 21, 22, 23, 24, 25, 26, 27, 28, 29, 30, 31, 32, 33, 34, 35, 36, 37, 38, 39, 40, 41, 42, 43, 44, 45, 46, 47, 48, 49, 50, 51, 52, 53, 54, 55, 56, 57, 58, 59, 60, 61] (by decide +kernel) (by decide +kernel)) (goodIn_sub (fun _ h => List.mem_cons_of_mem _ (List.mem_append_right _ h)) (by decide +kernel))
set_option maxRecDepth 20000 in
theorem gX10_life_X10_bears_ : GoodIn wsX10_life (wsV RX10 145 RX10 yX10_bears_ wsX10_bears_) := goodIn_app (goodIn_of _ (by decide +kernel)) ggX10_life_X10_bears_
theorem dX10_life_0 : decode cX10_life 0 = .ok (.aload_n 0, 1) := by decide +kernel
theorem dX10_life_1 : decode cX10_life 1 = .ok (.invokevirtual 145, 3) := by decide +kernel
theorem dX10_life_4 : decode cX10_life 4 = .ok (.i2l, 1) := by decide +kernel
theorem dX10_life_5 : decode cX10_life 5 = .ok (.lstore_n 3, 1) := by decide +kernel
theorem dX10_life_6 : decode cX10_life 6 = .ok (.lload_n 1, 1) := by decide +kernel
theorem dX10_life_7 : decode cX10_life 7 = .ok (.lload_n 3, 1) := by decide +kernel
theorem dX10_life_8 : decode cX10_life 8 = .ok (.lcmp, 1) := by decide +kernel
theorem dX10_life_9 : decode cX10_life 9 = .ok (.ifCond .gt 7, 3) := by decide +kernel
theorem dX10_life_12 : decode cX10_life 12 = .ok (.ldc2_w 147, 3) := by decide +kernel
theorem dX10_life_15 : decode cX10_life 15 = .ok (.lreturn, 1) := by decide +kernel
theorem dX10_life_16 : decode cX10_life 16 = .ok (.ldc2_w 93, 3) := by decide +kernel
theorem dX10_life_19 : decode cX10_life 19 = .ok (.lstore 5, 2) := by decide +kernel
theorem dX10_life_21 : decode cX10_life 21 = .ok (.iconst 0, 1) := by decide +kernel
theorem dX10_life_22 : decode cX10_life 22 = .ok (.istore 7, 2) := by decide +kernel
theorem dX10_life_24 : decode cX10_life 24 = .ok (.iload 7, 2) := by decide +kernel
theorem dX10_life_26 : decode cX10_life 26 = .ok (.bipush 6, 2) := by decide +kernel
theorem dX10_life_28 : decode cX10_life 28 = .ok (.if_icmp .ge 17, 3) := by decide +kernel
theorem dX10_life_31 : decode cX10_life 31 = .ok (.lload 5, 2) := by decide +kernel
theorem dX10_life_33 : decode cX10_life 33 = .ok (.lload_n 3, 1) := by decide +kernel
theorem dX10_life_34 : decode cX10_life 34 = .ok (.lmul, 1) := by decide +kernel
theorem dX10_life_35 : decode cX10_life 35 = .ok (.lload_n 1, 1) := by decide +kernel
theorem dX10_life_36 : decode cX10_life 36 = .ok (.ldiv, 1) := by decide +kernel
theorem dX10_life_37 : decode cX10_life 37 = .ok (.lstore 5, 2) := by decide +kernel
theorem dX10_life_39 : decode cX10_life 39 = .ok (.iinc 7 1, 3) := by decide +kernel
theorem dX10_life_42 : decode cX10_life 42 = .ok (.goto (-18), 3) := by decide +kernel
theorem dX10_life_45 : decode cX10_life 45 = .ok (.lload 5, 2) := by decide +kernel
theorem dX10_life_47 : decode cX10_life 47 = .ok (.lreturn, 1) := by decide +kernel
set_option maxRecDepth 20000 in
theorem ggX10_runs_X10_life : GoodIn wsX10_runs wsX10_life := goodIn_ca (goodIn_r _ [7, 8, 2, 9, 10, 11, 6, 12, 13, 14, 15, 16, 17, 18, 19, 20, 21, 22, 23, 24, 25, 26, 27, 28, 29, 30, 31, 32, 33, 34, 35, 36, 37, 38, 39, 40, 41, 42, 43, 44, 45, 46, 47, 48, 49, 50, 51, 52, 53, 54, 55, 56, 57, 58, 59, 60, 61, 62, 63, 64, 65, 66] (by decide +kernel) (by decide +kernel)) (goodIn_sub (fun _ h => List.mem_cons_of_mem _ (List.mem_append_right _ h)) (by decide +kernel))
set_option maxRecDepth 20000 in
theorem gX10_runs_X10_life : GoodIn wsX10_runs (wsV RX10 149 RX10 yX10_life wsX10_life) := goodIn_app (goodIn_of _ (by decide +kernel)) ggX10_runs_X10_life
theorem dX10_runs_0 : decode cX10_runs 0 = .ok (.aload_n 0, 1) := by decide +kernel
theorem dX10_runs_1 : decode cX10_runs 1 = .ok (.lload_n 1, 1) := by decide +kernel
theorem dX10_runs_2 : decode cX10_runs 2 = .ok (.invokevirtual 149, 3) := by decide +kernel
theorem dX10_runs_5 : decode cX10_runs 5 = .ok (.lstore 5, 2) := by decide +kernel
theorem dX10_runs_7 : decode cX10_runs 7 = .ok (.aload_n 0, 1) := by decide +kernel
theorem dX10_runs_8 : decode cX10_runs 8 = .ok (.dup, 1) := by decide +kernel
theorem dX10_runs_9 : decode cX10_runs 9 = .ok (.getfield 89, 3) := by decide +kernel
theorem dX10_runs_12 : decode cX10_runs 12 = .ok (.lload 5, 2) := by decide +kernel
theorem dX10_runs_14 : decode cX10_runs 14 = .ok (.lconst 0, 1) := by decide +kernel
theorem dX10_runs_15 : decode cX10_runs 15 = .ok (.lcmp, 1) := by decide +kernel
theorem dX10_runs_16 : decode cX10_runs 16 = .ok (.ifCond .ge 7, 3) := by decide +kernel
theorem dX10_runs_19 : decode cX10_runs 19 = .ok (.lconst 0, 1) := by decide +kernel
theorem dX10_runs_20 : decode cX10_runs 20 = .ok (.goto 24, 3) := by decide +kernel
theorem dX10_runs_23 : decode cX10_runs 23 = .ok (.lload 5, 2) := by decide +kernel
theorem dX10_runs_25 : decode cX10_runs 25 = .ok (.lconst 0, 1) := by decide +kernel
theorem dX10_runs_26 : decode cX10_runs 26 = .ok (.lcmp, 1) := by decide +kernel
theorem dX10_runs_27 : decode cX10_runs 27 = .ok (.ifCond .ne 9, 3) := by decide +kernel
theorem dX10_runs_30 : decode cX10_runs 30 = .ok (.ldc2_w 93, 3) := by decide +kernel
theorem dX10_runs_33 : decode cX10_runs 33 = .ok (.goto 11, 3) := by decide +kernel
theorem dX10_runs_36 : decode cX10_runs 36 = .ok (.ldc2_w 93, 3) := by decide +kernel
theorem dX10_runs_39 : decode cX10_runs 39 = .ok (.lload_n 3, 1) := by decide +kernel
theorem dX10_runs_40 : decode cX10_runs 40 = .ok (.lmul, 1) := by decide +kernel
theorem dX10_runs_41 : decode cX10_runs 41 = .ok (.lload 5, 2) := by decide +kernel
theorem dX10_runs_43 : decode cX10_runs 43 = .ok (.ldiv, 1) := by decide +kernel
theorem dX10_runs_44 : decode cX10_runs 44 = .ok (.ladd, 1) := by decide +kernel
theorem dX10_runs_45 : decode cX10_runs 45 = .ok (.putfield 89, 3) := by decide +kernel
theorem dX10_runs_48 : decode cX10_runs 48 = .ok (.return_, 1) := by decide +kernel
theorem dX11_init_0 : decode cX11_init 0 = .ok (.aload_n 0, 1) := by decide +kernel
theorem dX11_init_1 : decode cX11_init 1 = .ok (.invokespecial 3, 3) := by decide +kernel
theorem dX11_init_4 : decode cX11_init 4 = .ok (.aload_n 0, 1) := by decide +kernel
theorem dX11_init_5 : decode cX11_init 5 = .ok (.bipush 20, 2) := by decide +kernel
theorem dX11_init_7 : decode cX11_init 7 = .ok (.newarray .int, 2) := by decide +kernel
theorem dX11_init_9 : decode cX11_init 9 = .ok (.putfield 9, 3) := by decide +kernel
theorem dX11_init_12 : decode cX11_init 12 = .ok (.aload_n 0, 1) := by decide +kernel
theorem dX11_init_13 : decode cX11_init 13 = .ok (.iload_n 1, 1) := by decide +kernel
theorem dX11_init_14 : decode cX11_init 14 = .ok (.putfield 15, 3) := by decide +kernel
theorem dX11_init_17 : decode cX11_init 17 = .ok (.aload_n 0, 1) := by decide +kernel
theorem dX11_init_18 : decode cX11_init 18 = .ok (.iload_n 2, 1) := by decide +kernel
theorem dX11_init_19 : decode cX11_init 19 = .ok (.putfield 19, 3) := by decide +kernel
theorem dX11_init_22 : decode cX11_init 22 = .ok (.aload_n 0, 1) := by decide +kernel
theorem dX11_init_23 : decode cX11_init 23 = .ok (.iload_n 3, 1) := by decide +kernel
theorem dX11_init_24 : decode cX11_init 24 = .ok (.putfield 22, 3) := by decide +kernel
theorem dX11_init_27 : decode cX11_init 27 = .ok (.aload_n 0, 1) := by decide +kernel
theorem dX11_init_28 : decode cX11_init 28 = .ok (.iload 4, 2) := by decide +kernel
theorem dX11_init_30 : decode cX11_init 30 = .ok (.putfield 25, 3) := by decide +kernel
theorem dX11_init_33 : decode cX11_init 33 = .ok (.return_, 1) := by decide +kernel
set_option maxRecDepth 20000 in
theorem ggX11_approach_X12_root : GoodIn wsX11_approach wsX12_root := goodIn_r _ [7, 8, 9] (by decide +kernel) (by decide +kernel)
set_option maxRecDepth 20000 in
theorem gX11_approach_X12_root_n32 : GoodIn wsX11_approach (wsX12_root) := ggX11_approach_X12_root
theorem dX11_approach_0 : decode cX11_approach 0 = .ok (.ldc2_w 28, 3) := by decide +kernel
theorem dX11_approach_3 : decode cX11_approach 3 = .ok (.aload_n 0, 1) := by decide +kernel
theorem dX11_approach_4 : decode cX11_approach 4 = .ok (.getfield 15, 3) := by decide +kernel
theorem dX11_approach_7 : decode cX11_approach 7 = .ok (.i2l, 1) := by decide +kernel
theorem dX11_approach_8 : decode cX11_approach 8 = .ok (.lmul, 1) := by decide +kernel
theorem dX11_approach_9 : decode cX11_approach 9 = .ok (.ldc2_w 30, 3) := by decide +kernel
theorem dX11_approach_12 : decode cX11_approach 12 = .ok (.ldiv, 1) := by decide +kernel
theorem dX11_approach_13 : decode cX11_approach 13 = .ok (.lstore_n 1, 1) := by decide +kernel
theorem dX11_approach_14 : decode cX11_approach 14 = .ok (.lload_n 1, 1) := by decide +kernel
theorem dX11_approach_15 : decode cX11_approach 15 = .ok (.aload_n 0, 1) := by decide +kernel
theorem dX11_approach_16 : decode cX11_approach 16 = .ok (.getfield 22, 3) := by decide +kernel
theorem dX11_approach_19 : decode cX11_approach 19 = .ok (.i2l, 1) := by decide +kernel
theorem dX11_approach_20 : decode cX11_approach 20 = .ok (.lload_n 1, 1) := by decide +kernel
theorem dX11_approach_21 : decode cX11_approach 21 = .ok (.lsub, 1) := by decide +kernel
theorem dX11_approach_22 : decode cX11_approach 22 = .ok (.lmul, 1) := by decide +kernel
theorem dX11_approach_23 : decode cX11_approach 23 = .ok (.invokestatic 32, 3) := by decide +kernel
theorem dX11_approach_26 : decode cX11_approach 26 = .ok (.l2i, 1) := by decide +kernel
theorem dX11_approach_27 : decode cX11_approach 27 = .ok (.ireturn, 1) := by decide +kernel
set_option maxRecDepth 20000 in
theorem ggX11_canCut_X11_approach : GoodIn wsX11_canCut wsX11_approach := goodIn_r _ [9, 10, 1, 11, 12, 13, 14, 15, 16, 17, 18, 19, 20, 21, 22, 23, 24] (by decide +kernel) (by decide +kernel)
set_option maxRecDepth 20000 in
theorem gX11_canCut_X11_approach : GoodIn wsX11_canCut (wsV RX11 45 RX11 yX11_approach wsX11_approach) := goodIn_app (goodIn_of _ (by decide +kernel)) ggX11_canCut_X11_approach
theorem dX11_canCut_0 : decode cX11_canCut 0 = .ok (.aload_n 0, 1) := by decide +kernel
theorem dX11_canCut_1 : decode cX11_canCut 1 = .ok (.getfield 15, 3) := by decide +kernel
theorem dX11_canCut_4 : decode cX11_canCut 4 = .ok (.aload_n 1, 1) := by decide +kernel
theorem dX11_canCut_5 : decode cX11_canCut 5 = .ok (.getfield 36, 3) := by decide +kernel
theorem dX11_canCut_8 : decode cX11_canCut 8 = .ok (.if_icmp .ne 67, 3) := by decide +kernel
theorem dX11_canCut_11 : decode cX11_canCut 11 = .ok (.aload_n 1, 1) := by decide +kernel
theorem dX11_canCut_12 : decode cX11_canCut 12 = .ok (.getfield 39, 3) := by decide +kernel
theorem dX11_canCut_15 : decode cX11_canCut 15 = .ok (.aload_n 0, 1) := by decide +kernel
theorem dX11_canCut_16 : decode cX11_canCut 16 = .ok (.getfield 19, 3) := by decide +kernel
theorem dX11_canCut_19 : decode cX11_canCut 19 = .ok (.if_icmp .lt 56, 3) := by decide +kernel
theorem dX11_canCut_22 : decode cX11_canCut 22 = .ok (.aload_n 1, 1) := by decide +kernel
theorem dX11_canCut_23 : decode cX11_canCut 23 = .ok (.getfield 42, 3) := by decide +kernel
theorem dX11_canCut_26 : decode cX11_canCut 26 = .ok (.iconst (-1), 1) := by decide +kernel
theorem dX11_canCut_27 : decode cX11_canCut 27 = .ok (.if_icmp .eq 14, 3) := by decide +kernel
theorem dX11_canCut_30 : decode cX11_canCut 30 = .ok (.aload_n 0, 1) := by decide +kernel
theorem dX11_canCut_31 : decode cX11_canCut 31 = .ok (.invokevirtual 45, 3) := by decide +kernel
theorem dX11_canCut_34 : decode cX11_canCut 34 = .ok (.aload_n 1, 1) := by decide +kernel
theorem dX11_canCut_35 : decode cX11_canCut 35 = .ok (.getfield 42, 3) := by decide +kernel
theorem dX11_canCut_38 : decode cX11_canCut 38 = .ok (.if_icmp .gt 37, 3) := by decide +kernel
theorem dX11_canCut_41 : decode cX11_canCut 41 = .ok (.aload_n 0, 1) := by decide +kernel
theorem dX11_canCut_42 : decode cX11_canCut 42 = .ok (.getfield 9, 3) := by decide +kernel
theorem dX11_canCut_45 : decode cX11_canCut 45 = .ok (.aload_n 0, 1) := by decide +kernel
theorem dX11_canCut_46 : decode cX11_canCut 46 = .ok (.getfield 49, 3) := by decide +kernel
theorem dX11_canCut_49 : decode cX11_canCut 49 = .ok (.iaload, 1) := by decide +kernel
theorem dX11_canCut_50 : decode cX11_canCut 50 = .ok (.sipush 200, 3) := by decide +kernel
theorem dX11_canCut_53 : decode cX11_canCut 53 = .ok (.if_icmp .ge 22, 3) := by decide +kernel
theorem dX11_canCut_56 : decode cX11_canCut 56 = .ok (.aload_n 0, 1) := by decide +kernel
theorem dX11_canCut_57 : decode cX11_canCut 57 = .ok (.getfield 19, 3) := by decide +kernel
theorem dX11_canCut_60 : decode cX11_canCut 60 = .ok (.iconst 1, 1) := by decide +kernel
theorem dX11_canCut_61 : decode cX11_canCut 61 = .ok (.if_icmp .eq 10, 3) := by decide +kernel
theorem dX11_canCut_64 : decode cX11_canCut 64 = .ok (.aload_n 1, 1) := by decide +kernel
theorem dX11_canCut_65 : decode cX11_canCut 65 = .ok (.getfield 52, 3) := by decide +kernel
theorem dX11_canCut_68 : decode cX11_canCut 68 = .ok (.ifCond .lt 7, 3) := by decide +kernel
theorem dX11_canCut_71 : decode cX11_canCut 71 = .ok (.iconst 1, 1) := by decide +kernel
theorem dX11_canCut_72 : decode cX11_canCut 72 = .ok (.goto 4, 3) := by decide +kernel
theorem dX11_canCut_75 : decode cX11_canCut 75 = .ok (.iconst 0, 1) := by decide +kernel
theorem dX11_canCut_76 : decode cX11_canCut 76 = .ok (.ireturn, 1) := by decide +kernel
theorem dX12_root_0 : decode cX12_root 0 = .ok (.lload_n 0, 1) := by decide +kernel
theorem dX12_root_1 : decode cX12_root 1 = .ok (.lconst 0, 1) := by decide +kernel
theorem dX12_root_2 : decode cX12_root 2 = .ok (.lcmp, 1) := by decide +kernel
theorem dX12_root_3 : decode cX12_root 3 = .ok (.ifCond .gt 5, 3) := by decide +kernel
theorem dX12_root_6 : decode cX12_root 6 = .ok (.lconst 0, 1) := by decide +kernel
theorem dX12_root_7 : decode cX12_root 7 = .ok (.lreturn, 1) := by decide +kernel
theorem dX12_root_8 : decode cX12_root 8 = .ok (.lconst 0, 1) := by decide +kernel
theorem dX12_root_9 : decode cX12_root 9 = .ok (.lstore_n 2, 1) := by decide +kernel
theorem dX12_root_10 : decode cX12_root 10 = .ok (.ldc2_w 1, 3) := by decide +kernel
theorem dX12_root_13 : decode cX12_root 13 = .ok (.lstore 4, 2) := by decide +kernel
theorem dX12_root_15 : decode cX12_root 15 = .ok (.lload 4, 2) := by decide +kernel
theorem dX12_root_17 : decode cX12_root 17 = .ok (.lload_n 2, 1) := by decide +kernel
theorem dX12_root_18 : decode cX12_root 18 = .ok (.lsub, 1) := by decide +kernel
theorem dX12_root_19 : decode cX12_root 19 = .ok (.lconst 1, 1) := by decide +kernel
theorem dX12_root_20 : decode cX12_root 20 = .ok (.lcmp, 1) := by decide +kernel
theorem dX12_root_21 : decode cX12_root 21 = .ok (.ifCond .le 36, 3) := by decide +kernel
theorem dX12_root_24 : decode cX12_root 24 = .ok (.lload_n 2, 1) := by decide +kernel
theorem dX12_root_25 : decode cX12_root 25 = .ok (.lload 4, 2) := by decide +kernel
theorem dX12_root_27 : decode cX12_root 27 = .ok (.ladd, 1) := by decide +kernel
theorem dX12_root_28 : decode cX12_root 28 = .ok (.ldc2_w 3, 3) := by decide +kernel
theorem dX12_root_31 : decode cX12_root 31 = .ok (.ldiv, 1) := by decide +kernel
theorem dX12_root_32 : decode cX12_root 32 = .ok (.lstore 6, 2) := by decide +kernel
theorem dX12_root_34 : decode cX12_root 34 = .ok (.lload 6, 2) := by decide +kernel
theorem dX12_root_36 : decode cX12_root 36 = .ok (.lload 6, 2) := by decide +kernel
theorem dX12_root_38 : decode cX12_root 38 = .ok (.lmul, 1) := by decide +kernel
theorem dX12_root_39 : decode cX12_root 39 = .ok (.lload_n 0, 1) := by decide +kernel
theorem dX12_root_40 : decode cX12_root 40 = .ok (.lcmp, 1) := by decide +kernel
theorem dX12_root_41 : decode cX12_root 41 = .ok (.ifCond .gt 9, 3) := by decide +kernel
theorem dX12_root_44 : decode cX12_root 44 = .ok (.lload 6, 2) := by decide +kernel
theorem dX12_root_46 : decode cX12_root 46 = .ok (.lstore_n 2, 1) := by decide +kernel
theorem dX12_root_47 : decode cX12_root 47 = .ok (.goto 7, 3) := by decide +kernel
theorem dX12_root_50 : decode cX12_root 50 = .ok (.lload 6, 2) := by decide +kernel
theorem dX12_root_52 : decode cX12_root 52 = .ok (.lstore 4, 2) := by decide +kernel
theorem dX12_root_54 : decode cX12_root 54 = .ok (.goto (-39), 3) := by decide +kernel
theorem dX12_root_57 : decode cX12_root 57 = .ok (.lload_n 2, 1) := by decide +kernel
theorem dX12_root_58 : decode cX12_root 58 = .ok (.lreturn, 1) := by decide +kernel
set_option maxRecDepth 20000 in
theorem ggX12_divisor_X12_divisor : GoodIn wsX12_divisor wsX12_divisor := goodIn_ca (goodIn_r _ [0, 1, 2, 3] (by decide +kernel) (by decide +kernel)) (goodIn_sub (fun _ h => List.mem_cons_of_mem _ (List.mem_append_right _ h)) (by decide +kernel))
set_option maxRecDepth 20000 in
theorem gX12_divisor_X12_divisor : GoodIn wsX12_divisor (va_wsS RX12 5 yX12_divisor wsX12_divisor) := goodIn_app (goodIn_of _ (by decide +kernel)) ggX12_divisor_X12_divisor
theorem dX12_divisor_0 : decode cX12_divisor 0 = .ok (.iload_n 1, 1) := by decide +kernel
theorem dX12_divisor_1 : decode cX12_divisor 1 = .ok (.ifCond .ne 7, 3) := by decide +kernel
theorem dX12_divisor_4 : decode cX12_divisor 4 = .ok (.iload_n 0, 1) := by decide +kernel
theorem dX12_divisor_5 : decode cX12_divisor 5 = .ok (.goto 10, 3) := by decide +kernel
theorem dX12_divisor_8 : decode cX12_divisor 8 = .ok (.iload_n 1, 1) := by decide +kernel
theorem dX12_divisor_9 : decode cX12_divisor 9 = .ok (.iload_n 0, 1) := by decide +kernel
theorem dX12_divisor_10 : decode cX12_divisor 10 = .ok (.iload_n 1, 1) := by decide +kernel
theorem dX12_divisor_11 : decode cX12_divisor 11 = .ok (.irem, 1) := by decide +kernel
theorem dX12_divisor_12 : decode cX12_divisor 12 = .ok (.invokestatic 5, 3) := by decide +kernel
theorem dX12_divisor_15 : decode cX12_divisor 15 = .ok (.ireturn, 1) := by decide +kernel
set_option maxRecDepth 20000 in
theorem ggX12_gradeOf_X12_limitOf : GoodIn wsX12_gradeOf wsX12_limitOf := goodIn_r _ [4] (by decide +kernel) (by decide +kernel)
set_option maxRecDepth 20000 in
theorem gX12_gradeOf_X12_limitOf : GoodIn wsX12_gradeOf (va_wsS RX12 11 yX12_limitOf wsX12_limitOf) := goodIn_app (goodIn_of _ (by decide +kernel)) ggX12_gradeOf_X12_limitOf
theorem dX12_gradeOf_0 : decode cX12_gradeOf 0 = .ok (.iconst 0, 1) := by decide +kernel
theorem dX12_gradeOf_1 : decode cX12_gradeOf 1 = .ok (.istore_n 1, 1) := by decide +kernel
theorem dX12_gradeOf_2 : decode cX12_gradeOf 2 = .ok (.iload_n 1, 1) := by decide +kernel
theorem dX12_gradeOf_3 : decode cX12_gradeOf 3 = .ok (.bipush 13, 2) := by decide +kernel
theorem dX12_gradeOf_5 : decode cX12_gradeOf 5 = .ok (.if_icmp .ge 17, 3) := by decide +kernel
theorem dX12_gradeOf_8 : decode cX12_gradeOf 8 = .ok (.iload_n 0, 1) := by decide +kernel
theorem dX12_gradeOf_9 : decode cX12_gradeOf 9 = .ok (.iload_n 1, 1) := by decide +kernel
theorem dX12_gradeOf_10 : decode cX12_gradeOf 10 = .ok (.invokestatic 11, 3) := by decide +kernel
theorem dX12_gradeOf_13 : decode cX12_gradeOf 13 = .ok (.if_icmp .le 9, 3) := by decide +kernel
theorem dX12_gradeOf_16 : decode cX12_gradeOf 16 = .ok (.iinc 1 1, 3) := by decide +kernel
theorem dX12_gradeOf_19 : decode cX12_gradeOf 19 = .ok (.goto (-17), 3) := by decide +kernel
theorem dX12_gradeOf_22 : decode cX12_gradeOf 22 = .ok (.iload_n 1, 1) := by decide +kernel
theorem dX12_gradeOf_23 : decode cX12_gradeOf 23 = .ok (.ireturn, 1) := by decide +kernel
theorem dX12_limitOf_0 : decode cX12_limitOf 0 = .ok (.iload_n 0, 1) := by decide +kernel
theorem dX12_limitOf_1 : decode cX12_limitOf 1 = .ok (.tableswitch 96 0 11 #[63, 65, 67, 69, 72, 75, 78, 81, 84, 87, 90, 93], 63) := by decide +kernel
theorem dX12_limitOf_64 : decode cX12_limitOf 64 = .ok (.iconst 2, 1) := by decide +kernel
theorem dX12_limitOf_65 : decode cX12_limitOf 65 = .ok (.ireturn, 1) := by decide +kernel
theorem dX12_limitOf_66 : decode cX12_limitOf 66 = .ok (.iconst 3, 1) := by decide +kernel
theorem dX12_limitOf_67 : decode cX12_limitOf 67 = .ok (.ireturn, 1) := by decide +kernel
theorem dX12_limitOf_68 : decode cX12_limitOf 68 = .ok (.iconst 4, 1) := by decide +kernel
theorem dX12_limitOf_69 : decode cX12_limitOf 69 = .ok (.ireturn, 1) := by decide +kernel
theorem dX12_limitOf_70 : decode cX12_limitOf 70 = .ok (.bipush 6, 2) := by decide +kernel
theorem dX12_limitOf_72 : decode cX12_limitOf 72 = .ok (.ireturn, 1) := by decide +kernel
theorem dX12_limitOf_73 : decode cX12_limitOf 73 = .ok (.bipush 8, 2) := by decide +kernel
theorem dX12_limitOf_75 : decode cX12_limitOf 75 = .ok (.ireturn, 1) := by decide +kernel
theorem dX12_limitOf_76 : decode cX12_limitOf 76 = .ok (.bipush 11, 2) := by decide +kernel
theorem dX12_limitOf_78 : decode cX12_limitOf 78 = .ok (.ireturn, 1) := by decide +kernel
theorem dX12_limitOf_79 : decode cX12_limitOf 79 = .ok (.bipush 16, 2) := by decide +kernel
theorem dX12_limitOf_81 : decode cX12_limitOf 81 = .ok (.ireturn, 1) := by decide +kernel
theorem dX12_limitOf_82 : decode cX12_limitOf 82 = .ok (.bipush 22, 2) := by decide +kernel
theorem dX12_limitOf_84 : decode cX12_limitOf 84 = .ok (.ireturn, 1) := by decide +kernel
theorem dX12_limitOf_85 : decode cX12_limitOf 85 = .ok (.bipush 32, 2) := by decide +kernel
theorem dX12_limitOf_87 : decode cX12_limitOf 87 = .ok (.ireturn, 1) := by decide +kernel
theorem dX12_limitOf_88 : decode cX12_limitOf 88 = .ok (.bipush 45, 2) := by decide +kernel
theorem dX12_limitOf_90 : decode cX12_limitOf 90 = .ok (.ireturn, 1) := by decide +kernel
theorem dX12_limitOf_91 : decode cX12_limitOf 91 = .ok (.bipush 64, 2) := by decide +kernel
theorem dX12_limitOf_93 : decode cX12_limitOf 93 = .ok (.ireturn, 1) := by decide +kernel
theorem dX12_limitOf_94 : decode cX12_limitOf 94 = .ok (.bipush 90, 2) := by decide +kernel
theorem dX12_limitOf_96 : decode cX12_limitOf 96 = .ok (.ireturn, 1) := by decide +kernel
theorem dX12_limitOf_97 : decode cX12_limitOf 97 = .ok (.sipush 128, 3) := by decide +kernel
theorem dX12_limitOf_100 : decode cX12_limitOf 100 = .ok (.ireturn, 1) := by decide +kernel
set_option maxRecDepth 20000 in
theorem ggX12_init_Jx4a65c_init_da8c8 : GoodIn wsX12_init wsJx4a65c_init_da8c8 := goodIn_r _ [33, 34, 35, 36, 37, 38, 39, 40, 41, 42, 43, 44, 45, 2, 3, 46, 47, 48] (by decide +kernel) (by decide +kernel)
set_option maxRecDepth 20000 in
theorem gX12_init_Jx4a65c_init_da8c8 : GoodIn wsX12_init (wsJx4a65c_init_da8c8) := ggX12_init_Jx4a65c_init_da8c8
theorem dX12_init_0 : decode cX12_init 0 = .ok (.aload_n 0, 1) := by decide +kernel
theorem dX12_init_1 : decode cX12_init 1 = .ok (.invokespecial 15, 3) := by decide +kernel
theorem dX12_init_4 : decode cX12_init 4 = .ok (.aload_n 0, 1) := by decide +kernel
theorem dX12_init_5 : decode cX12_init 5 = .ok (.new 21, 3) := by decide +kernel
theorem dX12_init_8 : decode cX12_init 8 = .ok (.dup, 1) := by decide +kernel
theorem dX12_init_9 : decode cX12_init 9 = .ok (.invokespecial 23, 3) := by decide +kernel
theorem dX12_init_12 : decode cX12_init 12 = .ok (.putfield 24, 3) := by decide +kernel
theorem dX12_init_15 : decode cX12_init 15 = .ok (.aload_n 0, 1) := by decide +kernel
theorem dX12_init_16 : decode cX12_init 16 = .ok (.new 21, 3) := by decide +kernel
theorem dX12_init_19 : decode cX12_init 19 = .ok (.dup, 1) := by decide +kernel
theorem dX12_init_20 : decode cX12_init 20 = .ok (.invokespecial 23, 3) := by decide +kernel
theorem dX12_init_23 : decode cX12_init 23 = .ok (.putfield 28, 3) := by decide +kernel
theorem dX12_init_26 : decode cX12_init 26 = .ok (.aload_n 0, 1) := by decide +kernel
theorem dX12_init_27 : decode cX12_init 27 = .ok (.bipush 16, 2) := by decide +kernel
theorem dX12_init_29 : decode cX12_init 29 = .ok (.newarray .int, 2) := by decide +kernel
theorem dX12_init_31 : decode cX12_init 31 = .ok (.putfield 31, 3) := by decide +kernel
theorem dX12_init_34 : decode cX12_init 34 = .ok (.aload_n 0, 1) := by decide +kernel
theorem dX12_init_35 : decode cX12_init 35 = .ok (.iconst 4, 1) := by decide +kernel
theorem dX12_init_36 : decode cX12_init 36 = .ok (.newarray .int, 2) := by decide +kernel
theorem dX12_init_38 : decode cX12_init 38 = .ok (.putfield 35, 3) := by decide +kernel
theorem dX12_init_41 : decode cX12_init 41 = .ok (.aload_n 0, 1) := by decide +kernel
theorem dX12_init_42 : decode cX12_init 42 = .ok (.iconst 4, 1) := by decide +kernel
theorem dX12_init_43 : decode cX12_init 43 = .ok (.newarray .int, 2) := by decide +kernel
theorem dX12_init_45 : decode cX12_init 45 = .ok (.putfield 38, 3) := by decide +kernel
theorem dX12_init_48 : decode cX12_init 48 = .ok (.aload_n 0, 1) := by decide +kernel
theorem dX12_init_49 : decode cX12_init 49 = .ok (.bipush 6, 2) := by decide +kernel
theorem dX12_init_51 : decode cX12_init 51 = .ok (.newarray .char, 2) := by decide +kernel
theorem dX12_init_53 : decode cX12_init 53 = .ok (.putfield 41, 3) := by decide +kernel
theorem dX12_init_56 : decode cX12_init 56 = .ok (.aload_n 0, 1) := by decide +kernel
theorem dX12_init_57 : decode cX12_init 57 = .ok (.bipush 6, 2) := by decide +kernel
theorem dX12_init_59 : decode cX12_init 59 = .ok (.newarray .int, 2) := by decide +kernel
theorem dX12_init_61 : decode cX12_init 61 = .ok (.putfield 45, 3) := by decide +kernel
theorem dX12_init_64 : decode cX12_init 64 = .ok (.aload_n 0, 1) := by decide +kernel
theorem dX12_init_65 : decode cX12_init 65 = .ok (.bipush 6, 2) := by decide +kernel
theorem dX12_init_67 : decode cX12_init 67 = .ok (.newarray .int, 2) := by decide +kernel
theorem dX12_init_69 : decode cX12_init 69 = .ok (.putfield 48, 3) := by decide +kernel
theorem dX12_init_72 : decode cX12_init 72 = .ok (.aload_n 0, 1) := by decide +kernel
theorem dX12_init_73 : decode cX12_init 73 = .ok (.bipush 6, 2) := by decide +kernel
theorem dX12_init_75 : decode cX12_init 75 = .ok (.newarray .int, 2) := by decide +kernel
theorem dX12_init_77 : decode cX12_init 77 = .ok (.putfield 51, 3) := by decide +kernel
theorem dX12_init_80 : decode cX12_init 80 = .ok (.aload_n 0, 1) := by decide +kernel
theorem dX12_init_81 : decode cX12_init 81 = .ok (.iconst 4, 1) := by decide +kernel
theorem dX12_init_82 : decode cX12_init 82 = .ok (.newarray .int, 2) := by decide +kernel
theorem dX12_init_84 : decode cX12_init 84 = .ok (.putfield 54, 3) := by decide +kernel
theorem dX12_init_87 : decode cX12_init 87 = .ok (.aload_n 0, 1) := by decide +kernel
theorem dX12_init_88 : decode cX12_init 88 = .ok (.iconst 4, 1) := by decide +kernel
theorem dX12_init_89 : decode cX12_init 89 = .ok (.newarray .int, 2) := by decide +kernel
theorem dX12_init_91 : decode cX12_init 91 = .ok (.putfield 57, 3) := by decide +kernel
theorem dX12_init_94 : decode cX12_init 94 = .ok (.aload_n 0, 1) := by decide +kernel
theorem dX12_init_95 : decode cX12_init 95 = .ok (.iconst 4, 1) := by decide +kernel
theorem dX12_init_96 : decode cX12_init 96 = .ok (.newarray .int, 2) := by decide +kernel
theorem dX12_init_98 : decode cX12_init 98 = .ok (.putfield 60, 3) := by decide +kernel
theorem dX12_init_101 : decode cX12_init 101 = .ok (.aload_n 0, 1) := by decide +kernel
theorem dX12_init_102 : decode cX12_init 102 = .ok (.iconst 4, 1) := by decide +kernel
theorem dX12_init_103 : decode cX12_init 103 = .ok (.newarray .int, 2) := by decide +kernel
theorem dX12_init_105 : decode cX12_init 105 = .ok (.putfield 63, 3) := by decide +kernel
theorem dX12_init_108 : decode cX12_init 108 = .ok (.aload_n 0, 1) := by decide +kernel
theorem dX12_init_109 : decode cX12_init 109 = .ok (.iconst 5, 1) := by decide +kernel
theorem dX12_init_110 : decode cX12_init 110 = .ok (.newarray .int, 2) := by decide +kernel
theorem dX12_init_112 : decode cX12_init 112 = .ok (.putfield 66, 3) := by decide +kernel
theorem dX12_init_115 : decode cX12_init 115 = .ok (.aload_n 0, 1) := by decide +kernel
theorem dX12_init_116 : decode cX12_init 116 = .ok (.iconst 5, 1) := by decide +kernel
theorem dX12_init_117 : decode cX12_init 117 = .ok (.newarray .int, 2) := by decide +kernel
theorem dX12_init_119 : decode cX12_init 119 = .ok (.putfield 69, 3) := by decide +kernel
theorem dX12_init_122 : decode cX12_init 122 = .ok (.aload_n 0, 1) := by decide +kernel
theorem dX12_init_123 : decode cX12_init 123 = .ok (.bipush 24, 2) := by decide +kernel
theorem dX12_init_125 : decode cX12_init 125 = .ok (.putfield 72, 3) := by decide +kernel
theorem dX12_init_128 : decode cX12_init 128 = .ok (.aload_n 0, 1) := by decide +kernel
theorem dX12_init_129 : decode cX12_init 129 = .ok (.bipush 60, 2) := by decide +kernel
theorem dX12_init_131 : decode cX12_init 131 = .ok (.putfield 76, 3) := by decide +kernel
theorem dX12_init_134 : decode cX12_init 134 = .ok (.aload_n 0, 1) := by decide +kernel
theorem dX12_init_135 : decode cX12_init 135 = .ok (.sipush 200, 3) := by decide +kernel
theorem dX12_init_138 : decode cX12_init 138 = .ok (.newarray .int, 2) := by decide +kernel
theorem dX12_init_140 : decode cX12_init 140 = .ok (.putfield 79, 3) := by decide +kernel
theorem dX12_init_143 : decode cX12_init 143 = .ok (.aload_n 0, 1) := by decide +kernel
theorem dX12_init_144 : decode cX12_init 144 = .ok (.sipush 200, 3) := by decide +kernel
theorem dX12_init_147 : decode cX12_init 147 = .ok (.newarray .int, 2) := by decide +kernel
theorem dX12_init_149 : decode cX12_init 149 = .ok (.putfield 82, 3) := by decide +kernel
theorem dX12_init_152 : decode cX12_init 152 = .ok (.aload_n 0, 1) := by decide +kernel
theorem dX12_init_153 : decode cX12_init 153 = .ok (.sipush 200, 3) := by decide +kernel
theorem dX12_init_156 : decode cX12_init 156 = .ok (.newarray .int, 2) := by decide +kernel
theorem dX12_init_158 : decode cX12_init 158 = .ok (.putfield 85, 3) := by decide +kernel
theorem dX12_init_161 : decode cX12_init 161 = .ok (.aload_n 0, 1) := by decide +kernel
theorem dX12_init_162 : decode cX12_init 162 = .ok (.sipush 200, 3) := by decide +kernel
theorem dX12_init_165 : decode cX12_init 165 = .ok (.newarray .int, 2) := by decide +kernel
theorem dX12_init_167 : decode cX12_init 167 = .ok (.putfield 88, 3) := by decide +kernel
theorem dX12_init_170 : decode cX12_init 170 = .ok (.aload_n 0, 1) := by decide +kernel
theorem dX12_init_171 : decode cX12_init 171 = .ok (.bipush 25, 2) := by decide +kernel
theorem dX12_init_173 : decode cX12_init 173 = .ok (.newarray .int, 2) := by decide +kernel
theorem dX12_init_175 : decode cX12_init 175 = .ok (.putfield 91, 3) := by decide +kernel
theorem dX12_init_178 : decode cX12_init 178 = .ok (.return_, 1) := by decide +kernel
theorem dX12_thrown_0 : decode cX12_thrown 0 = .ok (.aload_n 0, 1) := by decide +kernel
theorem dX12_thrown_1 : decode cX12_thrown 1 = .ok (.getfield 94, 3) := by decide +kernel
theorem dX12_thrown_4 : decode cX12_thrown 4 = .ok (.ireturn, 1) := by decide +kernel
theorem dX12_fails_0 : decode cX12_fails 0 = .ok (.aload_n 0, 1) := by decide +kernel
theorem dX12_fails_1 : decode cX12_fails 1 = .ok (.iload_n 1, 1) := by decide +kernel
theorem dX12_fails_2 : decode cX12_fails 2 = .ok (.putfield 94, 3) := by decide +kernel
theorem dX12_fails_5 : decode cX12_fails 5 = .ok (.iconst 0, 1) := by decide +kernel
theorem dX12_fails_6 : decode cX12_fails 6 = .ok (.ireturn, 1) := by decide +kernel
theorem dX12_answer_0 : decode cX12_answer 0 = .ok (.aload_n 0, 1) := by decide +kernel
theorem dX12_answer_1 : decode cX12_answer 1 = .ok (.iconst 0, 1) := by decide +kernel
theorem dX12_answer_2 : decode cX12_answer 2 = .ok (.putfield 94, 3) := by decide +kernel
theorem dX12_answer_5 : decode cX12_answer 5 = .ok (.iload_n 1, 1) := by decide +kernel
theorem dX12_answer_6 : decode cX12_answer 6 = .ok (.ireturn, 1) := by decide +kernel
theorem dX12_answerLong_0 : decode cX12_answerLong 0 = .ok (.aload_n 0, 1) := by decide +kernel
theorem dX12_answerLong_1 : decode cX12_answerLong 1 = .ok (.iconst 0, 1) := by decide +kernel
theorem dX12_answerLong_2 : decode cX12_answerLong 2 = .ok (.putfield 94, 3) := by decide +kernel
theorem dX12_answerLong_5 : decode cX12_answerLong 5 = .ok (.lload_n 1, 1) := by decide +kernel
theorem dX12_answerLong_6 : decode cX12_answerLong 6 = .ok (.lreturn, 1) := by decide +kernel
theorem dX12_refuses_0 : decode cX12_refuses 0 = .ok (.aload_n 0, 1) := by decide +kernel
theorem dX12_refuses_1 : decode cX12_refuses 1 = .ok (.iload_n 1, 1) := by decide +kernel
theorem dX12_refuses_2 : decode cX12_refuses 2 = .ok (.putfield 94, 3) := by decide +kernel
theorem dX12_refuses_5 : decode cX12_refuses 5 = .ok (.iconst 0, 1) := by decide +kernel
theorem dX12_refuses_6 : decode cX12_refuses 6 = .ok (.ireturn, 1) := by decide +kernel
theorem dX12_says_0 : decode cX12_says 0 = .ok (.aload_n 0, 1) := by decide +kernel
theorem dX12_says_1 : decode cX12_says 1 = .ok (.iconst 0, 1) := by decide +kernel
theorem dX12_says_2 : decode cX12_says 2 = .ok (.putfield 94, 3) := by decide +kernel
theorem dX12_says_5 : decode cX12_says 5 = .ok (.iload_n 1, 1) := by decide +kernel
theorem dX12_says_6 : decode cX12_says 6 = .ok (.ireturn, 1) := by decide +kernel
theorem dX12_in_0 : decode cX12_in 0 = .ok (.lload_n 0, 1) := by decide +kernel
theorem dX12_in_1 : decode cX12_in 1 = .ok (.lload_n 2, 1) := by decide +kernel
theorem dX12_in_2 : decode cX12_in 2 = .ok (.lcmp, 1) := by decide +kernel
theorem dX12_in_3 : decode cX12_in 3 = .ok (.ifCond .lt 14, 3) := by decide +kernel
theorem dX12_in_6 : decode cX12_in 6 = .ok (.lload_n 0, 1) := by decide +kernel
theorem dX12_in_7 : decode cX12_in 7 = .ok (.lload 4, 2) := by decide +kernel
theorem dX12_in_9 : decode cX12_in 9 = .ok (.lcmp, 1) := by decide +kernel
theorem dX12_in_10 : decode cX12_in 10 = .ok (.ifCond .gt 7, 3) := by decide +kernel
theorem dX12_in_13 : decode cX12_in 13 = .ok (.iconst 1, 1) := by decide +kernel
theorem dX12_in_14 : decode cX12_in 14 = .ok (.goto 4, 3) := by decide +kernel
theorem dX12_in_17 : decode cX12_in 17 = .ok (.iconst 0, 1) := by decide +kernel
theorem dX12_in_18 : decode cX12_in 18 = .ok (.ireturn, 1) := by decide +kernel
set_option maxRecDepth 20000 in
theorem ggX12_isGear_Jx4a65c_size_8abf5 : GoodIn wsX12_isGear wsJx4a65c_size_8abf5 := goodIn_r _ [6, 7, 46, 47, 48] (by decide +kernel) (by decide +kernel)
set_option maxRecDepth 20000 in
theorem gX12_isGear_Jx4a65c_size_8abf5 : GoodIn wsX12_isGear (wsV RX12 97 RJx4a65c yJx4a65c_size_8abf5 wsJx4a65c_size_8abf5) := goodIn_app (goodIn_of _ (by decide +kernel)) ggX12_isGear_Jx4a65c_size_8abf5
set_option maxRecDepth 20000 in
theorem ggX12_isGear_X12_in : GoodIn wsX12_isGear wsX12_in := goodIn_r _ [11] (by decide +kernel) (by decide +kernel)
set_option maxRecDepth 20000 in
theorem gX12_isGear_X12_in : GoodIn wsX12_isGear (va_wsS RX12 101 yX12_in wsX12_in) := goodIn_app (goodIn_of _ (by decide +kernel)) ggX12_isGear_X12_in
theorem dX12_isGear_0 : decode cX12_isGear 0 = .ok (.iload_n 1, 1) := by decide +kernel
theorem dX12_isGear_1 : decode cX12_isGear 1 = .ok (.i2l, 1) := by decide +kernel
theorem dX12_isGear_2 : decode cX12_isGear 2 = .ok (.lconst 0, 1) := by decide +kernel
theorem dX12_isGear_3 : decode cX12_isGear 3 = .ok (.aload_n 0, 1) := by decide +kernel
theorem dX12_isGear_4 : decode cX12_isGear 4 = .ok (.getfield 24, 3) := by decide +kernel
theorem dX12_isGear_7 : decode cX12_isGear 7 = .ok (.invokevirtual 97, 3) := by decide +kernel
theorem dX12_isGear_10 : decode cX12_isGear 10 = .ok (.iconst 1, 1) := by decide +kernel
theorem dX12_isGear_11 : decode cX12_isGear 11 = .ok (.isub, 1) := by decide +kernel
theorem dX12_isGear_12 : decode cX12_isGear 12 = .ok (.i2l, 1) := by decide +kernel
theorem dX12_isGear_13 : decode cX12_isGear 13 = .ok (.invokestatic 101, 3) := by decide +kernel
theorem dX12_isGear_16 : decode cX12_isGear 16 = .ok (.ireturn, 1) := by decide +kernel
set_option maxRecDepth 20000 in
theorem ggX12_isHob_Jx4a65c_size_8abf5 : GoodIn wsX12_isHob wsJx4a65c_size_8abf5 := goodIn_r _ [6, 7, 46, 47, 48] (by decide +kernel) (by decide +kernel)
set_option maxRecDepth 20000 in
theorem gX12_isHob_Jx4a65c_size_8abf5 : GoodIn wsX12_isHob (wsV RX12 97 RJx4a65c yJx4a65c_size_8abf5 wsJx4a65c_size_8abf5) := goodIn_app (goodIn_of _ (by decide +kernel)) ggX12_isHob_Jx4a65c_size_8abf5
set_option maxRecDepth 20000 in
theorem ggX12_isHob_X12_in : GoodIn wsX12_isHob wsX12_in := goodIn_r _ [11] (by decide +kernel) (by decide +kernel)
set_option maxRecDepth 20000 in
theorem gX12_isHob_X12_in : GoodIn wsX12_isHob (va_wsS RX12 101 yX12_in wsX12_in) := goodIn_app (goodIn_of _ (by decide +kernel)) ggX12_isHob_X12_in
theorem dX12_isHob_0 : decode cX12_isHob 0 = .ok (.iload_n 1, 1) := by decide +kernel
theorem dX12_isHob_1 : decode cX12_isHob 1 = .ok (.i2l, 1) := by decide +kernel
theorem dX12_isHob_2 : decode cX12_isHob 2 = .ok (.lconst 0, 1) := by decide +kernel
theorem dX12_isHob_3 : decode cX12_isHob 3 = .ok (.aload_n 0, 1) := by decide +kernel
theorem dX12_isHob_4 : decode cX12_isHob 4 = .ok (.getfield 28, 3) := by decide +kernel
theorem dX12_isHob_7 : decode cX12_isHob 7 = .ok (.invokevirtual 97, 3) := by decide +kernel
theorem dX12_isHob_10 : decode cX12_isHob 10 = .ok (.iconst 1, 1) := by decide +kernel
theorem dX12_isHob_11 : decode cX12_isHob 11 = .ok (.isub, 1) := by decide +kernel
theorem dX12_isHob_12 : decode cX12_isHob 12 = .ok (.i2l, 1) := by decide +kernel
theorem dX12_isHob_13 : decode cX12_isHob 13 = .ok (.invokestatic 101, 3) := by decide +kernel
theorem dX12_isHob_16 : decode cX12_isHob 16 = .ok (.ireturn, 1) := by decide +kernel
set_option maxRecDepth 20000 in
theorem ggX12_gearAt_Jx4a65c_get_915e3 : GoodIn wsX12_gearAt wsJx4a65c_get_915e3 := goodIn_r _ [7, 8, 9, 10, 11, 12, 13, 14, 15, 16, 17, 18, 19, 6, 20, 21, 56, 57, 58] (by decide +kernel) (by decide +kernel)
set_option maxRecDepth 20000 in
theorem gX12_gearAt_Jx4a65c_get_915e3 : GoodIn wsX12_gearAt (wsV RX12 105 RJx4a65c yJx4a65c_get_915e3 wsJx4a65c_get_915e3) := goodIn_app (goodIn_of _ (by decide +kernel)) ggX12_gearAt_Jx4a65c_get_915e3
theorem dX12_gearAt_0 : decode cX12_gearAt 0 = .ok (.aload_n 0, 1) := by decide +kernel
theorem dX12_gearAt_1 : decode cX12_gearAt 1 = .ok (.getfield 24, 3) := by decide +kernel
theorem dX12_gearAt_4 : decode cX12_gearAt 4 = .ok (.iload_n 1, 1) := by decide +kernel
theorem dX12_gearAt_5 : decode cX12_gearAt 5 = .ok (.invokevirtual 105, 3) := by decide +kernel
theorem dX12_gearAt_8 : decode cX12_gearAt 8 = .ok (.checkcast 109, 3) := by decide +kernel
theorem dX12_gearAt_11 : decode cX12_gearAt 11 = .ok (.areturn, 1) := by decide +kernel
set_option maxRecDepth 20000 in
theorem ggX12_isPair_X12_gearAt : GoodIn wsX12_isPair wsX12_gearAt := goodIn_r _ [5, 6, 7, 8, 9, 10, 11, 12, 13, 14, 15, 16, 17, 18, 19, 20, 21, 22, 23, 24, 25, 26, 50, 51, 52, 53, 54, 55, 56, 57, 58, 59, 60, 61, 62, 63, 64, 65, 66, 67, 68, 69, 70, 71, 72, 73, 74, 75, 76, 77, 78, 79, 80, 81, 82, 83, 84, 85, 86] (by decide +kernel) (by decide +kernel)
set_option maxRecDepth 20000 in
theorem gX12_isPair_X12_gearAt : GoodIn wsX12_isPair (wsV RX12 111 RX12 yX12_gearAt wsX12_gearAt) := goodIn_app (goodIn_of _ (by decide +kernel)) ggX12_isPair_X12_gearAt
theorem dX12_isPair_0 : decode cX12_isPair 0 = .ok (.aload_n 0, 1) := by decide +kernel
theorem dX12_isPair_1 : decode cX12_isPair 1 = .ok (.iload_n 1, 1) := by decide +kernel
theorem dX12_isPair_2 : decode cX12_isPair 2 = .ok (.invokevirtual 111, 3) := by decide +kernel
theorem dX12_isPair_5 : decode cX12_isPair 5 = .ok (.astore_n 3, 1) := by decide +kernel
theorem dX12_isPair_6 : decode cX12_isPair 6 = .ok (.aload_n 0, 1) := by decide +kernel
theorem dX12_isPair_7 : decode cX12_isPair 7 = .ok (.iload_n 2, 1) := by decide +kernel
theorem dX12_isPair_8 : decode cX12_isPair 8 = .ok (.invokevirtual 111, 3) := by decide +kernel
theorem dX12_isPair_11 : decode cX12_isPair 11 = .ok (.astore 4, 2) := by decide +kernel
theorem dX12_isPair_13 : decode cX12_isPair 13 = .ok (.iload_n 1, 1) := by decide +kernel
theorem dX12_isPair_14 : decode cX12_isPair 14 = .ok (.iload_n 2, 1) := by decide +kernel
theorem dX12_isPair_15 : decode cX12_isPair 15 = .ok (.if_icmp .eq 32, 3) := by decide +kernel
theorem dX12_isPair_18 : decode cX12_isPair 18 = .ok (.aload_n 3, 1) := by decide +kernel
theorem dX12_isPair_19 : decode cX12_isPair 19 = .ok (.getfield 115, 3) := by decide +kernel
theorem dX12_isPair_22 : decode cX12_isPair 22 = .ok (.aload 4, 2) := by decide +kernel
theorem dX12_isPair_24 : decode cX12_isPair 24 = .ok (.getfield 115, 3) := by decide +kernel
theorem dX12_isPair_27 : decode cX12_isPair 27 = .ok (.if_icmp .ne 20, 3) := by decide +kernel
theorem dX12_isPair_30 : decode cX12_isPair 30 = .ok (.aload_n 3, 1) := by decide +kernel
theorem dX12_isPair_31 : decode cX12_isPair 31 = .ok (.getfield 118, 3) := by decide +kernel
theorem dX12_isPair_34 : decode cX12_isPair 34 = .ok (.aload 4, 2) := by decide +kernel
theorem dX12_isPair_36 : decode cX12_isPair 36 = .ok (.getfield 118, 3) := by decide +kernel
theorem dX12_isPair_39 : decode cX12_isPair 39 = .ok (.iadd, 1) := by decide +kernel
theorem dX12_isPair_40 : decode cX12_isPair 40 = .ok (.ifCond .ne 7, 3) := by decide +kernel
theorem dX12_isPair_43 : decode cX12_isPair 43 = .ok (.iconst 1, 1) := by decide +kernel
theorem dX12_isPair_44 : decode cX12_isPair 44 = .ok (.goto 4, 3) := by decide +kernel
theorem dX12_isPair_47 : decode cX12_isPair 47 = .ok (.iconst 0, 1) := by decide +kernel
theorem dX12_isPair_48 : decode cX12_isPair 48 = .ok (.ireturn, 1) := by decide +kernel
set_option maxRecDepth 20000 in
theorem ggX12_isAsked_X12_isGear : GoodIn wsX12_isAsked wsX12_isGear := goodIn_r _ [6, 7, 8, 9, 10, 11, 12, 13, 14, 15, 5, 16, 43, 44, 45, 46, 47, 48, 49, 50, 51, 52, 53, 54, 55, 56, 57, 58, 59, 60, 61, 62, 63, 64, 65, 66, 67, 68, 69, 70, 71, 72, 73, 74, 75, 76, 77, 78, 79] (by decide +kernel) (by decide +kernel)
set_option maxRecDepth 20000 in
theorem gX12_isAsked_X12_isGear : GoodIn wsX12_isAsked (wsV RX12 121 RX12 yX12_isGear wsX12_isGear) := goodIn_app (goodIn_of _ (by decide +kernel)) ggX12_isAsked_X12_isGear
set_option maxRecDepth 20000 in
theorem ggX12_isAsked_X12_isPair : GoodIn wsX12_isAsked wsX12_isPair := goodIn_r _ [20, 21, 22, 23, 5, 24, 7, 25, 26, 27, 28, 11, 29, 13, 30, 31, 32, 33, 34, 35, 36, 37, 38, 39, 40, 41, 42, 80, 81, 82, 83, 84, 85, 86, 87, 88, 89, 90, 91, 92, 93, 94, 95, 96, 97, 98, 99, 100, 101, 102, 43, 44, 45, 46, 47, 48, 49, 50, 51, 52, 53, 54, 55, 56, 57, 58, 59, 60, 61, 62, 63, 64, 65, 66, 67, 68, 69, 70, 71, 72, 73, 74, 75, 76, 77, 78, 79] (by decide +kernel) (by decide +kernel)
set_option maxRecDepth 20000 in
theorem gX12_isAsked_X12_isPair : GoodIn wsX12_isAsked (wsV RX12 125 RX12 yX12_isPair wsX12_isPair) := goodIn_app (goodIn_of _ (by decide +kernel)) ggX12_isAsked_X12_isPair
theorem dX12_isAsked_0 : decode cX12_isAsked 0 = .ok (.aload_n 0, 1) := by decide +kernel
theorem dX12_isAsked_1 : decode cX12_isAsked 1 = .ok (.aload_n 0, 1) := by decide +kernel
theorem dX12_isAsked_2 : decode cX12_isAsked 2 = .ok (.iload_n 1, 1) := by decide +kernel
theorem dX12_isAsked_3 : decode cX12_isAsked 3 = .ok (.invokevirtual 121, 3) := by decide +kernel
theorem dX12_isAsked_6 : decode cX12_isAsked 6 = .ok (.ifCond .eq 11, 3) := by decide +kernel
theorem dX12_isAsked_9 : decode cX12_isAsked 9 = .ok (.aload_n 0, 1) := by decide +kernel
theorem dX12_isAsked_10 : decode cX12_isAsked 10 = .ok (.iload_n 2, 1) := by decide +kernel
theorem dX12_isAsked_11 : decode cX12_isAsked 11 = .ok (.invokevirtual 121, 3) := by decide +kernel
theorem dX12_isAsked_14 : decode cX12_isAsked 14 = .ok (.ifCond .ne 7, 3) := by decide +kernel
theorem dX12_isAsked_17 : decode cX12_isAsked 17 = .ok (.iload_n 3, 1) := by decide +kernel
theorem dX12_isAsked_18 : decode cX12_isAsked 18 = .ok (.goto 18, 3) := by decide +kernel
theorem dX12_isAsked_21 : decode cX12_isAsked 21 = .ok (.aload_n 0, 1) := by decide +kernel
theorem dX12_isAsked_22 : decode cX12_isAsked 22 = .ok (.iload_n 1, 1) := by decide +kernel
theorem dX12_isAsked_23 : decode cX12_isAsked 23 = .ok (.iload_n 2, 1) := by decide +kernel
theorem dX12_isAsked_24 : decode cX12_isAsked 24 = .ok (.invokevirtual 125, 3) := by decide +kernel
theorem dX12_isAsked_27 : decode cX12_isAsked 27 = .ok (.ifCond .ne 8, 3) := by decide +kernel
theorem dX12_isAsked_30 : decode cX12_isAsked 30 = .ok (.iload 4, 2) := by decide +kernel
theorem dX12_isAsked_32 : decode cX12_isAsked 32 = .ok (.goto 4, 3) := by decide +kernel
theorem dX12_isAsked_35 : decode cX12_isAsked 35 = .ok (.iconst 0, 1) := by decide +kernel
theorem dX12_isAsked_36 : decode cX12_isAsked 36 = .ok (.putfield 94, 3) := by decide +kernel
theorem dX12_isAsked_39 : decode cX12_isAsked 39 = .ok (.aload_n 0, 1) := by decide +kernel
theorem dX12_isAsked_40 : decode cX12_isAsked 40 = .ok (.getfield 94, 3) := by decide +kernel
theorem dX12_isAsked_43 : decode cX12_isAsked 43 = .ok (.ifCond .ne 7, 3) := by decide +kernel
theorem dX12_isAsked_46 : decode cX12_isAsked 46 = .ok (.iconst 1, 1) := by decide +kernel
theorem dX12_isAsked_47 : decode cX12_isAsked 47 = .ok (.goto 4, 3) := by decide +kernel
theorem dX12_isAsked_50 : decode cX12_isAsked 50 = .ok (.iconst 0, 1) := by decide +kernel
theorem dX12_isAsked_51 : decode cX12_isAsked 51 = .ok (.ireturn, 1) := by decide +kernel
set_option maxRecDepth 20000 in
theorem ggX12_gear_X12_in : GoodIn wsX12_gear wsX12_in := goodIn_r _ [15] (by decide +kernel) (by decide +kernel)
set_option maxRecDepth 20000 in
theorem gX12_gear_X12_in : GoodIn wsX12_gear (va_wsS RX12 101 yX12_in wsX12_in) := goodIn_app (goodIn_of _ (by decide +kernel)) ggX12_gear_X12_in
set_option maxRecDepth 20000 in
theorem ggX12_gear_X12_fails : GoodIn wsX12_gear wsX12_fails := goodIn_r _ [19, 20, 102, 103, 104, 105, 106, 107, 108, 109, 110, 111, 112, 113, 114, 115, 116, 117, 118, 119, 120, 121, 122, 123, 124, 125, 126, 127, 128, 129, 130, 131, 132, 133, 134, 135] (by decide +kernel) (by decide +kernel)
set_option maxRecDepth 20000 in
theorem gX12_gear_X12_fails : GoodIn wsX12_gear (wsV RX12 143 RX12 yX12_fails wsX12_fails) := goodIn_app (goodIn_of _ (by decide +kernel)) ggX12_gear_X12_fails
set_option maxRecDepth 20000 in
theorem ggX12_gear_Jx4a65c_size_8abf5 : GoodIn wsX12_gear wsJx4a65c_size_8abf5 := goodIn_r _ [25, 26, 159, 160, 161] (by decide +kernel) (by decide +kernel)
set_option maxRecDepth 20000 in
theorem gX12_gear_Jx4a65c_size_8abf5 : GoodIn wsX12_gear (wsV RX12 97 RJx4a65c yJx4a65c_size_8abf5 wsJx4a65c_size_8abf5) := goodIn_app (goodIn_of _ (by decide +kernel)) ggX12_gear_Jx4a65c_size_8abf5
set_option maxRecDepth 20000 in
theorem ggX12_gear_X10_init : GoodIn wsX12_gear wsX10_init := goodIn_r _ [29, 30, 31, 32, 33, 34, 35, 36, 37, 38, 39, 40, 41, 42, 43, 136, 137, 138, 139, 140, 141, 142, 143, 144, 145, 146, 147, 148, 149, 150, 151, 152, 153, 154, 155, 156, 157, 158] (by decide +kernel) (by decide +kernel)
set_option maxRecDepth 20000 in
theorem gX12_gear_X10_init : GoodIn wsX12_gear (wsX10_init) := ggX12_gear_X10_init
set_option maxRecDepth 20000 in
theorem ggX12_gear_Jx4a65c_add_9ea2d : GoodIn wsX12_gear wsJx4a65c_add_9ea2d := goodIn_r _ [47, 48, 49, 50, 26, 51, 52, 53, 24, 54, 55, 56, 57, 58, 59, 60, 61, 62, 63, 64, 65, 66, 67, 68, 69, 70, 71, 72, 73, 74, 75, 76, 77, 78, 79, 80, 81, 82, 83, 84, 85, 86, 87, 88, 89, 90, 91, 92, 93, 94, 95, 96, 97, 159, 160, 161] (by decide +kernel) (by decide +kernel)
set_option maxRecDepth 20000 in
theorem gX12_gear_Jx4a65c_add_9ea2d : GoodIn wsX12_gear (wsV RX12 149 RJx4a65c yJx4a65c_add_9ea2d wsJx4a65c_add_9ea2d) := goodIn_app (goodIn_of _ (by decide +kernel)) ggX12_gear_Jx4a65c_add_9ea2d
set_option maxRecDepth 20000 in
theorem ggX12_gear_X12_answer : GoodIn wsX12_gear wsX12_answer := goodIn_r _ [101, 20, 102, 103, 104, 105, 106, 107, 108, 109, 110, 111, 112, 113, 114, 115, 116, 117, 118, 119, 120, 121, 122, 123, 124, 125, 126, 127, 128, 129, 130, 131, 132, 133, 134, 135] (by decide +kernel) (by decide +kernel)
set_option maxRecDepth 20000 in
theorem gX12_gear_X12_answer : GoodIn wsX12_gear (wsV RX12 153 RX12 yX12_answer wsX12_answer) := goodIn_app (goodIn_of _ (by decide +kernel)) ggX12_gear_X12_answer
theorem dX12_gear_0 : decode cX12_gear 0 = .ok (.iload_n 1, 1) := by decide +kernel
theorem dX12_gear_1 : decode cX12_gear 1 = .ok (.i2l, 1) := by decide +kernel
theorem dX12_gear_2 : decode cX12_gear 2 = .ok (.ldc2_w 129, 3) := by decide +kernel
theorem dX12_gear_5 : decode cX12_gear 5 = .ok (.ldc2_w 131, 3) := by decide +kernel
theorem dX12_gear_8 : decode cX12_gear 8 = .ok (.invokestatic 101, 3) := by decide +kernel
theorem dX12_gear_11 : decode cX12_gear 11 = .ok (.ifCond .eq 46, 3) := by decide +kernel
theorem dX12_gear_14 : decode cX12_gear 14 = .ok (.iload_n 2, 1) := by decide +kernel
theorem dX12_gear_15 : decode cX12_gear 15 = .ok (.i2l, 1) := by decide +kernel
theorem dX12_gear_16 : decode cX12_gear 16 = .ok (.ldc2_w 133, 3) := by decide +kernel
theorem dX12_gear_19 : decode cX12_gear 19 = .ok (.ldc2_w 135, 3) := by decide +kernel
theorem dX12_gear_22 : decode cX12_gear 22 = .ok (.invokestatic 101, 3) := by decide +kernel
theorem dX12_gear_25 : decode cX12_gear 25 = .ok (.ifCond .eq 32, 3) := by decide +kernel
theorem dX12_gear_28 : decode cX12_gear 28 = .ok (.iload_n 3, 1) := by decide +kernel
theorem dX12_gear_29 : decode cX12_gear 29 = .ok (.i2l, 1) := by decide +kernel
theorem dX12_gear_30 : decode cX12_gear 30 = .ok (.ldc2_w 137, 3) := by decide +kernel
theorem dX12_gear_33 : decode cX12_gear 33 = .ok (.ldc2_w 133, 3) := by decide +kernel
theorem dX12_gear_36 : decode cX12_gear 36 = .ok (.invokestatic 101, 3) := by decide +kernel
theorem dX12_gear_39 : decode cX12_gear 39 = .ok (.ifCond .eq 18, 3) := by decide +kernel
theorem dX12_gear_42 : decode cX12_gear 42 = .ok (.iload 4, 2) := by decide +kernel
theorem dX12_gear_44 : decode cX12_gear 44 = .ok (.i2l, 1) := by decide +kernel
theorem dX12_gear_45 : decode cX12_gear 45 = .ok (.ldc2_w 139, 3) := by decide +kernel
theorem dX12_gear_48 : decode cX12_gear 48 = .ok (.ldc2_w 141, 3) := by decide +kernel
theorem dX12_gear_51 : decode cX12_gear 51 = .ok (.invokestatic 101, 3) := by decide +kernel
theorem dX12_gear_54 : decode cX12_gear 54 = .ok (.ifCond .ne 9, 3) := by decide +kernel
theorem dX12_gear_57 : decode cX12_gear 57 = .ok (.aload_n 0, 1) := by decide +kernel
theorem dX12_gear_58 : decode cX12_gear 58 = .ok (.iconst 1, 1) := by decide +kernel
theorem dX12_gear_59 : decode cX12_gear 59 = .ok (.invokevirtual 143, 3) := by decide +kernel
theorem dX12_gear_62 : decode cX12_gear 62 = .ok (.ireturn, 1) := by decide +kernel
theorem dX12_gear_63 : decode cX12_gear 63 = .ok (.aload_n 0, 1) := by decide +kernel
theorem dX12_gear_64 : decode cX12_gear 64 = .ok (.getfield 24, 3) := by decide +kernel
theorem dX12_gear_67 : decode cX12_gear 67 = .ok (.invokevirtual 97, 3) := by decide +kernel
theorem dX12_gear_70 : decode cX12_gear 70 = .ok (.bipush 20, 2) := by decide +kernel
theorem dX12_gear_72 : decode cX12_gear 72 = .ok (.if_icmp .ne 9, 3) := by decide +kernel
theorem dX12_gear_75 : decode cX12_gear 75 = .ok (.aload_n 0, 1) := by decide +kernel
theorem dX12_gear_76 : decode cX12_gear 76 = .ok (.iconst 2, 1) := by decide +kernel
theorem dX12_gear_77 : decode cX12_gear 77 = .ok (.invokevirtual 143, 3) := by decide +kernel
theorem dX12_gear_80 : decode cX12_gear 80 = .ok (.ireturn, 1) := by decide +kernel
theorem dX12_gear_81 : decode cX12_gear 81 = .ok (.aload_n 0, 1) := by decide +kernel
theorem dX12_gear_82 : decode cX12_gear 82 = .ok (.getfield 24, 3) := by decide +kernel
theorem dX12_gear_85 : decode cX12_gear 85 = .ok (.new 109, 3) := by decide +kernel
theorem dX12_gear_88 : decode cX12_gear 88 = .ok (.dup, 1) := by decide +kernel
theorem dX12_gear_89 : decode cX12_gear 89 = .ok (.aload_n 0, 1) := by decide +kernel
theorem dX12_gear_90 : decode cX12_gear 90 = .ok (.getfield 24, 3) := by decide +kernel
theorem dX12_gear_93 : decode cX12_gear 93 = .ok (.invokevirtual 97, 3) := by decide +kernel
theorem dX12_gear_96 : decode cX12_gear 96 = .ok (.iload_n 1, 1) := by decide +kernel
theorem dX12_gear_97 : decode cX12_gear 97 = .ok (.iload_n 2, 1) := by decide +kernel
theorem dX12_gear_98 : decode cX12_gear 98 = .ok (.iload_n 3, 1) := by decide +kernel
theorem dX12_gear_99 : decode cX12_gear 99 = .ok (.iload 4, 2) := by decide +kernel
theorem dX12_gear_101 : decode cX12_gear 101 = .ok (.invokespecial 146, 3) := by decide +kernel
theorem dX12_gear_104 : decode cX12_gear 104 = .ok (.invokevirtual 149, 3) := by decide +kernel
theorem dX12_gear_107 : decode cX12_gear 107 = .ok (.pop, 1) := by decide +kernel
theorem dX12_gear_108 : decode cX12_gear 108 = .ok (.aload_n 0, 1) := by decide +kernel
theorem dX12_gear_109 : decode cX12_gear 109 = .ok (.aload_n 0, 1) := by decide +kernel
theorem dX12_gear_110 : decode cX12_gear 110 = .ok (.getfield 24, 3) := by decide +kernel
theorem dX12_gear_113 : decode cX12_gear 113 = .ok (.invokevirtual 97, 3) := by decide +kernel
theorem dX12_gear_116 : decode cX12_gear 116 = .ok (.iconst 1, 1) := by decide +kernel
theorem dX12_gear_117 : decode cX12_gear 117 = .ok (.isub, 1) := by decide +kernel
theorem dX12_gear_118 : decode cX12_gear 118 = .ok (.invokevirtual 153, 3) := by decide +kernel
theorem dX12_gear_121 : decode cX12_gear 121 = .ok (.ireturn, 1) := by decide +kernel
set_option maxRecDepth 20000 in
theorem ggX12_setShift_X12_isGear : GoodIn wsX12_setShift wsX12_isGear := goodIn_r _ [7, 8, 9, 10, 11, 12, 13, 14, 15, 16, 6, 17, 72, 73, 74, 75, 76, 77, 78, 79, 80, 81, 82, 83, 84, 85, 86, 87, 88, 89, 90, 91, 92, 93, 94, 95, 96, 97, 98, 99, 100, 101, 102, 103, 104, 105, 106, 107, 108] (by decide +kernel) (by decide +kernel)
set_option maxRecDepth 20000 in
theorem gX12_setShift_X12_isGear : GoodIn wsX12_setShift (wsV RX12 121 RX12 yX12_isGear wsX12_isGear) := goodIn_app (goodIn_of _ (by decide +kernel)) ggX12_setShift_X12_isGear
set_option maxRecDepth 20000 in
theorem ggX12_setShift_X12_fails : GoodIn wsX12_setShift wsX12_fails := goodIn_r _ [21, 22, 72, 73, 74, 75, 76, 77, 78, 79, 80, 81, 82, 83, 84, 85, 86, 87, 88, 89, 90, 91, 92, 93, 94, 95, 96, 97, 98, 99, 100, 101, 102, 103, 104, 105] (by decide +kernel) (by decide +kernel)
set_option maxRecDepth 20000 in
theorem gX12_setShift_X12_fails : GoodIn wsX12_setShift (wsV RX12 143 RX12 yX12_fails wsX12_fails) := goodIn_app (goodIn_of _ (by decide +kernel)) ggX12_setShift_X12_fails
set_option maxRecDepth 20000 in
theorem ggX12_setShift_X12_in : GoodIn wsX12_setShift wsX12_in := goodIn_r _ [17] (by decide +kernel) (by decide +kernel)
set_option maxRecDepth 20000 in
theorem gX12_setShift_X12_in : GoodIn wsX12_setShift (va_wsS RX12 101 yX12_in wsX12_in) := goodIn_app (goodIn_of _ (by decide +kernel)) ggX12_setShift_X12_in
set_option maxRecDepth 20000 in
theorem ggX12_setShift_X12_gearAt : GoodIn wsX12_setShift wsX12_gearAt := goodIn_r _ [26, 8, 27, 28, 29, 30, 12, 31, 14, 32, 33, 34, 35, 36, 37, 38, 39, 40, 41, 42, 43, 44, 72, 73, 74, 75, 76, 77, 78, 79, 80, 81, 82, 83, 84, 85, 86, 87, 88, 89, 90, 91, 92, 93, 94, 95, 96, 97, 98, 99, 100, 101, 102, 103, 104, 105, 106, 107, 108] (by decide +kernel) (by decide +kernel)
set_option maxRecDepth 20000 in
theorem gX12_setShift_X12_gearAt : GoodIn wsX12_setShift (wsV RX12 111 RX12 yX12_gearAt wsX12_gearAt) := goodIn_app (goodIn_of _ (by decide +kernel)) ggX12_setShift_X12_gearAt
set_option maxRecDepth 20000 in
theorem ggX12_setShift_X12_answer : GoodIn wsX12_setShift wsX12_answer := goodIn_r _ [48, 22, 72, 73, 74, 75, 76, 77, 78, 79, 80, 81, 82, 83, 84, 85, 86, 87, 88, 89, 90, 91, 92, 93, 94, 95, 96, 97, 98, 99, 100, 101, 102, 103, 104, 105] (by decide +kernel) (by decide +kernel)
set_option maxRecDepth 20000 in
theorem gX12_setShift_X12_answer : GoodIn wsX12_setShift (wsV RX12 153 RX12 yX12_answer wsX12_answer) := goodIn_app (goodIn_of _ (by decide +kernel)) ggX12_setShift_X12_answer
theorem dX12_setShift_0 : decode cX12_setShift 0 = .ok (.aload_n 0, 1) := by decide +kernel
theorem dX12_setShift_1 : decode cX12_setShift 1 = .ok (.iload_n 1, 1) := by decide +kernel
theorem dX12_setShift_2 : decode cX12_setShift 2 = .ok (.invokevirtual 121, 3) := by decide +kernel
theorem dX12_setShift_5 : decode cX12_setShift 5 = .ok (.ifCond .ne 9, 3) := by decide +kernel
theorem dX12_setShift_8 : decode cX12_setShift 8 = .ok (.aload_n 0, 1) := by decide +kernel
theorem dX12_setShift_9 : decode cX12_setShift 9 = .ok (.iconst 1, 1) := by decide +kernel
theorem dX12_setShift_10 : decode cX12_setShift 10 = .ok (.invokevirtual 143, 3) := by decide +kernel
theorem dX12_setShift_13 : decode cX12_setShift 13 = .ok (.ireturn, 1) := by decide +kernel
theorem dX12_setShift_14 : decode cX12_setShift 14 = .ok (.iload_n 2, 1) := by decide +kernel
theorem dX12_setShift_15 : decode cX12_setShift 15 = .ok (.i2l, 1) := by decide +kernel
theorem dX12_setShift_16 : decode cX12_setShift 16 = .ok (.ldc2_w 156, 3) := by decide +kernel
theorem dX12_setShift_19 : decode cX12_setShift 19 = .ok (.ldc2_w 158, 3) := by decide +kernel
theorem dX12_setShift_22 : decode cX12_setShift 22 = .ok (.invokestatic 101, 3) := by decide +kernel
theorem dX12_setShift_25 : decode cX12_setShift 25 = .ok (.ifCond .ne 9, 3) := by decide +kernel
theorem dX12_setShift_28 : decode cX12_setShift 28 = .ok (.aload_n 0, 1) := by decide +kernel
theorem dX12_setShift_29 : decode cX12_setShift 29 = .ok (.iconst 2, 1) := by decide +kernel
theorem dX12_setShift_30 : decode cX12_setShift 30 = .ok (.invokevirtual 143, 3) := by decide +kernel
theorem dX12_setShift_33 : decode cX12_setShift 33 = .ok (.ireturn, 1) := by decide +kernel
theorem dX12_setShift_34 : decode cX12_setShift 34 = .ok (.aload_n 0, 1) := by decide +kernel
theorem dX12_setShift_35 : decode cX12_setShift 35 = .ok (.iload_n 1, 1) := by decide +kernel
theorem dX12_setShift_36 : decode cX12_setShift 36 = .ok (.invokevirtual 111, 3) := by decide +kernel
theorem dX12_setShift_39 : decode cX12_setShift 39 = .ok (.getfield 160, 3) := by decide +kernel
theorem dX12_setShift_42 : decode cX12_setShift 42 = .ok (.ifCond .eq 9, 3) := by decide +kernel
theorem dX12_setShift_45 : decode cX12_setShift 45 = .ok (.aload_n 0, 1) := by decide +kernel
theorem dX12_setShift_46 : decode cX12_setShift 46 = .ok (.iconst 3, 1) := by decide +kernel
theorem dX12_setShift_47 : decode cX12_setShift 47 = .ok (.invokevirtual 143, 3) := by decide +kernel
theorem dX12_setShift_50 : decode cX12_setShift 50 = .ok (.ireturn, 1) := by decide +kernel
theorem dX12_setShift_51 : decode cX12_setShift 51 = .ok (.aload_n 0, 1) := by decide +kernel
theorem dX12_setShift_52 : decode cX12_setShift 52 = .ok (.iload_n 1, 1) := by decide +kernel
theorem dX12_setShift_53 : decode cX12_setShift 53 = .ok (.invokevirtual 111, 3) := by decide +kernel
theorem dX12_setShift_56 : decode cX12_setShift 56 = .ok (.getfield 164, 3) := by decide +kernel
theorem dX12_setShift_59 : decode cX12_setShift 59 = .ok (.istore_n 3, 1) := by decide +kernel
theorem dX12_setShift_60 : decode cX12_setShift 60 = .ok (.aload_n 0, 1) := by decide +kernel
theorem dX12_setShift_61 : decode cX12_setShift 61 = .ok (.iload_n 1, 1) := by decide +kernel
theorem dX12_setShift_62 : decode cX12_setShift 62 = .ok (.invokevirtual 111, 3) := by decide +kernel
theorem dX12_setShift_65 : decode cX12_setShift 65 = .ok (.iload_n 2, 1) := by decide +kernel
theorem dX12_setShift_66 : decode cX12_setShift 66 = .ok (.putfield 164, 3) := by decide +kernel
theorem dX12_setShift_69 : decode cX12_setShift 69 = .ok (.aload_n 0, 1) := by decide +kernel
theorem dX12_setShift_70 : decode cX12_setShift 70 = .ok (.iload_n 3, 1) := by decide +kernel
theorem dX12_setShift_71 : decode cX12_setShift 71 = .ok (.invokevirtual 153, 3) := by decide +kernel
theorem dX12_setShift_74 : decode cX12_setShift 74 = .ok (.ireturn, 1) := by decide +kernel
set_option maxRecDepth 20000 in
theorem ggX12_diameter_X12_isGear : GoodIn wsX12_diameter wsX12_isGear := goodIn_r _ [5, 6, 7, 8, 9, 10, 11, 12, 13, 14, 4, 15, 54, 55, 56, 57, 58, 59, 60, 61, 62, 63, 64, 65, 66, 67, 68, 69, 70, 71, 72, 73, 74, 75, 76, 77, 78, 79, 80, 81, 82, 83, 84, 85, 86, 87, 88, 89, 90] (by decide +kernel) (by decide +kernel)
set_option maxRecDepth 20000 in
theorem gX12_diameter_X12_isGear : GoodIn wsX12_diameter (wsV RX12 121 RX12 yX12_isGear wsX12_isGear) := goodIn_app (goodIn_of _ (by decide +kernel)) ggX12_diameter_X12_isGear
set_option maxRecDepth 20000 in
theorem ggX12_diameter_X12_gearAt : GoodIn wsX12_diameter wsX12_gearAt := goodIn_r _ [19, 6, 20, 21, 22, 23, 10, 24, 12, 25, 26, 27, 28, 29, 30, 31, 32, 33, 34, 35, 36, 37, 54, 55, 56, 57, 58, 59, 60, 61, 62, 63, 64, 65, 66, 67, 68, 69, 70, 71, 72, 73, 74, 75, 76, 77, 78, 79, 80, 81, 82, 83, 84, 85, 86, 87, 88, 89, 90] (by decide +kernel) (by decide +kernel)
set_option maxRecDepth 20000 in
theorem gX12_diameter_X12_gearAt : GoodIn wsX12_diameter (wsV RX12 111 RX12 yX12_gearAt wsX12_gearAt) := goodIn_app (goodIn_of _ (by decide +kernel)) ggX12_diameter_X12_gearAt
set_option maxRecDepth 20000 in
theorem ggX12_diameter_X10_across : GoodIn wsX12_diameter wsX10_across := goodIn_r _ [42, 43, 44, 91, 92, 93, 94, 95, 96, 97, 98, 99, 100, 101, 102, 103, 104, 105, 106, 107, 108, 109, 110, 111, 112, 113] (by decide +kernel) (by decide +kernel)
set_option maxRecDepth 20000 in
theorem gX12_diameter_X10_across : GoodIn wsX12_diameter (wsV RX12 167 RX10 yX10_across wsX10_across) := goodIn_app (goodIn_of _ (by decide +kernel)) ggX12_diameter_X10_across
set_option maxRecDepth 20000 in
theorem ggX12_diameter_X12_answer : GoodIn wsX12_diameter wsX12_answer := goodIn_r _ [48, 49, 54, 55, 56, 57, 58, 59, 60, 61, 62, 63, 64, 65, 66, 67, 68, 69, 70, 71, 72, 73, 74, 75, 76, 77, 78, 79, 80, 81, 82, 83, 84, 85, 86, 87] (by decide +kernel) (by decide +kernel)
set_option maxRecDepth 20000 in
theorem gX12_diameter_X12_answer : GoodIn wsX12_diameter (wsV RX12 153 RX12 yX12_answer wsX12_answer) := goodIn_app (goodIn_of _ (by decide +kernel)) ggX12_diameter_X12_answer
set_option maxRecDepth 20000 in
theorem ggX12_diameter_X12_fails : GoodIn wsX12_diameter wsX12_fails := goodIn_r _ [53, 49, 54, 55, 56, 57, 58, 59, 60, 61, 62, 63, 64, 65, 66, 67, 68, 69, 70, 71, 72, 73, 74, 75, 76, 77, 78, 79, 80, 81, 82, 83, 84, 85, 86, 87] (by decide +kernel) (by decide +kernel)
set_option maxRecDepth 20000 in
theorem gX12_diameter_X12_fails : GoodIn wsX12_diameter (wsV RX12 143 RX12 yX12_fails wsX12_fails) := goodIn_app (goodIn_of _ (by decide +kernel)) ggX12_diameter_X12_fails
theorem dX12_diameter_0 : decode cX12_diameter 0 = .ok (.aload_n 0, 1) := by decide +kernel
theorem dX12_diameter_1 : decode cX12_diameter 1 = .ok (.iload_n 1, 1) := by decide +kernel
theorem dX12_diameter_2 : decode cX12_diameter 2 = .ok (.invokevirtual 121, 3) := by decide +kernel
theorem dX12_diameter_5 : decode cX12_diameter 5 = .ok (.ifCond .eq 19, 3) := by decide +kernel
theorem dX12_diameter_8 : decode cX12_diameter 8 = .ok (.aload_n 0, 1) := by decide +kernel
theorem dX12_diameter_9 : decode cX12_diameter 9 = .ok (.aload_n 0, 1) := by decide +kernel
theorem dX12_diameter_10 : decode cX12_diameter 10 = .ok (.iload_n 1, 1) := by decide +kernel
theorem dX12_diameter_11 : decode cX12_diameter 11 = .ok (.invokevirtual 111, 3) := by decide +kernel
theorem dX12_diameter_14 : decode cX12_diameter 14 = .ok (.invokevirtual 167, 3) := by decide +kernel
theorem dX12_diameter_17 : decode cX12_diameter 17 = .ok (.l2i, 1) := by decide +kernel
theorem dX12_diameter_18 : decode cX12_diameter 18 = .ok (.invokevirtual 153, 3) := by decide +kernel
theorem dX12_diameter_21 : decode cX12_diameter 21 = .ok (.goto 8, 3) := by decide +kernel
theorem dX12_diameter_24 : decode cX12_diameter 24 = .ok (.aload_n 0, 1) := by decide +kernel
theorem dX12_diameter_25 : decode cX12_diameter 25 = .ok (.iconst 1, 1) := by decide +kernel
theorem dX12_diameter_26 : decode cX12_diameter 26 = .ok (.invokevirtual 143, 3) := by decide +kernel
theorem dX12_diameter_29 : decode cX12_diameter 29 = .ok (.ireturn, 1) := by decide +kernel
set_option maxRecDepth 20000 in
theorem ggX12_tip_X12_isGear : GoodIn wsX12_tip wsX12_isGear := goodIn_r _ [5, 6, 7, 8, 9, 10, 11, 12, 13, 14, 4, 15, 83, 84, 85, 86, 87, 88, 89, 90, 91, 92, 93, 94, 95, 96, 97, 98, 99, 100, 101, 102, 103, 104, 105, 106, 107, 108, 109, 110, 111, 112, 113, 114, 115, 116, 117, 118, 119] (by decide +kernel) (by decide +kernel)
set_option maxRecDepth 20000 in
theorem gX12_tip_X12_isGear : GoodIn wsX12_tip (wsV RX12 121 RX12 yX12_isGear wsX12_isGear) := goodIn_app (goodIn_of _ (by decide +kernel)) ggX12_tip_X12_isGear
set_option maxRecDepth 20000 in
theorem ggX12_tip_X12_gearAt : GoodIn wsX12_tip wsX12_gearAt := goodIn_r _ [19, 6, 20, 21, 22, 23, 10, 24, 12, 25, 26, 27, 28, 29, 30, 31, 32, 33, 34, 35, 36, 37, 83, 84, 85, 86, 87, 88, 89, 90, 91, 92, 93, 94, 95, 96, 97, 98, 99, 100, 101, 102, 103, 104, 105, 106, 107, 108, 109, 110, 111, 112, 113, 114, 115, 116, 117, 118, 119] (by decide +kernel) (by decide +kernel)
set_option maxRecDepth 20000 in
theorem gX12_tip_X12_gearAt : GoodIn wsX12_tip (wsV RX12 111 RX12 yX12_gearAt wsX12_gearAt) := goodIn_app (goodIn_of _ (by decide +kernel)) ggX12_tip_X12_gearAt
set_option maxRecDepth 20000 in
theorem ggX12_tip_X10_tip : GoodIn wsX12_tip wsX10_tip := goodIn_r _ [42, 43, 44, 45, 46, 47, 48, 41, 49, 50, 60, 61, 62, 63, 64, 65, 66, 67, 68, 69, 70, 71, 72, 73, 74, 75, 76, 77, 78, 79, 80, 81, 82] (by decide +kernel) (by decide +kernel)
set_option maxRecDepth 20000 in
theorem gX12_tip_X10_tip : GoodIn wsX12_tip (wsV RX12 171 RX10 yX10_tip wsX10_tip) := goodIn_app (goodIn_of _ (by decide +kernel)) ggX12_tip_X10_tip
set_option maxRecDepth 20000 in
theorem ggX12_tip_X12_answer : GoodIn wsX12_tip wsX12_answer := goodIn_r _ [54, 55, 83, 84, 85, 86, 87, 88, 89, 90, 91, 92, 93, 94, 95, 96, 97, 98, 99, 100, 101, 102, 103, 104, 105, 106, 107, 108, 109, 110, 111, 112, 113, 114, 115, 116] (by decide +kernel) (by decide +kernel)
set_option maxRecDepth 20000 in
theorem gX12_tip_X12_answer : GoodIn wsX12_tip (wsV RX12 153 RX12 yX12_answer wsX12_answer) := goodIn_app (goodIn_of _ (by decide +kernel)) ggX12_tip_X12_answer
set_option maxRecDepth 20000 in
theorem ggX12_tip_X12_fails : GoodIn wsX12_tip wsX12_fails := goodIn_r _ [59, 55, 83, 84, 85, 86, 87, 88, 89, 90, 91, 92, 93, 94, 95, 96, 97, 98, 99, 100, 101, 102, 103, 104, 105, 106, 107, 108, 109, 110, 111, 112, 113, 114, 115, 116] (by decide +kernel) (by decide +kernel)
set_option maxRecDepth 20000 in
theorem gX12_tip_X12_fails : GoodIn wsX12_tip (wsV RX12 143 RX12 yX12_fails wsX12_fails) := goodIn_app (goodIn_of _ (by decide +kernel)) ggX12_tip_X12_fails
theorem dX12_tip_0 : decode cX12_tip 0 = .ok (.aload_n 0, 1) := by decide +kernel
theorem dX12_tip_1 : decode cX12_tip 1 = .ok (.iload_n 1, 1) := by decide +kernel
theorem dX12_tip_2 : decode cX12_tip 2 = .ok (.invokevirtual 121, 3) := by decide +kernel
theorem dX12_tip_5 : decode cX12_tip 5 = .ok (.ifCond .eq 27, 3) := by decide +kernel
theorem dX12_tip_8 : decode cX12_tip 8 = .ok (.aload_n 0, 1) := by decide +kernel
theorem dX12_tip_9 : decode cX12_tip 9 = .ok (.aload_n 0, 1) := by decide +kernel
theorem dX12_tip_10 : decode cX12_tip 10 = .ok (.iload_n 1, 1) := by decide +kernel
theorem dX12_tip_11 : decode cX12_tip 11 = .ok (.invokevirtual 111, 3) := by decide +kernel
theorem dX12_tip_14 : decode cX12_tip 14 = .ok (.aload_n 0, 1) := by decide +kernel
theorem dX12_tip_15 : decode cX12_tip 15 = .ok (.iload_n 1, 1) := by decide +kernel
theorem dX12_tip_16 : decode cX12_tip 16 = .ok (.invokevirtual 111, 3) := by decide +kernel
theorem dX12_tip_19 : decode cX12_tip 19 = .ok (.getfield 164, 3) := by decide +kernel
theorem dX12_tip_22 : decode cX12_tip 22 = .ok (.invokevirtual 171, 3) := by decide +kernel
theorem dX12_tip_25 : decode cX12_tip 25 = .ok (.l2i, 1) := by decide +kernel
theorem dX12_tip_26 : decode cX12_tip 26 = .ok (.invokevirtual 153, 3) := by decide +kernel
theorem dX12_tip_29 : decode cX12_tip 29 = .ok (.goto 8, 3) := by decide +kernel
theorem dX12_tip_32 : decode cX12_tip 32 = .ok (.aload_n 0, 1) := by decide +kernel
theorem dX12_tip_33 : decode cX12_tip 33 = .ok (.iconst 1, 1) := by decide +kernel
theorem dX12_tip_34 : decode cX12_tip 34 = .ok (.invokevirtual 143, 3) := by decide +kernel
theorem dX12_tip_37 : decode cX12_tip 37 = .ok (.ireturn, 1) := by decide +kernel
set_option maxRecDepth 20000 in
theorem ggX12_isUndercut_X12_isGear : GoodIn wsX12_isUndercut wsX12_isGear := goodIn_r _ [5, 6, 7, 8, 9, 10, 11, 12, 13, 14, 4, 15, 76, 77, 78, 79, 80, 81, 82, 83, 84, 85, 86, 87, 88, 89, 90, 91, 92, 93, 94, 95, 96, 97, 98, 99, 100, 101, 102, 103, 104, 105, 106, 107, 108, 109, 110, 111, 112] (by decide +kernel) (by decide +kernel)
set_option maxRecDepth 20000 in
theorem gX12_isUndercut_X12_isGear : GoodIn wsX12_isUndercut (wsV RX12 121 RX12 yX12_isGear wsX12_isGear) := goodIn_app (goodIn_of _ (by decide +kernel)) ggX12_isUndercut_X12_isGear
set_option maxRecDepth 20000 in
theorem ggX12_isUndercut_X12_gearAt : GoodIn wsX12_isUndercut wsX12_gearAt := goodIn_r _ [19, 6, 20, 21, 22, 23, 10, 24, 12, 25, 26, 27, 28, 29, 30, 31, 32, 33, 34, 35, 36, 37, 76, 77, 78, 79, 80, 81, 82, 83, 84, 85, 86, 87, 88, 89, 90, 91, 92, 93, 94, 95, 96, 97, 98, 99, 100, 101, 102, 103, 104, 105, 106, 107, 108, 109, 110, 111, 112] (by decide +kernel) (by decide +kernel)
set_option maxRecDepth 20000 in
theorem gX12_isUndercut_X12_gearAt : GoodIn wsX12_isUndercut (wsV RX12 111 RX12 yX12_gearAt wsX12_gearAt) := goodIn_app (goodIn_of _ (by decide +kernel)) ggX12_isUndercut_X12_gearAt
set_option maxRecDepth 20000 in
theorem ggX12_isUndercut_X10_isUndercut : GoodIn wsX12_isUndercut wsX10_isUndercut := goodIn_r _ [42, 43, 53, 54, 55, 56, 57, 58, 59, 60, 61, 62, 63, 64, 65, 66, 67, 68, 69, 70, 71, 72, 73, 74, 75] (by decide +kernel) (by decide +kernel)
set_option maxRecDepth 20000 in
theorem gX12_isUndercut_X10_isUndercut : GoodIn wsX12_isUndercut (wsV RX12 175 RX10 yX10_isUndercut wsX10_isUndercut) := goodIn_app (goodIn_of _ (by decide +kernel)) ggX12_isUndercut_X10_isUndercut
set_option maxRecDepth 20000 in
theorem ggX12_isUndercut_X12_says : GoodIn wsX12_isUndercut wsX12_says := goodIn_r _ [47, 48, 76, 77, 78, 79, 80, 81, 82, 83, 84, 85, 86, 87, 88, 89, 90, 91, 92, 93, 94, 95, 96, 97, 98, 99, 100, 101, 102, 103, 104, 105, 106, 107, 108, 109] (by decide +kernel) (by decide +kernel)
set_option maxRecDepth 20000 in
theorem gX12_isUndercut_X12_says : GoodIn wsX12_isUndercut (wsV RX12 178 RX12 yX12_says wsX12_says) := goodIn_app (goodIn_of _ (by decide +kernel)) ggX12_isUndercut_X12_says
set_option maxRecDepth 20000 in
theorem ggX12_isUndercut_X12_refuses : GoodIn wsX12_isUndercut wsX12_refuses := goodIn_r _ [52, 48, 76, 77, 78, 79, 80, 81, 82, 83, 84, 85, 86, 87, 88, 89, 90, 91, 92, 93, 94, 95, 96, 97, 98, 99, 100, 101, 102, 103, 104, 105, 106, 107, 108, 109] (by decide +kernel) (by decide +kernel)
set_option maxRecDepth 20000 in
theorem gX12_isUndercut_X12_refuses : GoodIn wsX12_isUndercut (wsV RX12 182 RX12 yX12_refuses wsX12_refuses) := goodIn_app (goodIn_of _ (by decide +kernel)) ggX12_isUndercut_X12_refuses
theorem dX12_isUndercut_0 : decode cX12_isUndercut 0 = .ok (.aload_n 0, 1) := by decide +kernel
theorem dX12_isUndercut_1 : decode cX12_isUndercut 1 = .ok (.iload_n 1, 1) := by decide +kernel
theorem dX12_isUndercut_2 : decode cX12_isUndercut 2 = .ok (.invokevirtual 121, 3) := by decide +kernel
theorem dX12_isUndercut_5 : decode cX12_isUndercut 5 = .ok (.ifCond .eq 26, 3) := by decide +kernel
theorem dX12_isUndercut_8 : decode cX12_isUndercut 8 = .ok (.aload_n 0, 1) := by decide +kernel
theorem dX12_isUndercut_9 : decode cX12_isUndercut 9 = .ok (.aload_n 0, 1) := by decide +kernel
theorem dX12_isUndercut_10 : decode cX12_isUndercut 10 = .ok (.iload_n 1, 1) := by decide +kernel
theorem dX12_isUndercut_11 : decode cX12_isUndercut 11 = .ok (.invokevirtual 111, 3) := by decide +kernel
theorem dX12_isUndercut_14 : decode cX12_isUndercut 14 = .ok (.aload_n 0, 1) := by decide +kernel
theorem dX12_isUndercut_15 : decode cX12_isUndercut 15 = .ok (.iload_n 1, 1) := by decide +kernel
theorem dX12_isUndercut_16 : decode cX12_isUndercut 16 = .ok (.invokevirtual 111, 3) := by decide +kernel
theorem dX12_isUndercut_19 : decode cX12_isUndercut 19 = .ok (.getfield 164, 3) := by decide +kernel
theorem dX12_isUndercut_22 : decode cX12_isUndercut 22 = .ok (.invokevirtual 175, 3) := by decide +kernel
theorem dX12_isUndercut_25 : decode cX12_isUndercut 25 = .ok (.invokevirtual 178, 3) := by decide +kernel
theorem dX12_isUndercut_28 : decode cX12_isUndercut 28 = .ok (.goto 8, 3) := by decide +kernel
theorem dX12_isUndercut_31 : decode cX12_isUndercut 31 = .ok (.aload_n 0, 1) := by decide +kernel
theorem dX12_isUndercut_32 : decode cX12_isUndercut 32 = .ok (.iconst 1, 1) := by decide +kernel
theorem dX12_isUndercut_33 : decode cX12_isUndercut 33 = .ok (.invokevirtual 182, 3) := by decide +kernel
theorem dX12_isUndercut_36 : decode cX12_isUndercut 36 = .ok (.ireturn, 1) := by decide +kernel
set_option maxRecDepth 20000 in
theorem ggX12_isSharp_X12_isGear : GoodIn wsX12_isSharp wsX12_isGear := goodIn_r _ [5, 6, 7, 8, 9, 10, 11, 12, 13, 14, 4, 15, 76, 77, 78, 79, 80, 81, 82, 83, 84, 85, 86, 87, 88, 89, 90, 91, 92, 93, 94, 95, 96, 97, 98, 99, 100, 101, 102, 103, 104, 105, 106, 107, 108, 109, 110, 111, 112] (by decide +kernel) (by decide +kernel)
set_option maxRecDepth 20000 in
theorem gX12_isSharp_X12_isGear : GoodIn wsX12_isSharp (wsV RX12 121 RX12 yX12_isGear wsX12_isGear) := goodIn_app (goodIn_of _ (by decide +kernel)) ggX12_isSharp_X12_isGear
set_option maxRecDepth 20000 in
theorem ggX12_isSharp_X12_gearAt : GoodIn wsX12_isSharp wsX12_gearAt := goodIn_r _ [19, 6, 20, 21, 22, 23, 10, 24, 12, 25, 26, 27, 28, 29, 30, 31, 32, 33, 34, 35, 36, 37, 76, 77, 78, 79, 80, 81, 82, 83, 84, 85, 86, 87, 88, 89, 90, 91, 92, 93, 94, 95, 96, 97, 98, 99, 100, 101, 102, 103, 104, 105, 106, 107, 108, 109, 110, 111, 112] (by decide +kernel) (by decide +kernel)
set_option maxRecDepth 20000 in
theorem gX12_isSharp_X12_gearAt : GoodIn wsX12_isSharp (wsV RX12 111 RX12 yX12_gearAt wsX12_gearAt) := goodIn_app (goodIn_of _ (by decide +kernel)) ggX12_isSharp_X12_gearAt
set_option maxRecDepth 20000 in
theorem ggX12_isSharp_X10_isSharp : GoodIn wsX12_isSharp wsX10_isSharp := goodIn_r _ [42, 43, 53, 54, 55, 56, 57, 58, 59, 60, 61, 62, 63, 64, 65, 66, 67, 68, 69, 70, 71, 72, 73, 74, 75] (by decide +kernel) (by decide +kernel)
set_option maxRecDepth 20000 in
theorem gX12_isSharp_X10_isSharp : GoodIn wsX12_isSharp (wsV RX12 185 RX10 yX10_isSharp wsX10_isSharp) := goodIn_app (goodIn_of _ (by decide +kernel)) ggX12_isSharp_X10_isSharp
set_option maxRecDepth 20000 in
theorem ggX12_isSharp_X12_says : GoodIn wsX12_isSharp wsX12_says := goodIn_r _ [47, 48, 76, 77, 78, 79, 80, 81, 82, 83, 84, 85, 86, 87, 88, 89, 90, 91, 92, 93, 94, 95, 96, 97, 98, 99, 100, 101, 102, 103, 104, 105, 106, 107, 108, 109] (by decide +kernel) (by decide +kernel)
set_option maxRecDepth 20000 in
theorem gX12_isSharp_X12_says : GoodIn wsX12_isSharp (wsV RX12 178 RX12 yX12_says wsX12_says) := goodIn_app (goodIn_of _ (by decide +kernel)) ggX12_isSharp_X12_says
set_option maxRecDepth 20000 in
theorem ggX12_isSharp_X12_refuses : GoodIn wsX12_isSharp wsX12_refuses := goodIn_r _ [52, 48, 76, 77, 78, 79, 80, 81, 82, 83, 84, 85, 86, 87, 88, 89, 90, 91, 92, 93, 94, 95, 96, 97, 98, 99, 100, 101, 102, 103, 104, 105, 106, 107, 108, 109] (by decide +kernel) (by decide +kernel)
set_option maxRecDepth 20000 in
theorem gX12_isSharp_X12_refuses : GoodIn wsX12_isSharp (wsV RX12 182 RX12 yX12_refuses wsX12_refuses) := goodIn_app (goodIn_of _ (by decide +kernel)) ggX12_isSharp_X12_refuses
theorem dX12_isSharp_0 : decode cX12_isSharp 0 = .ok (.aload_n 0, 1) := by decide +kernel
theorem dX12_isSharp_1 : decode cX12_isSharp 1 = .ok (.iload_n 1, 1) := by decide +kernel
theorem dX12_isSharp_2 : decode cX12_isSharp 2 = .ok (.invokevirtual 121, 3) := by decide +kernel
theorem dX12_isSharp_5 : decode cX12_isSharp 5 = .ok (.ifCond .eq 26, 3) := by decide +kernel
theorem dX12_isSharp_8 : decode cX12_isSharp 8 = .ok (.aload_n 0, 1) := by decide +kernel
theorem dX12_isSharp_9 : decode cX12_isSharp 9 = .ok (.aload_n 0, 1) := by decide +kernel
theorem dX12_isSharp_10 : decode cX12_isSharp 10 = .ok (.iload_n 1, 1) := by decide +kernel
theorem dX12_isSharp_11 : decode cX12_isSharp 11 = .ok (.invokevirtual 111, 3) := by decide +kernel
theorem dX12_isSharp_14 : decode cX12_isSharp 14 = .ok (.aload_n 0, 1) := by decide +kernel
theorem dX12_isSharp_15 : decode cX12_isSharp 15 = .ok (.iload_n 1, 1) := by decide +kernel
theorem dX12_isSharp_16 : decode cX12_isSharp 16 = .ok (.invokevirtual 111, 3) := by decide +kernel
theorem dX12_isSharp_19 : decode cX12_isSharp 19 = .ok (.getfield 164, 3) := by decide +kernel
theorem dX12_isSharp_22 : decode cX12_isSharp 22 = .ok (.invokevirtual 185, 3) := by decide +kernel
theorem dX12_isSharp_25 : decode cX12_isSharp 25 = .ok (.invokevirtual 178, 3) := by decide +kernel
theorem dX12_isSharp_28 : decode cX12_isSharp 28 = .ok (.goto 8, 3) := by decide +kernel
theorem dX12_isSharp_31 : decode cX12_isSharp 31 = .ok (.aload_n 0, 1) := by decide +kernel
theorem dX12_isSharp_32 : decode cX12_isSharp 32 = .ok (.iconst 1, 1) := by decide +kernel
theorem dX12_isSharp_33 : decode cX12_isSharp 33 = .ok (.invokevirtual 182, 3) := by decide +kernel
theorem dX12_isSharp_36 : decode cX12_isSharp 36 = .ok (.ireturn, 1) := by decide +kernel
set_option maxRecDepth 20000 in
theorem ggX12_fewest_X12_in : GoodIn wsX12_fewest wsX12_in := goodIn_r _ [6] (by decide +kernel) (by decide +kernel)
set_option maxRecDepth 20000 in
theorem gX12_fewest_X12_in : GoodIn wsX12_fewest (va_wsS RX12 101 yX12_in wsX12_in) := goodIn_app (goodIn_of _ (by decide +kernel)) ggX12_fewest_X12_in
set_option maxRecDepth 20000 in
theorem ggX12_fewest_X12_fails : GoodIn wsX12_fewest wsX12_fails := goodIn_r _ [10, 11, 16, 17, 18, 19, 20, 21, 22, 23, 24, 25, 26, 27, 28, 29, 30, 31, 32, 33, 34, 35, 36, 37, 38, 39, 40, 41, 42, 43, 44, 45, 46, 47, 48, 49] (by decide +kernel) (by decide +kernel)
set_option maxRecDepth 20000 in
theorem gX12_fewest_X12_fails : GoodIn wsX12_fewest (wsV RX12 143 RX12 yX12_fails wsX12_fails) := goodIn_app (goodIn_of _ (by decide +kernel)) ggX12_fewest_X12_fails
set_option maxRecDepth 20000 in
theorem ggX12_fewest_X12_answer : GoodIn wsX12_fewest wsX12_answer := goodIn_r _ [15, 11, 16, 17, 18, 19, 20, 21, 22, 23, 24, 25, 26, 27, 28, 29, 30, 31, 32, 33, 34, 35, 36, 37, 38, 39, 40, 41, 42, 43, 44, 45, 46, 47, 48, 49] (by decide +kernel) (by decide +kernel)
set_option maxRecDepth 20000 in
theorem gX12_fewest_X12_answer : GoodIn wsX12_fewest (wsV RX12 153 RX12 yX12_answer wsX12_answer) := goodIn_app (goodIn_of _ (by decide +kernel)) ggX12_fewest_X12_answer
theorem dX12_fewest_0 : decode cX12_fewest 0 = .ok (.iload_n 1, 1) := by decide +kernel
theorem dX12_fewest_1 : decode cX12_fewest 1 = .ok (.i2l, 1) := by decide +kernel
theorem dX12_fewest_2 : decode cX12_fewest 2 = .ok (.ldc2_w 156, 3) := by decide +kernel
theorem dX12_fewest_5 : decode cX12_fewest 5 = .ok (.ldc2_w 158, 3) := by decide +kernel
theorem dX12_fewest_8 : decode cX12_fewest 8 = .ok (.invokestatic 101, 3) := by decide +kernel
theorem dX12_fewest_11 : decode cX12_fewest 11 = .ok (.ifCond .ne 9, 3) := by decide +kernel
theorem dX12_fewest_14 : decode cX12_fewest 14 = .ok (.aload_n 0, 1) := by decide +kernel
theorem dX12_fewest_15 : decode cX12_fewest 15 = .ok (.iconst 1, 1) := by decide +kernel
theorem dX12_fewest_16 : decode cX12_fewest 16 = .ok (.invokevirtual 143, 3) := by decide +kernel
theorem dX12_fewest_19 : decode cX12_fewest 19 = .ok (.ireturn, 1) := by decide +kernel
theorem dX12_fewest_20 : decode cX12_fewest 20 = .ok (.iconst 1, 1) := by decide +kernel
theorem dX12_fewest_21 : decode cX12_fewest 21 = .ok (.istore_n 2, 1) := by decide +kernel
theorem dX12_fewest_22 : decode cX12_fewest 22 = .ok (.sipush 137, 3) := by decide +kernel
theorem dX12_fewest_25 : decode cX12_fewest 25 = .ok (.iload_n 1, 1) := by decide +kernel
theorem dX12_fewest_26 : decode cX12_fewest 26 = .ok (.imul, 1) := by decide +kernel
theorem dX12_fewest_27 : decode cX12_fewest 27 = .ok (.bipush 100, 2) := by decide +kernel
theorem dX12_fewest_29 : decode cX12_fewest 29 = .ok (.sipush 137, 3) := by decide +kernel
theorem dX12_fewest_32 : decode cX12_fewest 32 = .ok (.bipush 8, 2) := by decide +kernel
theorem dX12_fewest_34 : decode cX12_fewest 34 = .ok (.iload_n 2, 1) := by decide +kernel
theorem dX12_fewest_35 : decode cX12_fewest 35 = .ok (.imul, 1) := by decide +kernel
theorem dX12_fewest_36 : decode cX12_fewest 36 = .ok (.isub, 1) := by decide +kernel
theorem dX12_fewest_37 : decode cX12_fewest 37 = .ok (.imul, 1) := by decide +kernel
theorem dX12_fewest_38 : decode cX12_fewest 38 = .ok (.if_icmp .ge 9, 3) := by decide +kernel
theorem dX12_fewest_41 : decode cX12_fewest 41 = .ok (.iinc 2 1, 3) := by decide +kernel
theorem dX12_fewest_44 : decode cX12_fewest 44 = .ok (.goto (-22), 3) := by decide +kernel
theorem dX12_fewest_47 : decode cX12_fewest 47 = .ok (.aload_n 0, 1) := by decide +kernel
theorem dX12_fewest_48 : decode cX12_fewest 48 = .ok (.iload_n 2, 1) := by decide +kernel
theorem dX12_fewest_49 : decode cX12_fewest 49 = .ok (.invokevirtual 153, 3) := by decide +kernel
theorem dX12_fewest_52 : decode cX12_fewest 52 = .ok (.ireturn, 1) := by decide +kernel
set_option maxRecDepth 20000 in
theorem ggX12_doPair_X12_isGear : GoodIn wsX12_doPair wsX12_isGear := goodIn_r _ [5, 6, 7, 8, 9, 10, 11, 12, 13, 14, 4, 15, 51, 52, 53, 54, 55, 56, 57, 58, 59, 60, 61, 62, 63, 64, 65, 66, 67, 68, 69, 70, 71, 72, 73, 74, 75, 76, 77, 78, 79, 80, 81, 82, 83, 84, 85, 86, 87] (by decide +kernel) (by decide +kernel)
set_option maxRecDepth 20000 in
theorem gX12_doPair_X12_isGear : GoodIn wsX12_doPair (wsV RX12 121 RX12 yX12_isGear wsX12_isGear) := goodIn_app (goodIn_of _ (by decide +kernel)) ggX12_doPair_X12_isGear
set_option maxRecDepth 20000 in
theorem ggX12_doPair_X12_refuses : GoodIn wsX12_doPair wsX12_refuses := goodIn_r _ [19, 20, 51, 52, 53, 54, 55, 56, 57, 58, 59, 60, 61, 62, 63, 64, 65, 66, 67, 68, 69, 70, 71, 72, 73, 74, 75, 76, 77, 78, 79, 80, 81, 82, 83, 84] (by decide +kernel) (by decide +kernel)
set_option maxRecDepth 20000 in
theorem gX12_doPair_X12_refuses : GoodIn wsX12_doPair (wsV RX12 182 RX12 yX12_refuses wsX12_refuses) := goodIn_app (goodIn_of _ (by decide +kernel)) ggX12_doPair_X12_refuses
set_option maxRecDepth 20000 in
theorem ggX12_doPair_X12_isPair : GoodIn wsX12_doPair wsX12_isPair := goodIn_r _ [24, 25, 26, 27, 4, 28, 6, 29, 30, 31, 32, 10, 33, 12, 34, 35, 36, 37, 38, 39, 40, 41, 42, 43, 44, 45, 46, 88, 89, 90, 91, 92, 93, 94, 95, 96, 97, 98, 99, 100, 101, 102, 103, 104, 105, 106, 107, 108, 109, 110, 51, 52, 53, 54, 55, 56, 57, 58, 59, 60, 61, 62, 63, 64, 65, 66, 67, 68, 69, 70, 71, 72, 73, 74, 75, 76, 77, 78, 79, 80, 81, 82, 83, 84, 85, 86, 87] (by decide +kernel) (by decide +kernel)
set_option maxRecDepth 20000 in
theorem gX12_doPair_X12_isPair : GoodIn wsX12_doPair (wsV RX12 125 RX12 yX12_isPair wsX12_isPair) := goodIn_app (goodIn_of _ (by decide +kernel)) ggX12_doPair_X12_isPair
set_option maxRecDepth 20000 in
theorem ggX12_doPair_X12_says : GoodIn wsX12_doPair wsX12_says := goodIn_r _ [50, 20, 51, 52, 53, 54, 55, 56, 57, 58, 59, 60, 61, 62, 63, 64, 65, 66, 67, 68, 69, 70, 71, 72, 73, 74, 75, 76, 77, 78, 79, 80, 81, 82, 83, 84] (by decide +kernel) (by decide +kernel)
set_option maxRecDepth 20000 in
theorem gX12_doPair_X12_says : GoodIn wsX12_doPair (wsV RX12 178 RX12 yX12_says wsX12_says) := goodIn_app (goodIn_of _ (by decide +kernel)) ggX12_doPair_X12_says
theorem dX12_doPair_0 : decode cX12_doPair 0 = .ok (.aload_n 0, 1) := by decide +kernel
theorem dX12_doPair_1 : decode cX12_doPair 1 = .ok (.iload_n 1, 1) := by decide +kernel
theorem dX12_doPair_2 : decode cX12_doPair 2 = .ok (.invokevirtual 121, 3) := by decide +kernel
theorem dX12_doPair_5 : decode cX12_doPair 5 = .ok (.ifCond .eq 11, 3) := by decide +kernel
theorem dX12_doPair_8 : decode cX12_doPair 8 = .ok (.aload_n 0, 1) := by decide +kernel
theorem dX12_doPair_9 : decode cX12_doPair 9 = .ok (.iload_n 2, 1) := by decide +kernel
theorem dX12_doPair_10 : decode cX12_doPair 10 = .ok (.invokevirtual 121, 3) := by decide +kernel
theorem dX12_doPair_13 : decode cX12_doPair 13 = .ok (.ifCond .ne 9, 3) := by decide +kernel
theorem dX12_doPair_16 : decode cX12_doPair 16 = .ok (.aload_n 0, 1) := by decide +kernel
theorem dX12_doPair_17 : decode cX12_doPair 17 = .ok (.iconst 1, 1) := by decide +kernel
theorem dX12_doPair_18 : decode cX12_doPair 18 = .ok (.invokevirtual 182, 3) := by decide +kernel
theorem dX12_doPair_21 : decode cX12_doPair 21 = .ok (.ireturn, 1) := by decide +kernel
theorem dX12_doPair_22 : decode cX12_doPair 22 = .ok (.iload_n 1, 1) := by decide +kernel
theorem dX12_doPair_23 : decode cX12_doPair 23 = .ok (.iload_n 2, 1) := by decide +kernel
theorem dX12_doPair_24 : decode cX12_doPair 24 = .ok (.if_icmp .ne 11, 3) := by decide +kernel
theorem dX12_doPair_27 : decode cX12_doPair 27 = .ok (.aload_n 0, 1) := by decide +kernel
theorem dX12_doPair_28 : decode cX12_doPair 28 = .ok (.iconst 2, 1) := by decide +kernel
theorem dX12_doPair_29 : decode cX12_doPair 29 = .ok (.invokevirtual 182, 3) := by decide +kernel
theorem dX12_doPair_32 : decode cX12_doPair 32 = .ok (.goto 13, 3) := by decide +kernel
theorem dX12_doPair_35 : decode cX12_doPair 35 = .ok (.aload_n 0, 1) := by decide +kernel
theorem dX12_doPair_36 : decode cX12_doPair 36 = .ok (.aload_n 0, 1) := by decide +kernel
theorem dX12_doPair_37 : decode cX12_doPair 37 = .ok (.iload_n 1, 1) := by decide +kernel
theorem dX12_doPair_38 : decode cX12_doPair 38 = .ok (.iload_n 2, 1) := by decide +kernel
theorem dX12_doPair_39 : decode cX12_doPair 39 = .ok (.invokevirtual 125, 3) := by decide +kernel
theorem dX12_doPair_42 : decode cX12_doPair 42 = .ok (.invokevirtual 178, 3) := by decide +kernel
theorem dX12_doPair_45 : decode cX12_doPair 45 = .ok (.ireturn, 1) := by decide +kernel
set_option maxRecDepth 20000 in
theorem ggX12_contactOf_X10_across : GoodIn wsX12_contactOf wsX10_across := goodIn_r _ [14, 15, 16, 36, 37, 38, 39, 40, 41, 42, 43, 44, 45, 46, 47, 48, 49, 50, 51, 52, 53, 54, 55, 56, 57, 58] (by decide +kernel) (by decide +kernel)
set_option maxRecDepth 20000 in
theorem gX12_contactOf_X10_across : GoodIn wsX12_contactOf (wsV RX12 167 RX10 yX10_across wsX10_across) := goodIn_app (goodIn_of _ (by decide +kernel)) ggX12_contactOf_X10_across
set_option maxRecDepth 20000 in
theorem ggX12_contactOf_X10_line : GoodIn wsX12_contactOf wsX10_line := goodIn_r _ [20, 21, 22, 23, 24, 25, 13, 26, 27, 16, 28, 29, 11, 12, 14, 15, 30, 31, 32, 33, 34, 36, 37, 38, 39, 40, 41, 42, 43, 44, 45, 46, 47, 48, 49, 50, 51, 52, 53, 54, 55, 56, 57, 58] (by decide +kernel) (by decide +kernel)
set_option maxRecDepth 20000 in
theorem gX12_contactOf_X10_line : GoodIn wsX12_contactOf (wsV RX12 188 RX10 yX10_line wsX10_line) := goodIn_app (goodIn_of _ (by decide +kernel)) ggX12_contactOf_X10_line
set_option maxRecDepth 20000 in
theorem ggX12_contactOf_X12_root : GoodIn wsX12_contactOf wsX12_root := goodIn_r _ [32, 33, 34] (by decide +kernel) (by decide +kernel)
set_option maxRecDepth 20000 in
theorem gX12_contactOf_X12_root : GoodIn wsX12_contactOf (va_wsS RX12 195 yX12_root wsX12_root) := goodIn_app (goodIn_of _ (by decide +kernel)) ggX12_contactOf_X12_root
theorem dX12_contactOf_0 : decode cX12_contactOf 0 = .ok (.aload_n 1, 1) := by decide +kernel
theorem dX12_contactOf_1 : decode cX12_contactOf 1 = .ok (.invokevirtual 167, 3) := by decide +kernel
theorem dX12_contactOf_4 : decode cX12_contactOf 4 = .ok (.aload_n 2, 1) := by decide +kernel
theorem dX12_contactOf_5 : decode cX12_contactOf 5 = .ok (.invokevirtual 167, 3) := by decide +kernel
theorem dX12_contactOf_8 : decode cX12_contactOf 8 = .ok (.ladd, 1) := by decide +kernel
theorem dX12_contactOf_9 : decode cX12_contactOf 9 = .ok (.lstore_n 3, 1) := by decide +kernel
theorem dX12_contactOf_10 : decode cX12_contactOf 10 = .ok (.aload_n 1, 1) := by decide +kernel
theorem dX12_contactOf_11 : decode cX12_contactOf 11 = .ok (.aload_n 1, 1) := by decide +kernel
theorem dX12_contactOf_12 : decode cX12_contactOf 12 = .ok (.getfield 164, 3) := by decide +kernel
theorem dX12_contactOf_15 : decode cX12_contactOf 15 = .ok (.invokevirtual 188, 3) := by decide +kernel
theorem dX12_contactOf_18 : decode cX12_contactOf 18 = .ok (.aload_n 2, 1) := by decide +kernel
theorem dX12_contactOf_19 : decode cX12_contactOf 19 = .ok (.aload_n 2, 1) := by decide +kernel
theorem dX12_contactOf_20 : decode cX12_contactOf 20 = .ok (.getfield 164, 3) := by decide +kernel
theorem dX12_contactOf_23 : decode cX12_contactOf 23 = .ok (.invokevirtual 188, 3) := by decide +kernel
theorem dX12_contactOf_26 : decode cX12_contactOf 26 = .ok (.ladd, 1) := by decide +kernel
theorem dX12_contactOf_27 : decode cX12_contactOf 27 = .ok (.ldc2_w 191, 3) := by decide +kernel
theorem dX12_contactOf_30 : decode cX12_contactOf 30 = .ok (.lload_n 3, 1) := by decide +kernel
theorem dX12_contactOf_31 : decode cX12_contactOf 31 = .ok (.lmul, 1) := by decide +kernel
theorem dX12_contactOf_32 : decode cX12_contactOf 32 = .ok (.lload_n 3, 1) := by decide +kernel
theorem dX12_contactOf_33 : decode cX12_contactOf 33 = .ok (.lmul, 1) := by decide +kernel
theorem dX12_contactOf_34 : decode cX12_contactOf 34 = .ok (.ldc2_w 193, 3) := by decide +kernel
theorem dX12_contactOf_37 : decode cX12_contactOf 37 = .ok (.ldiv, 1) := by decide +kernel
theorem dX12_contactOf_38 : decode cX12_contactOf 38 = .ok (.invokestatic 195, 3) := by decide +kernel
theorem dX12_contactOf_41 : decode cX12_contactOf 41 = .ok (.lsub, 1) := by decide +kernel
theorem dX12_contactOf_42 : decode cX12_contactOf 42 = .ok (.lstore 5, 2) := by decide +kernel
theorem dX12_contactOf_44 : decode cX12_contactOf 44 = .ok (.ldc2_w 199, 3) := by decide +kernel
theorem dX12_contactOf_47 : decode cX12_contactOf 47 = .ok (.aload_n 1, 1) := by decide +kernel
theorem dX12_contactOf_48 : decode cX12_contactOf 48 = .ok (.getfield 115, 3) := by decide +kernel
theorem dX12_contactOf_51 : decode cX12_contactOf 51 = .ok (.i2l, 1) := by decide +kernel
theorem dX12_contactOf_52 : decode cX12_contactOf 52 = .ok (.lmul, 1) := by decide +kernel
theorem dX12_contactOf_53 : decode cX12_contactOf 53 = .ok (.ldc2_w 199, 3) := by decide +kernel
theorem dX12_contactOf_56 : decode cX12_contactOf 56 = .ok (.lmul, 1) := by decide +kernel
theorem dX12_contactOf_57 : decode cX12_contactOf 57 = .ok (.aload_n 1, 1) := by decide +kernel
theorem dX12_contactOf_58 : decode cX12_contactOf 58 = .ok (.getfield 115, 3) := by decide +kernel
theorem dX12_contactOf_61 : decode cX12_contactOf 61 = .ok (.i2l, 1) := by decide +kernel
theorem dX12_contactOf_62 : decode cX12_contactOf 62 = .ok (.lmul, 1) := by decide +kernel
theorem dX12_contactOf_63 : decode cX12_contactOf 63 = .ok (.ldc2_w 193, 3) := by decide +kernel
theorem dX12_contactOf_66 : decode cX12_contactOf 66 = .ok (.ldiv, 1) := by decide +kernel
theorem dX12_contactOf_67 : decode cX12_contactOf 67 = .ok (.invokestatic 195, 3) := by decide +kernel
theorem dX12_contactOf_70 : decode cX12_contactOf 70 = .ok (.ldc2_w 201, 3) := by decide +kernel
theorem dX12_contactOf_73 : decode cX12_contactOf 73 = .ok (.ldiv, 1) := by decide +kernel
theorem dX12_contactOf_74 : decode cX12_contactOf 74 = .ok (.lstore 7, 2) := by decide +kernel
theorem dX12_contactOf_76 : decode cX12_contactOf 76 = .ok (.lconst 0, 1) := by decide +kernel
theorem dX12_contactOf_77 : decode cX12_contactOf 77 = .ok (.ldc2_w 139, 3) := by decide +kernel
theorem dX12_contactOf_80 : decode cX12_contactOf 80 = .ok (.lload 5, 2) := by decide +kernel
theorem dX12_contactOf_82 : decode cX12_contactOf 82 = .ok (.lmul, 1) := by decide +kernel
theorem dX12_contactOf_83 : decode cX12_contactOf 83 = .ok (.lload 7, 2) := by decide +kernel
theorem dX12_contactOf_85 : decode cX12_contactOf 85 = .ok (.ldiv, 1) := by decide +kernel
theorem dX12_contactOf_86 : decode cX12_contactOf 86 = .ok (.invokestatic 203, 3) := by decide +kernel
theorem dX12_contactOf_89 : decode cX12_contactOf 89 = .ok (.lreturn, 1) := by decide +kernel
theorem dX12_overlapOf_0 : decode cX12_overlapOf 0 = .ok (.aload_n 0, 1) := by decide +kernel
theorem dX12_overlapOf_1 : decode cX12_overlapOf 1 = .ok (.getfield 209, 3) := by decide +kernel
theorem dX12_overlapOf_4 : decode cX12_overlapOf 4 = .ok (.aload_n 1, 1) := by decide +kernel
theorem dX12_overlapOf_5 : decode cX12_overlapOf 5 = .ok (.getfield 209, 3) := by decide +kernel
theorem dX12_overlapOf_8 : decode cX12_overlapOf 8 = .ok (.invokestatic 212, 3) := by decide +kernel
theorem dX12_overlapOf_11 : decode cX12_overlapOf 11 = .ok (.i2l, 1) := by decide +kernel
theorem dX12_overlapOf_12 : decode cX12_overlapOf 12 = .ok (.aload_n 0, 1) := by decide +kernel
theorem dX12_overlapOf_13 : decode cX12_overlapOf 13 = .ok (.getfield 118, 3) := by decide +kernel
theorem dX12_overlapOf_16 : decode cX12_overlapOf 16 = .ok (.invokestatic 215, 3) := by decide +kernel
theorem dX12_overlapOf_19 : decode cX12_overlapOf 19 = .ok (.i2l, 1) := by decide +kernel
theorem dX12_overlapOf_20 : decode cX12_overlapOf 20 = .ok (.lmul, 1) := by decide +kernel
theorem dX12_overlapOf_21 : decode cX12_overlapOf 21 = .ok (.ldc2_w 201, 3) := by decide +kernel
theorem dX12_overlapOf_24 : decode cX12_overlapOf 24 = .ok (.lmul, 1) := by decide +kernel
theorem dX12_overlapOf_25 : decode cX12_overlapOf 25 = .ok (.ldc2_w 218, 3) := by decide +kernel
theorem dX12_overlapOf_28 : decode cX12_overlapOf 28 = .ok (.aload_n 0, 1) := by decide +kernel
theorem dX12_overlapOf_29 : decode cX12_overlapOf 29 = .ok (.getfield 115, 3) := by decide +kernel
theorem dX12_overlapOf_32 : decode cX12_overlapOf 32 = .ok (.i2l, 1) := by decide +kernel
theorem dX12_overlapOf_33 : decode cX12_overlapOf 33 = .ok (.lmul, 1) := by decide +kernel
theorem dX12_overlapOf_34 : decode cX12_overlapOf 34 = .ok (.ldiv, 1) := by decide +kernel
theorem dX12_overlapOf_35 : decode cX12_overlapOf 35 = .ok (.lreturn, 1) := by decide +kernel
set_option maxRecDepth 20000 in
theorem ggX12_contact_X12_isAsked : GoodIn wsX12_contact wsX12_isAsked := goodIn_r _ [5, 6, 7, 8, 9, 4, 10, 11, 12, 13, 14, 15, 16, 17, 18, 19, 20, 21, 22, 23, 24, 25, 26, 27, 28, 29, 30, 31, 32, 33, 34, 35, 36, 37, 38, 39, 40, 41, 42, 43, 44, 45, 46, 85, 86, 87, 88, 89, 90, 91, 92, 93, 94, 95, 96, 97, 98, 99, 100, 101, 102, 103, 104, 105, 106, 107, 108, 109, 110, 111, 112, 113, 114, 115, 116, 117, 118, 119, 120, 121, 122, 123, 124, 125, 126, 127, 128, 129, 130, 131, 132, 133, 134, 135, 136, 137, 138, 139, 140, 141, 142, 143, 144] (by decide +kernel) (by decide +kernel)
set_option maxRecDepth 20000 in
theorem gX12_contact_X12_isAsked : GoodIn wsX12_contact (wsV RX12 220 RX12 yX12_isAsked wsX12_isAsked) := goodIn_app (goodIn_of _ (by decide +kernel)) ggX12_contact_X12_isAsked
set_option maxRecDepth 20000 in
theorem ggX12_contact_X12_gearAt : GoodIn wsX12_contact wsX12_gearAt := goodIn_r _ [28, 11, 29, 30, 31, 32, 15, 33, 17, 34, 35, 36, 37, 38, 39, 40, 41, 42, 43, 44, 45, 46, 85, 86, 87, 88, 89, 90, 91, 92, 93, 94, 95, 96, 97, 98, 99, 100, 101, 102, 103, 104, 105, 106, 107, 108, 109, 110, 111, 112, 113, 114, 115, 116, 117, 118, 119, 120, 121] (by decide +kernel) (by decide +kernel)
set_option maxRecDepth 20000 in
theorem gX12_contact_X12_gearAt : GoodIn wsX12_contact (wsV RX12 111 RX12 yX12_gearAt wsX12_gearAt) := goodIn_app (goodIn_of _ (by decide +kernel)) ggX12_contact_X12_gearAt
set_option maxRecDepth 20000 in
theorem ggX12_contact_X12_contactOf : GoodIn wsX12_contact wsX12_contactOf := goodIn_ca (goodIn_r _ [50, 51, 52, 53, 54, 55, 56, 57, 58, 59, 60, 61, 62, 63, 64, 65, 66, 67, 68, 69, 70, 71, 72, 73, 74, 75, 76, 77, 78, 79, 80, 4, 81, 82, 83, 84, 122, 123, 124, 125, 126, 127, 128, 129, 130, 131, 132, 133, 134, 135, 136, 137, 138, 139, 140, 141, 142, 143, 144] (by decide +kernel) (by decide +kernel)) (goodIn_sub (fun _ h => List.mem_cons_of_mem _ (List.mem_append_right _ h)) (by decide +kernel))
set_option maxRecDepth 20000 in
theorem gX12_contact_X12_contactOf : GoodIn wsX12_contact (wsV RX12 224 RX12 yX12_contactOf wsX12_contactOf) := goodIn_app (goodIn_of _ (by decide +kernel)) ggX12_contact_X12_contactOf
theorem dX12_contact_0 : decode cX12_contact 0 = .ok (.aload_n 0, 1) := by decide +kernel
theorem dX12_contact_1 : decode cX12_contact 1 = .ok (.iload_n 1, 1) := by decide +kernel
theorem dX12_contact_2 : decode cX12_contact 2 = .ok (.iload_n 2, 1) := by decide +kernel
theorem dX12_contact_3 : decode cX12_contact 3 = .ok (.iconst 1, 1) := by decide +kernel
theorem dX12_contact_4 : decode cX12_contact 4 = .ok (.iconst 2, 1) := by decide +kernel
theorem dX12_contact_5 : decode cX12_contact 5 = .ok (.invokevirtual 220, 3) := by decide +kernel
theorem dX12_contact_8 : decode cX12_contact 8 = .ok (.ifCond .eq 20, 3) := by decide +kernel
theorem dX12_contact_11 : decode cX12_contact 11 = .ok (.aload_n 0, 1) := by decide +kernel
theorem dX12_contact_12 : decode cX12_contact 12 = .ok (.aload_n 0, 1) := by decide +kernel
theorem dX12_contact_13 : decode cX12_contact 13 = .ok (.iload_n 1, 1) := by decide +kernel
theorem dX12_contact_14 : decode cX12_contact 14 = .ok (.invokevirtual 111, 3) := by decide +kernel
theorem dX12_contact_17 : decode cX12_contact 17 = .ok (.aload_n 0, 1) := by decide +kernel
theorem dX12_contact_18 : decode cX12_contact 18 = .ok (.iload_n 2, 1) := by decide +kernel
theorem dX12_contact_19 : decode cX12_contact 19 = .ok (.invokevirtual 111, 3) := by decide +kernel
theorem dX12_contact_22 : decode cX12_contact 22 = .ok (.invokevirtual 224, 3) := by decide +kernel
theorem dX12_contact_25 : decode cX12_contact 25 = .ok (.goto 4, 3) := by decide +kernel
theorem dX12_contact_28 : decode cX12_contact 28 = .ok (.lconst 0, 1) := by decide +kernel
theorem dX12_contact_29 : decode cX12_contact 29 = .ok (.lreturn, 1) := by decide +kernel
set_option maxRecDepth 20000 in
theorem ggX12_overlap_X12_isAsked : GoodIn wsX12_overlap wsX12_isAsked := goodIn_r _ [5, 6, 7, 8, 9, 4, 10, 11, 12, 13, 14, 15, 16, 17, 18, 19, 20, 21, 22, 23, 24, 25, 26, 27, 28, 29, 30, 31, 32, 33, 34, 35, 36, 37, 38, 39, 40, 41, 42, 43, 44, 45, 46, 59, 60, 61, 62, 63, 64, 65, 66, 67, 68, 69, 70, 71, 72, 73, 74, 75, 76, 77, 78, 79, 80, 81, 82, 83, 84, 85, 86, 87, 88, 89, 90, 91, 92, 93, 94, 95, 96, 97, 98, 99, 100, 101, 102, 103, 104, 105, 106, 107, 108, 109, 110, 111, 112, 113, 114, 115, 116, 117, 118] (by decide +kernel) (by decide +kernel)
set_option maxRecDepth 20000 in
theorem gX12_overlap_X12_isAsked : GoodIn wsX12_overlap (wsV RX12 220 RX12 yX12_isAsked wsX12_isAsked) := goodIn_app (goodIn_of _ (by decide +kernel)) ggX12_overlap_X12_isAsked
set_option maxRecDepth 20000 in
theorem ggX12_overlap_X12_gearAt : GoodIn wsX12_overlap wsX12_gearAt := goodIn_r _ [28, 11, 29, 30, 31, 32, 15, 33, 17, 34, 35, 36, 37, 38, 39, 40, 41, 42, 43, 44, 45, 46, 59, 60, 61, 62, 63, 64, 65, 66, 67, 68, 69, 70, 71, 72, 73, 74, 75, 76, 77, 78, 79, 80, 81, 82, 83, 84, 85, 86, 87, 88, 89, 90, 91, 92, 93, 94, 95] (by decide +kernel) (by decide +kernel)
set_option maxRecDepth 20000 in
theorem gX12_overlap_X12_gearAt : GoodIn wsX12_overlap (wsV RX12 111 RX12 yX12_gearAt wsX12_gearAt) := goodIn_app (goodIn_of _ (by decide +kernel)) ggX12_overlap_X12_gearAt
set_option maxRecDepth 20000 in
theorem ggX12_overlap_X12_overlapOf : GoodIn wsX12_overlap wsX12_overlapOf := goodIn_ca (goodIn_r _ [49, 50, 51, 52, 53, 54, 55, 56, 57, 58, 96, 97, 98, 99, 100, 101, 102, 103, 104, 105, 106, 107, 108, 109, 110, 111, 112, 113, 114, 115, 116, 117, 118] (by decide +kernel) (by decide +kernel)) (goodIn_sub (fun _ h => List.mem_cons_of_mem _ (List.mem_append_right _ h)) (by decide +kernel))
set_option maxRecDepth 20000 in
theorem gX12_overlap_X12_overlapOf : GoodIn wsX12_overlap (va_wsS RX12 228 yX12_overlapOf wsX12_overlapOf) := goodIn_app (goodIn_of _ (by decide +kernel)) ggX12_overlap_X12_overlapOf
theorem dX12_overlap_0 : decode cX12_overlap 0 = .ok (.aload_n 0, 1) := by decide +kernel
theorem dX12_overlap_1 : decode cX12_overlap 1 = .ok (.iload_n 1, 1) := by decide +kernel
theorem dX12_overlap_2 : decode cX12_overlap 2 = .ok (.iload_n 2, 1) := by decide +kernel
theorem dX12_overlap_3 : decode cX12_overlap 3 = .ok (.iconst 1, 1) := by decide +kernel
theorem dX12_overlap_4 : decode cX12_overlap 4 = .ok (.iconst 2, 1) := by decide +kernel
theorem dX12_overlap_5 : decode cX12_overlap 5 = .ok (.invokevirtual 220, 3) := by decide +kernel
theorem dX12_overlap_8 : decode cX12_overlap 8 = .ok (.ifCond .eq 19, 3) := by decide +kernel
theorem dX12_overlap_11 : decode cX12_overlap 11 = .ok (.aload_n 0, 1) := by decide +kernel
theorem dX12_overlap_12 : decode cX12_overlap 12 = .ok (.iload_n 1, 1) := by decide +kernel
theorem dX12_overlap_13 : decode cX12_overlap 13 = .ok (.invokevirtual 111, 3) := by decide +kernel
theorem dX12_overlap_16 : decode cX12_overlap 16 = .ok (.aload_n 0, 1) := by decide +kernel
theorem dX12_overlap_17 : decode cX12_overlap 17 = .ok (.iload_n 2, 1) := by decide +kernel
theorem dX12_overlap_18 : decode cX12_overlap 18 = .ok (.invokevirtual 111, 3) := by decide +kernel
theorem dX12_overlap_21 : decode cX12_overlap 21 = .ok (.invokestatic 228, 3) := by decide +kernel
theorem dX12_overlap_24 : decode cX12_overlap 24 = .ok (.goto 4, 3) := by decide +kernel
theorem dX12_overlap_27 : decode cX12_overlap 27 = .ok (.lconst 0, 1) := by decide +kernel
theorem dX12_overlap_28 : decode cX12_overlap 28 = .ok (.lreturn, 1) := by decide +kernel
set_option maxRecDepth 20000 in
theorem ggX12_runsWell_X12_isAsked : GoodIn wsX12_runsWell wsX12_isAsked := goodIn_r _ [6, 7, 8, 9, 10, 5, 11, 12, 13, 14, 15, 16, 17, 18, 19, 20, 21, 22, 23, 24, 25, 26, 27, 28, 29, 30, 31, 32, 33, 34, 35, 36, 37, 38, 39, 40, 41, 42, 43, 44, 45, 46, 47, 131, 132, 133, 134, 135, 136, 137, 138, 139, 140, 141, 142, 143, 144, 145, 146, 147, 148, 149, 150, 151, 152, 153, 154, 155, 156, 157, 158, 159, 160, 161, 162, 163, 164, 165, 166, 167, 108, 109, 110, 111, 112, 113, 114, 115, 116, 117, 118, 119, 120, 121, 122, 123, 124, 125, 126, 127, 128, 129, 130] (by decide +kernel) (by decide +kernel)
set_option maxRecDepth 20000 in
theorem gX12_runsWell_X12_isAsked : GoodIn wsX12_runsWell (wsV RX12 220 RX12 yX12_isAsked wsX12_isAsked) := goodIn_app (goodIn_of _ (by decide +kernel)) ggX12_runsWell_X12_isAsked
set_option maxRecDepth 20000 in
theorem ggX12_runsWell_X12_gearAt : GoodIn wsX12_runsWell wsX12_gearAt := goodIn_r _ [29, 12, 30, 31, 32, 33, 16, 34, 18, 35, 36, 37, 38, 39, 40, 41, 42, 43, 44, 45, 46, 47, 131, 132, 133, 134, 135, 136, 137, 138, 139, 140, 141, 142, 143, 144, 145, 146, 147, 148, 149, 150, 151, 152, 153, 154, 155, 156, 157, 158, 159, 160, 161, 162, 163, 164, 165, 166, 167] (by decide +kernel) (by decide +kernel)
set_option maxRecDepth 20000 in
theorem gX12_runsWell_X12_gearAt : GoodIn wsX12_runsWell (wsV RX12 111 RX12 yX12_gearAt wsX12_gearAt) := goodIn_app (goodIn_of _ (by decide +kernel)) ggX12_runsWell_X12_gearAt
set_option maxRecDepth 20000 in
theorem ggX12_runsWell_X10_isFine : GoodIn wsX12_runsWell wsX10_isFine := goodIn_r _ [52, 53, 54, 55, 51, 56, 57, 58, 59, 60, 61, 108, 109, 110, 111, 112, 113, 114, 115, 116, 117, 118, 119, 120, 121, 122, 123, 124, 125, 126, 127, 128, 129, 130] (by decide +kernel) (by decide +kernel)
set_option maxRecDepth 20000 in
theorem gX12_runsWell_X10_isFine : GoodIn wsX12_runsWell (wsV RX12 231 RX10 yX10_isFine wsX10_isFine) := goodIn_app (goodIn_of _ (by decide +kernel)) ggX12_runsWell_X10_isFine
set_option maxRecDepth 20000 in
theorem ggX12_runsWell_X12_contactOf : GoodIn wsX12_runsWell wsX12_contactOf := goodIn_ca (goodIn_r _ [65, 66, 67, 68, 69, 70, 71, 72, 73, 74, 75, 76, 77, 51, 78, 57, 79, 80, 81, 82, 83, 84, 85, 86, 87, 88, 89, 90, 91, 92, 93, 5, 94, 95, 96, 97, 108, 109, 110, 111, 112, 113, 114, 115, 116, 117, 118, 119, 120, 121, 122, 123, 124, 125, 126, 127, 128, 129, 130] (by decide +kernel) (by decide +kernel)) (goodIn_sub (fun _ h => List.mem_cons_of_mem _ (List.mem_append_right _ h)) (by decide +kernel))
set_option maxRecDepth 20000 in
theorem gX12_runsWell_X12_contactOf : GoodIn wsX12_runsWell (wsV RX12 224 RX12 yX12_contactOf wsX12_contactOf) := goodIn_app (goodIn_of _ (by decide +kernel)) ggX12_runsWell_X12_contactOf
set_option maxRecDepth 20000 in
theorem ggX12_runsWell_X12_overlapOf : GoodIn wsX12_runsWell wsX12_overlapOf := goodIn_ca (goodIn_r _ [100, 101, 102, 73, 103, 104, 105, 106, 69, 107, 108, 109, 110, 111, 112, 113, 114, 115, 116, 117, 118, 119, 120, 121, 122, 123, 124, 125, 126, 127, 128, 129, 130] (by decide +kernel) (by decide +kernel)) (goodIn_sub (fun _ h => List.mem_cons_of_mem _ (List.mem_append_right _ h)) (by decide +kernel))
set_option maxRecDepth 20000 in
theorem gX12_runsWell_X12_overlapOf : GoodIn wsX12_runsWell (va_wsS RX12 228 yX12_overlapOf wsX12_overlapOf) := goodIn_app (goodIn_of _ (by decide +kernel)) ggX12_runsWell_X12_overlapOf
theorem dX12_runsWell_0 : decode cX12_runsWell 0 = .ok (.aload_n 0, 1) := by decide +kernel
theorem dX12_runsWell_1 : decode cX12_runsWell 1 = .ok (.iload_n 1, 1) := by decide +kernel
theorem dX12_runsWell_2 : decode cX12_runsWell 2 = .ok (.iload_n 2, 1) := by decide +kernel
theorem dX12_runsWell_3 : decode cX12_runsWell 3 = .ok (.iconst 1, 1) := by decide +kernel
theorem dX12_runsWell_4 : decode cX12_runsWell 4 = .ok (.iconst 2, 1) := by decide +kernel
theorem dX12_runsWell_5 : decode cX12_runsWell 5 = .ok (.invokevirtual 220, 3) := by decide +kernel
theorem dX12_runsWell_8 : decode cX12_runsWell 8 = .ok (.ifCond .ne 5, 3) := by decide +kernel
theorem dX12_runsWell_11 : decode cX12_runsWell 11 = .ok (.iconst 0, 1) := by decide +kernel
theorem dX12_runsWell_12 : decode cX12_runsWell 12 = .ok (.ireturn, 1) := by decide +kernel
theorem dX12_runsWell_13 : decode cX12_runsWell 13 = .ok (.aload_n 0, 1) := by decide +kernel
theorem dX12_runsWell_14 : decode cX12_runsWell 14 = .ok (.iload_n 1, 1) := by decide +kernel
theorem dX12_runsWell_15 : decode cX12_runsWell 15 = .ok (.invokevirtual 111, 3) := by decide +kernel
theorem dX12_runsWell_18 : decode cX12_runsWell 18 = .ok (.astore_n 3, 1) := by decide +kernel
theorem dX12_runsWell_19 : decode cX12_runsWell 19 = .ok (.aload_n 0, 1) := by decide +kernel
theorem dX12_runsWell_20 : decode cX12_runsWell 20 = .ok (.iload_n 2, 1) := by decide +kernel
theorem dX12_runsWell_21 : decode cX12_runsWell 21 = .ok (.invokevirtual 111, 3) := by decide +kernel
theorem dX12_runsWell_24 : decode cX12_runsWell 24 = .ok (.astore 4, 2) := by decide +kernel
theorem dX12_runsWell_26 : decode cX12_runsWell 26 = .ok (.aload_n 3, 1) := by decide +kernel
theorem dX12_runsWell_27 : decode cX12_runsWell 27 = .ok (.aload_n 3, 1) := by decide +kernel
theorem dX12_runsWell_28 : decode cX12_runsWell 28 = .ok (.getfield 164, 3) := by decide +kernel
theorem dX12_runsWell_31 : decode cX12_runsWell 31 = .ok (.invokevirtual 231, 3) := by decide +kernel
theorem dX12_runsWell_34 : decode cX12_runsWell 34 = .ok (.ifCond .eq 41, 3) := by decide +kernel
theorem dX12_runsWell_37 : decode cX12_runsWell 37 = .ok (.aload 4, 2) := by decide +kernel
theorem dX12_runsWell_39 : decode cX12_runsWell 39 = .ok (.aload 4, 2) := by decide +kernel
theorem dX12_runsWell_41 : decode cX12_runsWell 41 = .ok (.getfield 164, 3) := by decide +kernel
theorem dX12_runsWell_44 : decode cX12_runsWell 44 = .ok (.invokevirtual 231, 3) := by decide +kernel
theorem dX12_runsWell_47 : decode cX12_runsWell 47 = .ok (.ifCond .eq 28, 3) := by decide +kernel
theorem dX12_runsWell_50 : decode cX12_runsWell 50 = .ok (.aload_n 0, 1) := by decide +kernel
theorem dX12_runsWell_51 : decode cX12_runsWell 51 = .ok (.aload_n 3, 1) := by decide +kernel
theorem dX12_runsWell_52 : decode cX12_runsWell 52 = .ok (.aload 4, 2) := by decide +kernel
theorem dX12_runsWell_54 : decode cX12_runsWell 54 = .ok (.invokevirtual 224, 3) := by decide +kernel
theorem dX12_runsWell_57 : decode cX12_runsWell 57 = .ok (.aload_n 3, 1) := by decide +kernel
theorem dX12_runsWell_58 : decode cX12_runsWell 58 = .ok (.aload 4, 2) := by decide +kernel
theorem dX12_runsWell_60 : decode cX12_runsWell 60 = .ok (.invokestatic 228, 3) := by decide +kernel
theorem dX12_runsWell_63 : decode cX12_runsWell 63 = .ok (.ladd, 1) := by decide +kernel
theorem dX12_runsWell_64 : decode cX12_runsWell 64 = .ok (.ldc2_w 234, 3) := by decide +kernel
theorem dX12_runsWell_67 : decode cX12_runsWell 67 = .ok (.lcmp, 1) := by decide +kernel
theorem dX12_runsWell_68 : decode cX12_runsWell 68 = .ok (.ifCond .lt 7, 3) := by decide +kernel
theorem dX12_runsWell_71 : decode cX12_runsWell 71 = .ok (.iconst 1, 1) := by decide +kernel
theorem dX12_runsWell_72 : decode cX12_runsWell 72 = .ok (.goto 4, 3) := by decide +kernel
theorem dX12_runsWell_75 : decode cX12_runsWell 75 = .ok (.iconst 0, 1) := by decide +kernel
theorem dX12_runsWell_76 : decode cX12_runsWell 76 = .ok (.ireturn, 1) := by decide +kernel
set_option maxRecDepth 20000 in
theorem ggX12_slideOf_X10_way : GoodIn wsX12_slideOf wsX10_way := goodIn_r _ [9, 10, 11, 12, 13, 14, 8, 15, 16, 17, 18, 19, 20, 21, 22, 23, 24, 25, 26, 27, 28, 29, 30, 31, 32, 33, 34, 35, 36, 37, 38, 39, 40, 41, 42, 43, 44, 45, 46, 47, 48, 49, 50, 51, 52, 53, 54, 55, 56] (by decide +kernel) (by decide +kernel)
set_option maxRecDepth 20000 in
theorem gX12_slideOf_X10_way : GoodIn wsX12_slideOf (wsV RX12 236 RX10 yX10_way wsX10_way) := goodIn_app (goodIn_of _ (by decide +kernel)) ggX12_slideOf_X10_way
theorem dX12_slideOf_0 : decode cX12_slideOf 0 = .ok (.aload_n 0, 1) := by decide +kernel
theorem dX12_slideOf_1 : decode cX12_slideOf 1 = .ok (.iload_n 2, 1) := by decide +kernel
theorem dX12_slideOf_2 : decode cX12_slideOf 2 = .ok (.invokevirtual 236, 3) := by decide +kernel
theorem dX12_slideOf_5 : decode cX12_slideOf 5 = .ok (.aload_n 1, 1) := by decide +kernel
theorem dX12_slideOf_6 : decode cX12_slideOf 6 = .ok (.iload_n 3, 1) := by decide +kernel
theorem dX12_slideOf_7 : decode cX12_slideOf 7 = .ok (.invokevirtual 236, 3) := by decide +kernel
theorem dX12_slideOf_10 : decode cX12_slideOf 10 = .ok (.lsub, 1) := by decide +kernel
theorem dX12_slideOf_11 : decode cX12_slideOf 11 = .ok (.invokestatic 239, 3) := by decide +kernel
theorem dX12_slideOf_14 : decode cX12_slideOf 14 = .ok (.lreturn, 1) := by decide +kernel
set_option maxRecDepth 20000 in
theorem ggX12_slide_X12_isAsked : GoodIn wsX12_slide wsX12_isAsked := goodIn_r _ [5, 6, 7, 8, 9, 4, 10, 11, 12, 13, 14, 15, 16, 17, 18, 19, 20, 21, 22, 23, 24, 25, 26, 27, 28, 29, 30, 31, 32, 33, 34, 35, 36, 37, 38, 39, 40, 41, 42, 43, 44, 45, 46, 105, 106, 107, 108, 109, 110, 111, 112, 113, 114, 115, 116, 117, 118, 119, 120, 121, 122, 123, 124, 125, 126, 127, 128, 129, 130, 131, 132, 133, 134, 135, 136, 137, 138, 139, 140, 141, 82, 83, 84, 85, 86, 87, 88, 89, 90, 91, 92, 93, 94, 95, 96, 97, 98, 99, 100, 101, 102, 103, 104] (by decide +kernel) (by decide +kernel)
set_option maxRecDepth 20000 in
theorem gX12_slide_X12_isAsked : GoodIn wsX12_slide (wsV RX12 220 RX12 yX12_isAsked wsX12_isAsked) := goodIn_app (goodIn_of _ (by decide +kernel)) ggX12_slide_X12_isAsked
set_option maxRecDepth 20000 in
theorem ggX12_slide_X12_gearAt : GoodIn wsX12_slide wsX12_gearAt := goodIn_r _ [28, 11, 29, 30, 31, 32, 15, 33, 17, 34, 35, 36, 37, 38, 39, 40, 41, 42, 43, 44, 45, 46, 105, 106, 107, 108, 109, 110, 111, 112, 113, 114, 115, 116, 117, 118, 119, 120, 121, 122, 123, 124, 125, 126, 127, 128, 129, 130, 131, 132, 133, 134, 135, 136, 137, 138, 139, 140, 141] (by decide +kernel) (by decide +kernel)
set_option maxRecDepth 20000 in
theorem gX12_slide_X12_gearAt : GoodIn wsX12_slide (wsV RX12 111 RX12 yX12_gearAt wsX12_gearAt) := goodIn_app (goodIn_of _ (by decide +kernel)) ggX12_slide_X12_gearAt
set_option maxRecDepth 20000 in
theorem ggX12_slide_X12_slideOf : GoodIn wsX12_slide wsX12_slideOf := goodIn_r _ [49, 50, 51, 52, 53, 54, 55, 56, 57, 58, 59, 60, 61, 62, 63, 64, 65, 66, 67, 68, 69, 70, 71, 72, 73, 74, 75, 76, 77, 78, 4, 79, 80, 81, 82, 83, 84, 85, 86, 87, 88, 89, 90, 91, 92, 93, 94, 95, 96, 97, 98, 99, 100, 101, 102, 103, 104] (by decide +kernel) (by decide +kernel)
set_option maxRecDepth 20000 in
theorem gX12_slide_X12_slideOf : GoodIn wsX12_slide (va_wsS RX12 241 yX12_slideOf wsX12_slideOf) := goodIn_app (goodIn_of _ (by decide +kernel)) ggX12_slide_X12_slideOf
theorem dX12_slide_0 : decode cX12_slide 0 = .ok (.aload_n 0, 1) := by decide +kernel
theorem dX12_slide_1 : decode cX12_slide 1 = .ok (.iload_n 1, 1) := by decide +kernel
theorem dX12_slide_2 : decode cX12_slide 2 = .ok (.iload_n 2, 1) := by decide +kernel
theorem dX12_slide_3 : decode cX12_slide 3 = .ok (.iconst 1, 1) := by decide +kernel
theorem dX12_slide_4 : decode cX12_slide 4 = .ok (.iconst 2, 1) := by decide +kernel
theorem dX12_slide_5 : decode cX12_slide 5 = .ok (.invokevirtual 220, 3) := by decide +kernel
theorem dX12_slide_8 : decode cX12_slide 8 = .ok (.ifCond .eq 35, 3) := by decide +kernel
theorem dX12_slide_11 : decode cX12_slide 11 = .ok (.aload_n 0, 1) := by decide +kernel
theorem dX12_slide_12 : decode cX12_slide 12 = .ok (.iload_n 1, 1) := by decide +kernel
theorem dX12_slide_13 : decode cX12_slide 13 = .ok (.invokevirtual 111, 3) := by decide +kernel
theorem dX12_slide_16 : decode cX12_slide 16 = .ok (.aload_n 0, 1) := by decide +kernel
theorem dX12_slide_17 : decode cX12_slide 17 = .ok (.iload_n 2, 1) := by decide +kernel
theorem dX12_slide_18 : decode cX12_slide 18 = .ok (.invokevirtual 111, 3) := by decide +kernel
theorem dX12_slide_21 : decode cX12_slide 21 = .ok (.aload_n 0, 1) := by decide +kernel
theorem dX12_slide_22 : decode cX12_slide 22 = .ok (.iload_n 1, 1) := by decide +kernel
theorem dX12_slide_23 : decode cX12_slide 23 = .ok (.invokevirtual 111, 3) := by decide +kernel
theorem dX12_slide_26 : decode cX12_slide 26 = .ok (.getfield 164, 3) := by decide +kernel
theorem dX12_slide_29 : decode cX12_slide 29 = .ok (.aload_n 0, 1) := by decide +kernel
theorem dX12_slide_30 : decode cX12_slide 30 = .ok (.iload_n 2, 1) := by decide +kernel
theorem dX12_slide_31 : decode cX12_slide 31 = .ok (.invokevirtual 111, 3) := by decide +kernel
theorem dX12_slide_34 : decode cX12_slide 34 = .ok (.getfield 164, 3) := by decide +kernel
theorem dX12_slide_37 : decode cX12_slide 37 = .ok (.invokestatic 241, 3) := by decide +kernel
theorem dX12_slide_40 : decode cX12_slide 40 = .ok (.goto 4, 3) := by decide +kernel
theorem dX12_slide_43 : decode cX12_slide 43 = .ok (.lconst 0, 1) := by decide +kernel
theorem dX12_slide_44 : decode cX12_slide 44 = .ok (.lreturn, 1) := by decide +kernel
set_option maxRecDepth 20000 in
theorem ggX12_balance_X12_isGear : GoodIn wsX12_balance wsX12_isGear := goodIn_r _ [5, 6, 7, 8, 9, 10, 11, 12, 13, 14, 4, 15, 121, 122, 123, 124, 125, 126, 127, 128, 129, 130, 131, 132, 133, 134, 135, 136, 137, 138, 139, 140, 141, 142, 143, 144, 145, 146, 147, 148, 149, 150, 151, 152, 153, 154, 155, 156, 157] (by decide +kernel) (by decide +kernel)
set_option maxRecDepth 20000 in
theorem gX12_balance_X12_isGear : GoodIn wsX12_balance (wsV RX12 121 RX12 yX12_isGear wsX12_isGear) := goodIn_app (goodIn_of _ (by decide +kernel)) ggX12_balance_X12_isGear
set_option maxRecDepth 20000 in
theorem ggX12_balance_X12_fails : GoodIn wsX12_balance wsX12_fails := goodIn_r _ [19, 20, 121, 122, 123, 124, 125, 126, 127, 128, 129, 130, 131, 132, 133, 134, 135, 136, 137, 138, 139, 140, 141, 142, 143, 144, 145, 146, 147, 148, 149, 150, 151, 152, 153, 154] (by decide +kernel) (by decide +kernel)
set_option maxRecDepth 20000 in
theorem gX12_balance_X12_fails : GoodIn wsX12_balance (wsV RX12 143 RX12 yX12_fails wsX12_fails) := goodIn_app (goodIn_of _ (by decide +kernel)) ggX12_balance_X12_fails
set_option maxRecDepth 20000 in
theorem ggX12_balance_X12_isPair : GoodIn wsX12_balance wsX12_isPair := goodIn_r _ [24, 25, 26, 27, 4, 28, 6, 29, 30, 31, 32, 10, 33, 12, 34, 35, 36, 37, 38, 39, 40, 41, 42, 43, 44, 45, 46, 98, 99, 100, 101, 102, 103, 104, 105, 106, 107, 108, 109, 110, 111, 112, 113, 114, 115, 116, 117, 118, 119, 120, 121, 122, 123, 124, 125, 126, 127, 128, 129, 130, 131, 132, 133, 134, 135, 136, 137, 138, 139, 140, 141, 142, 143, 144, 145, 146, 147, 148, 149, 150, 151, 152, 153, 154, 155, 156, 157] (by decide +kernel) (by decide +kernel)
set_option maxRecDepth 20000 in
theorem gX12_balance_X12_isPair : GoodIn wsX12_balance (wsV RX12 125 RX12 yX12_isPair wsX12_isPair) := goodIn_app (goodIn_of _ (by decide +kernel)) ggX12_balance_X12_isPair
set_option maxRecDepth 20000 in
theorem ggX12_balance_X12_gearAt : GoodIn wsX12_balance wsX12_gearAt := goodIn_r _ [28, 6, 29, 30, 31, 32, 10, 33, 12, 34, 35, 36, 37, 38, 39, 40, 41, 42, 43, 44, 45, 46, 121, 122, 123, 124, 125, 126, 127, 128, 129, 130, 131, 132, 133, 134, 135, 136, 137, 138, 139, 140, 141, 142, 143, 144, 145, 146, 147, 148, 149, 150, 151, 152, 153, 154, 155, 156, 157] (by decide +kernel) (by decide +kernel)
set_option maxRecDepth 20000 in
theorem gX12_balance_X12_gearAt : GoodIn wsX12_balance (wsV RX12 111 RX12 yX12_gearAt wsX12_gearAt) := goodIn_app (goodIn_of _ (by decide +kernel)) ggX12_balance_X12_gearAt
set_option maxRecDepth 20000 in
theorem ggX12_balance_X10_isFine : GoodIn wsX12_balance wsX10_isFine := goodIn_r _ [51, 52, 53, 54, 50, 55, 56, 57, 58, 59, 60, 98, 99, 100, 101, 102, 103, 104, 105, 106, 107, 108, 109, 110, 111, 112, 113, 114, 115, 116, 117, 118, 119, 120] (by decide +kernel) (by decide +kernel)
set_option maxRecDepth 20000 in
theorem gX12_balance_X10_isFine : GoodIn wsX12_balance (wsV RX12 231 RX10 yX10_isFine wsX10_isFine) := goodIn_app (goodIn_of _ (by decide +kernel)) ggX12_balance_X10_isFine
set_option maxRecDepth 20000 in
theorem ggX12_balance_X12_slideOf : GoodIn wsX12_balance wsX12_slideOf := goodIn_r _ [63, 64, 65, 66, 67, 68, 69, 70, 50, 71, 72, 73, 74, 75, 76, 77, 78, 79, 80, 81, 82, 83, 84, 85, 86, 87, 88, 89, 56, 90, 4, 91, 92, 93, 98, 99, 100, 101, 102, 103, 104, 105, 106, 107, 108, 109, 110, 111, 112, 113, 114, 115, 116, 117, 118, 119, 120] (by decide +kernel) (by decide +kernel)
set_option maxRecDepth 20000 in
theorem gX12_balance_X12_slideOf : GoodIn wsX12_balance (va_wsS RX12 241 yX12_slideOf wsX12_slideOf) := goodIn_app (goodIn_of _ (by decide +kernel)) ggX12_balance_X12_slideOf
set_option maxRecDepth 20000 in
theorem ggX12_balance_X12_answer : GoodIn wsX12_balance wsX12_answer := goodIn_r _ [97, 20, 121, 122, 123, 124, 125, 126, 127, 128, 129, 130, 131, 132, 133, 134, 135, 136, 137, 138, 139, 140, 141, 142, 143, 144, 145, 146, 147, 148, 149, 150, 151, 152, 153, 154] (by decide +kernel) (by decide +kernel)
set_option maxRecDepth 20000 in
theorem gX12_balance_X12_answer : GoodIn wsX12_balance (wsV RX12 153 RX12 yX12_answer wsX12_answer) := goodIn_app (goodIn_of _ (by decide +kernel)) ggX12_balance_X12_answer
theorem dX12_balance_0 : decode cX12_balance 0 = .ok (.aload_n 0, 1) := by decide +kernel
theorem dX12_balance_1 : decode cX12_balance 1 = .ok (.iload_n 1, 1) := by decide +kernel
theorem dX12_balance_2 : decode cX12_balance 2 = .ok (.invokevirtual 121, 3) := by decide +kernel
theorem dX12_balance_5 : decode cX12_balance 5 = .ok (.ifCond .eq 11, 3) := by decide +kernel
theorem dX12_balance_8 : decode cX12_balance 8 = .ok (.aload_n 0, 1) := by decide +kernel
theorem dX12_balance_9 : decode cX12_balance 9 = .ok (.iload_n 2, 1) := by decide +kernel
theorem dX12_balance_10 : decode cX12_balance 10 = .ok (.invokevirtual 121, 3) := by decide +kernel
theorem dX12_balance_13 : decode cX12_balance 13 = .ok (.ifCond .ne 9, 3) := by decide +kernel
theorem dX12_balance_16 : decode cX12_balance 16 = .ok (.aload_n 0, 1) := by decide +kernel
theorem dX12_balance_17 : decode cX12_balance 17 = .ok (.iconst 1, 1) := by decide +kernel
theorem dX12_balance_18 : decode cX12_balance 18 = .ok (.invokevirtual 143, 3) := by decide +kernel
theorem dX12_balance_21 : decode cX12_balance 21 = .ok (.ireturn, 1) := by decide +kernel
theorem dX12_balance_22 : decode cX12_balance 22 = .ok (.aload_n 0, 1) := by decide +kernel
theorem dX12_balance_23 : decode cX12_balance 23 = .ok (.iload_n 1, 1) := by decide +kernel
theorem dX12_balance_24 : decode cX12_balance 24 = .ok (.iload_n 2, 1) := by decide +kernel
theorem dX12_balance_25 : decode cX12_balance 25 = .ok (.invokevirtual 125, 3) := by decide +kernel
theorem dX12_balance_28 : decode cX12_balance 28 = .ok (.ifCond .eq 25, 3) := by decide +kernel
theorem dX12_balance_31 : decode cX12_balance 31 = .ok (.aload_n 0, 1) := by decide +kernel
theorem dX12_balance_32 : decode cX12_balance 32 = .ok (.iload_n 1, 1) := by decide +kernel
theorem dX12_balance_33 : decode cX12_balance 33 = .ok (.invokevirtual 111, 3) := by decide +kernel
theorem dX12_balance_36 : decode cX12_balance 36 = .ok (.getfield 160, 3) := by decide +kernel
theorem dX12_balance_39 : decode cX12_balance 39 = .ok (.ifCond .ne 14, 3) := by decide +kernel
theorem dX12_balance_42 : decode cX12_balance 42 = .ok (.aload_n 0, 1) := by decide +kernel
theorem dX12_balance_43 : decode cX12_balance 43 = .ok (.iload_n 2, 1) := by decide +kernel
theorem dX12_balance_44 : decode cX12_balance 44 = .ok (.invokevirtual 111, 3) := by decide +kernel
theorem dX12_balance_47 : decode cX12_balance 47 = .ok (.getfield 160, 3) := by decide +kernel
theorem dX12_balance_50 : decode cX12_balance 50 = .ok (.ifCond .eq 9, 3) := by decide +kernel
theorem dX12_balance_53 : decode cX12_balance 53 = .ok (.aload_n 0, 1) := by decide +kernel
theorem dX12_balance_54 : decode cX12_balance 54 = .ok (.iconst 2, 1) := by decide +kernel
theorem dX12_balance_55 : decode cX12_balance 55 = .ok (.invokevirtual 143, 3) := by decide +kernel
theorem dX12_balance_58 : decode cX12_balance 58 = .ok (.ireturn, 1) := by decide +kernel
theorem dX12_balance_59 : decode cX12_balance 59 = .ok (.aload_n 0, 1) := by decide +kernel
theorem dX12_balance_60 : decode cX12_balance 60 = .ok (.iload_n 1, 1) := by decide +kernel
theorem dX12_balance_61 : decode cX12_balance 61 = .ok (.invokevirtual 111, 3) := by decide +kernel
theorem dX12_balance_64 : decode cX12_balance 64 = .ok (.astore_n 3, 1) := by decide +kernel
theorem dX12_balance_65 : decode cX12_balance 65 = .ok (.aload_n 0, 1) := by decide +kernel
theorem dX12_balance_66 : decode cX12_balance 66 = .ok (.iload_n 2, 1) := by decide +kernel
theorem dX12_balance_67 : decode cX12_balance 67 = .ok (.invokevirtual 111, 3) := by decide +kernel
theorem dX12_balance_70 : decode cX12_balance 70 = .ok (.astore 4, 2) := by decide +kernel
theorem dX12_balance_72 : decode cX12_balance 72 = .ok (.bipush 99, 2) := by decide +kernel
theorem dX12_balance_74 : decode cX12_balance 74 = .ok (.istore 5, 2) := by decide +kernel
theorem dX12_balance_76 : decode cX12_balance 76 = .ok (.iconst 0, 1) := by decide +kernel
theorem dX12_balance_77 : decode cX12_balance 77 = .ok (.istore 6, 2) := by decide +kernel
theorem dX12_balance_79 : decode cX12_balance 79 = .ok (.iload 6, 2) := by decide +kernel
theorem dX12_balance_81 : decode cX12_balance 81 = .ok (.bipush 50, 2) := by decide +kernel
theorem dX12_balance_83 : decode cX12_balance 83 = .ok (.if_icmp .gt 91, 3) := by decide +kernel
theorem dX12_balance_86 : decode cX12_balance 86 = .ok (.iconst 1, 1) := by decide +kernel
theorem dX12_balance_87 : decode cX12_balance 87 = .ok (.istore 7, 2) := by decide +kernel
theorem dX12_balance_89 : decode cX12_balance 89 = .ok (.iload 7, 2) := by decide +kernel
theorem dX12_balance_91 : decode cX12_balance 91 = .ok (.iconst (-1), 1) := by decide +kernel
theorem dX12_balance_92 : decode cX12_balance 92 = .ok (.if_icmp .lt 76, 3) := by decide +kernel
theorem dX12_balance_95 : decode cX12_balance 95 = .ok (.iload 7, 2) := by decide +kernel
theorem dX12_balance_97 : decode cX12_balance 97 = .ok (.iload 6, 2) := by decide +kernel
theorem dX12_balance_99 : decode cX12_balance 99 = .ok (.imul, 1) := by decide +kernel
theorem dX12_balance_100 : decode cX12_balance 100 = .ok (.istore 8, 2) := by decide +kernel
theorem dX12_balance_102 : decode cX12_balance 102 = .ok (.aload_n 3, 1) := by decide +kernel
theorem dX12_balance_103 : decode cX12_balance 103 = .ok (.iload 8, 2) := by decide +kernel
theorem dX12_balance_105 : decode cX12_balance 105 = .ok (.invokevirtual 231, 3) := by decide +kernel
theorem dX12_balance_108 : decode cX12_balance 108 = .ok (.ifCond .eq 54, 3) := by decide +kernel
theorem dX12_balance_111 : decode cX12_balance 111 = .ok (.aload 4, 2) := by decide +kernel
theorem dX12_balance_113 : decode cX12_balance 113 = .ok (.iload 8, 2) := by decide +kernel
theorem dX12_balance_115 : decode cX12_balance 115 = .ok (.ineg, 1) := by decide +kernel
theorem dX12_balance_116 : decode cX12_balance 116 = .ok (.invokevirtual 231, 3) := by decide +kernel
theorem dX12_balance_119 : decode cX12_balance 119 = .ok (.ifCond .ne 6, 3) := by decide +kernel
theorem dX12_balance_122 : decode cX12_balance 122 = .ok (.goto 40, 3) := by decide +kernel
theorem dX12_balance_125 : decode cX12_balance 125 = .ok (.iload 5, 2) := by decide +kernel
theorem dX12_balance_127 : decode cX12_balance 127 = .ok (.bipush 99, 2) := by decide +kernel
theorem dX12_balance_129 : decode cX12_balance 129 = .ok (.if_icmp .eq 29, 3) := by decide +kernel
theorem dX12_balance_132 : decode cX12_balance 132 = .ok (.aload_n 3, 1) := by decide +kernel
theorem dX12_balance_133 : decode cX12_balance 133 = .ok (.aload 4, 2) := by decide +kernel
theorem dX12_balance_135 : decode cX12_balance 135 = .ok (.iload 8, 2) := by decide +kernel
theorem dX12_balance_137 : decode cX12_balance 137 = .ok (.iload 8, 2) := by decide +kernel
theorem dX12_balance_139 : decode cX12_balance 139 = .ok (.ineg, 1) := by decide +kernel
theorem dX12_balance_140 : decode cX12_balance 140 = .ok (.invokestatic 241, 3) := by decide +kernel
theorem dX12_balance_143 : decode cX12_balance 143 = .ok (.aload_n 3, 1) := by decide +kernel
theorem dX12_balance_144 : decode cX12_balance 144 = .ok (.aload 4, 2) := by decide +kernel
theorem dX12_balance_146 : decode cX12_balance 146 = .ok (.iload 5, 2) := by decide +kernel
theorem dX12_balance_148 : decode cX12_balance 148 = .ok (.iload 5, 2) := by decide +kernel
theorem dX12_balance_150 : decode cX12_balance 150 = .ok (.ineg, 1) := by decide +kernel
theorem dX12_balance_151 : decode cX12_balance 151 = .ok (.invokestatic 241, 3) := by decide +kernel
theorem dX12_balance_154 : decode cX12_balance 154 = .ok (.lcmp, 1) := by decide +kernel
theorem dX12_balance_155 : decode cX12_balance 155 = .ok (.ifCond .ge 7, 3) := by decide +kernel
theorem dX12_balance_158 : decode cX12_balance 158 = .ok (.iload 8, 2) := by decide +kernel
theorem dX12_balance_160 : decode cX12_balance 160 = .ok (.istore 5, 2) := by decide +kernel
theorem dX12_balance_162 : decode cX12_balance 162 = .ok (.iinc 7 (-2), 3) := by decide +kernel
theorem dX12_balance_165 : decode cX12_balance 165 = .ok (.goto (-76), 3) := by decide +kernel
theorem dX12_balance_168 : decode cX12_balance 168 = .ok (.iinc 6 1, 3) := by decide +kernel
theorem dX12_balance_171 : decode cX12_balance 171 = .ok (.goto (-92), 3) := by decide +kernel
theorem dX12_balance_174 : decode cX12_balance 174 = .ok (.iload 5, 2) := by decide +kernel
theorem dX12_balance_176 : decode cX12_balance 176 = .ok (.bipush 99, 2) := by decide +kernel
theorem dX12_balance_178 : decode cX12_balance 178 = .ok (.if_icmp .ne 9, 3) := by decide +kernel
theorem dX12_balance_181 : decode cX12_balance 181 = .ok (.aload_n 0, 1) := by decide +kernel
theorem dX12_balance_182 : decode cX12_balance 182 = .ok (.iconst 3, 1) := by decide +kernel
theorem dX12_balance_183 : decode cX12_balance 183 = .ok (.invokevirtual 143, 3) := by decide +kernel
theorem dX12_balance_186 : decode cX12_balance 186 = .ok (.ireturn, 1) := by decide +kernel
theorem dX12_balance_187 : decode cX12_balance 187 = .ok (.aload_n 3, 1) := by decide +kernel
theorem dX12_balance_188 : decode cX12_balance 188 = .ok (.iload 5, 2) := by decide +kernel
theorem dX12_balance_190 : decode cX12_balance 190 = .ok (.putfield 164, 3) := by decide +kernel
theorem dX12_balance_193 : decode cX12_balance 193 = .ok (.aload 4, 2) := by decide +kernel
theorem dX12_balance_195 : decode cX12_balance 195 = .ok (.iload 5, 2) := by decide +kernel
theorem dX12_balance_197 : decode cX12_balance 197 = .ok (.ineg, 1) := by decide +kernel
theorem dX12_balance_198 : decode cX12_balance 198 = .ok (.putfield 164, 3) := by decide +kernel
theorem dX12_balance_201 : decode cX12_balance 201 = .ok (.aload_n 0, 1) := by decide +kernel
theorem dX12_balance_202 : decode cX12_balance 202 = .ok (.iload 5, 2) := by decide +kernel
theorem dX12_balance_204 : decode cX12_balance 204 = .ok (.invokevirtual 153, 3) := by decide +kernel
theorem dX12_balance_207 : decode cX12_balance 207 = .ok (.ireturn, 1) := by decide +kernel
set_option maxRecDepth 20000 in
theorem ggX12_section_X12_isGear : GoodIn wsX12_section wsX12_isGear := goodIn_r _ [8, 9, 10, 11, 12, 13, 14, 15, 16, 17, 7, 18, 84, 85, 86, 87, 88, 89, 90, 91, 92, 93, 94, 95, 96, 97, 98, 99, 100, 101, 102, 103, 104, 105, 106, 107, 108, 109, 110, 111, 112, 113, 114, 115, 116, 117, 118, 119, 120] (by decide +kernel) (by decide +kernel)
set_option maxRecDepth 20000 in
theorem gX12_section_X12_isGear : GoodIn wsX12_section (wsV RX12 121 RX12 yX12_isGear wsX12_isGear) := goodIn_app (goodIn_of _ (by decide +kernel)) ggX12_section_X12_isGear
set_option maxRecDepth 20000 in
theorem ggX12_section_X12_fails : GoodIn wsX12_section wsX12_fails := goodIn_r _ [22, 23, 84, 85, 86, 87, 88, 89, 90, 91, 92, 93, 94, 95, 96, 97, 98, 99, 100, 101, 102, 103, 104, 105, 106, 107, 108, 109, 110, 111, 112, 113, 114, 115, 116, 117] (by decide +kernel) (by decide +kernel)
set_option maxRecDepth 20000 in
theorem gX12_section_X12_fails : GoodIn wsX12_section (wsV RX12 143 RX12 yX12_fails wsX12_fails) := goodIn_app (goodIn_of _ (by decide +kernel)) ggX12_section_X12_fails
set_option maxRecDepth 20000 in
theorem ggX12_section_X12_in : GoodIn wsX12_section wsX12_in := goodIn_r _ [18] (by decide +kernel) (by decide +kernel)
set_option maxRecDepth 20000 in
theorem gX12_section_X12_in : GoodIn wsX12_section (va_wsS RX12 101 yX12_in wsX12_in) := goodIn_app (goodIn_of _ (by decide +kernel)) ggX12_section_X12_in
set_option maxRecDepth 20000 in
theorem ggX12_section_X12_gearAt : GoodIn wsX12_section wsX12_gearAt := goodIn_r _ [27, 9, 28, 29, 30, 31, 13, 32, 15, 33, 34, 35, 36, 37, 38, 39, 40, 41, 42, 43, 44, 45, 84, 85, 86, 87, 88, 89, 90, 91, 92, 93, 94, 95, 96, 97, 98, 99, 100, 101, 102, 103, 104, 105, 106, 107, 108, 109, 110, 111, 112, 113, 114, 115, 116, 117, 118, 119, 120] (by decide +kernel) (by decide +kernel)
set_option maxRecDepth 20000 in
theorem gX12_section_X12_gearAt : GoodIn wsX12_section (wsV RX12 111 RX12 yX12_gearAt wsX12_gearAt) := goodIn_app (goodIn_of _ (by decide +kernel)) ggX12_section_X12_gearAt
set_option maxRecDepth 20000 in
theorem ggX12_section_X10_across : GoodIn wsX12_section wsX10_across := goodIn_r _ [50, 51, 52, 61, 62, 63, 64, 65, 66, 67, 68, 69, 70, 71, 72, 73, 74, 75, 76, 77, 78, 79, 80, 81, 82, 83] (by decide +kernel) (by decide +kernel)
set_option maxRecDepth 20000 in
theorem gX12_section_X10_across : GoodIn wsX12_section (wsV RX12 167 RX10 yX10_across wsX10_across) := goodIn_app (goodIn_of _ (by decide +kernel)) ggX12_section_X10_across
set_option maxRecDepth 20000 in
theorem ggX12_section_X12_root : GoodIn wsX12_section wsX12_root := goodIn_r _ [55, 56, 2] (by decide +kernel) (by decide +kernel)
set_option maxRecDepth 20000 in
theorem gX12_section_X12_root : GoodIn wsX12_section (va_wsS RX12 195 yX12_root wsX12_root) := goodIn_app (goodIn_of _ (by decide +kernel)) ggX12_section_X12_root
set_option maxRecDepth 20000 in
theorem ggX12_section_X12_answer : GoodIn wsX12_section wsX12_answer := goodIn_r _ [60, 23, 84, 85, 86, 87, 88, 89, 90, 91, 92, 93, 94, 95, 96, 97, 98, 99, 100, 101, 102, 103, 104, 105, 106, 107, 108, 109, 110, 111, 112, 113, 114, 115, 116, 117] (by decide +kernel) (by decide +kernel)
set_option maxRecDepth 20000 in
theorem gX12_section_X12_answer : GoodIn wsX12_section (wsV RX12 153 RX12 yX12_answer wsX12_answer) := goodIn_app (goodIn_of _ (by decide +kernel)) ggX12_section_X12_answer
theorem dX12_section_0 : decode cX12_section 0 = .ok (.aload_n 0, 1) := by decide +kernel
theorem dX12_section_1 : decode cX12_section 1 = .ok (.iload_n 1, 1) := by decide +kernel
theorem dX12_section_2 : decode cX12_section 2 = .ok (.invokevirtual 121, 3) := by decide +kernel
theorem dX12_section_5 : decode cX12_section 5 = .ok (.ifCond .eq 11, 3) := by decide +kernel
theorem dX12_section_8 : decode cX12_section 8 = .ok (.aload_n 0, 1) := by decide +kernel
theorem dX12_section_9 : decode cX12_section 9 = .ok (.iload_n 2, 1) := by decide +kernel
theorem dX12_section_10 : decode cX12_section 10 = .ok (.invokevirtual 121, 3) := by decide +kernel
theorem dX12_section_13 : decode cX12_section 13 = .ok (.ifCond .ne 9, 3) := by decide +kernel
theorem dX12_section_16 : decode cX12_section 16 = .ok (.aload_n 0, 1) := by decide +kernel
theorem dX12_section_17 : decode cX12_section 17 = .ok (.iconst 1, 1) := by decide +kernel
theorem dX12_section_18 : decode cX12_section 18 = .ok (.invokevirtual 143, 3) := by decide +kernel
theorem dX12_section_21 : decode cX12_section 21 = .ok (.ireturn, 1) := by decide +kernel
theorem dX12_section_22 : decode cX12_section 22 = .ok (.iload 4, 2) := by decide +kernel
theorem dX12_section_24 : decode cX12_section 24 = .ok (.i2l, 1) := by decide +kernel
theorem dX12_section_25 : decode cX12_section 25 = .ok (.lconst 1, 1) := by decide +kernel
theorem dX12_section_26 : decode cX12_section 26 = .ok (.ldc2_w 245, 3) := by decide +kernel
theorem dX12_section_29 : decode cX12_section 29 = .ok (.invokestatic 101, 3) := by decide +kernel
theorem dX12_section_32 : decode cX12_section 32 = .ok (.ifCond .eq 17, 3) := by decide +kernel
theorem dX12_section_35 : decode cX12_section 35 = .ok (.iload_n 3, 1) := by decide +kernel
theorem dX12_section_36 : decode cX12_section 36 = .ok (.i2l, 1) := by decide +kernel
theorem dX12_section_37 : decode cX12_section 37 = .ok (.lconst 0, 1) := by decide +kernel
theorem dX12_section_38 : decode cX12_section 38 = .ok (.iload 4, 2) := by decide +kernel
theorem dX12_section_40 : decode cX12_section 40 = .ok (.iconst 1, 1) := by decide +kernel
theorem dX12_section_41 : decode cX12_section 41 = .ok (.isub, 1) := by decide +kernel
theorem dX12_section_42 : decode cX12_section 42 = .ok (.i2l, 1) := by decide +kernel
theorem dX12_section_43 : decode cX12_section 43 = .ok (.invokestatic 101, 3) := by decide +kernel
theorem dX12_section_46 : decode cX12_section 46 = .ok (.ifCond .ne 9, 3) := by decide +kernel
theorem dX12_section_49 : decode cX12_section 49 = .ok (.aload_n 0, 1) := by decide +kernel
theorem dX12_section_50 : decode cX12_section 50 = .ok (.iconst 2, 1) := by decide +kernel
theorem dX12_section_51 : decode cX12_section 51 = .ok (.invokevirtual 143, 3) := by decide +kernel
theorem dX12_section_54 : decode cX12_section 54 = .ok (.ireturn, 1) := by decide +kernel
theorem dX12_section_55 : decode cX12_section 55 = .ok (.aload_n 0, 1) := by decide +kernel
theorem dX12_section_56 : decode cX12_section 56 = .ok (.iload_n 1, 1) := by decide +kernel
theorem dX12_section_57 : decode cX12_section 57 = .ok (.invokevirtual 111, 3) := by decide +kernel
theorem dX12_section_60 : decode cX12_section 60 = .ok (.astore 5, 2) := by decide +kernel
theorem dX12_section_62 : decode cX12_section 62 = .ok (.aload_n 0, 1) := by decide +kernel
theorem dX12_section_63 : decode cX12_section 63 = .ok (.iload_n 2, 1) := by decide +kernel
theorem dX12_section_64 : decode cX12_section 64 = .ok (.invokevirtual 111, 3) := by decide +kernel
theorem dX12_section_67 : decode cX12_section 67 = .ok (.astore 6, 2) := by decide +kernel
theorem dX12_section_69 : decode cX12_section 69 = .ok (.aload 5, 2) := by decide +kernel
theorem dX12_section_71 : decode cX12_section 71 = .ok (.invokevirtual 167, 3) := by decide +kernel
theorem dX12_section_74 : decode cX12_section 74 = .ok (.aload 5, 2) := by decide +kernel
theorem dX12_section_76 : decode cX12_section 76 = .ok (.invokevirtual 167, 3) := by decide +kernel
theorem dX12_section_79 : decode cX12_section 79 = .ok (.lmul, 1) := by decide +kernel
theorem dX12_section_80 : decode cX12_section 80 = .ok (.aload 6, 2) := by decide +kernel
theorem dX12_section_82 : decode cX12_section 82 = .ok (.invokevirtual 167, 3) := by decide +kernel
theorem dX12_section_85 : decode cX12_section 85 = .ok (.aload 6, 2) := by decide +kernel
theorem dX12_section_87 : decode cX12_section 87 = .ok (.invokevirtual 167, 3) := by decide +kernel
theorem dX12_section_90 : decode cX12_section 90 = .ok (.lmul, 1) := by decide +kernel
theorem dX12_section_91 : decode cX12_section 91 = .ok (.ladd, 1) := by decide +kernel
theorem dX12_section_92 : decode cX12_section 92 = .ok (.invokestatic 195, 3) := by decide +kernel
theorem dX12_section_95 : decode cX12_section 95 = .ok (.ldc2_w 3, 3) := by decide +kernel
theorem dX12_section_98 : decode cX12_section 98 = .ok (.ldiv, 1) := by decide +kernel
theorem dX12_section_99 : decode cX12_section 99 = .ok (.lstore 7, 2) := by decide +kernel
theorem dX12_section_101 : decode cX12_section 101 = .ok (.aload 5, 2) := by decide +kernel
theorem dX12_section_103 : decode cX12_section 103 = .ok (.getfield 115, 3) := by decide +kernel
theorem dX12_section_106 : decode cX12_section 106 = .ok (.aload 6, 2) := by decide +kernel
theorem dX12_section_108 : decode cX12_section 108 = .ok (.getfield 115, 3) := by decide +kernel
theorem dX12_section_111 : decode cX12_section 111 = .ok (.if_icmp .ne 19, 3) := by decide +kernel
theorem dX12_section_114 : decode cX12_section 114 = .ok (.ldc2_w 247, 3) := by decide +kernel
theorem dX12_section_117 : decode cX12_section 117 = .ok (.aload 5, 2) := by decide +kernel
theorem dX12_section_119 : decode cX12_section 119 = .ok (.getfield 209, 3) := by decide +kernel
theorem dX12_section_122 : decode cX12_section 122 = .ok (.i2l, 1) := by decide +kernel
theorem dX12_section_123 : decode cX12_section 123 = .ok (.lmul, 1) := by decide +kernel
theorem dX12_section_124 : decode cX12_section 124 = .ok (.lload 7, 2) := by decide +kernel
theorem dX12_section_126 : decode cX12_section 126 = .ok (.lcmp, 1) := by decide +kernel
theorem dX12_section_127 : decode cX12_section 127 = .ok (.ifCond .le 9, 3) := by decide +kernel
theorem dX12_section_130 : decode cX12_section 130 = .ok (.aload_n 0, 1) := by decide +kernel
theorem dX12_section_131 : decode cX12_section 131 = .ok (.iconst 3, 1) := by decide +kernel
theorem dX12_section_132 : decode cX12_section 132 = .ok (.invokevirtual 143, 3) := by decide +kernel
theorem dX12_section_135 : decode cX12_section 135 = .ok (.ireturn, 1) := by decide +kernel
theorem dX12_section_136 : decode cX12_section 136 = .ok (.lload 7, 2) := by decide +kernel
theorem dX12_section_138 : decode cX12_section 138 = .ok (.aload 5, 2) := by decide +kernel
theorem dX12_section_140 : decode cX12_section 140 = .ok (.getfield 209, 3) := by decide +kernel
theorem dX12_section_143 : decode cX12_section 143 = .ok (.i2l, 1) := by decide +kernel
theorem dX12_section_144 : decode cX12_section 144 = .ok (.iload_n 3, 1) := by decide +kernel
theorem dX12_section_145 : decode cX12_section 145 = .ok (.i2l, 1) := by decide +kernel
theorem dX12_section_146 : decode cX12_section 146 = .ok (.lmul, 1) := by decide +kernel
theorem dX12_section_147 : decode cX12_section 147 = .ok (.iload 4, 2) := by decide +kernel
theorem dX12_section_149 : decode cX12_section 149 = .ok (.i2l, 1) := by decide +kernel
theorem dX12_section_150 : decode cX12_section 150 = .ok (.ldiv, 1) := by decide +kernel
theorem dX12_section_151 : decode cX12_section 151 = .ok (.lsub, 1) := by decide +kernel
theorem dX12_section_152 : decode cX12_section 152 = .ok (.lstore 9, 2) := by decide +kernel
theorem dX12_section_154 : decode cX12_section 154 = .ok (.aload_n 0, 1) := by decide +kernel
theorem dX12_section_155 : decode cX12_section 155 = .ok (.aload 5, 2) := by decide +kernel
theorem dX12_section_157 : decode cX12_section 157 = .ok (.getfield 115, 3) := by decide +kernel
theorem dX12_section_160 : decode cX12_section 160 = .ok (.i2l, 1) := by decide +kernel
theorem dX12_section_161 : decode cX12_section 161 = .ok (.lload 9, 2) := by decide +kernel
theorem dX12_section_163 : decode cX12_section 163 = .ok (.lmul, 1) := by decide +kernel
theorem dX12_section_164 : decode cX12_section 164 = .ok (.lload 7, 2) := by decide +kernel
theorem dX12_section_166 : decode cX12_section 166 = .ok (.ldiv, 1) := by decide +kernel
theorem dX12_section_167 : decode cX12_section 167 = .ok (.l2i, 1) := by decide +kernel
theorem dX12_section_168 : decode cX12_section 168 = .ok (.invokevirtual 153, 3) := by decide +kernel
theorem dX12_section_171 : decode cX12_section 171 = .ok (.ireturn, 1) := by decide +kernel
set_option maxRecDepth 20000 in
theorem ggX12_isBounds_X12_in : GoodIn wsX12_isBounds wsX12_in := goodIn_r _ [6] (by decide +kernel) (by decide +kernel)
set_option maxRecDepth 20000 in
theorem gX12_isBounds_X12_in : GoodIn wsX12_isBounds (va_wsS RX12 101 yX12_in wsX12_in) := goodIn_app (goodIn_of _ (by decide +kernel)) ggX12_isBounds_X12_in
theorem dX12_isBounds_0 : decode cX12_isBounds 0 = .ok (.iload_n 1, 1) := by decide +kernel
theorem dX12_isBounds_1 : decode cX12_isBounds 1 = .ok (.i2l, 1) := by decide +kernel
theorem dX12_isBounds_2 : decode cX12_isBounds 2 = .ok (.lconst 1, 1) := by decide +kernel
theorem dX12_isBounds_3 : decode cX12_isBounds 3 = .ok (.ldc2_w 249, 3) := by decide +kernel
theorem dX12_isBounds_6 : decode cX12_isBounds 6 = .ok (.invokestatic 101, 3) := by decide +kernel
theorem dX12_isBounds_9 : decode cX12_isBounds 9 = .ok (.ifCond .eq 41, 3) := by decide +kernel
theorem dX12_isBounds_12 : decode cX12_isBounds 12 = .ok (.iload_n 2, 1) := by decide +kernel
theorem dX12_isBounds_13 : decode cX12_isBounds 13 = .ok (.i2l, 1) := by decide +kernel
theorem dX12_isBounds_14 : decode cX12_isBounds 14 = .ok (.lconst 1, 1) := by decide +kernel
theorem dX12_isBounds_15 : decode cX12_isBounds 15 = .ok (.ldc2_w 249, 3) := by decide +kernel
theorem dX12_isBounds_18 : decode cX12_isBounds 18 = .ok (.invokestatic 101, 3) := by decide +kernel
theorem dX12_isBounds_21 : decode cX12_isBounds 21 = .ok (.ifCond .eq 29, 3) := by decide +kernel
theorem dX12_isBounds_24 : decode cX12_isBounds 24 = .ok (.iload_n 3, 1) := by decide +kernel
theorem dX12_isBounds_25 : decode cX12_isBounds 25 = .ok (.i2l, 1) := by decide +kernel
theorem dX12_isBounds_26 : decode cX12_isBounds 26 = .ok (.ldc2_w 129, 3) := by decide +kernel
theorem dX12_isBounds_29 : decode cX12_isBounds 29 = .ok (.iload 4, 2) := by decide +kernel
theorem dX12_isBounds_31 : decode cX12_isBounds 31 = .ok (.i2l, 1) := by decide +kernel
theorem dX12_isBounds_32 : decode cX12_isBounds 32 = .ok (.invokestatic 101, 3) := by decide +kernel
theorem dX12_isBounds_35 : decode cX12_isBounds 35 = .ok (.ifCond .eq 15, 3) := by decide +kernel
theorem dX12_isBounds_38 : decode cX12_isBounds 38 = .ok (.iload 4, 2) := by decide +kernel
theorem dX12_isBounds_40 : decode cX12_isBounds 40 = .ok (.sipush 200, 3) := by decide +kernel
theorem dX12_isBounds_43 : decode cX12_isBounds 43 = .ok (.if_icmp .gt 7, 3) := by decide +kernel
theorem dX12_isBounds_46 : decode cX12_isBounds 46 = .ok (.iconst 1, 1) := by decide +kernel
theorem dX12_isBounds_47 : decode cX12_isBounds 47 = .ok (.goto 4, 3) := by decide +kernel
theorem dX12_isBounds_50 : decode cX12_isBounds 50 = .ok (.iconst 0, 1) := by decide +kernel
theorem dX12_isBounds_51 : decode cX12_isBounds 51 = .ok (.ireturn, 1) := by decide +kernel
set_option maxRecDepth 20000 in
theorem ggX12_isBetter_X12_divisor : GoodIn wsX12_isBetter wsX12_divisor := goodIn_ca (goodIn_r _ [7, 4, 5, 6] (by decide +kernel) (by decide +kernel)) (goodIn_sub (fun _ h => List.mem_cons_of_mem _ (List.mem_append_right _ h)) (by decide +kernel))
set_option maxRecDepth 20000 in
theorem gX12_isBetter_X12_divisor : GoodIn wsX12_isBetter (va_wsS RX12 5 yX12_divisor wsX12_divisor) := goodIn_app (goodIn_of _ (by decide +kernel)) ggX12_isBetter_X12_divisor
theorem dX12_isBetter_0 : decode cX12_isBetter 0 = .ok (.lload_n 3, 1) := by decide +kernel
theorem dX12_isBetter_1 : decode cX12_isBetter 1 = .ok (.aload_n 0, 1) := by decide +kernel
theorem dX12_isBetter_2 : decode cX12_isBetter 2 = .ok (.getfield 251, 3) := by decide +kernel
theorem dX12_isBetter_5 : decode cX12_isBetter 5 = .ok (.i2l, 1) := by decide +kernel
theorem dX12_isBetter_6 : decode cX12_isBetter 6 = .ok (.lmul, 1) := by decide +kernel
theorem dX12_isBetter_7 : decode cX12_isBetter 7 = .ok (.lstore 5, 2) := by decide +kernel
theorem dX12_isBetter_9 : decode cX12_isBetter 9 = .ok (.aload_n 0, 1) := by decide +kernel
theorem dX12_isBetter_10 : decode cX12_isBetter 10 = .ok (.getfield 254, 3) := by decide +kernel
theorem dX12_isBetter_13 : decode cX12_isBetter 13 = .ok (.iload_n 2, 1) := by decide +kernel
theorem dX12_isBetter_14 : decode cX12_isBetter 14 = .ok (.i2l, 1) := by decide +kernel
theorem dX12_isBetter_15 : decode cX12_isBetter 15 = .ok (.lmul, 1) := by decide +kernel
theorem dX12_isBetter_16 : decode cX12_isBetter 16 = .ok (.lstore 7, 2) := by decide +kernel
theorem dX12_isBetter_18 : decode cX12_isBetter 18 = .ok (.lload 5, 2) := by decide +kernel
theorem dX12_isBetter_20 : decode cX12_isBetter 20 = .ok (.lload 7, 2) := by decide +kernel
theorem dX12_isBetter_22 : decode cX12_isBetter 22 = .ok (.lcmp, 1) := by decide +kernel
theorem dX12_isBetter_23 : decode cX12_isBetter 23 = .ok (.ifCond .eq 17, 3) := by decide +kernel
theorem dX12_isBetter_26 : decode cX12_isBetter 26 = .ok (.lload 5, 2) := by decide +kernel
theorem dX12_isBetter_28 : decode cX12_isBetter 28 = .ok (.lload 7, 2) := by decide +kernel
theorem dX12_isBetter_30 : decode cX12_isBetter 30 = .ok (.lcmp, 1) := by decide +kernel
theorem dX12_isBetter_31 : decode cX12_isBetter 31 = .ok (.ifCond .ge 7, 3) := by decide +kernel
theorem dX12_isBetter_34 : decode cX12_isBetter 34 = .ok (.iconst 1, 1) := by decide +kernel
theorem dX12_isBetter_35 : decode cX12_isBetter 35 = .ok (.goto 4, 3) := by decide +kernel
theorem dX12_isBetter_38 : decode cX12_isBetter 38 = .ok (.iconst 0, 1) := by decide +kernel
theorem dX12_isBetter_39 : decode cX12_isBetter 39 = .ok (.ireturn, 1) := by decide +kernel
theorem dX12_isBetter_40 : decode cX12_isBetter 40 = .ok (.iload_n 1, 1) := by decide +kernel
theorem dX12_isBetter_41 : decode cX12_isBetter 41 = .ok (.iload_n 2, 1) := by decide +kernel
theorem dX12_isBetter_42 : decode cX12_isBetter 42 = .ok (.invokestatic 5, 3) := by decide +kernel
theorem dX12_isBetter_45 : decode cX12_isBetter 45 = .ok (.iconst 1, 1) := by decide +kernel
theorem dX12_isBetter_46 : decode cX12_isBetter 46 = .ok (.if_icmp .ne 7, 3) := by decide +kernel
theorem dX12_isBetter_49 : decode cX12_isBetter 49 = .ok (.iconst 1, 1) := by decide +kernel
theorem dX12_isBetter_50 : decode cX12_isBetter 50 = .ok (.goto 4, 3) := by decide +kernel
theorem dX12_isBetter_53 : decode cX12_isBetter 53 = .ok (.iconst 0, 1) := by decide +kernel
theorem dX12_isBetter_54 : decode cX12_isBetter 54 = .ok (.istore 9, 2) := by decide +kernel
theorem dX12_isBetter_56 : decode cX12_isBetter 56 = .ok (.aload_n 0, 1) := by decide +kernel
theorem dX12_isBetter_57 : decode cX12_isBetter 57 = .ok (.getfield 258, 3) := by decide +kernel
theorem dX12_isBetter_60 : decode cX12_isBetter 60 = .ok (.aload_n 0, 1) := by decide +kernel
theorem dX12_isBetter_61 : decode cX12_isBetter 61 = .ok (.getfield 251, 3) := by decide +kernel
theorem dX12_isBetter_64 : decode cX12_isBetter 64 = .ok (.invokestatic 5, 3) := by decide +kernel
theorem dX12_isBetter_67 : decode cX12_isBetter 67 = .ok (.iconst 1, 1) := by decide +kernel
theorem dX12_isBetter_68 : decode cX12_isBetter 68 = .ok (.if_icmp .ne 7, 3) := by decide +kernel
theorem dX12_isBetter_71 : decode cX12_isBetter 71 = .ok (.iconst 1, 1) := by decide +kernel
theorem dX12_isBetter_72 : decode cX12_isBetter 72 = .ok (.goto 4, 3) := by decide +kernel
theorem dX12_isBetter_75 : decode cX12_isBetter 75 = .ok (.iconst 0, 1) := by decide +kernel
theorem dX12_isBetter_76 : decode cX12_isBetter 76 = .ok (.istore 10, 2) := by decide +kernel
theorem dX12_isBetter_78 : decode cX12_isBetter 78 = .ok (.iload 9, 2) := by decide +kernel
theorem dX12_isBetter_80 : decode cX12_isBetter 80 = .ok (.iload 10, 2) := by decide +kernel
theorem dX12_isBetter_82 : decode cX12_isBetter 82 = .ok (.if_icmp .eq 6, 3) := by decide +kernel
theorem dX12_isBetter_85 : decode cX12_isBetter 85 = .ok (.iload 9, 2) := by decide +kernel
theorem dX12_isBetter_87 : decode cX12_isBetter 87 = .ok (.ireturn, 1) := by decide +kernel
theorem dX12_isBetter_88 : decode cX12_isBetter 88 = .ok (.iload_n 1, 1) := by decide +kernel
theorem dX12_isBetter_89 : decode cX12_isBetter 89 = .ok (.iload_n 2, 1) := by decide +kernel
theorem dX12_isBetter_90 : decode cX12_isBetter 90 = .ok (.iadd, 1) := by decide +kernel
theorem dX12_isBetter_91 : decode cX12_isBetter 91 = .ok (.aload_n 0, 1) := by decide +kernel
theorem dX12_isBetter_92 : decode cX12_isBetter 92 = .ok (.getfield 258, 3) := by decide +kernel
theorem dX12_isBetter_95 : decode cX12_isBetter 95 = .ok (.aload_n 0, 1) := by decide +kernel
theorem dX12_isBetter_96 : decode cX12_isBetter 96 = .ok (.getfield 251, 3) := by decide +kernel
theorem dX12_isBetter_99 : decode cX12_isBetter 99 = .ok (.iadd, 1) := by decide +kernel
theorem dX12_isBetter_100 : decode cX12_isBetter 100 = .ok (.if_icmp .eq 26, 3) := by decide +kernel
theorem dX12_isBetter_103 : decode cX12_isBetter 103 = .ok (.iload_n 1, 1) := by decide +kernel
theorem dX12_isBetter_104 : decode cX12_isBetter 104 = .ok (.iload_n 2, 1) := by decide +kernel
theorem dX12_isBetter_105 : decode cX12_isBetter 105 = .ok (.iadd, 1) := by decide +kernel
theorem dX12_isBetter_106 : decode cX12_isBetter 106 = .ok (.aload_n 0, 1) := by decide +kernel
theorem dX12_isBetter_107 : decode cX12_isBetter 107 = .ok (.getfield 258, 3) := by decide +kernel
theorem dX12_isBetter_110 : decode cX12_isBetter 110 = .ok (.aload_n 0, 1) := by decide +kernel
theorem dX12_isBetter_111 : decode cX12_isBetter 111 = .ok (.getfield 251, 3) := by decide +kernel
theorem dX12_isBetter_114 : decode cX12_isBetter 114 = .ok (.iadd, 1) := by decide +kernel
theorem dX12_isBetter_115 : decode cX12_isBetter 115 = .ok (.if_icmp .ge 7, 3) := by decide +kernel
theorem dX12_isBetter_118 : decode cX12_isBetter 118 = .ok (.iconst 1, 1) := by decide +kernel
theorem dX12_isBetter_119 : decode cX12_isBetter 119 = .ok (.goto 20, 3) := by decide +kernel
theorem dX12_isBetter_122 : decode cX12_isBetter 122 = .ok (.iconst 0, 1) := by decide +kernel
theorem dX12_isBetter_123 : decode cX12_isBetter 123 = .ok (.goto 16, 3) := by decide +kernel
theorem dX12_isBetter_126 : decode cX12_isBetter 126 = .ok (.iload_n 1, 1) := by decide +kernel
theorem dX12_isBetter_127 : decode cX12_isBetter 127 = .ok (.aload_n 0, 1) := by decide +kernel
theorem dX12_isBetter_128 : decode cX12_isBetter 128 = .ok (.getfield 258, 3) := by decide +kernel
theorem dX12_isBetter_131 : decode cX12_isBetter 131 = .ok (.if_icmp .ge 7, 3) := by decide +kernel
theorem dX12_isBetter_134 : decode cX12_isBetter 134 = .ok (.iconst 1, 1) := by decide +kernel
theorem dX12_isBetter_135 : decode cX12_isBetter 135 = .ok (.goto 4, 3) := by decide +kernel
theorem dX12_isBetter_138 : decode cX12_isBetter 138 = .ok (.iconst 0, 1) := by decide +kernel
theorem dX12_isBetter_139 : decode cX12_isBetter 139 = .ok (.ireturn, 1) := by decide +kernel
set_option maxRecDepth 20000 in
theorem ggX12_looks_X12_isBetter : GoodIn wsX12_looks wsX12_isBetter := goodIn_ca (goodIn_r _ [12, 6, 7, 1, 13, 14, 11, 15, 16, 17, 18, 19, 20, 21, 22, 23, 24, 25, 26, 27, 28, 29, 30, 31, 32, 33, 34, 35, 36, 37, 38, 39, 40, 41, 42, 43, 44, 45, 46, 47, 48, 49] (by decide +kernel) (by decide +kernel)) (goodIn_sub (fun _ h => List.mem_cons_of_mem _ (List.mem_append_right _ h)) (by decide +kernel))
set_option maxRecDepth 20000 in
theorem gX12_looks_X12_isBetter : GoodIn wsX12_looks (wsV RX12 261 RX12 yX12_isBetter wsX12_isBetter) := goodIn_app (goodIn_of _ (by decide +kernel)) ggX12_looks_X12_isBetter
theorem dX12_looks_0 : decode cX12_looks 0 = .ok (.aload_n 0, 1) := by decide +kernel
theorem dX12_looks_1 : decode cX12_looks 1 = .ok (.iconst 0, 1) := by decide +kernel
theorem dX12_looks_2 : decode cX12_looks 2 = .ok (.putfield 258, 3) := by decide +kernel
theorem dX12_looks_5 : decode cX12_looks 5 = .ok (.iload_n 3, 1) := by decide +kernel
theorem dX12_looks_6 : decode cX12_looks 6 = .ok (.istore 5, 2) := by decide +kernel
theorem dX12_looks_8 : decode cX12_looks 8 = .ok (.iload 5, 2) := by decide +kernel
theorem dX12_looks_10 : decode cX12_looks 10 = .ok (.iload 4, 2) := by decide +kernel
theorem dX12_looks_12 : decode cX12_looks 12 = .ok (.if_icmp .gt 84, 3) := by decide +kernel
theorem dX12_looks_15 : decode cX12_looks 15 = .ok (.iload_n 3, 1) := by decide +kernel
theorem dX12_looks_16 : decode cX12_looks 16 = .ok (.istore 6, 2) := by decide +kernel
theorem dX12_looks_18 : decode cX12_looks 18 = .ok (.iload 6, 2) := by decide +kernel
theorem dX12_looks_20 : decode cX12_looks 20 = .ok (.iload 4, 2) := by decide +kernel
theorem dX12_looks_22 : decode cX12_looks 22 = .ok (.if_icmp .gt 68, 3) := by decide +kernel
theorem dX12_looks_25 : decode cX12_looks 25 = .ok (.iload 5, 2) := by decide +kernel
theorem dX12_looks_27 : decode cX12_looks 27 = .ok (.i2l, 1) := by decide +kernel
theorem dX12_looks_28 : decode cX12_looks 28 = .ok (.iload_n 2, 1) := by decide +kernel
theorem dX12_looks_29 : decode cX12_looks 29 = .ok (.i2l, 1) := by decide +kernel
theorem dX12_looks_30 : decode cX12_looks 30 = .ok (.lmul, 1) := by decide +kernel
theorem dX12_looks_31 : decode cX12_looks 31 = .ok (.iload_n 1, 1) := by decide +kernel
theorem dX12_looks_32 : decode cX12_looks 32 = .ok (.i2l, 1) := by decide +kernel
theorem dX12_looks_33 : decode cX12_looks 33 = .ok (.iload 6, 2) := by decide +kernel
theorem dX12_looks_35 : decode cX12_looks 35 = .ok (.i2l, 1) := by decide +kernel
theorem dX12_looks_36 : decode cX12_looks 36 = .ok (.lmul, 1) := by decide +kernel
theorem dX12_looks_37 : decode cX12_looks 37 = .ok (.lsub, 1) := by decide +kernel
theorem dX12_looks_38 : decode cX12_looks 38 = .ok (.invokestatic 239, 3) := by decide +kernel
theorem dX12_looks_41 : decode cX12_looks 41 = .ok (.lstore 7, 2) := by decide +kernel
theorem dX12_looks_43 : decode cX12_looks 43 = .ok (.aload_n 0, 1) := by decide +kernel
theorem dX12_looks_44 : decode cX12_looks 44 = .ok (.getfield 258, 3) := by decide +kernel
theorem dX12_looks_47 : decode cX12_looks 47 = .ok (.ifCond .le 19, 3) := by decide +kernel
theorem dX12_looks_50 : decode cX12_looks 50 = .ok (.aload_n 0, 1) := by decide +kernel
theorem dX12_looks_51 : decode cX12_looks 51 = .ok (.iload 5, 2) := by decide +kernel
theorem dX12_looks_53 : decode cX12_looks 53 = .ok (.iload 6, 2) := by decide +kernel
theorem dX12_looks_55 : decode cX12_looks 55 = .ok (.lload 7, 2) := by decide +kernel
theorem dX12_looks_57 : decode cX12_looks 57 = .ok (.invokevirtual 261, 3) := by decide +kernel
theorem dX12_looks_60 : decode cX12_looks 60 = .ok (.ifCond .ne 6, 3) := by decide +kernel
theorem dX12_looks_63 : decode cX12_looks 63 = .ok (.goto 21, 3) := by decide +kernel
theorem dX12_looks_66 : decode cX12_looks 66 = .ok (.aload_n 0, 1) := by decide +kernel
theorem dX12_looks_67 : decode cX12_looks 67 = .ok (.iload 5, 2) := by decide +kernel
theorem dX12_looks_69 : decode cX12_looks 69 = .ok (.putfield 258, 3) := by decide +kernel
theorem dX12_looks_72 : decode cX12_looks 72 = .ok (.aload_n 0, 1) := by decide +kernel
theorem dX12_looks_73 : decode cX12_looks 73 = .ok (.iload 6, 2) := by decide +kernel
theorem dX12_looks_75 : decode cX12_looks 75 = .ok (.putfield 251, 3) := by decide +kernel
theorem dX12_looks_78 : decode cX12_looks 78 = .ok (.aload_n 0, 1) := by decide +kernel
theorem dX12_looks_79 : decode cX12_looks 79 = .ok (.lload 7, 2) := by decide +kernel
theorem dX12_looks_81 : decode cX12_looks 81 = .ok (.putfield 254, 3) := by decide +kernel
theorem dX12_looks_84 : decode cX12_looks 84 = .ok (.iinc 6 1, 3) := by decide +kernel
theorem dX12_looks_87 : decode cX12_looks 87 = .ok (.goto (-69), 3) := by decide +kernel
theorem dX12_looks_90 : decode cX12_looks 90 = .ok (.iinc 5 1, 3) := by decide +kernel
theorem dX12_looks_93 : decode cX12_looks 93 = .ok (.goto (-85), 3) := by decide +kernel
theorem dX12_looks_96 : decode cX12_looks 96 = .ok (.return_, 1) := by decide +kernel
set_option maxRecDepth 20000 in
theorem ggX12_bestPair_X12_isBounds : GoodIn wsX12_bestPair wsX12_isBounds := goodIn_r _ [6, 7, 8, 9, 10, 5, 11] (by decide +kernel) (by decide +kernel)
set_option maxRecDepth 20000 in
theorem gX12_bestPair_X12_isBounds : GoodIn wsX12_bestPair (wsV RX12 265 RX12 yX12_isBounds wsX12_isBounds) := goodIn_app (goodIn_of _ (by decide +kernel)) ggX12_bestPair_X12_isBounds
set_option maxRecDepth 20000 in
theorem ggX12_bestPair_X12_fails : GoodIn wsX12_bestPair wsX12_fails := goodIn_r _ [15, 16, 38, 39, 40, 41, 42, 43, 44, 45, 46, 47, 48, 49, 50, 51, 52, 53, 54, 55, 56, 57, 58, 59, 60, 61, 62, 63, 64, 65, 66, 67, 68, 69, 70, 71] (by decide +kernel) (by decide +kernel)
set_option maxRecDepth 20000 in
theorem gX12_bestPair_X12_fails : GoodIn wsX12_bestPair (wsV RX12 143 RX12 yX12_fails wsX12_fails) := goodIn_app (goodIn_of _ (by decide +kernel)) ggX12_bestPair_X12_fails
set_option maxRecDepth 20000 in
theorem ggX12_bestPair_X12_looks : GoodIn wsX12_bestPair wsX12_looks := goodIn_ca (goodIn_r _ [20, 1, 21, 22, 23, 24, 25, 26, 27, 28, 29, 5, 30, 31, 32, 33, 38, 39, 40, 41, 42, 43, 44, 45, 46, 47, 48, 49, 50, 51, 52, 53, 54, 55, 56, 57, 58, 59, 60, 61, 62, 63, 64, 65, 66, 67, 68, 69, 70, 71] (by decide +kernel) (by decide +kernel)) (goodIn_sub (fun _ h => List.mem_cons_of_mem _ (List.mem_append_right _ h)) (by decide +kernel))
set_option maxRecDepth 20000 in
theorem gX12_bestPair_X12_looks : GoodIn wsX12_bestPair (wsV RX12 268 RX12 yX12_looks wsX12_looks) := goodIn_app (goodIn_of _ (by decide +kernel)) ggX12_bestPair_X12_looks
set_option maxRecDepth 20000 in
theorem ggX12_bestPair_X12_answer : GoodIn wsX12_bestPair wsX12_answer := goodIn_r _ [37, 16, 38, 39, 40, 41, 42, 43, 44, 45, 46, 47, 48, 49, 50, 51, 52, 53, 54, 55, 56, 57, 58, 59, 60, 61, 62, 63, 64, 65, 66, 67, 68, 69, 70, 71] (by decide +kernel) (by decide +kernel)
set_option maxRecDepth 20000 in
theorem gX12_bestPair_X12_answer : GoodIn wsX12_bestPair (wsV RX12 153 RX12 yX12_answer wsX12_answer) := goodIn_app (goodIn_of _ (by decide +kernel)) ggX12_bestPair_X12_answer
theorem dX12_bestPair_0 : decode cX12_bestPair 0 = .ok (.aload_n 0, 1) := by decide +kernel
theorem dX12_bestPair_1 : decode cX12_bestPair 1 = .ok (.iload_n 1, 1) := by decide +kernel
theorem dX12_bestPair_2 : decode cX12_bestPair 2 = .ok (.iload_n 2, 1) := by decide +kernel
theorem dX12_bestPair_3 : decode cX12_bestPair 3 = .ok (.iload_n 3, 1) := by decide +kernel
theorem dX12_bestPair_4 : decode cX12_bestPair 4 = .ok (.iload 4, 2) := by decide +kernel
theorem dX12_bestPair_6 : decode cX12_bestPair 6 = .ok (.invokevirtual 265, 3) := by decide +kernel
theorem dX12_bestPair_9 : decode cX12_bestPair 9 = .ok (.ifCond .ne 9, 3) := by decide +kernel
theorem dX12_bestPair_12 : decode cX12_bestPair 12 = .ok (.aload_n 0, 1) := by decide +kernel
theorem dX12_bestPair_13 : decode cX12_bestPair 13 = .ok (.iconst 1, 1) := by decide +kernel
theorem dX12_bestPair_14 : decode cX12_bestPair 14 = .ok (.invokevirtual 143, 3) := by decide +kernel
theorem dX12_bestPair_17 : decode cX12_bestPair 17 = .ok (.ireturn, 1) := by decide +kernel
theorem dX12_bestPair_18 : decode cX12_bestPair 18 = .ok (.aload_n 0, 1) := by decide +kernel
theorem dX12_bestPair_19 : decode cX12_bestPair 19 = .ok (.iload_n 1, 1) := by decide +kernel
theorem dX12_bestPair_20 : decode cX12_bestPair 20 = .ok (.iload_n 2, 1) := by decide +kernel
theorem dX12_bestPair_21 : decode cX12_bestPair 21 = .ok (.iload_n 3, 1) := by decide +kernel
theorem dX12_bestPair_22 : decode cX12_bestPair 22 = .ok (.iload 4, 2) := by decide +kernel
theorem dX12_bestPair_24 : decode cX12_bestPair 24 = .ok (.invokevirtual 268, 3) := by decide +kernel
theorem dX12_bestPair_27 : decode cX12_bestPair 27 = .ok (.aload_n 0, 1) := by decide +kernel
theorem dX12_bestPair_28 : decode cX12_bestPair 28 = .ok (.aload_n 0, 1) := by decide +kernel
theorem dX12_bestPair_29 : decode cX12_bestPair 29 = .ok (.getfield 258, 3) := by decide +kernel
theorem dX12_bestPair_32 : decode cX12_bestPair 32 = .ok (.invokevirtual 153, 3) := by decide +kernel
theorem dX12_bestPair_35 : decode cX12_bestPair 35 = .ok (.ireturn, 1) := by decide +kernel
set_option maxRecDepth 20000 in
theorem ggX12_bestMate_X12_isBounds : GoodIn wsX12_bestMate wsX12_isBounds := goodIn_r _ [6, 7, 8, 9, 10, 5, 11] (by decide +kernel) (by decide +kernel)
set_option maxRecDepth 20000 in
theorem gX12_bestMate_X12_isBounds : GoodIn wsX12_bestMate (wsV RX12 265 RX12 yX12_isBounds wsX12_isBounds) := goodIn_app (goodIn_of _ (by decide +kernel)) ggX12_bestMate_X12_isBounds
set_option maxRecDepth 20000 in
theorem ggX12_bestMate_X12_fails : GoodIn wsX12_bestMate wsX12_fails := goodIn_r _ [15, 16, 38, 39, 40, 41, 42, 43, 44, 45, 46, 47, 48, 49, 50, 51, 52, 53, 54, 55, 56, 57, 58, 59, 60, 61, 62, 63, 64, 65, 66, 67, 68, 69, 70, 71] (by decide +kernel) (by decide +kernel)
set_option maxRecDepth 20000 in
theorem gX12_bestMate_X12_fails : GoodIn wsX12_bestMate (wsV RX12 143 RX12 yX12_fails wsX12_fails) := goodIn_app (goodIn_of _ (by decide +kernel)) ggX12_bestMate_X12_fails
set_option maxRecDepth 20000 in
theorem ggX12_bestMate_X12_looks : GoodIn wsX12_bestMate wsX12_looks := goodIn_ca (goodIn_r _ [20, 21, 22, 23, 24, 25, 1, 26, 27, 28, 29, 5, 30, 31, 32, 33, 38, 39, 40, 41, 42, 43, 44, 45, 46, 47, 48, 49, 50, 51, 52, 53, 54, 55, 56, 57, 58, 59, 60, 61, 62, 63, 64, 65, 66, 67, 68, 69, 70, 71] (by decide +kernel) (by decide +kernel)) (goodIn_sub (fun _ h => List.mem_cons_of_mem _ (List.mem_append_right _ h)) (by decide +kernel))
set_option maxRecDepth 20000 in
theorem gX12_bestMate_X12_looks : GoodIn wsX12_bestMate (wsV RX12 268 RX12 yX12_looks wsX12_looks) := goodIn_app (goodIn_of _ (by decide +kernel)) ggX12_bestMate_X12_looks
set_option maxRecDepth 20000 in
theorem ggX12_bestMate_X12_answer : GoodIn wsX12_bestMate wsX12_answer := goodIn_r _ [37, 16, 38, 39, 40, 41, 42, 43, 44, 45, 46, 47, 48, 49, 50, 51, 52, 53, 54, 55, 56, 57, 58, 59, 60, 61, 62, 63, 64, 65, 66, 67, 68, 69, 70, 71] (by decide +kernel) (by decide +kernel)
set_option maxRecDepth 20000 in
theorem gX12_bestMate_X12_answer : GoodIn wsX12_bestMate (wsV RX12 153 RX12 yX12_answer wsX12_answer) := goodIn_app (goodIn_of _ (by decide +kernel)) ggX12_bestMate_X12_answer
theorem dX12_bestMate_0 : decode cX12_bestMate 0 = .ok (.aload_n 0, 1) := by decide +kernel
theorem dX12_bestMate_1 : decode cX12_bestMate 1 = .ok (.iload_n 1, 1) := by decide +kernel
theorem dX12_bestMate_2 : decode cX12_bestMate 2 = .ok (.iload_n 2, 1) := by decide +kernel
theorem dX12_bestMate_3 : decode cX12_bestMate 3 = .ok (.iload_n 3, 1) := by decide +kernel
theorem dX12_bestMate_4 : decode cX12_bestMate 4 = .ok (.iload 4, 2) := by decide +kernel
theorem dX12_bestMate_6 : decode cX12_bestMate 6 = .ok (.invokevirtual 265, 3) := by decide +kernel
theorem dX12_bestMate_9 : decode cX12_bestMate 9 = .ok (.ifCond .ne 9, 3) := by decide +kernel
theorem dX12_bestMate_12 : decode cX12_bestMate 12 = .ok (.aload_n 0, 1) := by decide +kernel
theorem dX12_bestMate_13 : decode cX12_bestMate 13 = .ok (.iconst 1, 1) := by decide +kernel
theorem dX12_bestMate_14 : decode cX12_bestMate 14 = .ok (.invokevirtual 143, 3) := by decide +kernel
theorem dX12_bestMate_17 : decode cX12_bestMate 17 = .ok (.ireturn, 1) := by decide +kernel
theorem dX12_bestMate_18 : decode cX12_bestMate 18 = .ok (.aload_n 0, 1) := by decide +kernel
theorem dX12_bestMate_19 : decode cX12_bestMate 19 = .ok (.iload_n 1, 1) := by decide +kernel
theorem dX12_bestMate_20 : decode cX12_bestMate 20 = .ok (.iload_n 2, 1) := by decide +kernel
theorem dX12_bestMate_21 : decode cX12_bestMate 21 = .ok (.iload_n 3, 1) := by decide +kernel
theorem dX12_bestMate_22 : decode cX12_bestMate 22 = .ok (.iload 4, 2) := by decide +kernel
theorem dX12_bestMate_24 : decode cX12_bestMate 24 = .ok (.invokevirtual 268, 3) := by decide +kernel
theorem dX12_bestMate_27 : decode cX12_bestMate 27 = .ok (.aload_n 0, 1) := by decide +kernel
theorem dX12_bestMate_28 : decode cX12_bestMate 28 = .ok (.aload_n 0, 1) := by decide +kernel
theorem dX12_bestMate_29 : decode cX12_bestMate 29 = .ok (.getfield 251, 3) := by decide +kernel
theorem dX12_bestMate_32 : decode cX12_bestMate 32 = .ok (.invokevirtual 153, 3) := by decide +kernel
theorem dX12_bestMate_35 : decode cX12_bestMate 35 = .ok (.ireturn, 1) := by decide +kernel
theorem dX12_goes_0 : decode cX12_goes 0 = .ok (.iload_n 1, 1) := by decide +kernel
theorem dX12_goes_1 : decode cX12_goes 1 = .ok (.iload_n 0, 1) := by decide +kernel
theorem dX12_goes_2 : decode cX12_goes 2 = .ok (.isub, 1) := by decide +kernel
theorem dX12_goes_3 : decode cX12_goes 3 = .ok (.iconst 2, 1) := by decide +kernel
theorem dX12_goes_4 : decode cX12_goes 4 = .ok (.idiv, 1) := by decide +kernel
theorem dX12_goes_5 : decode cX12_goes 5 = .ok (.istore_n 3, 1) := by decide +kernel
theorem dX12_goes_6 : decode cX12_goes 6 = .ok (.iload_n 1, 1) := by decide +kernel
theorem dX12_goes_7 : decode cX12_goes 7 = .ok (.iload_n 0, 1) := by decide +kernel
theorem dX12_goes_8 : decode cX12_goes 8 = .ok (.isub, 1) := by decide +kernel
theorem dX12_goes_9 : decode cX12_goes 9 = .ok (.iconst 2, 1) := by decide +kernel
theorem dX12_goes_10 : decode cX12_goes 10 = .ok (.irem, 1) := by decide +kernel
theorem dX12_goes_11 : decode cX12_goes 11 = .ok (.ifCond .ne 9, 3) := by decide +kernel
theorem dX12_goes_14 : decode cX12_goes 14 = .ok (.iload_n 3, 1) := by decide +kernel
theorem dX12_goes_15 : decode cX12_goes 15 = .ok (.bipush 6, 2) := by decide +kernel
theorem dX12_goes_17 : decode cX12_goes 17 = .ok (.if_icmp .ge 6, 3) := by decide +kernel
theorem dX12_goes_20 : decode cX12_goes 20 = .ok (.bipush 119, 2) := by decide +kernel
theorem dX12_goes_22 : decode cX12_goes 22 = .ok (.ireturn, 1) := by decide +kernel
theorem dX12_goes_23 : decode cX12_goes 23 = .ok (.iload_n 0, 1) := by decide +kernel
theorem dX12_goes_24 : decode cX12_goes 24 = .ok (.iload_n 1, 1) := by decide +kernel
theorem dX12_goes_25 : decode cX12_goes 25 = .ok (.iadd, 1) := by decide +kernel
theorem dX12_goes_26 : decode cX12_goes 26 = .ok (.iload_n 2, 1) := by decide +kernel
theorem dX12_goes_27 : decode cX12_goes 27 = .ok (.irem, 1) := by decide +kernel
theorem dX12_goes_28 : decode cX12_goes 28 = .ok (.ifCond .eq 6, 3) := by decide +kernel
theorem dX12_goes_31 : decode cX12_goes 31 = .ok (.bipush 97, 2) := by decide +kernel
theorem dX12_goes_33 : decode cX12_goes 33 = .ok (.ireturn, 1) := by decide +kernel
theorem dX12_goes_34 : decode cX12_goes 34 = .ok (.iload_n 2, 1) := by decide +kernel
theorem dX12_goes_35 : decode cX12_goes 35 = .ok (.iconst 3, 1) := by decide +kernel
theorem dX12_goes_36 : decode cX12_goes 36 = .ok (.if_icmp .ne 9, 3) := by decide +kernel
theorem dX12_goes_39 : decode cX12_goes 39 = .ok (.sipush 866, 3) := by decide +kernel
theorem dX12_goes_42 : decode cX12_goes 42 = .ok (.goto 28, 3) := by decide +kernel
theorem dX12_goes_45 : decode cX12_goes 45 = .ok (.iload_n 2, 1) := by decide +kernel
theorem dX12_goes_46 : decode cX12_goes 46 = .ok (.iconst 4, 1) := by decide +kernel
theorem dX12_goes_47 : decode cX12_goes 47 = .ok (.if_icmp .ne 9, 3) := by decide +kernel
theorem dX12_goes_50 : decode cX12_goes 50 = .ok (.sipush 707, 3) := by decide +kernel
theorem dX12_goes_53 : decode cX12_goes 53 = .ok (.goto 17, 3) := by decide +kernel
theorem dX12_goes_56 : decode cX12_goes 56 = .ok (.iload_n 2, 1) := by decide +kernel
theorem dX12_goes_57 : decode cX12_goes 57 = .ok (.iconst 5, 1) := by decide +kernel
theorem dX12_goes_58 : decode cX12_goes 58 = .ok (.if_icmp .ne 9, 3) := by decide +kernel
theorem dX12_goes_61 : decode cX12_goes 61 = .ok (.sipush 588, 3) := by decide +kernel
theorem dX12_goes_64 : decode cX12_goes 64 = .ok (.goto 6, 3) := by decide +kernel
theorem dX12_goes_67 : decode cX12_goes 67 = .ok (.sipush 500, 3) := by decide +kernel
theorem dX12_goes_70 : decode cX12_goes 70 = .ok (.istore 4, 2) := by decide +kernel
theorem dX12_goes_72 : decode cX12_goes 72 = .ok (.iload_n 0, 1) := by decide +kernel
theorem dX12_goes_73 : decode cX12_goes 73 = .ok (.iload_n 3, 1) := by decide +kernel
theorem dX12_goes_74 : decode cX12_goes 74 = .ok (.iadd, 1) := by decide +kernel
theorem dX12_goes_75 : decode cX12_goes 75 = .ok (.iload 4, 2) := by decide +kernel
theorem dX12_goes_77 : decode cX12_goes 77 = .ok (.imul, 1) := by decide +kernel
theorem dX12_goes_78 : decode cX12_goes 78 = .ok (.sipush 1000, 3) := by decide +kernel
theorem dX12_goes_81 : decode cX12_goes 81 = .ok (.iload_n 3, 1) := by decide +kernel
theorem dX12_goes_82 : decode cX12_goes 82 = .ok (.iconst 2, 1) := by decide +kernel
theorem dX12_goes_83 : decode cX12_goes 83 = .ok (.iadd, 1) := by decide +kernel
theorem dX12_goes_84 : decode cX12_goes 84 = .ok (.imul, 1) := by decide +kernel
theorem dX12_goes_85 : decode cX12_goes 85 = .ok (.if_icmp .le 8, 3) := by decide +kernel
theorem dX12_goes_88 : decode cX12_goes 88 = .ok (.bipush 103, 2) := by decide +kernel
theorem dX12_goes_90 : decode cX12_goes 90 = .ok (.goto 5, 3) := by decide +kernel
theorem dX12_goes_93 : decode cX12_goes 93 = .ok (.bipush 114, 2) := by decide +kernel
theorem dX12_goes_95 : decode cX12_goes 95 = .ok (.ireturn, 1) := by decide +kernel
set_option maxRecDepth 20000 in
theorem ggX12_planets_X12_in : GoodIn wsX12_planets wsX12_in := goodIn_r _ [9] (by decide +kernel) (by decide +kernel)
set_option maxRecDepth 20000 in
theorem gX12_planets_X12_in : GoodIn wsX12_planets (va_wsS RX12 101 yX12_in wsX12_in) := goodIn_app (goodIn_of _ (by decide +kernel)) ggX12_planets_X12_in
set_option maxRecDepth 20000 in
theorem ggX12_planets_X12_goes : GoodIn wsX12_planets wsX12_goes := goodIn_ca (goodIn_r _ [12] (by decide +kernel) (by decide +kernel)) (goodIn_sub (fun _ h => List.mem_cons_of_mem _ (List.mem_append_right _ h)) (by decide +kernel))
set_option maxRecDepth 20000 in
theorem gX12_planets_X12_goes : GoodIn wsX12_planets (va_wsS RX12 274 yX12_goes wsX12_goes) := goodIn_app (goodIn_of _ (by decide +kernel)) ggX12_planets_X12_goes
theorem dX12_planets_0 : decode cX12_planets 0 = .ok (.aload_n 0, 1) := by decide +kernel
theorem dX12_planets_1 : decode cX12_planets 1 = .ok (.iload_n 1, 1) := by decide +kernel
theorem dX12_planets_2 : decode cX12_planets 2 = .ok (.i2l, 1) := by decide +kernel
theorem dX12_planets_3 : decode cX12_planets 3 = .ok (.ldc2_w 129, 3) := by decide +kernel
theorem dX12_planets_6 : decode cX12_planets 6 = .ok (.ldc2_w 131, 3) := by decide +kernel
theorem dX12_planets_9 : decode cX12_planets 9 = .ok (.invokestatic 101, 3) := by decide +kernel
theorem dX12_planets_12 : decode cX12_planets 12 = .ok (.ifCond .eq 36, 3) := by decide +kernel
theorem dX12_planets_15 : decode cX12_planets 15 = .ok (.iload_n 2, 1) := by decide +kernel
theorem dX12_planets_16 : decode cX12_planets 16 = .ok (.i2l, 1) := by decide +kernel
theorem dX12_planets_17 : decode cX12_planets 17 = .ok (.iload_n 1, 1) := by decide +kernel
theorem dX12_planets_18 : decode cX12_planets 18 = .ok (.iconst 1, 1) := by decide +kernel
theorem dX12_planets_19 : decode cX12_planets 19 = .ok (.iadd, 1) := by decide +kernel
theorem dX12_planets_20 : decode cX12_planets 20 = .ok (.i2l, 1) := by decide +kernel
theorem dX12_planets_21 : decode cX12_planets 21 = .ok (.ldc2_w 272, 3) := by decide +kernel
theorem dX12_planets_24 : decode cX12_planets 24 = .ok (.invokestatic 101, 3) := by decide +kernel
theorem dX12_planets_27 : decode cX12_planets 27 = .ok (.ifCond .eq 21, 3) := by decide +kernel
theorem dX12_planets_30 : decode cX12_planets 30 = .ok (.iload_n 3, 1) := by decide +kernel
theorem dX12_planets_31 : decode cX12_planets 31 = .ok (.i2l, 1) := by decide +kernel
theorem dX12_planets_32 : decode cX12_planets 32 = .ok (.ldc2_w 247, 3) := by decide +kernel
theorem dX12_planets_35 : decode cX12_planets 35 = .ok (.ldc2_w 129, 3) := by decide +kernel
theorem dX12_planets_38 : decode cX12_planets 38 = .ok (.invokestatic 101, 3) := by decide +kernel
theorem dX12_planets_41 : decode cX12_planets 41 = .ok (.ifCond .eq 7, 3) := by decide +kernel
theorem dX12_planets_44 : decode cX12_planets 44 = .ok (.iconst 0, 1) := by decide +kernel
theorem dX12_planets_45 : decode cX12_planets 45 = .ok (.goto 4, 3) := by decide +kernel
theorem dX12_planets_48 : decode cX12_planets 48 = .ok (.iconst 1, 1) := by decide +kernel
theorem dX12_planets_49 : decode cX12_planets 49 = .ok (.putfield 94, 3) := by decide +kernel
theorem dX12_planets_52 : decode cX12_planets 52 = .ok (.aload_n 0, 1) := by decide +kernel
theorem dX12_planets_53 : decode cX12_planets 53 = .ok (.getfield 94, 3) := by decide +kernel
theorem dX12_planets_56 : decode cX12_planets 56 = .ok (.ifCond .ne 12, 3) := by decide +kernel
theorem dX12_planets_59 : decode cX12_planets 59 = .ok (.iload_n 1, 1) := by decide +kernel
theorem dX12_planets_60 : decode cX12_planets 60 = .ok (.iload_n 2, 1) := by decide +kernel
theorem dX12_planets_61 : decode cX12_planets 61 = .ok (.iload_n 3, 1) := by decide +kernel
theorem dX12_planets_62 : decode cX12_planets 62 = .ok (.invokestatic 274, 3) := by decide +kernel
theorem dX12_planets_65 : decode cX12_planets 65 = .ok (.goto 4, 3) := by decide +kernel
theorem dX12_planets_68 : decode cX12_planets 68 = .ok (.iconst 0, 1) := by decide +kernel
theorem dX12_planets_69 : decode cX12_planets 69 = .ok (.ireturn, 1) := by decide +kernel
set_option maxRecDepth 20000 in
theorem ggX12_rings_X12_in : GoodIn wsX12_rings wsX12_in := goodIn_r _ [8] (by decide +kernel) (by decide +kernel)
set_option maxRecDepth 20000 in
theorem gX12_rings_X12_in : GoodIn wsX12_rings (va_wsS RX12 101 yX12_in wsX12_in) := goodIn_app (goodIn_of _ (by decide +kernel)) ggX12_rings_X12_in
set_option maxRecDepth 20000 in
theorem ggX12_rings_X12_fails : GoodIn wsX12_rings wsX12_fails := goodIn_r _ [12, 13, 21, 22, 23, 24, 25, 26, 27, 28, 29, 30, 31, 32, 33, 34, 35, 36, 37, 38, 39, 40, 41, 42, 43, 44, 45, 46, 47, 48, 49, 50, 51, 52, 53, 54] (by decide +kernel) (by decide +kernel)
set_option maxRecDepth 20000 in
theorem gX12_rings_X12_fails : GoodIn wsX12_rings (wsV RX12 143 RX12 yX12_fails wsX12_fails) := goodIn_app (goodIn_of _ (by decide +kernel)) ggX12_rings_X12_fails
set_option maxRecDepth 20000 in
theorem ggX12_rings_X12_goes : GoodIn wsX12_rings wsX12_goes := goodIn_ca (goodIn_r _ [16] (by decide +kernel) (by decide +kernel)) (goodIn_sub (fun _ h => List.mem_cons_of_mem _ (List.mem_append_right _ h)) (by decide +kernel))
set_option maxRecDepth 20000 in
theorem gX12_rings_X12_goes : GoodIn wsX12_rings (va_wsS RX12 274 yX12_goes wsX12_goes) := goodIn_app (goodIn_of _ (by decide +kernel)) ggX12_rings_X12_goes
set_option maxRecDepth 20000 in
theorem ggX12_rings_X12_answer : GoodIn wsX12_rings wsX12_answer := goodIn_r _ [20, 13, 21, 22, 23, 24, 25, 26, 27, 28, 29, 30, 31, 32, 33, 34, 35, 36, 37, 38, 39, 40, 41, 42, 43, 44, 45, 46, 47, 48, 49, 50, 51, 52, 53, 54] (by decide +kernel) (by decide +kernel)
set_option maxRecDepth 20000 in
theorem gX12_rings_X12_answer : GoodIn wsX12_rings (wsV RX12 153 RX12 yX12_answer wsX12_answer) := goodIn_app (goodIn_of _ (by decide +kernel)) ggX12_rings_X12_answer
theorem dX12_rings_0 : decode cX12_rings 0 = .ok (.iload_n 1, 1) := by decide +kernel
theorem dX12_rings_1 : decode cX12_rings 1 = .ok (.i2l, 1) := by decide +kernel
theorem dX12_rings_2 : decode cX12_rings 2 = .ok (.ldc2_w 129, 3) := by decide +kernel
theorem dX12_rings_5 : decode cX12_rings 5 = .ok (.ldc2_w 131, 3) := by decide +kernel
theorem dX12_rings_8 : decode cX12_rings 8 = .ok (.invokestatic 101, 3) := by decide +kernel
theorem dX12_rings_11 : decode cX12_rings 11 = .ok (.ifCond .eq 45, 3) := by decide +kernel
theorem dX12_rings_14 : decode cX12_rings 14 = .ok (.iload_n 2, 1) := by decide +kernel
theorem dX12_rings_15 : decode cX12_rings 15 = .ok (.i2l, 1) := by decide +kernel
theorem dX12_rings_16 : decode cX12_rings 16 = .ok (.ldc2_w 247, 3) := by decide +kernel
theorem dX12_rings_19 : decode cX12_rings 19 = .ok (.ldc2_w 129, 3) := by decide +kernel
theorem dX12_rings_22 : decode cX12_rings 22 = .ok (.invokestatic 101, 3) := by decide +kernel
theorem dX12_rings_25 : decode cX12_rings 25 = .ok (.ifCond .eq 31, 3) := by decide +kernel
theorem dX12_rings_28 : decode cX12_rings 28 = .ok (.iload_n 3, 1) := by decide +kernel
theorem dX12_rings_29 : decode cX12_rings 29 = .ok (.i2l, 1) := by decide +kernel
theorem dX12_rings_30 : decode cX12_rings 30 = .ok (.ldc2_w 131, 3) := by decide +kernel
theorem dX12_rings_33 : decode cX12_rings 33 = .ok (.ldc2_w 249, 3) := by decide +kernel
theorem dX12_rings_36 : decode cX12_rings 36 = .ok (.invokestatic 101, 3) := by decide +kernel
theorem dX12_rings_39 : decode cX12_rings 39 = .ok (.ifCond .eq 17, 3) := by decide +kernel
theorem dX12_rings_42 : decode cX12_rings 42 = .ok (.iload 4, 2) := by decide +kernel
theorem dX12_rings_44 : decode cX12_rings 44 = .ok (.i2l, 1) := by decide +kernel
theorem dX12_rings_45 : decode cX12_rings 45 = .ok (.iload_n 3, 1) := by decide +kernel
theorem dX12_rings_46 : decode cX12_rings 46 = .ok (.i2l, 1) := by decide +kernel
theorem dX12_rings_47 : decode cX12_rings 47 = .ok (.ldc2_w 249, 3) := by decide +kernel
theorem dX12_rings_50 : decode cX12_rings 50 = .ok (.invokestatic 101, 3) := by decide +kernel
theorem dX12_rings_53 : decode cX12_rings 53 = .ok (.ifCond .ne 9, 3) := by decide +kernel
theorem dX12_rings_56 : decode cX12_rings 56 = .ok (.aload_n 0, 1) := by decide +kernel
theorem dX12_rings_57 : decode cX12_rings 57 = .ok (.iconst 1, 1) := by decide +kernel
theorem dX12_rings_58 : decode cX12_rings 58 = .ok (.invokevirtual 143, 3) := by decide +kernel
theorem dX12_rings_61 : decode cX12_rings 61 = .ok (.ireturn, 1) := by decide +kernel
theorem dX12_rings_62 : decode cX12_rings 62 = .ok (.iconst 0, 1) := by decide +kernel
theorem dX12_rings_63 : decode cX12_rings 63 = .ok (.istore 5, 2) := by decide +kernel
theorem dX12_rings_65 : decode cX12_rings 65 = .ok (.iload_n 1, 1) := by decide +kernel
theorem dX12_rings_66 : decode cX12_rings 66 = .ok (.iconst 1, 1) := by decide +kernel
theorem dX12_rings_67 : decode cX12_rings 67 = .ok (.iadd, 1) := by decide +kernel
theorem dX12_rings_68 : decode cX12_rings 68 = .ok (.istore 6, 2) := by decide +kernel
theorem dX12_rings_70 : decode cX12_rings 70 = .ok (.iload 6, 2) := by decide +kernel
theorem dX12_rings_72 : decode cX12_rings 72 = .ok (.sipush 600, 3) := by decide +kernel
theorem dX12_rings_75 : decode cX12_rings 75 = .ok (.if_icmp .gt 57, 3) := by decide +kernel
theorem dX12_rings_78 : decode cX12_rings 78 = .ok (.bipush 100, 2) := by decide +kernel
theorem dX12_rings_80 : decode cX12_rings 80 = .ok (.iload_n 1, 1) := by decide +kernel
theorem dX12_rings_81 : decode cX12_rings 81 = .ok (.iload 6, 2) := by decide +kernel
theorem dX12_rings_83 : decode cX12_rings 83 = .ok (.iadd, 1) := by decide +kernel
theorem dX12_rings_84 : decode cX12_rings 84 = .ok (.imul, 1) := by decide +kernel
theorem dX12_rings_85 : decode cX12_rings 85 = .ok (.istore 7, 2) := by decide +kernel
theorem dX12_rings_87 : decode cX12_rings 87 = .ok (.iload 5, 2) := by decide +kernel
theorem dX12_rings_89 : decode cX12_rings 89 = .ok (.iload_n 1, 1) := by decide +kernel
theorem dX12_rings_90 : decode cX12_rings 90 = .ok (.iload 6, 2) := by decide +kernel
theorem dX12_rings_92 : decode cX12_rings 92 = .ok (.iload_n 2, 1) := by decide +kernel
theorem dX12_rings_93 : decode cX12_rings 93 = .ok (.invokestatic 274, 3) := by decide +kernel
theorem dX12_rings_96 : decode cX12_rings 96 = .ok (.bipush 103, 2) := by decide +kernel
theorem dX12_rings_98 : decode cX12_rings 98 = .ok (.if_icmp .ne 24, 3) := by decide +kernel
theorem dX12_rings_101 : decode cX12_rings 101 = .ok (.iload 7, 2) := by decide +kernel
theorem dX12_rings_103 : decode cX12_rings 103 = .ok (.iload_n 3, 1) := by decide +kernel
theorem dX12_rings_104 : decode cX12_rings 104 = .ok (.iload_n 1, 1) := by decide +kernel
theorem dX12_rings_105 : decode cX12_rings 105 = .ok (.imul, 1) := by decide +kernel
theorem dX12_rings_106 : decode cX12_rings 106 = .ok (.if_icmp .lt 16, 3) := by decide +kernel
theorem dX12_rings_109 : decode cX12_rings 109 = .ok (.iload 7, 2) := by decide +kernel
theorem dX12_rings_111 : decode cX12_rings 111 = .ok (.iload 4, 2) := by decide +kernel
theorem dX12_rings_113 : decode cX12_rings 113 = .ok (.iload_n 1, 1) := by decide +kernel
theorem dX12_rings_114 : decode cX12_rings 114 = .ok (.imul, 1) := by decide +kernel
theorem dX12_rings_115 : decode cX12_rings 115 = .ok (.if_icmp .gt 7, 3) := by decide +kernel
theorem dX12_rings_118 : decode cX12_rings 118 = .ok (.iconst 1, 1) := by decide +kernel
theorem dX12_rings_119 : decode cX12_rings 119 = .ok (.goto 4, 3) := by decide +kernel
theorem dX12_rings_122 : decode cX12_rings 122 = .ok (.iconst 0, 1) := by decide +kernel
theorem dX12_rings_123 : decode cX12_rings 123 = .ok (.iadd, 1) := by decide +kernel
theorem dX12_rings_124 : decode cX12_rings 124 = .ok (.istore 5, 2) := by decide +kernel
theorem dX12_rings_126 : decode cX12_rings 126 = .ok (.iinc 6 1, 3) := by decide +kernel
theorem dX12_rings_129 : decode cX12_rings 129 = .ok (.goto (-59), 3) := by decide +kernel
theorem dX12_rings_132 : decode cX12_rings 132 = .ok (.aload_n 0, 1) := by decide +kernel
theorem dX12_rings_133 : decode cX12_rings 133 = .ok (.iload 5, 2) := by decide +kernel
theorem dX12_rings_135 : decode cX12_rings 135 = .ok (.invokevirtual 153, 3) := by decide +kernel
theorem dX12_rings_138 : decode cX12_rings 138 = .ok (.ireturn, 1) := by decide +kernel
set_option maxRecDepth 20000 in
theorem ggX12_wheel_X12_in : GoodIn wsX12_wheel wsX12_in := goodIn_r _ [8] (by decide +kernel) (by decide +kernel)
set_option maxRecDepth 20000 in
theorem gX12_wheel_X12_in : GoodIn wsX12_wheel (va_wsS RX12 101 yX12_in wsX12_in) := goodIn_app (goodIn_of _ (by decide +kernel)) ggX12_wheel_X12_in
set_option maxRecDepth 20000 in
theorem ggX12_wheel_X12_fails : GoodIn wsX12_wheel wsX12_fails := goodIn_r _ [12, 13, 18, 19, 20, 21, 22, 23, 24, 25, 26, 27, 28, 29, 30, 31, 32, 33, 34, 35, 36, 37, 38, 39, 40, 41, 42, 43, 44, 45, 46, 47, 48, 49, 50, 51] (by decide +kernel) (by decide +kernel)
set_option maxRecDepth 20000 in
theorem gX12_wheel_X12_fails : GoodIn wsX12_wheel (wsV RX12 143 RX12 yX12_fails wsX12_fails) := goodIn_app (goodIn_of _ (by decide +kernel)) ggX12_wheel_X12_fails
set_option maxRecDepth 20000 in
theorem ggX12_wheel_X12_answer : GoodIn wsX12_wheel wsX12_answer := goodIn_r _ [17, 13, 18, 19, 20, 21, 22, 23, 24, 25, 26, 27, 28, 29, 30, 31, 32, 33, 34, 35, 36, 37, 38, 39, 40, 41, 42, 43, 44, 45, 46, 47, 48, 49, 50, 51] (by decide +kernel) (by decide +kernel)
set_option maxRecDepth 20000 in
theorem gX12_wheel_X12_answer : GoodIn wsX12_wheel (wsV RX12 153 RX12 yX12_answer wsX12_answer) := goodIn_app (goodIn_of _ (by decide +kernel)) ggX12_wheel_X12_answer
theorem dX12_wheel_0 : decode cX12_wheel 0 = .ok (.iload_n 1, 1) := by decide +kernel
theorem dX12_wheel_1 : decode cX12_wheel 1 = .ok (.i2l, 1) := by decide +kernel
theorem dX12_wheel_2 : decode cX12_wheel 2 = .ok (.ldc2_w 278, 3) := by decide +kernel
theorem dX12_wheel_5 : decode cX12_wheel 5 = .ok (.ldc2_w 280, 3) := by decide +kernel
theorem dX12_wheel_8 : decode cX12_wheel 8 = .ok (.invokestatic 101, 3) := by decide +kernel
theorem dX12_wheel_11 : decode cX12_wheel 11 = .ok (.ifCond .ne 9, 3) := by decide +kernel
theorem dX12_wheel_14 : decode cX12_wheel 14 = .ok (.aload_n 0, 1) := by decide +kernel
theorem dX12_wheel_15 : decode cX12_wheel 15 = .ok (.iconst 1, 1) := by decide +kernel
theorem dX12_wheel_16 : decode cX12_wheel 16 = .ok (.invokevirtual 143, 3) := by decide +kernel
theorem dX12_wheel_19 : decode cX12_wheel 19 = .ok (.ireturn, 1) := by decide +kernel
theorem dX12_wheel_20 : decode cX12_wheel 20 = .ok (.aload_n 0, 1) := by decide +kernel
theorem dX12_wheel_21 : decode cX12_wheel 21 = .ok (.getfield 282, 3) := by decide +kernel
theorem dX12_wheel_24 : decode cX12_wheel 24 = .ok (.bipush 16, 2) := by decide +kernel
theorem dX12_wheel_26 : decode cX12_wheel 26 = .ok (.if_icmp .ne 9, 3) := by decide +kernel
theorem dX12_wheel_29 : decode cX12_wheel 29 = .ok (.aload_n 0, 1) := by decide +kernel
theorem dX12_wheel_30 : decode cX12_wheel 30 = .ok (.iconst 2, 1) := by decide +kernel
theorem dX12_wheel_31 : decode cX12_wheel 31 = .ok (.invokevirtual 143, 3) := by decide +kernel
theorem dX12_wheel_34 : decode cX12_wheel 34 = .ok (.ireturn, 1) := by decide +kernel
theorem dX12_wheel_35 : decode cX12_wheel 35 = .ok (.aload_n 0, 1) := by decide +kernel
theorem dX12_wheel_36 : decode cX12_wheel 36 = .ok (.getfield 31, 3) := by decide +kernel
theorem dX12_wheel_39 : decode cX12_wheel 39 = .ok (.aload_n 0, 1) := by decide +kernel
theorem dX12_wheel_40 : decode cX12_wheel 40 = .ok (.getfield 282, 3) := by decide +kernel
theorem dX12_wheel_43 : decode cX12_wheel 43 = .ok (.iload_n 1, 1) := by decide +kernel
theorem dX12_wheel_44 : decode cX12_wheel 44 = .ok (.iastore, 1) := by decide +kernel
theorem dX12_wheel_45 : decode cX12_wheel 45 = .ok (.aload_n 0, 1) := by decide +kernel
theorem dX12_wheel_46 : decode cX12_wheel 46 = .ok (.dup, 1) := by decide +kernel
theorem dX12_wheel_47 : decode cX12_wheel 47 = .ok (.getfield 282, 3) := by decide +kernel
theorem dX12_wheel_50 : decode cX12_wheel 50 = .ok (.iconst 1, 1) := by decide +kernel
theorem dX12_wheel_51 : decode cX12_wheel 51 = .ok (.iadd, 1) := by decide +kernel
theorem dX12_wheel_52 : decode cX12_wheel 52 = .ok (.putfield 282, 3) := by decide +kernel
theorem dX12_wheel_55 : decode cX12_wheel 55 = .ok (.aload_n 0, 1) := by decide +kernel
theorem dX12_wheel_56 : decode cX12_wheel 56 = .ok (.aload_n 0, 1) := by decide +kernel
theorem dX12_wheel_57 : decode cX12_wheel 57 = .ok (.getfield 282, 3) := by decide +kernel
theorem dX12_wheel_60 : decode cX12_wheel 60 = .ok (.invokevirtual 153, 3) := by decide +kernel
theorem dX12_wheel_63 : decode cX12_wheel 63 = .ok (.ireturn, 1) := by decide +kernel
theorem dX12_offOf_0 : decode cX12_offOf 0 = .ok (.aload_n 0, 1) := by decide +kernel
theorem dX12_offOf_1 : decode cX12_offOf 1 = .ok (.iconst 0, 1) := by decide +kernel
theorem dX12_offOf_2 : decode cX12_offOf 2 = .ok (.iaload, 1) := by decide +kernel
theorem dX12_offOf_3 : decode cX12_offOf 3 = .ok (.i2l, 1) := by decide +kernel
theorem dX12_offOf_4 : decode cX12_offOf 4 = .ok (.aload_n 0, 1) := by decide +kernel
theorem dX12_offOf_5 : decode cX12_offOf 5 = .ok (.iconst 2, 1) := by decide +kernel
theorem dX12_offOf_6 : decode cX12_offOf 6 = .ok (.iaload, 1) := by decide +kernel
theorem dX12_offOf_7 : decode cX12_offOf 7 = .ok (.i2l, 1) := by decide +kernel
theorem dX12_offOf_8 : decode cX12_offOf 8 = .ok (.lmul, 1) := by decide +kernel
theorem dX12_offOf_9 : decode cX12_offOf 9 = .ok (.lload_n 3, 1) := by decide +kernel
theorem dX12_offOf_10 : decode cX12_offOf 10 = .ok (.lmul, 1) := by decide +kernel
theorem dX12_offOf_11 : decode cX12_offOf 11 = .ok (.lload_n 1, 1) := by decide +kernel
theorem dX12_offOf_12 : decode cX12_offOf 12 = .ok (.aload_n 0, 1) := by decide +kernel
theorem dX12_offOf_13 : decode cX12_offOf 13 = .ok (.iconst 1, 1) := by decide +kernel
theorem dX12_offOf_14 : decode cX12_offOf 14 = .ok (.iaload, 1) := by decide +kernel
theorem dX12_offOf_15 : decode cX12_offOf 15 = .ok (.i2l, 1) := by decide +kernel
theorem dX12_offOf_16 : decode cX12_offOf 16 = .ok (.lmul, 1) := by decide +kernel
theorem dX12_offOf_17 : decode cX12_offOf 17 = .ok (.aload_n 0, 1) := by decide +kernel
theorem dX12_offOf_18 : decode cX12_offOf 18 = .ok (.iconst 3, 1) := by decide +kernel
theorem dX12_offOf_19 : decode cX12_offOf 19 = .ok (.iaload, 1) := by decide +kernel
theorem dX12_offOf_20 : decode cX12_offOf 20 = .ok (.i2l, 1) := by decide +kernel
theorem dX12_offOf_21 : decode cX12_offOf 21 = .ok (.lmul, 1) := by decide +kernel
theorem dX12_offOf_22 : decode cX12_offOf 22 = .ok (.lsub, 1) := by decide +kernel
theorem dX12_offOf_23 : decode cX12_offOf 23 = .ok (.invokestatic 239, 3) := by decide +kernel
theorem dX12_offOf_26 : decode cX12_offOf 26 = .ok (.lreturn, 1) := by decide +kernel
set_option maxRecDepth 20000 in
theorem ggX12_isBetterFour_X12_offOf : GoodIn wsX12_isBetterFour wsX12_offOf := goodIn_ca (goodIn_r _ [6, 7, 8, 9, 10] (by decide +kernel) (by decide +kernel)) (goodIn_sub (fun _ h => List.mem_cons_of_mem _ (List.mem_append_right _ h)) (by decide +kernel))
set_option maxRecDepth 20000 in
theorem gX12_isBetterFour_X12_offOf : GoodIn wsX12_isBetterFour (va_wsS RX12 285 yX12_offOf wsX12_offOf) := goodIn_app (goodIn_of _ (by decide +kernel)) ggX12_isBetterFour_X12_offOf
theorem dX12_isBetterFour_0 : decode cX12_isBetterFour 0 = .ok (.aload_n 0, 1) := by decide +kernel
theorem dX12_isBetterFour_1 : decode cX12_isBetterFour 1 = .ok (.getfield 38, 3) := by decide +kernel
theorem dX12_isBetterFour_4 : decode cX12_isBetterFour 4 = .ok (.lload_n 1, 1) := by decide +kernel
theorem dX12_isBetterFour_5 : decode cX12_isBetterFour 5 = .ok (.lload_n 3, 1) := by decide +kernel
theorem dX12_isBetterFour_6 : decode cX12_isBetterFour 6 = .ok (.invokestatic 285, 3) := by decide +kernel
theorem dX12_isBetterFour_9 : decode cX12_isBetterFour 9 = .ok (.aload_n 0, 1) := by decide +kernel
theorem dX12_isBetterFour_10 : decode cX12_isBetterFour 10 = .ok (.getfield 35, 3) := by decide +kernel
theorem dX12_isBetterFour_13 : decode cX12_isBetterFour 13 = .ok (.iconst 1, 1) := by decide +kernel
theorem dX12_isBetterFour_14 : decode cX12_isBetterFour 14 = .ok (.iaload, 1) := by decide +kernel
theorem dX12_isBetterFour_15 : decode cX12_isBetterFour 15 = .ok (.i2l, 1) := by decide +kernel
theorem dX12_isBetterFour_16 : decode cX12_isBetterFour 16 = .ok (.lmul, 1) := by decide +kernel
theorem dX12_isBetterFour_17 : decode cX12_isBetterFour 17 = .ok (.aload_n 0, 1) := by decide +kernel
theorem dX12_isBetterFour_18 : decode cX12_isBetterFour 18 = .ok (.getfield 35, 3) := by decide +kernel
theorem dX12_isBetterFour_21 : decode cX12_isBetterFour 21 = .ok (.iconst 3, 1) := by decide +kernel
theorem dX12_isBetterFour_22 : decode cX12_isBetterFour 22 = .ok (.iaload, 1) := by decide +kernel
theorem dX12_isBetterFour_23 : decode cX12_isBetterFour 23 = .ok (.i2l, 1) := by decide +kernel
theorem dX12_isBetterFour_24 : decode cX12_isBetterFour 24 = .ok (.lmul, 1) := by decide +kernel
theorem dX12_isBetterFour_25 : decode cX12_isBetterFour 25 = .ok (.lstore 5, 2) := by decide +kernel
theorem dX12_isBetterFour_27 : decode cX12_isBetterFour 27 = .ok (.aload_n 0, 1) := by decide +kernel
theorem dX12_isBetterFour_28 : decode cX12_isBetterFour 28 = .ok (.getfield 35, 3) := by decide +kernel
theorem dX12_isBetterFour_31 : decode cX12_isBetterFour 31 = .ok (.lload_n 1, 1) := by decide +kernel
theorem dX12_isBetterFour_32 : decode cX12_isBetterFour 32 = .ok (.lload_n 3, 1) := by decide +kernel
theorem dX12_isBetterFour_33 : decode cX12_isBetterFour 33 = .ok (.invokestatic 285, 3) := by decide +kernel
theorem dX12_isBetterFour_36 : decode cX12_isBetterFour 36 = .ok (.aload_n 0, 1) := by decide +kernel
theorem dX12_isBetterFour_37 : decode cX12_isBetterFour 37 = .ok (.getfield 38, 3) := by decide +kernel
theorem dX12_isBetterFour_40 : decode cX12_isBetterFour 40 = .ok (.iconst 1, 1) := by decide +kernel
theorem dX12_isBetterFour_41 : decode cX12_isBetterFour 41 = .ok (.iaload, 1) := by decide +kernel
theorem dX12_isBetterFour_42 : decode cX12_isBetterFour 42 = .ok (.i2l, 1) := by decide +kernel
theorem dX12_isBetterFour_43 : decode cX12_isBetterFour 43 = .ok (.lmul, 1) := by decide +kernel
theorem dX12_isBetterFour_44 : decode cX12_isBetterFour 44 = .ok (.aload_n 0, 1) := by decide +kernel
theorem dX12_isBetterFour_45 : decode cX12_isBetterFour 45 = .ok (.getfield 38, 3) := by decide +kernel
theorem dX12_isBetterFour_48 : decode cX12_isBetterFour 48 = .ok (.iconst 3, 1) := by decide +kernel
theorem dX12_isBetterFour_49 : decode cX12_isBetterFour 49 = .ok (.iaload, 1) := by decide +kernel
theorem dX12_isBetterFour_50 : decode cX12_isBetterFour 50 = .ok (.i2l, 1) := by decide +kernel
theorem dX12_isBetterFour_51 : decode cX12_isBetterFour 51 = .ok (.lmul, 1) := by decide +kernel
theorem dX12_isBetterFour_52 : decode cX12_isBetterFour 52 = .ok (.lstore 7, 2) := by decide +kernel
theorem dX12_isBetterFour_54 : decode cX12_isBetterFour 54 = .ok (.lload 5, 2) := by decide +kernel
theorem dX12_isBetterFour_56 : decode cX12_isBetterFour 56 = .ok (.lload 7, 2) := by decide +kernel
theorem dX12_isBetterFour_58 : decode cX12_isBetterFour 58 = .ok (.lcmp, 1) := by decide +kernel
theorem dX12_isBetterFour_59 : decode cX12_isBetterFour 59 = .ok (.ifCond .eq 17, 3) := by decide +kernel
theorem dX12_isBetterFour_62 : decode cX12_isBetterFour 62 = .ok (.lload 5, 2) := by decide +kernel
theorem dX12_isBetterFour_64 : decode cX12_isBetterFour 64 = .ok (.lload 7, 2) := by decide +kernel
theorem dX12_isBetterFour_66 : decode cX12_isBetterFour 66 = .ok (.lcmp, 1) := by decide +kernel
theorem dX12_isBetterFour_67 : decode cX12_isBetterFour 67 = .ok (.ifCond .ge 7, 3) := by decide +kernel
theorem dX12_isBetterFour_70 : decode cX12_isBetterFour 70 = .ok (.iconst 1, 1) := by decide +kernel
theorem dX12_isBetterFour_71 : decode cX12_isBetterFour 71 = .ok (.goto 4, 3) := by decide +kernel
theorem dX12_isBetterFour_74 : decode cX12_isBetterFour 74 = .ok (.iconst 0, 1) := by decide +kernel
theorem dX12_isBetterFour_75 : decode cX12_isBetterFour 75 = .ok (.ireturn, 1) := by decide +kernel
theorem dX12_isBetterFour_76 : decode cX12_isBetterFour 76 = .ok (.iconst 0, 1) := by decide +kernel
theorem dX12_isBetterFour_77 : decode cX12_isBetterFour 77 = .ok (.istore 9, 2) := by decide +kernel
theorem dX12_isBetterFour_79 : decode cX12_isBetterFour 79 = .ok (.iload 9, 2) := by decide +kernel
theorem dX12_isBetterFour_81 : decode cX12_isBetterFour 81 = .ok (.iconst 4, 1) := by decide +kernel
theorem dX12_isBetterFour_82 : decode cX12_isBetterFour 82 = .ok (.if_icmp .ge 49, 3) := by decide +kernel
theorem dX12_isBetterFour_85 : decode cX12_isBetterFour 85 = .ok (.aload_n 0, 1) := by decide +kernel
theorem dX12_isBetterFour_86 : decode cX12_isBetterFour 86 = .ok (.getfield 38, 3) := by decide +kernel
theorem dX12_isBetterFour_89 : decode cX12_isBetterFour 89 = .ok (.iload 9, 2) := by decide +kernel
theorem dX12_isBetterFour_91 : decode cX12_isBetterFour 91 = .ok (.iaload, 1) := by decide +kernel
theorem dX12_isBetterFour_92 : decode cX12_isBetterFour 92 = .ok (.aload_n 0, 1) := by decide +kernel
theorem dX12_isBetterFour_93 : decode cX12_isBetterFour 93 = .ok (.getfield 35, 3) := by decide +kernel
theorem dX12_isBetterFour_96 : decode cX12_isBetterFour 96 = .ok (.iload 9, 2) := by decide +kernel
theorem dX12_isBetterFour_98 : decode cX12_isBetterFour 98 = .ok (.iaload, 1) := by decide +kernel
theorem dX12_isBetterFour_99 : decode cX12_isBetterFour 99 = .ok (.if_icmp .eq 26, 3) := by decide +kernel
theorem dX12_isBetterFour_102 : decode cX12_isBetterFour 102 = .ok (.aload_n 0, 1) := by decide +kernel
theorem dX12_isBetterFour_103 : decode cX12_isBetterFour 103 = .ok (.getfield 38, 3) := by decide +kernel
theorem dX12_isBetterFour_106 : decode cX12_isBetterFour 106 = .ok (.iload 9, 2) := by decide +kernel
theorem dX12_isBetterFour_108 : decode cX12_isBetterFour 108 = .ok (.iaload, 1) := by decide +kernel
theorem dX12_isBetterFour_109 : decode cX12_isBetterFour 109 = .ok (.aload_n 0, 1) := by decide +kernel
theorem dX12_isBetterFour_110 : decode cX12_isBetterFour 110 = .ok (.getfield 35, 3) := by decide +kernel
theorem dX12_isBetterFour_113 : decode cX12_isBetterFour 113 = .ok (.iload 9, 2) := by decide +kernel
theorem dX12_isBetterFour_115 : decode cX12_isBetterFour 115 = .ok (.iaload, 1) := by decide +kernel
theorem dX12_isBetterFour_116 : decode cX12_isBetterFour 116 = .ok (.if_icmp .ge 7, 3) := by decide +kernel
theorem dX12_isBetterFour_119 : decode cX12_isBetterFour 119 = .ok (.iconst 1, 1) := by decide +kernel
theorem dX12_isBetterFour_120 : decode cX12_isBetterFour 120 = .ok (.goto 4, 3) := by decide +kernel
theorem dX12_isBetterFour_123 : decode cX12_isBetterFour 123 = .ok (.iconst 0, 1) := by decide +kernel
theorem dX12_isBetterFour_124 : decode cX12_isBetterFour 124 = .ok (.ireturn, 1) := by decide +kernel
theorem dX12_isBetterFour_125 : decode cX12_isBetterFour 125 = .ok (.iinc 9 1, 3) := by decide +kernel
theorem dX12_isBetterFour_128 : decode cX12_isBetterFour 128 = .ok (.goto (-49), 3) := by decide +kernel
theorem dX12_isBetterFour_131 : decode cX12_isBetterFour 131 = .ok (.iconst 0, 1) := by decide +kernel
theorem dX12_isBetterFour_132 : decode cX12_isBetterFour 132 = .ok (.ireturn, 1) := by decide +kernel
set_option maxRecDepth 20000 in
theorem ggX12_tries_X12_isBetterFour : GoodIn wsX12_tries wsX12_isBetterFour := goodIn_ca (goodIn_r _ [9, 2, 1, 10, 11, 8, 12, 13, 14, 15, 16, 20, 21, 22, 23, 24, 25, 26, 27, 28, 29, 30, 31, 32, 33, 34, 35, 36, 37, 38, 39, 40, 41, 42, 43, 44, 45, 46, 47, 48, 49, 50, 51, 52, 53] (by decide +kernel) (by decide +kernel)) (goodIn_sub (fun _ h => List.mem_cons_of_mem _ (List.mem_append_right _ h)) (by decide +kernel))
set_option maxRecDepth 20000 in
theorem gX12_tries_X12_isBetterFour : GoodIn wsX12_tries (wsV RX12 289 RX12 yX12_isBetterFour wsX12_isBetterFour) := goodIn_app (goodIn_of _ (by decide +kernel)) ggX12_tries_X12_isBetterFour
set_option maxRecDepth 20000 in
theorem ggX12_tries_X12_tries : GoodIn wsX12_tries wsX12_tries := goodIn_ca (goodIn_r _ [0, 1, 2, 3, 4, 5, 6, 7, 8, 9, 10, 11, 12, 13, 14, 15, 16, 17, 18, 19, 20, 21, 22, 23, 24, 25, 26, 27, 28, 29, 30, 31, 32, 33, 34, 35, 36, 37, 38, 39, 40, 41, 42, 43, 44, 45, 46, 47, 48, 49, 50, 51, 52, 53] (by decide +kernel) (by decide +kernel)) (goodIn_sub (fun _ h => List.mem_cons_of_mem _ (List.mem_append_right _ h)) (by decide +kernel))
set_option maxRecDepth 20000 in
theorem gX12_tries_X12_tries : GoodIn wsX12_tries (wsV RX12 293 RX12 yX12_tries wsX12_tries) := goodIn_app (goodIn_of _ (by decide +kernel)) ggX12_tries_X12_tries
theorem dX12_tries_0 : decode cX12_tries 0 = .ok (.iload_n 1, 1) := by decide +kernel
theorem dX12_tries_1 : decode cX12_tries 1 = .ok (.iconst 4, 1) := by decide +kernel
theorem dX12_tries_2 : decode cX12_tries 2 = .ok (.if_icmp .ne 53, 3) := by decide +kernel
theorem dX12_tries_5 : decode cX12_tries 5 = .ok (.aload_n 0, 1) := by decide +kernel
theorem dX12_tries_6 : decode cX12_tries 6 = .ok (.getfield 35, 3) := by decide +kernel
theorem dX12_tries_9 : decode cX12_tries 9 = .ok (.iconst 0, 1) := by decide +kernel
theorem dX12_tries_10 : decode cX12_tries 10 = .ok (.iaload, 1) := by decide +kernel
theorem dX12_tries_11 : decode cX12_tries 11 = .ok (.ifCond .le 14, 3) := by decide +kernel
theorem dX12_tries_14 : decode cX12_tries 14 = .ok (.aload_n 0, 1) := by decide +kernel
theorem dX12_tries_15 : decode cX12_tries 15 = .ok (.lload_n 3, 1) := by decide +kernel
theorem dX12_tries_16 : decode cX12_tries 16 = .ok (.lload 5, 2) := by decide +kernel
theorem dX12_tries_18 : decode cX12_tries 18 = .ok (.invokevirtual 289, 3) := by decide +kernel
theorem dX12_tries_21 : decode cX12_tries 21 = .ok (.ifCond .ne 4, 3) := by decide +kernel
theorem dX12_tries_24 : decode cX12_tries 24 = .ok (.return_, 1) := by decide +kernel
theorem dX12_tries_25 : decode cX12_tries 25 = .ok (.iconst 0, 1) := by decide +kernel
theorem dX12_tries_26 : decode cX12_tries 26 = .ok (.istore 7, 2) := by decide +kernel
theorem dX12_tries_28 : decode cX12_tries 28 = .ok (.iload 7, 2) := by decide +kernel
theorem dX12_tries_30 : decode cX12_tries 30 = .ok (.iconst 4, 1) := by decide +kernel
theorem dX12_tries_31 : decode cX12_tries 31 = .ok (.if_icmp .ge 23, 3) := by decide +kernel
theorem dX12_tries_34 : decode cX12_tries 34 = .ok (.aload_n 0, 1) := by decide +kernel
theorem dX12_tries_35 : decode cX12_tries 35 = .ok (.getfield 35, 3) := by decide +kernel
theorem dX12_tries_38 : decode cX12_tries 38 = .ok (.iload 7, 2) := by decide +kernel
theorem dX12_tries_40 : decode cX12_tries 40 = .ok (.aload_n 0, 1) := by decide +kernel
theorem dX12_tries_41 : decode cX12_tries 41 = .ok (.getfield 38, 3) := by decide +kernel
theorem dX12_tries_44 : decode cX12_tries 44 = .ok (.iload 7, 2) := by decide +kernel
theorem dX12_tries_46 : decode cX12_tries 46 = .ok (.iaload, 1) := by decide +kernel
theorem dX12_tries_47 : decode cX12_tries 47 = .ok (.iastore, 1) := by decide +kernel
theorem dX12_tries_48 : decode cX12_tries 48 = .ok (.iinc 7 1, 3) := by decide +kernel
theorem dX12_tries_51 : decode cX12_tries 51 = .ok (.goto (-23), 3) := by decide +kernel
theorem dX12_tries_54 : decode cX12_tries 54 = .ok (.return_, 1) := by decide +kernel
theorem dX12_tries_55 : decode cX12_tries 55 = .ok (.iconst 0, 1) := by decide +kernel
theorem dX12_tries_56 : decode cX12_tries 56 = .ok (.istore 7, 2) := by decide +kernel
theorem dX12_tries_58 : decode cX12_tries 58 = .ok (.iload 7, 2) := by decide +kernel
theorem dX12_tries_60 : decode cX12_tries 60 = .ok (.aload_n 0, 1) := by decide +kernel
theorem dX12_tries_61 : decode cX12_tries 61 = .ok (.getfield 282, 3) := by decide +kernel
theorem dX12_tries_64 : decode cX12_tries 64 = .ok (.if_icmp .ge 51, 3) := by decide +kernel
theorem dX12_tries_67 : decode cX12_tries 67 = .ok (.iload_n 2, 1) := by decide +kernel
theorem dX12_tries_68 : decode cX12_tries 68 = .ok (.iload 7, 2) := by decide +kernel
theorem dX12_tries_70 : decode cX12_tries 70 = .ok (.ishr, 1) := by decide +kernel
theorem dX12_tries_71 : decode cX12_tries 71 = .ok (.iconst 1, 1) := by decide +kernel
theorem dX12_tries_72 : decode cX12_tries 72 = .ok (.iand, 1) := by decide +kernel
theorem dX12_tries_73 : decode cX12_tries 73 = .ok (.iconst 1, 1) := by decide +kernel
theorem dX12_tries_74 : decode cX12_tries 74 = .ok (.if_icmp .ne 6, 3) := by decide +kernel
theorem dX12_tries_77 : decode cX12_tries 77 = .ok (.goto 32, 3) := by decide +kernel
theorem dX12_tries_80 : decode cX12_tries 80 = .ok (.aload_n 0, 1) := by decide +kernel
theorem dX12_tries_81 : decode cX12_tries 81 = .ok (.getfield 38, 3) := by decide +kernel
theorem dX12_tries_84 : decode cX12_tries 84 = .ok (.iload_n 1, 1) := by decide +kernel
theorem dX12_tries_85 : decode cX12_tries 85 = .ok (.aload_n 0, 1) := by decide +kernel
theorem dX12_tries_86 : decode cX12_tries 86 = .ok (.getfield 31, 3) := by decide +kernel
theorem dX12_tries_89 : decode cX12_tries 89 = .ok (.iload 7, 2) := by decide +kernel
theorem dX12_tries_91 : decode cX12_tries 91 = .ok (.iaload, 1) := by decide +kernel
theorem dX12_tries_92 : decode cX12_tries 92 = .ok (.iastore, 1) := by decide +kernel
theorem dX12_tries_93 : decode cX12_tries 93 = .ok (.aload_n 0, 1) := by decide +kernel
theorem dX12_tries_94 : decode cX12_tries 94 = .ok (.iload_n 1, 1) := by decide +kernel
theorem dX12_tries_95 : decode cX12_tries 95 = .ok (.iconst 1, 1) := by decide +kernel
theorem dX12_tries_96 : decode cX12_tries 96 = .ok (.iadd, 1) := by decide +kernel
theorem dX12_tries_97 : decode cX12_tries 97 = .ok (.iload_n 2, 1) := by decide +kernel
theorem dX12_tries_98 : decode cX12_tries 98 = .ok (.iconst 1, 1) := by decide +kernel
theorem dX12_tries_99 : decode cX12_tries 99 = .ok (.iload 7, 2) := by decide +kernel
theorem dX12_tries_101 : decode cX12_tries 101 = .ok (.ishl, 1) := by decide +kernel
theorem dX12_tries_102 : decode cX12_tries 102 = .ok (.ior, 1) := by decide +kernel
theorem dX12_tries_103 : decode cX12_tries 103 = .ok (.lload_n 3, 1) := by decide +kernel
theorem dX12_tries_104 : decode cX12_tries 104 = .ok (.lload 5, 2) := by decide +kernel
theorem dX12_tries_106 : decode cX12_tries 106 = .ok (.invokevirtual 293, 3) := by decide +kernel
theorem dX12_tries_109 : decode cX12_tries 109 = .ok (.iinc 7 1, 3) := by decide +kernel
theorem dX12_tries_112 : decode cX12_tries 112 = .ok (.goto (-54), 3) := by decide +kernel
theorem dX12_tries_115 : decode cX12_tries 115 = .ok (.return_, 1) := by decide +kernel
set_option maxRecDepth 20000 in
theorem ggX12_finds_X12_tries : GoodIn wsX12_finds wsX12_tries := goodIn_ca (goodIn_r _ [6, 1, 7, 8, 9, 10, 11, 12, 5, 13, 14, 15, 16, 17, 18, 19, 20, 2, 3, 4, 21, 22, 23, 24, 25, 26, 27, 28, 29, 30, 31, 32, 33, 34, 35, 36, 37, 38, 39, 40, 41, 42, 43, 44, 45, 46, 47, 48, 49, 50, 51, 52, 53, 54] (by decide +kernel) (by decide +kernel)) (goodIn_sub (fun _ h => List.mem_cons_of_mem _ (List.mem_append_right _ h)) (by decide +kernel))
set_option maxRecDepth 20000 in
theorem gX12_finds_X12_tries : GoodIn wsX12_finds (wsV RX12 293 RX12 yX12_tries wsX12_tries) := goodIn_app (goodIn_of _ (by decide +kernel)) ggX12_finds_X12_tries
theorem dX12_finds_0 : decode cX12_finds 0 = .ok (.aload_n 0, 1) := by decide +kernel
theorem dX12_finds_1 : decode cX12_finds 1 = .ok (.getfield 35, 3) := by decide +kernel
theorem dX12_finds_4 : decode cX12_finds 4 = .ok (.iconst 0, 1) := by decide +kernel
theorem dX12_finds_5 : decode cX12_finds 5 = .ok (.iconst 0, 1) := by decide +kernel
theorem dX12_finds_6 : decode cX12_finds 6 = .ok (.iastore, 1) := by decide +kernel
theorem dX12_finds_7 : decode cX12_finds 7 = .ok (.aload_n 0, 1) := by decide +kernel
theorem dX12_finds_8 : decode cX12_finds 8 = .ok (.iconst 0, 1) := by decide +kernel
theorem dX12_finds_9 : decode cX12_finds 9 = .ok (.iconst 0, 1) := by decide +kernel
theorem dX12_finds_10 : decode cX12_finds 10 = .ok (.lload_n 1, 1) := by decide +kernel
theorem dX12_finds_11 : decode cX12_finds 11 = .ok (.lload_n 3, 1) := by decide +kernel
theorem dX12_finds_12 : decode cX12_finds 12 = .ok (.invokevirtual 293, 3) := by decide +kernel
theorem dX12_finds_15 : decode cX12_finds 15 = .ok (.return_, 1) := by decide +kernel
set_option maxRecDepth 20000 in
theorem ggX12_isMet_X12_finds : GoodIn wsX12_isMet wsX12_finds := goodIn_ca (goodIn_r _ [7, 2, 8, 9, 10, 6, 11, 12, 13, 14, 15, 16, 17, 18, 19, 20, 21, 22, 23, 24, 25, 26, 27, 28, 29, 30, 31, 32, 33, 34, 35, 36, 37, 38, 39, 40, 41, 42, 43, 44, 45, 46, 47, 48, 49, 50, 51, 52, 53, 54, 55, 56, 57, 58, 59] (by decide +kernel) (by decide +kernel)) (goodIn_sub (fun _ h => List.mem_cons_of_mem _ (List.mem_append_right _ h)) (by decide +kernel))
set_option maxRecDepth 20000 in
theorem gX12_isMet_X12_finds : GoodIn wsX12_isMet (wsV RX12 297 RX12 yX12_finds wsX12_finds) := goodIn_app (goodIn_of _ (by decide +kernel)) ggX12_isMet_X12_finds
set_option maxRecDepth 20000 in
theorem ggX12_isMet_X12_offOf : GoodIn wsX12_isMet wsX12_offOf := goodIn_ca (goodIn_r _ [21, 22, 23, 24, 25] (by decide +kernel) (by decide +kernel)) (goodIn_sub (fun _ h => List.mem_cons_of_mem _ (List.mem_append_right _ h)) (by decide +kernel))
set_option maxRecDepth 20000 in
theorem gX12_isMet_X12_offOf : GoodIn wsX12_isMet (va_wsS RX12 285 yX12_offOf wsX12_offOf) := goodIn_app (goodIn_of _ (by decide +kernel)) ggX12_isMet_X12_offOf
theorem dX12_isMet_0 : decode cX12_isMet 0 = .ok (.aload_n 0, 1) := by decide +kernel
theorem dX12_isMet_1 : decode cX12_isMet 1 = .ok (.lload_n 1, 1) := by decide +kernel
theorem dX12_isMet_2 : decode cX12_isMet 2 = .ok (.lload_n 3, 1) := by decide +kernel
theorem dX12_isMet_3 : decode cX12_isMet 3 = .ok (.invokevirtual 297, 3) := by decide +kernel
theorem dX12_isMet_6 : decode cX12_isMet 6 = .ok (.ldc2_w 301, 3) := by decide +kernel
theorem dX12_isMet_9 : decode cX12_isMet 9 = .ok (.aload_n 0, 1) := by decide +kernel
theorem dX12_isMet_10 : decode cX12_isMet 10 = .ok (.getfield 35, 3) := by decide +kernel
theorem dX12_isMet_13 : decode cX12_isMet 13 = .ok (.lload_n 1, 1) := by decide +kernel
theorem dX12_isMet_14 : decode cX12_isMet 14 = .ok (.lload_n 3, 1) := by decide +kernel
theorem dX12_isMet_15 : decode cX12_isMet 15 = .ok (.invokestatic 285, 3) := by decide +kernel
theorem dX12_isMet_18 : decode cX12_isMet 18 = .ok (.lmul, 1) := by decide +kernel
theorem dX12_isMet_19 : decode cX12_isMet 19 = .ok (.iload 5, 2) := by decide +kernel
theorem dX12_isMet_21 : decode cX12_isMet 21 = .ok (.i2l, 1) := by decide +kernel
theorem dX12_isMet_22 : decode cX12_isMet 22 = .ok (.lload_n 1, 1) := by decide +kernel
theorem dX12_isMet_23 : decode cX12_isMet 23 = .ok (.lmul, 1) := by decide +kernel
theorem dX12_isMet_24 : decode cX12_isMet 24 = .ok (.aload_n 0, 1) := by decide +kernel
theorem dX12_isMet_25 : decode cX12_isMet 25 = .ok (.getfield 35, 3) := by decide +kernel
theorem dX12_isMet_28 : decode cX12_isMet 28 = .ok (.iconst 1, 1) := by decide +kernel
theorem dX12_isMet_29 : decode cX12_isMet 29 = .ok (.iaload, 1) := by decide +kernel
theorem dX12_isMet_30 : decode cX12_isMet 30 = .ok (.i2l, 1) := by decide +kernel
theorem dX12_isMet_31 : decode cX12_isMet 31 = .ok (.lmul, 1) := by decide +kernel
theorem dX12_isMet_32 : decode cX12_isMet 32 = .ok (.aload_n 0, 1) := by decide +kernel
theorem dX12_isMet_33 : decode cX12_isMet 33 = .ok (.getfield 35, 3) := by decide +kernel
theorem dX12_isMet_36 : decode cX12_isMet 36 = .ok (.iconst 3, 1) := by decide +kernel
theorem dX12_isMet_37 : decode cX12_isMet 37 = .ok (.iaload, 1) := by decide +kernel
theorem dX12_isMet_38 : decode cX12_isMet 38 = .ok (.i2l, 1) := by decide +kernel
theorem dX12_isMet_39 : decode cX12_isMet 39 = .ok (.lmul, 1) := by decide +kernel
theorem dX12_isMet_40 : decode cX12_isMet 40 = .ok (.lcmp, 1) := by decide +kernel
theorem dX12_isMet_41 : decode cX12_isMet 41 = .ok (.ifCond .gt 7, 3) := by decide +kernel
theorem dX12_isMet_44 : decode cX12_isMet 44 = .ok (.iconst 1, 1) := by decide +kernel
theorem dX12_isMet_45 : decode cX12_isMet 45 = .ok (.goto 4, 3) := by decide +kernel
theorem dX12_isMet_48 : decode cX12_isMet 48 = .ok (.iconst 0, 1) := by decide +kernel
theorem dX12_isMet_49 : decode cX12_isMet 49 = .ok (.ireturn, 1) := by decide +kernel
set_option maxRecDepth 20000 in
theorem ggX12_isRatio_X12_in : GoodIn wsX12_isRatio wsX12_in := goodIn_r _ [5] (by decide +kernel) (by decide +kernel)
set_option maxRecDepth 20000 in
theorem gX12_isRatio_X12_in : GoodIn wsX12_isRatio (va_wsS RX12 101 yX12_in wsX12_in) := goodIn_app (goodIn_of _ (by decide +kernel)) ggX12_isRatio_X12_in
theorem dX12_isRatio_0 : decode cX12_isRatio 0 = .ok (.iload_n 0, 1) := by decide +kernel
theorem dX12_isRatio_1 : decode cX12_isRatio 1 = .ok (.i2l, 1) := by decide +kernel
theorem dX12_isRatio_2 : decode cX12_isRatio 2 = .ok (.lconst 1, 1) := by decide +kernel
theorem dX12_isRatio_3 : decode cX12_isRatio 3 = .ok (.ldc2_w 249, 3) := by decide +kernel
theorem dX12_isRatio_6 : decode cX12_isRatio 6 = .ok (.invokestatic 101, 3) := by decide +kernel
theorem dX12_isRatio_9 : decode cX12_isRatio 9 = .ok (.ifCond .eq 19, 3) := by decide +kernel
theorem dX12_isRatio_12 : decode cX12_isRatio 12 = .ok (.iload_n 1, 1) := by decide +kernel
theorem dX12_isRatio_13 : decode cX12_isRatio 13 = .ok (.i2l, 1) := by decide +kernel
theorem dX12_isRatio_14 : decode cX12_isRatio 14 = .ok (.lconst 1, 1) := by decide +kernel
theorem dX12_isRatio_15 : decode cX12_isRatio 15 = .ok (.ldc2_w 249, 3) := by decide +kernel
theorem dX12_isRatio_18 : decode cX12_isRatio 18 = .ok (.invokestatic 101, 3) := by decide +kernel
theorem dX12_isRatio_21 : decode cX12_isRatio 21 = .ok (.ifCond .eq 7, 3) := by decide +kernel
theorem dX12_isRatio_24 : decode cX12_isRatio 24 = .ok (.iconst 1, 1) := by decide +kernel
theorem dX12_isRatio_25 : decode cX12_isRatio 25 = .ok (.goto 4, 3) := by decide +kernel
theorem dX12_isRatio_28 : decode cX12_isRatio 28 = .ok (.iconst 0, 1) := by decide +kernel
theorem dX12_isRatio_29 : decode cX12_isRatio 29 = .ok (.ireturn, 1) := by decide +kernel
set_option maxRecDepth 20000 in
theorem ggX12_change_X12_isRatio : GoodIn wsX12_change wsX12_isRatio := goodIn_r _ [7, 8, 9, 10, 6, 11] (by decide +kernel) (by decide +kernel)
set_option maxRecDepth 20000 in
theorem gX12_change_X12_isRatio : GoodIn wsX12_change (va_wsS RX12 303 yX12_isRatio wsX12_isRatio) := goodIn_app (goodIn_of _ (by decide +kernel)) ggX12_change_X12_isRatio
set_option maxRecDepth 20000 in
theorem ggX12_change_X12_in : GoodIn wsX12_change wsX12_in := goodIn_r _ [11] (by decide +kernel) (by decide +kernel)
set_option maxRecDepth 20000 in
theorem gX12_change_X12_in : GoodIn wsX12_change (va_wsS RX12 101 yX12_in wsX12_in) := goodIn_app (goodIn_of _ (by decide +kernel)) ggX12_change_X12_in
set_option maxRecDepth 20000 in
theorem ggX12_change_X12_fails : GoodIn wsX12_change wsX12_fails := goodIn_r _ [15, 16, 42, 43, 44, 45, 46, 47, 48, 49, 50, 51, 52, 53, 54, 55, 56, 57, 58, 59, 60, 61, 62, 63, 64, 65, 66, 67, 68, 69, 70, 71, 72, 73, 74, 75] (by decide +kernel) (by decide +kernel)
set_option maxRecDepth 20000 in
theorem gX12_change_X12_fails : GoodIn wsX12_change (wsV RX12 143 RX12 yX12_fails wsX12_fails) := goodIn_app (goodIn_of _ (by decide +kernel)) ggX12_change_X12_fails
set_option maxRecDepth 20000 in
theorem ggX12_change_X12_finds : GoodIn wsX12_change wsX12_finds := goodIn_ca (goodIn_r _ [20, 3, 21, 22, 23, 6, 24, 25, 2, 26, 27, 28, 29, 30, 31, 32, 33, 34, 35, 36, 37, 42, 43, 44, 45, 46, 47, 48, 49, 50, 51, 52, 53, 54, 55, 56, 57, 58, 59, 60, 61, 62, 63, 64, 65, 66, 67, 68, 69, 70, 71, 72, 73, 74, 75] (by decide +kernel) (by decide +kernel)) (goodIn_sub (fun _ h => List.mem_cons_of_mem _ (List.mem_append_right _ h)) (by decide +kernel))
set_option maxRecDepth 20000 in
theorem gX12_change_X12_finds : GoodIn wsX12_change (wsV RX12 297 RX12 yX12_finds wsX12_finds) := goodIn_app (goodIn_of _ (by decide +kernel)) ggX12_change_X12_finds
set_option maxRecDepth 20000 in
theorem ggX12_change_X12_answer : GoodIn wsX12_change wsX12_answer := goodIn_r _ [41, 16, 42, 43, 44, 45, 46, 47, 48, 49, 50, 51, 52, 53, 54, 55, 56, 57, 58, 59, 60, 61, 62, 63, 64, 65, 66, 67, 68, 69, 70, 71, 72, 73, 74, 75] (by decide +kernel) (by decide +kernel)
set_option maxRecDepth 20000 in
theorem gX12_change_X12_answer : GoodIn wsX12_change (wsV RX12 153 RX12 yX12_answer wsX12_answer) := goodIn_app (goodIn_of _ (by decide +kernel)) ggX12_change_X12_answer
theorem dX12_change_0 : decode cX12_change 0 = .ok (.iload_n 1, 1) := by decide +kernel
theorem dX12_change_1 : decode cX12_change 1 = .ok (.iload_n 2, 1) := by decide +kernel
theorem dX12_change_2 : decode cX12_change 2 = .ok (.invokestatic 303, 3) := by decide +kernel
theorem dX12_change_5 : decode cX12_change 5 = .ok (.ifCond .eq 15, 3) := by decide +kernel
theorem dX12_change_8 : decode cX12_change 8 = .ok (.iload_n 3, 1) := by decide +kernel
theorem dX12_change_9 : decode cX12_change 9 = .ok (.i2l, 1) := by decide +kernel
theorem dX12_change_10 : decode cX12_change 10 = .ok (.lconst 0, 1) := by decide +kernel
theorem dX12_change_11 : decode cX12_change 11 = .ok (.ldc2_w 247, 3) := by decide +kernel
theorem dX12_change_14 : decode cX12_change 14 = .ok (.invokestatic 101, 3) := by decide +kernel
theorem dX12_change_17 : decode cX12_change 17 = .ok (.ifCond .ne 9, 3) := by decide +kernel
theorem dX12_change_20 : decode cX12_change 20 = .ok (.aload_n 0, 1) := by decide +kernel
theorem dX12_change_21 : decode cX12_change 21 = .ok (.iconst 1, 1) := by decide +kernel
theorem dX12_change_22 : decode cX12_change 22 = .ok (.invokevirtual 143, 3) := by decide +kernel
theorem dX12_change_25 : decode cX12_change 25 = .ok (.ireturn, 1) := by decide +kernel
theorem dX12_change_26 : decode cX12_change 26 = .ok (.aload_n 0, 1) := by decide +kernel
theorem dX12_change_27 : decode cX12_change 27 = .ok (.getfield 282, 3) := by decide +kernel
theorem dX12_change_30 : decode cX12_change 30 = .ok (.iconst 4, 1) := by decide +kernel
theorem dX12_change_31 : decode cX12_change 31 = .ok (.if_icmp .ge 9, 3) := by decide +kernel
theorem dX12_change_34 : decode cX12_change 34 = .ok (.aload_n 0, 1) := by decide +kernel
theorem dX12_change_35 : decode cX12_change 35 = .ok (.iconst 2, 1) := by decide +kernel
theorem dX12_change_36 : decode cX12_change 36 = .ok (.invokevirtual 143, 3) := by decide +kernel
theorem dX12_change_39 : decode cX12_change 39 = .ok (.ireturn, 1) := by decide +kernel
theorem dX12_change_40 : decode cX12_change 40 = .ok (.aload_n 0, 1) := by decide +kernel
theorem dX12_change_41 : decode cX12_change 41 = .ok (.iload_n 1, 1) := by decide +kernel
theorem dX12_change_42 : decode cX12_change 42 = .ok (.i2l, 1) := by decide +kernel
theorem dX12_change_43 : decode cX12_change 43 = .ok (.iload_n 2, 1) := by decide +kernel
theorem dX12_change_44 : decode cX12_change 44 = .ok (.i2l, 1) := by decide +kernel
theorem dX12_change_45 : decode cX12_change 45 = .ok (.invokevirtual 297, 3) := by decide +kernel
theorem dX12_change_48 : decode cX12_change 48 = .ok (.aload_n 0, 1) := by decide +kernel
theorem dX12_change_49 : decode cX12_change 49 = .ok (.aload_n 0, 1) := by decide +kernel
theorem dX12_change_50 : decode cX12_change 50 = .ok (.getfield 35, 3) := by decide +kernel
theorem dX12_change_53 : decode cX12_change 53 = .ok (.iload_n 3, 1) := by decide +kernel
theorem dX12_change_54 : decode cX12_change 54 = .ok (.iaload, 1) := by decide +kernel
theorem dX12_change_55 : decode cX12_change 55 = .ok (.invokevirtual 153, 3) := by decide +kernel
theorem dX12_change_58 : decode cX12_change 58 = .ok (.ireturn, 1) := by decide +kernel
set_option maxRecDepth 20000 in
theorem ggX12_meets_X12_isRatio : GoodIn wsX12_meets wsX12_isRatio := goodIn_r _ [6, 7, 8, 9, 5, 10] (by decide +kernel) (by decide +kernel)
set_option maxRecDepth 20000 in
theorem gX12_meets_X12_isRatio : GoodIn wsX12_meets (va_wsS RX12 303 yX12_isRatio wsX12_isRatio) := goodIn_app (goodIn_of _ (by decide +kernel)) ggX12_meets_X12_isRatio
set_option maxRecDepth 20000 in
theorem ggX12_meets_X12_in : GoodIn wsX12_meets wsX12_in := goodIn_r _ [10] (by decide +kernel) (by decide +kernel)
set_option maxRecDepth 20000 in
theorem gX12_meets_X12_in : GoodIn wsX12_meets (va_wsS RX12 101 yX12_in wsX12_in) := goodIn_app (goodIn_of _ (by decide +kernel)) ggX12_meets_X12_in
set_option maxRecDepth 20000 in
theorem ggX12_meets_X12_refuses : GoodIn wsX12_meets wsX12_refuses := goodIn_r _ [14, 15, 47, 48, 49, 50, 51, 52, 53, 54, 55, 56, 57, 58, 59, 60, 61, 62, 63, 64, 65, 66, 67, 68, 69, 70, 71, 72, 73, 74, 75, 76, 77, 78, 79, 80] (by decide +kernel) (by decide +kernel)
set_option maxRecDepth 20000 in
theorem gX12_meets_X12_refuses : GoodIn wsX12_meets (wsV RX12 182 RX12 yX12_refuses wsX12_refuses) := goodIn_app (goodIn_of _ (by decide +kernel)) ggX12_meets_X12_refuses
set_option maxRecDepth 20000 in
theorem ggX12_meets_X12_isMet : GoodIn wsX12_meets wsX12_isMet := goodIn_ca (goodIn_r _ [19, 20, 21, 22, 23, 24, 5, 25, 26, 27, 28, 29, 30, 2, 31, 32, 33, 34, 35, 36, 37, 38, 39, 40, 41, 42, 47, 48, 49, 50, 51, 52, 53, 54, 55, 56, 57, 58, 59, 60, 61, 62, 63, 64, 65, 66, 67, 68, 69, 70, 71, 72, 73, 74, 75, 76, 77, 78, 79, 80] (by decide +kernel) (by decide +kernel)) (goodIn_sub (fun _ h => List.mem_cons_of_mem _ (List.mem_append_right _ h)) (by decide +kernel))
set_option maxRecDepth 20000 in
theorem gX12_meets_X12_isMet : GoodIn wsX12_meets (wsV RX12 308 RX12 yX12_isMet wsX12_isMet) := goodIn_app (goodIn_of _ (by decide +kernel)) ggX12_meets_X12_isMet
set_option maxRecDepth 20000 in
theorem ggX12_meets_X12_says : GoodIn wsX12_meets wsX12_says := goodIn_r _ [46, 15, 47, 48, 49, 50, 51, 52, 53, 54, 55, 56, 57, 58, 59, 60, 61, 62, 63, 64, 65, 66, 67, 68, 69, 70, 71, 72, 73, 74, 75, 76, 77, 78, 79, 80] (by decide +kernel) (by decide +kernel)
set_option maxRecDepth 20000 in
theorem gX12_meets_X12_says : GoodIn wsX12_meets (wsV RX12 178 RX12 yX12_says wsX12_says) := goodIn_app (goodIn_of _ (by decide +kernel)) ggX12_meets_X12_says
theorem dX12_meets_0 : decode cX12_meets 0 = .ok (.iload_n 1, 1) := by decide +kernel
theorem dX12_meets_1 : decode cX12_meets 1 = .ok (.iload_n 2, 1) := by decide +kernel
theorem dX12_meets_2 : decode cX12_meets 2 = .ok (.invokestatic 303, 3) := by decide +kernel
theorem dX12_meets_5 : decode cX12_meets 5 = .ok (.ifCond .eq 15, 3) := by decide +kernel
theorem dX12_meets_8 : decode cX12_meets 8 = .ok (.iload_n 3, 1) := by decide +kernel
theorem dX12_meets_9 : decode cX12_meets 9 = .ok (.i2l, 1) := by decide +kernel
theorem dX12_meets_10 : decode cX12_meets 10 = .ok (.lconst 0, 1) := by decide +kernel
theorem dX12_meets_11 : decode cX12_meets 11 = .ok (.ldc2_w 306, 3) := by decide +kernel
theorem dX12_meets_14 : decode cX12_meets 14 = .ok (.invokestatic 101, 3) := by decide +kernel
theorem dX12_meets_17 : decode cX12_meets 17 = .ok (.ifCond .ne 9, 3) := by decide +kernel
theorem dX12_meets_20 : decode cX12_meets 20 = .ok (.aload_n 0, 1) := by decide +kernel
theorem dX12_meets_21 : decode cX12_meets 21 = .ok (.iconst 1, 1) := by decide +kernel
theorem dX12_meets_22 : decode cX12_meets 22 = .ok (.invokevirtual 182, 3) := by decide +kernel
theorem dX12_meets_25 : decode cX12_meets 25 = .ok (.ireturn, 1) := by decide +kernel
theorem dX12_meets_26 : decode cX12_meets 26 = .ok (.aload_n 0, 1) := by decide +kernel
theorem dX12_meets_27 : decode cX12_meets 27 = .ok (.getfield 282, 3) := by decide +kernel
theorem dX12_meets_30 : decode cX12_meets 30 = .ok (.iconst 4, 1) := by decide +kernel
theorem dX12_meets_31 : decode cX12_meets 31 = .ok (.if_icmp .ge 11, 3) := by decide +kernel
theorem dX12_meets_34 : decode cX12_meets 34 = .ok (.aload_n 0, 1) := by decide +kernel
theorem dX12_meets_35 : decode cX12_meets 35 = .ok (.iconst 2, 1) := by decide +kernel
theorem dX12_meets_36 : decode cX12_meets 36 = .ok (.invokevirtual 182, 3) := by decide +kernel
theorem dX12_meets_39 : decode cX12_meets 39 = .ok (.goto 16, 3) := by decide +kernel
theorem dX12_meets_42 : decode cX12_meets 42 = .ok (.aload_n 0, 1) := by decide +kernel
theorem dX12_meets_43 : decode cX12_meets 43 = .ok (.aload_n 0, 1) := by decide +kernel
theorem dX12_meets_44 : decode cX12_meets 44 = .ok (.iload_n 1, 1) := by decide +kernel
theorem dX12_meets_45 : decode cX12_meets 45 = .ok (.i2l, 1) := by decide +kernel
theorem dX12_meets_46 : decode cX12_meets 46 = .ok (.iload_n 2, 1) := by decide +kernel
theorem dX12_meets_47 : decode cX12_meets 47 = .ok (.i2l, 1) := by decide +kernel
theorem dX12_meets_48 : decode cX12_meets 48 = .ok (.iload_n 3, 1) := by decide +kernel
theorem dX12_meets_49 : decode cX12_meets 49 = .ok (.invokevirtual 308, 3) := by decide +kernel
theorem dX12_meets_52 : decode cX12_meets 52 = .ok (.invokevirtual 178, 3) := by decide +kernel
theorem dX12_meets_55 : decode cX12_meets 55 = .ok (.ireturn, 1) := by decide +kernel
set_option maxRecDepth 20000 in
theorem ggX12_setMachine_X12_in : GoodIn wsX12_setMachine wsX12_in := goodIn_r _ [9] (by decide +kernel) (by decide +kernel)
set_option maxRecDepth 20000 in
theorem gX12_setMachine_X12_in : GoodIn wsX12_setMachine (va_wsS RX12 101 yX12_in wsX12_in) := goodIn_app (goodIn_of _ (by decide +kernel)) ggX12_setMachine_X12_in
set_option maxRecDepth 20000 in
theorem ggX12_setMachine_X12_fails : GoodIn wsX12_setMachine wsX12_fails := goodIn_r _ [13, 14, 19, 20, 21, 22, 23, 24, 25, 26, 27, 28, 29, 30, 31, 32, 33, 34, 35, 36, 37, 38, 39, 40, 41, 42, 43, 44, 45, 46, 47, 48, 49, 50, 51, 52] (by decide +kernel) (by decide +kernel)
set_option maxRecDepth 20000 in
theorem gX12_setMachine_X12_fails : GoodIn wsX12_setMachine (wsV RX12 143 RX12 yX12_fails wsX12_fails) := goodIn_app (goodIn_of _ (by decide +kernel)) ggX12_setMachine_X12_fails
set_option maxRecDepth 20000 in
theorem ggX12_setMachine_X12_answer : GoodIn wsX12_setMachine wsX12_answer := goodIn_r _ [18, 14, 19, 20, 21, 22, 23, 24, 25, 26, 27, 28, 29, 30, 31, 32, 33, 34, 35, 36, 37, 38, 39, 40, 41, 42, 43, 44, 45, 46, 47, 48, 49, 50, 51, 52] (by decide +kernel) (by decide +kernel)
set_option maxRecDepth 20000 in
theorem gX12_setMachine_X12_answer : GoodIn wsX12_setMachine (wsV RX12 153 RX12 yX12_answer wsX12_answer) := goodIn_app (goodIn_of _ (by decide +kernel)) ggX12_setMachine_X12_answer
theorem dX12_setMachine_0 : decode cX12_setMachine 0 = .ok (.iload_n 1, 1) := by decide +kernel
theorem dX12_setMachine_1 : decode cX12_setMachine 1 = .ok (.i2l, 1) := by decide +kernel
theorem dX12_setMachine_2 : decode cX12_setMachine 2 = .ok (.lconst 1, 1) := by decide +kernel
theorem dX12_setMachine_3 : decode cX12_setMachine 3 = .ok (.ldc2_w 312, 3) := by decide +kernel
theorem dX12_setMachine_6 : decode cX12_setMachine 6 = .ok (.invokestatic 101, 3) := by decide +kernel
theorem dX12_setMachine_9 : decode cX12_setMachine 9 = .ok (.ifCond .eq 17, 3) := by decide +kernel
theorem dX12_setMachine_12 : decode cX12_setMachine 12 = .ok (.iload_n 2, 1) := by decide +kernel
theorem dX12_setMachine_13 : decode cX12_setMachine 13 = .ok (.i2l, 1) := by decide +kernel
theorem dX12_setMachine_14 : decode cX12_setMachine 14 = .ok (.ldc2_w 3, 3) := by decide +kernel
theorem dX12_setMachine_17 : decode cX12_setMachine 17 = .ok (.ldc2_w 131, 3) := by decide +kernel
theorem dX12_setMachine_20 : decode cX12_setMachine 20 = .ok (.invokestatic 101, 3) := by decide +kernel
theorem dX12_setMachine_23 : decode cX12_setMachine 23 = .ok (.ifCond .ne 9, 3) := by decide +kernel
theorem dX12_setMachine_26 : decode cX12_setMachine 26 = .ok (.aload_n 0, 1) := by decide +kernel
theorem dX12_setMachine_27 : decode cX12_setMachine 27 = .ok (.iconst 1, 1) := by decide +kernel
theorem dX12_setMachine_28 : decode cX12_setMachine 28 = .ok (.invokevirtual 143, 3) := by decide +kernel
theorem dX12_setMachine_31 : decode cX12_setMachine 31 = .ok (.ireturn, 1) := by decide +kernel
theorem dX12_setMachine_32 : decode cX12_setMachine 32 = .ok (.aload_n 0, 1) := by decide +kernel
theorem dX12_setMachine_33 : decode cX12_setMachine 33 = .ok (.getfield 72, 3) := by decide +kernel
theorem dX12_setMachine_36 : decode cX12_setMachine 36 = .ok (.istore_n 3, 1) := by decide +kernel
theorem dX12_setMachine_37 : decode cX12_setMachine 37 = .ok (.aload_n 0, 1) := by decide +kernel
theorem dX12_setMachine_38 : decode cX12_setMachine 38 = .ok (.iload_n 1, 1) := by decide +kernel
theorem dX12_setMachine_39 : decode cX12_setMachine 39 = .ok (.putfield 72, 3) := by decide +kernel
theorem dX12_setMachine_42 : decode cX12_setMachine 42 = .ok (.aload_n 0, 1) := by decide +kernel
theorem dX12_setMachine_43 : decode cX12_setMachine 43 = .ok (.iload_n 2, 1) := by decide +kernel
theorem dX12_setMachine_44 : decode cX12_setMachine 44 = .ok (.putfield 76, 3) := by decide +kernel
theorem dX12_setMachine_47 : decode cX12_setMachine 47 = .ok (.aload_n 0, 1) := by decide +kernel
theorem dX12_setMachine_48 : decode cX12_setMachine 48 = .ok (.iload_n 3, 1) := by decide +kernel
theorem dX12_setMachine_49 : decode cX12_setMachine 49 = .ok (.invokevirtual 153, 3) := by decide +kernel
theorem dX12_setMachine_52 : decode cX12_setMachine 52 = .ok (.ireturn, 1) := by decide +kernel
set_option maxRecDepth 20000 in
theorem ggX12_hob_X12_in : GoodIn wsX12_hob wsX12_in := goodIn_r _ [14] (by decide +kernel) (by decide +kernel)
set_option maxRecDepth 20000 in
theorem gX12_hob_X12_in : GoodIn wsX12_hob (va_wsS RX12 101 yX12_in wsX12_in) := goodIn_app (goodIn_of _ (by decide +kernel)) ggX12_hob_X12_in
set_option maxRecDepth 20000 in
theorem ggX12_hob_X12_fails : GoodIn wsX12_hob wsX12_fails := goodIn_r _ [18, 19, 96, 97, 98, 99, 100, 101, 102, 103, 104, 105, 106, 107, 108, 109, 110, 111, 112, 113, 114, 115, 116, 117, 118, 119, 120, 121, 122, 123, 124, 125, 126, 127, 128, 129] (by decide +kernel) (by decide +kernel)
set_option maxRecDepth 20000 in
theorem gX12_hob_X12_fails : GoodIn wsX12_hob (wsV RX12 143 RX12 yX12_fails wsX12_fails) := goodIn_app (goodIn_of _ (by decide +kernel)) ggX12_hob_X12_fails
set_option maxRecDepth 20000 in
theorem ggX12_hob_Jx4a65c_size_8abf5 : GoodIn wsX12_hob wsJx4a65c_size_8abf5 := goodIn_r _ [24, 25, 137, 138, 139] (by decide +kernel) (by decide +kernel)
set_option maxRecDepth 20000 in
theorem gX12_hob_Jx4a65c_size_8abf5 : GoodIn wsX12_hob (wsV RX12 97 RJx4a65c yJx4a65c_size_8abf5 wsJx4a65c_size_8abf5) := goodIn_app (goodIn_of _ (by decide +kernel)) ggX12_hob_Jx4a65c_size_8abf5
set_option maxRecDepth 20000 in
theorem ggX12_hob_X11_init : GoodIn wsX12_hob wsX11_init := goodIn_r _ [28, 29, 30, 31, 32, 33, 34, 35, 36, 37, 130, 131, 132, 133, 134, 135, 136] (by decide +kernel) (by decide +kernel)
set_option maxRecDepth 20000 in
theorem gX12_hob_X11_init : GoodIn wsX12_hob (wsX11_init) := ggX12_hob_X11_init
set_option maxRecDepth 20000 in
theorem ggX12_hob_Jx4a65c_add_9ea2d : GoodIn wsX12_hob wsJx4a65c_add_9ea2d := goodIn_r _ [41, 42, 43, 44, 25, 45, 46, 47, 23, 48, 49, 50, 51, 52, 53, 54, 55, 56, 57, 58, 59, 60, 61, 62, 63, 64, 65, 66, 67, 68, 69, 70, 71, 72, 73, 74, 75, 76, 77, 78, 79, 80, 81, 82, 83, 84, 85, 86, 87, 88, 89, 90, 91, 137, 138, 139] (by decide +kernel) (by decide +kernel)
set_option maxRecDepth 20000 in
theorem gX12_hob_Jx4a65c_add_9ea2d : GoodIn wsX12_hob (wsV RX12 149 RJx4a65c yJx4a65c_add_9ea2d wsJx4a65c_add_9ea2d) := goodIn_app (goodIn_of _ (by decide +kernel)) ggX12_hob_Jx4a65c_add_9ea2d
set_option maxRecDepth 20000 in
theorem ggX12_hob_X12_answer : GoodIn wsX12_hob wsX12_answer := goodIn_r _ [95, 19, 96, 97, 98, 99, 100, 101, 102, 103, 104, 105, 106, 107, 108, 109, 110, 111, 112, 113, 114, 115, 116, 117, 118, 119, 120, 121, 122, 123, 124, 125, 126, 127, 128, 129] (by decide +kernel) (by decide +kernel)
set_option maxRecDepth 20000 in
theorem gX12_hob_X12_answer : GoodIn wsX12_hob (wsV RX12 153 RX12 yX12_answer wsX12_answer) := goodIn_app (goodIn_of _ (by decide +kernel)) ggX12_hob_X12_answer
theorem dX12_hob_0 : decode cX12_hob 0 = .ok (.iload_n 1, 1) := by decide +kernel
theorem dX12_hob_1 : decode cX12_hob 1 = .ok (.i2l, 1) := by decide +kernel
theorem dX12_hob_2 : decode cX12_hob 2 = .ok (.ldc2_w 133, 3) := by decide +kernel
theorem dX12_hob_5 : decode cX12_hob 5 = .ok (.ldc2_w 135, 3) := by decide +kernel
theorem dX12_hob_8 : decode cX12_hob 8 = .ok (.invokestatic 101, 3) := by decide +kernel
theorem dX12_hob_11 : decode cX12_hob 11 = .ok (.ifCond .eq 42, 3) := by decide +kernel
theorem dX12_hob_14 : decode cX12_hob 14 = .ok (.iload_n 2, 1) := by decide +kernel
theorem dX12_hob_15 : decode cX12_hob 15 = .ok (.i2l, 1) := by decide +kernel
theorem dX12_hob_16 : decode cX12_hob 16 = .ok (.lconst 1, 1) := by decide +kernel
theorem dX12_hob_17 : decode cX12_hob 17 = .ok (.ldc2_w 314, 3) := by decide +kernel
theorem dX12_hob_20 : decode cX12_hob 20 = .ok (.invokestatic 101, 3) := by decide +kernel
theorem dX12_hob_23 : decode cX12_hob 23 = .ok (.ifCond .eq 30, 3) := by decide +kernel
theorem dX12_hob_26 : decode cX12_hob 26 = .ok (.iload_n 3, 1) := by decide +kernel
theorem dX12_hob_27 : decode cX12_hob 27 = .ok (.i2l, 1) := by decide +kernel
theorem dX12_hob_28 : decode cX12_hob 28 = .ok (.ldc2_w 316, 3) := by decide +kernel
theorem dX12_hob_31 : decode cX12_hob 31 = .ok (.ldc2_w 318, 3) := by decide +kernel
theorem dX12_hob_34 : decode cX12_hob 34 = .ok (.invokestatic 101, 3) := by decide +kernel
theorem dX12_hob_37 : decode cX12_hob 37 = .ok (.ifCond .eq 16, 3) := by decide +kernel
theorem dX12_hob_40 : decode cX12_hob 40 = .ok (.iload 4, 2) := by decide +kernel
theorem dX12_hob_42 : decode cX12_hob 42 = .ok (.i2l, 1) := by decide +kernel
theorem dX12_hob_43 : decode cX12_hob 43 = .ok (.lconst 1, 1) := by decide +kernel
theorem dX12_hob_44 : decode cX12_hob 44 = .ok (.ldc2_w 320, 3) := by decide +kernel
theorem dX12_hob_47 : decode cX12_hob 47 = .ok (.invokestatic 101, 3) := by decide +kernel
theorem dX12_hob_50 : decode cX12_hob 50 = .ok (.ifCond .ne 9, 3) := by decide +kernel
theorem dX12_hob_53 : decode cX12_hob 53 = .ok (.aload_n 0, 1) := by decide +kernel
theorem dX12_hob_54 : decode cX12_hob 54 = .ok (.iconst 1, 1) := by decide +kernel
theorem dX12_hob_55 : decode cX12_hob 55 = .ok (.invokevirtual 143, 3) := by decide +kernel
theorem dX12_hob_58 : decode cX12_hob 58 = .ok (.ireturn, 1) := by decide +kernel
theorem dX12_hob_59 : decode cX12_hob 59 = .ok (.aload_n 0, 1) := by decide +kernel
theorem dX12_hob_60 : decode cX12_hob 60 = .ok (.getfield 28, 3) := by decide +kernel
theorem dX12_hob_63 : decode cX12_hob 63 = .ok (.invokevirtual 97, 3) := by decide +kernel
theorem dX12_hob_66 : decode cX12_hob 66 = .ok (.bipush 8, 2) := by decide +kernel
theorem dX12_hob_68 : decode cX12_hob 68 = .ok (.if_icmp .ne 9, 3) := by decide +kernel
theorem dX12_hob_71 : decode cX12_hob 71 = .ok (.aload_n 0, 1) := by decide +kernel
theorem dX12_hob_72 : decode cX12_hob 72 = .ok (.iconst 2, 1) := by decide +kernel
theorem dX12_hob_73 : decode cX12_hob 73 = .ok (.invokevirtual 143, 3) := by decide +kernel
theorem dX12_hob_76 : decode cX12_hob 76 = .ok (.ireturn, 1) := by decide +kernel
theorem dX12_hob_77 : decode cX12_hob 77 = .ok (.aload_n 0, 1) := by decide +kernel
theorem dX12_hob_78 : decode cX12_hob 78 = .ok (.getfield 28, 3) := by decide +kernel
theorem dX12_hob_81 : decode cX12_hob 81 = .ok (.new 322, 3) := by decide +kernel
theorem dX12_hob_84 : decode cX12_hob 84 = .ok (.dup, 1) := by decide +kernel
theorem dX12_hob_85 : decode cX12_hob 85 = .ok (.iload_n 1, 1) := by decide +kernel
theorem dX12_hob_86 : decode cX12_hob 86 = .ok (.iload_n 2, 1) := by decide +kernel
theorem dX12_hob_87 : decode cX12_hob 87 = .ok (.iload_n 3, 1) := by decide +kernel
theorem dX12_hob_88 : decode cX12_hob 88 = .ok (.iload 4, 2) := by decide +kernel
theorem dX12_hob_90 : decode cX12_hob 90 = .ok (.invokespecial 324, 3) := by decide +kernel
theorem dX12_hob_93 : decode cX12_hob 93 = .ok (.invokevirtual 149, 3) := by decide +kernel
theorem dX12_hob_96 : decode cX12_hob 96 = .ok (.pop, 1) := by decide +kernel
theorem dX12_hob_97 : decode cX12_hob 97 = .ok (.aload_n 0, 1) := by decide +kernel
theorem dX12_hob_98 : decode cX12_hob 98 = .ok (.aload_n 0, 1) := by decide +kernel
theorem dX12_hob_99 : decode cX12_hob 99 = .ok (.getfield 28, 3) := by decide +kernel
theorem dX12_hob_102 : decode cX12_hob 102 = .ok (.invokevirtual 97, 3) := by decide +kernel
theorem dX12_hob_105 : decode cX12_hob 105 = .ok (.iconst 1, 1) := by decide +kernel
theorem dX12_hob_106 : decode cX12_hob 106 = .ok (.isub, 1) := by decide +kernel
theorem dX12_hob_107 : decode cX12_hob 107 = .ok (.invokevirtual 153, 3) := by decide +kernel
theorem dX12_hob_110 : decode cX12_hob 110 = .ok (.ireturn, 1) := by decide +kernel
set_option maxRecDepth 20000 in
theorem ggX12_indexes_X12_isGear : GoodIn wsX12_indexes wsX12_isGear := goodIn_r _ [10, 11, 12, 13, 14, 15, 16, 17, 18, 19, 9, 20, 83, 84, 85, 86, 87, 88, 89, 90, 91, 92, 93, 94, 95, 96, 97, 98, 99, 100, 101, 102, 103, 104, 105, 106, 107, 108, 109, 110, 111, 112, 113, 114, 115, 116, 147, 148, 149] (by decide +kernel) (by decide +kernel)
set_option maxRecDepth 20000 in
theorem gX12_indexes_X12_isGear : GoodIn wsX12_indexes (wsV RX12 121 RX12 yX12_isGear wsX12_isGear) := goodIn_app (goodIn_of _ (by decide +kernel)) ggX12_indexes_X12_isGear
set_option maxRecDepth 20000 in
theorem ggX12_indexes_X12_isHob : GoodIn wsX12_indexes wsX12_isHob := goodIn_r _ [24, 4, 12, 13, 14, 15, 16, 17, 18, 19, 9, 20, 83, 84, 85, 86, 87, 88, 89, 90, 91, 92, 93, 94, 95, 96, 97, 98, 99, 100, 101, 102, 103, 104, 105, 106, 107, 108, 109, 110, 111, 112, 113, 114, 115, 116, 147, 148, 149] (by decide +kernel) (by decide +kernel)
set_option maxRecDepth 20000 in
theorem gX12_indexes_X12_isHob : GoodIn wsX12_indexes (wsV RX12 326 RX12 yX12_isHob wsX12_isHob) := goodIn_app (goodIn_of _ (by decide +kernel)) ggX12_indexes_X12_isHob
set_option maxRecDepth 20000 in
theorem ggX12_indexes_X12_refuses : GoodIn wsX12_indexes wsX12_refuses := goodIn_r _ [28, 29, 83, 84, 85, 86, 87, 88, 89, 90, 91, 92, 93, 94, 95, 96, 97, 98, 99, 100, 101, 102, 103, 104, 105, 106, 107, 108, 109, 110, 111, 112, 113, 114, 115, 116] (by decide +kernel) (by decide +kernel)
set_option maxRecDepth 20000 in
theorem gX12_indexes_X12_refuses : GoodIn wsX12_indexes (wsV RX12 182 RX12 yX12_refuses wsX12_refuses) := goodIn_app (goodIn_of _ (by decide +kernel)) ggX12_indexes_X12_refuses
set_option maxRecDepth 20000 in
theorem ggX12_indexes_X12_in : GoodIn wsX12_indexes wsX12_in := goodIn_r _ [20] (by decide +kernel) (by decide +kernel)
set_option maxRecDepth 20000 in
theorem gX12_indexes_X12_in : GoodIn wsX12_indexes (va_wsS RX12 101 yX12_in wsX12_in) := goodIn_app (goodIn_of _ (by decide +kernel)) ggX12_indexes_X12_in
set_option maxRecDepth 20000 in
theorem ggX12_indexes_Jx4a65c_get_915e3 : GoodIn wsX12_indexes wsJx4a65c_get_915e3 := goodIn_r _ [33, 17, 34, 35, 36, 37, 38, 39, 40, 41, 42, 43, 44, 15, 45, 46, 147, 148, 149] (by decide +kernel) (by decide +kernel)
set_option maxRecDepth 20000 in
theorem gX12_indexes_Jx4a65c_get_915e3 : GoodIn wsX12_indexes (wsV RX12 105 RJx4a65c yJx4a65c_get_915e3 wsJx4a65c_get_915e3) := goodIn_app (goodIn_of _ (by decide +kernel)) ggX12_indexes_Jx4a65c_get_915e3
set_option maxRecDepth 20000 in
theorem ggX12_indexes_X12_gearAt : GoodIn wsX12_indexes wsX12_gearAt := goodIn_r _ [50, 11, 51, 30, 31, 32, 15, 33, 17, 34, 35, 36, 37, 38, 39, 40, 41, 42, 43, 44, 45, 46, 83, 84, 85, 86, 87, 88, 89, 90, 91, 92, 93, 94, 95, 96, 97, 98, 99, 100, 101, 102, 103, 104, 105, 106, 107, 108, 109, 110, 111, 112, 113, 114, 115, 116, 147, 148, 149] (by decide +kernel) (by decide +kernel)
set_option maxRecDepth 20000 in
theorem gX12_indexes_X12_gearAt : GoodIn wsX12_indexes (wsV RX12 111 RX12 yX12_gearAt wsX12_gearAt) := goodIn_app (goodIn_of _ (by decide +kernel)) ggX12_indexes_X12_gearAt
set_option maxRecDepth 20000 in
theorem ggX12_indexes_X12_isMet : GoodIn wsX12_indexes wsX12_isMet := goodIn_ca (goodIn_r _ [55, 56, 57, 58, 59, 60, 9, 61, 62, 63, 64, 65, 66, 2, 67, 68, 69, 70, 71, 72, 73, 74, 75, 76, 77, 78, 83, 84, 85, 86, 87, 88, 89, 90, 91, 92, 93, 94, 95, 96, 97, 98, 99, 100, 101, 102, 103, 104, 105, 106, 107, 108, 109, 110, 111, 112, 113, 114, 115, 116] (by decide +kernel) (by decide +kernel)) (goodIn_sub (fun _ h => List.mem_cons_of_mem _ (List.mem_append_right _ h)) (by decide +kernel))
set_option maxRecDepth 20000 in
theorem gX12_indexes_X12_isMet : GoodIn wsX12_indexes (wsV RX12 308 RX12 yX12_isMet wsX12_isMet) := goodIn_app (goodIn_of _ (by decide +kernel)) ggX12_indexes_X12_isMet
set_option maxRecDepth 20000 in
theorem ggX12_indexes_X12_says : GoodIn wsX12_indexes wsX12_says := goodIn_r _ [82, 29, 83, 84, 85, 86, 87, 88, 89, 90, 91, 92, 93, 94, 95, 96, 97, 98, 99, 100, 101, 102, 103, 104, 105, 106, 107, 108, 109, 110, 111, 112, 113, 114, 115, 116] (by decide +kernel) (by decide +kernel)
set_option maxRecDepth 20000 in
theorem gX12_indexes_X12_says : GoodIn wsX12_indexes (wsV RX12 178 RX12 yX12_says wsX12_says) := goodIn_app (goodIn_of _ (by decide +kernel)) ggX12_indexes_X12_says
theorem dX12_indexes_0 : decode cX12_indexes 0 = .ok (.aload_n 0, 1) := by decide +kernel
theorem dX12_indexes_1 : decode cX12_indexes 1 = .ok (.iload_n 1, 1) := by decide +kernel
theorem dX12_indexes_2 : decode cX12_indexes 2 = .ok (.invokevirtual 121, 3) := by decide +kernel
theorem dX12_indexes_5 : decode cX12_indexes 5 = .ok (.ifCond .eq 11, 3) := by decide +kernel
theorem dX12_indexes_8 : decode cX12_indexes 8 = .ok (.aload_n 0, 1) := by decide +kernel
theorem dX12_indexes_9 : decode cX12_indexes 9 = .ok (.iload_n 2, 1) := by decide +kernel
theorem dX12_indexes_10 : decode cX12_indexes 10 = .ok (.invokevirtual 326, 3) := by decide +kernel
theorem dX12_indexes_13 : decode cX12_indexes 13 = .ok (.ifCond .ne 9, 3) := by decide +kernel
theorem dX12_indexes_16 : decode cX12_indexes 16 = .ok (.aload_n 0, 1) := by decide +kernel
theorem dX12_indexes_17 : decode cX12_indexes 17 = .ok (.iconst 1, 1) := by decide +kernel
theorem dX12_indexes_18 : decode cX12_indexes 18 = .ok (.invokevirtual 182, 3) := by decide +kernel
theorem dX12_indexes_21 : decode cX12_indexes 21 = .ok (.ireturn, 1) := by decide +kernel
theorem dX12_indexes_22 : decode cX12_indexes 22 = .ok (.iload_n 3, 1) := by decide +kernel
theorem dX12_indexes_23 : decode cX12_indexes 23 = .ok (.i2l, 1) := by decide +kernel
theorem dX12_indexes_24 : decode cX12_indexes 24 = .ok (.lconst 0, 1) := by decide +kernel
theorem dX12_indexes_25 : decode cX12_indexes 25 = .ok (.ldc2_w 306, 3) := by decide +kernel
theorem dX12_indexes_28 : decode cX12_indexes 28 = .ok (.invokestatic 101, 3) := by decide +kernel
theorem dX12_indexes_31 : decode cX12_indexes 31 = .ok (.ifCond .ne 9, 3) := by decide +kernel
theorem dX12_indexes_34 : decode cX12_indexes 34 = .ok (.aload_n 0, 1) := by decide +kernel
theorem dX12_indexes_35 : decode cX12_indexes 35 = .ok (.iconst 2, 1) := by decide +kernel
theorem dX12_indexes_36 : decode cX12_indexes 36 = .ok (.invokevirtual 182, 3) := by decide +kernel
theorem dX12_indexes_39 : decode cX12_indexes 39 = .ok (.ireturn, 1) := by decide +kernel
theorem dX12_indexes_40 : decode cX12_indexes 40 = .ok (.aload_n 0, 1) := by decide +kernel
theorem dX12_indexes_41 : decode cX12_indexes 41 = .ok (.getfield 282, 3) := by decide +kernel
theorem dX12_indexes_44 : decode cX12_indexes 44 = .ok (.iconst 4, 1) := by decide +kernel
theorem dX12_indexes_45 : decode cX12_indexes 45 = .ok (.if_icmp .ge 11, 3) := by decide +kernel
theorem dX12_indexes_48 : decode cX12_indexes 48 = .ok (.aload_n 0, 1) := by decide +kernel
theorem dX12_indexes_49 : decode cX12_indexes 49 = .ok (.iconst 3, 1) := by decide +kernel
theorem dX12_indexes_50 : decode cX12_indexes 50 = .ok (.invokevirtual 182, 3) := by decide +kernel
theorem dX12_indexes_53 : decode cX12_indexes 53 = .ok (.goto 42, 3) := by decide +kernel
theorem dX12_indexes_56 : decode cX12_indexes 56 = .ok (.aload_n 0, 1) := by decide +kernel
theorem dX12_indexes_57 : decode cX12_indexes 57 = .ok (.aload_n 0, 1) := by decide +kernel
theorem dX12_indexes_58 : decode cX12_indexes 58 = .ok (.aload_n 0, 1) := by decide +kernel
theorem dX12_indexes_59 : decode cX12_indexes 59 = .ok (.getfield 72, 3) := by decide +kernel
theorem dX12_indexes_62 : decode cX12_indexes 62 = .ok (.i2l, 1) := by decide +kernel
theorem dX12_indexes_63 : decode cX12_indexes 63 = .ok (.aload_n 0, 1) := by decide +kernel
theorem dX12_indexes_64 : decode cX12_indexes 64 = .ok (.getfield 28, 3) := by decide +kernel
theorem dX12_indexes_67 : decode cX12_indexes 67 = .ok (.iload_n 2, 1) := by decide +kernel
theorem dX12_indexes_68 : decode cX12_indexes 68 = .ok (.invokevirtual 105, 3) := by decide +kernel
theorem dX12_indexes_71 : decode cX12_indexes 71 = .ok (.checkcast 322, 3) := by decide +kernel
theorem dX12_indexes_74 : decode cX12_indexes 74 = .ok (.getfield 329, 3) := by decide +kernel
theorem dX12_indexes_77 : decode cX12_indexes 77 = .ok (.i2l, 1) := by decide +kernel
theorem dX12_indexes_78 : decode cX12_indexes 78 = .ok (.lmul, 1) := by decide +kernel
theorem dX12_indexes_79 : decode cX12_indexes 79 = .ok (.aload_n 0, 1) := by decide +kernel
theorem dX12_indexes_80 : decode cX12_indexes 80 = .ok (.iload_n 1, 1) := by decide +kernel
theorem dX12_indexes_81 : decode cX12_indexes 81 = .ok (.invokevirtual 111, 3) := by decide +kernel
theorem dX12_indexes_84 : decode cX12_indexes 84 = .ok (.getfield 332, 3) := by decide +kernel
theorem dX12_indexes_87 : decode cX12_indexes 87 = .ok (.i2l, 1) := by decide +kernel
theorem dX12_indexes_88 : decode cX12_indexes 88 = .ok (.iload_n 3, 1) := by decide +kernel
theorem dX12_indexes_89 : decode cX12_indexes 89 = .ok (.invokevirtual 308, 3) := by decide +kernel
theorem dX12_indexes_92 : decode cX12_indexes 92 = .ok (.invokevirtual 178, 3) := by decide +kernel
theorem dX12_indexes_95 : decode cX12_indexes 95 = .ok (.ireturn, 1) := by decide +kernel
set_option maxRecDepth 20000 in
theorem ggX12_differs_X12_isGear : GoodIn wsX12_differs wsX12_isGear := goodIn_r _ [14, 15, 16, 17, 18, 19, 20, 21, 22, 23, 13, 24, 109, 110, 111, 112, 113, 114, 115, 116, 117, 118, 119, 120, 121, 122, 123, 124, 125, 126, 127, 128, 129, 130, 131, 132, 133, 134, 135, 136, 137, 138, 139, 140, 141, 142, 150, 151, 152] (by decide +kernel) (by decide +kernel)
set_option maxRecDepth 20000 in
theorem gX12_differs_X12_isGear : GoodIn wsX12_differs (wsV RX12 121 RX12 yX12_isGear wsX12_isGear) := goodIn_app (goodIn_of _ (by decide +kernel)) ggX12_differs_X12_isGear
set_option maxRecDepth 20000 in
theorem ggX12_differs_X12_isHob : GoodIn wsX12_differs wsX12_isHob := goodIn_r _ [28, 8, 16, 17, 18, 19, 20, 21, 22, 23, 13, 24, 109, 110, 111, 112, 113, 114, 115, 116, 117, 118, 119, 120, 121, 122, 123, 124, 125, 126, 127, 128, 129, 130, 131, 132, 133, 134, 135, 136, 137, 138, 139, 140, 141, 142, 150, 151, 152] (by decide +kernel) (by decide +kernel)
set_option maxRecDepth 20000 in
theorem gX12_differs_X12_isHob : GoodIn wsX12_differs (wsV RX12 326 RX12 yX12_isHob wsX12_isHob) := goodIn_app (goodIn_of _ (by decide +kernel)) ggX12_differs_X12_isHob
set_option maxRecDepth 20000 in
theorem ggX12_differs_X12_refuses : GoodIn wsX12_differs wsX12_refuses := goodIn_r _ [32, 33, 109, 110, 111, 112, 113, 114, 115, 116, 117, 118, 119, 120, 121, 122, 123, 124, 125, 126, 127, 128, 129, 130, 131, 132, 133, 134, 135, 136, 137, 138, 139, 140, 141, 142] (by decide +kernel) (by decide +kernel)
set_option maxRecDepth 20000 in
theorem gX12_differs_X12_refuses : GoodIn wsX12_differs (wsV RX12 182 RX12 yX12_refuses wsX12_refuses) := goodIn_app (goodIn_of _ (by decide +kernel)) ggX12_differs_X12_refuses
set_option maxRecDepth 20000 in
theorem ggX12_differs_X12_in : GoodIn wsX12_differs wsX12_in := goodIn_r _ [24] (by decide +kernel) (by decide +kernel)
set_option maxRecDepth 20000 in
theorem gX12_differs_X12_in : GoodIn wsX12_differs (va_wsS RX12 101 yX12_in wsX12_in) := goodIn_app (goodIn_of _ (by decide +kernel)) ggX12_differs_X12_in
set_option maxRecDepth 20000 in
theorem ggX12_differs_X12_gearAt : GoodIn wsX12_differs wsX12_gearAt := goodIn_r _ [37, 15, 38, 39, 40, 41, 19, 42, 21, 43, 44, 45, 46, 47, 48, 49, 50, 51, 52, 53, 54, 55, 109, 110, 111, 112, 113, 114, 115, 116, 117, 118, 119, 120, 121, 122, 123, 124, 125, 126, 127, 128, 129, 130, 131, 132, 133, 134, 135, 136, 137, 138, 139, 140, 141, 142, 150, 151, 152] (by decide +kernel) (by decide +kernel)
set_option maxRecDepth 20000 in
theorem gX12_differs_X12_gearAt : GoodIn wsX12_differs (wsV RX12 111 RX12 yX12_gearAt wsX12_gearAt) := goodIn_app (goodIn_of _ (by decide +kernel)) ggX12_differs_X12_gearAt
set_option maxRecDepth 20000 in
theorem ggX12_differs_Jx4a65c_get_915e3 : GoodIn wsX12_differs wsJx4a65c_get_915e3 := goodIn_r _ [42, 21, 43, 44, 45, 46, 47, 48, 49, 50, 51, 52, 53, 19, 54, 55, 150, 151, 152] (by decide +kernel) (by decide +kernel)
set_option maxRecDepth 20000 in
theorem gX12_differs_Jx4a65c_get_915e3 : GoodIn wsX12_differs (wsV RX12 105 RJx4a65c yJx4a65c_get_915e3 wsJx4a65c_get_915e3) := goodIn_app (goodIn_of _ (by decide +kernel)) ggX12_differs_Jx4a65c_get_915e3
set_option maxRecDepth 20000 in
theorem ggX12_differs_X12_isMet : GoodIn wsX12_differs wsX12_isMet := goodIn_ca (goodIn_r _ [59, 60, 61, 62, 63, 64, 13, 65, 66, 67, 68, 69, 70, 2, 71, 72, 73, 74, 75, 76, 77, 78, 79, 80, 5, 81, 109, 110, 111, 112, 113, 114, 115, 116, 117, 118, 119, 120, 121, 122, 123, 124, 125, 126, 127, 128, 129, 130, 131, 132, 133, 134, 135, 136, 137, 138, 139, 140, 141, 142] (by decide +kernel) (by decide +kernel)) (goodIn_sub (fun _ h => List.mem_cons_of_mem _ (List.mem_append_right _ h)) (by decide +kernel))
set_option maxRecDepth 20000 in
theorem gX12_differs_X12_isMet : GoodIn wsX12_differs (wsV RX12 308 RX12 yX12_isMet wsX12_isMet) := goodIn_app (goodIn_of _ (by decide +kernel)) ggX12_differs_X12_isMet
set_option maxRecDepth 20000 in
theorem ggX12_differs_X12_says : GoodIn wsX12_differs wsX12_says := goodIn_r _ [85, 33, 109, 110, 111, 112, 113, 114, 115, 116, 117, 118, 119, 120, 121, 122, 123, 124, 125, 126, 127, 128, 129, 130, 131, 132, 133, 134, 135, 136, 137, 138, 139, 140, 141, 142] (by decide +kernel) (by decide +kernel)
set_option maxRecDepth 20000 in
theorem gX12_differs_X12_says : GoodIn wsX12_differs (wsV RX12 178 RX12 yX12_says wsX12_says) := goodIn_app (goodIn_of _ (by decide +kernel)) ggX12_differs_X12_says
theorem dX12_differs_0 : decode cX12_differs 0 = .ok (.aload_n 0, 1) := by decide +kernel
theorem dX12_differs_1 : decode cX12_differs 1 = .ok (.iload_n 1, 1) := by decide +kernel
theorem dX12_differs_2 : decode cX12_differs 2 = .ok (.invokevirtual 121, 3) := by decide +kernel
theorem dX12_differs_5 : decode cX12_differs 5 = .ok (.ifCond .eq 11, 3) := by decide +kernel
theorem dX12_differs_8 : decode cX12_differs 8 = .ok (.aload_n 0, 1) := by decide +kernel
theorem dX12_differs_9 : decode cX12_differs 9 = .ok (.iload_n 2, 1) := by decide +kernel
theorem dX12_differs_10 : decode cX12_differs 10 = .ok (.invokevirtual 326, 3) := by decide +kernel
theorem dX12_differs_13 : decode cX12_differs 13 = .ok (.ifCond .ne 9, 3) := by decide +kernel
theorem dX12_differs_16 : decode cX12_differs 16 = .ok (.aload_n 0, 1) := by decide +kernel
theorem dX12_differs_17 : decode cX12_differs 17 = .ok (.iconst 1, 1) := by decide +kernel
theorem dX12_differs_18 : decode cX12_differs 18 = .ok (.invokevirtual 182, 3) := by decide +kernel
theorem dX12_differs_21 : decode cX12_differs 21 = .ok (.ireturn, 1) := by decide +kernel
theorem dX12_differs_22 : decode cX12_differs 22 = .ok (.iload_n 3, 1) := by decide +kernel
theorem dX12_differs_23 : decode cX12_differs 23 = .ok (.i2l, 1) := by decide +kernel
theorem dX12_differs_24 : decode cX12_differs 24 = .ok (.lconst 0, 1) := by decide +kernel
theorem dX12_differs_25 : decode cX12_differs 25 = .ok (.ldc2_w 306, 3) := by decide +kernel
theorem dX12_differs_28 : decode cX12_differs 28 = .ok (.invokestatic 101, 3) := by decide +kernel
theorem dX12_differs_31 : decode cX12_differs 31 = .ok (.ifCond .ne 9, 3) := by decide +kernel
theorem dX12_differs_34 : decode cX12_differs 34 = .ok (.aload_n 0, 1) := by decide +kernel
theorem dX12_differs_35 : decode cX12_differs 35 = .ok (.iconst 2, 1) := by decide +kernel
theorem dX12_differs_36 : decode cX12_differs 36 = .ok (.invokevirtual 182, 3) := by decide +kernel
theorem dX12_differs_39 : decode cX12_differs 39 = .ok (.ireturn, 1) := by decide +kernel
theorem dX12_differs_40 : decode cX12_differs 40 = .ok (.aload_n 0, 1) := by decide +kernel
theorem dX12_differs_41 : decode cX12_differs 41 = .ok (.iload_n 1, 1) := by decide +kernel
theorem dX12_differs_42 : decode cX12_differs 42 = .ok (.invokevirtual 111, 3) := by decide +kernel
theorem dX12_differs_45 : decode cX12_differs 45 = .ok (.astore 4, 2) := by decide +kernel
theorem dX12_differs_47 : decode cX12_differs 47 = .ok (.aload 4, 2) := by decide +kernel
theorem dX12_differs_49 : decode cX12_differs 49 = .ok (.getfield 118, 3) := by decide +kernel
theorem dX12_differs_52 : decode cX12_differs 52 = .ok (.ifCond .ne 9, 3) := by decide +kernel
theorem dX12_differs_55 : decode cX12_differs 55 = .ok (.aload_n 0, 1) := by decide +kernel
theorem dX12_differs_56 : decode cX12_differs 56 = .ok (.iconst 3, 1) := by decide +kernel
theorem dX12_differs_57 : decode cX12_differs 57 = .ok (.invokevirtual 182, 3) := by decide +kernel
theorem dX12_differs_60 : decode cX12_differs 60 = .ok (.ireturn, 1) := by decide +kernel
theorem dX12_differs_61 : decode cX12_differs 61 = .ok (.aload_n 0, 1) := by decide +kernel
theorem dX12_differs_62 : decode cX12_differs 62 = .ok (.getfield 282, 3) := by decide +kernel
theorem dX12_differs_65 : decode cX12_differs 65 = .ok (.iconst 4, 1) := by decide +kernel
theorem dX12_differs_66 : decode cX12_differs 66 = .ok (.if_icmp .ge 11, 3) := by decide +kernel
theorem dX12_differs_69 : decode cX12_differs 69 = .ok (.aload_n 0, 1) := by decide +kernel
theorem dX12_differs_70 : decode cX12_differs 70 = .ok (.iconst 4, 1) := by decide +kernel
theorem dX12_differs_71 : decode cX12_differs 71 = .ok (.invokevirtual 182, 3) := by decide +kernel
theorem dX12_differs_74 : decode cX12_differs 74 = .ok (.goto 49, 3) := by decide +kernel
theorem dX12_differs_77 : decode cX12_differs 77 = .ok (.aload_n 0, 1) := by decide +kernel
theorem dX12_differs_78 : decode cX12_differs 78 = .ok (.aload_n 0, 1) := by decide +kernel
theorem dX12_differs_79 : decode cX12_differs 79 = .ok (.aload 4, 2) := by decide +kernel
theorem dX12_differs_81 : decode cX12_differs 81 = .ok (.getfield 118, 3) := by decide +kernel
theorem dX12_differs_84 : decode cX12_differs 84 = .ok (.invokestatic 215, 3) := by decide +kernel
theorem dX12_differs_87 : decode cX12_differs 87 = .ok (.i2l, 1) := by decide +kernel
theorem dX12_differs_88 : decode cX12_differs 88 = .ok (.aload_n 0, 1) := by decide +kernel
theorem dX12_differs_89 : decode cX12_differs 89 = .ok (.getfield 72, 3) := by decide +kernel
theorem dX12_differs_92 : decode cX12_differs 92 = .ok (.i2l, 1) := by decide +kernel
theorem dX12_differs_93 : decode cX12_differs 93 = .ok (.lmul, 1) := by decide +kernel
theorem dX12_differs_94 : decode cX12_differs 94 = .ok (.aload 4, 2) := by decide +kernel
theorem dX12_differs_96 : decode cX12_differs 96 = .ok (.getfield 115, 3) := by decide +kernel
theorem dX12_differs_99 : decode cX12_differs 99 = .ok (.i2l, 1) := by decide +kernel
theorem dX12_differs_100 : decode cX12_differs 100 = .ok (.aload_n 0, 1) := by decide +kernel
theorem dX12_differs_101 : decode cX12_differs 101 = .ok (.getfield 28, 3) := by decide +kernel
theorem dX12_differs_104 : decode cX12_differs 104 = .ok (.iload_n 2, 1) := by decide +kernel
theorem dX12_differs_105 : decode cX12_differs 105 = .ok (.invokevirtual 105, 3) := by decide +kernel
theorem dX12_differs_108 : decode cX12_differs 108 = .ok (.checkcast 322, 3) := by decide +kernel
theorem dX12_differs_111 : decode cX12_differs 111 = .ok (.getfield 329, 3) := by decide +kernel
theorem dX12_differs_114 : decode cX12_differs 114 = .ok (.i2l, 1) := by decide +kernel
theorem dX12_differs_115 : decode cX12_differs 115 = .ok (.lmul, 1) := by decide +kernel
theorem dX12_differs_116 : decode cX12_differs 116 = .ok (.iload_n 3, 1) := by decide +kernel
theorem dX12_differs_117 : decode cX12_differs 117 = .ok (.invokevirtual 308, 3) := by decide +kernel
theorem dX12_differs_120 : decode cX12_differs 120 = .ok (.invokevirtual 178, 3) := by decide +kernel
theorem dX12_differs_123 : decode cX12_differs 123 = .ok (.ireturn, 1) := by decide +kernel
set_option maxRecDepth 20000 in
theorem ggX12_shoulder_X12_isGear : GoodIn wsX12_shoulder wsX12_isGear := goodIn_r _ [7, 8, 9, 10, 11, 12, 13, 14, 15, 16, 6, 17, 72, 73, 74, 75, 76, 77, 78, 79, 80, 81, 82, 83, 84, 85, 86, 87, 88, 89, 90, 91, 92, 93, 94, 95, 96, 97, 98, 99, 100, 101, 102, 103, 104, 105, 106, 107, 108] (by decide +kernel) (by decide +kernel)
set_option maxRecDepth 20000 in
theorem gX12_shoulder_X12_isGear : GoodIn wsX12_shoulder (wsV RX12 121 RX12 yX12_isGear wsX12_isGear) := goodIn_app (goodIn_of _ (by decide +kernel)) ggX12_shoulder_X12_isGear
set_option maxRecDepth 20000 in
theorem ggX12_shoulder_X12_fails : GoodIn wsX12_shoulder wsX12_fails := goodIn_r _ [21, 22, 72, 73, 74, 75, 76, 77, 78, 79, 80, 81, 82, 83, 84, 85, 86, 87, 88, 89, 90, 91, 92, 93, 94, 95, 96, 97, 98, 99, 100, 101, 102, 103, 104, 105] (by decide +kernel) (by decide +kernel)
set_option maxRecDepth 20000 in
theorem gX12_shoulder_X12_fails : GoodIn wsX12_shoulder (wsV RX12 143 RX12 yX12_fails wsX12_fails) := goodIn_app (goodIn_of _ (by decide +kernel)) ggX12_shoulder_X12_fails
set_option maxRecDepth 20000 in
theorem ggX12_shoulder_X12_in : GoodIn wsX12_shoulder wsX12_in := goodIn_r _ [17] (by decide +kernel) (by decide +kernel)
set_option maxRecDepth 20000 in
theorem gX12_shoulder_X12_in : GoodIn wsX12_shoulder (va_wsS RX12 101 yX12_in wsX12_in) := goodIn_app (goodIn_of _ (by decide +kernel)) ggX12_shoulder_X12_in
set_option maxRecDepth 20000 in
theorem ggX12_shoulder_X12_gearAt : GoodIn wsX12_shoulder wsX12_gearAt := goodIn_r _ [26, 8, 27, 28, 29, 30, 12, 31, 14, 32, 33, 34, 35, 36, 37, 38, 39, 40, 41, 42, 43, 44, 72, 73, 74, 75, 76, 77, 78, 79, 80, 81, 82, 83, 84, 85, 86, 87, 88, 89, 90, 91, 92, 93, 94, 95, 96, 97, 98, 99, 100, 101, 102, 103, 104, 105, 106, 107, 108] (by decide +kernel) (by decide +kernel)
set_option maxRecDepth 20000 in
theorem gX12_shoulder_X12_gearAt : GoodIn wsX12_shoulder (wsV RX12 111 RX12 yX12_gearAt wsX12_gearAt) := goodIn_app (goodIn_of _ (by decide +kernel)) ggX12_shoulder_X12_gearAt
set_option maxRecDepth 20000 in
theorem ggX12_shoulder_X12_answer : GoodIn wsX12_shoulder wsX12_answer := goodIn_r _ [48, 22, 72, 73, 74, 75, 76, 77, 78, 79, 80, 81, 82, 83, 84, 85, 86, 87, 88, 89, 90, 91, 92, 93, 94, 95, 96, 97, 98, 99, 100, 101, 102, 103, 104, 105] (by decide +kernel) (by decide +kernel)
set_option maxRecDepth 20000 in
theorem gX12_shoulder_X12_answer : GoodIn wsX12_shoulder (wsV RX12 153 RX12 yX12_answer wsX12_answer) := goodIn_app (goodIn_of _ (by decide +kernel)) ggX12_shoulder_X12_answer
theorem dX12_shoulder_0 : decode cX12_shoulder 0 = .ok (.aload_n 0, 1) := by decide +kernel
theorem dX12_shoulder_1 : decode cX12_shoulder 1 = .ok (.iload_n 1, 1) := by decide +kernel
theorem dX12_shoulder_2 : decode cX12_shoulder 2 = .ok (.invokevirtual 121, 3) := by decide +kernel
theorem dX12_shoulder_5 : decode cX12_shoulder 5 = .ok (.ifCond .ne 9, 3) := by decide +kernel
theorem dX12_shoulder_8 : decode cX12_shoulder 8 = .ok (.aload_n 0, 1) := by decide +kernel
theorem dX12_shoulder_9 : decode cX12_shoulder 9 = .ok (.iconst 1, 1) := by decide +kernel
theorem dX12_shoulder_10 : decode cX12_shoulder 10 = .ok (.invokevirtual 143, 3) := by decide +kernel
theorem dX12_shoulder_13 : decode cX12_shoulder 13 = .ok (.ireturn, 1) := by decide +kernel
theorem dX12_shoulder_14 : decode cX12_shoulder 14 = .ok (.iload_n 2, 1) := by decide +kernel
theorem dX12_shoulder_15 : decode cX12_shoulder 15 = .ok (.i2l, 1) := by decide +kernel
theorem dX12_shoulder_16 : decode cX12_shoulder 16 = .ok (.ldc2_w 335, 3) := by decide +kernel
theorem dX12_shoulder_19 : decode cX12_shoulder 19 = .ok (.ldc2_w 141, 3) := by decide +kernel
theorem dX12_shoulder_22 : decode cX12_shoulder 22 = .ok (.invokestatic 101, 3) := by decide +kernel
theorem dX12_shoulder_25 : decode cX12_shoulder 25 = .ok (.ifCond .ne 9, 3) := by decide +kernel
theorem dX12_shoulder_28 : decode cX12_shoulder 28 = .ok (.aload_n 0, 1) := by decide +kernel
theorem dX12_shoulder_29 : decode cX12_shoulder 29 = .ok (.iconst 2, 1) := by decide +kernel
theorem dX12_shoulder_30 : decode cX12_shoulder 30 = .ok (.invokevirtual 143, 3) := by decide +kernel
theorem dX12_shoulder_33 : decode cX12_shoulder 33 = .ok (.ireturn, 1) := by decide +kernel
theorem dX12_shoulder_34 : decode cX12_shoulder 34 = .ok (.aload_n 0, 1) := by decide +kernel
theorem dX12_shoulder_35 : decode cX12_shoulder 35 = .ok (.iload_n 1, 1) := by decide +kernel
theorem dX12_shoulder_36 : decode cX12_shoulder 36 = .ok (.invokevirtual 111, 3) := by decide +kernel
theorem dX12_shoulder_39 : decode cX12_shoulder 39 = .ok (.getfield 337, 3) := by decide +kernel
theorem dX12_shoulder_42 : decode cX12_shoulder 42 = .ok (.istore_n 3, 1) := by decide +kernel
theorem dX12_shoulder_43 : decode cX12_shoulder 43 = .ok (.aload_n 0, 1) := by decide +kernel
theorem dX12_shoulder_44 : decode cX12_shoulder 44 = .ok (.iload_n 1, 1) := by decide +kernel
theorem dX12_shoulder_45 : decode cX12_shoulder 45 = .ok (.invokevirtual 111, 3) := by decide +kernel
theorem dX12_shoulder_48 : decode cX12_shoulder 48 = .ok (.iload_n 2, 1) := by decide +kernel
theorem dX12_shoulder_49 : decode cX12_shoulder 49 = .ok (.putfield 337, 3) := by decide +kernel
theorem dX12_shoulder_52 : decode cX12_shoulder 52 = .ok (.aload_n 0, 1) := by decide +kernel
theorem dX12_shoulder_53 : decode cX12_shoulder 53 = .ok (.iload_n 3, 1) := by decide +kernel
theorem dX12_shoulder_54 : decode cX12_shoulder 54 = .ok (.invokevirtual 153, 3) := by decide +kernel
theorem dX12_shoulder_57 : decode cX12_shoulder 57 = .ok (.ireturn, 1) := by decide +kernel
set_option maxRecDepth 20000 in
theorem ggX12_approach_X12_isHob : GoodIn wsX12_approach wsX12_isHob := goodIn_r _ [7, 1, 8, 9, 10, 11, 12, 13, 14, 15, 6, 16, 56, 57, 58, 59, 60, 61, 62, 63, 64, 65, 66, 67, 68, 69, 70, 71, 72, 73, 74, 75, 76, 77, 78, 79, 80, 81, 82, 83, 84, 85, 86, 87, 88, 89, 90, 91, 92] (by decide +kernel) (by decide +kernel)
set_option maxRecDepth 20000 in
theorem gX12_approach_X12_isHob : GoodIn wsX12_approach (wsV RX12 326 RX12 yX12_isHob wsX12_isHob) := goodIn_app (goodIn_of _ (by decide +kernel)) ggX12_approach_X12_isHob
set_option maxRecDepth 20000 in
theorem ggX12_approach_Jx4a65c_get_915e3 : GoodIn wsX12_approach wsJx4a65c_get_915e3 := goodIn_r _ [20, 13, 21, 22, 23, 24, 25, 26, 27, 28, 29, 30, 31, 11, 32, 33, 90, 91, 92] (by decide +kernel) (by decide +kernel)
set_option maxRecDepth 20000 in
theorem gX12_approach_Jx4a65c_get_915e3 : GoodIn wsX12_approach (wsV RX12 105 RJx4a65c yJx4a65c_get_915e3 wsJx4a65c_get_915e3) := goodIn_app (goodIn_of _ (by decide +kernel)) ggX12_approach_Jx4a65c_get_915e3
set_option maxRecDepth 20000 in
theorem ggX12_approach_X11_approach : GoodIn wsX12_approach wsX11_approach := goodIn_r _ [38, 39, 40, 41, 42, 43, 6, 44, 45, 46, 93, 94, 95, 96, 97, 98, 99] (by decide +kernel) (by decide +kernel)
set_option maxRecDepth 20000 in
theorem gX12_approach_X11_approach : GoodIn wsX12_approach (wsV RX12 340 RX11 yX11_approach wsX11_approach) := goodIn_app (goodIn_of _ (by decide +kernel)) ggX12_approach_X11_approach
set_option maxRecDepth 20000 in
theorem ggX12_approach_X12_answer : GoodIn wsX12_approach wsX12_answer := goodIn_r _ [50, 51, 56, 57, 58, 59, 60, 61, 62, 63, 64, 65, 66, 67, 68, 69, 70, 71, 72, 73, 74, 75, 76, 77, 78, 79, 80, 81, 82, 83, 84, 85, 86, 87, 88, 89] (by decide +kernel) (by decide +kernel)
set_option maxRecDepth 20000 in
theorem gX12_approach_X12_answer : GoodIn wsX12_approach (wsV RX12 153 RX12 yX12_answer wsX12_answer) := goodIn_app (goodIn_of _ (by decide +kernel)) ggX12_approach_X12_answer
set_option maxRecDepth 20000 in
theorem ggX12_approach_X12_fails : GoodIn wsX12_approach wsX12_fails := goodIn_r _ [55, 51, 56, 57, 58, 59, 60, 61, 62, 63, 64, 65, 66, 67, 68, 69, 70, 71, 72, 73, 74, 75, 76, 77, 78, 79, 80, 81, 82, 83, 84, 85, 86, 87, 88, 89] (by decide +kernel) (by decide +kernel)
set_option maxRecDepth 20000 in
theorem gX12_approach_X12_fails : GoodIn wsX12_approach (wsV RX12 143 RX12 yX12_fails wsX12_fails) := goodIn_app (goodIn_of _ (by decide +kernel)) ggX12_approach_X12_fails
theorem dX12_approach_0 : decode cX12_approach 0 = .ok (.aload_n 0, 1) := by decide +kernel
theorem dX12_approach_1 : decode cX12_approach 1 = .ok (.iload_n 1, 1) := by decide +kernel
theorem dX12_approach_2 : decode cX12_approach 2 = .ok (.invokevirtual 326, 3) := by decide +kernel
theorem dX12_approach_5 : decode cX12_approach 5 = .ok (.ifCond .eq 24, 3) := by decide +kernel
theorem dX12_approach_8 : decode cX12_approach 8 = .ok (.aload_n 0, 1) := by decide +kernel
theorem dX12_approach_9 : decode cX12_approach 9 = .ok (.aload_n 0, 1) := by decide +kernel
theorem dX12_approach_10 : decode cX12_approach 10 = .ok (.getfield 28, 3) := by decide +kernel
theorem dX12_approach_13 : decode cX12_approach 13 = .ok (.iload_n 1, 1) := by decide +kernel
theorem dX12_approach_14 : decode cX12_approach 14 = .ok (.invokevirtual 105, 3) := by decide +kernel
theorem dX12_approach_17 : decode cX12_approach 17 = .ok (.checkcast 322, 3) := by decide +kernel
theorem dX12_approach_20 : decode cX12_approach 20 = .ok (.invokevirtual 340, 3) := by decide +kernel
theorem dX12_approach_23 : decode cX12_approach 23 = .ok (.invokevirtual 153, 3) := by decide +kernel
theorem dX12_approach_26 : decode cX12_approach 26 = .ok (.goto 8, 3) := by decide +kernel
theorem dX12_approach_29 : decode cX12_approach 29 = .ok (.aload_n 0, 1) := by decide +kernel
theorem dX12_approach_30 : decode cX12_approach 30 = .ok (.iconst 1, 1) := by decide +kernel
theorem dX12_approach_31 : decode cX12_approach 31 = .ok (.invokevirtual 143, 3) := by decide +kernel
theorem dX12_approach_34 : decode cX12_approach 34 = .ok (.ireturn, 1) := by decide +kernel
set_option maxRecDepth 20000 in
theorem ggX12_cut_X12_isGear : GoodIn wsX12_cut wsX12_isGear := goodIn_r _ [8, 9, 10, 11, 12, 13, 14, 15, 16, 17, 7, 18, 74, 75, 76, 77, 78, 79, 80, 81, 82, 83, 84, 85, 86, 87, 88, 89, 90, 91, 92, 93, 94, 95, 96, 97, 98, 99, 100, 101, 102, 103, 104, 105, 106, 107, 138, 139, 140] (by decide +kernel) (by decide +kernel)
set_option maxRecDepth 20000 in
theorem gX12_cut_X12_isGear : GoodIn wsX12_cut (wsV RX12 121 RX12 yX12_isGear wsX12_isGear) := goodIn_app (goodIn_of _ (by decide +kernel)) ggX12_cut_X12_isGear
set_option maxRecDepth 20000 in
theorem ggX12_cut_X12_isHob : GoodIn wsX12_cut wsX12_isHob := goodIn_r _ [22, 2, 10, 11, 12, 13, 14, 15, 16, 17, 7, 18, 74, 75, 76, 77, 78, 79, 80, 81, 82, 83, 84, 85, 86, 87, 88, 89, 90, 91, 92, 93, 94, 95, 96, 97, 98, 99, 100, 101, 102, 103, 104, 105, 106, 107, 138, 139, 140] (by decide +kernel) (by decide +kernel)
set_option maxRecDepth 20000 in
theorem gX12_cut_X12_isHob : GoodIn wsX12_cut (wsV RX12 326 RX12 yX12_isHob wsX12_isHob) := goodIn_app (goodIn_of _ (by decide +kernel)) ggX12_cut_X12_isHob
set_option maxRecDepth 20000 in
theorem ggX12_cut_X12_fails : GoodIn wsX12_cut wsX12_fails := goodIn_r _ [26, 27, 74, 75, 76, 77, 78, 79, 80, 81, 82, 83, 84, 85, 86, 87, 88, 89, 90, 91, 92, 93, 94, 95, 96, 97, 98, 99, 100, 101, 102, 103, 104, 105, 106, 107] (by decide +kernel) (by decide +kernel)
set_option maxRecDepth 20000 in
theorem gX12_cut_X12_fails : GoodIn wsX12_cut (wsV RX12 143 RX12 yX12_fails wsX12_fails) := goodIn_app (goodIn_of _ (by decide +kernel)) ggX12_cut_X12_fails
set_option maxRecDepth 20000 in
theorem ggX12_cut_X12_in : GoodIn wsX12_cut wsX12_in := goodIn_r _ [18] (by decide +kernel) (by decide +kernel)
set_option maxRecDepth 20000 in
theorem gX12_cut_X12_in : GoodIn wsX12_cut (va_wsS RX12 101 yX12_in wsX12_in) := goodIn_app (goodIn_of _ (by decide +kernel)) ggX12_cut_X12_in
set_option maxRecDepth 20000 in
theorem ggX12_cut_X12_gearAt : GoodIn wsX12_cut wsX12_gearAt := goodIn_r _ [31, 9, 32, 33, 34, 35, 13, 36, 15, 37, 38, 39, 40, 41, 42, 43, 44, 45, 46, 47, 48, 49, 74, 75, 76, 77, 78, 79, 80, 81, 82, 83, 84, 85, 86, 87, 88, 89, 90, 91, 92, 93, 94, 95, 96, 97, 98, 99, 100, 101, 102, 103, 104, 105, 106, 107, 138, 139, 140] (by decide +kernel) (by decide +kernel)
set_option maxRecDepth 20000 in
theorem gX12_cut_X12_gearAt : GoodIn wsX12_cut (wsV RX12 111 RX12 yX12_gearAt wsX12_gearAt) := goodIn_app (goodIn_of _ (by decide +kernel)) ggX12_cut_X12_gearAt
set_option maxRecDepth 20000 in
theorem ggX12_cut_Jx4a65c_get_915e3 : GoodIn wsX12_cut wsJx4a65c_get_915e3 := goodIn_r _ [36, 15, 37, 38, 39, 40, 41, 42, 43, 44, 45, 46, 47, 13, 48, 49, 138, 139, 140] (by decide +kernel) (by decide +kernel)
set_option maxRecDepth 20000 in
theorem gX12_cut_Jx4a65c_get_915e3 : GoodIn wsX12_cut (wsV RX12 105 RJx4a65c yJx4a65c_get_915e3 wsJx4a65c_get_915e3) := goodIn_app (goodIn_of _ (by decide +kernel)) ggX12_cut_Jx4a65c_get_915e3
set_option maxRecDepth 20000 in
theorem ggX12_cut_X11_canCut : GoodIn wsX12_cut wsX11_canCut := goodIn_ca (goodIn_r _ [54, 55, 56, 57, 58, 59, 60, 61, 53, 62, 63, 64, 65, 66, 7, 67, 68, 69, 131, 132, 133, 134, 135, 136, 137, 108, 109, 110, 111, 112, 113, 114, 115, 116, 117, 118, 119, 120, 121, 122, 123, 124, 125, 126, 127, 128, 129, 130] (by decide +kernel) (by decide +kernel)) (goodIn_sub (fun _ h => List.mem_cons_of_mem _ (List.mem_append_left _ (List.mem_append_right _ h))) (by decide +kernel))
set_option maxRecDepth 20000 in
theorem gX12_cut_X11_canCut : GoodIn wsX12_cut (wsV RX12 343 RX11 yX11_canCut wsX11_canCut) := goodIn_app (goodIn_of _ (by decide +kernel)) ggX12_cut_X11_canCut
set_option maxRecDepth 20000 in
theorem ggX12_cut_X12_answer : GoodIn wsX12_cut wsX12_answer := goodIn_r _ [73, 27, 74, 75, 76, 77, 78, 79, 80, 81, 82, 83, 84, 85, 86, 87, 88, 89, 90, 91, 92, 93, 94, 95, 96, 97, 98, 99, 100, 101, 102, 103, 104, 105, 106, 107] (by decide +kernel) (by decide +kernel)
set_option maxRecDepth 20000 in
theorem gX12_cut_X12_answer : GoodIn wsX12_cut (wsV RX12 153 RX12 yX12_answer wsX12_answer) := goodIn_app (goodIn_of _ (by decide +kernel)) ggX12_cut_X12_answer
theorem dX12_cut_0 : decode cX12_cut 0 = .ok (.aload_n 0, 1) := by decide +kernel
theorem dX12_cut_1 : decode cX12_cut 1 = .ok (.iload_n 1, 1) := by decide +kernel
theorem dX12_cut_2 : decode cX12_cut 2 = .ok (.invokevirtual 121, 3) := by decide +kernel
theorem dX12_cut_5 : decode cX12_cut 5 = .ok (.ifCond .eq 11, 3) := by decide +kernel
theorem dX12_cut_8 : decode cX12_cut 8 = .ok (.aload_n 0, 1) := by decide +kernel
theorem dX12_cut_9 : decode cX12_cut 9 = .ok (.iload_n 2, 1) := by decide +kernel
theorem dX12_cut_10 : decode cX12_cut 10 = .ok (.invokevirtual 326, 3) := by decide +kernel
theorem dX12_cut_13 : decode cX12_cut 13 = .ok (.ifCond .ne 9, 3) := by decide +kernel
theorem dX12_cut_16 : decode cX12_cut 16 = .ok (.aload_n 0, 1) := by decide +kernel
theorem dX12_cut_17 : decode cX12_cut 17 = .ok (.iconst 1, 1) := by decide +kernel
theorem dX12_cut_18 : decode cX12_cut 18 = .ok (.invokevirtual 143, 3) := by decide +kernel
theorem dX12_cut_21 : decode cX12_cut 21 = .ok (.ireturn, 1) := by decide +kernel
theorem dX12_cut_22 : decode cX12_cut 22 = .ok (.iload_n 3, 1) := by decide +kernel
theorem dX12_cut_23 : decode cX12_cut 23 = .ok (.i2l, 1) := by decide +kernel
theorem dX12_cut_24 : decode cX12_cut 24 = .ok (.lconst 0, 1) := by decide +kernel
theorem dX12_cut_25 : decode cX12_cut 25 = .ok (.ldc2_w 133, 3) := by decide +kernel
theorem dX12_cut_28 : decode cX12_cut 28 = .ok (.invokestatic 101, 3) := by decide +kernel
theorem dX12_cut_31 : decode cX12_cut 31 = .ok (.ifCond .ne 9, 3) := by decide +kernel
theorem dX12_cut_34 : decode cX12_cut 34 = .ok (.aload_n 0, 1) := by decide +kernel
theorem dX12_cut_35 : decode cX12_cut 35 = .ok (.iconst 2, 1) := by decide +kernel
theorem dX12_cut_36 : decode cX12_cut 36 = .ok (.invokevirtual 143, 3) := by decide +kernel
theorem dX12_cut_39 : decode cX12_cut 39 = .ok (.ireturn, 1) := by decide +kernel
theorem dX12_cut_40 : decode cX12_cut 40 = .ok (.aload_n 0, 1) := by decide +kernel
theorem dX12_cut_41 : decode cX12_cut 41 = .ok (.iload_n 1, 1) := by decide +kernel
theorem dX12_cut_42 : decode cX12_cut 42 = .ok (.invokevirtual 111, 3) := by decide +kernel
theorem dX12_cut_45 : decode cX12_cut 45 = .ok (.astore 4, 2) := by decide +kernel
theorem dX12_cut_47 : decode cX12_cut 47 = .ok (.aload_n 0, 1) := by decide +kernel
theorem dX12_cut_48 : decode cX12_cut 48 = .ok (.getfield 28, 3) := by decide +kernel
theorem dX12_cut_51 : decode cX12_cut 51 = .ok (.iload_n 2, 1) := by decide +kernel
theorem dX12_cut_52 : decode cX12_cut 52 = .ok (.invokevirtual 105, 3) := by decide +kernel
theorem dX12_cut_55 : decode cX12_cut 55 = .ok (.checkcast 322, 3) := by decide +kernel
theorem dX12_cut_58 : decode cX12_cut 58 = .ok (.astore 5, 2) := by decide +kernel
theorem dX12_cut_60 : decode cX12_cut 60 = .ok (.aload 4, 2) := by decide +kernel
theorem dX12_cut_62 : decode cX12_cut 62 = .ok (.getfield 160, 3) := by decide +kernel
theorem dX12_cut_65 : decode cX12_cut 65 = .ok (.ifCond .ne 13, 3) := by decide +kernel
theorem dX12_cut_68 : decode cX12_cut 68 = .ok (.aload 5, 2) := by decide +kernel
theorem dX12_cut_70 : decode cX12_cut 70 = .ok (.aload 4, 2) := by decide +kernel
theorem dX12_cut_72 : decode cX12_cut 72 = .ok (.invokevirtual 343, 3) := by decide +kernel
theorem dX12_cut_75 : decode cX12_cut 75 = .ok (.ifCond .ne 9, 3) := by decide +kernel
theorem dX12_cut_78 : decode cX12_cut 78 = .ok (.aload_n 0, 1) := by decide +kernel
theorem dX12_cut_79 : decode cX12_cut 79 = .ok (.iconst 3, 1) := by decide +kernel
theorem dX12_cut_80 : decode cX12_cut 80 = .ok (.invokevirtual 143, 3) := by decide +kernel
theorem dX12_cut_83 : decode cX12_cut 83 = .ok (.ireturn, 1) := by decide +kernel
theorem dX12_cut_84 : decode cX12_cut 84 = .ok (.aload 5, 2) := by decide +kernel
theorem dX12_cut_86 : decode cX12_cut 86 = .ok (.getfield 347, 3) := by decide +kernel
theorem dX12_cut_89 : decode cX12_cut 89 = .ok (.istore 6, 2) := by decide +kernel
theorem dX12_cut_91 : decode cX12_cut 91 = .ok (.aload 5, 2) := by decide +kernel
theorem dX12_cut_93 : decode cX12_cut 93 = .ok (.getfield 350, 3) := by decide +kernel
theorem dX12_cut_96 : decode cX12_cut 96 = .ok (.iload 6, 2) := by decide +kernel
theorem dX12_cut_98 : decode cX12_cut 98 = .ok (.dup2, 1) := by decide +kernel
theorem dX12_cut_99 : decode cX12_cut 99 = .ok (.iaload, 1) := by decide +kernel
theorem dX12_cut_100 : decode cX12_cut 100 = .ok (.aload 4, 2) := by decide +kernel
theorem dX12_cut_102 : decode cX12_cut 102 = .ok (.getfield 332, 3) := by decide +kernel
theorem dX12_cut_105 : decode cX12_cut 105 = .ok (.aload 5, 2) := by decide +kernel
theorem dX12_cut_107 : decode cX12_cut 107 = .ok (.getfield 329, 3) := by decide +kernel
theorem dX12_cut_110 : decode cX12_cut 110 = .ok (.idiv, 1) := by decide +kernel
theorem dX12_cut_111 : decode cX12_cut 111 = .ok (.iadd, 1) := by decide +kernel
theorem dX12_cut_112 : decode cX12_cut 112 = .ok (.iastore, 1) := by decide +kernel
theorem dX12_cut_113 : decode cX12_cut 113 = .ok (.aload 5, 2) := by decide +kernel
theorem dX12_cut_115 : decode cX12_cut 115 = .ok (.iload 6, 2) := by decide +kernel
theorem dX12_cut_117 : decode cX12_cut 117 = .ok (.iconst 1, 1) := by decide +kernel
theorem dX12_cut_118 : decode cX12_cut 118 = .ok (.iadd, 1) := by decide +kernel
theorem dX12_cut_119 : decode cX12_cut 119 = .ok (.aload 5, 2) := by decide +kernel
theorem dX12_cut_121 : decode cX12_cut 121 = .ok (.getfield 353, 3) := by decide +kernel
theorem dX12_cut_124 : decode cX12_cut 124 = .ok (.irem, 1) := by decide +kernel
theorem dX12_cut_125 : decode cX12_cut 125 = .ok (.putfield 347, 3) := by decide +kernel
theorem dX12_cut_128 : decode cX12_cut 128 = .ok (.aload 4, 2) := by decide +kernel
theorem dX12_cut_130 : decode cX12_cut 130 = .ok (.iconst 1, 1) := by decide +kernel
theorem dX12_cut_131 : decode cX12_cut 131 = .ok (.putfield 160, 3) := by decide +kernel
theorem dX12_cut_134 : decode cX12_cut 134 = .ok (.aload 4, 2) := by decide +kernel
theorem dX12_cut_136 : decode cX12_cut 136 = .ok (.iload_n 3, 1) := by decide +kernel
theorem dX12_cut_137 : decode cX12_cut 137 = .ok (.putfield 356, 3) := by decide +kernel
theorem dX12_cut_140 : decode cX12_cut 140 = .ok (.aload 4, 2) := by decide +kernel
theorem dX12_cut_142 : decode cX12_cut 142 = .ok (.aload 5, 2) := by decide +kernel
theorem dX12_cut_144 : decode cX12_cut 144 = .ok (.getfield 359, 3) := by decide +kernel
theorem dX12_cut_147 : decode cX12_cut 147 = .ok (.putfield 362, 3) := by decide +kernel
theorem dX12_cut_150 : decode cX12_cut 150 = .ok (.aload 4, 2) := by decide +kernel
theorem dX12_cut_152 : decode cX12_cut 152 = .ok (.aload 5, 2) := by decide +kernel
theorem dX12_cut_154 : decode cX12_cut 154 = .ok (.getfield 329, 3) := by decide +kernel
theorem dX12_cut_157 : decode cX12_cut 157 = .ok (.putfield 365, 3) := by decide +kernel
theorem dX12_cut_160 : decode cX12_cut 160 = .ok (.aload_n 0, 1) := by decide +kernel
theorem dX12_cut_161 : decode cX12_cut 161 = .ok (.iload 6, 2) := by decide +kernel
theorem dX12_cut_163 : decode cX12_cut 163 = .ok (.invokevirtual 153, 3) := by decide +kernel
theorem dX12_cut_166 : decode cX12_cut 166 = .ok (.ireturn, 1) := by decide +kernel
set_option maxRecDepth 20000 in
theorem ggX12_wear_X12_isHob : GoodIn wsX12_wear wsX12_isHob := goodIn_r _ [7, 1, 8, 9, 10, 11, 12, 13, 14, 15, 6, 16, 43, 44, 45, 46, 47, 48, 49, 50, 51, 52, 53, 54, 55, 56, 57, 58, 59, 60, 61, 62, 63, 64, 65, 66, 67, 68, 69, 70, 71, 72, 73, 74, 75, 76, 84, 85, 86] (by decide +kernel) (by decide +kernel)
set_option maxRecDepth 20000 in
theorem gX12_wear_X12_isHob : GoodIn wsX12_wear (wsV RX12 326 RX12 yX12_isHob wsX12_isHob) := goodIn_app (goodIn_of _ (by decide +kernel)) ggX12_wear_X12_isHob
set_option maxRecDepth 20000 in
theorem ggX12_wear_Jx4a65c_get_915e3 : GoodIn wsX12_wear wsJx4a65c_get_915e3 := goodIn_r _ [20, 13, 21, 22, 23, 24, 25, 26, 27, 28, 29, 30, 31, 11, 32, 33, 84, 85, 86] (by decide +kernel) (by decide +kernel)
set_option maxRecDepth 20000 in
theorem gX12_wear_Jx4a65c_get_915e3 : GoodIn wsX12_wear (wsV RX12 105 RJx4a65c yJx4a65c_get_915e3 wsJx4a65c_get_915e3) := goodIn_app (goodIn_of _ (by decide +kernel)) ggX12_wear_Jx4a65c_get_915e3
set_option maxRecDepth 20000 in
theorem ggX12_wear_X12_in : GoodIn wsX12_wear wsX12_in := goodIn_r _ [16] (by decide +kernel) (by decide +kernel)
set_option maxRecDepth 20000 in
theorem gX12_wear_X12_in : GoodIn wsX12_wear (va_wsS RX12 101 yX12_in wsX12_in) := goodIn_app (goodIn_of _ (by decide +kernel)) ggX12_wear_X12_in
set_option maxRecDepth 20000 in
theorem ggX12_wear_X12_answer : GoodIn wsX12_wear wsX12_answer := goodIn_r _ [37, 38, 43, 44, 45, 46, 47, 48, 49, 50, 51, 52, 53, 54, 55, 56, 57, 58, 59, 60, 61, 62, 63, 64, 65, 66, 67, 68, 69, 70, 71, 72, 73, 74, 75, 76] (by decide +kernel) (by decide +kernel)
set_option maxRecDepth 20000 in
theorem gX12_wear_X12_answer : GoodIn wsX12_wear (wsV RX12 153 RX12 yX12_answer wsX12_answer) := goodIn_app (goodIn_of _ (by decide +kernel)) ggX12_wear_X12_answer
set_option maxRecDepth 20000 in
theorem ggX12_wear_X12_fails : GoodIn wsX12_wear wsX12_fails := goodIn_r _ [42, 38, 43, 44, 45, 46, 47, 48, 49, 50, 51, 52, 53, 54, 55, 56, 57, 58, 59, 60, 61, 62, 63, 64, 65, 66, 67, 68, 69, 70, 71, 72, 73, 74, 75, 76] (by decide +kernel) (by decide +kernel)
set_option maxRecDepth 20000 in
theorem gX12_wear_X12_fails : GoodIn wsX12_wear (wsV RX12 143 RX12 yX12_fails wsX12_fails) := goodIn_app (goodIn_of _ (by decide +kernel)) ggX12_wear_X12_fails
theorem dX12_wear_0 : decode cX12_wear 0 = .ok (.aload_n 0, 1) := by decide +kernel
theorem dX12_wear_1 : decode cX12_wear 1 = .ok (.iload_n 1, 1) := by decide +kernel
theorem dX12_wear_2 : decode cX12_wear 2 = .ok (.invokevirtual 326, 3) := by decide +kernel
theorem dX12_wear_5 : decode cX12_wear 5 = .ok (.ifCond .eq 52, 3) := by decide +kernel
theorem dX12_wear_8 : decode cX12_wear 8 = .ok (.iload_n 2, 1) := by decide +kernel
theorem dX12_wear_9 : decode cX12_wear 9 = .ok (.i2l, 1) := by decide +kernel
theorem dX12_wear_10 : decode cX12_wear 10 = .ok (.lconst 0, 1) := by decide +kernel
theorem dX12_wear_11 : decode cX12_wear 11 = .ok (.aload_n 0, 1) := by decide +kernel
theorem dX12_wear_12 : decode cX12_wear 12 = .ok (.getfield 28, 3) := by decide +kernel
theorem dX12_wear_15 : decode cX12_wear 15 = .ok (.iload_n 1, 1) := by decide +kernel
theorem dX12_wear_16 : decode cX12_wear 16 = .ok (.invokevirtual 105, 3) := by decide +kernel
theorem dX12_wear_19 : decode cX12_wear 19 = .ok (.checkcast 322, 3) := by decide +kernel
theorem dX12_wear_22 : decode cX12_wear 22 = .ok (.getfield 353, 3) := by decide +kernel
theorem dX12_wear_25 : decode cX12_wear 25 = .ok (.iconst 1, 1) := by decide +kernel
theorem dX12_wear_26 : decode cX12_wear 26 = .ok (.isub, 1) := by decide +kernel
theorem dX12_wear_27 : decode cX12_wear 27 = .ok (.i2l, 1) := by decide +kernel
theorem dX12_wear_28 : decode cX12_wear 28 = .ok (.invokestatic 101, 3) := by decide +kernel
theorem dX12_wear_31 : decode cX12_wear 31 = .ok (.ifCond .eq 26, 3) := by decide +kernel
theorem dX12_wear_34 : decode cX12_wear 34 = .ok (.aload_n 0, 1) := by decide +kernel
theorem dX12_wear_35 : decode cX12_wear 35 = .ok (.aload_n 0, 1) := by decide +kernel
theorem dX12_wear_36 : decode cX12_wear 36 = .ok (.getfield 28, 3) := by decide +kernel
theorem dX12_wear_39 : decode cX12_wear 39 = .ok (.iload_n 1, 1) := by decide +kernel
theorem dX12_wear_40 : decode cX12_wear 40 = .ok (.invokevirtual 105, 3) := by decide +kernel
theorem dX12_wear_43 : decode cX12_wear 43 = .ok (.checkcast 322, 3) := by decide +kernel
theorem dX12_wear_46 : decode cX12_wear 46 = .ok (.getfield 350, 3) := by decide +kernel
theorem dX12_wear_49 : decode cX12_wear 49 = .ok (.iload_n 2, 1) := by decide +kernel
theorem dX12_wear_50 : decode cX12_wear 50 = .ok (.iaload, 1) := by decide +kernel
theorem dX12_wear_51 : decode cX12_wear 51 = .ok (.invokevirtual 153, 3) := by decide +kernel
theorem dX12_wear_54 : decode cX12_wear 54 = .ok (.goto 8, 3) := by decide +kernel
theorem dX12_wear_57 : decode cX12_wear 57 = .ok (.aload_n 0, 1) := by decide +kernel
theorem dX12_wear_58 : decode cX12_wear 58 = .ok (.iconst 1, 1) := by decide +kernel
theorem dX12_wear_59 : decode cX12_wear 59 = .ok (.invokevirtual 143, 3) := by decide +kernel
theorem dX12_wear_62 : decode cX12_wear 62 = .ok (.ireturn, 1) := by decide +kernel
set_option maxRecDepth 20000 in
theorem ggX12_regrind_X12_isHob : GoodIn wsX12_regrind wsX12_isHob := goodIn_r _ [7, 1, 8, 9, 10, 11, 12, 13, 14, 15, 6, 16, 43, 44, 45, 46, 47, 48, 49, 50, 51, 52, 53, 54, 55, 56, 57, 58, 59, 60, 61, 62, 63, 64, 65, 66, 67, 68, 69, 70, 71, 72, 73, 74, 75, 76, 84, 85, 86] (by decide +kernel) (by decide +kernel)
set_option maxRecDepth 20000 in
theorem gX12_regrind_X12_isHob : GoodIn wsX12_regrind (wsV RX12 326 RX12 yX12_isHob wsX12_isHob) := goodIn_app (goodIn_of _ (by decide +kernel)) ggX12_regrind_X12_isHob
set_option maxRecDepth 20000 in
theorem ggX12_regrind_X12_fails : GoodIn wsX12_regrind wsX12_fails := goodIn_r _ [20, 21, 43, 44, 45, 46, 47, 48, 49, 50, 51, 52, 53, 54, 55, 56, 57, 58, 59, 60, 61, 62, 63, 64, 65, 66, 67, 68, 69, 70, 71, 72, 73, 74, 75, 76] (by decide +kernel) (by decide +kernel)
set_option maxRecDepth 20000 in
theorem gX12_regrind_X12_fails : GoodIn wsX12_regrind (wsV RX12 143 RX12 yX12_fails wsX12_fails) := goodIn_app (goodIn_of _ (by decide +kernel)) ggX12_regrind_X12_fails
set_option maxRecDepth 20000 in
theorem ggX12_regrind_Jx4a65c_get_915e3 : GoodIn wsX12_regrind wsJx4a65c_get_915e3 := goodIn_r _ [25, 13, 26, 27, 28, 29, 30, 31, 32, 33, 34, 35, 36, 11, 37, 38, 84, 85, 86] (by decide +kernel) (by decide +kernel)
set_option maxRecDepth 20000 in
theorem gX12_regrind_Jx4a65c_get_915e3 : GoodIn wsX12_regrind (wsV RX12 105 RJx4a65c yJx4a65c_get_915e3 wsJx4a65c_get_915e3) := goodIn_app (goodIn_of _ (by decide +kernel)) ggX12_regrind_Jx4a65c_get_915e3
set_option maxRecDepth 20000 in
theorem ggX12_regrind_X12_answer : GoodIn wsX12_regrind wsX12_answer := goodIn_r _ [42, 21, 43, 44, 45, 46, 47, 48, 49, 50, 51, 52, 53, 54, 55, 56, 57, 58, 59, 60, 61, 62, 63, 64, 65, 66, 67, 68, 69, 70, 71, 72, 73, 74, 75, 76] (by decide +kernel) (by decide +kernel)
set_option maxRecDepth 20000 in
theorem gX12_regrind_X12_answer : GoodIn wsX12_regrind (wsV RX12 153 RX12 yX12_answer wsX12_answer) := goodIn_app (goodIn_of _ (by decide +kernel)) ggX12_regrind_X12_answer
theorem dX12_regrind_0 : decode cX12_regrind 0 = .ok (.aload_n 0, 1) := by decide +kernel
theorem dX12_regrind_1 : decode cX12_regrind 1 = .ok (.iload_n 1, 1) := by decide +kernel
theorem dX12_regrind_2 : decode cX12_regrind 2 = .ok (.invokevirtual 326, 3) := by decide +kernel
theorem dX12_regrind_5 : decode cX12_regrind 5 = .ok (.ifCond .ne 9, 3) := by decide +kernel
theorem dX12_regrind_8 : decode cX12_regrind 8 = .ok (.aload_n 0, 1) := by decide +kernel
theorem dX12_regrind_9 : decode cX12_regrind 9 = .ok (.iconst 1, 1) := by decide +kernel
theorem dX12_regrind_10 : decode cX12_regrind 10 = .ok (.invokevirtual 143, 3) := by decide +kernel
theorem dX12_regrind_13 : decode cX12_regrind 13 = .ok (.ireturn, 1) := by decide +kernel
theorem dX12_regrind_14 : decode cX12_regrind 14 = .ok (.aload_n 0, 1) := by decide +kernel
theorem dX12_regrind_15 : decode cX12_regrind 15 = .ok (.getfield 28, 3) := by decide +kernel
theorem dX12_regrind_18 : decode cX12_regrind 18 = .ok (.iload_n 1, 1) := by decide +kernel
theorem dX12_regrind_19 : decode cX12_regrind 19 = .ok (.invokevirtual 105, 3) := by decide +kernel
theorem dX12_regrind_22 : decode cX12_regrind 22 = .ok (.checkcast 322, 3) := by decide +kernel
theorem dX12_regrind_25 : decode cX12_regrind 25 = .ok (.astore_n 2, 1) := by decide +kernel
theorem dX12_regrind_26 : decode cX12_regrind 26 = .ok (.aload_n 2, 1) := by decide +kernel
theorem dX12_regrind_27 : decode cX12_regrind 27 = .ok (.getfield 359, 3) := by decide +kernel
theorem dX12_regrind_30 : decode cX12_regrind 30 = .ok (.bipush 8, 2) := by decide +kernel
theorem dX12_regrind_32 : decode cX12_regrind 32 = .ok (.if_icmp .eq 13, 3) := by decide +kernel
theorem dX12_regrind_35 : decode cX12_regrind 35 = .ok (.aload_n 2, 1) := by decide +kernel
theorem dX12_regrind_36 : decode cX12_regrind 36 = .ok (.getfield 366, 3) := by decide +kernel
theorem dX12_regrind_39 : decode cX12_regrind 39 = .ok (.sipush 20100, 3) := by decide +kernel
theorem dX12_regrind_42 : decode cX12_regrind 42 = .ok (.if_icmp .ge 9, 3) := by decide +kernel
theorem dX12_regrind_45 : decode cX12_regrind 45 = .ok (.aload_n 0, 1) := by decide +kernel
theorem dX12_regrind_46 : decode cX12_regrind 46 = .ok (.iconst 2, 1) := by decide +kernel
theorem dX12_regrind_47 : decode cX12_regrind 47 = .ok (.invokevirtual 143, 3) := by decide +kernel
theorem dX12_regrind_50 : decode cX12_regrind 50 = .ok (.ireturn, 1) := by decide +kernel
theorem dX12_regrind_51 : decode cX12_regrind 51 = .ok (.aload_n 2, 1) := by decide +kernel
theorem dX12_regrind_52 : decode cX12_regrind 52 = .ok (.dup, 1) := by decide +kernel
theorem dX12_regrind_53 : decode cX12_regrind 53 = .ok (.getfield 366, 3) := by decide +kernel
theorem dX12_regrind_56 : decode cX12_regrind 56 = .ok (.bipush 100, 2) := by decide +kernel
theorem dX12_regrind_58 : decode cX12_regrind 58 = .ok (.isub, 1) := by decide +kernel
theorem dX12_regrind_59 : decode cX12_regrind 59 = .ok (.putfield 366, 3) := by decide +kernel
theorem dX12_regrind_62 : decode cX12_regrind 62 = .ok (.aload_n 2, 1) := by decide +kernel
theorem dX12_regrind_63 : decode cX12_regrind 63 = .ok (.dup, 1) := by decide +kernel
theorem dX12_regrind_64 : decode cX12_regrind 64 = .ok (.getfield 359, 3) := by decide +kernel
theorem dX12_regrind_67 : decode cX12_regrind 67 = .ok (.iconst 1, 1) := by decide +kernel
theorem dX12_regrind_68 : decode cX12_regrind 68 = .ok (.iadd, 1) := by decide +kernel
theorem dX12_regrind_69 : decode cX12_regrind 69 = .ok (.putfield 359, 3) := by decide +kernel
theorem dX12_regrind_72 : decode cX12_regrind 72 = .ok (.iconst 0, 1) := by decide +kernel
theorem dX12_regrind_73 : decode cX12_regrind 73 = .ok (.istore_n 3, 1) := by decide +kernel
theorem dX12_regrind_74 : decode cX12_regrind 74 = .ok (.iload_n 3, 1) := by decide +kernel
theorem dX12_regrind_75 : decode cX12_regrind 75 = .ok (.aload_n 2, 1) := by decide +kernel
theorem dX12_regrind_76 : decode cX12_regrind 76 = .ok (.getfield 353, 3) := by decide +kernel
theorem dX12_regrind_79 : decode cX12_regrind 79 = .ok (.if_icmp .ge 16, 3) := by decide +kernel
theorem dX12_regrind_82 : decode cX12_regrind 82 = .ok (.aload_n 2, 1) := by decide +kernel
theorem dX12_regrind_83 : decode cX12_regrind 83 = .ok (.getfield 350, 3) := by decide +kernel
theorem dX12_regrind_86 : decode cX12_regrind 86 = .ok (.iload_n 3, 1) := by decide +kernel
theorem dX12_regrind_87 : decode cX12_regrind 87 = .ok (.iconst 0, 1) := by decide +kernel
theorem dX12_regrind_88 : decode cX12_regrind 88 = .ok (.iastore, 1) := by decide +kernel
theorem dX12_regrind_89 : decode cX12_regrind 89 = .ok (.iinc 3 1, 3) := by decide +kernel
theorem dX12_regrind_92 : decode cX12_regrind 92 = .ok (.goto (-18), 3) := by decide +kernel
theorem dX12_regrind_95 : decode cX12_regrind 95 = .ok (.aload_n 0, 1) := by decide +kernel
theorem dX12_regrind_96 : decode cX12_regrind 96 = .ok (.aload_n 2, 1) := by decide +kernel
theorem dX12_regrind_97 : decode cX12_regrind 97 = .ok (.getfield 359, 3) := by decide +kernel
theorem dX12_regrind_100 : decode cX12_regrind 100 = .ok (.invokevirtual 153, 3) := by decide +kernel
theorem dX12_regrind_103 : decode cX12_regrind 103 = .ok (.ireturn, 1) := by decide +kernel
set_option maxRecDepth 20000 in
theorem ggX12_inStep_X12_in : GoodIn wsX12_inStep wsX12_in := goodIn_r _ [7] (by decide +kernel) (by decide +kernel)
set_option maxRecDepth 20000 in
theorem gX12_inStep_X12_in : GoodIn wsX12_inStep (va_wsS RX12 101 yX12_in wsX12_in) := goodIn_app (goodIn_of _ (by decide +kernel)) ggX12_inStep_X12_in
set_option maxRecDepth 20000 in
theorem ggX12_inStep_X12_refuses : GoodIn wsX12_inStep wsX12_refuses := goodIn_r _ [11, 12, 20, 21, 22, 23, 24, 25, 26, 27, 28, 29, 30, 31, 32, 33, 34, 35, 36, 37, 38, 39, 40, 41, 42, 43, 44, 45, 46, 47, 48, 49, 50, 51, 52, 53] (by decide +kernel) (by decide +kernel)
set_option maxRecDepth 20000 in
theorem gX12_inStep_X12_refuses : GoodIn wsX12_inStep (wsV RX12 182 RX12 yX12_refuses wsX12_refuses) := goodIn_app (goodIn_of _ (by decide +kernel)) ggX12_inStep_X12_refuses
set_option maxRecDepth 20000 in
theorem ggX12_inStep_X12_divisor : GoodIn wsX12_inStep wsX12_divisor := goodIn_ca (goodIn_r _ [15, 13, 14, 6] (by decide +kernel) (by decide +kernel)) (goodIn_sub (fun _ h => List.mem_cons_of_mem _ (List.mem_append_right _ h)) (by decide +kernel))
set_option maxRecDepth 20000 in
theorem gX12_inStep_X12_divisor : GoodIn wsX12_inStep (va_wsS RX12 5 yX12_divisor wsX12_divisor) := goodIn_app (goodIn_of _ (by decide +kernel)) ggX12_inStep_X12_divisor
set_option maxRecDepth 20000 in
theorem ggX12_inStep_X12_says : GoodIn wsX12_inStep wsX12_says := goodIn_r _ [19, 12, 20, 21, 22, 23, 24, 25, 26, 27, 28, 29, 30, 31, 32, 33, 34, 35, 36, 37, 38, 39, 40, 41, 42, 43, 44, 45, 46, 47, 48, 49, 50, 51, 52, 53] (by decide +kernel) (by decide +kernel)
set_option maxRecDepth 20000 in
theorem gX12_inStep_X12_says : GoodIn wsX12_inStep (wsV RX12 178 RX12 yX12_says wsX12_says) := goodIn_app (goodIn_of _ (by decide +kernel)) ggX12_inStep_X12_says
theorem dX12_inStep_0 : decode cX12_inStep 0 = .ok (.iload_n 1, 1) := by decide +kernel
theorem dX12_inStep_1 : decode cX12_inStep 1 = .ok (.i2l, 1) := by decide +kernel
theorem dX12_inStep_2 : decode cX12_inStep 2 = .ok (.ldc2_w 129, 3) := by decide +kernel
theorem dX12_inStep_5 : decode cX12_inStep 5 = .ok (.ldc2_w 131, 3) := by decide +kernel
theorem dX12_inStep_8 : decode cX12_inStep 8 = .ok (.invokestatic 101, 3) := by decide +kernel
theorem dX12_inStep_11 : decode cX12_inStep 11 = .ok (.ifCond .eq 34, 3) := by decide +kernel
theorem dX12_inStep_14 : decode cX12_inStep 14 = .ok (.iload_n 2, 1) := by decide +kernel
theorem dX12_inStep_15 : decode cX12_inStep 15 = .ok (.i2l, 1) := by decide +kernel
theorem dX12_inStep_16 : decode cX12_inStep 16 = .ok (.ldc2_w 129, 3) := by decide +kernel
theorem dX12_inStep_19 : decode cX12_inStep 19 = .ok (.ldc2_w 131, 3) := by decide +kernel
theorem dX12_inStep_22 : decode cX12_inStep 22 = .ok (.invokestatic 101, 3) := by decide +kernel
theorem dX12_inStep_25 : decode cX12_inStep 25 = .ok (.ifCond .eq 20, 3) := by decide +kernel
theorem dX12_inStep_28 : decode cX12_inStep 28 = .ok (.iload_n 3, 1) := by decide +kernel
theorem dX12_inStep_29 : decode cX12_inStep 29 = .ok (.ifCond .lt 16, 3) := by decide +kernel
theorem dX12_inStep_32 : decode cX12_inStep 32 = .ok (.iload 4, 2) := by decide +kernel
theorem dX12_inStep_34 : decode cX12_inStep 34 = .ok (.i2l, 1) := by decide +kernel
theorem dX12_inStep_35 : decode cX12_inStep 35 = .ok (.lconst 1, 1) := by decide +kernel
theorem dX12_inStep_36 : decode cX12_inStep 36 = .ok (.ldc2_w 249, 3) := by decide +kernel
theorem dX12_inStep_39 : decode cX12_inStep 39 = .ok (.invokestatic 101, 3) := by decide +kernel
theorem dX12_inStep_42 : decode cX12_inStep 42 = .ok (.ifCond .ne 9, 3) := by decide +kernel
theorem dX12_inStep_45 : decode cX12_inStep 45 = .ok (.aload_n 0, 1) := by decide +kernel
theorem dX12_inStep_46 : decode cX12_inStep 46 = .ok (.iconst 1, 1) := by decide +kernel
theorem dX12_inStep_47 : decode cX12_inStep 47 = .ok (.invokevirtual 182, 3) := by decide +kernel
theorem dX12_inStep_50 : decode cX12_inStep 50 = .ok (.ireturn, 1) := by decide +kernel
theorem dX12_inStep_51 : decode cX12_inStep 51 = .ok (.iload_n 1, 1) := by decide +kernel
theorem dX12_inStep_52 : decode cX12_inStep 52 = .ok (.i2l, 1) := by decide +kernel
theorem dX12_inStep_53 : decode cX12_inStep 53 = .ok (.iload_n 2, 1) := by decide +kernel
theorem dX12_inStep_54 : decode cX12_inStep 54 = .ok (.i2l, 1) := by decide +kernel
theorem dX12_inStep_55 : decode cX12_inStep 55 = .ok (.lmul, 1) := by decide +kernel
theorem dX12_inStep_56 : decode cX12_inStep 56 = .ok (.iload_n 1, 1) := by decide +kernel
theorem dX12_inStep_57 : decode cX12_inStep 57 = .ok (.iload_n 2, 1) := by decide +kernel
theorem dX12_inStep_58 : decode cX12_inStep 58 = .ok (.invokestatic 5, 3) := by decide +kernel
theorem dX12_inStep_61 : decode cX12_inStep 61 = .ok (.i2l, 1) := by decide +kernel
theorem dX12_inStep_62 : decode cX12_inStep 62 = .ok (.ldiv, 1) := by decide +kernel
theorem dX12_inStep_63 : decode cX12_inStep 63 = .ok (.lstore 5, 2) := by decide +kernel
theorem dX12_inStep_65 : decode cX12_inStep 65 = .ok (.aload_n 0, 1) := by decide +kernel
theorem dX12_inStep_66 : decode cX12_inStep 66 = .ok (.lload 5, 2) := by decide +kernel
theorem dX12_inStep_68 : decode cX12_inStep 68 = .ok (.iload_n 3, 1) := by decide +kernel
theorem dX12_inStep_69 : decode cX12_inStep 69 = .ok (.i2l, 1) := by decide +kernel
theorem dX12_inStep_70 : decode cX12_inStep 70 = .ok (.lmul, 1) := by decide +kernel
theorem dX12_inStep_71 : decode cX12_inStep 71 = .ok (.iload 4, 2) := by decide +kernel
theorem dX12_inStep_73 : decode cX12_inStep 73 = .ok (.i2l, 1) := by decide +kernel
theorem dX12_inStep_74 : decode cX12_inStep 74 = .ok (.lrem, 1) := by decide +kernel
theorem dX12_inStep_75 : decode cX12_inStep 75 = .ok (.lconst 0, 1) := by decide +kernel
theorem dX12_inStep_76 : decode cX12_inStep 76 = .ok (.lcmp, 1) := by decide +kernel
theorem dX12_inStep_77 : decode cX12_inStep 77 = .ok (.ifCond .ne 7, 3) := by decide +kernel
theorem dX12_inStep_80 : decode cX12_inStep 80 = .ok (.iconst 1, 1) := by decide +kernel
theorem dX12_inStep_81 : decode cX12_inStep 81 = .ok (.goto 4, 3) := by decide +kernel
theorem dX12_inStep_84 : decode cX12_inStep 84 = .ok (.iconst 0, 1) := by decide +kernel
theorem dX12_inStep_85 : decode cX12_inStep 85 = .ok (.invokevirtual 178, 3) := by decide +kernel
theorem dX12_inStep_88 : decode cX12_inStep 88 = .ok (.ireturn, 1) := by decide +kernel
set_option maxRecDepth 20000 in
theorem ggX12_clock_X12_in : GoodIn wsX12_clock wsX12_in := goodIn_r _ [6] (by decide +kernel) (by decide +kernel)
set_option maxRecDepth 20000 in
theorem gX12_clock_X12_in : GoodIn wsX12_clock (va_wsS RX12 101 yX12_in wsX12_in) := goodIn_app (goodIn_of _ (by decide +kernel)) ggX12_clock_X12_in
set_option maxRecDepth 20000 in
theorem ggX12_clock_X12_fails : GoodIn wsX12_clock wsX12_fails := goodIn_r _ [10, 11, 16, 17, 18, 19, 20, 21, 22, 23, 24, 25, 26, 27, 28, 29, 30, 31, 32, 33, 34, 35, 36, 37, 38, 39, 40, 41, 42, 43, 44, 45, 46, 47, 48, 49] (by decide +kernel) (by decide +kernel)
set_option maxRecDepth 20000 in
theorem gX12_clock_X12_fails : GoodIn wsX12_clock (wsV RX12 143 RX12 yX12_fails wsX12_fails) := goodIn_app (goodIn_of _ (by decide +kernel)) ggX12_clock_X12_fails
set_option maxRecDepth 20000 in
theorem ggX12_clock_X12_answer : GoodIn wsX12_clock wsX12_answer := goodIn_r _ [15, 11, 16, 17, 18, 19, 20, 21, 22, 23, 24, 25, 26, 27, 28, 29, 30, 31, 32, 33, 34, 35, 36, 37, 38, 39, 40, 41, 42, 43, 44, 45, 46, 47, 48, 49] (by decide +kernel) (by decide +kernel)
set_option maxRecDepth 20000 in
theorem gX12_clock_X12_answer : GoodIn wsX12_clock (wsV RX12 153 RX12 yX12_answer wsX12_answer) := goodIn_app (goodIn_of _ (by decide +kernel)) ggX12_clock_X12_answer
theorem dX12_clock_0 : decode cX12_clock 0 = .ok (.iload_n 1, 1) := by decide +kernel
theorem dX12_clock_1 : decode cX12_clock 1 = .ok (.i2l, 1) := by decide +kernel
theorem dX12_clock_2 : decode cX12_clock 2 = .ok (.ldc2_w 129, 3) := by decide +kernel
theorem dX12_clock_5 : decode cX12_clock 5 = .ok (.ldc2_w 131, 3) := by decide +kernel
theorem dX12_clock_8 : decode cX12_clock 8 = .ok (.invokestatic 101, 3) := by decide +kernel
theorem dX12_clock_11 : decode cX12_clock 11 = .ok (.ifCond .eq 30, 3) := by decide +kernel
theorem dX12_clock_14 : decode cX12_clock 14 = .ok (.iload_n 2, 1) := by decide +kernel
theorem dX12_clock_15 : decode cX12_clock 15 = .ok (.i2l, 1) := by decide +kernel
theorem dX12_clock_16 : decode cX12_clock 16 = .ok (.ldc2_w 129, 3) := by decide +kernel
theorem dX12_clock_19 : decode cX12_clock 19 = .ok (.ldc2_w 131, 3) := by decide +kernel
theorem dX12_clock_22 : decode cX12_clock 22 = .ok (.invokestatic 101, 3) := by decide +kernel
theorem dX12_clock_25 : decode cX12_clock 25 = .ok (.ifCond .eq 16, 3) := by decide +kernel
theorem dX12_clock_28 : decode cX12_clock 28 = .ok (.iload_n 3, 1) := by decide +kernel
theorem dX12_clock_29 : decode cX12_clock 29 = .ok (.i2l, 1) := by decide +kernel
theorem dX12_clock_30 : decode cX12_clock 30 = .ok (.lconst 0, 1) := by decide +kernel
theorem dX12_clock_31 : decode cX12_clock 31 = .ok (.iload_n 1, 1) := by decide +kernel
theorem dX12_clock_32 : decode cX12_clock 32 = .ok (.iconst 1, 1) := by decide +kernel
theorem dX12_clock_33 : decode cX12_clock 33 = .ok (.isub, 1) := by decide +kernel
theorem dX12_clock_34 : decode cX12_clock 34 = .ok (.i2l, 1) := by decide +kernel
theorem dX12_clock_35 : decode cX12_clock 35 = .ok (.invokestatic 101, 3) := by decide +kernel
theorem dX12_clock_38 : decode cX12_clock 38 = .ok (.ifCond .ne 9, 3) := by decide +kernel
theorem dX12_clock_41 : decode cX12_clock 41 = .ok (.aload_n 0, 1) := by decide +kernel
theorem dX12_clock_42 : decode cX12_clock 42 = .ok (.iconst 1, 1) := by decide +kernel
theorem dX12_clock_43 : decode cX12_clock 43 = .ok (.invokevirtual 143, 3) := by decide +kernel
theorem dX12_clock_46 : decode cX12_clock 46 = .ok (.ireturn, 1) := by decide +kernel
theorem dX12_clock_47 : decode cX12_clock 47 = .ok (.aload_n 0, 1) := by decide +kernel
theorem dX12_clock_48 : decode cX12_clock 48 = .ok (.iload_n 1, 1) := by decide +kernel
theorem dX12_clock_49 : decode cX12_clock 49 = .ok (.iload_n 3, 1) := by decide +kernel
theorem dX12_clock_50 : decode cX12_clock 50 = .ok (.iload_n 2, 1) := by decide +kernel
theorem dX12_clock_51 : decode cX12_clock 51 = .ok (.imul, 1) := by decide +kernel
theorem dX12_clock_52 : decode cX12_clock 52 = .ok (.iload_n 1, 1) := by decide +kernel
theorem dX12_clock_53 : decode cX12_clock 53 = .ok (.irem, 1) := by decide +kernel
theorem dX12_clock_54 : decode cX12_clock 54 = .ok (.isub, 1) := by decide +kernel
theorem dX12_clock_55 : decode cX12_clock 55 = .ok (.iload_n 1, 1) := by decide +kernel
theorem dX12_clock_56 : decode cX12_clock 56 = .ok (.irem, 1) := by decide +kernel
theorem dX12_clock_57 : decode cX12_clock 57 = .ok (.invokevirtual 153, 3) := by decide +kernel
theorem dX12_clock_60 : decode cX12_clock 60 = .ok (.ireturn, 1) := by decide +kernel
set_option maxRecDepth 20000 in
theorem ggX12_harden_X12_isGear : GoodIn wsX12_harden wsX12_isGear := goodIn_r _ [11, 12, 13, 14, 15, 16, 17, 18, 19, 20, 10, 21, 93, 94, 95, 96, 97, 98, 99, 100, 101, 102, 103, 104, 105, 106, 107, 108, 109, 110, 111, 112, 113, 114, 115, 116, 117, 118, 119, 120, 121, 122, 123, 124, 125, 126, 127, 128, 129] (by decide +kernel) (by decide +kernel)
set_option maxRecDepth 20000 in
theorem gX12_harden_X12_isGear : GoodIn wsX12_harden (wsV RX12 121 RX12 yX12_isGear wsX12_isGear) := goodIn_app (goodIn_of _ (by decide +kernel)) ggX12_harden_X12_isGear
set_option maxRecDepth 20000 in
theorem ggX12_harden_X12_fails : GoodIn wsX12_harden wsX12_fails := goodIn_r _ [25, 26, 93, 94, 95, 96, 97, 98, 99, 100, 101, 102, 103, 104, 105, 106, 107, 108, 109, 110, 111, 112, 113, 114, 115, 116, 117, 118, 119, 120, 121, 122, 123, 124, 125, 126] (by decide +kernel) (by decide +kernel)
set_option maxRecDepth 20000 in
theorem gX12_harden_X12_fails : GoodIn wsX12_harden (wsV RX12 143 RX12 yX12_fails wsX12_fails) := goodIn_app (goodIn_of _ (by decide +kernel)) ggX12_harden_X12_fails
set_option maxRecDepth 20000 in
theorem ggX12_harden_X12_in : GoodIn wsX12_harden wsX12_in := goodIn_r _ [21] (by decide +kernel) (by decide +kernel)
set_option maxRecDepth 20000 in
theorem gX12_harden_X12_in : GoodIn wsX12_harden (va_wsS RX12 101 yX12_in wsX12_in) := goodIn_app (goodIn_of _ (by decide +kernel)) ggX12_harden_X12_in
set_option maxRecDepth 20000 in
theorem ggX12_harden_X12_gearAt : GoodIn wsX12_harden wsX12_gearAt := goodIn_r _ [30, 12, 31, 32, 33, 34, 16, 35, 18, 36, 37, 38, 39, 40, 41, 42, 43, 44, 45, 46, 47, 48, 93, 94, 95, 96, 97, 98, 99, 100, 101, 102, 103, 104, 105, 106, 107, 108, 109, 110, 111, 112, 113, 114, 115, 116, 117, 118, 119, 120, 121, 122, 123, 124, 125, 126, 127, 128, 129] (by decide +kernel) (by decide +kernel)
set_option maxRecDepth 20000 in
theorem gX12_harden_X12_gearAt : GoodIn wsX12_harden (wsV RX12 111 RX12 yX12_gearAt wsX12_gearAt) := goodIn_app (goodIn_of _ (by decide +kernel)) ggX12_harden_X12_gearAt
set_option maxRecDepth 20000 in
theorem ggX12_harden_X10_isBroken : GoodIn wsX12_harden wsX10_isBroken := goodIn_r _ [53, 54, 55, 70, 71, 72, 73, 74, 75, 76, 77, 78, 79, 80, 81, 82, 83, 84, 85, 86, 87, 88, 89, 90, 91, 92] (by decide +kernel) (by decide +kernel)
set_option maxRecDepth 20000 in
theorem gX12_harden_X10_isBroken : GoodIn wsX12_harden (wsV RX12 375 RX10 yX10_isBroken wsX10_isBroken) := goodIn_app (goodIn_of _ (by decide +kernel)) ggX12_harden_X10_isBroken
set_option maxRecDepth 20000 in
theorem ggX12_harden_X10_across : GoodIn wsX12_harden wsX10_across := goodIn_r _ [59, 60, 61, 70, 71, 72, 73, 74, 75, 76, 77, 78, 79, 80, 81, 82, 83, 84, 85, 86, 87, 88, 89, 90, 91, 92] (by decide +kernel) (by decide +kernel)
set_option maxRecDepth 20000 in
theorem gX12_harden_X10_across : GoodIn wsX12_harden (wsV RX12 167 RX10 yX10_across wsX10_across) := goodIn_app (goodIn_of _ (by decide +kernel)) ggX12_harden_X10_across
set_option maxRecDepth 20000 in
theorem ggX12_harden_X12_root : GoodIn wsX12_harden wsX12_root := goodIn_r _ [64, 65, 6] (by decide +kernel) (by decide +kernel)
set_option maxRecDepth 20000 in
theorem gX12_harden_X12_root : GoodIn wsX12_harden (va_wsS RX12 195 yX12_root wsX12_root) := goodIn_app (goodIn_of _ (by decide +kernel)) ggX12_harden_X12_root
set_option maxRecDepth 20000 in
theorem ggX12_harden_X12_answer : GoodIn wsX12_harden wsX12_answer := goodIn_r _ [69, 26, 93, 94, 95, 96, 97, 98, 99, 100, 101, 102, 103, 104, 105, 106, 107, 108, 109, 110, 111, 112, 113, 114, 115, 116, 117, 118, 119, 120, 121, 122, 123, 124, 125, 126] (by decide +kernel) (by decide +kernel)
set_option maxRecDepth 20000 in
theorem gX12_harden_X12_answer : GoodIn wsX12_harden (wsV RX12 153 RX12 yX12_answer wsX12_answer) := goodIn_app (goodIn_of _ (by decide +kernel)) ggX12_harden_X12_answer
theorem dX12_harden_0 : decode cX12_harden 0 = .ok (.aload_n 0, 1) := by decide +kernel
theorem dX12_harden_1 : decode cX12_harden 1 = .ok (.iload_n 1, 1) := by decide +kernel
theorem dX12_harden_2 : decode cX12_harden 2 = .ok (.invokevirtual 121, 3) := by decide +kernel
theorem dX12_harden_5 : decode cX12_harden 5 = .ok (.ifCond .ne 9, 3) := by decide +kernel
theorem dX12_harden_8 : decode cX12_harden 8 = .ok (.aload_n 0, 1) := by decide +kernel
theorem dX12_harden_9 : decode cX12_harden 9 = .ok (.iconst 1, 1) := by decide +kernel
theorem dX12_harden_10 : decode cX12_harden 10 = .ok (.invokevirtual 143, 3) := by decide +kernel
theorem dX12_harden_13 : decode cX12_harden 13 = .ok (.ireturn, 1) := by decide +kernel
theorem dX12_harden_14 : decode cX12_harden 14 = .ok (.iload_n 2, 1) := by decide +kernel
theorem dX12_harden_15 : decode cX12_harden 15 = .ok (.i2l, 1) := by decide +kernel
theorem dX12_harden_16 : decode cX12_harden 16 = .ok (.lconst 1, 1) := by decide +kernel
theorem dX12_harden_17 : decode cX12_harden 17 = .ok (.ldc2_w 312, 3) := by decide +kernel
theorem dX12_harden_20 : decode cX12_harden 20 = .ok (.invokestatic 101, 3) := by decide +kernel
theorem dX12_harden_23 : decode cX12_harden 23 = .ok (.ifCond .ne 9, 3) := by decide +kernel
theorem dX12_harden_26 : decode cX12_harden 26 = .ok (.aload_n 0, 1) := by decide +kernel
theorem dX12_harden_27 : decode cX12_harden 27 = .ok (.iconst 2, 1) := by decide +kernel
theorem dX12_harden_28 : decode cX12_harden 28 = .ok (.invokevirtual 143, 3) := by decide +kernel
theorem dX12_harden_31 : decode cX12_harden 31 = .ok (.ireturn, 1) := by decide +kernel
theorem dX12_harden_32 : decode cX12_harden 32 = .ok (.aload_n 0, 1) := by decide +kernel
theorem dX12_harden_33 : decode cX12_harden 33 = .ok (.iload_n 1, 1) := by decide +kernel
theorem dX12_harden_34 : decode cX12_harden 34 = .ok (.invokevirtual 111, 3) := by decide +kernel
theorem dX12_harden_37 : decode cX12_harden 37 = .ok (.astore 4, 2) := by decide +kernel
theorem dX12_harden_39 : decode cX12_harden 39 = .ok (.aload 4, 2) := by decide +kernel
theorem dX12_harden_41 : decode cX12_harden 41 = .ok (.getfield 160, 3) := by decide +kernel
theorem dX12_harden_44 : decode cX12_harden 44 = .ok (.ifCond .eq 27, 3) := by decide +kernel
theorem dX12_harden_47 : decode cX12_harden 47 = .ok (.aload 4, 2) := by decide +kernel
theorem dX12_harden_49 : decode cX12_harden 49 = .ok (.getfield 369, 3) := by decide +kernel
theorem dX12_harden_52 : decode cX12_harden 52 = .ok (.ifCond .ne 19, 3) := by decide +kernel
theorem dX12_harden_55 : decode cX12_harden 55 = .ok (.aload 4, 2) := by decide +kernel
theorem dX12_harden_57 : decode cX12_harden 57 = .ok (.getfield 372, 3) := by decide +kernel
theorem dX12_harden_60 : decode cX12_harden 60 = .ok (.ifCond .ne 11, 3) := by decide +kernel
theorem dX12_harden_63 : decode cX12_harden 63 = .ok (.aload 4, 2) := by decide +kernel
theorem dX12_harden_65 : decode cX12_harden 65 = .ok (.invokevirtual 375, 3) := by decide +kernel
theorem dX12_harden_68 : decode cX12_harden 68 = .ok (.ifCond .eq 9, 3) := by decide +kernel
theorem dX12_harden_71 : decode cX12_harden 71 = .ok (.aload_n 0, 1) := by decide +kernel
theorem dX12_harden_72 : decode cX12_harden 72 = .ok (.iconst 3, 1) := by decide +kernel
theorem dX12_harden_73 : decode cX12_harden 73 = .ok (.invokevirtual 143, 3) := by decide +kernel
theorem dX12_harden_76 : decode cX12_harden 76 = .ok (.ireturn, 1) := by decide +kernel
theorem dX12_harden_77 : decode cX12_harden 77 = .ok (.aload 4, 2) := by decide +kernel
theorem dX12_harden_79 : decode cX12_harden 79 = .ok (.invokevirtual 167, 3) := by decide +kernel
theorem dX12_harden_82 : decode cX12_harden 82 = .ok (.aload 4, 2) := by decide +kernel
theorem dX12_harden_84 : decode cX12_harden 84 = .ok (.invokevirtual 167, 3) := by decide +kernel
theorem dX12_harden_87 : decode cX12_harden 87 = .ok (.lmul, 1) := by decide +kernel
theorem dX12_harden_88 : decode cX12_harden 88 = .ok (.aload 4, 2) := by decide +kernel
theorem dX12_harden_90 : decode cX12_harden 90 = .ok (.getfield 209, 3) := by decide +kernel
theorem dX12_harden_93 : decode cX12_harden 93 = .ok (.i2l, 1) := by decide +kernel
theorem dX12_harden_94 : decode cX12_harden 94 = .ok (.ldiv, 1) := by decide +kernel
theorem dX12_harden_95 : decode cX12_harden 95 = .ok (.ldc2_w 379, 3) := by decide +kernel
theorem dX12_harden_98 : decode cX12_harden 98 = .ok (.ldiv, 1) := by decide +kernel
theorem dX12_harden_99 : decode cX12_harden 99 = .ok (.lstore 5, 2) := by decide +kernel
theorem dX12_harden_101 : decode cX12_harden 101 = .ok (.aload 4, 2) := by decide +kernel
theorem dX12_harden_103 : decode cX12_harden 103 = .ok (.iconst 1, 1) := by decide +kernel
theorem dX12_harden_104 : decode cX12_harden 104 = .ok (.putfield 369, 3) := by decide +kernel
theorem dX12_harden_107 : decode cX12_harden 107 = .ok (.aload 4, 2) := by decide +kernel
theorem dX12_harden_109 : decode cX12_harden 109 = .ok (.iload_n 2, 1) := by decide +kernel
theorem dX12_harden_110 : decode cX12_harden 110 = .ok (.i2l, 1) := by decide +kernel
theorem dX12_harden_111 : decode cX12_harden 111 = .ok (.ldc2_w 381, 3) := by decide +kernel
theorem dX12_harden_114 : decode cX12_harden 114 = .ok (.lmul, 1) := by decide +kernel
theorem dX12_harden_115 : decode cX12_harden 115 = .ok (.invokestatic 195, 3) := by decide +kernel
theorem dX12_harden_118 : decode cX12_harden 118 = .ok (.l2i, 1) := by decide +kernel
theorem dX12_harden_119 : decode cX12_harden 119 = .ok (.putfield 383, 3) := by decide +kernel
theorem dX12_harden_122 : decode cX12_harden 122 = .ok (.aload 4, 2) := by decide +kernel
theorem dX12_harden_124 : decode cX12_harden 124 = .ok (.aload 4, 2) := by decide +kernel
theorem dX12_harden_126 : decode cX12_harden 126 = .ok (.invokevirtual 167, 3) := by decide +kernel
theorem dX12_harden_129 : decode cX12_harden 129 = .ok (.ldc2_w 247, 3) := by decide +kernel
theorem dX12_harden_132 : decode cX12_harden 132 = .ok (.lmul, 1) := by decide +kernel
theorem dX12_harden_133 : decode cX12_harden 133 = .ok (.ldc2_w 135, 3) := by decide +kernel
theorem dX12_harden_136 : decode cX12_harden 136 = .ok (.ldiv, 1) := by decide +kernel
theorem dX12_harden_137 : decode cX12_harden 137 = .ok (.iload_n 3, 1) := by decide +kernel
theorem dX12_harden_138 : decode cX12_harden 138 = .ok (.ifCond .eq 12, 3) := by decide +kernel
theorem dX12_harden_141 : decode cX12_harden 141 = .ok (.lload 5, 2) := by decide +kernel
theorem dX12_harden_143 : decode cX12_harden 143 = .ok (.ldc2_w 3, 3) := by decide +kernel
theorem dX12_harden_146 : decode cX12_harden 146 = .ok (.ldiv, 1) := by decide +kernel
theorem dX12_harden_147 : decode cX12_harden 147 = .ok (.goto 5, 3) := by decide +kernel
theorem dX12_harden_150 : decode cX12_harden 150 = .ok (.lload 5, 2) := by decide +kernel
theorem dX12_harden_152 : decode cX12_harden 152 = .ok (.ladd, 1) := by decide +kernel
theorem dX12_harden_153 : decode cX12_harden 153 = .ok (.l2i, 1) := by decide +kernel
theorem dX12_harden_154 : decode cX12_harden 154 = .ok (.putfield 386, 3) := by decide +kernel
theorem dX12_harden_157 : decode cX12_harden 157 = .ok (.aload 4, 2) := by decide +kernel
theorem dX12_harden_159 : decode cX12_harden 159 = .ok (.aload 4, 2) := by decide +kernel
theorem dX12_harden_161 : decode cX12_harden 161 = .ok (.getfield 356, 3) := by decide +kernel
theorem dX12_harden_164 : decode cX12_harden 164 = .ok (.putfield 389, 3) := by decide +kernel
theorem dX12_harden_167 : decode cX12_harden 167 = .ok (.aload_n 0, 1) := by decide +kernel
theorem dX12_harden_168 : decode cX12_harden 168 = .ok (.aload 4, 2) := by decide +kernel
theorem dX12_harden_170 : decode cX12_harden 170 = .ok (.getfield 386, 3) := by decide +kernel
theorem dX12_harden_173 : decode cX12_harden 173 = .ok (.invokevirtual 153, 3) := by decide +kernel
theorem dX12_harden_176 : decode cX12_harden 176 = .ok (.ireturn, 1) := by decide +kernel
set_option maxRecDepth 20000 in
theorem ggX12_caseOf_X12_isGear : GoodIn wsX12_caseOf wsX12_isGear := goodIn_r _ [5, 6, 7, 8, 9, 10, 11, 12, 13, 14, 4, 15, 59, 60, 61, 62, 63, 64, 65, 66, 67, 68, 69, 70, 71, 72, 73, 74, 75, 76, 77, 78, 79, 80, 81, 82, 83, 84, 85, 86, 87, 88, 89, 90, 91, 92, 93, 94, 95] (by decide +kernel) (by decide +kernel)
set_option maxRecDepth 20000 in
theorem gX12_caseOf_X12_isGear : GoodIn wsX12_caseOf (wsV RX12 121 RX12 yX12_isGear wsX12_isGear) := goodIn_app (goodIn_of _ (by decide +kernel)) ggX12_caseOf_X12_isGear
set_option maxRecDepth 20000 in
theorem ggX12_caseOf_X12_gearAt : GoodIn wsX12_caseOf wsX12_gearAt := goodIn_r _ [19, 6, 20, 21, 22, 23, 10, 24, 12, 25, 26, 27, 28, 29, 30, 31, 32, 33, 34, 35, 36, 37, 59, 60, 61, 62, 63, 64, 65, 66, 67, 68, 69, 70, 71, 72, 73, 74, 75, 76, 77, 78, 79, 80, 81, 82, 83, 84, 85, 86, 87, 88, 89, 90, 91, 92, 93, 94, 95] (by decide +kernel) (by decide +kernel)
set_option maxRecDepth 20000 in
theorem gX12_caseOf_X12_gearAt : GoodIn wsX12_caseOf (wsV RX12 111 RX12 yX12_gearAt wsX12_gearAt) := goodIn_app (goodIn_of _ (by decide +kernel)) ggX12_caseOf_X12_gearAt
set_option maxRecDepth 20000 in
theorem ggX12_caseOf_X10_caseLeft : GoodIn wsX12_caseOf wsX10_caseLeft := goodIn_r _ [42, 43, 44, 45, 46, 47, 48, 49, 96, 97, 98, 99, 100, 101, 102, 103, 104, 105, 106, 107, 108, 109, 110, 111, 112, 113, 114, 115, 116, 117, 118] (by decide +kernel) (by decide +kernel)
set_option maxRecDepth 20000 in
theorem gX12_caseOf_X10_caseLeft : GoodIn wsX12_caseOf (wsV RX12 392 RX10 yX10_caseLeft wsX10_caseLeft) := goodIn_app (goodIn_of _ (by decide +kernel)) ggX12_caseOf_X10_caseLeft
set_option maxRecDepth 20000 in
theorem ggX12_caseOf_X12_answer : GoodIn wsX12_caseOf wsX12_answer := goodIn_r _ [53, 54, 59, 60, 61, 62, 63, 64, 65, 66, 67, 68, 69, 70, 71, 72, 73, 74, 75, 76, 77, 78, 79, 80, 81, 82, 83, 84, 85, 86, 87, 88, 89, 90, 91, 92] (by decide +kernel) (by decide +kernel)
set_option maxRecDepth 20000 in
theorem gX12_caseOf_X12_answer : GoodIn wsX12_caseOf (wsV RX12 153 RX12 yX12_answer wsX12_answer) := goodIn_app (goodIn_of _ (by decide +kernel)) ggX12_caseOf_X12_answer
set_option maxRecDepth 20000 in
theorem ggX12_caseOf_X12_fails : GoodIn wsX12_caseOf wsX12_fails := goodIn_r _ [58, 54, 59, 60, 61, 62, 63, 64, 65, 66, 67, 68, 69, 70, 71, 72, 73, 74, 75, 76, 77, 78, 79, 80, 81, 82, 83, 84, 85, 86, 87, 88, 89, 90, 91, 92] (by decide +kernel) (by decide +kernel)
set_option maxRecDepth 20000 in
theorem gX12_caseOf_X12_fails : GoodIn wsX12_caseOf (wsV RX12 143 RX12 yX12_fails wsX12_fails) := goodIn_app (goodIn_of _ (by decide +kernel)) ggX12_caseOf_X12_fails
theorem dX12_caseOf_0 : decode cX12_caseOf 0 = .ok (.aload_n 0, 1) := by decide +kernel
theorem dX12_caseOf_1 : decode cX12_caseOf 1 = .ok (.iload_n 1, 1) := by decide +kernel
theorem dX12_caseOf_2 : decode cX12_caseOf 2 = .ok (.invokevirtual 121, 3) := by decide +kernel
theorem dX12_caseOf_5 : decode cX12_caseOf 5 = .ok (.ifCond .eq 18, 3) := by decide +kernel
theorem dX12_caseOf_8 : decode cX12_caseOf 8 = .ok (.aload_n 0, 1) := by decide +kernel
theorem dX12_caseOf_9 : decode cX12_caseOf 9 = .ok (.aload_n 0, 1) := by decide +kernel
theorem dX12_caseOf_10 : decode cX12_caseOf 10 = .ok (.iload_n 1, 1) := by decide +kernel
theorem dX12_caseOf_11 : decode cX12_caseOf 11 = .ok (.invokevirtual 111, 3) := by decide +kernel
theorem dX12_caseOf_14 : decode cX12_caseOf 14 = .ok (.invokevirtual 392, 3) := by decide +kernel
theorem dX12_caseOf_17 : decode cX12_caseOf 17 = .ok (.invokevirtual 153, 3) := by decide +kernel
theorem dX12_caseOf_20 : decode cX12_caseOf 20 = .ok (.goto 8, 3) := by decide +kernel
theorem dX12_caseOf_23 : decode cX12_caseOf 23 = .ok (.aload_n 0, 1) := by decide +kernel
theorem dX12_caseOf_24 : decode cX12_caseOf 24 = .ok (.iconst 1, 1) := by decide +kernel
theorem dX12_caseOf_25 : decode cX12_caseOf 25 = .ok (.invokevirtual 143, 3) := by decide +kernel
theorem dX12_caseOf_28 : decode cX12_caseOf 28 = .ok (.ireturn, 1) := by decide +kernel
set_option maxRecDepth 20000 in
theorem ggX12_isClean_X12_isGear : GoodIn wsX12_isClean wsX12_isGear := goodIn_r _ [5, 6, 7, 8, 9, 10, 11, 12, 13, 14, 4, 15, 70, 71, 72, 73, 74, 75, 76, 77, 78, 79, 80, 81, 82, 83, 84, 85, 86, 87, 88, 89, 90, 91, 92, 93, 94, 95, 96, 97, 98, 99, 100, 101, 102, 103, 104, 105, 106] (by decide +kernel) (by decide +kernel)
set_option maxRecDepth 20000 in
theorem gX12_isClean_X12_isGear : GoodIn wsX12_isClean (wsV RX12 121 RX12 yX12_isGear wsX12_isGear) := goodIn_app (goodIn_of _ (by decide +kernel)) ggX12_isClean_X12_isGear
set_option maxRecDepth 20000 in
theorem ggX12_isClean_X12_refuses : GoodIn wsX12_isClean wsX12_refuses := goodIn_r _ [19, 20, 70, 71, 72, 73, 74, 75, 76, 77, 78, 79, 80, 81, 82, 83, 84, 85, 86, 87, 88, 89, 90, 91, 92, 93, 94, 95, 96, 97, 98, 99, 100, 101, 102, 103] (by decide +kernel) (by decide +kernel)
set_option maxRecDepth 20000 in
theorem gX12_isClean_X12_refuses : GoodIn wsX12_isClean (wsV RX12 182 RX12 yX12_refuses wsX12_refuses) := goodIn_app (goodIn_of _ (by decide +kernel)) ggX12_isClean_X12_refuses
set_option maxRecDepth 20000 in
theorem ggX12_isClean_X12_gearAt : GoodIn wsX12_isClean wsX12_gearAt := goodIn_r _ [24, 6, 25, 26, 27, 28, 10, 29, 12, 30, 31, 32, 33, 34, 35, 36, 37, 38, 39, 40, 41, 42, 70, 71, 72, 73, 74, 75, 76, 77, 78, 79, 80, 81, 82, 83, 84, 85, 86, 87, 88, 89, 90, 91, 92, 93, 94, 95, 96, 97, 98, 99, 100, 101, 102, 103, 104, 105, 106] (by decide +kernel) (by decide +kernel)
set_option maxRecDepth 20000 in
theorem gX12_isClean_X12_gearAt : GoodIn wsX12_isClean (wsV RX12 111 RX12 yX12_gearAt wsX12_gearAt) := goodIn_app (goodIn_of _ (by decide +kernel)) ggX12_isClean_X12_gearAt
set_option maxRecDepth 20000 in
theorem ggX12_isClean_X12_says : GoodIn wsX12_isClean wsX12_says := goodIn_r _ [46, 20, 70, 71, 72, 73, 74, 75, 76, 77, 78, 79, 80, 81, 82, 83, 84, 85, 86, 87, 88, 89, 90, 91, 92, 93, 94, 95, 96, 97, 98, 99, 100, 101, 102, 103] (by decide +kernel) (by decide +kernel)
set_option maxRecDepth 20000 in
theorem gX12_isClean_X12_says : GoodIn wsX12_isClean (wsV RX12 178 RX12 yX12_says wsX12_says) := goodIn_app (goodIn_of _ (by decide +kernel)) ggX12_isClean_X12_says
theorem dX12_isClean_0 : decode cX12_isClean 0 = .ok (.aload_n 0, 1) := by decide +kernel
theorem dX12_isClean_1 : decode cX12_isClean 1 = .ok (.iload_n 1, 1) := by decide +kernel
theorem dX12_isClean_2 : decode cX12_isClean 2 = .ok (.invokevirtual 121, 3) := by decide +kernel
theorem dX12_isClean_5 : decode cX12_isClean 5 = .ok (.ifCond .ne 9, 3) := by decide +kernel
theorem dX12_isClean_8 : decode cX12_isClean 8 = .ok (.aload_n 0, 1) := by decide +kernel
theorem dX12_isClean_9 : decode cX12_isClean 9 = .ok (.iconst 1, 1) := by decide +kernel
theorem dX12_isClean_10 : decode cX12_isClean 10 = .ok (.invokevirtual 182, 3) := by decide +kernel
theorem dX12_isClean_13 : decode cX12_isClean 13 = .ok (.ireturn, 1) := by decide +kernel
theorem dX12_isClean_14 : decode cX12_isClean 14 = .ok (.aload_n 0, 1) := by decide +kernel
theorem dX12_isClean_15 : decode cX12_isClean 15 = .ok (.iload_n 1, 1) := by decide +kernel
theorem dX12_isClean_16 : decode cX12_isClean 16 = .ok (.invokevirtual 111, 3) := by decide +kernel
theorem dX12_isClean_19 : decode cX12_isClean 19 = .ok (.getfield 369, 3) := by decide +kernel
theorem dX12_isClean_22 : decode cX12_isClean 22 = .ok (.ifCond .eq 34, 3) := by decide +kernel
theorem dX12_isClean_25 : decode cX12_isClean 25 = .ok (.aload_n 0, 1) := by decide +kernel
theorem dX12_isClean_26 : decode cX12_isClean 26 = .ok (.aload_n 0, 1) := by decide +kernel
theorem dX12_isClean_27 : decode cX12_isClean 27 = .ok (.iload_n 1, 1) := by decide +kernel
theorem dX12_isClean_28 : decode cX12_isClean 28 = .ok (.invokevirtual 111, 3) := by decide +kernel
theorem dX12_isClean_31 : decode cX12_isClean 31 = .ok (.getfield 389, 3) := by decide +kernel
theorem dX12_isClean_34 : decode cX12_isClean 34 = .ok (.aload_n 0, 1) := by decide +kernel
theorem dX12_isClean_35 : decode cX12_isClean 35 = .ok (.iload_n 1, 1) := by decide +kernel
theorem dX12_isClean_36 : decode cX12_isClean 36 = .ok (.invokevirtual 111, 3) := by decide +kernel
theorem dX12_isClean_39 : decode cX12_isClean 39 = .ok (.getfield 386, 3) := by decide +kernel
theorem dX12_isClean_42 : decode cX12_isClean 42 = .ok (.if_icmp .lt 7, 3) := by decide +kernel
theorem dX12_isClean_45 : decode cX12_isClean 45 = .ok (.iconst 1, 1) := by decide +kernel
theorem dX12_isClean_46 : decode cX12_isClean 46 = .ok (.goto 4, 3) := by decide +kernel
theorem dX12_isClean_49 : decode cX12_isClean 49 = .ok (.iconst 0, 1) := by decide +kernel
theorem dX12_isClean_50 : decode cX12_isClean 50 = .ok (.invokevirtual 178, 3) := by decide +kernel
theorem dX12_isClean_53 : decode cX12_isClean 53 = .ok (.goto 8, 3) := by decide +kernel
theorem dX12_isClean_56 : decode cX12_isClean 56 = .ok (.aload_n 0, 1) := by decide +kernel
theorem dX12_isClean_57 : decode cX12_isClean 57 = .ok (.iconst 2, 1) := by decide +kernel
theorem dX12_isClean_58 : decode cX12_isClean 58 = .ok (.invokevirtual 182, 3) := by decide +kernel
theorem dX12_isClean_61 : decode cX12_isClean 61 = .ok (.ireturn, 1) := by decide +kernel
set_option maxRecDepth 20000 in
theorem ggX12_grind_X12_isGear : GoodIn wsX12_grind wsX12_isGear := goodIn_r _ [11, 12, 13, 14, 15, 16, 17, 18, 19, 20, 10, 21, 83, 84, 85, 86, 87, 88, 89, 90, 91, 92, 93, 94, 95, 96, 97, 98, 99, 100, 101, 102, 103, 104, 105, 106, 107, 108, 109, 110, 111, 112, 113, 114, 115, 116, 117, 118, 119] (by decide +kernel) (by decide +kernel)
set_option maxRecDepth 20000 in
theorem gX12_grind_X12_isGear : GoodIn wsX12_grind (wsV RX12 121 RX12 yX12_isGear wsX12_isGear) := goodIn_app (goodIn_of _ (by decide +kernel)) ggX12_grind_X12_isGear
set_option maxRecDepth 20000 in
theorem ggX12_grind_X12_fails : GoodIn wsX12_grind wsX12_fails := goodIn_r _ [25, 26, 83, 84, 85, 86, 87, 88, 89, 90, 91, 92, 93, 94, 95, 96, 97, 98, 99, 100, 101, 102, 103, 104, 105, 106, 107, 108, 109, 110, 111, 112, 113, 114, 115, 116] (by decide +kernel) (by decide +kernel)
set_option maxRecDepth 20000 in
theorem gX12_grind_X12_fails : GoodIn wsX12_grind (wsV RX12 143 RX12 yX12_fails wsX12_fails) := goodIn_app (goodIn_of _ (by decide +kernel)) ggX12_grind_X12_fails
set_option maxRecDepth 20000 in
theorem ggX12_grind_X12_in : GoodIn wsX12_grind wsX12_in := goodIn_r _ [21] (by decide +kernel) (by decide +kernel)
set_option maxRecDepth 20000 in
theorem gX12_grind_X12_in : GoodIn wsX12_grind (va_wsS RX12 101 yX12_in wsX12_in) := goodIn_app (goodIn_of _ (by decide +kernel)) ggX12_grind_X12_in
set_option maxRecDepth 20000 in
theorem ggX12_grind_X12_gearAt : GoodIn wsX12_grind wsX12_gearAt := goodIn_r _ [30, 12, 31, 32, 33, 34, 16, 35, 18, 36, 37, 38, 39, 40, 41, 42, 43, 44, 45, 46, 47, 48, 83, 84, 85, 86, 87, 88, 89, 90, 91, 92, 93, 94, 95, 96, 97, 98, 99, 100, 101, 102, 103, 104, 105, 106, 107, 108, 109, 110, 111, 112, 113, 114, 115, 116, 117, 118, 119] (by decide +kernel) (by decide +kernel)
set_option maxRecDepth 20000 in
theorem gX12_grind_X12_gearAt : GoodIn wsX12_grind (wsV RX12 111 RX12 yX12_gearAt wsX12_gearAt) := goodIn_app (goodIn_of _ (by decide +kernel)) ggX12_grind_X12_gearAt
set_option maxRecDepth 20000 in
theorem ggX12_grind_X10_isBroken : GoodIn wsX12_grind wsX10_isBroken := goodIn_r _ [53, 54, 55, 60, 61, 62, 63, 64, 65, 66, 67, 68, 69, 70, 71, 72, 73, 74, 75, 76, 77, 78, 79, 80, 81, 82] (by decide +kernel) (by decide +kernel)
set_option maxRecDepth 20000 in
theorem gX12_grind_X10_isBroken : GoodIn wsX12_grind (wsV RX12 375 RX10 yX10_isBroken wsX10_isBroken) := goodIn_app (goodIn_of _ (by decide +kernel)) ggX12_grind_X10_isBroken
set_option maxRecDepth 20000 in
theorem ggX12_grind_X12_answer : GoodIn wsX12_grind wsX12_answer := goodIn_r _ [59, 26, 83, 84, 85, 86, 87, 88, 89, 90, 91, 92, 93, 94, 95, 96, 97, 98, 99, 100, 101, 102, 103, 104, 105, 106, 107, 108, 109, 110, 111, 112, 113, 114, 115, 116] (by decide +kernel) (by decide +kernel)
set_option maxRecDepth 20000 in
theorem gX12_grind_X12_answer : GoodIn wsX12_grind (wsV RX12 153 RX12 yX12_answer wsX12_answer) := goodIn_app (goodIn_of _ (by decide +kernel)) ggX12_grind_X12_answer
theorem dX12_grind_0 : decode cX12_grind 0 = .ok (.aload_n 0, 1) := by decide +kernel
theorem dX12_grind_1 : decode cX12_grind 1 = .ok (.iload_n 1, 1) := by decide +kernel
theorem dX12_grind_2 : decode cX12_grind 2 = .ok (.invokevirtual 121, 3) := by decide +kernel
theorem dX12_grind_5 : decode cX12_grind 5 = .ok (.ifCond .ne 9, 3) := by decide +kernel
theorem dX12_grind_8 : decode cX12_grind 8 = .ok (.aload_n 0, 1) := by decide +kernel
theorem dX12_grind_9 : decode cX12_grind 9 = .ok (.iconst 1, 1) := by decide +kernel
theorem dX12_grind_10 : decode cX12_grind 10 = .ok (.invokevirtual 143, 3) := by decide +kernel
theorem dX12_grind_13 : decode cX12_grind 13 = .ok (.ireturn, 1) := by decide +kernel
theorem dX12_grind_14 : decode cX12_grind 14 = .ok (.iload_n 2, 1) := by decide +kernel
theorem dX12_grind_15 : decode cX12_grind 15 = .ok (.i2l, 1) := by decide +kernel
theorem dX12_grind_16 : decode cX12_grind 16 = .ok (.lconst 1, 1) := by decide +kernel
theorem dX12_grind_17 : decode cX12_grind 17 = .ok (.ldc2_w 312, 3) := by decide +kernel
theorem dX12_grind_20 : decode cX12_grind 20 = .ok (.invokestatic 101, 3) := by decide +kernel
theorem dX12_grind_23 : decode cX12_grind 23 = .ok (.ifCond .eq 15, 3) := by decide +kernel
theorem dX12_grind_26 : decode cX12_grind 26 = .ok (.iload_n 3, 1) := by decide +kernel
theorem dX12_grind_27 : decode cX12_grind 27 = .ok (.i2l, 1) := by decide +kernel
theorem dX12_grind_28 : decode cX12_grind 28 = .ok (.lconst 1, 1) := by decide +kernel
theorem dX12_grind_29 : decode cX12_grind 29 = .ok (.ldc2_w 395, 3) := by decide +kernel
theorem dX12_grind_32 : decode cX12_grind 32 = .ok (.invokestatic 101, 3) := by decide +kernel
theorem dX12_grind_35 : decode cX12_grind 35 = .ok (.ifCond .ne 9, 3) := by decide +kernel
theorem dX12_grind_38 : decode cX12_grind 38 = .ok (.aload_n 0, 1) := by decide +kernel
theorem dX12_grind_39 : decode cX12_grind 39 = .ok (.iconst 2, 1) := by decide +kernel
theorem dX12_grind_40 : decode cX12_grind 40 = .ok (.invokevirtual 143, 3) := by decide +kernel
theorem dX12_grind_43 : decode cX12_grind 43 = .ok (.ireturn, 1) := by decide +kernel
theorem dX12_grind_44 : decode cX12_grind 44 = .ok (.aload_n 0, 1) := by decide +kernel
theorem dX12_grind_45 : decode cX12_grind 45 = .ok (.iload_n 1, 1) := by decide +kernel
theorem dX12_grind_46 : decode cX12_grind 46 = .ok (.invokevirtual 111, 3) := by decide +kernel
theorem dX12_grind_49 : decode cX12_grind 49 = .ok (.astore 4, 2) := by decide +kernel
theorem dX12_grind_51 : decode cX12_grind 51 = .ok (.aload 4, 2) := by decide +kernel
theorem dX12_grind_53 : decode cX12_grind 53 = .ok (.getfield 160, 3) := by decide +kernel
theorem dX12_grind_56 : decode cX12_grind 56 = .ok (.ifCond .eq 27, 3) := by decide +kernel
theorem dX12_grind_59 : decode cX12_grind 59 = .ok (.aload 4, 2) := by decide +kernel
theorem dX12_grind_61 : decode cX12_grind 61 = .ok (.getfield 372, 3) := by decide +kernel
theorem dX12_grind_64 : decode cX12_grind 64 = .ok (.ifCond .ne 19, 3) := by decide +kernel
theorem dX12_grind_67 : decode cX12_grind 67 = .ok (.aload 4, 2) := by decide +kernel
theorem dX12_grind_69 : decode cX12_grind 69 = .ok (.invokevirtual 375, 3) := by decide +kernel
theorem dX12_grind_72 : decode cX12_grind 72 = .ok (.ifCond .ne 11, 3) := by decide +kernel
theorem dX12_grind_75 : decode cX12_grind 75 = .ok (.aload 4, 2) := by decide +kernel
theorem dX12_grind_77 : decode cX12_grind 77 = .ok (.getfield 356, 3) := by decide +kernel
theorem dX12_grind_80 : decode cX12_grind 80 = .ok (.ifCond .ne 9, 3) := by decide +kernel
theorem dX12_grind_83 : decode cX12_grind 83 = .ok (.aload_n 0, 1) := by decide +kernel
theorem dX12_grind_84 : decode cX12_grind 84 = .ok (.iconst 3, 1) := by decide +kernel
theorem dX12_grind_85 : decode cX12_grind 85 = .ok (.invokevirtual 143, 3) := by decide +kernel
theorem dX12_grind_88 : decode cX12_grind 88 = .ok (.ireturn, 1) := by decide +kernel
theorem dX12_grind_89 : decode cX12_grind 89 = .ok (.iload_n 2, 1) := by decide +kernel
theorem dX12_grind_90 : decode cX12_grind 90 = .ok (.aload 4, 2) := by decide +kernel
theorem dX12_grind_92 : decode cX12_grind 92 = .ok (.getfield 356, 3) := by decide +kernel
theorem dX12_grind_95 : decode cX12_grind 95 = .ok (.invokestatic 212, 3) := by decide +kernel
theorem dX12_grind_98 : decode cX12_grind 98 = .ok (.istore 5, 2) := by decide +kernel
theorem dX12_grind_100 : decode cX12_grind 100 = .ok (.aload 4, 2) := by decide +kernel
theorem dX12_grind_102 : decode cX12_grind 102 = .ok (.dup, 1) := by decide +kernel
theorem dX12_grind_103 : decode cX12_grind 103 = .ok (.getfield 356, 3) := by decide +kernel
theorem dX12_grind_106 : decode cX12_grind 106 = .ok (.iload 5, 2) := by decide +kernel
theorem dX12_grind_108 : decode cX12_grind 108 = .ok (.isub, 1) := by decide +kernel
theorem dX12_grind_109 : decode cX12_grind 109 = .ok (.putfield 356, 3) := by decide +kernel
theorem dX12_grind_112 : decode cX12_grind 112 = .ok (.aload 4, 2) := by decide +kernel
theorem dX12_grind_114 : decode cX12_grind 114 = .ok (.dup, 1) := by decide +kernel
theorem dX12_grind_115 : decode cX12_grind 115 = .ok (.getfield 397, 3) := by decide +kernel
theorem dX12_grind_118 : decode cX12_grind 118 = .ok (.aload 4, 2) := by decide +kernel
theorem dX12_grind_120 : decode cX12_grind 120 = .ok (.getfield 369, 3) := by decide +kernel
theorem dX12_grind_123 : decode cX12_grind 123 = .ok (.ifCond .eq 8, 3) := by decide +kernel
theorem dX12_grind_126 : decode cX12_grind 126 = .ok (.iload 5, 2) := by decide +kernel
theorem dX12_grind_128 : decode cX12_grind 128 = .ok (.goto 4, 3) := by decide +kernel
theorem dX12_grind_131 : decode cX12_grind 131 = .ok (.iconst 0, 1) := by decide +kernel
theorem dX12_grind_132 : decode cX12_grind 132 = .ok (.iadd, 1) := by decide +kernel
theorem dX12_grind_133 : decode cX12_grind 133 = .ok (.putfield 397, 3) := by decide +kernel
theorem dX12_grind_136 : decode cX12_grind 136 = .ok (.aload 4, 2) := by decide +kernel
theorem dX12_grind_138 : decode cX12_grind 138 = .ok (.aload 4, 2) := by decide +kernel
theorem dX12_grind_140 : decode cX12_grind 140 = .ok (.getfield 356, 3) := by decide +kernel
theorem dX12_grind_143 : decode cX12_grind 143 = .ok (.ifCond .ne 7, 3) := by decide +kernel
theorem dX12_grind_146 : decode cX12_grind 146 = .ok (.iconst 1, 1) := by decide +kernel
theorem dX12_grind_147 : decode cX12_grind 147 = .ok (.goto 4, 3) := by decide +kernel
theorem dX12_grind_150 : decode cX12_grind 150 = .ok (.iconst 0, 1) := by decide +kernel
theorem dX12_grind_151 : decode cX12_grind 151 = .ok (.putfield 400, 3) := by decide +kernel
theorem dX12_grind_154 : decode cX12_grind 154 = .ok (.aload 4, 2) := by decide +kernel
theorem dX12_grind_156 : decode cX12_grind 156 = .ok (.iload 5, 2) := by decide +kernel
theorem dX12_grind_158 : decode cX12_grind 158 = .ok (.bipush 30, 2) := by decide +kernel
theorem dX12_grind_160 : decode cX12_grind 160 = .ok (.if_icmp .gt 16, 3) := by decide +kernel
theorem dX12_grind_163 : decode cX12_grind 163 = .ok (.iload 5, 2) := by decide +kernel
theorem dX12_grind_165 : decode cX12_grind 165 = .ok (.bipush 20, 2) := by decide +kernel
theorem dX12_grind_167 : decode cX12_grind 167 = .ok (.if_icmp .le 13, 3) := by decide +kernel
theorem dX12_grind_170 : decode cX12_grind 170 = .ok (.iload_n 3, 1) := by decide +kernel
theorem dX12_grind_171 : decode cX12_grind 171 = .ok (.bipush 100, 2) := by decide +kernel
theorem dX12_grind_173 : decode cX12_grind 173 = .ok (.if_icmp .le 7, 3) := by decide +kernel
theorem dX12_grind_176 : decode cX12_grind 176 = .ok (.iconst 1, 1) := by decide +kernel
theorem dX12_grind_177 : decode cX12_grind 177 = .ok (.goto 4, 3) := by decide +kernel
theorem dX12_grind_180 : decode cX12_grind 180 = .ok (.iconst 0, 1) := by decide +kernel
theorem dX12_grind_181 : decode cX12_grind 181 = .ok (.putfield 372, 3) := by decide +kernel
theorem dX12_grind_184 : decode cX12_grind 184 = .ok (.aload_n 0, 1) := by decide +kernel
theorem dX12_grind_185 : decode cX12_grind 185 = .ok (.aload 4, 2) := by decide +kernel
theorem dX12_grind_187 : decode cX12_grind 187 = .ok (.getfield 356, 3) := by decide +kernel
theorem dX12_grind_190 : decode cX12_grind 190 = .ok (.invokevirtual 153, 3) := by decide +kernel
theorem dX12_grind_193 : decode cX12_grind 193 = .ok (.ireturn, 1) := by decide +kernel
set_option maxRecDepth 20000 in
theorem ggX12_stateOf_X12_isGear : GoodIn wsX12_stateOf wsX12_isGear := goodIn_r _ [6, 7, 8, 9, 10, 11, 12, 13, 14, 15, 5, 16, 46, 47, 48, 49, 50, 51, 52, 53, 54, 55, 56, 57, 58, 59, 60, 61, 62, 63, 64, 65, 66, 67, 68, 69, 70, 71, 72, 73, 74, 75, 76, 77, 78, 79, 103, 104, 105] (by decide +kernel) (by decide +kernel)
set_option maxRecDepth 20000 in
theorem gX12_stateOf_X12_isGear : GoodIn wsX12_stateOf (wsV RX12 121 RX12 yX12_isGear wsX12_isGear) := goodIn_app (goodIn_of _ (by decide +kernel)) ggX12_stateOf_X12_isGear
set_option maxRecDepth 20000 in
theorem ggX12_stateOf_X12_gearAt : GoodIn wsX12_stateOf wsX12_gearAt := goodIn_r _ [20, 7, 21, 22, 23, 24, 11, 25, 13, 26, 27, 28, 29, 30, 31, 32, 33, 34, 35, 36, 37, 38, 46, 47, 48, 49, 50, 51, 52, 53, 54, 55, 56, 57, 58, 59, 60, 61, 62, 63, 64, 65, 66, 67, 68, 69, 70, 71, 72, 73, 74, 75, 76, 77, 78, 79, 103, 104, 105] (by decide +kernel) (by decide +kernel)
set_option maxRecDepth 20000 in
theorem gX12_stateOf_X12_gearAt : GoodIn wsX12_stateOf (wsV RX12 111 RX12 yX12_gearAt wsX12_gearAt) := goodIn_app (goodIn_of _ (by decide +kernel)) ggX12_stateOf_X12_gearAt
set_option maxRecDepth 20000 in
theorem ggX12_stateOf_X10_isBroken : GoodIn wsX12_stateOf wsX10_isBroken := goodIn_r _ [43, 44, 45, 80, 81, 82, 83, 84, 85, 86, 87, 88, 89, 90, 91, 92, 93, 94, 95, 96, 97, 98, 99, 100, 101, 102] (by decide +kernel) (by decide +kernel)
set_option maxRecDepth 20000 in
theorem gX12_stateOf_X10_isBroken : GoodIn wsX12_stateOf (wsV RX12 375 RX10 yX10_isBroken wsX10_isBroken) := goodIn_app (goodIn_of _ (by decide +kernel)) ggX12_stateOf_X10_isBroken
theorem dX12_stateOf_0 : decode cX12_stateOf 0 = .ok (.aload_n 0, 1) := by decide +kernel
theorem dX12_stateOf_1 : decode cX12_stateOf 1 = .ok (.aload_n 0, 1) := by decide +kernel
theorem dX12_stateOf_2 : decode cX12_stateOf 2 = .ok (.iload_n 1, 1) := by decide +kernel
theorem dX12_stateOf_3 : decode cX12_stateOf 3 = .ok (.invokevirtual 121, 3) := by decide +kernel
theorem dX12_stateOf_6 : decode cX12_stateOf 6 = .ok (.ifCond .eq 7, 3) := by decide +kernel
theorem dX12_stateOf_9 : decode cX12_stateOf 9 = .ok (.iconst 0, 1) := by decide +kernel
theorem dX12_stateOf_10 : decode cX12_stateOf 10 = .ok (.goto 4, 3) := by decide +kernel
theorem dX12_stateOf_13 : decode cX12_stateOf 13 = .ok (.iconst 1, 1) := by decide +kernel
theorem dX12_stateOf_14 : decode cX12_stateOf 14 = .ok (.putfield 94, 3) := by decide +kernel
theorem dX12_stateOf_17 : decode cX12_stateOf 17 = .ok (.aload_n 0, 1) := by decide +kernel
theorem dX12_stateOf_18 : decode cX12_stateOf 18 = .ok (.getfield 94, 3) := by decide +kernel
theorem dX12_stateOf_21 : decode cX12_stateOf 21 = .ok (.ifCond .le 5, 3) := by decide +kernel
theorem dX12_stateOf_24 : decode cX12_stateOf 24 = .ok (.iconst 0, 1) := by decide +kernel
theorem dX12_stateOf_25 : decode cX12_stateOf 25 = .ok (.ireturn, 1) := by decide +kernel
theorem dX12_stateOf_26 : decode cX12_stateOf 26 = .ok (.aload_n 0, 1) := by decide +kernel
theorem dX12_stateOf_27 : decode cX12_stateOf 27 = .ok (.iload_n 1, 1) := by decide +kernel
theorem dX12_stateOf_28 : decode cX12_stateOf 28 = .ok (.invokevirtual 111, 3) := by decide +kernel
theorem dX12_stateOf_31 : decode cX12_stateOf 31 = .ok (.astore_n 2, 1) := by decide +kernel
theorem dX12_stateOf_32 : decode cX12_stateOf 32 = .ok (.aload_n 2, 1) := by decide +kernel
theorem dX12_stateOf_33 : decode cX12_stateOf 33 = .ok (.invokevirtual 375, 3) := by decide +kernel
theorem dX12_stateOf_36 : decode cX12_stateOf 36 = .ok (.ifCond .eq 6, 3) := by decide +kernel
theorem dX12_stateOf_39 : decode cX12_stateOf 39 = .ok (.bipush 47, 2) := by decide +kernel
theorem dX12_stateOf_41 : decode cX12_stateOf 41 = .ok (.ireturn, 1) := by decide +kernel
theorem dX12_stateOf_42 : decode cX12_stateOf 42 = .ok (.aload_n 2, 1) := by decide +kernel
theorem dX12_stateOf_43 : decode cX12_stateOf 43 = .ok (.getfield 372, 3) := by decide +kernel
theorem dX12_stateOf_46 : decode cX12_stateOf 46 = .ok (.ifCond .eq 6, 3) := by decide +kernel
theorem dX12_stateOf_49 : decode cX12_stateOf 49 = .ok (.bipush 120, 2) := by decide +kernel
theorem dX12_stateOf_51 : decode cX12_stateOf 51 = .ok (.ireturn, 1) := by decide +kernel
theorem dX12_stateOf_52 : decode cX12_stateOf 52 = .ok (.aload_n 2, 1) := by decide +kernel
theorem dX12_stateOf_53 : decode cX12_stateOf 53 = .ok (.getfield 400, 3) := by decide +kernel
theorem dX12_stateOf_56 : decode cX12_stateOf 56 = .ok (.ifCond .eq 6, 3) := by decide +kernel
theorem dX12_stateOf_59 : decode cX12_stateOf 59 = .ok (.bipush 103, 2) := by decide +kernel
theorem dX12_stateOf_61 : decode cX12_stateOf 61 = .ok (.ireturn, 1) := by decide +kernel
theorem dX12_stateOf_62 : decode cX12_stateOf 62 = .ok (.aload_n 2, 1) := by decide +kernel
theorem dX12_stateOf_63 : decode cX12_stateOf 63 = .ok (.getfield 369, 3) := by decide +kernel
theorem dX12_stateOf_66 : decode cX12_stateOf 66 = .ok (.ifCond .eq 8, 3) := by decide +kernel
theorem dX12_stateOf_69 : decode cX12_stateOf 69 = .ok (.bipush 104, 2) := by decide +kernel
theorem dX12_stateOf_71 : decode cX12_stateOf 71 = .ok (.goto 17, 3) := by decide +kernel
theorem dX12_stateOf_74 : decode cX12_stateOf 74 = .ok (.aload_n 2, 1) := by decide +kernel
theorem dX12_stateOf_75 : decode cX12_stateOf 75 = .ok (.getfield 160, 3) := by decide +kernel
theorem dX12_stateOf_78 : decode cX12_stateOf 78 = .ok (.ifCond .eq 8, 3) := by decide +kernel
theorem dX12_stateOf_81 : decode cX12_stateOf 81 = .ok (.bipush 99, 2) := by decide +kernel
theorem dX12_stateOf_83 : decode cX12_stateOf 83 = .ok (.goto 5, 3) := by decide +kernel
theorem dX12_stateOf_86 : decode cX12_stateOf 86 = .ok (.bipush 98, 2) := by decide +kernel
theorem dX12_stateOf_88 : decode cX12_stateOf 88 = .ok (.ireturn, 1) := by decide +kernel
set_option maxRecDepth 20000 in
theorem ggX12_chart_X12_isGear : GoodIn wsX12_chart wsX12_isGear := goodIn_r _ [7, 8, 9, 10, 11, 12, 13, 14, 15, 16, 6, 17, 72, 73, 74, 75, 76, 77, 78, 79, 80, 81, 82, 83, 84, 85, 86, 87, 88, 89, 90, 91, 92, 93, 94, 95, 96, 97, 98, 99, 100, 101, 102, 103, 104, 105, 106, 107, 108] (by decide +kernel) (by decide +kernel)
set_option maxRecDepth 20000 in
theorem gX12_chart_X12_isGear : GoodIn wsX12_chart (wsV RX12 121 RX12 yX12_isGear wsX12_isGear) := goodIn_app (goodIn_of _ (by decide +kernel)) ggX12_chart_X12_isGear
set_option maxRecDepth 20000 in
theorem ggX12_chart_X12_fails : GoodIn wsX12_chart wsX12_fails := goodIn_r _ [21, 22, 72, 73, 74, 75, 76, 77, 78, 79, 80, 81, 82, 83, 84, 85, 86, 87, 88, 89, 90, 91, 92, 93, 94, 95, 96, 97, 98, 99, 100, 101, 102, 103, 104, 105] (by decide +kernel) (by decide +kernel)
set_option maxRecDepth 20000 in
theorem gX12_chart_X12_fails : GoodIn wsX12_chart (wsV RX12 143 RX12 yX12_fails wsX12_fails) := goodIn_app (goodIn_of _ (by decide +kernel)) ggX12_chart_X12_fails
set_option maxRecDepth 20000 in
theorem ggX12_chart_X12_gearAt : GoodIn wsX12_chart wsX12_gearAt := goodIn_r _ [26, 8, 27, 28, 29, 30, 12, 31, 14, 32, 33, 34, 35, 36, 37, 38, 39, 40, 41, 42, 43, 44, 72, 73, 74, 75, 76, 77, 78, 79, 80, 81, 82, 83, 84, 85, 86, 87, 88, 89, 90, 91, 92, 93, 94, 95, 96, 97, 98, 99, 100, 101, 102, 103, 104, 105, 106, 107, 108] (by decide +kernel) (by decide +kernel)
set_option maxRecDepth 20000 in
theorem gX12_chart_X12_gearAt : GoodIn wsX12_chart (wsV RX12 111 RX12 yX12_gearAt wsX12_gearAt) := goodIn_app (goodIn_of _ (by decide +kernel)) ggX12_chart_X12_gearAt
set_option maxRecDepth 20000 in
theorem ggX12_chart_X12_in : GoodIn wsX12_chart wsX12_in := goodIn_r _ [17] (by decide +kernel) (by decide +kernel)
set_option maxRecDepth 20000 in
theorem gX12_chart_X12_in : GoodIn wsX12_chart (va_wsS RX12 101 yX12_in wsX12_in) := goodIn_app (goodIn_of _ (by decide +kernel)) ggX12_chart_X12_in
set_option maxRecDepth 20000 in
theorem ggX12_chart_X12_answer : GoodIn wsX12_chart wsX12_answer := goodIn_r _ [48, 22, 72, 73, 74, 75, 76, 77, 78, 79, 80, 81, 82, 83, 84, 85, 86, 87, 88, 89, 90, 91, 92, 93, 94, 95, 96, 97, 98, 99, 100, 101, 102, 103, 104, 105] (by decide +kernel) (by decide +kernel)
set_option maxRecDepth 20000 in
theorem gX12_chart_X12_answer : GoodIn wsX12_chart (wsV RX12 153 RX12 yX12_answer wsX12_answer) := goodIn_app (goodIn_of _ (by decide +kernel)) ggX12_chart_X12_answer
theorem dX12_chart_0 : decode cX12_chart 0 = .ok (.aload_n 0, 1) := by decide +kernel
theorem dX12_chart_1 : decode cX12_chart 1 = .ok (.iload_n 1, 1) := by decide +kernel
theorem dX12_chart_2 : decode cX12_chart 2 = .ok (.invokevirtual 121, 3) := by decide +kernel
theorem dX12_chart_5 : decode cX12_chart 5 = .ok (.ifCond .ne 9, 3) := by decide +kernel
theorem dX12_chart_8 : decode cX12_chart 8 = .ok (.aload_n 0, 1) := by decide +kernel
theorem dX12_chart_9 : decode cX12_chart 9 = .ok (.iconst 1, 1) := by decide +kernel
theorem dX12_chart_10 : decode cX12_chart 10 = .ok (.invokevirtual 143, 3) := by decide +kernel
theorem dX12_chart_13 : decode cX12_chart 13 = .ok (.ireturn, 1) := by decide +kernel
theorem dX12_chart_14 : decode cX12_chart 14 = .ok (.iload_n 2, 1) := by decide +kernel
theorem dX12_chart_15 : decode cX12_chart 15 = .ok (.i2l, 1) := by decide +kernel
theorem dX12_chart_16 : decode cX12_chart 16 = .ok (.lconst 0, 1) := by decide +kernel
theorem dX12_chart_17 : decode cX12_chart 17 = .ok (.aload_n 0, 1) := by decide +kernel
theorem dX12_chart_18 : decode cX12_chart 18 = .ok (.iload_n 1, 1) := by decide +kernel
theorem dX12_chart_19 : decode cX12_chart 19 = .ok (.invokevirtual 111, 3) := by decide +kernel
theorem dX12_chart_22 : decode cX12_chart 22 = .ok (.getfield 332, 3) := by decide +kernel
theorem dX12_chart_25 : decode cX12_chart 25 = .ok (.iconst 1, 1) := by decide +kernel
theorem dX12_chart_26 : decode cX12_chart 26 = .ok (.isub, 1) := by decide +kernel
theorem dX12_chart_27 : decode cX12_chart 27 = .ok (.i2l, 1) := by decide +kernel
theorem dX12_chart_28 : decode cX12_chart 28 = .ok (.invokestatic 101, 3) := by decide +kernel
theorem dX12_chart_31 : decode cX12_chart 31 = .ok (.ifCond .eq 17, 3) := by decide +kernel
theorem dX12_chart_34 : decode cX12_chart 34 = .ok (.iload_n 3, 1) := by decide +kernel
theorem dX12_chart_35 : decode cX12_chart 35 = .ok (.i2l, 1) := by decide +kernel
theorem dX12_chart_36 : decode cX12_chart 36 = .ok (.ldc2_w 137, 3) := by decide +kernel
theorem dX12_chart_39 : decode cX12_chart 39 = .ok (.ldc2_w 133, 3) := by decide +kernel
theorem dX12_chart_42 : decode cX12_chart 42 = .ok (.invokestatic 101, 3) := by decide +kernel
theorem dX12_chart_45 : decode cX12_chart 45 = .ok (.ifCond .ne 9, 3) := by decide +kernel
theorem dX12_chart_48 : decode cX12_chart 48 = .ok (.aload_n 0, 1) := by decide +kernel
theorem dX12_chart_49 : decode cX12_chart 49 = .ok (.iconst 2, 1) := by decide +kernel
theorem dX12_chart_50 : decode cX12_chart 50 = .ok (.invokevirtual 143, 3) := by decide +kernel
theorem dX12_chart_53 : decode cX12_chart 53 = .ok (.ireturn, 1) := by decide +kernel
theorem dX12_chart_54 : decode cX12_chart 54 = .ok (.aload_n 0, 1) := by decide +kernel
theorem dX12_chart_55 : decode cX12_chart 55 = .ok (.iload_n 1, 1) := by decide +kernel
theorem dX12_chart_56 : decode cX12_chart 56 = .ok (.invokevirtual 111, 3) := by decide +kernel
theorem dX12_chart_59 : decode cX12_chart 59 = .ok (.getfield 403, 3) := by decide +kernel
theorem dX12_chart_62 : decode cX12_chart 62 = .ok (.iload_n 2, 1) := by decide +kernel
theorem dX12_chart_63 : decode cX12_chart 63 = .ok (.iaload, 1) := by decide +kernel
theorem dX12_chart_64 : decode cX12_chart 64 = .ok (.istore 4, 2) := by decide +kernel
theorem dX12_chart_66 : decode cX12_chart 66 = .ok (.aload_n 0, 1) := by decide +kernel
theorem dX12_chart_67 : decode cX12_chart 67 = .ok (.iload_n 1, 1) := by decide +kernel
theorem dX12_chart_68 : decode cX12_chart 68 = .ok (.invokevirtual 111, 3) := by decide +kernel
theorem dX12_chart_71 : decode cX12_chart 71 = .ok (.getfield 403, 3) := by decide +kernel
theorem dX12_chart_74 : decode cX12_chart 74 = .ok (.iload_n 2, 1) := by decide +kernel
theorem dX12_chart_75 : decode cX12_chart 75 = .ok (.iload_n 3, 1) := by decide +kernel
theorem dX12_chart_76 : decode cX12_chart 76 = .ok (.iastore, 1) := by decide +kernel
theorem dX12_chart_77 : decode cX12_chart 77 = .ok (.aload_n 0, 1) := by decide +kernel
theorem dX12_chart_78 : decode cX12_chart 78 = .ok (.iload 4, 2) := by decide +kernel
theorem dX12_chart_80 : decode cX12_chart 80 = .ok (.invokevirtual 153, 3) := by decide +kernel
theorem dX12_chart_83 : decode cX12_chart 83 = .ok (.ireturn, 1) := by decide +kernel
set_option maxRecDepth 20000 in
theorem ggX12_total_X12_isGear : GoodIn wsX12_total wsX12_isGear := goodIn_r _ [5, 6, 7, 8, 9, 10, 11, 12, 13, 14, 4, 15, 65, 66, 67, 68, 69, 70, 71, 72, 73, 74, 75, 76, 77, 78, 79, 80, 81, 82, 83, 84, 85, 86, 87, 88, 89, 90, 91, 92, 93, 94, 95, 96, 97, 98, 99, 100, 101] (by decide +kernel) (by decide +kernel)
set_option maxRecDepth 20000 in
theorem gX12_total_X12_isGear : GoodIn wsX12_total (wsV RX12 121 RX12 yX12_isGear wsX12_isGear) := goodIn_app (goodIn_of _ (by decide +kernel)) ggX12_total_X12_isGear
set_option maxRecDepth 20000 in
theorem ggX12_total_X12_gearAt : GoodIn wsX12_total wsX12_gearAt := goodIn_r _ [19, 6, 20, 21, 22, 23, 10, 24, 12, 25, 26, 27, 28, 29, 30, 31, 32, 33, 34, 35, 36, 37, 65, 66, 67, 68, 69, 70, 71, 72, 73, 74, 75, 76, 77, 78, 79, 80, 81, 82, 83, 84, 85, 86, 87, 88, 89, 90, 91, 92, 93, 94, 95, 96, 97, 98, 99, 100, 101] (by decide +kernel) (by decide +kernel)
set_option maxRecDepth 20000 in
theorem gX12_total_X12_gearAt : GoodIn wsX12_total (wsV RX12 111 RX12 yX12_gearAt wsX12_gearAt) := goodIn_app (goodIn_of _ (by decide +kernel)) ggX12_total_X12_gearAt
set_option maxRecDepth 20000 in
theorem ggX12_total_X10_total : GoodIn wsX12_total wsX10_total := goodIn_ca (goodIn_ca (goodIn_r _ [42, 43, 44, 45, 46, 47, 48, 49, 50, 51, 52, 53, 54, 41, 55, 102, 103, 104, 105, 106, 107, 108, 109, 110, 111, 112, 113, 114, 115, 116, 117, 118, 119, 120, 121, 122, 123, 124] (by decide +kernel) (by decide +kernel)) (goodIn_sub (fun _ h => List.mem_cons_of_mem _ (List.mem_append_left _ (List.mem_append_right _ h))) (by decide +kernel))) (goodIn_sub (fun _ h => List.mem_cons_of_mem _ (List.mem_append_right _ h)) (by decide +kernel))
set_option maxRecDepth 20000 in
theorem gX12_total_X10_total : GoodIn wsX12_total (wsV RX12 406 RX10 yX10_total wsX10_total) := goodIn_app (goodIn_of _ (by decide +kernel)) ggX12_total_X10_total
set_option maxRecDepth 20000 in
theorem ggX12_total_X12_answer : GoodIn wsX12_total wsX12_answer := goodIn_r _ [59, 60, 65, 66, 67, 68, 69, 70, 71, 72, 73, 74, 75, 76, 77, 78, 79, 80, 81, 82, 83, 84, 85, 86, 87, 88, 89, 90, 91, 92, 93, 94, 95, 96, 97, 98] (by decide +kernel) (by decide +kernel)
set_option maxRecDepth 20000 in
theorem gX12_total_X12_answer : GoodIn wsX12_total (wsV RX12 153 RX12 yX12_answer wsX12_answer) := goodIn_app (goodIn_of _ (by decide +kernel)) ggX12_total_X12_answer
set_option maxRecDepth 20000 in
theorem ggX12_total_X12_fails : GoodIn wsX12_total wsX12_fails := goodIn_r _ [64, 60, 65, 66, 67, 68, 69, 70, 71, 72, 73, 74, 75, 76, 77, 78, 79, 80, 81, 82, 83, 84, 85, 86, 87, 88, 89, 90, 91, 92, 93, 94, 95, 96, 97, 98] (by decide +kernel) (by decide +kernel)
set_option maxRecDepth 20000 in
theorem gX12_total_X12_fails : GoodIn wsX12_total (wsV RX12 143 RX12 yX12_fails wsX12_fails) := goodIn_app (goodIn_of _ (by decide +kernel)) ggX12_total_X12_fails
theorem dX12_total_0 : decode cX12_total 0 = .ok (.aload_n 0, 1) := by decide +kernel
theorem dX12_total_1 : decode cX12_total 1 = .ok (.iload_n 1, 1) := by decide +kernel
theorem dX12_total_2 : decode cX12_total 2 = .ok (.invokevirtual 121, 3) := by decide +kernel
theorem dX12_total_5 : decode cX12_total 5 = .ok (.ifCond .eq 18, 3) := by decide +kernel
theorem dX12_total_8 : decode cX12_total 8 = .ok (.aload_n 0, 1) := by decide +kernel
theorem dX12_total_9 : decode cX12_total 9 = .ok (.aload_n 0, 1) := by decide +kernel
theorem dX12_total_10 : decode cX12_total 10 = .ok (.iload_n 1, 1) := by decide +kernel
theorem dX12_total_11 : decode cX12_total 11 = .ok (.invokevirtual 111, 3) := by decide +kernel
theorem dX12_total_14 : decode cX12_total 14 = .ok (.invokevirtual 406, 3) := by decide +kernel
theorem dX12_total_17 : decode cX12_total 17 = .ok (.invokevirtual 153, 3) := by decide +kernel
theorem dX12_total_20 : decode cX12_total 20 = .ok (.goto 8, 3) := by decide +kernel
theorem dX12_total_23 : decode cX12_total 23 = .ok (.aload_n 0, 1) := by decide +kernel
theorem dX12_total_24 : decode cX12_total 24 = .ok (.iconst 1, 1) := by decide +kernel
theorem dX12_total_25 : decode cX12_total 25 = .ok (.invokevirtual 143, 3) := by decide +kernel
theorem dX12_total_28 : decode cX12_total 28 = .ok (.ireturn, 1) := by decide +kernel
set_option maxRecDepth 20000 in
theorem ggX12_grade_X12_isGear : GoodIn wsX12_grade wsX12_isGear := goodIn_r _ [5, 6, 7, 8, 9, 10, 11, 12, 13, 14, 4, 15, 82, 83, 84, 85, 86, 87, 88, 89, 90, 91, 92, 93, 94, 95, 96, 97, 98, 99, 100, 101, 102, 103, 104, 105, 106, 107, 108, 109, 110, 111, 112, 113, 114, 115, 116, 117, 118] (by decide +kernel) (by decide +kernel)
set_option maxRecDepth 20000 in
theorem gX12_grade_X12_isGear : GoodIn wsX12_grade (wsV RX12 121 RX12 yX12_isGear wsX12_isGear) := goodIn_app (goodIn_of _ (by decide +kernel)) ggX12_grade_X12_isGear
set_option maxRecDepth 20000 in
theorem ggX12_grade_X12_gearAt : GoodIn wsX12_grade wsX12_gearAt := goodIn_r _ [19, 6, 20, 21, 22, 23, 10, 24, 12, 25, 26, 27, 28, 29, 30, 31, 32, 33, 34, 35, 36, 37, 82, 83, 84, 85, 86, 87, 88, 89, 90, 91, 92, 93, 94, 95, 96, 97, 98, 99, 100, 101, 102, 103, 104, 105, 106, 107, 108, 109, 110, 111, 112, 113, 114, 115, 116, 117, 118] (by decide +kernel) (by decide +kernel)
set_option maxRecDepth 20000 in
theorem gX12_grade_X12_gearAt : GoodIn wsX12_grade (wsV RX12 111 RX12 yX12_gearAt wsX12_gearAt) := goodIn_app (goodIn_of _ (by decide +kernel)) ggX12_grade_X12_gearAt
set_option maxRecDepth 20000 in
theorem ggX12_grade_X10_grade : GoodIn wsX12_grade wsX10_grade := goodIn_ca (goodIn_ca (goodIn_r _ [42, 43, 44, 45, 46, 47, 48, 49, 50, 41, 51, 52, 53, 54, 55, 56, 57, 4, 58, 59, 60, 61, 62, 63, 64, 65, 66, 67, 68, 69, 70, 71, 72, 119, 120, 121, 122, 123, 124, 125, 126, 127, 128, 129, 130, 131, 132, 133, 134, 135, 136, 137, 138, 139, 140, 141] (by decide +kernel) (by decide +kernel)) (goodIn_sub (fun _ h => List.mem_cons_of_mem _ (List.mem_append_left _ (List.mem_append_right _ h))) (by decide +kernel))) (goodIn_sub (fun _ h => List.mem_cons_of_mem _ (List.mem_append_right _ h)) (by decide +kernel))
set_option maxRecDepth 20000 in
theorem gX12_grade_X10_grade : GoodIn wsX12_grade (wsV RX12 409 RX10 yX10_grade wsX10_grade) := goodIn_app (goodIn_of _ (by decide +kernel)) ggX12_grade_X10_grade
set_option maxRecDepth 20000 in
theorem ggX12_grade_X12_answer : GoodIn wsX12_grade wsX12_answer := goodIn_r _ [76, 77, 82, 83, 84, 85, 86, 87, 88, 89, 90, 91, 92, 93, 94, 95, 96, 97, 98, 99, 100, 101, 102, 103, 104, 105, 106, 107, 108, 109, 110, 111, 112, 113, 114, 115] (by decide +kernel) (by decide +kernel)
set_option maxRecDepth 20000 in
theorem gX12_grade_X12_answer : GoodIn wsX12_grade (wsV RX12 153 RX12 yX12_answer wsX12_answer) := goodIn_app (goodIn_of _ (by decide +kernel)) ggX12_grade_X12_answer
set_option maxRecDepth 20000 in
theorem ggX12_grade_X12_fails : GoodIn wsX12_grade wsX12_fails := goodIn_r _ [81, 77, 82, 83, 84, 85, 86, 87, 88, 89, 90, 91, 92, 93, 94, 95, 96, 97, 98, 99, 100, 101, 102, 103, 104, 105, 106, 107, 108, 109, 110, 111, 112, 113, 114, 115] (by decide +kernel) (by decide +kernel)
set_option maxRecDepth 20000 in
theorem gX12_grade_X12_fails : GoodIn wsX12_grade (wsV RX12 143 RX12 yX12_fails wsX12_fails) := goodIn_app (goodIn_of _ (by decide +kernel)) ggX12_grade_X12_fails
theorem dX12_grade_0 : decode cX12_grade 0 = .ok (.aload_n 0, 1) := by decide +kernel
theorem dX12_grade_1 : decode cX12_grade 1 = .ok (.iload_n 1, 1) := by decide +kernel
theorem dX12_grade_2 : decode cX12_grade 2 = .ok (.invokevirtual 121, 3) := by decide +kernel
theorem dX12_grade_5 : decode cX12_grade 5 = .ok (.ifCond .eq 18, 3) := by decide +kernel
theorem dX12_grade_8 : decode cX12_grade 8 = .ok (.aload_n 0, 1) := by decide +kernel
theorem dX12_grade_9 : decode cX12_grade 9 = .ok (.aload_n 0, 1) := by decide +kernel
theorem dX12_grade_10 : decode cX12_grade 10 = .ok (.iload_n 1, 1) := by decide +kernel
theorem dX12_grade_11 : decode cX12_grade 11 = .ok (.invokevirtual 111, 3) := by decide +kernel
theorem dX12_grade_14 : decode cX12_grade 14 = .ok (.invokevirtual 409, 3) := by decide +kernel
theorem dX12_grade_17 : decode cX12_grade 17 = .ok (.invokevirtual 153, 3) := by decide +kernel
theorem dX12_grade_20 : decode cX12_grade 20 = .ok (.goto 8, 3) := by decide +kernel
theorem dX12_grade_23 : decode cX12_grade 23 = .ok (.aload_n 0, 1) := by decide +kernel
theorem dX12_grade_24 : decode cX12_grade 24 = .ok (.iconst 1, 1) := by decide +kernel
theorem dX12_grade_25 : decode cX12_grade 25 = .ok (.invokevirtual 143, 3) := by decide +kernel
theorem dX12_grade_28 : decode cX12_grade 28 = .ok (.ireturn, 1) := by decide +kernel
set_option maxRecDepth 20000 in
theorem ggX12_part_X12_isGear : GoodIn wsX12_part wsX12_isGear := goodIn_r _ [5, 6, 7, 8, 9, 10, 11, 12, 13, 14, 4, 15, 84, 85, 86, 87, 88, 89, 90, 91, 92, 93, 94, 95, 96, 97, 98, 99, 100, 101, 102, 103, 104, 105, 106, 107, 108, 109, 110, 111, 112, 113, 114, 115, 116, 117, 118, 119, 120] (by decide +kernel) (by decide +kernel)
set_option maxRecDepth 20000 in
theorem gX12_part_X12_isGear : GoodIn wsX12_part (wsV RX12 121 RX12 yX12_isGear wsX12_isGear) := goodIn_app (goodIn_of _ (by decide +kernel)) ggX12_part_X12_isGear
set_option maxRecDepth 20000 in
theorem ggX12_part_X12_fails : GoodIn wsX12_part wsX12_fails := goodIn_r _ [19, 20, 84, 85, 86, 87, 88, 89, 90, 91, 92, 93, 94, 95, 96, 97, 98, 99, 100, 101, 102, 103, 104, 105, 106, 107, 108, 109, 110, 111, 112, 113, 114, 115, 116, 117] (by decide +kernel) (by decide +kernel)
set_option maxRecDepth 20000 in
theorem gX12_part_X12_fails : GoodIn wsX12_part (wsV RX12 143 RX12 yX12_fails wsX12_fails) := goodIn_app (goodIn_of _ (by decide +kernel)) ggX12_part_X12_fails
set_option maxRecDepth 20000 in
theorem ggX12_part_X12_gearAt : GoodIn wsX12_part wsX12_gearAt := goodIn_r _ [24, 6, 25, 26, 27, 28, 10, 29, 12, 30, 31, 32, 33, 34, 35, 36, 37, 38, 39, 40, 41, 42, 84, 85, 86, 87, 88, 89, 90, 91, 92, 93, 94, 95, 96, 97, 98, 99, 100, 101, 102, 103, 104, 105, 106, 107, 108, 109, 110, 111, 112, 113, 114, 115, 116, 117, 118, 119, 120] (by decide +kernel) (by decide +kernel)
set_option maxRecDepth 20000 in
theorem gX12_part_X12_gearAt : GoodIn wsX12_part (wsV RX12 111 RX12 yX12_gearAt wsX12_gearAt) := goodIn_app (goodIn_of _ (by decide +kernel)) ggX12_part_X12_gearAt
set_option maxRecDepth 20000 in
theorem ggX12_part_X10_part : GoodIn wsX12_part wsX10_part := goodIn_ca (goodIn_ca (goodIn_r _ [47, 48, 49, 50, 51, 52, 53, 54, 55, 56, 61, 62, 63, 64, 65, 66, 67, 68, 69, 70, 71, 72, 73, 74, 75, 76, 77, 78, 79, 80, 81, 82, 83] (by decide +kernel) (by decide +kernel)) (goodIn_sub (fun _ h => List.mem_cons_of_mem _ (List.mem_append_right _ h)) (by decide +kernel))) (goodIn_sub (fun _ h => List.mem_cons_of_mem _ (List.mem_append_left _ (List.mem_append_right _ h))) (by decide +kernel))
set_option maxRecDepth 20000 in
theorem gX12_part_X10_part : GoodIn wsX12_part (wsV RX12 412 RX10 yX10_part wsX10_part) := goodIn_app (goodIn_of _ (by decide +kernel)) ggX12_part_X10_part
set_option maxRecDepth 20000 in
theorem ggX12_part_X12_answer : GoodIn wsX12_part wsX12_answer := goodIn_r _ [60, 20, 84, 85, 86, 87, 88, 89, 90, 91, 92, 93, 94, 95, 96, 97, 98, 99, 100, 101, 102, 103, 104, 105, 106, 107, 108, 109, 110, 111, 112, 113, 114, 115, 116, 117] (by decide +kernel) (by decide +kernel)
set_option maxRecDepth 20000 in
theorem gX12_part_X12_answer : GoodIn wsX12_part (wsV RX12 153 RX12 yX12_answer wsX12_answer) := goodIn_app (goodIn_of _ (by decide +kernel)) ggX12_part_X12_answer
theorem dX12_part_0 : decode cX12_part 0 = .ok (.aload_n 0, 1) := by decide +kernel
theorem dX12_part_1 : decode cX12_part 1 = .ok (.iload_n 1, 1) := by decide +kernel
theorem dX12_part_2 : decode cX12_part 2 = .ok (.invokevirtual 121, 3) := by decide +kernel
theorem dX12_part_5 : decode cX12_part 5 = .ok (.ifCond .ne 9, 3) := by decide +kernel
theorem dX12_part_8 : decode cX12_part 8 = .ok (.aload_n 0, 1) := by decide +kernel
theorem dX12_part_9 : decode cX12_part 9 = .ok (.iconst 1, 1) := by decide +kernel
theorem dX12_part_10 : decode cX12_part 10 = .ok (.invokevirtual 143, 3) := by decide +kernel
theorem dX12_part_13 : decode cX12_part 13 = .ok (.ireturn, 1) := by decide +kernel
theorem dX12_part_14 : decode cX12_part 14 = .ok (.iload_n 2, 1) := by decide +kernel
theorem dX12_part_15 : decode cX12_part 15 = .ok (.iconst 1, 1) := by decide +kernel
theorem dX12_part_16 : decode cX12_part 16 = .ok (.if_icmp .lt 16, 3) := by decide +kernel
theorem dX12_part_19 : decode cX12_part 19 = .ok (.aload_n 0, 1) := by decide +kernel
theorem dX12_part_20 : decode cX12_part 20 = .ok (.iload_n 1, 1) := by decide +kernel
theorem dX12_part_21 : decode cX12_part 21 = .ok (.invokevirtual 111, 3) := by decide +kernel
theorem dX12_part_24 : decode cX12_part 24 = .ok (.getfield 332, 3) := by decide +kernel
theorem dX12_part_27 : decode cX12_part 27 = .ok (.iload_n 2, 1) := by decide +kernel
theorem dX12_part_28 : decode cX12_part 28 = .ok (.irem, 1) := by decide +kernel
theorem dX12_part_29 : decode cX12_part 29 = .ok (.ifCond .eq 9, 3) := by decide +kernel
theorem dX12_part_32 : decode cX12_part 32 = .ok (.aload_n 0, 1) := by decide +kernel
theorem dX12_part_33 : decode cX12_part 33 = .ok (.iconst 2, 1) := by decide +kernel
theorem dX12_part_34 : decode cX12_part 34 = .ok (.invokevirtual 143, 3) := by decide +kernel
theorem dX12_part_37 : decode cX12_part 37 = .ok (.ireturn, 1) := by decide +kernel
theorem dX12_part_38 : decode cX12_part 38 = .ok (.aload_n 0, 1) := by decide +kernel
theorem dX12_part_39 : decode cX12_part 39 = .ok (.aload_n 0, 1) := by decide +kernel
theorem dX12_part_40 : decode cX12_part 40 = .ok (.iload_n 1, 1) := by decide +kernel
theorem dX12_part_41 : decode cX12_part 41 = .ok (.invokevirtual 111, 3) := by decide +kernel
theorem dX12_part_44 : decode cX12_part 44 = .ok (.iload_n 2, 1) := by decide +kernel
theorem dX12_part_45 : decode cX12_part 45 = .ok (.invokevirtual 412, 3) := by decide +kernel
theorem dX12_part_48 : decode cX12_part 48 = .ok (.invokevirtual 153, 3) := by decide +kernel
theorem dX12_part_51 : decode cX12_part 51 = .ok (.ireturn, 1) := by decide +kernel
set_option maxRecDepth 20000 in
theorem ggX12_cause_X12_isGear : GoodIn wsX12_cause wsX12_isGear := goodIn_r _ [11, 12, 13, 14, 15, 16, 17, 18, 19, 20, 10, 21, 71, 72, 73, 74, 75, 76, 77, 78, 79, 80, 81, 82, 83, 84, 85, 86, 87, 88, 89, 90, 91, 92, 93, 94, 95, 96, 97, 98, 99, 100, 101, 102, 103, 104, 128, 129, 130] (by decide +kernel) (by decide +kernel)
set_option maxRecDepth 20000 in
theorem gX12_cause_X12_isGear : GoodIn wsX12_cause (wsV RX12 121 RX12 yX12_isGear wsX12_isGear) := goodIn_app (goodIn_of _ (by decide +kernel)) ggX12_cause_X12_isGear
set_option maxRecDepth 20000 in
theorem ggX12_cause_X12_gearAt : GoodIn wsX12_cause wsX12_gearAt := goodIn_r _ [25, 12, 26, 27, 28, 29, 16, 30, 18, 31, 32, 33, 34, 35, 36, 37, 38, 39, 40, 41, 42, 43, 71, 72, 73, 74, 75, 76, 77, 78, 79, 80, 81, 82, 83, 84, 85, 86, 87, 88, 89, 90, 91, 92, 93, 94, 95, 96, 97, 98, 99, 100, 101, 102, 103, 104, 128, 129, 130] (by decide +kernel) (by decide +kernel)
set_option maxRecDepth 20000 in
theorem gX12_cause_X12_gearAt : GoodIn wsX12_cause (wsV RX12 111 RX12 yX12_gearAt wsX12_gearAt) := goodIn_app (goodIn_of _ (by decide +kernel)) ggX12_cause_X12_gearAt
set_option maxRecDepth 20000 in
theorem ggX12_cause_X12_divisor : GoodIn wsX12_cause wsX12_divisor := goodIn_ca (goodIn_r _ [46, 44, 45, 10] (by decide +kernel) (by decide +kernel)) (goodIn_sub (fun _ h => List.mem_cons_of_mem _ (List.mem_append_left _ (List.mem_append_right _ h))) (by decide +kernel))
set_option maxRecDepth 20000 in
theorem gX12_cause_X12_divisor : GoodIn wsX12_cause (va_wsS RX12 5 yX12_divisor wsX12_divisor) := goodIn_app (goodIn_of _ (by decide +kernel)) ggX12_cause_X12_divisor
set_option maxRecDepth 20000 in
theorem ggX12_cause_X10_part : GoodIn wsX12_cause wsX10_part := goodIn_ca (goodIn_ca (goodIn_r _ [51, 52, 53, 54, 4, 5, 6, 55, 56, 57, 105, 106, 107, 108, 109, 110, 111, 112, 113, 114, 115, 116, 117, 118, 119, 120, 121, 122, 123, 124, 125, 126, 127] (by decide +kernel) (by decide +kernel)) (goodIn_sub (fun _ h => List.mem_cons_of_mem _ (List.mem_append_right _ h)) (by decide +kernel))) (goodIn_sub (fun _ h => List.mem_cons_of_mem _ (List.mem_append_left _ (List.mem_append_right _ h))) (by decide +kernel))
set_option maxRecDepth 20000 in
theorem gX12_cause_X10_part : GoodIn wsX12_cause (wsV RX12 412 RX10 yX10_part wsX10_part) := goodIn_app (goodIn_of _ (by decide +kernel)) ggX12_cause_X10_part
set_option maxRecDepth 20000 in
theorem ggX12_cause_X10_partOrNone : GoodIn wsX12_cause wsX10_partOrNone := goodIn_ca (goodIn_ca (goodIn_r _ [61, 52, 62, 48, 49, 50, 51, 53, 54, 4, 5, 6, 55, 56, 57, 105, 106, 107, 108, 109, 110, 111, 112, 113, 114, 115, 116, 117, 118, 119, 120, 121, 122, 123, 124, 125, 126, 127] (by decide +kernel) (by decide +kernel)) (goodIn_sub (fun _ h => List.mem_cons_of_mem _ (List.mem_append_left _ (List.mem_append_right _ h))) (by decide +kernel))) (goodIn_sub (fun _ h => List.mem_cons_of_mem _ (List.mem_append_right _ h)) (by decide +kernel))
set_option maxRecDepth 20000 in
theorem gX12_cause_X10_partOrNone : GoodIn wsX12_cause (wsV RX12 415 RX10 yX10_partOrNone wsX10_partOrNone) := goodIn_app (goodIn_of _ (by decide +kernel)) ggX12_cause_X10_partOrNone
set_option maxRecDepth 20000 in
theorem ggX12_cause_X10_total : GoodIn wsX12_cause wsX10_total := goodIn_ca (goodIn_ca (goodIn_r _ [66, 52, 54, 4, 5, 6, 55, 56, 57, 53, 67, 68, 69, 50, 70, 105, 106, 107, 108, 109, 110, 111, 112, 113, 114, 115, 116, 117, 118, 119, 120, 121, 122, 123, 124, 125, 126, 127] (by decide +kernel) (by decide +kernel)) (goodIn_sub (fun _ h => List.mem_cons_of_mem _ (List.mem_append_right _ h)) (by decide +kernel))) (goodIn_sub (fun _ h => List.mem_cons_of_mem _ (List.mem_append_left _ (List.mem_append_right _ h))) (by decide +kernel))
set_option maxRecDepth 20000 in
theorem gX12_cause_X10_total : GoodIn wsX12_cause (wsV RX12 406 RX10 yX10_total wsX10_total) := goodIn_app (goodIn_of _ (by decide +kernel)) ggX12_cause_X10_total
theorem dX12_cause_0 : decode cX12_cause 0 = .ok (.aload_n 0, 1) := by decide +kernel
theorem dX12_cause_1 : decode cX12_cause 1 = .ok (.aload_n 0, 1) := by decide +kernel
theorem dX12_cause_2 : decode cX12_cause 2 = .ok (.iload_n 1, 1) := by decide +kernel
theorem dX12_cause_3 : decode cX12_cause 3 = .ok (.invokevirtual 121, 3) := by decide +kernel
theorem dX12_cause_6 : decode cX12_cause 6 = .ok (.ifCond .eq 7, 3) := by decide +kernel
theorem dX12_cause_9 : decode cX12_cause 9 = .ok (.iconst 0, 1) := by decide +kernel
theorem dX12_cause_10 : decode cX12_cause 10 = .ok (.goto 4, 3) := by decide +kernel
theorem dX12_cause_13 : decode cX12_cause 13 = .ok (.iconst 1, 1) := by decide +kernel
theorem dX12_cause_14 : decode cX12_cause 14 = .ok (.putfield 94, 3) := by decide +kernel
theorem dX12_cause_17 : decode cX12_cause 17 = .ok (.aload_n 0, 1) := by decide +kernel
theorem dX12_cause_18 : decode cX12_cause 18 = .ok (.getfield 94, 3) := by decide +kernel
theorem dX12_cause_21 : decode cX12_cause 21 = .ok (.ifCond .le 5, 3) := by decide +kernel
theorem dX12_cause_24 : decode cX12_cause 24 = .ok (.iconst 0, 1) := by decide +kernel
theorem dX12_cause_25 : decode cX12_cause 25 = .ok (.ireturn, 1) := by decide +kernel
theorem dX12_cause_26 : decode cX12_cause 26 = .ok (.aload_n 0, 1) := by decide +kernel
theorem dX12_cause_27 : decode cX12_cause 27 = .ok (.iload_n 1, 1) := by decide +kernel
theorem dX12_cause_28 : decode cX12_cause 28 = .ok (.invokevirtual 111, 3) := by decide +kernel
theorem dX12_cause_31 : decode cX12_cause 31 = .ok (.astore_n 2, 1) := by decide +kernel
theorem dX12_cause_32 : decode cX12_cause 32 = .ok (.aload_n 2, 1) := by decide +kernel
theorem dX12_cause_33 : decode cX12_cause 33 = .ok (.aload_n 2, 1) := by decide +kernel
theorem dX12_cause_34 : decode cX12_cause 34 = .ok (.getfield 332, 3) := by decide +kernel
theorem dX12_cause_37 : decode cX12_cause 37 = .ok (.aload_n 0, 1) := by decide +kernel
theorem dX12_cause_38 : decode cX12_cause 38 = .ok (.getfield 76, 3) := by decide +kernel
theorem dX12_cause_41 : decode cX12_cause 41 = .ok (.invokestatic 5, 3) := by decide +kernel
theorem dX12_cause_44 : decode cX12_cause 44 = .ok (.invokevirtual 412, 3) := by decide +kernel
theorem dX12_cause_47 : decode cX12_cause 47 = .ok (.istore_n 3, 1) := by decide +kernel
theorem dX12_cause_48 : decode cX12_cause 48 = .ok (.aload_n 2, 1) := by decide +kernel
theorem dX12_cause_49 : decode cX12_cause 49 = .ok (.aload_n 2, 1) := by decide +kernel
theorem dX12_cause_50 : decode cX12_cause 50 = .ok (.getfield 365, 3) := by decide +kernel
theorem dX12_cause_53 : decode cX12_cause 53 = .ok (.invokevirtual 415, 3) := by decide +kernel
theorem dX12_cause_56 : decode cX12_cause 56 = .ok (.istore 4, 2) := by decide +kernel
theorem dX12_cause_58 : decode cX12_cause 58 = .ok (.aload_n 2, 1) := by decide +kernel
theorem dX12_cause_59 : decode cX12_cause 59 = .ok (.invokevirtual 406, 3) := by decide +kernel
theorem dX12_cause_62 : decode cX12_cause 62 = .ok (.istore 5, 2) := by decide +kernel
theorem dX12_cause_64 : decode cX12_cause 64 = .ok (.iload_n 3, 1) := by decide +kernel
theorem dX12_cause_65 : decode cX12_cause 65 = .ok (.iload 4, 2) := by decide +kernel
theorem dX12_cause_67 : decode cX12_cause 67 = .ok (.iload 5, 2) := by decide +kernel
theorem dX12_cause_69 : decode cX12_cause 69 = .ok (.invokestatic 418, 3) := by decide +kernel
theorem dX12_cause_72 : decode cX12_cause 72 = .ok (.invokestatic 418, 3) := by decide +kernel
theorem dX12_cause_75 : decode cX12_cause 75 = .ok (.istore 6, 2) := by decide +kernel
theorem dX12_cause_77 : decode cX12_cause 77 = .ok (.iload 6, 2) := by decide +kernel
theorem dX12_cause_79 : decode cX12_cause 79 = .ok (.ifCond .ne 8, 3) := by decide +kernel
theorem dX12_cause_82 : decode cX12_cause 82 = .ok (.bipush 110, 2) := by decide +kernel
theorem dX12_cause_84 : decode cX12_cause 84 = .ok (.goto 28, 3) := by decide +kernel
theorem dX12_cause_87 : decode cX12_cause 87 = .ok (.iload_n 3, 1) := by decide +kernel
theorem dX12_cause_88 : decode cX12_cause 88 = .ok (.iload 6, 2) := by decide +kernel
theorem dX12_cause_90 : decode cX12_cause 90 = .ok (.if_icmp .ne 8, 3) := by decide +kernel
theorem dX12_cause_93 : decode cX12_cause 93 = .ok (.bipush 109, 2) := by decide +kernel
theorem dX12_cause_95 : decode cX12_cause 95 = .ok (.goto 17, 3) := by decide +kernel
theorem dX12_cause_98 : decode cX12_cause 98 = .ok (.iload 4, 2) := by decide +kernel
theorem dX12_cause_100 : decode cX12_cause 100 = .ok (.iload 6, 2) := by decide +kernel
theorem dX12_cause_102 : decode cX12_cause 102 = .ok (.if_icmp .ne 8, 3) := by decide +kernel
theorem dX12_cause_105 : decode cX12_cause 105 = .ok (.bipush 116, 2) := by decide +kernel
theorem dX12_cause_107 : decode cX12_cause 107 = .ok (.goto 5, 3) := by decide +kernel
theorem dX12_cause_110 : decode cX12_cause 110 = .ok (.bipush 115, 2) := by decide +kernel
theorem dX12_cause_112 : decode cX12_cause 112 = .ok (.ireturn, 1) := by decide +kernel
set_option maxRecDepth 20000 in
theorem ggX12_laysPlaces_X12_divisor : GoodIn wsX12_laysPlaces wsX12_divisor := goodIn_ca (goodIn_r _ [8, 5, 6, 7] (by decide +kernel) (by decide +kernel)) (goodIn_sub (fun _ h => List.mem_cons_of_mem _ (List.mem_append_left _ (List.mem_append_right _ h))) (by decide +kernel))
set_option maxRecDepth 20000 in
theorem gX12_laysPlaces_X12_divisor : GoodIn wsX12_laysPlaces (va_wsS RX12 5 yX12_divisor wsX12_divisor) := goodIn_app (goodIn_of _ (by decide +kernel)) ggX12_laysPlaces_X12_divisor
set_option maxRecDepth 20000 in
theorem ggX12_laysPlaces_X10_places : GoodIn wsX12_laysPlaces wsX10_places := goodIn_ca (goodIn_ca (goodIn_r _ [13, 14, 15, 16, 17, 18, 19, 20, 21, 22, 23, 24, 25, 12, 26, 27, 28, 29, 30, 31, 32, 33, 34, 35, 36, 37, 38, 39, 40, 41, 42, 43, 44, 45, 46, 47, 48, 49] (by decide +kernel) (by decide +kernel)) (goodIn_sub (fun _ h => List.mem_cons_of_mem _ (List.mem_append_left _ (List.mem_append_right _ h))) (by decide +kernel))) (goodIn_sub (fun _ h => List.mem_cons_of_mem _ (List.mem_append_right _ h)) (by decide +kernel))
set_option maxRecDepth 20000 in
theorem gX12_laysPlaces_X10_places : GoodIn wsX12_laysPlaces (wsV RX12 420 RX10 yX10_places wsX10_places) := goodIn_app (goodIn_of _ (by decide +kernel)) ggX12_laysPlaces_X10_places
theorem dX12_laysPlaces_0 : decode cX12_laysPlaces 0 = .ok (.aload_n 1, 1) := by decide +kernel
theorem dX12_laysPlaces_1 : decode cX12_laysPlaces 1 = .ok (.getfield 332, 3) := by decide +kernel
theorem dX12_laysPlaces_4 : decode cX12_laysPlaces 4 = .ok (.aload_n 2, 1) := by decide +kernel
theorem dX12_laysPlaces_5 : decode cX12_laysPlaces 5 = .ok (.getfield 332, 3) := by decide +kernel
theorem dX12_laysPlaces_8 : decode cX12_laysPlaces 8 = .ok (.invokestatic 5, 3) := by decide +kernel
theorem dX12_laysPlaces_11 : decode cX12_laysPlaces 11 = .ok (.istore_n 3, 1) := by decide +kernel
theorem dX12_laysPlaces_12 : decode cX12_laysPlaces 12 = .ok (.aload_n 1, 1) := by decide +kernel
theorem dX12_laysPlaces_13 : decode cX12_laysPlaces 13 = .ok (.iload_n 3, 1) := by decide +kernel
theorem dX12_laysPlaces_14 : decode cX12_laysPlaces 14 = .ok (.aload_n 0, 1) := by decide +kernel
theorem dX12_laysPlaces_15 : decode cX12_laysPlaces 15 = .ok (.getfield 79, 3) := by decide +kernel
theorem dX12_laysPlaces_18 : decode cX12_laysPlaces 18 = .ok (.aload_n 0, 1) := by decide +kernel
theorem dX12_laysPlaces_19 : decode cX12_laysPlaces 19 = .ok (.getfield 82, 3) := by decide +kernel
theorem dX12_laysPlaces_22 : decode cX12_laysPlaces 22 = .ok (.invokevirtual 420, 3) := by decide +kernel
theorem dX12_laysPlaces_25 : decode cX12_laysPlaces 25 = .ok (.aload_n 2, 1) := by decide +kernel
theorem dX12_laysPlaces_26 : decode cX12_laysPlaces 26 = .ok (.iload_n 3, 1) := by decide +kernel
theorem dX12_laysPlaces_27 : decode cX12_laysPlaces 27 = .ok (.aload_n 0, 1) := by decide +kernel
theorem dX12_laysPlaces_28 : decode cX12_laysPlaces 28 = .ok (.getfield 85, 3) := by decide +kernel
theorem dX12_laysPlaces_31 : decode cX12_laysPlaces 31 = .ok (.aload_n 0, 1) := by decide +kernel
theorem dX12_laysPlaces_32 : decode cX12_laysPlaces 32 = .ok (.getfield 88, 3) := by decide +kernel
theorem dX12_laysPlaces_35 : decode cX12_laysPlaces 35 = .ok (.invokevirtual 420, 3) := by decide +kernel
theorem dX12_laysPlaces_38 : decode cX12_laysPlaces 38 = .ok (.iload_n 3, 1) := by decide +kernel
theorem dX12_laysPlaces_39 : decode cX12_laysPlaces 39 = .ok (.ireturn, 1) := by decide +kernel
theorem dX12_peakBy_0 : decode cX12_peakBy 0 = .ok (.aload_n 0, 1) := by decide +kernel
theorem dX12_peakBy_1 : decode cX12_peakBy 1 = .ok (.getfield 79, 3) := by decide +kernel
theorem dX12_peakBy_4 : decode cX12_peakBy 4 = .ok (.iconst 0, 1) := by decide +kernel
theorem dX12_peakBy_5 : decode cX12_peakBy 5 = .ok (.iaload, 1) := by decide +kernel
theorem dX12_peakBy_6 : decode cX12_peakBy 6 = .ok (.aload_n 0, 1) := by decide +kernel
theorem dX12_peakBy_7 : decode cX12_peakBy 7 = .ok (.getfield 85, 3) := by decide +kernel
theorem dX12_peakBy_10 : decode cX12_peakBy 10 = .ok (.iload_n 2, 1) := by decide +kernel
theorem dX12_peakBy_11 : decode cX12_peakBy 11 = .ok (.iload_n 1, 1) := by decide +kernel
theorem dX12_peakBy_12 : decode cX12_peakBy 12 = .ok (.irem, 1) := by decide +kernel
theorem dX12_peakBy_13 : decode cX12_peakBy 13 = .ok (.iaload, 1) := by decide +kernel
theorem dX12_peakBy_14 : decode cX12_peakBy 14 = .ok (.iadd, 1) := by decide +kernel
theorem dX12_peakBy_15 : decode cX12_peakBy 15 = .ok (.istore_n 3, 1) := by decide +kernel
theorem dX12_peakBy_16 : decode cX12_peakBy 16 = .ok (.aload_n 0, 1) := by decide +kernel
theorem dX12_peakBy_17 : decode cX12_peakBy 17 = .ok (.getfield 82, 3) := by decide +kernel
theorem dX12_peakBy_20 : decode cX12_peakBy 20 = .ok (.iconst 0, 1) := by decide +kernel
theorem dX12_peakBy_21 : decode cX12_peakBy 21 = .ok (.iaload, 1) := by decide +kernel
theorem dX12_peakBy_22 : decode cX12_peakBy 22 = .ok (.aload_n 0, 1) := by decide +kernel
theorem dX12_peakBy_23 : decode cX12_peakBy 23 = .ok (.getfield 88, 3) := by decide +kernel
theorem dX12_peakBy_26 : decode cX12_peakBy 26 = .ok (.iload_n 2, 1) := by decide +kernel
theorem dX12_peakBy_27 : decode cX12_peakBy 27 = .ok (.iload_n 1, 1) := by decide +kernel
theorem dX12_peakBy_28 : decode cX12_peakBy 28 = .ok (.irem, 1) := by decide +kernel
theorem dX12_peakBy_29 : decode cX12_peakBy 29 = .ok (.iaload, 1) := by decide +kernel
theorem dX12_peakBy_30 : decode cX12_peakBy 30 = .ok (.iadd, 1) := by decide +kernel
theorem dX12_peakBy_31 : decode cX12_peakBy 31 = .ok (.istore 4, 2) := by decide +kernel
theorem dX12_peakBy_33 : decode cX12_peakBy 33 = .ok (.iconst 1, 1) := by decide +kernel
theorem dX12_peakBy_34 : decode cX12_peakBy 34 = .ok (.istore 5, 2) := by decide +kernel
theorem dX12_peakBy_36 : decode cX12_peakBy 36 = .ok (.iload 5, 2) := by decide +kernel
theorem dX12_peakBy_38 : decode cX12_peakBy 38 = .ok (.iload_n 1, 1) := by decide +kernel
theorem dX12_peakBy_39 : decode cX12_peakBy 39 = .ok (.if_icmp .ge 59, 3) := by decide +kernel
theorem dX12_peakBy_42 : decode cX12_peakBy 42 = .ok (.iload_n 3, 1) := by decide +kernel
theorem dX12_peakBy_43 : decode cX12_peakBy 43 = .ok (.aload_n 0, 1) := by decide +kernel
theorem dX12_peakBy_44 : decode cX12_peakBy 44 = .ok (.getfield 79, 3) := by decide +kernel
theorem dX12_peakBy_47 : decode cX12_peakBy 47 = .ok (.iload 5, 2) := by decide +kernel
theorem dX12_peakBy_49 : decode cX12_peakBy 49 = .ok (.iaload, 1) := by decide +kernel
theorem dX12_peakBy_50 : decode cX12_peakBy 50 = .ok (.aload_n 0, 1) := by decide +kernel
theorem dX12_peakBy_51 : decode cX12_peakBy 51 = .ok (.getfield 85, 3) := by decide +kernel
theorem dX12_peakBy_54 : decode cX12_peakBy 54 = .ok (.iload 5, 2) := by decide +kernel
theorem dX12_peakBy_56 : decode cX12_peakBy 56 = .ok (.iload_n 2, 1) := by decide +kernel
theorem dX12_peakBy_57 : decode cX12_peakBy 57 = .ok (.iadd, 1) := by decide +kernel
theorem dX12_peakBy_58 : decode cX12_peakBy 58 = .ok (.iload_n 1, 1) := by decide +kernel
theorem dX12_peakBy_59 : decode cX12_peakBy 59 = .ok (.irem, 1) := by decide +kernel
theorem dX12_peakBy_60 : decode cX12_peakBy 60 = .ok (.iaload, 1) := by decide +kernel
theorem dX12_peakBy_61 : decode cX12_peakBy 61 = .ok (.iadd, 1) := by decide +kernel
theorem dX12_peakBy_62 : decode cX12_peakBy 62 = .ok (.invokestatic 418, 3) := by decide +kernel
theorem dX12_peakBy_65 : decode cX12_peakBy 65 = .ok (.istore_n 3, 1) := by decide +kernel
theorem dX12_peakBy_66 : decode cX12_peakBy 66 = .ok (.iload 4, 2) := by decide +kernel
theorem dX12_peakBy_68 : decode cX12_peakBy 68 = .ok (.aload_n 0, 1) := by decide +kernel
theorem dX12_peakBy_69 : decode cX12_peakBy 69 = .ok (.getfield 82, 3) := by decide +kernel
theorem dX12_peakBy_72 : decode cX12_peakBy 72 = .ok (.iload 5, 2) := by decide +kernel
theorem dX12_peakBy_74 : decode cX12_peakBy 74 = .ok (.iaload, 1) := by decide +kernel
theorem dX12_peakBy_75 : decode cX12_peakBy 75 = .ok (.aload_n 0, 1) := by decide +kernel
theorem dX12_peakBy_76 : decode cX12_peakBy 76 = .ok (.getfield 88, 3) := by decide +kernel
theorem dX12_peakBy_79 : decode cX12_peakBy 79 = .ok (.iload 5, 2) := by decide +kernel
theorem dX12_peakBy_81 : decode cX12_peakBy 81 = .ok (.iload_n 2, 1) := by decide +kernel
theorem dX12_peakBy_82 : decode cX12_peakBy 82 = .ok (.iadd, 1) := by decide +kernel
theorem dX12_peakBy_83 : decode cX12_peakBy 83 = .ok (.iload_n 1, 1) := by decide +kernel
theorem dX12_peakBy_84 : decode cX12_peakBy 84 = .ok (.irem, 1) := by decide +kernel
theorem dX12_peakBy_85 : decode cX12_peakBy 85 = .ok (.iaload, 1) := by decide +kernel
theorem dX12_peakBy_86 : decode cX12_peakBy 86 = .ok (.iadd, 1) := by decide +kernel
theorem dX12_peakBy_87 : decode cX12_peakBy 87 = .ok (.invokestatic 212, 3) := by decide +kernel
theorem dX12_peakBy_90 : decode cX12_peakBy 90 = .ok (.istore 4, 2) := by decide +kernel
theorem dX12_peakBy_92 : decode cX12_peakBy 92 = .ok (.iinc 5 1, 3) := by decide +kernel
theorem dX12_peakBy_95 : decode cX12_peakBy 95 = .ok (.goto (-59), 3) := by decide +kernel
theorem dX12_peakBy_98 : decode cX12_peakBy 98 = .ok (.iload_n 3, 1) := by decide +kernel
theorem dX12_peakBy_99 : decode cX12_peakBy 99 = .ok (.iload 4, 2) := by decide +kernel
theorem dX12_peakBy_101 : decode cX12_peakBy 101 = .ok (.isub, 1) := by decide +kernel
theorem dX12_peakBy_102 : decode cX12_peakBy 102 = .ok (.ireturn, 1) := by decide +kernel
set_option maxRecDepth 20000 in
theorem ggX12_peakOf_X12_laysPlaces : GoodIn wsX12_peakOf wsX12_laysPlaces := goodIn_ca (goodIn_ca (goodIn_r _ [5, 6, 7, 8, 9, 10, 11, 4, 12, 13, 14, 15, 16, 17, 18, 19, 20, 21, 22, 23, 24, 25, 26, 27, 28, 29, 30, 37, 38, 39, 40, 41, 42, 43, 44, 45, 46, 47, 48, 49, 50, 51, 52, 53, 54, 55, 56, 57, 58, 59, 60, 61, 62, 63, 64, 65, 66, 67, 68, 69, 70, 71, 72, 73, 74, 75, 76, 77, 78, 79, 80, 81, 82, 83, 84, 85, 86, 87, 88, 89, 90, 91, 92, 93] (by decide +kernel) (by decide +kernel)) (goodIn_sub (fun _ h => List.mem_cons_of_mem _ (List.mem_append_left _ (List.mem_append_right _ h))) (by decide +kernel))) (goodIn_sub (fun _ h => List.mem_cons_of_mem _ (List.mem_append_right _ h)) (by decide +kernel))
set_option maxRecDepth 20000 in
theorem gX12_peakOf_X12_laysPlaces : GoodIn wsX12_peakOf (wsV RX12 423 RX12 yX12_laysPlaces wsX12_laysPlaces) := goodIn_app (goodIn_of _ (by decide +kernel)) ggX12_peakOf_X12_laysPlaces
set_option maxRecDepth 20000 in
theorem ggX12_peakOf_X12_peakBy : GoodIn wsX12_peakOf wsX12_peakBy := goodIn_ca (goodIn_ca (goodIn_r _ [34, 6, 8, 7, 9, 35, 21, 22, 23, 36, 25, 26, 60, 61, 62, 63, 64, 65, 66, 67, 68, 69, 70, 71, 72, 73, 74, 75, 76, 77, 78, 79, 80, 81, 82, 83, 84, 85, 86, 87, 88, 89, 90, 91, 92, 93] (by decide +kernel) (by decide +kernel)) (goodIn_sub (fun _ h => List.mem_cons_of_mem _ (List.mem_append_right _ h)) (by decide +kernel))) (goodIn_sub (fun _ h => List.mem_cons_of_mem _ (List.mem_append_left _ (List.mem_append_right _ h))) (by decide +kernel))
set_option maxRecDepth 20000 in
theorem gX12_peakOf_X12_peakBy : GoodIn wsX12_peakOf (wsV RX12 427 RX12 yX12_peakBy wsX12_peakBy) := goodIn_app (goodIn_of _ (by decide +kernel)) ggX12_peakOf_X12_peakBy
theorem dX12_peakOf_0 : decode cX12_peakOf 0 = .ok (.aload_n 0, 1) := by decide +kernel
theorem dX12_peakOf_1 : decode cX12_peakOf 1 = .ok (.aload_n 0, 1) := by decide +kernel
theorem dX12_peakOf_2 : decode cX12_peakOf 2 = .ok (.aload_n 1, 1) := by decide +kernel
theorem dX12_peakOf_3 : decode cX12_peakOf 3 = .ok (.aload_n 2, 1) := by decide +kernel
theorem dX12_peakOf_4 : decode cX12_peakOf 4 = .ok (.invokevirtual 423, 3) := by decide +kernel
theorem dX12_peakOf_7 : decode cX12_peakOf 7 = .ok (.iload_n 3, 1) := by decide +kernel
theorem dX12_peakOf_8 : decode cX12_peakOf 8 = .ok (.invokevirtual 427, 3) := by decide +kernel
theorem dX12_peakOf_11 : decode cX12_peakOf 11 = .ok (.ireturn, 1) := by decide +kernel
set_option maxRecDepth 20000 in
theorem ggX12_quietestOf_X12_laysPlaces : GoodIn wsX12_quietestOf wsX12_laysPlaces := goodIn_ca (goodIn_ca (goodIn_r _ [5, 6, 7, 8, 9, 10, 11, 4, 12, 13, 14, 15, 16, 17, 18, 19, 20, 21, 22, 23, 24, 25, 26, 27, 28, 29, 30, 37, 38, 39, 40, 41, 42, 43, 44, 45, 46, 47, 48, 49, 50, 51, 52, 53, 54, 55, 56, 57, 58, 59, 60, 61, 62, 63, 64, 65, 66, 67, 68, 69, 70, 71, 72, 73, 74, 75, 76, 77, 78, 79, 80, 81, 82, 83, 84, 85, 86, 87, 88, 89, 90, 91, 92, 93] (by decide +kernel) (by decide +kernel)) (goodIn_sub (fun _ h => List.mem_cons_of_mem _ (List.mem_append_left _ (List.mem_append_right _ h))) (by decide +kernel))) (goodIn_sub (fun _ h => List.mem_cons_of_mem _ (List.mem_append_right _ h)) (by decide +kernel))
set_option maxRecDepth 20000 in
theorem gX12_quietestOf_X12_laysPlaces : GoodIn wsX12_quietestOf (wsV RX12 423 RX12 yX12_laysPlaces wsX12_laysPlaces) := goodIn_app (goodIn_of _ (by decide +kernel)) ggX12_quietestOf_X12_laysPlaces
set_option maxRecDepth 20000 in
theorem ggX12_quietestOf_X12_peakBy : GoodIn wsX12_quietestOf wsX12_peakBy := goodIn_ca (goodIn_ca (goodIn_r _ [34, 6, 8, 7, 9, 35, 21, 22, 23, 36, 25, 26, 60, 61, 62, 63, 64, 65, 66, 67, 68, 69, 70, 71, 72, 73, 74, 75, 76, 77, 78, 79, 80, 81, 82, 83, 84, 85, 86, 87, 88, 89, 90, 91, 92, 93] (by decide +kernel) (by decide +kernel)) (goodIn_sub (fun _ h => List.mem_cons_of_mem _ (List.mem_append_right _ h)) (by decide +kernel))) (goodIn_sub (fun _ h => List.mem_cons_of_mem _ (List.mem_append_left _ (List.mem_append_right _ h))) (by decide +kernel))
set_option maxRecDepth 20000 in
theorem gX12_quietestOf_X12_peakBy : GoodIn wsX12_quietestOf (wsV RX12 427 RX12 yX12_peakBy wsX12_peakBy) := goodIn_app (goodIn_of _ (by decide +kernel)) ggX12_quietestOf_X12_peakBy
theorem dX12_quietestOf_0 : decode cX12_quietestOf 0 = .ok (.aload_n 0, 1) := by decide +kernel
theorem dX12_quietestOf_1 : decode cX12_quietestOf 1 = .ok (.aload_n 1, 1) := by decide +kernel
theorem dX12_quietestOf_2 : decode cX12_quietestOf 2 = .ok (.aload_n 2, 1) := by decide +kernel
theorem dX12_quietestOf_3 : decode cX12_quietestOf 3 = .ok (.invokevirtual 423, 3) := by decide +kernel
theorem dX12_quietestOf_6 : decode cX12_quietestOf 6 = .ok (.istore_n 3, 1) := by decide +kernel
theorem dX12_quietestOf_7 : decode cX12_quietestOf 7 = .ok (.iconst 0, 1) := by decide +kernel
theorem dX12_quietestOf_8 : decode cX12_quietestOf 8 = .ok (.istore 4, 2) := by decide +kernel
theorem dX12_quietestOf_10 : decode cX12_quietestOf 10 = .ok (.iconst 1, 1) := by decide +kernel
theorem dX12_quietestOf_11 : decode cX12_quietestOf 11 = .ok (.istore 5, 2) := by decide +kernel
theorem dX12_quietestOf_13 : decode cX12_quietestOf 13 = .ok (.iload 5, 2) := by decide +kernel
theorem dX12_quietestOf_15 : decode cX12_quietestOf 15 = .ok (.iload_n 3, 1) := by decide +kernel
theorem dX12_quietestOf_16 : decode cX12_quietestOf 16 = .ok (.if_icmp .ge 35, 3) := by decide +kernel
theorem dX12_quietestOf_19 : decode cX12_quietestOf 19 = .ok (.aload_n 0, 1) := by decide +kernel
theorem dX12_quietestOf_20 : decode cX12_quietestOf 20 = .ok (.iload_n 3, 1) := by decide +kernel
theorem dX12_quietestOf_21 : decode cX12_quietestOf 21 = .ok (.iload 5, 2) := by decide +kernel
theorem dX12_quietestOf_23 : decode cX12_quietestOf 23 = .ok (.invokevirtual 427, 3) := by decide +kernel
theorem dX12_quietestOf_26 : decode cX12_quietestOf 26 = .ok (.aload_n 0, 1) := by decide +kernel
theorem dX12_quietestOf_27 : decode cX12_quietestOf 27 = .ok (.iload_n 3, 1) := by decide +kernel
theorem dX12_quietestOf_28 : decode cX12_quietestOf 28 = .ok (.iload 4, 2) := by decide +kernel
theorem dX12_quietestOf_30 : decode cX12_quietestOf 30 = .ok (.invokevirtual 427, 3) := by decide +kernel
theorem dX12_quietestOf_33 : decode cX12_quietestOf 33 = .ok (.if_icmp .ge 8, 3) := by decide +kernel
theorem dX12_quietestOf_36 : decode cX12_quietestOf 36 = .ok (.iload 5, 2) := by decide +kernel
theorem dX12_quietestOf_38 : decode cX12_quietestOf 38 = .ok (.goto 5, 3) := by decide +kernel
theorem dX12_quietestOf_41 : decode cX12_quietestOf 41 = .ok (.iload 4, 2) := by decide +kernel
theorem dX12_quietestOf_43 : decode cX12_quietestOf 43 = .ok (.istore 4, 2) := by decide +kernel
theorem dX12_quietestOf_45 : decode cX12_quietestOf 45 = .ok (.iinc 5 1, 3) := by decide +kernel
theorem dX12_quietestOf_48 : decode cX12_quietestOf 48 = .ok (.goto (-35), 3) := by decide +kernel
theorem dX12_quietestOf_51 : decode cX12_quietestOf 51 = .ok (.iload 4, 2) := by decide +kernel
theorem dX12_quietestOf_53 : decode cX12_quietestOf 53 = .ok (.ireturn, 1) := by decide +kernel
set_option maxRecDepth 20000 in
theorem ggX12_peak_X12_isGear : GoodIn wsX12_peak wsX12_isGear := goodIn_r _ [5, 6, 7, 8, 9, 10, 11, 12, 13, 14, 4, 15, 113, 114, 115, 116, 117, 118, 119, 120, 121, 122, 123, 124, 125, 126, 127, 128, 129, 130, 131, 132, 133, 134, 135, 136, 137, 138, 139, 140, 141, 142, 143, 144, 145, 146, 147, 148, 149] (by decide +kernel) (by decide +kernel)
set_option maxRecDepth 20000 in
theorem gX12_peak_X12_isGear : GoodIn wsX12_peak (wsV RX12 121 RX12 yX12_isGear wsX12_isGear) := goodIn_app (goodIn_of _ (by decide +kernel)) ggX12_peak_X12_isGear
set_option maxRecDepth 20000 in
theorem ggX12_peak_X12_fails : GoodIn wsX12_peak wsX12_fails := goodIn_r _ [19, 20, 113, 114, 115, 116, 117, 118, 119, 120, 121, 122, 123, 124, 125, 126, 127, 128, 129, 130, 131, 132, 133, 134, 135, 136, 137, 138, 139, 140, 141, 142, 143, 144, 145, 146] (by decide +kernel) (by decide +kernel)
set_option maxRecDepth 20000 in
theorem gX12_peak_X12_fails : GoodIn wsX12_peak (wsV RX12 143 RX12 yX12_fails wsX12_fails) := goodIn_app (goodIn_of _ (by decide +kernel)) ggX12_peak_X12_fails
set_option maxRecDepth 20000 in
theorem ggX12_peak_X12_gearAt : GoodIn wsX12_peak wsX12_gearAt := goodIn_r _ [24, 6, 25, 26, 27, 28, 10, 29, 12, 30, 31, 32, 33, 34, 35, 36, 37, 38, 39, 40, 41, 42, 113, 114, 115, 116, 117, 118, 119, 120, 121, 122, 123, 124, 125, 126, 127, 128, 129, 130, 131, 132, 133, 134, 135, 136, 137, 138, 139, 140, 141, 142, 143, 144, 145, 146, 147, 148, 149] (by decide +kernel) (by decide +kernel)
set_option maxRecDepth 20000 in
theorem gX12_peak_X12_gearAt : GoodIn wsX12_peak (wsV RX12 111 RX12 yX12_gearAt wsX12_gearAt) := goodIn_app (goodIn_of _ (by decide +kernel)) ggX12_peak_X12_gearAt
set_option maxRecDepth 20000 in
theorem ggX12_peak_X12_in : GoodIn wsX12_peak wsX12_in := goodIn_r _ [15] (by decide +kernel) (by decide +kernel)
set_option maxRecDepth 20000 in
theorem gX12_peak_X12_in : GoodIn wsX12_peak (va_wsS RX12 101 yX12_in wsX12_in) := goodIn_app (goodIn_of _ (by decide +kernel)) ggX12_peak_X12_in
set_option maxRecDepth 20000 in
theorem ggX12_peak_X12_isPair : GoodIn wsX12_peak wsX12_isPair := goodIn_r _ [46, 21, 22, 23, 4, 24, 6, 25, 26, 27, 28, 10, 29, 12, 30, 31, 32, 33, 34, 35, 36, 37, 38, 39, 40, 41, 42, 90, 91, 92, 93, 94, 95, 96, 97, 98, 99, 100, 101, 102, 103, 104, 105, 106, 107, 108, 109, 110, 111, 112, 113, 114, 115, 116, 117, 118, 119, 120, 121, 122, 123, 124, 125, 126, 127, 128, 129, 130, 131, 132, 133, 134, 135, 136, 137, 138, 139, 140, 141, 142, 143, 144, 145, 146, 147, 148, 149] (by decide +kernel) (by decide +kernel)
set_option maxRecDepth 20000 in
theorem gX12_peak_X12_isPair : GoodIn wsX12_peak (wsV RX12 125 RX12 yX12_isPair wsX12_isPair) := goodIn_app (goodIn_of _ (by decide +kernel)) ggX12_peak_X12_isPair
set_option maxRecDepth 20000 in
theorem ggX12_peak_X12_peakOf : GoodIn wsX12_peak wsX12_peakOf := goodIn_ca (goodIn_ca (goodIn_r _ [50, 51, 52, 53, 4, 54, 55, 56, 57, 58, 59, 60, 61, 62, 63, 64, 65, 66, 67, 68, 69, 70, 71, 72, 73, 74, 75, 76, 77, 78, 79, 80, 81, 82, 83, 84, 85, 90, 91, 92, 93, 94, 95, 96, 97, 98, 99, 100, 101, 102, 103, 104, 105, 106, 107, 108, 109, 110, 111, 112, 113, 114, 115, 116, 117, 118, 119, 120, 121, 122, 123, 124, 125, 126, 127, 128, 129, 130, 131, 132, 133, 134, 135, 136, 137, 138, 139, 140, 141, 142, 143, 144, 145, 146] (by decide +kernel) (by decide +kernel)) (goodIn_sub (fun _ h => List.mem_cons_of_mem _ (List.mem_append_left _ (List.mem_append_right _ h))) (by decide +kernel))) (goodIn_sub (fun _ h => List.mem_cons_of_mem _ (List.mem_append_right _ h)) (by decide +kernel))
set_option maxRecDepth 20000 in
theorem gX12_peak_X12_peakOf : GoodIn wsX12_peak (wsV RX12 430 RX12 yX12_peakOf wsX12_peakOf) := goodIn_app (goodIn_of _ (by decide +kernel)) ggX12_peak_X12_peakOf
set_option maxRecDepth 20000 in
theorem ggX12_peak_X12_answer : GoodIn wsX12_peak wsX12_answer := goodIn_r _ [89, 20, 113, 114, 115, 116, 117, 118, 119, 120, 121, 122, 123, 124, 125, 126, 127, 128, 129, 130, 131, 132, 133, 134, 135, 136, 137, 138, 139, 140, 141, 142, 143, 144, 145, 146] (by decide +kernel) (by decide +kernel)
set_option maxRecDepth 20000 in
theorem gX12_peak_X12_answer : GoodIn wsX12_peak (wsV RX12 153 RX12 yX12_answer wsX12_answer) := goodIn_app (goodIn_of _ (by decide +kernel)) ggX12_peak_X12_answer
theorem dX12_peak_0 : decode cX12_peak 0 = .ok (.aload_n 0, 1) := by decide +kernel
theorem dX12_peak_1 : decode cX12_peak 1 = .ok (.iload_n 1, 1) := by decide +kernel
theorem dX12_peak_2 : decode cX12_peak 2 = .ok (.invokevirtual 121, 3) := by decide +kernel
theorem dX12_peak_5 : decode cX12_peak 5 = .ok (.ifCond .eq 11, 3) := by decide +kernel
theorem dX12_peak_8 : decode cX12_peak 8 = .ok (.aload_n 0, 1) := by decide +kernel
theorem dX12_peak_9 : decode cX12_peak 9 = .ok (.iload_n 2, 1) := by decide +kernel
theorem dX12_peak_10 : decode cX12_peak 10 = .ok (.invokevirtual 121, 3) := by decide +kernel
theorem dX12_peak_13 : decode cX12_peak 13 = .ok (.ifCond .ne 9, 3) := by decide +kernel
theorem dX12_peak_16 : decode cX12_peak 16 = .ok (.aload_n 0, 1) := by decide +kernel
theorem dX12_peak_17 : decode cX12_peak 17 = .ok (.iconst 1, 1) := by decide +kernel
theorem dX12_peak_18 : decode cX12_peak 18 = .ok (.invokevirtual 143, 3) := by decide +kernel
theorem dX12_peak_21 : decode cX12_peak 21 = .ok (.ireturn, 1) := by decide +kernel
theorem dX12_peak_22 : decode cX12_peak 22 = .ok (.iload_n 3, 1) := by decide +kernel
theorem dX12_peak_23 : decode cX12_peak 23 = .ok (.i2l, 1) := by decide +kernel
theorem dX12_peak_24 : decode cX12_peak 24 = .ok (.lconst 0, 1) := by decide +kernel
theorem dX12_peak_25 : decode cX12_peak 25 = .ok (.aload_n 0, 1) := by decide +kernel
theorem dX12_peak_26 : decode cX12_peak 26 = .ok (.iload_n 2, 1) := by decide +kernel
theorem dX12_peak_27 : decode cX12_peak 27 = .ok (.invokevirtual 111, 3) := by decide +kernel
theorem dX12_peak_30 : decode cX12_peak 30 = .ok (.getfield 332, 3) := by decide +kernel
theorem dX12_peak_33 : decode cX12_peak 33 = .ok (.iconst 1, 1) := by decide +kernel
theorem dX12_peak_34 : decode cX12_peak 34 = .ok (.isub, 1) := by decide +kernel
theorem dX12_peak_35 : decode cX12_peak 35 = .ok (.i2l, 1) := by decide +kernel
theorem dX12_peak_36 : decode cX12_peak 36 = .ok (.invokestatic 101, 3) := by decide +kernel
theorem dX12_peak_39 : decode cX12_peak 39 = .ok (.ifCond .ne 9, 3) := by decide +kernel
theorem dX12_peak_42 : decode cX12_peak 42 = .ok (.aload_n 0, 1) := by decide +kernel
theorem dX12_peak_43 : decode cX12_peak 43 = .ok (.iconst 2, 1) := by decide +kernel
theorem dX12_peak_44 : decode cX12_peak 44 = .ok (.invokevirtual 143, 3) := by decide +kernel
theorem dX12_peak_47 : decode cX12_peak 47 = .ok (.ireturn, 1) := by decide +kernel
theorem dX12_peak_48 : decode cX12_peak 48 = .ok (.aload_n 0, 1) := by decide +kernel
theorem dX12_peak_49 : decode cX12_peak 49 = .ok (.iload_n 1, 1) := by decide +kernel
theorem dX12_peak_50 : decode cX12_peak 50 = .ok (.iload_n 2, 1) := by decide +kernel
theorem dX12_peak_51 : decode cX12_peak 51 = .ok (.invokevirtual 125, 3) := by decide +kernel
theorem dX12_peak_54 : decode cX12_peak 54 = .ok (.ifCond .eq 25, 3) := by decide +kernel
theorem dX12_peak_57 : decode cX12_peak 57 = .ok (.aload_n 0, 1) := by decide +kernel
theorem dX12_peak_58 : decode cX12_peak 58 = .ok (.aload_n 0, 1) := by decide +kernel
theorem dX12_peak_59 : decode cX12_peak 59 = .ok (.aload_n 0, 1) := by decide +kernel
theorem dX12_peak_60 : decode cX12_peak 60 = .ok (.iload_n 1, 1) := by decide +kernel
theorem dX12_peak_61 : decode cX12_peak 61 = .ok (.invokevirtual 111, 3) := by decide +kernel
theorem dX12_peak_64 : decode cX12_peak 64 = .ok (.aload_n 0, 1) := by decide +kernel
theorem dX12_peak_65 : decode cX12_peak 65 = .ok (.iload_n 2, 1) := by decide +kernel
theorem dX12_peak_66 : decode cX12_peak 66 = .ok (.invokevirtual 111, 3) := by decide +kernel
theorem dX12_peak_69 : decode cX12_peak 69 = .ok (.iload_n 3, 1) := by decide +kernel
theorem dX12_peak_70 : decode cX12_peak 70 = .ok (.invokevirtual 430, 3) := by decide +kernel
theorem dX12_peak_73 : decode cX12_peak 73 = .ok (.invokevirtual 153, 3) := by decide +kernel
theorem dX12_peak_76 : decode cX12_peak 76 = .ok (.goto 8, 3) := by decide +kernel
theorem dX12_peak_79 : decode cX12_peak 79 = .ok (.aload_n 0, 1) := by decide +kernel
theorem dX12_peak_80 : decode cX12_peak 80 = .ok (.iconst 3, 1) := by decide +kernel
theorem dX12_peak_81 : decode cX12_peak 81 = .ok (.invokevirtual 143, 3) := by decide +kernel
theorem dX12_peak_84 : decode cX12_peak 84 = .ok (.ireturn, 1) := by decide +kernel
set_option maxRecDepth 20000 in
theorem ggX12_quietest_X12_isAsked : GoodIn wsX12_quietest wsX12_isAsked := goodIn_r _ [5, 6, 7, 8, 9, 4, 10, 11, 12, 13, 14, 15, 16, 17, 18, 19, 20, 21, 22, 23, 24, 25, 26, 27, 28, 29, 30, 31, 32, 33, 34, 35, 36, 37, 38, 39, 40, 41, 42, 43, 44, 45, 46, 86, 87, 88, 89, 90, 91, 92, 93, 94, 95, 96, 97, 98, 99, 100, 101, 102, 103, 104, 105, 106, 107, 108, 109, 110, 111, 112, 113, 114, 115, 116, 117, 118, 119, 120, 121, 122, 123, 124, 125, 126, 127, 128, 129, 130, 131, 132, 133, 134, 135, 136, 137, 138, 139, 140, 141, 142, 143, 144, 145] (by decide +kernel) (by decide +kernel)
set_option maxRecDepth 20000 in
theorem gX12_quietest_X12_isAsked : GoodIn wsX12_quietest (wsV RX12 220 RX12 yX12_isAsked wsX12_isAsked) := goodIn_app (goodIn_of _ (by decide +kernel)) ggX12_quietest_X12_isAsked
set_option maxRecDepth 20000 in
theorem ggX12_quietest_X12_gearAt : GoodIn wsX12_quietest wsX12_gearAt := goodIn_r _ [28, 11, 29, 30, 31, 32, 15, 33, 17, 34, 35, 36, 37, 38, 39, 40, 41, 42, 43, 44, 45, 46, 86, 87, 88, 89, 90, 91, 92, 93, 94, 95, 96, 97, 98, 99, 100, 101, 102, 103, 104, 105, 106, 107, 108, 109, 110, 111, 112, 113, 114, 115, 116, 117, 118, 119, 120, 121, 122] (by decide +kernel) (by decide +kernel)
set_option maxRecDepth 20000 in
theorem gX12_quietest_X12_gearAt : GoodIn wsX12_quietest (wsV RX12 111 RX12 yX12_gearAt wsX12_gearAt) := goodIn_app (goodIn_of _ (by decide +kernel)) ggX12_quietest_X12_gearAt
set_option maxRecDepth 20000 in
theorem ggX12_quietest_X12_quietestOf : GoodIn wsX12_quietest wsX12_quietestOf := goodIn_ca (goodIn_ca (goodIn_r _ [50, 51, 52, 53, 4, 54, 55, 56, 57, 58, 59, 60, 61, 62, 63, 64, 65, 66, 67, 68, 69, 70, 71, 72, 73, 74, 75, 76, 77, 78, 79, 80, 81, 82, 83, 84, 85, 123, 124, 125, 126, 127, 128, 129, 130, 131, 132, 133, 134, 135, 136, 137, 138, 139, 140, 141, 142, 143, 144, 145, 86, 87, 88, 89, 90, 91, 92, 93, 94, 95, 96, 97, 98, 99, 100, 101, 102, 103, 104, 105, 106, 107, 108, 109, 110, 111, 112, 113, 114, 115, 116, 117, 118, 119] (by decide +kernel) (by decide +kernel)) (goodIn_sub (fun _ h => List.mem_cons_of_mem _ (List.mem_append_left _ (List.mem_append_right _ h))) (by decide +kernel))) (goodIn_sub (fun _ h => List.mem_cons_of_mem _ (List.mem_append_right _ h)) (by decide +kernel))
set_option maxRecDepth 20000 in
theorem gX12_quietest_X12_quietestOf : GoodIn wsX12_quietest (wsV RX12 434 RX12 yX12_quietestOf wsX12_quietestOf) := goodIn_app (goodIn_of _ (by decide +kernel)) ggX12_quietest_X12_quietestOf
theorem dX12_quietest_0 : decode cX12_quietest 0 = .ok (.aload_n 0, 1) := by decide +kernel
theorem dX12_quietest_1 : decode cX12_quietest 1 = .ok (.iload_n 1, 1) := by decide +kernel
theorem dX12_quietest_2 : decode cX12_quietest 2 = .ok (.iload_n 2, 1) := by decide +kernel
theorem dX12_quietest_3 : decode cX12_quietest 3 = .ok (.iconst 1, 1) := by decide +kernel
theorem dX12_quietest_4 : decode cX12_quietest 4 = .ok (.iconst 2, 1) := by decide +kernel
theorem dX12_quietest_5 : decode cX12_quietest 5 = .ok (.invokevirtual 220, 3) := by decide +kernel
theorem dX12_quietest_8 : decode cX12_quietest 8 = .ok (.ifCond .eq 20, 3) := by decide +kernel
theorem dX12_quietest_11 : decode cX12_quietest 11 = .ok (.aload_n 0, 1) := by decide +kernel
theorem dX12_quietest_12 : decode cX12_quietest 12 = .ok (.aload_n 0, 1) := by decide +kernel
theorem dX12_quietest_13 : decode cX12_quietest 13 = .ok (.iload_n 1, 1) := by decide +kernel
theorem dX12_quietest_14 : decode cX12_quietest 14 = .ok (.invokevirtual 111, 3) := by decide +kernel
theorem dX12_quietest_17 : decode cX12_quietest 17 = .ok (.aload_n 0, 1) := by decide +kernel
theorem dX12_quietest_18 : decode cX12_quietest 18 = .ok (.iload_n 2, 1) := by decide +kernel
theorem dX12_quietest_19 : decode cX12_quietest 19 = .ok (.invokevirtual 111, 3) := by decide +kernel
theorem dX12_quietest_22 : decode cX12_quietest 22 = .ok (.invokevirtual 434, 3) := by decide +kernel
theorem dX12_quietest_25 : decode cX12_quietest 25 = .ok (.goto 4, 3) := by decide +kernel
theorem dX12_quietest_28 : decode cX12_quietest 28 = .ok (.iconst 0, 1) := by decide +kernel
theorem dX12_quietest_29 : decode cX12_quietest 29 = .ok (.ireturn, 1) := by decide +kernel
set_option maxRecDepth 20000 in
theorem ggX12_note_X12_isGear : GoodIn wsX12_note wsX12_isGear := goodIn_r _ [13, 14, 15, 16, 17, 18, 19, 20, 21, 22, 12, 23, 97, 98, 99, 100, 101, 102, 103, 104, 105, 106, 107, 108, 109, 110, 111, 112, 113, 114, 115, 116, 117, 118, 119, 120, 121, 122, 123, 124, 125, 126, 127, 128, 129, 130, 131, 132, 133] (by decide +kernel) (by decide +kernel)
set_option maxRecDepth 20000 in
theorem gX12_note_X12_isGear : GoodIn wsX12_note (wsV RX12 121 RX12 yX12_isGear wsX12_isGear) := goodIn_app (goodIn_of _ (by decide +kernel)) ggX12_note_X12_isGear
set_option maxRecDepth 20000 in
theorem ggX12_note_X12_fails : GoodIn wsX12_note wsX12_fails := goodIn_r _ [27, 28, 97, 98, 99, 100, 101, 102, 103, 104, 105, 106, 107, 108, 109, 110, 111, 112, 113, 114, 115, 116, 117, 118, 119, 120, 121, 122, 123, 124, 125, 126, 127, 128, 129, 130] (by decide +kernel) (by decide +kernel)
set_option maxRecDepth 20000 in
theorem gX12_note_X12_fails : GoodIn wsX12_note (wsV RX12 143 RX12 yX12_fails wsX12_fails) := goodIn_app (goodIn_of _ (by decide +kernel)) ggX12_note_X12_fails
set_option maxRecDepth 20000 in
theorem ggX12_note_X12_in : GoodIn wsX12_note wsX12_in := goodIn_r _ [23] (by decide +kernel) (by decide +kernel)
set_option maxRecDepth 20000 in
theorem gX12_note_X12_in : GoodIn wsX12_note (va_wsS RX12 101 yX12_in wsX12_in) := goodIn_app (goodIn_of _ (by decide +kernel)) ggX12_note_X12_in
set_option maxRecDepth 20000 in
theorem ggX12_note_X12_isPair : GoodIn wsX12_note wsX12_isPair := goodIn_r _ [32, 33, 34, 35, 12, 36, 14, 37, 38, 39, 40, 18, 41, 20, 42, 43, 44, 45, 46, 47, 48, 49, 50, 51, 52, 53, 54, 74, 75, 76, 77, 78, 79, 80, 81, 82, 83, 84, 85, 86, 87, 88, 89, 90, 91, 92, 93, 94, 95, 96, 97, 98, 99, 100, 101, 102, 103, 104, 105, 106, 107, 108, 109, 110, 111, 112, 113, 114, 115, 116, 117, 118, 119, 120, 121, 122, 123, 124, 125, 126, 127, 128, 129, 130, 131, 132, 133] (by decide +kernel) (by decide +kernel)
set_option maxRecDepth 20000 in
theorem gX12_note_X12_isPair : GoodIn wsX12_note (wsV RX12 125 RX12 yX12_isPair wsX12_isPair) := goodIn_app (goodIn_of _ (by decide +kernel)) ggX12_note_X12_isPair
set_option maxRecDepth 20000 in
theorem ggX12_note_X12_gearAt : GoodIn wsX12_note wsX12_gearAt := goodIn_r _ [36, 14, 37, 38, 39, 40, 18, 41, 20, 42, 43, 44, 45, 46, 47, 48, 49, 50, 51, 52, 53, 54, 97, 98, 99, 100, 101, 102, 103, 104, 105, 106, 107, 108, 109, 110, 111, 112, 113, 114, 115, 116, 117, 118, 119, 120, 121, 122, 123, 124, 125, 126, 127, 128, 129, 130, 131, 132, 133] (by decide +kernel) (by decide +kernel)
set_option maxRecDepth 20000 in
theorem gX12_note_X12_gearAt : GoodIn wsX12_note (wsV RX12 111 RX12 yX12_gearAt wsX12_gearAt) := goodIn_app (goodIn_of _ (by decide +kernel)) ggX12_note_X12_gearAt
set_option maxRecDepth 20000 in
theorem ggX12_note_X10_partOrNone : GoodIn wsX12_note wsX10_partOrNone := goodIn_ca (goodIn_ca (goodIn_r _ [59, 60, 61, 62, 63, 58, 64, 65, 66, 7, 4, 8, 67, 68, 69, 74, 75, 76, 77, 78, 79, 80, 81, 82, 83, 84, 85, 86, 87, 88, 89, 90, 91, 92, 93, 94, 95, 96] (by decide +kernel) (by decide +kernel)) (goodIn_sub (fun _ h => List.mem_cons_of_mem _ (List.mem_append_left _ (List.mem_append_right _ h))) (by decide +kernel))) (goodIn_sub (fun _ h => List.mem_cons_of_mem _ (List.mem_append_right _ h)) (by decide +kernel))
set_option maxRecDepth 20000 in
theorem gX12_note_X10_partOrNone : GoodIn wsX12_note (wsV RX12 415 RX10 yX10_partOrNone wsX10_partOrNone) := goodIn_app (goodIn_of _ (by decide +kernel)) ggX12_note_X10_partOrNone
set_option maxRecDepth 20000 in
theorem ggX12_note_X12_answer : GoodIn wsX12_note wsX12_answer := goodIn_r _ [73, 28, 97, 98, 99, 100, 101, 102, 103, 104, 105, 106, 107, 108, 109, 110, 111, 112, 113, 114, 115, 116, 117, 118, 119, 120, 121, 122, 123, 124, 125, 126, 127, 128, 129, 130] (by decide +kernel) (by decide +kernel)
set_option maxRecDepth 20000 in
theorem gX12_note_X12_answer : GoodIn wsX12_note (wsV RX12 153 RX12 yX12_answer wsX12_answer) := goodIn_app (goodIn_of _ (by decide +kernel)) ggX12_note_X12_answer
theorem dX12_note_0 : decode cX12_note 0 = .ok (.aload_n 0, 1) := by decide +kernel
theorem dX12_note_1 : decode cX12_note 1 = .ok (.iload_n 1, 1) := by decide +kernel
theorem dX12_note_2 : decode cX12_note 2 = .ok (.invokevirtual 121, 3) := by decide +kernel
theorem dX12_note_5 : decode cX12_note 5 = .ok (.ifCond .eq 11, 3) := by decide +kernel
theorem dX12_note_8 : decode cX12_note 8 = .ok (.aload_n 0, 1) := by decide +kernel
theorem dX12_note_9 : decode cX12_note 9 = .ok (.iload_n 2, 1) := by decide +kernel
theorem dX12_note_10 : decode cX12_note 10 = .ok (.invokevirtual 121, 3) := by decide +kernel
theorem dX12_note_13 : decode cX12_note 13 = .ok (.ifCond .ne 9, 3) := by decide +kernel
theorem dX12_note_16 : decode cX12_note 16 = .ok (.aload_n 0, 1) := by decide +kernel
theorem dX12_note_17 : decode cX12_note 17 = .ok (.iconst 1, 1) := by decide +kernel
theorem dX12_note_18 : decode cX12_note 18 = .ok (.invokevirtual 143, 3) := by decide +kernel
theorem dX12_note_21 : decode cX12_note 21 = .ok (.ireturn, 1) := by decide +kernel
theorem dX12_note_22 : decode cX12_note 22 = .ok (.iload_n 3, 1) := by decide +kernel
theorem dX12_note_23 : decode cX12_note 23 = .ok (.i2l, 1) := by decide +kernel
theorem dX12_note_24 : decode cX12_note 24 = .ok (.lconst 1, 1) := by decide +kernel
theorem dX12_note_25 : decode cX12_note 25 = .ok (.ldc2_w 131, 3) := by decide +kernel
theorem dX12_note_28 : decode cX12_note 28 = .ok (.invokestatic 101, 3) := by decide +kernel
theorem dX12_note_31 : decode cX12_note 31 = .ok (.ifCond .ne 9, 3) := by decide +kernel
theorem dX12_note_34 : decode cX12_note 34 = .ok (.aload_n 0, 1) := by decide +kernel
theorem dX12_note_35 : decode cX12_note 35 = .ok (.iconst 2, 1) := by decide +kernel
theorem dX12_note_36 : decode cX12_note 36 = .ok (.invokevirtual 143, 3) := by decide +kernel
theorem dX12_note_39 : decode cX12_note 39 = .ok (.ireturn, 1) := by decide +kernel
theorem dX12_note_40 : decode cX12_note 40 = .ok (.aload_n 0, 1) := by decide +kernel
theorem dX12_note_41 : decode cX12_note 41 = .ok (.iload_n 1, 1) := by decide +kernel
theorem dX12_note_42 : decode cX12_note 42 = .ok (.iload_n 2, 1) := by decide +kernel
theorem dX12_note_43 : decode cX12_note 43 = .ok (.invokevirtual 125, 3) := by decide +kernel
theorem dX12_note_46 : decode cX12_note 46 = .ok (.ifCond .ne 9, 3) := by decide +kernel
theorem dX12_note_49 : decode cX12_note 49 = .ok (.aload_n 0, 1) := by decide +kernel
theorem dX12_note_50 : decode cX12_note 50 = .ok (.iconst 3, 1) := by decide +kernel
theorem dX12_note_51 : decode cX12_note 51 = .ok (.invokevirtual 143, 3) := by decide +kernel
theorem dX12_note_54 : decode cX12_note 54 = .ok (.ireturn, 1) := by decide +kernel
theorem dX12_note_55 : decode cX12_note 55 = .ok (.aload_n 0, 1) := by decide +kernel
theorem dX12_note_56 : decode cX12_note 56 = .ok (.iload_n 1, 1) := by decide +kernel
theorem dX12_note_57 : decode cX12_note 57 = .ok (.invokevirtual 111, 3) := by decide +kernel
theorem dX12_note_60 : decode cX12_note 60 = .ok (.astore 4, 2) := by decide +kernel
theorem dX12_note_62 : decode cX12_note 62 = .ok (.aload_n 0, 1) := by decide +kernel
theorem dX12_note_63 : decode cX12_note 63 = .ok (.iload_n 2, 1) := by decide +kernel
theorem dX12_note_64 : decode cX12_note 64 = .ok (.invokevirtual 111, 3) := by decide +kernel
theorem dX12_note_67 : decode cX12_note 67 = .ok (.astore 5, 2) := by decide +kernel
theorem dX12_note_69 : decode cX12_note 69 = .ok (.aload 4, 2) := by decide +kernel
theorem dX12_note_71 : decode cX12_note 71 = .ok (.iload_n 3, 1) := by decide +kernel
theorem dX12_note_72 : decode cX12_note 72 = .ok (.invokevirtual 415, 3) := by decide +kernel
theorem dX12_note_75 : decode cX12_note 75 = .ok (.istore 6, 2) := by decide +kernel
theorem dX12_note_77 : decode cX12_note 77 = .ok (.aload 5, 2) := by decide +kernel
theorem dX12_note_79 : decode cX12_note 79 = .ok (.iload_n 3, 1) := by decide +kernel
theorem dX12_note_80 : decode cX12_note 80 = .ok (.invokevirtual 415, 3) := by decide +kernel
theorem dX12_note_83 : decode cX12_note 83 = .ok (.istore 7, 2) := by decide +kernel
theorem dX12_note_85 : decode cX12_note 85 = .ok (.aload 4, 2) := by decide +kernel
theorem dX12_note_87 : decode cX12_note 87 = .ok (.getfield 332, 3) := by decide +kernel
theorem dX12_note_90 : decode cX12_note 90 = .ok (.iload_n 3, 1) := by decide +kernel
theorem dX12_note_91 : decode cX12_note 91 = .ok (.irem, 1) := by decide +kernel
theorem dX12_note_92 : decode cX12_note 92 = .ok (.ifCond .ne 17, 3) := by decide +kernel
theorem dX12_note_95 : decode cX12_note 95 = .ok (.aload 5, 2) := by decide +kernel
theorem dX12_note_97 : decode cX12_note 97 = .ok (.getfield 332, 3) := by decide +kernel
theorem dX12_note_100 : decode cX12_note 100 = .ok (.iload_n 3, 1) := by decide +kernel
theorem dX12_note_101 : decode cX12_note 101 = .ok (.irem, 1) := by decide +kernel
theorem dX12_note_102 : decode cX12_note 102 = .ok (.ifCond .ne 7, 3) := by decide +kernel
theorem dX12_note_105 : decode cX12_note 105 = .ok (.iconst 1, 1) := by decide +kernel
theorem dX12_note_106 : decode cX12_note 106 = .ok (.goto 4, 3) := by decide +kernel
theorem dX12_note_109 : decode cX12_note 109 = .ok (.iconst 0, 1) := by decide +kernel
theorem dX12_note_110 : decode cX12_note 110 = .ok (.istore 8, 2) := by decide +kernel
theorem dX12_note_112 : decode cX12_note 112 = .ok (.aload_n 0, 1) := by decide +kernel
theorem dX12_note_113 : decode cX12_note 113 = .ok (.iload 8, 2) := by decide +kernel
theorem dX12_note_115 : decode cX12_note 115 = .ok (.ifCond .eq 14, 3) := by decide +kernel
theorem dX12_note_118 : decode cX12_note 118 = .ok (.iload 6, 2) := by decide +kernel
theorem dX12_note_120 : decode cX12_note 120 = .ok (.iload 7, 2) := by decide +kernel
theorem dX12_note_122 : decode cX12_note 122 = .ok (.isub, 1) := by decide +kernel
theorem dX12_note_123 : decode cX12_note 123 = .ok (.invokestatic 215, 3) := by decide +kernel
theorem dX12_note_126 : decode cX12_note 126 = .ok (.goto 10, 3) := by decide +kernel
theorem dX12_note_129 : decode cX12_note 129 = .ok (.iload 6, 2) := by decide +kernel
theorem dX12_note_131 : decode cX12_note 131 = .ok (.iload 7, 2) := by decide +kernel
theorem dX12_note_133 : decode cX12_note 133 = .ok (.invokestatic 418, 3) := by decide +kernel
theorem dX12_note_136 : decode cX12_note 136 = .ok (.invokevirtual 153, 3) := by decide +kernel
theorem dX12_note_139 : decode cX12_note 139 = .ok (.ireturn, 1) := by decide +kernel
set_option maxRecDepth 20000 in
theorem ggX12_hunts_X12_isAsked : GoodIn wsX12_hunts wsX12_isAsked := goodIn_r _ [5, 6, 7, 8, 9, 4, 10, 11, 12, 13, 14, 15, 16, 17, 18, 19, 20, 21, 22, 23, 24, 25, 26, 27, 28, 29, 30, 31, 32, 33, 34, 35, 36, 37, 38, 39, 40, 41, 42, 43, 44, 45, 46, 73, 74, 75, 76, 77, 78, 79, 80, 81, 82, 83, 84, 85, 86, 87, 88, 89, 90, 91, 92, 93, 94, 95, 96, 97, 98, 99, 100, 101, 102, 103, 104, 105, 106, 107, 108, 109, 50, 51, 52, 53, 54, 55, 56, 57, 58, 59, 60, 61, 62, 63, 64, 65, 66, 67, 68, 69, 70, 71, 72] (by decide +kernel) (by decide +kernel)
set_option maxRecDepth 20000 in
theorem gX12_hunts_X12_isAsked : GoodIn wsX12_hunts (wsV RX12 220 RX12 yX12_isAsked wsX12_isAsked) := goodIn_app (goodIn_of _ (by decide +kernel)) ggX12_hunts_X12_isAsked
set_option maxRecDepth 20000 in
theorem ggX12_hunts_X12_gearAt : GoodIn wsX12_hunts wsX12_gearAt := goodIn_r _ [28, 11, 29, 30, 31, 32, 15, 33, 17, 34, 35, 36, 37, 38, 39, 40, 41, 42, 43, 44, 45, 46, 73, 74, 75, 76, 77, 78, 79, 80, 81, 82, 83, 84, 85, 86, 87, 88, 89, 90, 91, 92, 93, 94, 95, 96, 97, 98, 99, 100, 101, 102, 103, 104, 105, 106, 107, 108, 109] (by decide +kernel) (by decide +kernel)
set_option maxRecDepth 20000 in
theorem gX12_hunts_X12_gearAt : GoodIn wsX12_hunts (wsV RX12 111 RX12 yX12_gearAt wsX12_gearAt) := goodIn_app (goodIn_of _ (by decide +kernel)) ggX12_hunts_X12_gearAt
set_option maxRecDepth 20000 in
theorem ggX12_hunts_X12_divisor : GoodIn wsX12_hunts wsX12_divisor := goodIn_ca (goodIn_r _ [49, 47, 48, 4] (by decide +kernel) (by decide +kernel)) (goodIn_sub (fun _ h => List.mem_cons_of_mem _ (List.mem_append_right _ h)) (by decide +kernel))
set_option maxRecDepth 20000 in
theorem gX12_hunts_X12_divisor : GoodIn wsX12_hunts (va_wsS RX12 5 yX12_divisor wsX12_divisor) := goodIn_app (goodIn_of _ (by decide +kernel)) ggX12_hunts_X12_divisor
theorem dX12_hunts_0 : decode cX12_hunts 0 = .ok (.aload_n 0, 1) := by decide +kernel
theorem dX12_hunts_1 : decode cX12_hunts 1 = .ok (.iload_n 1, 1) := by decide +kernel
theorem dX12_hunts_2 : decode cX12_hunts 2 = .ok (.iload_n 2, 1) := by decide +kernel
theorem dX12_hunts_3 : decode cX12_hunts 3 = .ok (.iconst 1, 1) := by decide +kernel
theorem dX12_hunts_4 : decode cX12_hunts 4 = .ok (.iconst 2, 1) := by decide +kernel
theorem dX12_hunts_5 : decode cX12_hunts 5 = .ok (.invokevirtual 220, 3) := by decide +kernel
theorem dX12_hunts_8 : decode cX12_hunts 8 = .ok (.ifCond .eq 30, 3) := by decide +kernel
theorem dX12_hunts_11 : decode cX12_hunts 11 = .ok (.aload_n 0, 1) := by decide +kernel
theorem dX12_hunts_12 : decode cX12_hunts 12 = .ok (.iload_n 1, 1) := by decide +kernel
theorem dX12_hunts_13 : decode cX12_hunts 13 = .ok (.invokevirtual 111, 3) := by decide +kernel
theorem dX12_hunts_16 : decode cX12_hunts 16 = .ok (.getfield 332, 3) := by decide +kernel
theorem dX12_hunts_19 : decode cX12_hunts 19 = .ok (.aload_n 0, 1) := by decide +kernel
theorem dX12_hunts_20 : decode cX12_hunts 20 = .ok (.iload_n 2, 1) := by decide +kernel
theorem dX12_hunts_21 : decode cX12_hunts 21 = .ok (.invokevirtual 111, 3) := by decide +kernel
theorem dX12_hunts_24 : decode cX12_hunts 24 = .ok (.getfield 332, 3) := by decide +kernel
theorem dX12_hunts_27 : decode cX12_hunts 27 = .ok (.invokestatic 5, 3) := by decide +kernel
theorem dX12_hunts_30 : decode cX12_hunts 30 = .ok (.iconst 1, 1) := by decide +kernel
theorem dX12_hunts_31 : decode cX12_hunts 31 = .ok (.if_icmp .ne 7, 3) := by decide +kernel
theorem dX12_hunts_34 : decode cX12_hunts 34 = .ok (.iconst 1, 1) := by decide +kernel
theorem dX12_hunts_35 : decode cX12_hunts 35 = .ok (.goto 4, 3) := by decide +kernel
theorem dX12_hunts_38 : decode cX12_hunts 38 = .ok (.iconst 0, 1) := by decide +kernel
theorem dX12_hunts_39 : decode cX12_hunts 39 = .ok (.ireturn, 1) := by decide +kernel
set_option maxRecDepth 20000 in
theorem ggX12_bears_X12_isGear : GoodIn wsX12_bears wsX12_isGear := goodIn_r _ [5, 6, 7, 8, 9, 10, 11, 12, 13, 14, 4, 15, 83, 84, 85, 86, 87, 88, 89, 90, 91, 92, 93, 94, 95, 96, 97, 98, 99, 100, 101, 102, 103, 104, 105, 106, 107, 108, 109, 110, 111, 112, 113, 114, 115, 116, 117, 118, 119] (by decide +kernel) (by decide +kernel)
set_option maxRecDepth 20000 in
theorem gX12_bears_X12_isGear : GoodIn wsX12_bears (wsV RX12 121 RX12 yX12_isGear wsX12_isGear) := goodIn_app (goodIn_of _ (by decide +kernel)) ggX12_bears_X12_isGear
set_option maxRecDepth 20000 in
theorem ggX12_bears_X12_gearAt : GoodIn wsX12_bears wsX12_gearAt := goodIn_r _ [19, 6, 20, 21, 22, 23, 10, 24, 12, 25, 26, 27, 28, 29, 30, 31, 32, 33, 34, 35, 36, 37, 83, 84, 85, 86, 87, 88, 89, 90, 91, 92, 93, 94, 95, 96, 97, 98, 99, 100, 101, 102, 103, 104, 105, 106, 107, 108, 109, 110, 111, 112, 113, 114, 115, 116, 117, 118, 119] (by decide +kernel) (by decide +kernel)
set_option maxRecDepth 20000 in
theorem gX12_bears_X12_gearAt : GoodIn wsX12_bears (wsV RX12 111 RX12 yX12_gearAt wsX12_gearAt) := goodIn_app (goodIn_of _ (by decide +kernel)) ggX12_bears_X12_gearAt
set_option maxRecDepth 20000 in
theorem ggX12_bears_X10_bears_ : GoodIn wsX12_bears wsX10_bears_ := goodIn_ca (goodIn_r _ [42, 43, 44, 45, 46, 41, 47, 48, 49, 50, 51, 52, 53, 54, 55, 56, 57, 58, 59, 4, 60, 61, 62, 63, 64, 65, 66, 67, 68, 69, 70, 71, 72, 73, 120, 121, 122, 123, 124, 125, 126, 127, 128, 129, 130, 131, 132, 133, 134, 135, 136, 137, 138, 139, 140, 141, 142] (by decide +kernel) (by decide +kernel)) (goodIn_sub (fun _ h => List.mem_cons_of_mem _ (List.mem_append_right _ h)) (by decide +kernel))
set_option maxRecDepth 20000 in
theorem gX12_bears_X10_bears_ : GoodIn wsX12_bears (wsV RX12 437 RX10 yX10_bears_ wsX10_bears_) := goodIn_app (goodIn_of _ (by decide +kernel)) ggX12_bears_X10_bears_
set_option maxRecDepth 20000 in
theorem ggX12_bears_X12_answer : GoodIn wsX12_bears wsX12_answer := goodIn_r _ [77, 78, 83, 84, 85, 86, 87, 88, 89, 90, 91, 92, 93, 94, 95, 96, 97, 98, 99, 100, 101, 102, 103, 104, 105, 106, 107, 108, 109, 110, 111, 112, 113, 114, 115, 116] (by decide +kernel) (by decide +kernel)
set_option maxRecDepth 20000 in
theorem gX12_bears_X12_answer : GoodIn wsX12_bears (wsV RX12 153 RX12 yX12_answer wsX12_answer) := goodIn_app (goodIn_of _ (by decide +kernel)) ggX12_bears_X12_answer
set_option maxRecDepth 20000 in
theorem ggX12_bears_X12_fails : GoodIn wsX12_bears wsX12_fails := goodIn_r _ [82, 78, 83, 84, 85, 86, 87, 88, 89, 90, 91, 92, 93, 94, 95, 96, 97, 98, 99, 100, 101, 102, 103, 104, 105, 106, 107, 108, 109, 110, 111, 112, 113, 114, 115, 116] (by decide +kernel) (by decide +kernel)
set_option maxRecDepth 20000 in
theorem gX12_bears_X12_fails : GoodIn wsX12_bears (wsV RX12 143 RX12 yX12_fails wsX12_fails) := goodIn_app (goodIn_of _ (by decide +kernel)) ggX12_bears_X12_fails
theorem dX12_bears_0 : decode cX12_bears 0 = .ok (.aload_n 0, 1) := by decide +kernel
theorem dX12_bears_1 : decode cX12_bears 1 = .ok (.iload_n 1, 1) := by decide +kernel
theorem dX12_bears_2 : decode cX12_bears 2 = .ok (.invokevirtual 121, 3) := by decide +kernel
theorem dX12_bears_5 : decode cX12_bears 5 = .ok (.ifCond .eq 18, 3) := by decide +kernel
theorem dX12_bears_8 : decode cX12_bears 8 = .ok (.aload_n 0, 1) := by decide +kernel
theorem dX12_bears_9 : decode cX12_bears 9 = .ok (.aload_n 0, 1) := by decide +kernel
theorem dX12_bears_10 : decode cX12_bears 10 = .ok (.iload_n 1, 1) := by decide +kernel
theorem dX12_bears_11 : decode cX12_bears 11 = .ok (.invokevirtual 111, 3) := by decide +kernel
theorem dX12_bears_14 : decode cX12_bears 14 = .ok (.invokevirtual 437, 3) := by decide +kernel
theorem dX12_bears_17 : decode cX12_bears 17 = .ok (.invokevirtual 153, 3) := by decide +kernel
theorem dX12_bears_20 : decode cX12_bears 20 = .ok (.goto 8, 3) := by decide +kernel
theorem dX12_bears_23 : decode cX12_bears 23 = .ok (.aload_n 0, 1) := by decide +kernel
theorem dX12_bears_24 : decode cX12_bears 24 = .ok (.iconst 1, 1) := by decide +kernel
theorem dX12_bears_25 : decode cX12_bears 25 = .ok (.invokevirtual 143, 3) := by decide +kernel
theorem dX12_bears_28 : decode cX12_bears 28 = .ok (.ireturn, 1) := by decide +kernel
set_option maxRecDepth 20000 in
theorem ggX12_life_X12_isGear : GoodIn wsX12_life wsX12_isGear := goodIn_r _ [6, 7, 8, 9, 10, 11, 12, 13, 14, 15, 5, 16, 89, 90, 91, 92, 93, 94, 95, 96, 97, 98, 99, 100, 101, 102, 103, 104, 105, 106, 107, 108, 109, 110, 111, 112, 113, 114, 115, 116, 117, 118, 119, 120, 121, 122, 123, 124, 125] (by decide +kernel) (by decide +kernel)
set_option maxRecDepth 20000 in
theorem gX12_life_X12_isGear : GoodIn wsX12_life (wsV RX12 121 RX12 yX12_isGear wsX12_isGear) := goodIn_app (goodIn_of _ (by decide +kernel)) ggX12_life_X12_isGear
set_option maxRecDepth 20000 in
theorem ggX12_life_X12_fails : GoodIn wsX12_life wsX12_fails := goodIn_r _ [20, 21, 89, 90, 91, 92, 93, 94, 95, 96, 97, 98, 99, 100, 101, 102, 103, 104, 105, 106, 107, 108, 109, 110, 111, 112, 113, 114, 115, 116, 117, 118, 119, 120, 121, 122] (by decide +kernel) (by decide +kernel)
set_option maxRecDepth 20000 in
theorem gX12_life_X12_fails : GoodIn wsX12_life (wsV RX12 143 RX12 yX12_fails wsX12_fails) := goodIn_app (goodIn_of _ (by decide +kernel)) ggX12_life_X12_fails
set_option maxRecDepth 20000 in
theorem ggX12_life_X12_in : GoodIn wsX12_life wsX12_in := goodIn_r _ [16] (by decide +kernel) (by decide +kernel)
set_option maxRecDepth 20000 in
theorem gX12_life_X12_in : GoodIn wsX12_life (va_wsS RX12 101 yX12_in wsX12_in) := goodIn_app (goodIn_of _ (by decide +kernel)) ggX12_life_X12_in
set_option maxRecDepth 20000 in
theorem ggX12_life_X12_gearAt : GoodIn wsX12_life wsX12_gearAt := goodIn_r _ [25, 7, 26, 27, 28, 29, 11, 30, 13, 31, 32, 33, 34, 35, 36, 37, 38, 39, 40, 41, 42, 43, 89, 90, 91, 92, 93, 94, 95, 96, 97, 98, 99, 100, 101, 102, 103, 104, 105, 106, 107, 108, 109, 110, 111, 112, 113, 114, 115, 116, 117, 118, 119, 120, 121, 122, 123, 124, 125] (by decide +kernel) (by decide +kernel)
set_option maxRecDepth 20000 in
theorem gX12_life_X12_gearAt : GoodIn wsX12_life (wsV RX12 111 RX12 yX12_gearAt wsX12_gearAt) := goodIn_app (goodIn_of _ (by decide +kernel)) ggX12_life_X12_gearAt
set_option maxRecDepth 20000 in
theorem ggX12_life_X10_life : GoodIn wsX12_life wsX10_life := goodIn_ca (goodIn_r _ [48, 49, 50, 51, 52, 53, 47, 54, 55, 56, 57, 58, 59, 60, 61, 62, 63, 64, 65, 66, 67, 68, 69, 70, 5, 71, 72, 73, 74, 75, 76, 77, 78, 79, 80, 81, 82, 83, 84, 126, 127, 128, 129, 130, 131, 132, 133, 134, 135, 136, 137, 138, 139, 140, 141, 142, 143, 144, 145, 146, 147, 148] (by decide +kernel) (by decide +kernel)) (goodIn_sub (fun _ h => List.mem_cons_of_mem _ (List.mem_append_right _ h)) (by decide +kernel))
set_option maxRecDepth 20000 in
theorem gX12_life_X10_life : GoodIn wsX12_life (wsV RX12 440 RX10 yX10_life wsX10_life) := goodIn_app (goodIn_of _ (by decide +kernel)) ggX12_life_X10_life
set_option maxRecDepth 20000 in
theorem ggX12_life_X12_answerLong : GoodIn wsX12_life wsX12_answerLong := goodIn_r _ [88, 21, 89, 90, 91, 92, 93, 94, 95, 96, 97, 98, 99, 100, 101, 102, 103, 104, 105, 106, 107, 108, 109, 110, 111, 112, 113, 114, 115, 116, 117, 118, 119, 120, 121, 122] (by decide +kernel) (by decide +kernel)
set_option maxRecDepth 20000 in
theorem gX12_life_X12_answerLong : GoodIn wsX12_life (wsV RX12 443 RX12 yX12_answerLong wsX12_answerLong) := goodIn_app (goodIn_of _ (by decide +kernel)) ggX12_life_X12_answerLong
theorem dX12_life_0 : decode cX12_life 0 = .ok (.aload_n 0, 1) := by decide +kernel
theorem dX12_life_1 : decode cX12_life 1 = .ok (.iload_n 1, 1) := by decide +kernel
theorem dX12_life_2 : decode cX12_life 2 = .ok (.invokevirtual 121, 3) := by decide +kernel
theorem dX12_life_5 : decode cX12_life 5 = .ok (.ifCond .ne 10, 3) := by decide +kernel
theorem dX12_life_8 : decode cX12_life 8 = .ok (.aload_n 0, 1) := by decide +kernel
theorem dX12_life_9 : decode cX12_life 9 = .ok (.iconst 1, 1) := by decide +kernel
theorem dX12_life_10 : decode cX12_life 10 = .ok (.invokevirtual 143, 3) := by decide +kernel
theorem dX12_life_13 : decode cX12_life 13 = .ok (.i2l, 1) := by decide +kernel
theorem dX12_life_14 : decode cX12_life 14 = .ok (.lreturn, 1) := by decide +kernel
theorem dX12_life_15 : decode cX12_life 15 = .ok (.iload_n 2, 1) := by decide +kernel
theorem dX12_life_16 : decode cX12_life 16 = .ok (.i2l, 1) := by decide +kernel
theorem dX12_life_17 : decode cX12_life 17 = .ok (.lconst 1, 1) := by decide +kernel
theorem dX12_life_18 : decode cX12_life 18 = .ok (.ldc2_w 306, 3) := by decide +kernel
theorem dX12_life_21 : decode cX12_life 21 = .ok (.invokestatic 101, 3) := by decide +kernel
theorem dX12_life_24 : decode cX12_life 24 = .ok (.ifCond .eq 20, 3) := by decide +kernel
