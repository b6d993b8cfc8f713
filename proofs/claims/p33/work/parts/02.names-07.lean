theorem dX6_quietStart_25 : decode cX6_quietStart 25 = .ok (.iload 4, 2) := by decide +kernel
theorem dX6_quietStart_27 : decode cX6_quietStart 27 = .ok (.iload_n 2, 1) := by decide +kernel
theorem dX6_quietStart_28 : decode cX6_quietStart 28 = .ok (.if_icmp .ge 8, 3) := by decide +kernel
theorem dX6_quietStart_31 : decode cX6_quietStart 31 = .ok (.iload 4, 2) := by decide +kernel
theorem dX6_quietStart_33 : decode cX6_quietStart 33 = .ok (.istore_n 2, 1) := by decide +kernel
theorem dX6_quietStart_34 : decode cX6_quietStart 34 = .ok (.iload_n 3, 1) := by decide +kernel
theorem dX6_quietStart_35 : decode cX6_quietStart 35 = .ok (.istore_n 1, 1) := by decide +kernel
theorem dX6_quietStart_36 : decode cX6_quietStart 36 = .ok (.iinc 3 1, 3) := by decide +kernel
theorem dX6_quietStart_39 : decode cX6_quietStart 39 = .ok (.goto (-29), 3) := by decide +kernel
theorem dX6_quietStart_42 : decode cX6_quietStart 42 = .ok (.iload_n 1, 1) := by decide +kernel
theorem dX6_quietStart_43 : decode cX6_quietStart 43 = .ok (.ireturn, 1) := by decide +kernel
theorem dX7_init_0 : decode cX7_init 0 = .ok (.aload_n 0, 1) := by decide +kernel
theorem dX7_init_1 : decode cX7_init 1 = .ok (.invokespecial 1, 3) := by decide +kernel
theorem dX7_init_4 : decode cX7_init 4 = .ok (.aload_n 0, 1) := by decide +kernel
theorem dX7_init_5 : decode cX7_init 5 = .ok (.iload_n 1, 1) := by decide +kernel
theorem dX7_init_6 : decode cX7_init 6 = .ok (.putfield 7, 3) := by decide +kernel
theorem dX7_init_9 : decode cX7_init 9 = .ok (.aload_n 0, 1) := by decide +kernel
theorem dX7_init_10 : decode cX7_init 10 = .ok (.iload_n 2, 1) := by decide +kernel
theorem dX7_init_11 : decode cX7_init 11 = .ok (.putfield 13, 3) := by decide +kernel
theorem dX7_init_14 : decode cX7_init 14 = .ok (.return_, 1) := by decide +kernel
theorem dX7_endFrom_0 : decode cX7_endFrom 0 = .ok (.iload_n 1, 1) := by decide +kernel
theorem dX7_endFrom_1 : decode cX7_endFrom 1 = .ok (.aload_n 0, 1) := by decide +kernel
theorem dX7_endFrom_2 : decode cX7_endFrom 2 = .ok (.getfield 17, 3) := by decide +kernel
theorem dX7_endFrom_5 : decode cX7_endFrom 5 = .ok (.invokestatic 20, 3) := by decide +kernel
theorem dX7_endFrom_8 : decode cX7_endFrom 8 = .ok (.aload_n 0, 1) := by decide +kernel
theorem dX7_endFrom_9 : decode cX7_endFrom 9 = .ok (.getfield 13, 3) := by decide +kernel
theorem dX7_endFrom_12 : decode cX7_endFrom 12 = .ok (.iadd, 1) := by decide +kernel
theorem dX7_endFrom_13 : decode cX7_endFrom 13 = .ok (.ireturn, 1) := by decide +kernel
theorem dX8_init_0 : decode cX8_init 0 = .ok (.aload_n 0, 1) := by decide +kernel
theorem dX8_init_1 : decode cX8_init 1 = .ok (.invokespecial 1, 3) := by decide +kernel
theorem dX8_init_4 : decode cX8_init 4 = .ok (.aload_n 0, 1) := by decide +kernel
theorem dX8_init_5 : decode cX8_init 5 = .ok (.iload_n 1, 1) := by decide +kernel
theorem dX8_init_6 : decode cX8_init 6 = .ok (.putfield 7, 3) := by decide +kernel
theorem dX8_init_9 : decode cX8_init 9 = .ok (.aload_n 0, 1) := by decide +kernel
theorem dX8_init_10 : decode cX8_init 10 = .ok (.iload_n 2, 1) := by decide +kernel
theorem dX8_init_11 : decode cX8_init 11 = .ok (.putfield 13, 3) := by decide +kernel
theorem dX8_init_14 : decode cX8_init 14 = .ok (.return_, 1) := by decide +kernel
set_option maxRecDepth 20000 in
theorem ggX8_search_X8_compare : GoodIn wsX8_search wsX8_compare := goodIn_ca (goodIn_q _ [17, 1, 2, 18, 19, 5, 20, 21, 22, 23, 24, 25, 26, 16, 27, 28, 29, 30, 31, 32, 33, 34, 35, 36, 37, 38] rfl (by decide +kernel)) (goodIn_sub (fun _ h => List.mem_cons_of_mem _ (List.mem_append_right _ h)) (by decide +kernel))
set_option maxRecDepth 20000 in
theorem gX8_search_X8_compare : GoodIn wsX8_search (wsV RX8 25 RX8 yX8_compare wsX8_compare) := goodIn_app (goodIn_q _ [13, 14, 15, 16] rfl (by decide +kernel)) ggX8_search_X8_compare
theorem dX8_search_0 : decode cX8_search 0 = .ok (.iload_n 1, 1) := by decide +kernel
theorem dX8_search_1 : decode cX8_search 1 = .ok (.istore_n 3, 1) := by decide +kernel
theorem dX8_search_2 : decode cX8_search 2 = .ok (.iload_n 3, 1) := by decide +kernel
theorem dX8_search_3 : decode cX8_search 3 = .ok (.iload_n 2, 1) := by decide +kernel
theorem dX8_search_4 : decode cX8_search 4 = .ok (.if_icmp .gt 63, 3) := by decide +kernel
theorem dX8_search_7 : decode cX8_search 7 = .ok (.aload_n 0, 1) := by decide +kernel
theorem dX8_search_8 : decode cX8_search 8 = .ok (.getfield 13, 3) := by decide +kernel
theorem dX8_search_11 : decode cX8_search 11 = .ok (.ifCond .le 56, 3) := by decide +kernel
theorem dX8_search_14 : decode cX8_search 14 = .ok (.iload_n 1, 1) := by decide +kernel
theorem dX8_search_15 : decode cX8_search 15 = .ok (.i2l, 1) := by decide +kernel
theorem dX8_search_16 : decode cX8_search 16 = .ok (.iload_n 2, 1) := by decide +kernel
theorem dX8_search_17 : decode cX8_search 17 = .ok (.i2l, 1) := by decide +kernel
theorem dX8_search_18 : decode cX8_search 18 = .ok (.iload_n 3, 1) := by decide +kernel
theorem dX8_search_19 : decode cX8_search 19 = .ok (.i2l, 1) := by decide +kernel
theorem dX8_search_20 : decode cX8_search 20 = .ok (.aload_n 0, 1) := by decide +kernel
theorem dX8_search_21 : decode cX8_search 21 = .ok (.getfield 7, 3) := by decide +kernel
theorem dX8_search_24 : decode cX8_search 24 = .ok (.i2l, 1) := by decide +kernel
theorem dX8_search_25 : decode cX8_search 25 = .ok (.lmul, 1) := by decide +kernel
theorem dX8_search_26 : decode cX8_search 26 = .ok (.aload_n 0, 1) := by decide +kernel
theorem dX8_search_27 : decode cX8_search 27 = .ok (.getfield 13, 3) := by decide +kernel
theorem dX8_search_30 : decode cX8_search 30 = .ok (.i2l, 1) := by decide +kernel
theorem dX8_search_31 : decode cX8_search 31 = .ok (.ldiv, 1) := by decide +kernel
theorem dX8_search_32 : decode cX8_search 32 = .ok (.invokestatic 16, 3) := by decide +kernel
theorem dX8_search_35 : decode cX8_search 35 = .ok (.invokestatic 22, 3) := by decide +kernel
theorem dX8_search_38 : decode cX8_search 38 = .ok (.l2i, 1) := by decide +kernel
theorem dX8_search_39 : decode cX8_search 39 = .ok (.istore 4, 2) := by decide +kernel
theorem dX8_search_41 : decode cX8_search 41 = .ok (.aload_n 0, 1) := by decide +kernel
theorem dX8_search_42 : decode cX8_search 42 = .ok (.iload 4, 2) := by decide +kernel
theorem dX8_search_44 : decode cX8_search 44 = .ok (.iload_n 3, 1) := by decide +kernel
theorem dX8_search_45 : decode cX8_search 45 = .ok (.invokevirtual 25, 3) := by decide +kernel
theorem dX8_search_48 : decode cX8_search 48 = .ok (.aload_n 0, 1) := by decide +kernel
theorem dX8_search_49 : decode cX8_search 49 = .ok (.iload_n 2, 1) := by decide +kernel
theorem dX8_search_50 : decode cX8_search 50 = .ok (.iload 4, 2) := by decide +kernel
theorem dX8_search_52 : decode cX8_search 52 = .ok (.iconst 1, 1) := by decide +kernel
theorem dX8_search_53 : decode cX8_search 53 = .ok (.iadd, 1) := by decide +kernel
theorem dX8_search_54 : decode cX8_search 54 = .ok (.invokestatic 29, 3) := by decide +kernel
theorem dX8_search_57 : decode cX8_search 57 = .ok (.iload_n 3, 1) := by decide +kernel
theorem dX8_search_58 : decode cX8_search 58 = .ok (.invokevirtual 25, 3) := by decide +kernel
theorem dX8_search_61 : decode cX8_search 61 = .ok (.iinc 3 1, 3) := by decide +kernel
theorem dX8_search_64 : decode cX8_search 64 = .ok (.goto (-62), 3) := by decide +kernel
theorem dX8_search_67 : decode cX8_search 67 = .ok (.return_, 1) := by decide +kernel
set_option maxRecDepth 20000 in
theorem ggX8_compare_X8_comesFirst : GoodIn wsX8_compare wsX8_comesFirst := goodIn_ca (goodIn_q _ [14, 9, 7, 15, 16, 17, 18, 19, 5, 20, 21, 22, 23, 24, 25] rfl (by decide +kernel)) (goodIn_sub (fun _ h => List.mem_cons_of_mem _ (List.mem_append_right _ h)) (by decide +kernel))
set_option maxRecDepth 20000 in
theorem gX8_compare_X8_comesFirst : GoodIn wsX8_compare (wsV RX8 43 RX8 yX8_comesFirst wsX8_comesFirst) := goodIn_app (goodIn_q _ [10, 11, 12, 13] rfl (by decide +kernel)) ggX8_compare_X8_comesFirst
theorem dX8_compare_0 : decode cX8_compare 0 = .ok (.iload_n 1, 1) := by decide +kernel
theorem dX8_compare_1 : decode cX8_compare 1 = .ok (.i2l, 1) := by decide +kernel
theorem dX8_compare_2 : decode cX8_compare 2 = .ok (.aload_n 0, 1) := by decide +kernel
theorem dX8_compare_3 : decode cX8_compare 3 = .ok (.getfield 13, 3) := by decide +kernel
theorem dX8_compare_6 : decode cX8_compare 6 = .ok (.i2l, 1) := by decide +kernel
theorem dX8_compare_7 : decode cX8_compare 7 = .ok (.lmul, 1) := by decide +kernel
theorem dX8_compare_8 : decode cX8_compare 8 = .ok (.iload_n 2, 1) := by decide +kernel
theorem dX8_compare_9 : decode cX8_compare 9 = .ok (.i2l, 1) := by decide +kernel
theorem dX8_compare_10 : decode cX8_compare 10 = .ok (.aload_n 0, 1) := by decide +kernel
theorem dX8_compare_11 : decode cX8_compare 11 = .ok (.getfield 7, 3) := by decide +kernel
theorem dX8_compare_14 : decode cX8_compare 14 = .ok (.i2l, 1) := by decide +kernel
theorem dX8_compare_15 : decode cX8_compare 15 = .ok (.lmul, 1) := by decide +kernel
theorem dX8_compare_16 : decode cX8_compare 16 = .ok (.lsub, 1) := by decide +kernel
theorem dX8_compare_17 : decode cX8_compare 17 = .ok (.invokestatic 32, 3) := by decide +kernel
theorem dX8_compare_20 : decode cX8_compare 20 = .ok (.lstore_n 3, 1) := by decide +kernel
theorem dX8_compare_21 : decode cX8_compare 21 = .ok (.lload_n 3, 1) := by decide +kernel
theorem dX8_compare_22 : decode cX8_compare 22 = .ok (.aload_n 0, 1) := by decide +kernel
theorem dX8_compare_23 : decode cX8_compare 23 = .ok (.getfield 36, 3) := by decide +kernel
theorem dX8_compare_26 : decode cX8_compare 26 = .ok (.i2l, 1) := by decide +kernel
theorem dX8_compare_27 : decode cX8_compare 27 = .ok (.lmul, 1) := by decide +kernel
theorem dX8_compare_28 : decode cX8_compare 28 = .ok (.lstore 5, 2) := by decide +kernel
theorem dX8_compare_30 : decode cX8_compare 30 = .ok (.aload_n 0, 1) := by decide +kernel
theorem dX8_compare_31 : decode cX8_compare 31 = .ok (.getfield 39, 3) := by decide +kernel
theorem dX8_compare_34 : decode cX8_compare 34 = .ok (.iload_n 2, 1) := by decide +kernel
theorem dX8_compare_35 : decode cX8_compare 35 = .ok (.i2l, 1) := by decide +kernel
theorem dX8_compare_36 : decode cX8_compare 36 = .ok (.lmul, 1) := by decide +kernel
theorem dX8_compare_37 : decode cX8_compare 37 = .ok (.lstore 7, 2) := by decide +kernel
theorem dX8_compare_39 : decode cX8_compare 39 = .ok (.aload_n 0, 1) := by decide +kernel
theorem dX8_compare_40 : decode cX8_compare 40 = .ok (.getfield 36, 3) := by decide +kernel
theorem dX8_compare_43 : decode cX8_compare 43 = .ok (.ifCond .eq 28, 3) := by decide +kernel
theorem dX8_compare_46 : decode cX8_compare 46 = .ok (.lload 5, 2) := by decide +kernel
theorem dX8_compare_48 : decode cX8_compare 48 = .ok (.lload 7, 2) := by decide +kernel
theorem dX8_compare_50 : decode cX8_compare 50 = .ok (.lcmp, 1) := by decide +kernel
theorem dX8_compare_51 : decode cX8_compare 51 = .ok (.ifCond .lt 20, 3) := by decide +kernel
theorem dX8_compare_54 : decode cX8_compare 54 = .ok (.lload 5, 2) := by decide +kernel
theorem dX8_compare_56 : decode cX8_compare 56 = .ok (.lload 7, 2) := by decide +kernel
theorem dX8_compare_58 : decode cX8_compare 58 = .ok (.lcmp, 1) := by decide +kernel
theorem dX8_compare_59 : decode cX8_compare 59 = .ok (.ifCond .ne 27, 3) := by decide +kernel
theorem dX8_compare_62 : decode cX8_compare 62 = .ok (.aload_n 0, 1) := by decide +kernel
theorem dX8_compare_63 : decode cX8_compare 63 = .ok (.iload_n 1, 1) := by decide +kernel
theorem dX8_compare_64 : decode cX8_compare 64 = .ok (.iload_n 2, 1) := by decide +kernel
theorem dX8_compare_65 : decode cX8_compare 65 = .ok (.invokevirtual 43, 3) := by decide +kernel
theorem dX8_compare_68 : decode cX8_compare 68 = .ok (.ifCond .eq 18, 3) := by decide +kernel
theorem dX8_compare_71 : decode cX8_compare 71 = .ok (.aload_n 0, 1) := by decide +kernel
theorem dX8_compare_72 : decode cX8_compare 72 = .ok (.iload_n 1, 1) := by decide +kernel
theorem dX8_compare_73 : decode cX8_compare 73 = .ok (.putfield 47, 3) := by decide +kernel
theorem dX8_compare_76 : decode cX8_compare 76 = .ok (.aload_n 0, 1) := by decide +kernel
theorem dX8_compare_77 : decode cX8_compare 77 = .ok (.iload_n 2, 1) := by decide +kernel
theorem dX8_compare_78 : decode cX8_compare 78 = .ok (.putfield 36, 3) := by decide +kernel
theorem dX8_compare_81 : decode cX8_compare 81 = .ok (.aload_n 0, 1) := by decide +kernel
theorem dX8_compare_82 : decode cX8_compare 82 = .ok (.lload_n 3, 1) := by decide +kernel
theorem dX8_compare_83 : decode cX8_compare 83 = .ok (.putfield 39, 3) := by decide +kernel
theorem dX8_compare_86 : decode cX8_compare 86 = .ok (.return_, 1) := by decide +kernel
set_option maxRecDepth 20000 in
theorem ggX8_comesFirst_X9_commonDivisor : GoodIn wsX8_comesFirst wsX9_commonDivisor := goodIn_ca (goodIn_q _ [5, 6, 7, 8, 9] rfl (by decide +kernel)) (goodIn_sub (fun _ h => List.mem_cons_of_mem _ (List.mem_append_right _ h)) (by decide +kernel))
set_option maxRecDepth 20000 in
theorem gX8_comesFirst_X9_commonDivisor_n50 : GoodIn wsX8_comesFirst (wsX9_commonDivisor) := ggX8_comesFirst_X9_commonDivisor
theorem dX8_comesFirst_0 : decode cX8_comesFirst 0 = .ok (.iload_n 1, 1) := by decide +kernel
theorem dX8_comesFirst_1 : decode cX8_comesFirst 1 = .ok (.iload_n 2, 1) := by decide +kernel
theorem dX8_comesFirst_2 : decode cX8_comesFirst 2 = .ok (.invokestatic 50, 3) := by decide +kernel
theorem dX8_comesFirst_5 : decode cX8_comesFirst 5 = .ok (.iconst 1, 1) := by decide +kernel
theorem dX8_comesFirst_6 : decode cX8_comesFirst 6 = .ok (.if_icmp .ne 7, 3) := by decide +kernel
theorem dX8_comesFirst_9 : decode cX8_comesFirst 9 = .ok (.iconst 1, 1) := by decide +kernel
theorem dX8_comesFirst_10 : decode cX8_comesFirst 10 = .ok (.goto 4, 3) := by decide +kernel
theorem dX8_comesFirst_13 : decode cX8_comesFirst 13 = .ok (.iconst 0, 1) := by decide +kernel
theorem dX8_comesFirst_14 : decode cX8_comesFirst 14 = .ok (.istore_n 3, 1) := by decide +kernel
theorem dX8_comesFirst_15 : decode cX8_comesFirst 15 = .ok (.aload_n 0, 1) := by decide +kernel
theorem dX8_comesFirst_16 : decode cX8_comesFirst 16 = .ok (.getfield 47, 3) := by decide +kernel
theorem dX8_comesFirst_19 : decode cX8_comesFirst 19 = .ok (.aload_n 0, 1) := by decide +kernel
theorem dX8_comesFirst_20 : decode cX8_comesFirst 20 = .ok (.getfield 36, 3) := by decide +kernel
theorem dX8_comesFirst_23 : decode cX8_comesFirst 23 = .ok (.invokestatic 50, 3) := by decide +kernel
theorem dX8_comesFirst_26 : decode cX8_comesFirst 26 = .ok (.iconst 1, 1) := by decide +kernel
theorem dX8_comesFirst_27 : decode cX8_comesFirst 27 = .ok (.if_icmp .ne 7, 3) := by decide +kernel
theorem dX8_comesFirst_30 : decode cX8_comesFirst 30 = .ok (.iconst 1, 1) := by decide +kernel
theorem dX8_comesFirst_31 : decode cX8_comesFirst 31 = .ok (.goto 4, 3) := by decide +kernel
theorem dX8_comesFirst_34 : decode cX8_comesFirst 34 = .ok (.iconst 0, 1) := by decide +kernel
theorem dX8_comesFirst_35 : decode cX8_comesFirst 35 = .ok (.istore 4, 2) := by decide +kernel
theorem dX8_comesFirst_37 : decode cX8_comesFirst 37 = .ok (.iload_n 3, 1) := by decide +kernel
theorem dX8_comesFirst_38 : decode cX8_comesFirst 38 = .ok (.iload 4, 2) := by decide +kernel
theorem dX8_comesFirst_40 : decode cX8_comesFirst 40 = .ok (.if_icmp .eq 5, 3) := by decide +kernel
theorem dX8_comesFirst_43 : decode cX8_comesFirst 43 = .ok (.iload_n 3, 1) := by decide +kernel
theorem dX8_comesFirst_44 : decode cX8_comesFirst 44 = .ok (.ireturn, 1) := by decide +kernel
theorem dX8_comesFirst_45 : decode cX8_comesFirst 45 = .ok (.iload_n 1, 1) := by decide +kernel
theorem dX8_comesFirst_46 : decode cX8_comesFirst 46 = .ok (.iload_n 2, 1) := by decide +kernel
theorem dX8_comesFirst_47 : decode cX8_comesFirst 47 = .ok (.iadd, 1) := by decide +kernel
theorem dX8_comesFirst_48 : decode cX8_comesFirst 48 = .ok (.aload_n 0, 1) := by decide +kernel
theorem dX8_comesFirst_49 : decode cX8_comesFirst 49 = .ok (.getfield 47, 3) := by decide +kernel
theorem dX8_comesFirst_52 : decode cX8_comesFirst 52 = .ok (.aload_n 0, 1) := by decide +kernel
theorem dX8_comesFirst_53 : decode cX8_comesFirst 53 = .ok (.getfield 36, 3) := by decide +kernel
theorem dX8_comesFirst_56 : decode cX8_comesFirst 56 = .ok (.iadd, 1) := by decide +kernel
theorem dX8_comesFirst_57 : decode cX8_comesFirst 57 = .ok (.if_icmp .eq 24, 3) := by decide +kernel
theorem dX8_comesFirst_60 : decode cX8_comesFirst 60 = .ok (.iload_n 1, 1) := by decide +kernel
theorem dX8_comesFirst_61 : decode cX8_comesFirst 61 = .ok (.iload_n 2, 1) := by decide +kernel
theorem dX8_comesFirst_62 : decode cX8_comesFirst 62 = .ok (.iadd, 1) := by decide +kernel
theorem dX8_comesFirst_63 : decode cX8_comesFirst 63 = .ok (.aload_n 0, 1) := by decide +kernel
theorem dX8_comesFirst_64 : decode cX8_comesFirst 64 = .ok (.getfield 47, 3) := by decide +kernel
theorem dX8_comesFirst_67 : decode cX8_comesFirst 67 = .ok (.aload_n 0, 1) := by decide +kernel
theorem dX8_comesFirst_68 : decode cX8_comesFirst 68 = .ok (.getfield 36, 3) := by decide +kernel
theorem dX8_comesFirst_71 : decode cX8_comesFirst 71 = .ok (.iadd, 1) := by decide +kernel
theorem dX8_comesFirst_72 : decode cX8_comesFirst 72 = .ok (.if_icmp .ge 7, 3) := by decide +kernel
theorem dX8_comesFirst_75 : decode cX8_comesFirst 75 = .ok (.iconst 1, 1) := by decide +kernel
theorem dX8_comesFirst_76 : decode cX8_comesFirst 76 = .ok (.goto 4, 3) := by decide +kernel
theorem dX8_comesFirst_79 : decode cX8_comesFirst 79 = .ok (.iconst 0, 1) := by decide +kernel
theorem dX8_comesFirst_80 : decode cX8_comesFirst 80 = .ok (.ireturn, 1) := by decide +kernel
theorem dX8_comesFirst_81 : decode cX8_comesFirst 81 = .ok (.iload_n 1, 1) := by decide +kernel
theorem dX8_comesFirst_82 : decode cX8_comesFirst 82 = .ok (.aload_n 0, 1) := by decide +kernel
theorem dX8_comesFirst_83 : decode cX8_comesFirst 83 = .ok (.getfield 47, 3) := by decide +kernel
theorem dX8_comesFirst_86 : decode cX8_comesFirst 86 = .ok (.if_icmp .ge 7, 3) := by decide +kernel
theorem dX8_comesFirst_89 : decode cX8_comesFirst 89 = .ok (.iconst 1, 1) := by decide +kernel
theorem dX8_comesFirst_90 : decode cX8_comesFirst 90 = .ok (.goto 4, 3) := by decide +kernel
theorem dX8_comesFirst_93 : decode cX8_comesFirst 93 = .ok (.iconst 0, 1) := by decide +kernel
theorem dX8_comesFirst_94 : decode cX8_comesFirst 94 = .ok (.ireturn, 1) := by decide +kernel
set_option maxRecDepth 20000 in
theorem ggX9_init_X0_init : GoodIn wsX9_init wsX0_init := goodIn_q _ [25, 26, 2, 3, 27, 28, 29, 60, 61, 62, 63, 64, 65, 66] rfl (by decide +kernel)
set_option maxRecDepth 20000 in
theorem gX9_init_X0_init_n29 : GoodIn wsX9_init (wsX0_init) := ggX9_init_X0_init
set_option maxRecDepth 20000 in
theorem ggX9_init_X6_init : GoodIn wsX9_init wsX6_init := goodIn_q _ [31, 32, 2, 3, 27, 33, 34, 35, 36, 37, 67, 68, 69, 70, 71] rfl (by decide +kernel)
set_option maxRecDepth 20000 in
theorem gX9_init_X6_init_n36 : GoodIn wsX9_init (wsX6_init) := ggX9_init_X6_init
set_option maxRecDepth 20000 in
theorem ggX9_init_X4_init : GoodIn wsX9_init wsX4_init := goodIn_q _ [39, 40, 2, 3, 41, 42, 43, 27, 44, 45, 46, 47, 48, 72, 73, 74, 75, 76, 77, 78, 79, 80] rfl (by decide +kernel)
set_option maxRecDepth 20000 in
theorem gX9_init_X4_init_n43 : GoodIn wsX9_init (wsX4_init) := ggX9_init_X4_init
theorem dX9_init_0 : decode cX9_init 0 = .ok (.aload_n 0, 1) := by decide +kernel
theorem dX9_init_1 : decode cX9_init 1 = .ok (.invokespecial 1, 3) := by decide +kernel
theorem dX9_init_4 : decode cX9_init 4 = .ok (.aload_n 0, 1) := by decide +kernel
theorem dX9_init_5 : decode cX9_init 5 = .ok (.bipush 20, 2) := by decide +kernel
theorem dX9_init_7 : decode cX9_init 7 = .ok (.anewarray 9, 3) := by decide +kernel
theorem dX9_init_10 : decode cX9_init 10 = .ok (.putfield 11, 3) := by decide +kernel
theorem dX9_init_13 : decode cX9_init 13 = .ok (.aload_n 0, 1) := by decide +kernel
theorem dX9_init_14 : decode cX9_init 14 = .ok (.bipush 8, 2) := by decide +kernel
theorem dX9_init_16 : decode cX9_init 16 = .ok (.anewarray 15, 3) := by decide +kernel
theorem dX9_init_19 : decode cX9_init 19 = .ok (.putfield 17, 3) := by decide +kernel
theorem dX9_init_22 : decode cX9_init 22 = .ok (.aload_n 0, 1) := by decide +kernel
theorem dX9_init_23 : decode cX9_init 23 = .ok (.bipush 6, 2) := by decide +kernel
theorem dX9_init_25 : decode cX9_init 25 = .ok (.anewarray 21, 3) := by decide +kernel
theorem dX9_init_28 : decode cX9_init 28 = .ok (.putfield 23, 3) := by decide +kernel
theorem dX9_init_31 : decode cX9_init 31 = .ok (.aload_n 0, 1) := by decide +kernel
theorem dX9_init_32 : decode cX9_init 32 = .ok (.new 27, 3) := by decide +kernel
theorem dX9_init_35 : decode cX9_init 35 = .ok (.dup, 1) := by decide +kernel
theorem dX9_init_36 : decode cX9_init 36 = .ok (.invokespecial 29, 3) := by decide +kernel
theorem dX9_init_39 : decode cX9_init 39 = .ok (.putfield 30, 3) := by decide +kernel
theorem dX9_init_42 : decode cX9_init 42 = .ok (.aload_n 0, 1) := by decide +kernel
theorem dX9_init_43 : decode cX9_init 43 = .ok (.new 34, 3) := by decide +kernel
theorem dX9_init_46 : decode cX9_init 46 = .ok (.dup, 1) := by decide +kernel
theorem dX9_init_47 : decode cX9_init 47 = .ok (.invokespecial 36, 3) := by decide +kernel
theorem dX9_init_50 : decode cX9_init 50 = .ok (.putfield 37, 3) := by decide +kernel
theorem dX9_init_53 : decode cX9_init 53 = .ok (.aload_n 0, 1) := by decide +kernel
theorem dX9_init_54 : decode cX9_init 54 = .ok (.new 41, 3) := by decide +kernel
theorem dX9_init_57 : decode cX9_init 57 = .ok (.dup, 1) := by decide +kernel
theorem dX9_init_58 : decode cX9_init 58 = .ok (.invokespecial 43, 3) := by decide +kernel
theorem dX9_init_61 : decode cX9_init 61 = .ok (.putfield 44, 3) := by decide +kernel
theorem dX9_init_64 : decode cX9_init 64 = .ok (.aload_n 0, 1) := by decide +kernel
theorem dX9_init_65 : decode cX9_init 65 = .ok (.bipush 24, 2) := by decide +kernel
theorem dX9_init_67 : decode cX9_init 67 = .ok (.putfield 48, 3) := by decide +kernel
theorem dX9_init_70 : decode cX9_init 70 = .ok (.aload_n 0, 1) := by decide +kernel
theorem dX9_init_71 : decode cX9_init 71 = .ok (.bipush 60, 2) := by decide +kernel
theorem dX9_init_73 : decode cX9_init 73 = .ok (.putfield 52, 3) := by decide +kernel
theorem dX9_init_76 : decode cX9_init 76 = .ok (.return_, 1) := by decide +kernel
set_option maxRecDepth 20000 in
theorem ggX9_gear_X9_needTeeth : GoodIn wsX9_gear wsX9_needTeeth := goodIn_ca (goodIn_q _ [12, 13, 14, 11, 15, 16, 17] rfl (by decide +kernel)) (goodIn_sub (fun _ h => List.mem_cons_of_mem _ (List.mem_append_right _ h)) (by decide +kernel))
set_option maxRecDepth 20000 in
theorem gX9_gear_X9_needTeeth : GoodIn wsX9_gear (va_wsS RX9 55 yX9_needTeeth wsX9_needTeeth) := goodIn_app (goodIn_q _ [9, 10, 11] rfl (by decide +kernel)) ggX9_gear_X9_needTeeth
set_option maxRecDepth 20000 in
theorem ggX9_gear_X9_needRange : GoodIn wsX9_gear wsX9_needRange := goodIn_ca (goodIn_q _ [15, 16, 17] rfl (by decide +kernel)) (goodIn_sub (fun _ h => List.mem_cons_of_mem _ (List.mem_append_right _ h)) (by decide +kernel))
set_option maxRecDepth 20000 in
theorem gX9_gear_X9_needRange : GoodIn wsX9_gear (va_wsS RX9 59 yX9_needRange wsX9_needRange) := goodIn_app (goodIn_q _ [13, 14, 11] rfl (by decide +kernel)) ggX9_gear_X9_needRange
set_option maxRecDepth 20000 in
theorem ggX9_gear_X2_init : GoodIn wsX9_gear wsX2_init := goodIn_q _ [20, 21, 22, 23, 24, 25, 26, 27, 28, 29, 30, 31, 32, 33, 34, 35, 36, 37, 38, 39, 40, 41, 42, 43, 44, 45, 46, 47, 48, 49, 50, 51, 52, 53, 54, 55, 56, 57, 58, 59, 60, 61, 62, 63, 64, 65, 77, 78, 79, 80, 81, 82, 83, 84, 85, 86, 87, 88, 89, 90, 91, 92, 93, 94, 95, 96, 97, 98, 99, 100, 101, 102, 103] rfl (by decide +kernel)
set_option maxRecDepth 20000 in
theorem gX9_gear_X2_init : GoodIn wsX9_gear (wsX2_init) := ggX9_gear_X2_init
theorem dX9_gear_0 : decode cX9_gear 0 = .ok (.iload_n 1, 1) := by decide +kernel
theorem dX9_gear_1 : decode cX9_gear 1 = .ok (.invokestatic 55, 3) := by decide +kernel
theorem dX9_gear_4 : decode cX9_gear 4 = .ok (.iload_n 2, 1) := by decide +kernel
theorem dX9_gear_5 : decode cX9_gear 5 = .ok (.sipush 500, 3) := by decide +kernel
theorem dX9_gear_8 : decode cX9_gear 8 = .ok (.sipush 10000, 3) := by decide +kernel
theorem dX9_gear_11 : decode cX9_gear 11 = .ok (.invokestatic 59, 3) := by decide +kernel
theorem dX9_gear_14 : decode cX9_gear 14 = .ok (.iload_n 3, 1) := by decide +kernel
theorem dX9_gear_15 : decode cX9_gear 15 = .ok (.sipush (-500), 3) := by decide +kernel
theorem dX9_gear_18 : decode cX9_gear 18 = .ok (.sipush 500, 3) := by decide +kernel
theorem dX9_gear_21 : decode cX9_gear 21 = .ok (.invokestatic 59, 3) := by decide +kernel
theorem dX9_gear_24 : decode cX9_gear 24 = .ok (.iload 4, 2) := by decide +kernel
theorem dX9_gear_26 : decode cX9_gear 26 = .ok (.sipush 1000, 3) := by decide +kernel
theorem dX9_gear_29 : decode cX9_gear 29 = .ok (.ldc 63, 2) := by decide +kernel
theorem dX9_gear_31 : decode cX9_gear 31 = .ok (.invokestatic 59, 3) := by decide +kernel
theorem dX9_gear_34 : decode cX9_gear 34 = .ok (.aload_n 0, 1) := by decide +kernel
theorem dX9_gear_35 : decode cX9_gear 35 = .ok (.getfield 64, 3) := by decide +kernel
theorem dX9_gear_38 : decode cX9_gear 38 = .ok (.aload_n 0, 1) := by decide +kernel
theorem dX9_gear_39 : decode cX9_gear 39 = .ok (.getfield 11, 3) := by decide +kernel
theorem dX9_gear_42 : decode cX9_gear 42 = .ok (.arraylength, 1) := by decide +kernel
theorem dX9_gear_43 : decode cX9_gear 43 = .ok (.if_icmp .lt 13, 3) := by decide +kernel
theorem dX9_gear_46 : decode cX9_gear 46 = .ok (.new 67, 3) := by decide +kernel
theorem dX9_gear_49 : decode cX9_gear 49 = .ok (.dup, 1) := by decide +kernel
theorem dX9_gear_50 : decode cX9_gear 50 = .ok (.ldc 69, 2) := by decide +kernel
theorem dX9_gear_52 : decode cX9_gear 52 = .ok (.invokespecial 71, 3) := by decide +kernel
theorem dX9_gear_55 : decode cX9_gear 55 = .ok (.athrow, 1) := by decide +kernel
theorem dX9_gear_56 : decode cX9_gear 56 = .ok (.aload_n 0, 1) := by decide +kernel
theorem dX9_gear_57 : decode cX9_gear 57 = .ok (.getfield 64, 3) := by decide +kernel
theorem dX9_gear_60 : decode cX9_gear 60 = .ok (.istore 5, 2) := by decide +kernel
theorem dX9_gear_62 : decode cX9_gear 62 = .ok (.aload_n 0, 1) := by decide +kernel
theorem dX9_gear_63 : decode cX9_gear 63 = .ok (.getfield 11, 3) := by decide +kernel
theorem dX9_gear_66 : decode cX9_gear 66 = .ok (.iload 5, 2) := by decide +kernel
theorem dX9_gear_68 : decode cX9_gear 68 = .ok (.new 9, 3) := by decide +kernel
theorem dX9_gear_71 : decode cX9_gear 71 = .ok (.dup, 1) := by decide +kernel
theorem dX9_gear_72 : decode cX9_gear 72 = .ok (.iload 5, 2) := by decide +kernel
theorem dX9_gear_74 : decode cX9_gear 74 = .ok (.iload_n 1, 1) := by decide +kernel
theorem dX9_gear_75 : decode cX9_gear 75 = .ok (.iload_n 2, 1) := by decide +kernel
theorem dX9_gear_76 : decode cX9_gear 76 = .ok (.iload_n 3, 1) := by decide +kernel
theorem dX9_gear_77 : decode cX9_gear 77 = .ok (.iload 4, 2) := by decide +kernel
theorem dX9_gear_79 : decode cX9_gear 79 = .ok (.invokespecial 74, 3) := by decide +kernel
theorem dX9_gear_82 : decode cX9_gear 82 = .ok (.aastore, 1) := by decide +kernel
theorem dX9_gear_83 : decode cX9_gear 83 = .ok (.aload_n 0, 1) := by decide +kernel
theorem dX9_gear_84 : decode cX9_gear 84 = .ok (.dup, 1) := by decide +kernel
theorem dX9_gear_85 : decode cX9_gear 85 = .ok (.getfield 64, 3) := by decide +kernel
theorem dX9_gear_88 : decode cX9_gear 88 = .ok (.iconst 1, 1) := by decide +kernel
theorem dX9_gear_89 : decode cX9_gear 89 = .ok (.iadd, 1) := by decide +kernel
theorem dX9_gear_90 : decode cX9_gear 90 = .ok (.putfield 64, 3) := by decide +kernel
theorem dX9_gear_93 : decode cX9_gear 93 = .ok (.iload 5, 2) := by decide +kernel
theorem dX9_gear_95 : decode cX9_gear 95 = .ok (.ireturn, 1) := by decide +kernel
set_option maxRecDepth 20000 in
theorem ggX9_setShift_X9_gearAt : GoodIn wsX9_setShift wsX9_gearAt := goodIn_ca (goodIn_q _ [7, 8, 9, 10, 11, 42, 43, 44, 45, 46, 47, 48, 49, 50, 51, 52] rfl (by decide +kernel)) (goodIn_sub (fun _ h => List.mem_cons_of_mem _ (List.mem_append_left _ (List.mem_append_left _ (List.mem_append_right _ h)))) (by decide +kernel))
set_option maxRecDepth 20000 in
theorem gX9_setShift_X9_gearAt : GoodIn wsX9_setShift (wsV RX9 77 RX9 yX9_gearAt wsX9_gearAt) := goodIn_app (goodIn_q _ [3, 4, 5, 6] rfl (by decide +kernel)) ggX9_setShift_X9_gearAt
set_option maxRecDepth 20000 in
theorem ggX9_setShift_X9_needRange : GoodIn wsX9_setShift wsX9_needRange := goodIn_ca (goodIn_q _ [14, 15, 16] rfl (by decide +kernel)) (goodIn_sub (fun _ h => List.mem_cons_of_mem _ (List.mem_append_left _ (List.mem_append_right _ h))) (by decide +kernel))
set_option maxRecDepth 20000 in
theorem gX9_setShift_X9_needRange : GoodIn wsX9_setShift (va_wsS RX9 59 yX9_needRange wsX9_needRange) := goodIn_app (goodIn_q _ [12, 13, 6] rfl (by decide +kernel)) ggX9_setShift_X9_needRange
set_option maxRecDepth 20000 in
theorem ggX9_setShift_X9_allowOnly : GoodIn wsX9_setShift wsX9_allowOnly := goodIn_ca (goodIn_q _ [19, 20, 21] rfl (by decide +kernel)) (goodIn_sub (fun _ h => List.mem_cons_of_mem _ (List.mem_append_right _ h)) (by decide +kernel))
set_option maxRecDepth 20000 in
theorem gX9_setShift_X9_allowOnly : GoodIn wsX9_setShift (va_wsS RX9 85 yX9_allowOnly wsX9_allowOnly) := goodIn_app (goodIn_q _ [17, 18, 6] rfl (by decide +kernel)) ggX9_setShift_X9_allowOnly
theorem dX9_setShift_0 : decode cX9_setShift 0 = .ok (.aload_n 0, 1) := by decide +kernel
theorem dX9_setShift_1 : decode cX9_setShift 1 = .ok (.iload_n 1, 1) := by decide +kernel
theorem dX9_setShift_2 : decode cX9_setShift 2 = .ok (.invokevirtual 77, 3) := by decide +kernel
theorem dX9_setShift_5 : decode cX9_setShift 5 = .ok (.astore_n 3, 1) := by decide +kernel
theorem dX9_setShift_6 : decode cX9_setShift 6 = .ok (.iload_n 2, 1) := by decide +kernel
theorem dX9_setShift_7 : decode cX9_setShift 7 = .ok (.bipush (-100), 2) := by decide +kernel
theorem dX9_setShift_9 : decode cX9_setShift 9 = .ok (.bipush 100, 2) := by decide +kernel
theorem dX9_setShift_11 : decode cX9_setShift 11 = .ok (.invokestatic 59, 3) := by decide +kernel
theorem dX9_setShift_14 : decode cX9_setShift 14 = .ok (.aload_n 3, 1) := by decide +kernel
theorem dX9_setShift_15 : decode cX9_setShift 15 = .ok (.getfield 81, 3) := by decide +kernel
theorem dX9_setShift_18 : decode cX9_setShift 18 = .ok (.ifCond .ne 7, 3) := by decide +kernel
theorem dX9_setShift_21 : decode cX9_setShift 21 = .ok (.iconst 1, 1) := by decide +kernel
theorem dX9_setShift_22 : decode cX9_setShift 22 = .ok (.goto 4, 3) := by decide +kernel
theorem dX9_setShift_25 : decode cX9_setShift 25 = .ok (.iconst 0, 1) := by decide +kernel
theorem dX9_setShift_26 : decode cX9_setShift 26 = .ok (.invokestatic 85, 3) := by decide +kernel
theorem dX9_setShift_29 : decode cX9_setShift 29 = .ok (.aload_n 3, 1) := by decide +kernel
theorem dX9_setShift_30 : decode cX9_setShift 30 = .ok (.getfield 89, 3) := by decide +kernel
theorem dX9_setShift_33 : decode cX9_setShift 33 = .ok (.istore 4, 2) := by decide +kernel
theorem dX9_setShift_35 : decode cX9_setShift 35 = .ok (.aload_n 3, 1) := by decide +kernel
theorem dX9_setShift_36 : decode cX9_setShift 36 = .ok (.iload_n 2, 1) := by decide +kernel
theorem dX9_setShift_37 : decode cX9_setShift 37 = .ok (.putfield 89, 3) := by decide +kernel
theorem dX9_setShift_40 : decode cX9_setShift 40 = .ok (.iload 4, 2) := by decide +kernel
theorem dX9_setShift_42 : decode cX9_setShift 42 = .ok (.ireturn, 1) := by decide +kernel
set_option maxRecDepth 20000 in
theorem ggX9_diameter_X9_gearAt : GoodIn wsX9_diameter wsX9_gearAt := goodIn_ca (goodIn_q _ [5, 6, 7, 8, 9, 17, 18, 19, 20, 21, 22, 23, 24, 25, 26, 27] rfl (by decide +kernel)) (goodIn_sub (fun _ h => List.mem_cons_of_mem _ (List.mem_append_right _ h)) (by decide +kernel))
set_option maxRecDepth 20000 in
theorem gX9_diameter_X9_gearAt : GoodIn wsX9_diameter (wsV RX9 77 RX9 yX9_gearAt wsX9_gearAt) := goodIn_app (goodIn_q _ [1, 2, 3, 4] rfl (by decide +kernel)) ggX9_diameter_X9_gearAt
set_option maxRecDepth 20000 in
theorem ggX9_diameter_X2_pitchDiameter : GoodIn wsX9_diameter wsX2_pitchDiameter := goodIn_q _ [14, 15, 16, 28, 29, 30, 31, 32, 33, 34, 35, 36, 37, 38, 39, 40, 41, 42, 43, 44, 45, 46, 47] rfl (by decide +kernel)
set_option maxRecDepth 20000 in
theorem gX9_diameter_X2_pitchDiameter : GoodIn wsX9_diameter (wsV RX9 92 RX2 yX2_pitchDiameter wsX2_pitchDiameter) := goodIn_app (goodIn_q _ [10, 11, 12, 13] rfl (by decide +kernel)) ggX9_diameter_X2_pitchDiameter
theorem dX9_diameter_0 : decode cX9_diameter 0 = .ok (.aload_n 0, 1) := by decide +kernel
theorem dX9_diameter_1 : decode cX9_diameter 1 = .ok (.iload_n 1, 1) := by decide +kernel
theorem dX9_diameter_2 : decode cX9_diameter 2 = .ok (.invokevirtual 77, 3) := by decide +kernel
theorem dX9_diameter_5 : decode cX9_diameter 5 = .ok (.invokevirtual 92, 3) := by decide +kernel
theorem dX9_diameter_8 : decode cX9_diameter 8 = .ok (.ireturn, 1) := by decide +kernel
set_option maxRecDepth 20000 in
theorem ggX9_tip_X9_gearAt : GoodIn wsX9_tip wsX9_gearAt := goodIn_ca (goodIn_q _ [6, 7, 8, 9, 10, 40, 41, 42, 43, 44, 45, 46, 47, 48, 49, 50] rfl (by decide +kernel)) (goodIn_sub (fun _ h => List.mem_cons_of_mem _ (List.mem_append_right _ h)) (by decide +kernel))
set_option maxRecDepth 20000 in
theorem gX9_tip_X9_gearAt : GoodIn wsX9_tip (wsV RX9 77 RX9 yX9_gearAt wsX9_gearAt) := goodIn_app (goodIn_q _ [2, 3, 4, 5] rfl (by decide +kernel)) ggX9_tip_X9_gearAt
set_option maxRecDepth 20000 in
theorem ggX9_tip_X2_tipAt : GoodIn wsX9_tip wsX2_tipAt := goodIn_q _ [15, 16, 17, 18, 5, 19, 20, 21, 22, 23, 24, 25, 26, 27, 28, 29, 30, 31, 32, 33, 34, 35, 36, 37, 38, 39] rfl (by decide +kernel)
set_option maxRecDepth 20000 in
theorem gX9_tip_X2_tipAt : GoodIn wsX9_tip (wsV RX9 96 RX2 yX2_tipAt wsX2_tipAt) := goodIn_app (goodIn_q _ [11, 12, 13, 14] rfl (by decide +kernel)) ggX9_tip_X2_tipAt
theorem dX9_tip_0 : decode cX9_tip 0 = .ok (.aload_n 0, 1) := by decide +kernel
theorem dX9_tip_1 : decode cX9_tip 1 = .ok (.iload_n 1, 1) := by decide +kernel
theorem dX9_tip_2 : decode cX9_tip 2 = .ok (.invokevirtual 77, 3) := by decide +kernel
theorem dX9_tip_5 : decode cX9_tip 5 = .ok (.astore_n 2, 1) := by decide +kernel
theorem dX9_tip_6 : decode cX9_tip 6 = .ok (.aload_n 2, 1) := by decide +kernel
theorem dX9_tip_7 : decode cX9_tip 7 = .ok (.aload_n 2, 1) := by decide +kernel
theorem dX9_tip_8 : decode cX9_tip 8 = .ok (.getfield 89, 3) := by decide +kernel
theorem dX9_tip_11 : decode cX9_tip 11 = .ok (.invokevirtual 96, 3) := by decide +kernel
theorem dX9_tip_14 : decode cX9_tip 14 = .ok (.ireturn, 1) := by decide +kernel
set_option maxRecDepth 20000 in
theorem ggX9_isUndercut_X9_gearAt : GoodIn wsX9_isUndercut wsX9_gearAt := goodIn_ca (goodIn_q _ [7, 8, 9, 10, 11, 35, 36, 37, 38, 39, 40, 41, 42, 43, 44, 45] rfl (by decide +kernel)) (goodIn_sub (fun _ h => List.mem_cons_of_mem _ (List.mem_append_right _ h)) (by decide +kernel))
set_option maxRecDepth 20000 in
theorem gX9_isUndercut_X9_gearAt : GoodIn wsX9_isUndercut (wsV RX9 77 RX9 yX9_gearAt wsX9_gearAt) := goodIn_app (goodIn_q _ [3, 4, 5, 6] rfl (by decide +kernel)) ggX9_isUndercut_X9_gearAt
set_option maxRecDepth 20000 in
theorem ggX9_isUndercut_X9_undercuts : GoodIn wsX9_isUndercut wsX9_undercuts := goodIn_q _ [14] rfl (by decide +kernel)
set_option maxRecDepth 20000 in
theorem gX9_isUndercut_X9_undercuts : GoodIn wsX9_isUndercut (va_wsS RX9 103 yX9_undercuts wsX9_undercuts) := goodIn_app (goodIn_q _ [12, 13, 6] rfl (by decide +kernel)) ggX9_isUndercut_X9_undercuts
theorem dX9_isUndercut_0 : decode cX9_isUndercut 0 = .ok (.aload_n 0, 1) := by decide +kernel
theorem dX9_isUndercut_1 : decode cX9_isUndercut 1 = .ok (.iload_n 1, 1) := by decide +kernel
theorem dX9_isUndercut_2 : decode cX9_isUndercut 2 = .ok (.invokevirtual 77, 3) := by decide +kernel
theorem dX9_isUndercut_5 : decode cX9_isUndercut 5 = .ok (.astore_n 2, 1) := by decide +kernel
theorem dX9_isUndercut_6 : decode cX9_isUndercut 6 = .ok (.aload_n 2, 1) := by decide +kernel
theorem dX9_isUndercut_7 : decode cX9_isUndercut 7 = .ok (.getfield 100, 3) := by decide +kernel
theorem dX9_isUndercut_10 : decode cX9_isUndercut 10 = .ok (.aload_n 2, 1) := by decide +kernel
theorem dX9_isUndercut_11 : decode cX9_isUndercut 11 = .ok (.getfield 89, 3) := by decide +kernel
theorem dX9_isUndercut_14 : decode cX9_isUndercut 14 = .ok (.invokestatic 103, 3) := by decide +kernel
theorem dX9_isUndercut_17 : decode cX9_isUndercut 17 = .ok (.ireturn, 1) := by decide +kernel
set_option maxRecDepth 20000 in
theorem ggX9_isSharp_X9_gearAt : GoodIn wsX9_isSharp wsX9_gearAt := goodIn_ca (goodIn_q _ [7, 8, 9, 10, 11, 35, 36, 37, 38, 39, 40, 41, 42, 43, 44, 45] rfl (by decide +kernel)) (goodIn_sub (fun _ h => List.mem_cons_of_mem _ (List.mem_append_right _ h)) (by decide +kernel))
set_option maxRecDepth 20000 in
theorem gX9_isSharp_X9_gearAt : GoodIn wsX9_isSharp (wsV RX9 77 RX9 yX9_gearAt wsX9_gearAt) := goodIn_app (goodIn_q _ [3, 4, 5, 6] rfl (by decide +kernel)) ggX9_isSharp_X9_gearAt
set_option maxRecDepth 20000 in
theorem ggX9_isSharp_X9_sharpens : GoodIn wsX9_isSharp wsX9_sharpens := goodIn_q _ [14] rfl (by decide +kernel)
set_option maxRecDepth 20000 in
theorem gX9_isSharp_X9_sharpens : GoodIn wsX9_isSharp (va_wsS RX9 107 yX9_sharpens wsX9_sharpens) := goodIn_app (goodIn_q _ [12, 13, 6] rfl (by decide +kernel)) ggX9_isSharp_X9_sharpens
theorem dX9_isSharp_0 : decode cX9_isSharp 0 = .ok (.aload_n 0, 1) := by decide +kernel
theorem dX9_isSharp_1 : decode cX9_isSharp 1 = .ok (.iload_n 1, 1) := by decide +kernel
theorem dX9_isSharp_2 : decode cX9_isSharp 2 = .ok (.invokevirtual 77, 3) := by decide +kernel
theorem dX9_isSharp_5 : decode cX9_isSharp 5 = .ok (.astore_n 2, 1) := by decide +kernel
theorem dX9_isSharp_6 : decode cX9_isSharp 6 = .ok (.aload_n 2, 1) := by decide +kernel
theorem dX9_isSharp_7 : decode cX9_isSharp 7 = .ok (.getfield 100, 3) := by decide +kernel
theorem dX9_isSharp_10 : decode cX9_isSharp 10 = .ok (.aload_n 2, 1) := by decide +kernel
theorem dX9_isSharp_11 : decode cX9_isSharp 11 = .ok (.getfield 89, 3) := by decide +kernel
theorem dX9_isSharp_14 : decode cX9_isSharp 14 = .ok (.invokestatic 107, 3) := by decide +kernel
theorem dX9_isSharp_17 : decode cX9_isSharp 17 = .ok (.ireturn, 1) := by decide +kernel
set_option maxRecDepth 20000 in
theorem ggX9_fewest_X9_needRange : GoodIn wsX9_fewest wsX9_needRange := goodIn_ca (goodIn_q _ [4, 5, 6] rfl (by decide +kernel)) (goodIn_sub (fun _ h => List.mem_cons_of_mem _ (List.mem_append_right _ h)) (by decide +kernel))
set_option maxRecDepth 20000 in
theorem gX9_fewest_X9_needRange : GoodIn wsX9_fewest (va_wsS RX9 59 yX9_needRange wsX9_needRange) := goodIn_app (goodIn_q _ [1, 2, 3] rfl (by decide +kernel)) ggX9_fewest_X9_needRange
set_option maxRecDepth 20000 in
theorem ggX9_fewest_X9_undercuts : GoodIn wsX9_fewest wsX9_undercuts := goodIn_q _ [9] rfl (by decide +kernel)
set_option maxRecDepth 20000 in
theorem gX9_fewest_X9_undercuts : GoodIn wsX9_fewest (va_wsS RX9 103 yX9_undercuts wsX9_undercuts) := goodIn_app (goodIn_q _ [7, 8, 3] rfl (by decide +kernel)) ggX9_fewest_X9_undercuts
theorem dX9_fewest_0 : decode cX9_fewest 0 = .ok (.iload_n 1, 1) := by decide +kernel
theorem dX9_fewest_1 : decode cX9_fewest 1 = .ok (.bipush (-100), 2) := by decide +kernel
theorem dX9_fewest_3 : decode cX9_fewest 3 = .ok (.bipush 100, 2) := by decide +kernel
theorem dX9_fewest_5 : decode cX9_fewest 5 = .ok (.invokestatic 59, 3) := by decide +kernel
theorem dX9_fewest_8 : decode cX9_fewest 8 = .ok (.iconst 1, 1) := by decide +kernel
theorem dX9_fewest_9 : decode cX9_fewest 9 = .ok (.istore_n 2, 1) := by decide +kernel
theorem dX9_fewest_10 : decode cX9_fewest 10 = .ok (.iload_n 2, 1) := by decide +kernel
theorem dX9_fewest_11 : decode cX9_fewest 11 = .ok (.sipush 200, 3) := by decide +kernel
theorem dX9_fewest_14 : decode cX9_fewest 14 = .ok (.if_icmp .ge 17, 3) := by decide +kernel
theorem dX9_fewest_17 : decode cX9_fewest 17 = .ok (.iload_n 2, 1) := by decide +kernel
theorem dX9_fewest_18 : decode cX9_fewest 18 = .ok (.iload_n 1, 1) := by decide +kernel
theorem dX9_fewest_19 : decode cX9_fewest 19 = .ok (.invokestatic 103, 3) := by decide +kernel
theorem dX9_fewest_22 : decode cX9_fewest 22 = .ok (.ifCond .eq 9, 3) := by decide +kernel
theorem dX9_fewest_25 : decode cX9_fewest 25 = .ok (.iinc 2 1, 3) := by decide +kernel
theorem dX9_fewest_28 : decode cX9_fewest 28 = .ok (.goto (-18), 3) := by decide +kernel
theorem dX9_fewest_31 : decode cX9_fewest 31 = .ok (.iload_n 2, 1) := by decide +kernel
theorem dX9_fewest_32 : decode cX9_fewest 32 = .ok (.ireturn, 1) := by decide +kernel
set_option maxRecDepth 20000 in
theorem ggX9_doPair_X9_gearAt : GoodIn wsX9_doPair wsX9_gearAt := goodIn_ca (goodIn_q _ [7, 8, 9, 10, 11, 19, 20, 21, 22, 23, 24, 25, 26, 27, 28, 29] rfl (by decide +kernel)) (goodIn_sub (fun _ h => List.mem_cons_of_mem _ (List.mem_append_right _ h)) (by decide +kernel))
set_option maxRecDepth 20000 in
theorem gX9_doPair_X9_gearAt : GoodIn wsX9_doPair (wsV RX9 77 RX9 yX9_gearAt wsX9_gearAt) := goodIn_app (goodIn_q _ [3, 4, 5, 6] rfl (by decide +kernel)) ggX9_doPair_X9_gearAt
set_option maxRecDepth 20000 in
theorem ggX9_doPair_X2_pairsWith : GoodIn wsX9_doPair wsX2_pairsWith := goodIn_q _ [16, 17, 18, 30, 31, 32, 33, 34, 35, 36, 37, 38, 39, 40, 41, 42, 43, 44, 45, 46, 47, 48, 49] rfl (by decide +kernel)
set_option maxRecDepth 20000 in
theorem gX9_doPair_X2_pairsWith : GoodIn wsX9_doPair (wsV RX9 115 RX2 yX2_pairsWith wsX2_pairsWith) := goodIn_app (goodIn_q _ [12, 13, 14, 15] rfl (by decide +kernel)) ggX9_doPair_X2_pairsWith
theorem dX9_doPair_0 : decode cX9_doPair 0 = .ok (.aload_n 0, 1) := by decide +kernel
theorem dX9_doPair_1 : decode cX9_doPair 1 = .ok (.iload_n 1, 1) := by decide +kernel
theorem dX9_doPair_2 : decode cX9_doPair 2 = .ok (.invokevirtual 77, 3) := by decide +kernel
theorem dX9_doPair_5 : decode cX9_doPair 5 = .ok (.astore_n 3, 1) := by decide +kernel
theorem dX9_doPair_6 : decode cX9_doPair 6 = .ok (.aload_n 0, 1) := by decide +kernel
theorem dX9_doPair_7 : decode cX9_doPair 7 = .ok (.iload_n 2, 1) := by decide +kernel
theorem dX9_doPair_8 : decode cX9_doPair 8 = .ok (.invokevirtual 77, 3) := by decide +kernel
theorem dX9_doPair_11 : decode cX9_doPair 11 = .ok (.astore 4, 2) := by decide +kernel
theorem dX9_doPair_13 : decode cX9_doPair 13 = .ok (.aload_n 3, 1) := by decide +kernel
theorem dX9_doPair_14 : decode cX9_doPair 14 = .ok (.aload 4, 2) := by decide +kernel
theorem dX9_doPair_16 : decode cX9_doPair 16 = .ok (.if_acmp .ne 13, 3) := by decide +kernel
theorem dX9_doPair_19 : decode cX9_doPair 19 = .ok (.new 110, 3) := by decide +kernel
theorem dX9_doPair_22 : decode cX9_doPair 22 = .ok (.dup, 1) := by decide +kernel
theorem dX9_doPair_23 : decode cX9_doPair 23 = .ok (.ldc 112, 2) := by decide +kernel
theorem dX9_doPair_25 : decode cX9_doPair 25 = .ok (.invokespecial 114, 3) := by decide +kernel
theorem dX9_doPair_28 : decode cX9_doPair 28 = .ok (.athrow, 1) := by decide +kernel
theorem dX9_doPair_29 : decode cX9_doPair 29 = .ok (.aload_n 3, 1) := by decide +kernel
theorem dX9_doPair_30 : decode cX9_doPair 30 = .ok (.aload 4, 2) := by decide +kernel
theorem dX9_doPair_32 : decode cX9_doPair 32 = .ok (.invokevirtual 115, 3) := by decide +kernel
theorem dX9_doPair_35 : decode cX9_doPair 35 = .ok (.ireturn, 1) := by decide +kernel
set_option maxRecDepth 20000 in
theorem ggX9_contact_X9_gearAt : GoodIn wsX9_contact wsX9_gearAt := goodIn_ca (goodIn_q _ [5, 6, 7, 8, 9, 56, 57, 58, 59, 60, 61, 62, 63, 64, 65, 66] rfl (by decide +kernel)) (goodIn_sub (fun _ h => List.mem_cons_of_mem _ (List.mem_append_left _ (List.mem_append_left _ (List.mem_append_right _ h)))) (by decide +kernel))
set_option maxRecDepth 20000 in
theorem gX9_contact_X9_gearAt : GoodIn wsX9_contact (wsV RX9 77 RX9 yX9_gearAt wsX9_gearAt) := goodIn_app (goodIn_q _ [1, 2, 3, 4] rfl (by decide +kernel)) ggX9_contact_X9_gearAt
set_option maxRecDepth 20000 in
theorem ggX9_contact_X9_needPair : GoodIn wsX9_contact wsX9_needPair := goodIn_ca (goodIn_q _ [12, 13, 14, 15, 16, 17, 18, 19, 20, 21, 4, 22, 23, 24, 67, 68, 69, 70, 71, 72, 73, 74, 75, 76, 77, 78, 79, 80, 81, 82, 83, 84, 85, 86] rfl (by decide +kernel)) (goodIn_sub (fun _ h => List.mem_cons_of_mem _ (List.mem_append_left _ (List.mem_append_right _ h))) (by decide +kernel))
set_option maxRecDepth 20000 in
theorem gX9_contact_X9_needPair : GoodIn wsX9_contact (va_wsS RX9 119 yX9_needPair wsX9_needPair) := goodIn_app (goodIn_q _ [10, 11, 4] rfl (by decide +kernel)) ggX9_contact_X9_needPair
set_option maxRecDepth 20000 in
theorem ggX9_contact_X9_contactOf : GoodIn wsX9_contact wsX9_contactOf := goodIn_ca (goodIn_q _ [27, 28, 29, 30, 31, 32, 33, 34, 35, 36, 37, 16, 38, 39, 18, 40, 41, 42, 43, 44, 45, 46, 47, 48, 49, 50, 4, 51, 52, 53, 54, 55, 67, 68, 69, 70, 71, 72, 73, 74, 75, 76, 77, 78, 79, 80, 81, 82, 83, 84, 85, 86] rfl (by decide +kernel)) (goodIn_sub (fun _ h => List.mem_cons_of_mem _ (List.mem_append_right _ h)) (by decide +kernel))
set_option maxRecDepth 20000 in
theorem gX9_contact_X9_contactOf : GoodIn wsX9_contact (va_wsS RX9 123 yX9_contactOf wsX9_contactOf) := goodIn_app (goodIn_q _ [25, 26, 4] rfl (by decide +kernel)) ggX9_contact_X9_contactOf
theorem dX9_contact_0 : decode cX9_contact 0 = .ok (.aload_n 0, 1) := by decide +kernel
theorem dX9_contact_1 : decode cX9_contact 1 = .ok (.iload_n 1, 1) := by decide +kernel
theorem dX9_contact_2 : decode cX9_contact 2 = .ok (.invokevirtual 77, 3) := by decide +kernel
theorem dX9_contact_5 : decode cX9_contact 5 = .ok (.astore_n 3, 1) := by decide +kernel
theorem dX9_contact_6 : decode cX9_contact 6 = .ok (.aload_n 0, 1) := by decide +kernel
theorem dX9_contact_7 : decode cX9_contact 7 = .ok (.iload_n 2, 1) := by decide +kernel
theorem dX9_contact_8 : decode cX9_contact 8 = .ok (.invokevirtual 77, 3) := by decide +kernel
theorem dX9_contact_11 : decode cX9_contact 11 = .ok (.astore 4, 2) := by decide +kernel
theorem dX9_contact_13 : decode cX9_contact 13 = .ok (.aload_n 3, 1) := by decide +kernel
theorem dX9_contact_14 : decode cX9_contact 14 = .ok (.aload 4, 2) := by decide +kernel
theorem dX9_contact_16 : decode cX9_contact 16 = .ok (.invokestatic 119, 3) := by decide +kernel
theorem dX9_contact_19 : decode cX9_contact 19 = .ok (.aload_n 3, 1) := by decide +kernel
theorem dX9_contact_20 : decode cX9_contact 20 = .ok (.aload 4, 2) := by decide +kernel
theorem dX9_contact_22 : decode cX9_contact 22 = .ok (.invokestatic 123, 3) := by decide +kernel
theorem dX9_contact_25 : decode cX9_contact 25 = .ok (.lreturn, 1) := by decide +kernel
set_option maxRecDepth 20000 in
theorem ggX9_overlap_X9_gearAt : GoodIn wsX9_overlap wsX9_gearAt := goodIn_ca (goodIn_q _ [5, 6, 7, 8, 9, 40, 41, 42, 43, 44, 45, 46, 47, 48, 49, 50] rfl (by decide +kernel)) (goodIn_sub (fun _ h => List.mem_cons_of_mem _ (List.mem_append_left _ (List.mem_append_left _ (List.mem_append_right _ h)))) (by decide +kernel))
set_option maxRecDepth 20000 in
theorem gX9_overlap_X9_gearAt : GoodIn wsX9_overlap (wsV RX9 77 RX9 yX9_gearAt wsX9_gearAt) := goodIn_app (goodIn_q _ [1, 2, 3, 4] rfl (by decide +kernel)) ggX9_overlap_X9_gearAt
set_option maxRecDepth 20000 in
theorem ggX9_overlap_X9_needPair : GoodIn wsX9_overlap wsX9_needPair := goodIn_ca (goodIn_q _ [12, 13, 14, 15, 16, 17, 18, 19, 20, 21, 4, 22, 23, 24, 51, 52, 53, 54, 55, 56, 57, 58, 59, 60, 61, 62, 63, 64, 65, 66, 67, 68, 69, 70] rfl (by decide +kernel)) (goodIn_sub (fun _ h => List.mem_cons_of_mem _ (List.mem_append_left _ (List.mem_append_right _ h))) (by decide +kernel))
set_option maxRecDepth 20000 in
theorem gX9_overlap_X9_needPair : GoodIn wsX9_overlap (va_wsS RX9 119 yX9_needPair wsX9_needPair) := goodIn_app (goodIn_q _ [10, 11, 4] rfl (by decide +kernel)) ggX9_overlap_X9_needPair
set_option maxRecDepth 20000 in
theorem ggX9_overlap_X9_overlapOf : GoodIn wsX9_overlap wsX9_overlapOf := goodIn_ca (goodIn_q _ [27, 28, 29, 30, 31, 32, 33, 34, 35, 36, 37, 38, 39, 51, 52, 53, 54, 55, 56, 57, 58, 59, 60, 61, 62, 63, 64, 65, 66, 67, 68, 69, 70] rfl (by decide +kernel)) (goodIn_sub (fun _ h => List.mem_cons_of_mem _ (List.mem_append_right _ h)) (by decide +kernel))
set_option maxRecDepth 20000 in
theorem gX9_overlap_X9_overlapOf : GoodIn wsX9_overlap (va_wsS RX9 127 yX9_overlapOf wsX9_overlapOf) := goodIn_app (goodIn_q _ [25, 26, 4] rfl (by decide +kernel)) ggX9_overlap_X9_overlapOf
theorem dX9_overlap_0 : decode cX9_overlap 0 = .ok (.aload_n 0, 1) := by decide +kernel
theorem dX9_overlap_1 : decode cX9_overlap 1 = .ok (.iload_n 1, 1) := by decide +kernel
theorem dX9_overlap_2 : decode cX9_overlap 2 = .ok (.invokevirtual 77, 3) := by decide +kernel
theorem dX9_overlap_5 : decode cX9_overlap 5 = .ok (.astore_n 3, 1) := by decide +kernel
theorem dX9_overlap_6 : decode cX9_overlap 6 = .ok (.aload_n 0, 1) := by decide +kernel
theorem dX9_overlap_7 : decode cX9_overlap 7 = .ok (.iload_n 2, 1) := by decide +kernel
theorem dX9_overlap_8 : decode cX9_overlap 8 = .ok (.invokevirtual 77, 3) := by decide +kernel
theorem dX9_overlap_11 : decode cX9_overlap 11 = .ok (.astore 4, 2) := by decide +kernel
theorem dX9_overlap_13 : decode cX9_overlap 13 = .ok (.aload_n 3, 1) := by decide +kernel
theorem dX9_overlap_14 : decode cX9_overlap 14 = .ok (.aload 4, 2) := by decide +kernel
theorem dX9_overlap_16 : decode cX9_overlap 16 = .ok (.invokestatic 119, 3) := by decide +kernel
theorem dX9_overlap_19 : decode cX9_overlap 19 = .ok (.aload_n 3, 1) := by decide +kernel
theorem dX9_overlap_20 : decode cX9_overlap 20 = .ok (.aload 4, 2) := by decide +kernel
theorem dX9_overlap_22 : decode cX9_overlap 22 = .ok (.invokestatic 127, 3) := by decide +kernel
theorem dX9_overlap_25 : decode cX9_overlap 25 = .ok (.lreturn, 1) := by decide +kernel
set_option maxRecDepth 20000 in
theorem ggX9_runsWell_X9_gearAt : GoodIn wsX9_runsWell wsX9_gearAt := goodIn_ca (goodIn_q _ [7, 8, 9, 10, 11, 98, 99, 100, 101, 102, 103, 104, 105, 106, 107, 108] rfl (by decide +kernel)) (goodIn_sub (fun _ h => List.mem_cons_of_mem _ (List.mem_append_left _ (List.mem_append_left _ (List.mem_append_right _ h)))) (by decide +kernel))
set_option maxRecDepth 20000 in
theorem gX9_runsWell_X9_gearAt : GoodIn wsX9_runsWell (wsV RX9 77 RX9 yX9_gearAt wsX9_gearAt) := goodIn_app (goodIn_q _ [3, 4, 5, 6] rfl (by decide +kernel)) ggX9_runsWell_X9_gearAt
set_option maxRecDepth 20000 in
theorem ggX9_runsWell_X9_needPair : GoodIn wsX9_runsWell wsX9_needPair := goodIn_ca (goodIn_q _ [14, 15, 16, 17, 18, 19, 20, 21, 22, 23, 6, 24, 25, 26, 78, 79, 80, 81, 82, 83, 84, 85, 86, 87, 88, 89, 90, 91, 92, 93, 94, 95, 96, 97] rfl (by decide +kernel)) (goodIn_sub (fun _ h => List.mem_cons_of_mem _ (List.mem_append_left _ (List.mem_append_right _ h))) (by decide +kernel))
set_option maxRecDepth 20000 in
theorem gX9_runsWell_X9_needPair : GoodIn wsX9_runsWell (va_wsS RX9 119 yX9_needPair wsX9_needPair) := goodIn_app (goodIn_q _ [12, 13, 6] rfl (by decide +kernel)) ggX9_runsWell_X9_needPair
set_option maxRecDepth 20000 in
theorem ggX9_runsWell_X2_isGoodAt : GoodIn wsX9_runsWell wsX2_isGoodAt := goodIn_q _ [30, 31, 32, 6, 33, 34, 35, 78, 79, 80, 81, 82, 83, 84, 85, 86, 87, 88, 89, 90, 91, 92, 93, 94, 95, 96, 97] rfl (by decide +kernel)
set_option maxRecDepth 20000 in
theorem gX9_runsWell_X2_isGoodAt : GoodIn wsX9_runsWell (wsV RX9 130 RX2 yX2_isGoodAt wsX2_isGoodAt) := goodIn_app (goodIn_q _ [27, 28, 29, 18] rfl (by decide +kernel)) ggX9_runsWell_X2_isGoodAt
set_option maxRecDepth 20000 in
theorem ggX9_runsWell_X9_contactOf : GoodIn wsX9_runsWell wsX9_contactOf := goodIn_ca (goodIn_q _ [38, 1, 39, 40, 41, 42, 43, 44, 45, 46, 47, 18, 48, 31, 20, 49, 50, 51, 52, 53, 54, 55, 56, 57, 58, 59, 6, 60, 61, 62, 63, 64, 78, 79, 80, 81, 82, 83, 84, 85, 86, 87, 88, 89, 90, 91, 92, 93, 94, 95, 96, 97] rfl (by decide +kernel)) (goodIn_sub (fun _ h => List.mem_cons_of_mem _ (List.mem_append_right _ h)) (by decide +kernel))
set_option maxRecDepth 20000 in
theorem gX9_runsWell_X9_contactOf : GoodIn wsX9_runsWell (va_wsS RX9 123 yX9_contactOf wsX9_contactOf) := goodIn_app (goodIn_q _ [36, 37, 6] rfl (by decide +kernel)) ggX9_runsWell_X9_contactOf
set_option maxRecDepth 20000 in
theorem ggX9_runsWell_X9_overlapOf : GoodIn wsX9_runsWell wsX9_overlapOf := goodIn_ca (goodIn_q _ [67, 68, 69, 70, 71, 72, 73, 74, 75, 76, 43, 77, 42, 78, 79, 80, 81, 82, 83, 84, 85, 86, 87, 88, 89, 90, 91, 92, 93, 94, 95, 96, 97] rfl (by decide +kernel)) (goodIn_sub (fun _ h => List.mem_cons_of_mem _ (List.mem_append_right _ h)) (by decide +kernel))
set_option maxRecDepth 20000 in
theorem gX9_runsWell_X9_overlapOf : GoodIn wsX9_runsWell (va_wsS RX9 127 yX9_overlapOf wsX9_overlapOf) := goodIn_app (goodIn_q _ [65, 66, 6] rfl (by decide +kernel)) ggX9_runsWell_X9_overlapOf
theorem dX9_runsWell_0 : decode cX9_runsWell 0 = .ok (.aload_n 0, 1) := by decide +kernel
theorem dX9_runsWell_1 : decode cX9_runsWell 1 = .ok (.iload_n 1, 1) := by decide +kernel
theorem dX9_runsWell_2 : decode cX9_runsWell 2 = .ok (.invokevirtual 77, 3) := by decide +kernel
theorem dX9_runsWell_5 : decode cX9_runsWell 5 = .ok (.astore_n 3, 1) := by decide +kernel
theorem dX9_runsWell_6 : decode cX9_runsWell 6 = .ok (.aload_n 0, 1) := by decide +kernel
theorem dX9_runsWell_7 : decode cX9_runsWell 7 = .ok (.iload_n 2, 1) := by decide +kernel
theorem dX9_runsWell_8 : decode cX9_runsWell 8 = .ok (.invokevirtual 77, 3) := by decide +kernel
theorem dX9_runsWell_11 : decode cX9_runsWell 11 = .ok (.astore 4, 2) := by decide +kernel
theorem dX9_runsWell_13 : decode cX9_runsWell 13 = .ok (.aload_n 3, 1) := by decide +kernel
theorem dX9_runsWell_14 : decode cX9_runsWell 14 = .ok (.aload 4, 2) := by decide +kernel
theorem dX9_runsWell_16 : decode cX9_runsWell 16 = .ok (.invokestatic 119, 3) := by decide +kernel
theorem dX9_runsWell_19 : decode cX9_runsWell 19 = .ok (.aload_n 3, 1) := by decide +kernel
theorem dX9_runsWell_20 : decode cX9_runsWell 20 = .ok (.aload_n 3, 1) := by decide +kernel
theorem dX9_runsWell_21 : decode cX9_runsWell 21 = .ok (.getfield 89, 3) := by decide +kernel
theorem dX9_runsWell_24 : decode cX9_runsWell 24 = .ok (.invokevirtual 130, 3) := by decide +kernel
theorem dX9_runsWell_27 : decode cX9_runsWell 27 = .ok (.ifCond .eq 40, 3) := by decide +kernel
theorem dX9_runsWell_30 : decode cX9_runsWell 30 = .ok (.aload 4, 2) := by decide +kernel
theorem dX9_runsWell_32 : decode cX9_runsWell 32 = .ok (.aload 4, 2) := by decide +kernel
theorem dX9_runsWell_34 : decode cX9_runsWell 34 = .ok (.getfield 89, 3) := by decide +kernel
theorem dX9_runsWell_37 : decode cX9_runsWell 37 = .ok (.invokevirtual 130, 3) := by decide +kernel
theorem dX9_runsWell_40 : decode cX9_runsWell 40 = .ok (.ifCond .eq 27, 3) := by decide +kernel
theorem dX9_runsWell_43 : decode cX9_runsWell 43 = .ok (.aload_n 3, 1) := by decide +kernel
theorem dX9_runsWell_44 : decode cX9_runsWell 44 = .ok (.aload 4, 2) := by decide +kernel
theorem dX9_runsWell_46 : decode cX9_runsWell 46 = .ok (.invokestatic 123, 3) := by decide +kernel
theorem dX9_runsWell_49 : decode cX9_runsWell 49 = .ok (.aload_n 3, 1) := by decide +kernel
theorem dX9_runsWell_50 : decode cX9_runsWell 50 = .ok (.aload 4, 2) := by decide +kernel
theorem dX9_runsWell_52 : decode cX9_runsWell 52 = .ok (.invokestatic 127, 3) := by decide +kernel
theorem dX9_runsWell_55 : decode cX9_runsWell 55 = .ok (.ladd, 1) := by decide +kernel
theorem dX9_runsWell_56 : decode cX9_runsWell 56 = .ok (.ldc2_w 134, 3) := by decide +kernel
theorem dX9_runsWell_59 : decode cX9_runsWell 59 = .ok (.lcmp, 1) := by decide +kernel
theorem dX9_runsWell_60 : decode cX9_runsWell 60 = .ok (.ifCond .lt 7, 3) := by decide +kernel
theorem dX9_runsWell_63 : decode cX9_runsWell 63 = .ok (.iconst 1, 1) := by decide +kernel
theorem dX9_runsWell_64 : decode cX9_runsWell 64 = .ok (.goto 4, 3) := by decide +kernel
theorem dX9_runsWell_67 : decode cX9_runsWell 67 = .ok (.iconst 0, 1) := by decide +kernel
theorem dX9_runsWell_68 : decode cX9_runsWell 68 = .ok (.ireturn, 1) := by decide +kernel
set_option maxRecDepth 20000 in
theorem ggX9_slide_X9_gearAt : GoodIn wsX9_slide wsX9_gearAt := goodIn_ca (goodIn_q _ [10, 11, 12, 13, 14, 74, 75, 76, 77, 78, 79, 80, 81, 82, 83, 84] rfl (by decide +kernel)) (goodIn_sub (fun _ h => List.mem_cons_of_mem _ (List.mem_append_left _ (List.mem_append_right _ h))) (by decide +kernel))
set_option maxRecDepth 20000 in
theorem gX9_slide_X9_gearAt : GoodIn wsX9_slide (wsV RX9 77 RX9 yX9_gearAt wsX9_gearAt) := goodIn_app (goodIn_q _ [6, 7, 8, 9] rfl (by decide +kernel)) ggX9_slide_X9_gearAt
set_option maxRecDepth 20000 in
theorem ggX9_slide_X9_needPair : GoodIn wsX9_slide wsX9_needPair := goodIn_ca (goodIn_q _ [17, 18, 19, 20, 21, 22, 23, 24, 25, 26, 9, 27, 28, 29, 54, 55, 56, 57, 58, 59, 60, 61, 62, 63, 64, 65, 66, 67, 68, 69, 70, 71, 72, 73] rfl (by decide +kernel)) (goodIn_sub (fun _ h => List.mem_cons_of_mem _ (List.mem_append_right _ h)) (by decide +kernel))
set_option maxRecDepth 20000 in
theorem gX9_slide_X9_needPair : GoodIn wsX9_slide (va_wsS RX9 119 yX9_needPair wsX9_needPair) := goodIn_app (goodIn_q _ [15, 16, 9] rfl (by decide +kernel)) ggX9_slide_X9_needPair
set_option maxRecDepth 20000 in
theorem ggX9_slide_X2_wayAt : GoodIn wsX9_slide wsX2_wayAt := goodIn_q _ [33, 34, 35, 36, 37, 38, 21, 39, 40, 23, 41, 42, 43, 44, 45, 46, 47, 48, 49, 50, 9, 51, 52, 53, 54, 55, 56, 57, 58, 59, 60, 61, 62, 63, 64, 65, 66, 67, 68, 69, 70, 71, 72, 73] rfl (by decide +kernel)
set_option maxRecDepth 20000 in
theorem gX9_slide_X2_wayAt : GoodIn wsX9_slide (wsV RX9 136 RX2 yX2_wayAt wsX2_wayAt) := goodIn_app (goodIn_q _ [30, 31, 32, 21] rfl (by decide +kernel)) ggX9_slide_X2_wayAt
theorem dX9_slide_0 : decode cX9_slide 0 = .ok (.aload_n 0, 1) := by decide +kernel
theorem dX9_slide_1 : decode cX9_slide 1 = .ok (.iload_n 1, 1) := by decide +kernel
theorem dX9_slide_2 : decode cX9_slide 2 = .ok (.invokevirtual 77, 3) := by decide +kernel
theorem dX9_slide_5 : decode cX9_slide 5 = .ok (.astore_n 3, 1) := by decide +kernel
theorem dX9_slide_6 : decode cX9_slide 6 = .ok (.aload_n 0, 1) := by decide +kernel
theorem dX9_slide_7 : decode cX9_slide 7 = .ok (.iload_n 2, 1) := by decide +kernel
theorem dX9_slide_8 : decode cX9_slide 8 = .ok (.invokevirtual 77, 3) := by decide +kernel
theorem dX9_slide_11 : decode cX9_slide 11 = .ok (.astore 4, 2) := by decide +kernel
theorem dX9_slide_13 : decode cX9_slide 13 = .ok (.aload_n 3, 1) := by decide +kernel
theorem dX9_slide_14 : decode cX9_slide 14 = .ok (.aload 4, 2) := by decide +kernel
theorem dX9_slide_16 : decode cX9_slide 16 = .ok (.invokestatic 119, 3) := by decide +kernel
theorem dX9_slide_19 : decode cX9_slide 19 = .ok (.aload_n 3, 1) := by decide +kernel
theorem dX9_slide_20 : decode cX9_slide 20 = .ok (.aload_n 3, 1) := by decide +kernel
theorem dX9_slide_21 : decode cX9_slide 21 = .ok (.getfield 89, 3) := by decide +kernel
theorem dX9_slide_24 : decode cX9_slide 24 = .ok (.invokevirtual 136, 3) := by decide +kernel
theorem dX9_slide_27 : decode cX9_slide 27 = .ok (.aload 4, 2) := by decide +kernel
theorem dX9_slide_29 : decode cX9_slide 29 = .ok (.aload 4, 2) := by decide +kernel
theorem dX9_slide_31 : decode cX9_slide 31 = .ok (.getfield 89, 3) := by decide +kernel
theorem dX9_slide_34 : decode cX9_slide 34 = .ok (.invokevirtual 136, 3) := by decide +kernel
theorem dX9_slide_37 : decode cX9_slide 37 = .ok (.lsub, 1) := by decide +kernel
theorem dX9_slide_38 : decode cX9_slide 38 = .ok (.invokestatic 140, 3) := by decide +kernel
theorem dX9_slide_41 : decode cX9_slide 41 = .ok (.lreturn, 1) := by decide +kernel
set_option maxRecDepth 20000 in
theorem ggX9_balance_X9_gearAt : GoodIn wsX9_balance wsX9_gearAt := goodIn_ca (goodIn_q _ [9, 10, 11, 12, 13, 92, 93, 94, 95, 96, 97, 98, 99, 100, 101, 102] rfl (by decide +kernel)) (goodIn_sub (fun _ h => List.mem_cons_of_mem _ (List.mem_append_left _ (List.mem_append_right _ h))) (by decide +kernel))
set_option maxRecDepth 20000 in
theorem gX9_balance_X9_gearAt : GoodIn wsX9_balance (wsV RX9 77 RX9 yX9_gearAt wsX9_gearAt) := goodIn_app (goodIn_q _ [5, 6, 7, 8] rfl (by decide +kernel)) ggX9_balance_X9_gearAt
set_option maxRecDepth 20000 in
theorem ggX9_balance_X9_needPair : GoodIn wsX9_balance wsX9_needPair := goodIn_ca (goodIn_q _ [16, 17, 18, 19, 20, 21, 22, 23, 24, 25, 8, 26, 27, 28, 72, 73, 74, 75, 76, 77, 78, 79, 80, 81, 82, 83, 84, 85, 86, 87, 88, 89, 90, 91] rfl (by decide +kernel)) (goodIn_sub (fun _ h => List.mem_cons_of_mem _ (List.mem_append_right _ h)) (by decide +kernel))
set_option maxRecDepth 20000 in
theorem gX9_balance_X9_needPair : GoodIn wsX9_balance (va_wsS RX9 119 yX9_needPair wsX9_needPair) := goodIn_app (goodIn_q _ [14, 15, 8] rfl (by decide +kernel)) ggX9_balance_X9_needPair
set_option maxRecDepth 20000 in
theorem ggX9_balance_X9_allowOnly : GoodIn wsX9_balance wsX9_allowOnly := goodIn_ca (goodIn_q _ [26, 27, 28] rfl (by decide +kernel)) (goodIn_sub (fun _ h => List.mem_cons_of_mem _ (List.mem_append_right _ h)) (by decide +kernel))
set_option maxRecDepth 20000 in
theorem gX9_balance_X9_allowOnly : GoodIn wsX9_balance (va_wsS RX9 85 yX9_allowOnly wsX9_allowOnly) := goodIn_app (goodIn_q _ [24, 25, 8] rfl (by decide +kernel)) ggX9_balance_X9_allowOnly
set_option maxRecDepth 20000 in
theorem ggX9_balance_X9_balancedShift : GoodIn wsX9_balance wsX9_balancedShift := goodIn_q _ [31, 32, 33, 34, 35, 36, 37, 38, 8, 39, 40, 41, 42, 20, 43, 44, 45, 46, 47, 48, 49, 50, 51, 52, 53, 54, 55, 56, 57, 58, 22, 59, 60, 61, 62, 63, 64, 65, 66, 67, 68, 69, 70, 71, 72, 73, 74, 75, 76, 77, 78, 79, 80, 81, 82, 83, 84, 85, 86, 87, 88, 89, 90, 91] rfl (by decide +kernel)
set_option maxRecDepth 20000 in
theorem gX9_balance_X9_balancedShift : GoodIn wsX9_balance (va_wsS RX9 146 yX9_balancedShift wsX9_balancedShift) := goodIn_app (goodIn_q _ [29, 30, 8] rfl (by decide +kernel)) ggX9_balance_X9_balancedShift
theorem dX9_balance_0 : decode cX9_balance 0 = .ok (.aload_n 0, 1) := by decide +kernel
theorem dX9_balance_1 : decode cX9_balance 1 = .ok (.iload_n 1, 1) := by decide +kernel
theorem dX9_balance_2 : decode cX9_balance 2 = .ok (.invokevirtual 77, 3) := by decide +kernel
theorem dX9_balance_5 : decode cX9_balance 5 = .ok (.astore_n 3, 1) := by decide +kernel
theorem dX9_balance_6 : decode cX9_balance 6 = .ok (.aload_n 0, 1) := by decide +kernel
theorem dX9_balance_7 : decode cX9_balance 7 = .ok (.iload_n 2, 1) := by decide +kernel
theorem dX9_balance_8 : decode cX9_balance 8 = .ok (.invokevirtual 77, 3) := by decide +kernel
theorem dX9_balance_11 : decode cX9_balance 11 = .ok (.astore 4, 2) := by decide +kernel
theorem dX9_balance_13 : decode cX9_balance 13 = .ok (.aload_n 3, 1) := by decide +kernel
theorem dX9_balance_14 : decode cX9_balance 14 = .ok (.aload 4, 2) := by decide +kernel
theorem dX9_balance_16 : decode cX9_balance 16 = .ok (.invokestatic 119, 3) := by decide +kernel
theorem dX9_balance_19 : decode cX9_balance 19 = .ok (.aload_n 3, 1) := by decide +kernel
theorem dX9_balance_20 : decode cX9_balance 20 = .ok (.getfield 81, 3) := by decide +kernel
theorem dX9_balance_23 : decode cX9_balance 23 = .ok (.ifCond .ne 15, 3) := by decide +kernel
theorem dX9_balance_26 : decode cX9_balance 26 = .ok (.aload 4, 2) := by decide +kernel
theorem dX9_balance_28 : decode cX9_balance 28 = .ok (.getfield 81, 3) := by decide +kernel
theorem dX9_balance_31 : decode cX9_balance 31 = .ok (.ifCond .ne 7, 3) := by decide +kernel
theorem dX9_balance_34 : decode cX9_balance 34 = .ok (.iconst 1, 1) := by decide +kernel
theorem dX9_balance_35 : decode cX9_balance 35 = .ok (.goto 4, 3) := by decide +kernel
theorem dX9_balance_38 : decode cX9_balance 38 = .ok (.iconst 0, 1) := by decide +kernel
theorem dX9_balance_39 : decode cX9_balance 39 = .ok (.invokestatic 85, 3) := by decide +kernel
theorem dX9_balance_42 : decode cX9_balance 42 = .ok (.aload_n 3, 1) := by decide +kernel
theorem dX9_balance_43 : decode cX9_balance 43 = .ok (.aload 4, 2) := by decide +kernel
theorem dX9_balance_45 : decode cX9_balance 45 = .ok (.invokestatic 146, 3) := by decide +kernel
theorem dX9_balance_48 : decode cX9_balance 48 = .ok (.istore 5, 2) := by decide +kernel
theorem dX9_balance_50 : decode cX9_balance 50 = .ok (.iload 5, 2) := by decide +kernel
theorem dX9_balance_52 : decode cX9_balance 52 = .ok (.bipush 50, 2) := by decide +kernel
theorem dX9_balance_54 : decode cX9_balance 54 = .ok (.if_icmp .le 13, 3) := by decide +kernel
theorem dX9_balance_57 : decode cX9_balance 57 = .ok (.new 150, 3) := by decide +kernel
theorem dX9_balance_60 : decode cX9_balance 60 = .ok (.dup, 1) := by decide +kernel
theorem dX9_balance_61 : decode cX9_balance 61 = .ok (.ldc 152, 2) := by decide +kernel
theorem dX9_balance_63 : decode cX9_balance 63 = .ok (.invokespecial 154, 3) := by decide +kernel
theorem dX9_balance_66 : decode cX9_balance 66 = .ok (.athrow, 1) := by decide +kernel
theorem dX9_balance_67 : decode cX9_balance 67 = .ok (.aload_n 3, 1) := by decide +kernel
theorem dX9_balance_68 : decode cX9_balance 68 = .ok (.iload 5, 2) := by decide +kernel
theorem dX9_balance_70 : decode cX9_balance 70 = .ok (.putfield 89, 3) := by decide +kernel
theorem dX9_balance_73 : decode cX9_balance 73 = .ok (.aload 4, 2) := by decide +kernel
theorem dX9_balance_75 : decode cX9_balance 75 = .ok (.iload 5, 2) := by decide +kernel
theorem dX9_balance_77 : decode cX9_balance 77 = .ok (.ineg, 1) := by decide +kernel
theorem dX9_balance_78 : decode cX9_balance 78 = .ok (.putfield 89, 3) := by decide +kernel
theorem dX9_balance_81 : decode cX9_balance 81 = .ok (.iload 5, 2) := by decide +kernel
theorem dX9_balance_83 : decode cX9_balance 83 = .ok (.ireturn, 1) := by decide +kernel
set_option maxRecDepth 20000 in
theorem ggX9_section_X9_gearAt : GoodIn wsX9_section wsX9_gearAt := goodIn_ca (goodIn_q _ [9, 10, 11, 12, 13, 54, 55, 56, 57, 58, 59, 60, 61, 62, 63, 64] rfl (by decide +kernel)) (goodIn_sub (fun _ h => List.mem_cons_of_mem _ (List.mem_append_left _ (List.mem_append_left _ (List.mem_append_right _ h)))) (by decide +kernel))
set_option maxRecDepth 20000 in
theorem gX9_section_X9_gearAt : GoodIn wsX9_section (wsV RX9 77 RX9 yX9_gearAt wsX9_gearAt) := goodIn_app (goodIn_q _ [5, 6, 7, 8] rfl (by decide +kernel)) ggX9_section_X9_gearAt
set_option maxRecDepth 20000 in
theorem ggX9_section_X9_needRange : GoodIn wsX9_section wsX9_needRange := goodIn_ca (goodIn_q _ [16, 17, 18] rfl (by decide +kernel)) (goodIn_sub (fun _ h => List.mem_cons_of_mem _ (List.mem_append_left _ (List.mem_append_right _ h))) (by decide +kernel))
set_option maxRecDepth 20000 in
theorem gX9_section_X9_needRange : GoodIn wsX9_section (va_wsS RX9 59 yX9_needRange wsX9_needRange) := goodIn_app (goodIn_q _ [14, 15, 8] rfl (by decide +kernel)) ggX9_section_X9_needRange
set_option maxRecDepth 20000 in
theorem ggX9_section_X2_pitchDiameter : GoodIn wsX9_section wsX2_pitchDiameter := goodIn_q _ [23, 24, 25, 34, 35, 36, 37, 38, 39, 40, 41, 42, 43, 44, 45, 46, 47, 48, 49, 50, 51, 52, 53] rfl (by decide +kernel)
set_option maxRecDepth 20000 in
theorem gX9_section_X2_pitchDiameter : GoodIn wsX9_section (wsV RX9 92 RX2 yX2_pitchDiameter wsX2_pitchDiameter) := goodIn_app (goodIn_q _ [19, 20, 21, 22] rfl (by decide +kernel)) ggX9_section_X2_pitchDiameter
set_option maxRecDepth 20000 in
theorem ggX9_section_X9_root : GoodIn wsX9_section wsX9_root := goodIn_q _ [28] rfl (by decide +kernel)
set_option maxRecDepth 20000 in
theorem gX9_section_X9_root : GoodIn wsX9_section (va_wsS RX9 155 yX9_root wsX9_root) := goodIn_app (goodIn_q _ [26, 27, 8] rfl (by decide +kernel)) ggX9_section_X9_root
set_option maxRecDepth 20000 in
theorem ggX9_section_X9_allowOnly : GoodIn wsX9_section wsX9_allowOnly := goodIn_ca (goodIn_q _ [31, 32, 33] rfl (by decide +kernel)) (goodIn_sub (fun _ h => List.mem_cons_of_mem _ (List.mem_append_right _ h)) (by decide +kernel))
set_option maxRecDepth 20000 in
theorem gX9_section_X9_allowOnly : GoodIn wsX9_section (va_wsS RX9 85 yX9_allowOnly wsX9_allowOnly) := goodIn_app (goodIn_q _ [29, 30, 8] rfl (by decide +kernel)) ggX9_section_X9_allowOnly
theorem dX9_section_0 : decode cX9_section 0 = .ok (.aload_n 0, 1) := by decide +kernel
theorem dX9_section_1 : decode cX9_section 1 = .ok (.iload_n 1, 1) := by decide +kernel
theorem dX9_section_2 : decode cX9_section 2 = .ok (.invokevirtual 77, 3) := by decide +kernel
theorem dX9_section_5 : decode cX9_section 5 = .ok (.astore 5, 2) := by decide +kernel
theorem dX9_section_7 : decode cX9_section 7 = .ok (.aload_n 0, 1) := by decide +kernel
theorem dX9_section_8 : decode cX9_section 8 = .ok (.iload_n 2, 1) := by decide +kernel
theorem dX9_section_9 : decode cX9_section 9 = .ok (.invokevirtual 77, 3) := by decide +kernel
theorem dX9_section_12 : decode cX9_section 12 = .ok (.astore 6, 2) := by decide +kernel
theorem dX9_section_14 : decode cX9_section 14 = .ok (.iload 4, 2) := by decide +kernel
theorem dX9_section_16 : decode cX9_section 16 = .ok (.iconst 1, 1) := by decide +kernel
theorem dX9_section_17 : decode cX9_section 17 = .ok (.bipush 50, 2) := by decide +kernel
theorem dX9_section_19 : decode cX9_section 19 = .ok (.invokestatic 59, 3) := by decide +kernel
theorem dX9_section_22 : decode cX9_section 22 = .ok (.iload_n 3, 1) := by decide +kernel
theorem dX9_section_23 : decode cX9_section 23 = .ok (.iconst 0, 1) := by decide +kernel
theorem dX9_section_24 : decode cX9_section 24 = .ok (.iload 4, 2) := by decide +kernel
theorem dX9_section_26 : decode cX9_section 26 = .ok (.iconst 1, 1) := by decide +kernel
theorem dX9_section_27 : decode cX9_section 27 = .ok (.isub, 1) := by decide +kernel
theorem dX9_section_28 : decode cX9_section 28 = .ok (.invokestatic 59, 3) := by decide +kernel
theorem dX9_section_31 : decode cX9_section 31 = .ok (.aload 5, 2) := by decide +kernel
theorem dX9_section_33 : decode cX9_section 33 = .ok (.invokevirtual 92, 3) := by decide +kernel
theorem dX9_section_36 : decode cX9_section 36 = .ok (.i2l, 1) := by decide +kernel
theorem dX9_section_37 : decode cX9_section 37 = .ok (.lstore 7, 2) := by decide +kernel
theorem dX9_section_39 : decode cX9_section 39 = .ok (.aload 6, 2) := by decide +kernel
theorem dX9_section_41 : decode cX9_section 41 = .ok (.invokevirtual 92, 3) := by decide +kernel
theorem dX9_section_44 : decode cX9_section 44 = .ok (.i2l, 1) := by decide +kernel
theorem dX9_section_45 : decode cX9_section 45 = .ok (.lstore 9, 2) := by decide +kernel
theorem dX9_section_47 : decode cX9_section 47 = .ok (.lload 7, 2) := by decide +kernel
theorem dX9_section_49 : decode cX9_section 49 = .ok (.lload 7, 2) := by decide +kernel
theorem dX9_section_51 : decode cX9_section 51 = .ok (.lmul, 1) := by decide +kernel
theorem dX9_section_52 : decode cX9_section 52 = .ok (.lload 9, 2) := by decide +kernel
theorem dX9_section_54 : decode cX9_section 54 = .ok (.lload 9, 2) := by decide +kernel
theorem dX9_section_56 : decode cX9_section 56 = .ok (.lmul, 1) := by decide +kernel
theorem dX9_section_57 : decode cX9_section 57 = .ok (.ladd, 1) := by decide +kernel
theorem dX9_section_58 : decode cX9_section 58 = .ok (.invokestatic 155, 3) := by decide +kernel
theorem dX9_section_61 : decode cX9_section 61 = .ok (.ldc2_w 158, 3) := by decide +kernel
theorem dX9_section_64 : decode cX9_section 64 = .ok (.ldiv, 1) := by decide +kernel
theorem dX9_section_65 : decode cX9_section 65 = .ok (.lstore 11, 2) := by decide +kernel
theorem dX9_section_67 : decode cX9_section 67 = .ok (.aload 5, 2) := by decide +kernel
theorem dX9_section_69 : decode cX9_section 69 = .ok (.getfield 160, 3) := by decide +kernel
theorem dX9_section_72 : decode cX9_section 72 = .ok (.i2l, 1) := by decide +kernel
theorem dX9_section_73 : decode cX9_section 73 = .ok (.lload 11, 2) := by decide +kernel
theorem dX9_section_75 : decode cX9_section 75 = .ok (.ldc2_w 163, 3) := by decide +kernel
theorem dX9_section_78 : decode cX9_section 78 = .ok (.ldiv, 1) := by decide +kernel
theorem dX9_section_79 : decode cX9_section 79 = .ok (.lcmp, 1) := by decide +kernel
theorem dX9_section_80 : decode cX9_section 80 = .ok (.ifCond .gt 27, 3) := by decide +kernel
theorem dX9_section_83 : decode cX9_section 83 = .ok (.aload 5, 2) := by decide +kernel
theorem dX9_section_85 : decode cX9_section 85 = .ok (.getfield 165, 3) := by decide +kernel
theorem dX9_section_88 : decode cX9_section 88 = .ok (.aload 6, 2) := by decide +kernel
theorem dX9_section_90 : decode cX9_section 90 = .ok (.getfield 165, 3) := by decide +kernel
theorem dX9_section_93 : decode cX9_section 93 = .ok (.if_icmp .ne 14, 3) := by decide +kernel
theorem dX9_section_96 : decode cX9_section 96 = .ok (.lload 11, 2) := by decide +kernel
theorem dX9_section_98 : decode cX9_section 98 = .ok (.lconst 0, 1) := by decide +kernel
theorem dX9_section_99 : decode cX9_section 99 = .ok (.lcmp, 1) := by decide +kernel
theorem dX9_section_100 : decode cX9_section 100 = .ok (.ifCond .le 7, 3) := by decide +kernel
theorem dX9_section_103 : decode cX9_section 103 = .ok (.iconst 1, 1) := by decide +kernel
theorem dX9_section_104 : decode cX9_section 104 = .ok (.goto 4, 3) := by decide +kernel
theorem dX9_section_107 : decode cX9_section 107 = .ok (.iconst 0, 1) := by decide +kernel
theorem dX9_section_108 : decode cX9_section 108 = .ok (.invokestatic 85, 3) := by decide +kernel
theorem dX9_section_111 : decode cX9_section 111 = .ok (.lload 11, 2) := by decide +kernel
theorem dX9_section_113 : decode cX9_section 113 = .ok (.aload 5, 2) := by decide +kernel
theorem dX9_section_115 : decode cX9_section 115 = .ok (.getfield 160, 3) := by decide +kernel
theorem dX9_section_118 : decode cX9_section 118 = .ok (.i2l, 1) := by decide +kernel
theorem dX9_section_119 : decode cX9_section 119 = .ok (.iload_n 3, 1) := by decide +kernel
theorem dX9_section_120 : decode cX9_section 120 = .ok (.i2l, 1) := by decide +kernel
theorem dX9_section_121 : decode cX9_section 121 = .ok (.lmul, 1) := by decide +kernel
theorem dX9_section_122 : decode cX9_section 122 = .ok (.iload 4, 2) := by decide +kernel
theorem dX9_section_124 : decode cX9_section 124 = .ok (.i2l, 1) := by decide +kernel
theorem dX9_section_125 : decode cX9_section 125 = .ok (.ldiv, 1) := by decide +kernel
theorem dX9_section_126 : decode cX9_section 126 = .ok (.lsub, 1) := by decide +kernel
theorem dX9_section_127 : decode cX9_section 127 = .ok (.lstore 13, 2) := by decide +kernel
theorem dX9_section_129 : decode cX9_section 129 = .ok (.aload 5, 2) := by decide +kernel
theorem dX9_section_131 : decode cX9_section 131 = .ok (.getfield 165, 3) := by decide +kernel
theorem dX9_section_134 : decode cX9_section 134 = .ok (.i2l, 1) := by decide +kernel
theorem dX9_section_135 : decode cX9_section 135 = .ok (.lload 13, 2) := by decide +kernel
theorem dX9_section_137 : decode cX9_section 137 = .ok (.lmul, 1) := by decide +kernel
theorem dX9_section_138 : decode cX9_section 138 = .ok (.lload 11, 2) := by decide +kernel
theorem dX9_section_140 : decode cX9_section 140 = .ok (.ldiv, 1) := by decide +kernel
theorem dX9_section_141 : decode cX9_section 141 = .ok (.l2i, 1) := by decide +kernel
theorem dX9_section_142 : decode cX9_section 142 = .ok (.ireturn, 1) := by decide +kernel
theorem dX9_undercuts_0 : decode cX9_undercuts 0 = .ok (.sipush 137, 3) := by decide +kernel
theorem dX9_undercuts_3 : decode cX9_undercuts 3 = .ok (.iload_n 1, 1) := by decide +kernel
theorem dX9_undercuts_4 : decode cX9_undercuts 4 = .ok (.imul, 1) := by decide +kernel
theorem dX9_undercuts_5 : decode cX9_undercuts 5 = .ok (.bipush 100, 2) := by decide +kernel
theorem dX9_undercuts_7 : decode cX9_undercuts 7 = .ok (.sipush 137, 3) := by decide +kernel
theorem dX9_undercuts_10 : decode cX9_undercuts 10 = .ok (.bipush 8, 2) := by decide +kernel
theorem dX9_undercuts_12 : decode cX9_undercuts 12 = .ok (.iload_n 0, 1) := by decide +kernel
theorem dX9_undercuts_13 : decode cX9_undercuts 13 = .ok (.imul, 1) := by decide +kernel
theorem dX9_undercuts_14 : decode cX9_undercuts 14 = .ok (.isub, 1) := by decide +kernel
theorem dX9_undercuts_15 : decode cX9_undercuts 15 = .ok (.imul, 1) := by decide +kernel
theorem dX9_undercuts_16 : decode cX9_undercuts 16 = .ok (.if_icmp .ge 7, 3) := by decide +kernel
theorem dX9_undercuts_19 : decode cX9_undercuts 19 = .ok (.iconst 1, 1) := by decide +kernel
theorem dX9_undercuts_20 : decode cX9_undercuts 20 = .ok (.goto 4, 3) := by decide +kernel
theorem dX9_undercuts_23 : decode cX9_undercuts 23 = .ok (.iconst 0, 1) := by decide +kernel
theorem dX9_undercuts_24 : decode cX9_undercuts 24 = .ok (.ireturn, 1) := by decide +kernel
theorem dX9_sharpens_0 : decode cX9_sharpens 0 = .ok (.bipush 40, 2) := by decide +kernel
theorem dX9_sharpens_2 : decode cX9_sharpens 2 = .ok (.iload_n 1, 1) := by decide +kernel
theorem dX9_sharpens_3 : decode cX9_sharpens 3 = .ok (.imul, 1) := by decide +kernel
theorem dX9_sharpens_4 : decode cX9_sharpens 4 = .ok (.bipush 100, 2) := by decide +kernel
theorem dX9_sharpens_6 : decode cX9_sharpens 6 = .ok (.iload_n 0, 1) := by decide +kernel
theorem dX9_sharpens_7 : decode cX9_sharpens 7 = .ok (.bipush 10, 2) := by decide +kernel
theorem dX9_sharpens_9 : decode cX9_sharpens 9 = .ok (.iadd, 1) := by decide +kernel
theorem dX9_sharpens_10 : decode cX9_sharpens 10 = .ok (.imul, 1) := by decide +kernel
theorem dX9_sharpens_11 : decode cX9_sharpens 11 = .ok (.if_icmp .le 7, 3) := by decide +kernel
theorem dX9_sharpens_14 : decode cX9_sharpens 14 = .ok (.iconst 1, 1) := by decide +kernel
theorem dX9_sharpens_15 : decode cX9_sharpens 15 = .ok (.goto 4, 3) := by decide +kernel
theorem dX9_sharpens_18 : decode cX9_sharpens 18 = .ok (.iconst 0, 1) := by decide +kernel
theorem dX9_sharpens_19 : decode cX9_sharpens 19 = .ok (.ireturn, 1) := by decide +kernel
theorem dX9_tipOf_0 : decode cX9_tipOf 0 = .ok (.iload_n 0, 1) := by decide +kernel
theorem dX9_tipOf_1 : decode cX9_tipOf 1 = .ok (.iload_n 1, 1) := by decide +kernel
theorem dX9_tipOf_2 : decode cX9_tipOf 2 = .ok (.imul, 1) := by decide +kernel
theorem dX9_tipOf_3 : decode cX9_tipOf 3 = .ok (.iconst 2, 1) := by decide +kernel
theorem dX9_tipOf_4 : decode cX9_tipOf 4 = .ok (.iload_n 1, 1) := by decide +kernel
theorem dX9_tipOf_5 : decode cX9_tipOf 5 = .ok (.imul, 1) := by decide +kernel
theorem dX9_tipOf_6 : decode cX9_tipOf 6 = .ok (.iadd, 1) := by decide +kernel
theorem dX9_tipOf_7 : decode cX9_tipOf 7 = .ok (.iconst 2, 1) := by decide +kernel
theorem dX9_tipOf_8 : decode cX9_tipOf 8 = .ok (.iload_n 2, 1) := by decide +kernel
theorem dX9_tipOf_9 : decode cX9_tipOf 9 = .ok (.imul, 1) := by decide +kernel
theorem dX9_tipOf_10 : decode cX9_tipOf 10 = .ok (.iload_n 1, 1) := by decide +kernel
theorem dX9_tipOf_11 : decode cX9_tipOf 11 = .ok (.imul, 1) := by decide +kernel
theorem dX9_tipOf_12 : decode cX9_tipOf 12 = .ok (.bipush 100, 2) := by decide +kernel
theorem dX9_tipOf_14 : decode cX9_tipOf 14 = .ok (.idiv, 1) := by decide +kernel
theorem dX9_tipOf_15 : decode cX9_tipOf 15 = .ok (.iadd, 1) := by decide +kernel
theorem dX9_tipOf_16 : decode cX9_tipOf 16 = .ok (.ireturn, 1) := by decide +kernel
set_option maxRecDepth 20000 in
theorem ggX9_contactOf_X2_pitchDiameter : GoodIn wsX9_contactOf wsX2_pitchDiameter := goodIn_q _ [12, 13, 14, 32, 33, 34, 35, 36, 37, 38, 39, 40, 41, 42, 43, 44, 45, 46, 47, 48, 49, 50, 51] rfl (by decide +kernel)
set_option maxRecDepth 20000 in
theorem gX9_contactOf_X2_pitchDiameter : GoodIn wsX9_contactOf (wsV RX9 92 RX2 yX2_pitchDiameter wsX2_pitchDiameter) := goodIn_app (goodIn_q _ [8, 9, 10, 11] rfl (by decide +kernel)) ggX9_contactOf_X2_pitchDiameter
set_option maxRecDepth 20000 in
theorem ggX9_contactOf_X2_lineAt : GoodIn wsX9_contactOf wsX2_lineAt := goodIn_q _ [18, 19, 20, 21, 22, 23, 11, 24, 13, 14, 25, 26, 27, 28, 9, 10, 12, 29, 30, 32, 33, 34, 35, 36, 37, 38, 39, 40, 41, 42, 43, 44, 45, 46, 47, 48, 49, 50, 51] rfl (by decide +kernel)
set_option maxRecDepth 20000 in
theorem gX9_contactOf_X2_lineAt : GoodIn wsX9_contactOf (wsV RX9 168 RX2 yX2_lineAt wsX2_lineAt) := goodIn_app (goodIn_q _ [15, 16, 17, 11] rfl (by decide +kernel)) ggX9_contactOf_X2_lineAt
set_option maxRecDepth 20000 in
theorem ggX9_contactOf_X9_root : GoodIn wsX9_contactOf wsX9_root := goodIn_q _ [30] rfl (by decide +kernel)
set_option maxRecDepth 20000 in
theorem gX9_contactOf_X9_root : GoodIn wsX9_contactOf (va_wsS RX9 155 yX9_root wsX9_root) := goodIn_app (goodIn_q _ [31, 29, 26] rfl (by decide +kernel)) ggX9_contactOf_X9_root
theorem dX9_contactOf_0 : decode cX9_contactOf 0 = .ok (.aload_n 0, 1) := by decide +kernel
theorem dX9_contactOf_1 : decode cX9_contactOf 1 = .ok (.invokevirtual 92, 3) := by decide +kernel
theorem dX9_contactOf_4 : decode cX9_contactOf 4 = .ok (.i2l, 1) := by decide +kernel
theorem dX9_contactOf_5 : decode cX9_contactOf 5 = .ok (.aload_n 1, 1) := by decide +kernel
theorem dX9_contactOf_6 : decode cX9_contactOf 6 = .ok (.invokevirtual 92, 3) := by decide +kernel
theorem dX9_contactOf_9 : decode cX9_contactOf 9 = .ok (.i2l, 1) := by decide +kernel
theorem dX9_contactOf_10 : decode cX9_contactOf 10 = .ok (.ladd, 1) := by decide +kernel
theorem dX9_contactOf_11 : decode cX9_contactOf 11 = .ok (.lstore_n 2, 1) := by decide +kernel
theorem dX9_contactOf_12 : decode cX9_contactOf 12 = .ok (.aload_n 0, 1) := by decide +kernel
theorem dX9_contactOf_13 : decode cX9_contactOf 13 = .ok (.aload_n 0, 1) := by decide +kernel
theorem dX9_contactOf_14 : decode cX9_contactOf 14 = .ok (.getfield 89, 3) := by decide +kernel
theorem dX9_contactOf_17 : decode cX9_contactOf 17 = .ok (.invokevirtual 168, 3) := by decide +kernel
theorem dX9_contactOf_20 : decode cX9_contactOf 20 = .ok (.aload_n 1, 1) := by decide +kernel
theorem dX9_contactOf_21 : decode cX9_contactOf 21 = .ok (.aload_n 1, 1) := by decide +kernel
theorem dX9_contactOf_22 : decode cX9_contactOf 22 = .ok (.getfield 89, 3) := by decide +kernel
theorem dX9_contactOf_25 : decode cX9_contactOf 25 = .ok (.invokevirtual 168, 3) := by decide +kernel
theorem dX9_contactOf_28 : decode cX9_contactOf 28 = .ok (.ladd, 1) := by decide +kernel
theorem dX9_contactOf_29 : decode cX9_contactOf 29 = .ok (.ldc2_w 171, 3) := by decide +kernel
theorem dX9_contactOf_32 : decode cX9_contactOf 32 = .ok (.lload_n 2, 1) := by decide +kernel
theorem dX9_contactOf_33 : decode cX9_contactOf 33 = .ok (.lmul, 1) := by decide +kernel
theorem dX9_contactOf_34 : decode cX9_contactOf 34 = .ok (.lload_n 2, 1) := by decide +kernel
theorem dX9_contactOf_35 : decode cX9_contactOf 35 = .ok (.lmul, 1) := by decide +kernel
theorem dX9_contactOf_36 : decode cX9_contactOf 36 = .ok (.ldc2_w 173, 3) := by decide +kernel
theorem dX9_contactOf_39 : decode cX9_contactOf 39 = .ok (.ldiv, 1) := by decide +kernel
theorem dX9_contactOf_40 : decode cX9_contactOf 40 = .ok (.invokestatic 155, 3) := by decide +kernel
theorem dX9_contactOf_43 : decode cX9_contactOf 43 = .ok (.lsub, 1) := by decide +kernel
theorem dX9_contactOf_44 : decode cX9_contactOf 44 = .ok (.lstore 4, 2) := by decide +kernel
theorem dX9_contactOf_46 : decode cX9_contactOf 46 = .ok (.ldc2_w 175, 3) := by decide +kernel
theorem dX9_contactOf_49 : decode cX9_contactOf 49 = .ok (.aload_n 0, 1) := by decide +kernel
theorem dX9_contactOf_50 : decode cX9_contactOf 50 = .ok (.getfield 165, 3) := by decide +kernel
theorem dX9_contactOf_53 : decode cX9_contactOf 53 = .ok (.i2l, 1) := by decide +kernel
theorem dX9_contactOf_54 : decode cX9_contactOf 54 = .ok (.lmul, 1) := by decide +kernel
theorem dX9_contactOf_55 : decode cX9_contactOf 55 = .ok (.lstore 6, 2) := by decide +kernel
theorem dX9_contactOf_57 : decode cX9_contactOf 57 = .ok (.lload 6, 2) := by decide +kernel
theorem dX9_contactOf_59 : decode cX9_contactOf 59 = .ok (.lload 6, 2) := by decide +kernel
theorem dX9_contactOf_61 : decode cX9_contactOf 61 = .ok (.lmul, 1) := by decide +kernel
theorem dX9_contactOf_62 : decode cX9_contactOf 62 = .ok (.ldc2_w 173, 3) := by decide +kernel
theorem dX9_contactOf_65 : decode cX9_contactOf 65 = .ok (.ldiv, 1) := by decide +kernel
theorem dX9_contactOf_66 : decode cX9_contactOf 66 = .ok (.invokestatic 155, 3) := by decide +kernel
theorem dX9_contactOf_69 : decode cX9_contactOf 69 = .ok (.ldc2_w 177, 3) := by decide +kernel
theorem dX9_contactOf_72 : decode cX9_contactOf 72 = .ok (.ldiv, 1) := by decide +kernel
theorem dX9_contactOf_73 : decode cX9_contactOf 73 = .ok (.lstore 8, 2) := by decide +kernel
theorem dX9_contactOf_75 : decode cX9_contactOf 75 = .ok (.lload 4, 2) := by decide +kernel
theorem dX9_contactOf_77 : decode cX9_contactOf 77 = .ok (.lconst 0, 1) := by decide +kernel
theorem dX9_contactOf_78 : decode cX9_contactOf 78 = .ok (.lcmp, 1) := by decide +kernel
theorem dX9_contactOf_79 : decode cX9_contactOf 79 = .ok (.ifCond .le 10, 3) := by decide +kernel
theorem dX9_contactOf_82 : decode cX9_contactOf 82 = .ok (.lload 8, 2) := by decide +kernel
theorem dX9_contactOf_84 : decode cX9_contactOf 84 = .ok (.lconst 0, 1) := by decide +kernel
theorem dX9_contactOf_85 : decode cX9_contactOf 85 = .ok (.lcmp, 1) := by decide +kernel
theorem dX9_contactOf_86 : decode cX9_contactOf 86 = .ok (.ifCond .gt 7, 3) := by decide +kernel
theorem dX9_contactOf_89 : decode cX9_contactOf 89 = .ok (.lconst 0, 1) := by decide +kernel
theorem dX9_contactOf_90 : decode cX9_contactOf 90 = .ok (.goto 12, 3) := by decide +kernel
theorem dX9_contactOf_93 : decode cX9_contactOf 93 = .ok (.ldc2_w 179, 3) := by decide +kernel
theorem dX9_contactOf_96 : decode cX9_contactOf 96 = .ok (.lload 4, 2) := by decide +kernel
theorem dX9_contactOf_98 : decode cX9_contactOf 98 = .ok (.lmul, 1) := by decide +kernel
theorem dX9_contactOf_99 : decode cX9_contactOf 99 = .ok (.lload 8, 2) := by decide +kernel
theorem dX9_contactOf_101 : decode cX9_contactOf 101 = .ok (.ldiv, 1) := by decide +kernel
theorem dX9_contactOf_102 : decode cX9_contactOf 102 = .ok (.lreturn, 1) := by decide +kernel
theorem dX9_overlapOf_0 : decode cX9_overlapOf 0 = .ok (.aload_n 0, 1) := by decide +kernel
theorem dX9_overlapOf_1 : decode cX9_overlapOf 1 = .ok (.getfield 160, 3) := by decide +kernel
theorem dX9_overlapOf_4 : decode cX9_overlapOf 4 = .ok (.aload_n 1, 1) := by decide +kernel
theorem dX9_overlapOf_5 : decode cX9_overlapOf 5 = .ok (.getfield 160, 3) := by decide +kernel
theorem dX9_overlapOf_8 : decode cX9_overlapOf 8 = .ok (.invokestatic 181, 3) := by decide +kernel
theorem dX9_overlapOf_11 : decode cX9_overlapOf 11 = .ok (.i2l, 1) := by decide +kernel
theorem dX9_overlapOf_12 : decode cX9_overlapOf 12 = .ok (.lstore_n 2, 1) := by decide +kernel
theorem dX9_overlapOf_13 : decode cX9_overlapOf 13 = .ok (.lload_n 2, 1) := by decide +kernel
theorem dX9_overlapOf_14 : decode cX9_overlapOf 14 = .ok (.aload_n 0, 1) := by decide +kernel
theorem dX9_overlapOf_15 : decode cX9_overlapOf 15 = .ok (.getfield 185, 3) := by decide +kernel
theorem dX9_overlapOf_18 : decode cX9_overlapOf 18 = .ok (.invokestatic 188, 3) := by decide +kernel
theorem dX9_overlapOf_21 : decode cX9_overlapOf 21 = .ok (.i2l, 1) := by decide +kernel
theorem dX9_overlapOf_22 : decode cX9_overlapOf 22 = .ok (.lmul, 1) := by decide +kernel
theorem dX9_overlapOf_23 : decode cX9_overlapOf 23 = .ok (.ldc2_w 177, 3) := by decide +kernel
theorem dX9_overlapOf_26 : decode cX9_overlapOf 26 = .ok (.lmul, 1) := by decide +kernel
theorem dX9_overlapOf_27 : decode cX9_overlapOf 27 = .ok (.ldc2_w 190, 3) := by decide +kernel
theorem dX9_overlapOf_30 : decode cX9_overlapOf 30 = .ok (.aload_n 0, 1) := by decide +kernel
theorem dX9_overlapOf_31 : decode cX9_overlapOf 31 = .ok (.getfield 165, 3) := by decide +kernel
theorem dX9_overlapOf_34 : decode cX9_overlapOf 34 = .ok (.i2l, 1) := by decide +kernel
theorem dX9_overlapOf_35 : decode cX9_overlapOf 35 = .ok (.lmul, 1) := by decide +kernel
theorem dX9_overlapOf_36 : decode cX9_overlapOf 36 = .ok (.ldiv, 1) := by decide +kernel
theorem dX9_overlapOf_37 : decode cX9_overlapOf 37 = .ok (.lreturn, 1) := by decide +kernel
set_option maxRecDepth 20000 in
theorem ggX9_balancedShift_X9_nearestToZero : GoodIn wsX9_balancedShift wsX9_nearestToZero := goodIn_q _ [9] rfl (by decide +kernel)
set_option maxRecDepth 20000 in
theorem gX9_balancedShift_X9_nearestToZero : GoodIn wsX9_balancedShift (va_wsS RX9 194 yX9_nearestToZero wsX9_nearestToZero) := goodIn_app (goodIn_q _ [6, 7, 8] rfl (by decide +kernel)) ggX9_balancedShift_X9_nearestToZero
set_option maxRecDepth 20000 in
theorem ggX9_balancedShift_X2_isGoodAt : GoodIn wsX9_balancedShift wsX2_isGoodAt := goodIn_q _ [14, 15, 16, 8, 17, 18, 19, 44, 45, 46, 47, 48, 49, 50, 51, 52, 53, 54, 55, 56, 57, 58, 59, 60, 61, 62, 63] rfl (by decide +kernel)
set_option maxRecDepth 20000 in
theorem gX9_balancedShift_X2_isGoodAt : GoodIn wsX9_balancedShift (wsV RX9 130 RX2 yX2_isGoodAt wsX2_isGoodAt) := goodIn_app (goodIn_q _ [10, 11, 12, 13] rfl (by decide +kernel)) ggX9_balancedShift_X2_isGoodAt
set_option maxRecDepth 20000 in
theorem ggX9_balancedShift_X2_wayAt : GoodIn wsX9_balancedShift wsX2_wayAt := goodIn_q _ [23, 24, 25, 26, 27, 28, 13, 29, 15, 30, 31, 32, 33, 34, 35, 36, 37, 38, 39, 40, 8, 41, 42, 43, 44, 45, 46, 47, 48, 49, 50, 51, 52, 53, 54, 55, 56, 57, 58, 59, 60, 61, 62, 63] rfl (by decide +kernel)
set_option maxRecDepth 20000 in
theorem gX9_balancedShift_X2_wayAt : GoodIn wsX9_balancedShift (wsV RX9 136 RX2 yX2_wayAt wsX2_wayAt) := goodIn_app (goodIn_q _ [20, 21, 22, 13] rfl (by decide +kernel)) ggX9_balancedShift_X2_wayAt
