theorem dX12_life_27 : decode cX12_life 27 = .ok (.aload_n 0, 1) := by decide +kernel
theorem dX12_life_28 : decode cX12_life 28 = .ok (.aload_n 0, 1) := by decide +kernel
theorem dX12_life_29 : decode cX12_life 29 = .ok (.iload_n 1, 1) := by decide +kernel
theorem dX12_life_30 : decode cX12_life 30 = .ok (.invokevirtual 111, 3) := by decide +kernel
theorem dX12_life_33 : decode cX12_life 33 = .ok (.iload_n 2, 1) := by decide +kernel
theorem dX12_life_34 : decode cX12_life 34 = .ok (.i2l, 1) := by decide +kernel
theorem dX12_life_35 : decode cX12_life 35 = .ok (.invokevirtual 440, 3) := by decide +kernel
theorem dX12_life_38 : decode cX12_life 38 = .ok (.invokevirtual 443, 3) := by decide +kernel
theorem dX12_life_41 : decode cX12_life 41 = .ok (.goto 9, 3) := by decide +kernel
theorem dX12_life_44 : decode cX12_life 44 = .ok (.aload_n 0, 1) := by decide +kernel
theorem dX12_life_45 : decode cX12_life 45 = .ok (.iconst 2, 1) := by decide +kernel
theorem dX12_life_46 : decode cX12_life 46 = .ok (.invokevirtual 143, 3) := by decide +kernel
theorem dX12_life_49 : decode cX12_life 49 = .ok (.i2l, 1) := by decide +kernel
theorem dX12_life_50 : decode cX12_life 50 = .ok (.lreturn, 1) := by decide +kernel
set_option maxRecDepth 20000 in
theorem ggX12_canRun_X12_gearAt : GoodIn wsX12_canRun wsX12_gearAt := goodIn_r _ [5, 6, 7, 8, 9, 10, 11, 12, 13, 14, 15, 16, 17, 18, 19, 20, 21, 22, 23, 24, 25, 26, 57, 58, 59, 60, 61, 62, 63, 64, 65, 66, 67, 68, 69, 70, 71, 72, 73, 74, 75, 76, 77, 78, 79, 80, 81, 82, 83, 84, 85, 86, 87, 88, 89, 90, 91, 92, 93] (by decide +kernel) (by decide +kernel)
set_option maxRecDepth 20000 in
theorem gX12_canRun_X12_gearAt : GoodIn wsX12_canRun (wsV RX12 111 RX12 yX12_gearAt wsX12_gearAt) := goodIn_app (goodIn_of _ (by decide +kernel)) ggX12_canRun_X12_gearAt
set_option maxRecDepth 20000 in
theorem ggX12_canRun_X10_isBroken : GoodIn wsX12_canRun wsX10_isBroken := goodIn_r _ [31, 32, 33, 34, 35, 36, 37, 38, 39, 40, 41, 42, 43, 44, 45, 46, 47, 48, 49, 50, 51, 52, 53, 54, 55, 56] (by decide +kernel) (by decide +kernel)
set_option maxRecDepth 20000 in
theorem gX12_canRun_X10_isBroken : GoodIn wsX12_canRun (wsV RX12 375 RX10 yX10_isBroken wsX10_isBroken) := goodIn_app (goodIn_of _ (by decide +kernel)) ggX12_canRun_X10_isBroken
theorem dX12_canRun_0 : decode cX12_canRun 0 = .ok (.aload_n 0, 1) := by decide +kernel
theorem dX12_canRun_1 : decode cX12_canRun 1 = .ok (.iload_n 1, 1) := by decide +kernel
theorem dX12_canRun_2 : decode cX12_canRun 2 = .ok (.invokevirtual 111, 3) := by decide +kernel
theorem dX12_canRun_5 : decode cX12_canRun 5 = .ok (.astore_n 3, 1) := by decide +kernel
theorem dX12_canRun_6 : decode cX12_canRun 6 = .ok (.aload_n 3, 1) := by decide +kernel
theorem dX12_canRun_7 : decode cX12_canRun 7 = .ok (.getfield 160, 3) := by decide +kernel
theorem dX12_canRun_10 : decode cX12_canRun 10 = .ok (.ifCond .eq 37, 3) := by decide +kernel
theorem dX12_canRun_13 : decode cX12_canRun 13 = .ok (.aload_n 3, 1) := by decide +kernel
theorem dX12_canRun_14 : decode cX12_canRun 14 = .ok (.getfield 372, 3) := by decide +kernel
theorem dX12_canRun_17 : decode cX12_canRun 17 = .ok (.ifCond .ne 30, 3) := by decide +kernel
theorem dX12_canRun_20 : decode cX12_canRun 20 = .ok (.aload_n 3, 1) := by decide +kernel
theorem dX12_canRun_21 : decode cX12_canRun 21 = .ok (.invokevirtual 375, 3) := by decide +kernel
theorem dX12_canRun_24 : decode cX12_canRun 24 = .ok (.ifCond .ne 23, 3) := by decide +kernel
theorem dX12_canRun_27 : decode cX12_canRun 27 = .ok (.aload_n 3, 1) := by decide +kernel
theorem dX12_canRun_28 : decode cX12_canRun 28 = .ok (.getfield 446, 3) := by decide +kernel
theorem dX12_canRun_31 : decode cX12_canRun 31 = .ok (.iconst (-1), 1) := by decide +kernel
theorem dX12_canRun_32 : decode cX12_canRun 32 = .ok (.if_icmp .eq 11, 3) := by decide +kernel
theorem dX12_canRun_35 : decode cX12_canRun 35 = .ok (.aload_n 3, 1) := by decide +kernel
theorem dX12_canRun_36 : decode cX12_canRun 36 = .ok (.getfield 446, 3) := by decide +kernel
theorem dX12_canRun_39 : decode cX12_canRun 39 = .ok (.iload_n 2, 1) := by decide +kernel
theorem dX12_canRun_40 : decode cX12_canRun 40 = .ok (.if_icmp .ne 7, 3) := by decide +kernel
theorem dX12_canRun_43 : decode cX12_canRun 43 = .ok (.iconst 1, 1) := by decide +kernel
theorem dX12_canRun_44 : decode cX12_canRun 44 = .ok (.goto 4, 3) := by decide +kernel
theorem dX12_canRun_47 : decode cX12_canRun 47 = .ok (.iconst 0, 1) := by decide +kernel
theorem dX12_canRun_48 : decode cX12_canRun 48 = .ok (.ireturn, 1) := by decide +kernel
set_option maxRecDepth 20000 in
theorem ggX12_run_X12_isGear : GoodIn wsX12_run wsX12_isGear := goodIn_r _ [7, 8, 9, 10, 11, 12, 13, 14, 15, 16, 6, 17, 130, 131, 132, 133, 134, 135, 136, 137, 138, 139, 140, 141, 142, 143, 144, 145, 146, 147, 148, 149, 150, 151, 152, 153, 154, 155, 156, 157, 158, 159, 160, 161, 162, 163, 164, 165, 166] (by decide +kernel) (by decide +kernel)
set_option maxRecDepth 20000 in
theorem gX12_run_X12_isGear : GoodIn wsX12_run (wsV RX12 121 RX12 yX12_isGear wsX12_isGear) := goodIn_app (goodIn_of _ (by decide +kernel)) ggX12_run_X12_isGear
set_option maxRecDepth 20000 in
theorem ggX12_run_X12_fails : GoodIn wsX12_run wsX12_fails := goodIn_r _ [21, 22, 130, 131, 132, 133, 134, 135, 136, 137, 138, 139, 140, 141, 142, 143, 144, 145, 146, 147, 148, 149, 150, 151, 152, 153, 154, 155, 156, 157, 158, 159, 160, 161, 162, 163] (by decide +kernel) (by decide +kernel)
set_option maxRecDepth 20000 in
theorem gX12_run_X12_fails : GoodIn wsX12_run (wsV RX12 143 RX12 yX12_fails wsX12_fails) := goodIn_app (goodIn_of _ (by decide +kernel)) ggX12_run_X12_fails
set_option maxRecDepth 20000 in
theorem ggX12_run_X12_in : GoodIn wsX12_run wsX12_in := goodIn_r _ [17] (by decide +kernel) (by decide +kernel)
set_option maxRecDepth 20000 in
theorem gX12_run_X12_in : GoodIn wsX12_run (va_wsS RX12 101 yX12_in wsX12_in) := goodIn_app (goodIn_of _ (by decide +kernel)) ggX12_run_X12_in
set_option maxRecDepth 20000 in
theorem ggX12_run_X12_isPair : GoodIn wsX12_run wsX12_isPair := goodIn_r _ [26, 27, 28, 29, 6, 30, 8, 31, 32, 33, 34, 12, 35, 14, 36, 37, 38, 39, 40, 41, 42, 43, 44, 45, 46, 47, 48, 107, 108, 109, 110, 111, 112, 113, 114, 115, 116, 117, 118, 119, 120, 121, 122, 123, 124, 125, 126, 127, 128, 129, 130, 131, 132, 133, 134, 135, 136, 137, 138, 139, 140, 141, 142, 143, 144, 145, 146, 147, 148, 149, 150, 151, 152, 153, 154, 155, 156, 157, 158, 159, 160, 161, 162, 163, 164, 165, 166] (by decide +kernel) (by decide +kernel)
set_option maxRecDepth 20000 in
theorem gX12_run_X12_isPair : GoodIn wsX12_run (wsV RX12 125 RX12 yX12_isPair wsX12_isPair) := goodIn_app (goodIn_of _ (by decide +kernel)) ggX12_run_X12_isPair
set_option maxRecDepth 20000 in
theorem ggX12_run_X12_canRun : GoodIn wsX12_run wsX12_canRun := goodIn_r _ [52, 27, 28, 29, 6, 30, 8, 31, 32, 33, 34, 12, 35, 14, 36, 37, 38, 39, 40, 41, 42, 43, 44, 45, 46, 47, 48, 53, 54, 55, 56, 57, 58, 59, 107, 108, 109, 110, 111, 112, 113, 114, 115, 116, 117, 118, 119, 120, 121, 122, 123, 124, 125, 126, 127, 128, 129, 130, 131, 132, 133, 134, 135, 136, 137, 138, 139, 140, 141, 142, 143, 144, 145, 146, 147, 148, 149, 150, 151, 152, 153, 154, 155, 156, 157, 158, 159, 160, 161, 162, 163, 164, 165, 166] (by decide +kernel) (by decide +kernel)
set_option maxRecDepth 20000 in
theorem gX12_run_X12_canRun : GoodIn wsX12_run (wsV RX12 449 RX12 yX12_canRun wsX12_canRun) := goodIn_app (goodIn_of _ (by decide +kernel)) ggX12_run_X12_canRun
set_option maxRecDepth 20000 in
theorem ggX12_run_X12_gearAt : GoodIn wsX12_run wsX12_gearAt := goodIn_r _ [30, 8, 31, 32, 33, 34, 12, 35, 14, 36, 37, 38, 39, 40, 41, 42, 43, 44, 45, 46, 47, 48, 130, 131, 132, 133, 134, 135, 136, 137, 138, 139, 140, 141, 142, 143, 144, 145, 146, 147, 148, 149, 150, 151, 152, 153, 154, 155, 156, 157, 158, 159, 160, 161, 162, 163, 164, 165, 166] (by decide +kernel) (by decide +kernel)
set_option maxRecDepth 20000 in
theorem gX12_run_X12_gearAt : GoodIn wsX12_run (wsV RX12 111 RX12 yX12_gearAt wsX12_gearAt) := goodIn_app (goodIn_of _ (by decide +kernel)) ggX12_run_X12_gearAt
set_option maxRecDepth 20000 in
theorem ggX12_run_X10_runs : GoodIn wsX12_run wsX10_runs := goodIn_ca (goodIn_r _ [63, 58, 59, 64, 65, 66, 56, 67, 68, 69, 70, 71, 72, 73, 74, 75, 76, 77, 78, 79, 80, 81, 82, 83, 84, 85, 86, 87, 88, 6, 89, 90, 91, 92, 93, 94, 95, 96, 97, 98, 99, 100, 101, 102, 107, 108, 109, 110, 111, 112, 113, 114, 115, 116, 117, 118, 119, 120, 121, 122, 123, 124, 125, 126, 127, 128, 129] (by decide +kernel) (by decide +kernel)) (goodIn_sub (fun _ h => List.mem_cons_of_mem _ (List.mem_append_right _ h)) (by decide +kernel))
set_option maxRecDepth 20000 in
theorem gX12_run_X10_runs : GoodIn wsX12_run (wsV RX12 452 RX10 yX10_runs wsX10_runs) := goodIn_app (goodIn_of _ (by decide +kernel)) ggX12_run_X10_runs
set_option maxRecDepth 20000 in
theorem ggX12_run_X10_isBroken : GoodIn wsX12_run wsX10_isBroken := goodIn_r _ [57, 58, 59, 107, 108, 109, 110, 111, 112, 113, 114, 115, 116, 117, 118, 119, 120, 121, 122, 123, 124, 125, 126, 127, 128, 129] (by decide +kernel) (by decide +kernel)
set_option maxRecDepth 20000 in
theorem gX12_run_X10_isBroken : GoodIn wsX12_run (wsV RX12 375 RX10 yX10_isBroken wsX10_isBroken) := goodIn_app (goodIn_of _ (by decide +kernel)) ggX12_run_X10_isBroken
set_option maxRecDepth 20000 in
theorem ggX12_run_X12_answer : GoodIn wsX12_run wsX12_answer := goodIn_r _ [106, 22, 130, 131, 132, 133, 134, 135, 136, 137, 138, 139, 140, 141, 142, 143, 144, 145, 146, 147, 148, 149, 150, 151, 152, 153, 154, 155, 156, 157, 158, 159, 160, 161, 162, 163] (by decide +kernel) (by decide +kernel)
set_option maxRecDepth 20000 in
theorem gX12_run_X12_answer : GoodIn wsX12_run (wsV RX12 153 RX12 yX12_answer wsX12_answer) := goodIn_app (goodIn_of _ (by decide +kernel)) ggX12_run_X12_answer
theorem dX12_run_0 : decode cX12_run 0 = .ok (.aload_n 0, 1) := by decide +kernel
theorem dX12_run_1 : decode cX12_run 1 = .ok (.iload_n 1, 1) := by decide +kernel
theorem dX12_run_2 : decode cX12_run 2 = .ok (.invokevirtual 121, 3) := by decide +kernel
theorem dX12_run_5 : decode cX12_run 5 = .ok (.ifCond .eq 11, 3) := by decide +kernel
theorem dX12_run_8 : decode cX12_run 8 = .ok (.aload_n 0, 1) := by decide +kernel
theorem dX12_run_9 : decode cX12_run 9 = .ok (.iload_n 2, 1) := by decide +kernel
theorem dX12_run_10 : decode cX12_run 10 = .ok (.invokevirtual 121, 3) := by decide +kernel
theorem dX12_run_13 : decode cX12_run 13 = .ok (.ifCond .ne 9, 3) := by decide +kernel
theorem dX12_run_16 : decode cX12_run 16 = .ok (.aload_n 0, 1) := by decide +kernel
theorem dX12_run_17 : decode cX12_run 17 = .ok (.iconst 1, 1) := by decide +kernel
theorem dX12_run_18 : decode cX12_run 18 = .ok (.invokevirtual 143, 3) := by decide +kernel
theorem dX12_run_21 : decode cX12_run 21 = .ok (.ireturn, 1) := by decide +kernel
theorem dX12_run_22 : decode cX12_run 22 = .ok (.iload_n 3, 1) := by decide +kernel
theorem dX12_run_23 : decode cX12_run 23 = .ok (.i2l, 1) := by decide +kernel
theorem dX12_run_24 : decode cX12_run 24 = .ok (.lconst 1, 1) := by decide +kernel
theorem dX12_run_25 : decode cX12_run 25 = .ok (.ldc2_w 141, 3) := by decide +kernel
theorem dX12_run_28 : decode cX12_run 28 = .ok (.invokestatic 101, 3) := by decide +kernel
theorem dX12_run_31 : decode cX12_run 31 = .ok (.ifCond .eq 16, 3) := by decide +kernel
theorem dX12_run_34 : decode cX12_run 34 = .ok (.iload 4, 2) := by decide +kernel
theorem dX12_run_36 : decode cX12_run 36 = .ok (.i2l, 1) := by decide +kernel
theorem dX12_run_37 : decode cX12_run 37 = .ok (.lconst 1, 1) := by decide +kernel
theorem dX12_run_38 : decode cX12_run 38 = .ok (.ldc2_w 306, 3) := by decide +kernel
theorem dX12_run_41 : decode cX12_run 41 = .ok (.invokestatic 101, 3) := by decide +kernel
theorem dX12_run_44 : decode cX12_run 44 = .ok (.ifCond .ne 9, 3) := by decide +kernel
theorem dX12_run_47 : decode cX12_run 47 = .ok (.aload_n 0, 1) := by decide +kernel
theorem dX12_run_48 : decode cX12_run 48 = .ok (.iconst 2, 1) := by decide +kernel
theorem dX12_run_49 : decode cX12_run 49 = .ok (.invokevirtual 143, 3) := by decide +kernel
theorem dX12_run_52 : decode cX12_run 52 = .ok (.ireturn, 1) := by decide +kernel
theorem dX12_run_53 : decode cX12_run 53 = .ok (.aload_n 0, 1) := by decide +kernel
theorem dX12_run_54 : decode cX12_run 54 = .ok (.iload_n 1, 1) := by decide +kernel
theorem dX12_run_55 : decode cX12_run 55 = .ok (.iload_n 2, 1) := by decide +kernel
theorem dX12_run_56 : decode cX12_run 56 = .ok (.invokevirtual 125, 3) := by decide +kernel
theorem dX12_run_59 : decode cX12_run 59 = .ok (.ifCond .eq 21, 3) := by decide +kernel
theorem dX12_run_62 : decode cX12_run 62 = .ok (.aload_n 0, 1) := by decide +kernel
theorem dX12_run_63 : decode cX12_run 63 = .ok (.iload_n 1, 1) := by decide +kernel
theorem dX12_run_64 : decode cX12_run 64 = .ok (.iload_n 2, 1) := by decide +kernel
theorem dX12_run_65 : decode cX12_run 65 = .ok (.invokevirtual 449, 3) := by decide +kernel
theorem dX12_run_68 : decode cX12_run 68 = .ok (.ifCond .eq 12, 3) := by decide +kernel
theorem dX12_run_71 : decode cX12_run 71 = .ok (.aload_n 0, 1) := by decide +kernel
theorem dX12_run_72 : decode cX12_run 72 = .ok (.iload_n 2, 1) := by decide +kernel
theorem dX12_run_73 : decode cX12_run 73 = .ok (.iload_n 1, 1) := by decide +kernel
theorem dX12_run_74 : decode cX12_run 74 = .ok (.invokevirtual 449, 3) := by decide +kernel
theorem dX12_run_77 : decode cX12_run 77 = .ok (.ifCond .ne 9, 3) := by decide +kernel
theorem dX12_run_80 : decode cX12_run 80 = .ok (.aload_n 0, 1) := by decide +kernel
theorem dX12_run_81 : decode cX12_run 81 = .ok (.iconst 3, 1) := by decide +kernel
theorem dX12_run_82 : decode cX12_run 82 = .ok (.invokevirtual 143, 3) := by decide +kernel
theorem dX12_run_85 : decode cX12_run 85 = .ok (.ireturn, 1) := by decide +kernel
theorem dX12_run_86 : decode cX12_run 86 = .ok (.aload_n 0, 1) := by decide +kernel
theorem dX12_run_87 : decode cX12_run 87 = .ok (.iload_n 1, 1) := by decide +kernel
theorem dX12_run_88 : decode cX12_run 88 = .ok (.invokevirtual 111, 3) := by decide +kernel
theorem dX12_run_91 : decode cX12_run 91 = .ok (.astore 5, 2) := by decide +kernel
theorem dX12_run_93 : decode cX12_run 93 = .ok (.aload_n 0, 1) := by decide +kernel
theorem dX12_run_94 : decode cX12_run 94 = .ok (.iload_n 2, 1) := by decide +kernel
theorem dX12_run_95 : decode cX12_run 95 = .ok (.invokevirtual 111, 3) := by decide +kernel
theorem dX12_run_98 : decode cX12_run 98 = .ok (.astore 6, 2) := by decide +kernel
theorem dX12_run_100 : decode cX12_run 100 = .ok (.aload 5, 2) := by decide +kernel
theorem dX12_run_102 : decode cX12_run 102 = .ok (.iload_n 3, 1) := by decide +kernel
theorem dX12_run_103 : decode cX12_run 103 = .ok (.i2l, 1) := by decide +kernel
theorem dX12_run_104 : decode cX12_run 104 = .ok (.iload 4, 2) := by decide +kernel
theorem dX12_run_106 : decode cX12_run 106 = .ok (.i2l, 1) := by decide +kernel
theorem dX12_run_107 : decode cX12_run 107 = .ok (.invokevirtual 452, 3) := by decide +kernel
theorem dX12_run_110 : decode cX12_run 110 = .ok (.aload 6, 2) := by decide +kernel
theorem dX12_run_112 : decode cX12_run 112 = .ok (.iload_n 3, 1) := by decide +kernel
theorem dX12_run_113 : decode cX12_run 113 = .ok (.i2l, 1) := by decide +kernel
theorem dX12_run_114 : decode cX12_run 114 = .ok (.aload 6, 2) := by decide +kernel
theorem dX12_run_116 : decode cX12_run 116 = .ok (.getfield 332, 3) := by decide +kernel
theorem dX12_run_119 : decode cX12_run 119 = .ok (.i2l, 1) := by decide +kernel
theorem dX12_run_120 : decode cX12_run 120 = .ok (.lmul, 1) := by decide +kernel
theorem dX12_run_121 : decode cX12_run 121 = .ok (.aload 5, 2) := by decide +kernel
theorem dX12_run_123 : decode cX12_run 123 = .ok (.getfield 332, 3) := by decide +kernel
theorem dX12_run_126 : decode cX12_run 126 = .ok (.i2l, 1) := by decide +kernel
theorem dX12_run_127 : decode cX12_run 127 = .ok (.ldiv, 1) := by decide +kernel
theorem dX12_run_128 : decode cX12_run 128 = .ok (.iload 4, 2) := by decide +kernel
theorem dX12_run_130 : decode cX12_run 130 = .ok (.i2l, 1) := by decide +kernel
theorem dX12_run_131 : decode cX12_run 131 = .ok (.aload 5, 2) := by decide +kernel
theorem dX12_run_133 : decode cX12_run 133 = .ok (.getfield 332, 3) := by decide +kernel
theorem dX12_run_136 : decode cX12_run 136 = .ok (.i2l, 1) := by decide +kernel
theorem dX12_run_137 : decode cX12_run 137 = .ok (.lmul, 1) := by decide +kernel
theorem dX12_run_138 : decode cX12_run 138 = .ok (.aload 6, 2) := by decide +kernel
theorem dX12_run_140 : decode cX12_run 140 = .ok (.getfield 332, 3) := by decide +kernel
theorem dX12_run_143 : decode cX12_run 143 = .ok (.i2l, 1) := by decide +kernel
theorem dX12_run_144 : decode cX12_run 144 = .ok (.ldiv, 1) := by decide +kernel
theorem dX12_run_145 : decode cX12_run 145 = .ok (.invokevirtual 452, 3) := by decide +kernel
theorem dX12_run_148 : decode cX12_run 148 = .ok (.aload_n 0, 1) := by decide +kernel
theorem dX12_run_149 : decode cX12_run 149 = .ok (.aload 5, 2) := by decide +kernel
theorem dX12_run_151 : decode cX12_run 151 = .ok (.invokevirtual 375, 3) := by decide +kernel
theorem dX12_run_154 : decode cX12_run 154 = .ok (.ifCond .eq 7, 3) := by decide +kernel
theorem dX12_run_157 : decode cX12_run 157 = .ok (.iconst 1, 1) := by decide +kernel
theorem dX12_run_158 : decode cX12_run 158 = .ok (.goto 4, 3) := by decide +kernel
theorem dX12_run_161 : decode cX12_run 161 = .ok (.iconst 0, 1) := by decide +kernel
theorem dX12_run_162 : decode cX12_run 162 = .ok (.aload 6, 2) := by decide +kernel
theorem dX12_run_164 : decode cX12_run 164 = .ok (.invokevirtual 375, 3) := by decide +kernel
theorem dX12_run_167 : decode cX12_run 167 = .ok (.ifCond .eq 7, 3) := by decide +kernel
theorem dX12_run_170 : decode cX12_run 170 = .ok (.iconst 1, 1) := by decide +kernel
theorem dX12_run_171 : decode cX12_run 171 = .ok (.goto 4, 3) := by decide +kernel
theorem dX12_run_174 : decode cX12_run 174 = .ok (.iconst 0, 1) := by decide +kernel
theorem dX12_run_175 : decode cX12_run 175 = .ok (.iadd, 1) := by decide +kernel
theorem dX12_run_176 : decode cX12_run 176 = .ok (.invokevirtual 153, 3) := by decide +kernel
theorem dX12_run_179 : decode cX12_run 179 = .ok (.ireturn, 1) := by decide +kernel
set_option maxRecDepth 20000 in
theorem ggX12_damage_X12_isGear : GoodIn wsX12_damage wsX12_isGear := goodIn_r _ [6, 7, 8, 9, 10, 11, 12, 13, 14, 15, 5, 16, 39, 40, 41, 42, 43, 44, 45, 46, 47, 48, 49, 50, 51, 52, 53, 54, 55, 56, 57, 58, 59, 60, 61, 62, 63, 64, 65, 66, 67, 68, 69, 70, 71, 72, 96, 97, 98] (by decide +kernel) (by decide +kernel)
set_option maxRecDepth 20000 in
theorem gX12_damage_X12_isGear : GoodIn wsX12_damage (wsV RX12 121 RX12 yX12_isGear wsX12_isGear) := goodIn_app (goodIn_of _ (by decide +kernel)) ggX12_damage_X12_isGear
set_option maxRecDepth 20000 in
theorem ggX12_damage_X12_gearAt : GoodIn wsX12_damage wsX12_gearAt := goodIn_r _ [20, 7, 21, 22, 23, 24, 11, 25, 13, 26, 27, 28, 29, 30, 31, 32, 33, 34, 35, 36, 37, 38, 39, 40, 41, 42, 43, 44, 45, 46, 47, 48, 49, 50, 51, 52, 53, 54, 55, 56, 57, 58, 59, 60, 61, 62, 63, 64, 65, 66, 67, 68, 69, 70, 71, 72, 96, 97, 98] (by decide +kernel) (by decide +kernel)
set_option maxRecDepth 20000 in
theorem gX12_damage_X12_gearAt : GoodIn wsX12_damage (wsV RX12 111 RX12 yX12_gearAt wsX12_gearAt) := goodIn_app (goodIn_of _ (by decide +kernel)) ggX12_damage_X12_gearAt
theorem dX12_damage_0 : decode cX12_damage 0 = .ok (.aload_n 0, 1) := by decide +kernel
theorem dX12_damage_1 : decode cX12_damage 1 = .ok (.aload_n 0, 1) := by decide +kernel
theorem dX12_damage_2 : decode cX12_damage 2 = .ok (.iload_n 1, 1) := by decide +kernel
theorem dX12_damage_3 : decode cX12_damage 3 = .ok (.invokevirtual 121, 3) := by decide +kernel
theorem dX12_damage_6 : decode cX12_damage 6 = .ok (.ifCond .eq 7, 3) := by decide +kernel
theorem dX12_damage_9 : decode cX12_damage 9 = .ok (.iconst 0, 1) := by decide +kernel
theorem dX12_damage_10 : decode cX12_damage 10 = .ok (.goto 4, 3) := by decide +kernel
theorem dX12_damage_13 : decode cX12_damage 13 = .ok (.iconst 1, 1) := by decide +kernel
theorem dX12_damage_14 : decode cX12_damage 14 = .ok (.putfield 94, 3) := by decide +kernel
theorem dX12_damage_17 : decode cX12_damage 17 = .ok (.aload_n 0, 1) := by decide +kernel
theorem dX12_damage_18 : decode cX12_damage 18 = .ok (.getfield 94, 3) := by decide +kernel
theorem dX12_damage_21 : decode cX12_damage 21 = .ok (.ifCond .ne 14, 3) := by decide +kernel
theorem dX12_damage_24 : decode cX12_damage 24 = .ok (.aload_n 0, 1) := by decide +kernel
theorem dX12_damage_25 : decode cX12_damage 25 = .ok (.iload_n 1, 1) := by decide +kernel
theorem dX12_damage_26 : decode cX12_damage 26 = .ok (.invokevirtual 111, 3) := by decide +kernel
theorem dX12_damage_29 : decode cX12_damage 29 = .ok (.getfield 455, 3) := by decide +kernel
theorem dX12_damage_32 : decode cX12_damage 32 = .ok (.goto 4, 3) := by decide +kernel
theorem dX12_damage_35 : decode cX12_damage 35 = .ok (.lconst 0, 1) := by decide +kernel
theorem dX12_damage_36 : decode cX12_damage 36 = .ok (.lreturn, 1) := by decide +kernel
set_option maxRecDepth 20000 in
theorem ggX12_lists_Jx4a65c_size_8abf5 : GoodIn wsX12_lists wsJx4a65c_size_8abf5 := goodIn_r _ [6, 7, 102, 103, 104] (by decide +kernel) (by decide +kernel)
set_option maxRecDepth 20000 in
theorem gX12_lists_Jx4a65c_size_8abf5 : GoodIn wsX12_lists (wsV RX12 97 RJx4a65c yJx4a65c_size_8abf5 wsJx4a65c_size_8abf5) := goodIn_app (goodIn_of _ (by decide +kernel)) ggX12_lists_Jx4a65c_size_8abf5
set_option maxRecDepth 20000 in
theorem ggX12_lists_X12_gearAt : GoodIn wsX12_lists wsX12_gearAt := goodIn_r _ [12, 1, 13, 14, 15, 16, 5, 17, 7, 18, 19, 20, 21, 22, 23, 24, 25, 26, 27, 28, 29, 30, 45, 46, 47, 48, 49, 50, 51, 52, 53, 54, 55, 56, 57, 58, 59, 60, 61, 62, 63, 64, 65, 66, 67, 68, 69, 70, 71, 72, 73, 74, 75, 76, 77, 78, 102, 103, 104] (by decide +kernel) (by decide +kernel)
set_option maxRecDepth 20000 in
theorem gX12_lists_X12_gearAt : GoodIn wsX12_lists (wsV RX12 111 RX12 yX12_gearAt wsX12_gearAt) := goodIn_app (goodIn_of _ (by decide +kernel)) ggX12_lists_X12_gearAt
set_option maxRecDepth 20000 in
theorem ggX12_lists_X10_isFree : GoodIn wsX12_lists wsX10_isFree := goodIn_r _ [35, 36, 37, 38, 39, 40, 41, 34, 42, 43, 44, 79, 80, 81, 82, 83, 84, 85, 86, 87, 88, 89, 90, 91, 92, 93, 94, 95, 96, 97, 98, 99, 100, 101] (by decide +kernel) (by decide +kernel)
set_option maxRecDepth 20000 in
theorem gX12_lists_X10_isFree : GoodIn wsX12_lists (wsV RX12 458 RX10 yX10_isFree wsX10_isFree) := goodIn_app (goodIn_of _ (by decide +kernel)) ggX12_lists_X10_isFree
theorem dX12_lists_0 : decode cX12_lists 0 = .ok (.iconst 0, 1) := by decide +kernel
theorem dX12_lists_1 : decode cX12_lists 1 = .ok (.istore_n 3, 1) := by decide +kernel
theorem dX12_lists_2 : decode cX12_lists 2 = .ok (.iconst 0, 1) := by decide +kernel
theorem dX12_lists_3 : decode cX12_lists 3 = .ok (.istore 4, 2) := by decide +kernel
theorem dX12_lists_5 : decode cX12_lists 5 = .ok (.iload 4, 2) := by decide +kernel
theorem dX12_lists_7 : decode cX12_lists 7 = .ok (.aload_n 0, 1) := by decide +kernel
theorem dX12_lists_8 : decode cX12_lists 8 = .ok (.getfield 24, 3) := by decide +kernel
theorem dX12_lists_11 : decode cX12_lists 11 = .ok (.invokevirtual 97, 3) := by decide +kernel
theorem dX12_lists_14 : decode cX12_lists 14 = .ok (.if_icmp .ge 50, 3) := by decide +kernel
theorem dX12_lists_17 : decode cX12_lists 17 = .ok (.iload_n 3, 1) := by decide +kernel
theorem dX12_lists_18 : decode cX12_lists 18 = .ok (.iconst 5, 1) := by decide +kernel
theorem dX12_lists_19 : decode cX12_lists 19 = .ok (.if_icmp .ge 45, 3) := by decide +kernel
theorem dX12_lists_22 : decode cX12_lists 22 = .ok (.aload_n 0, 1) := by decide +kernel
theorem dX12_lists_23 : decode cX12_lists 23 = .ok (.iload 4, 2) := by decide +kernel
theorem dX12_lists_25 : decode cX12_lists 25 = .ok (.invokevirtual 111, 3) := by decide +kernel
theorem dX12_lists_28 : decode cX12_lists 28 = .ok (.invokevirtual 458, 3) := by decide +kernel
theorem dX12_lists_31 : decode cX12_lists 31 = .ok (.ifCond .eq 27, 3) := by decide +kernel
theorem dX12_lists_34 : decode cX12_lists 34 = .ok (.aload_n 0, 1) := by decide +kernel
theorem dX12_lists_35 : decode cX12_lists 35 = .ok (.iload 4, 2) := by decide +kernel
theorem dX12_lists_37 : decode cX12_lists 37 = .ok (.invokevirtual 111, 3) := by decide +kernel
theorem dX12_lists_40 : decode cX12_lists 40 = .ok (.getfield 332, 3) := by decide +kernel
theorem dX12_lists_43 : decode cX12_lists 43 = .ok (.iload_n 1, 1) := by decide +kernel
theorem dX12_lists_44 : decode cX12_lists 44 = .ok (.if_icmp .eq 6, 3) := by decide +kernel
theorem dX12_lists_47 : decode cX12_lists 47 = .ok (.goto 11, 3) := by decide +kernel
theorem dX12_lists_50 : decode cX12_lists 50 = .ok (.aload_n 2, 1) := by decide +kernel
theorem dX12_lists_51 : decode cX12_lists 51 = .ok (.iload_n 3, 1) := by decide +kernel
theorem dX12_lists_52 : decode cX12_lists 52 = .ok (.iload 4, 2) := by decide +kernel
theorem dX12_lists_54 : decode cX12_lists 54 = .ok (.iastore, 1) := by decide +kernel
theorem dX12_lists_55 : decode cX12_lists 55 = .ok (.iinc 3 1, 3) := by decide +kernel
theorem dX12_lists_58 : decode cX12_lists 58 = .ok (.iinc 4 1, 3) := by decide +kernel
theorem dX12_lists_61 : decode cX12_lists 61 = .ok (.goto (-56), 3) := by decide +kernel
theorem dX12_lists_64 : decode cX12_lists 64 = .ok (.iload_n 3, 1) := by decide +kernel
theorem dX12_lists_65 : decode cX12_lists 65 = .ok (.ireturn, 1) := by decide +kernel
set_option maxRecDepth 20000 in
theorem ggX12_matches_X12_isPair : GoodIn wsX12_matches wsX12_isPair := goodIn_r _ [16, 17, 18, 19, 15, 20, 21, 22, 23, 24, 25, 26, 27, 28, 29, 30, 31, 32, 33, 34, 35, 36, 37, 38, 39, 40, 41, 79, 80, 81, 82, 83, 84, 85, 86, 87, 88, 89, 90, 91, 92, 93, 94, 95, 96, 97, 98, 99, 100, 101, 45, 46, 47, 48, 49, 50, 51, 52, 53, 54, 55, 56, 57, 58, 59, 60, 61, 62, 63, 64, 65, 66, 67, 68, 69, 70, 71, 72, 73, 74, 75, 76, 77, 78, 102, 103, 104] (by decide +kernel) (by decide +kernel)
set_option maxRecDepth 20000 in
theorem gX12_matches_X12_isPair : GoodIn wsX12_matches (wsV RX12 125 RX12 yX12_isPair wsX12_isPair) := goodIn_app (goodIn_of _ (by decide +kernel)) ggX12_matches_X12_isPair
set_option maxRecDepth 20000 in
theorem ggX12_matches_X12_matches : GoodIn wsX12_matches wsX12_matches := goodIn_ca (goodIn_r _ [0, 1, 2, 3, 4, 5, 6, 7, 8, 9, 10, 11, 12, 13, 14, 15, 16, 17, 18, 19, 20, 21, 22, 23, 24, 25, 26, 27, 28, 29, 30, 31, 32, 33, 34, 35, 36, 37, 38, 39, 40, 41, 42, 43, 44, 45, 46, 47, 48, 49, 50, 51, 52, 53, 54, 55, 56, 57, 58, 59, 60, 61, 62, 63, 64, 65, 66, 67, 68, 69, 70, 71, 72, 73, 74, 75, 76, 77, 78, 79, 80, 81, 82, 83, 84, 85, 86, 87, 88, 89, 90, 91, 92, 93, 94, 95, 96, 97, 98, 99, 100, 101, 102, 103, 104] (by decide +kernel) (by decide +kernel)) (goodIn_sub (fun _ h => List.mem_cons_of_mem _ (List.mem_append_right _ h)) (by decide +kernel))
set_option maxRecDepth 20000 in
theorem gX12_matches_X12_matches : GoodIn wsX12_matches (wsV RX12 473 RX12 yX12_matches wsX12_matches) := goodIn_app (goodIn_of _ (by decide +kernel)) ggX12_matches_X12_matches
theorem dX12_matches_0 : decode cX12_matches 0 = .ok (.iload_n 3, 1) := by decide +kernel
theorem dX12_matches_1 : decode cX12_matches 1 = .ok (.aload_n 0, 1) := by decide +kernel
theorem dX12_matches_2 : decode cX12_matches 2 = .ok (.getfield 461, 3) := by decide +kernel
theorem dX12_matches_5 : decode cX12_matches 5 = .ok (.if_icmp .ne 76, 3) := by decide +kernel
theorem dX12_matches_8 : decode cX12_matches 8 = .ok (.aload_n 0, 1) := by decide +kernel
theorem dX12_matches_9 : decode cX12_matches 9 = .ok (.getfield 464, 3) := by decide +kernel
theorem dX12_matches_12 : decode cX12_matches 12 = .ok (.lconst 0, 1) := by decide +kernel
theorem dX12_matches_13 : decode cX12_matches 13 = .ok (.lcmp, 1) := by decide +kernel
theorem dX12_matches_14 : decode cX12_matches 14 = .ok (.ifCond .lt 14, 3) := by decide +kernel
theorem dX12_matches_17 : decode cX12_matches 17 = .ok (.lload 4, 2) := by decide +kernel
theorem dX12_matches_19 : decode cX12_matches 19 = .ok (.aload_n 0, 1) := by decide +kernel
theorem dX12_matches_20 : decode cX12_matches 20 = .ok (.getfield 464, 3) := by decide +kernel
theorem dX12_matches_23 : decode cX12_matches 23 = .ok (.lcmp, 1) := by decide +kernel
theorem dX12_matches_24 : decode cX12_matches 24 = .ok (.ifCond .lt 4, 3) := by decide +kernel
theorem dX12_matches_27 : decode cX12_matches 27 = .ok (.return_, 1) := by decide +kernel
theorem dX12_matches_28 : decode cX12_matches 28 = .ok (.aload_n 0, 1) := by decide +kernel
theorem dX12_matches_29 : decode cX12_matches 29 = .ok (.lload 4, 2) := by decide +kernel
theorem dX12_matches_31 : decode cX12_matches 31 = .ok (.putfield 464, 3) := by decide +kernel
theorem dX12_matches_34 : decode cX12_matches 34 = .ok (.iconst 0, 1) := by decide +kernel
theorem dX12_matches_35 : decode cX12_matches 35 = .ok (.istore 6, 2) := by decide +kernel
theorem dX12_matches_37 : decode cX12_matches 37 = .ok (.iload 6, 2) := by decide +kernel
theorem dX12_matches_39 : decode cX12_matches 39 = .ok (.aload_n 0, 1) := by decide +kernel
theorem dX12_matches_40 : decode cX12_matches 40 = .ok (.getfield 461, 3) := by decide +kernel
theorem dX12_matches_43 : decode cX12_matches 43 = .ok (.if_icmp .ge 37, 3) := by decide +kernel
theorem dX12_matches_46 : decode cX12_matches 46 = .ok (.aload_n 0, 1) := by decide +kernel
theorem dX12_matches_47 : decode cX12_matches 47 = .ok (.getfield 60, 3) := by decide +kernel
theorem dX12_matches_50 : decode cX12_matches 50 = .ok (.iload 6, 2) := by decide +kernel
theorem dX12_matches_52 : decode cX12_matches 52 = .ok (.aload_n 0, 1) := by decide +kernel
theorem dX12_matches_53 : decode cX12_matches 53 = .ok (.getfield 54, 3) := by decide +kernel
theorem dX12_matches_56 : decode cX12_matches 56 = .ok (.iload 6, 2) := by decide +kernel
theorem dX12_matches_58 : decode cX12_matches 58 = .ok (.iaload, 1) := by decide +kernel
theorem dX12_matches_59 : decode cX12_matches 59 = .ok (.iastore, 1) := by decide +kernel
theorem dX12_matches_60 : decode cX12_matches 60 = .ok (.aload_n 0, 1) := by decide +kernel
theorem dX12_matches_61 : decode cX12_matches 61 = .ok (.getfield 63, 3) := by decide +kernel
theorem dX12_matches_64 : decode cX12_matches 64 = .ok (.iload 6, 2) := by decide +kernel
theorem dX12_matches_66 : decode cX12_matches 66 = .ok (.aload_n 0, 1) := by decide +kernel
theorem dX12_matches_67 : decode cX12_matches 67 = .ok (.getfield 57, 3) := by decide +kernel
theorem dX12_matches_70 : decode cX12_matches 70 = .ok (.iload 6, 2) := by decide +kernel
theorem dX12_matches_72 : decode cX12_matches 72 = .ok (.iaload, 1) := by decide +kernel
theorem dX12_matches_73 : decode cX12_matches 73 = .ok (.iastore, 1) := by decide +kernel
theorem dX12_matches_74 : decode cX12_matches 74 = .ok (.iinc 6 1, 3) := by decide +kernel
theorem dX12_matches_77 : decode cX12_matches 77 = .ok (.goto (-40), 3) := by decide +kernel
theorem dX12_matches_80 : decode cX12_matches 80 = .ok (.return_, 1) := by decide +kernel
theorem dX12_matches_81 : decode cX12_matches 81 = .ok (.iload_n 1, 1) := by decide +kernel
theorem dX12_matches_82 : decode cX12_matches 82 = .ok (.istore 6, 2) := by decide +kernel
theorem dX12_matches_84 : decode cX12_matches 84 = .ok (.iload 6, 2) := by decide +kernel
theorem dX12_matches_86 : decode cX12_matches 86 = .ok (.aload_n 0, 1) := by decide +kernel
theorem dX12_matches_87 : decode cX12_matches 87 = .ok (.getfield 467, 3) := by decide +kernel
theorem dX12_matches_90 : decode cX12_matches 90 = .ok (.if_icmp .ge 120, 3) := by decide +kernel
theorem dX12_matches_93 : decode cX12_matches 93 = .ok (.iconst 0, 1) := by decide +kernel
theorem dX12_matches_94 : decode cX12_matches 94 = .ok (.istore 7, 2) := by decide +kernel
theorem dX12_matches_96 : decode cX12_matches 96 = .ok (.iload 7, 2) := by decide +kernel
theorem dX12_matches_98 : decode cX12_matches 98 = .ok (.aload_n 0, 1) := by decide +kernel
theorem dX12_matches_99 : decode cX12_matches 99 = .ok (.getfield 470, 3) := by decide +kernel
theorem dX12_matches_102 : decode cX12_matches 102 = .ok (.if_icmp .ge 102, 3) := by decide +kernel
theorem dX12_matches_105 : decode cX12_matches 105 = .ok (.iload_n 2, 1) := by decide +kernel
theorem dX12_matches_106 : decode cX12_matches 106 = .ok (.iload 7, 2) := by decide +kernel
theorem dX12_matches_108 : decode cX12_matches 108 = .ok (.ishr, 1) := by decide +kernel
theorem dX12_matches_109 : decode cX12_matches 109 = .ok (.iconst 1, 1) := by decide +kernel
theorem dX12_matches_110 : decode cX12_matches 110 = .ok (.iand, 1) := by decide +kernel
theorem dX12_matches_111 : decode cX12_matches 111 = .ok (.iconst 1, 1) := by decide +kernel
theorem dX12_matches_112 : decode cX12_matches 112 = .ok (.if_icmp .eq 86, 3) := by decide +kernel
theorem dX12_matches_115 : decode cX12_matches 115 = .ok (.aload_n 0, 1) := by decide +kernel
theorem dX12_matches_116 : decode cX12_matches 116 = .ok (.aload_n 0, 1) := by decide +kernel
theorem dX12_matches_117 : decode cX12_matches 117 = .ok (.getfield 66, 3) := by decide +kernel
theorem dX12_matches_120 : decode cX12_matches 120 = .ok (.iload 6, 2) := by decide +kernel
theorem dX12_matches_122 : decode cX12_matches 122 = .ok (.iaload, 1) := by decide +kernel
theorem dX12_matches_123 : decode cX12_matches 123 = .ok (.aload_n 0, 1) := by decide +kernel
theorem dX12_matches_124 : decode cX12_matches 124 = .ok (.getfield 69, 3) := by decide +kernel
theorem dX12_matches_127 : decode cX12_matches 127 = .ok (.iload 7, 2) := by decide +kernel
theorem dX12_matches_129 : decode cX12_matches 129 = .ok (.iaload, 1) := by decide +kernel
theorem dX12_matches_130 : decode cX12_matches 130 = .ok (.invokevirtual 125, 3) := by decide +kernel
theorem dX12_matches_133 : decode cX12_matches 133 = .ok (.ifCond .ne 6, 3) := by decide +kernel
theorem dX12_matches_136 : decode cX12_matches 136 = .ok (.goto 62, 3) := by decide +kernel
theorem dX12_matches_139 : decode cX12_matches 139 = .ok (.aload_n 0, 1) := by decide +kernel
theorem dX12_matches_140 : decode cX12_matches 140 = .ok (.getfield 54, 3) := by decide +kernel
theorem dX12_matches_143 : decode cX12_matches 143 = .ok (.iload_n 3, 1) := by decide +kernel
theorem dX12_matches_144 : decode cX12_matches 144 = .ok (.aload_n 0, 1) := by decide +kernel
theorem dX12_matches_145 : decode cX12_matches 145 = .ok (.getfield 66, 3) := by decide +kernel
theorem dX12_matches_148 : decode cX12_matches 148 = .ok (.iload 6, 2) := by decide +kernel
theorem dX12_matches_150 : decode cX12_matches 150 = .ok (.iaload, 1) := by decide +kernel
theorem dX12_matches_151 : decode cX12_matches 151 = .ok (.iastore, 1) := by decide +kernel
theorem dX12_matches_152 : decode cX12_matches 152 = .ok (.aload_n 0, 1) := by decide +kernel
theorem dX12_matches_153 : decode cX12_matches 153 = .ok (.getfield 57, 3) := by decide +kernel
theorem dX12_matches_156 : decode cX12_matches 156 = .ok (.iload_n 3, 1) := by decide +kernel
theorem dX12_matches_157 : decode cX12_matches 157 = .ok (.aload_n 0, 1) := by decide +kernel
theorem dX12_matches_158 : decode cX12_matches 158 = .ok (.getfield 69, 3) := by decide +kernel
theorem dX12_matches_161 : decode cX12_matches 161 = .ok (.iload 7, 2) := by decide +kernel
theorem dX12_matches_163 : decode cX12_matches 163 = .ok (.iaload, 1) := by decide +kernel
theorem dX12_matches_164 : decode cX12_matches 164 = .ok (.iastore, 1) := by decide +kernel
theorem dX12_matches_165 : decode cX12_matches 165 = .ok (.aload_n 0, 1) := by decide +kernel
theorem dX12_matches_166 : decode cX12_matches 166 = .ok (.iload 6, 2) := by decide +kernel
theorem dX12_matches_168 : decode cX12_matches 168 = .ok (.iconst 1, 1) := by decide +kernel
theorem dX12_matches_169 : decode cX12_matches 169 = .ok (.iadd, 1) := by decide +kernel
theorem dX12_matches_170 : decode cX12_matches 170 = .ok (.iload_n 2, 1) := by decide +kernel
theorem dX12_matches_171 : decode cX12_matches 171 = .ok (.iconst 1, 1) := by decide +kernel
theorem dX12_matches_172 : decode cX12_matches 172 = .ok (.iload 7, 2) := by decide +kernel
theorem dX12_matches_174 : decode cX12_matches 174 = .ok (.ishl, 1) := by decide +kernel
theorem dX12_matches_175 : decode cX12_matches 175 = .ok (.ior, 1) := by decide +kernel
theorem dX12_matches_176 : decode cX12_matches 176 = .ok (.iload_n 3, 1) := by decide +kernel
theorem dX12_matches_177 : decode cX12_matches 177 = .ok (.iconst 1, 1) := by decide +kernel
theorem dX12_matches_178 : decode cX12_matches 178 = .ok (.iadd, 1) := by decide +kernel
theorem dX12_matches_179 : decode cX12_matches 179 = .ok (.lload 4, 2) := by decide +kernel
theorem dX12_matches_181 : decode cX12_matches 181 = .ok (.aload_n 0, 1) := by decide +kernel
theorem dX12_matches_182 : decode cX12_matches 182 = .ok (.getfield 91, 3) := by decide +kernel
theorem dX12_matches_185 : decode cX12_matches 185 = .ok (.iconst 5, 1) := by decide +kernel
theorem dX12_matches_186 : decode cX12_matches 186 = .ok (.iload 6, 2) := by decide +kernel
theorem dX12_matches_188 : decode cX12_matches 188 = .ok (.imul, 1) := by decide +kernel
theorem dX12_matches_189 : decode cX12_matches 189 = .ok (.iload 7, 2) := by decide +kernel
theorem dX12_matches_191 : decode cX12_matches 191 = .ok (.iadd, 1) := by decide +kernel
theorem dX12_matches_192 : decode cX12_matches 192 = .ok (.iaload, 1) := by decide +kernel
theorem dX12_matches_193 : decode cX12_matches 193 = .ok (.i2l, 1) := by decide +kernel
theorem dX12_matches_194 : decode cX12_matches 194 = .ok (.ladd, 1) := by decide +kernel
theorem dX12_matches_195 : decode cX12_matches 195 = .ok (.invokevirtual 473, 3) := by decide +kernel
theorem dX12_matches_198 : decode cX12_matches 198 = .ok (.iinc 7 1, 3) := by decide +kernel
theorem dX12_matches_201 : decode cX12_matches 201 = .ok (.goto (-105), 3) := by decide +kernel
theorem dX12_matches_204 : decode cX12_matches 204 = .ok (.iinc 6 1, 3) := by decide +kernel
theorem dX12_matches_207 : decode cX12_matches 207 = .ok (.goto (-123), 3) := by decide +kernel
theorem dX12_matches_210 : decode cX12_matches 210 = .ok (.return_, 1) := by decide +kernel
set_option maxRecDepth 20000 in
theorem ggX12_match_X12_in : GoodIn wsX12_match wsX12_in := goodIn_r _ [15] (by decide +kernel) (by decide +kernel)
set_option maxRecDepth 20000 in
theorem gX12_match_X12_in : GoodIn wsX12_match (va_wsS RX12 101 yX12_in wsX12_in) := goodIn_app (goodIn_of _ (by decide +kernel)) ggX12_match_X12_in
set_option maxRecDepth 20000 in
theorem ggX12_match_X12_fails : GoodIn wsX12_match wsX12_fails := goodIn_r _ [19, 20, 124, 125, 126, 127, 128, 129, 130, 131, 132, 133, 134, 135, 136, 137, 138, 139, 140, 141, 142, 143, 144, 145, 146, 147, 148, 149, 150, 151, 152, 153, 154, 155, 156, 157] (by decide +kernel) (by decide +kernel)
set_option maxRecDepth 20000 in
theorem gX12_match_X12_fails : GoodIn wsX12_match (wsV RX12 143 RX12 yX12_fails wsX12_fails) := goodIn_app (goodIn_of _ (by decide +kernel)) ggX12_match_X12_fails
set_option maxRecDepth 20000 in
theorem ggX12_match_X12_lists : GoodIn wsX12_match wsX12_lists := goodIn_ca (goodIn_r _ [24, 25, 26, 27, 28, 29, 30, 31, 32, 33, 34, 14, 35, 36, 37, 38, 39, 40, 41, 42, 43, 44, 45, 46, 47, 48, 49, 50, 51, 52, 53, 54, 55, 56, 57, 58, 59, 60, 61, 62, 63, 64, 65, 66, 67, 124, 125, 126, 127, 128, 129, 130, 131, 132, 133, 134, 135, 136, 137, 138, 139, 140, 141, 142, 143, 144, 145, 146, 147, 148, 149, 150, 151, 152, 153, 154, 155, 156, 157, 158, 159, 160, 161, 162, 163, 164, 165, 166, 167, 168, 169, 170, 171, 172, 173, 174, 175, 176, 177, 178, 179, 180, 181, 182, 183] (by decide +kernel) (by decide +kernel)) (goodIn_sub (fun _ h => List.mem_cons_of_mem _ (List.mem_append_left _ (List.mem_append_right _ h))) (by decide +kernel))
set_option maxRecDepth 20000 in
theorem gX12_match_X12_lists : GoodIn wsX12_match (wsV RX12 477 RX12 yX12_lists wsX12_lists) := goodIn_app (goodIn_of _ (by decide +kernel)) ggX12_match_X12_lists
set_option maxRecDepth 20000 in
theorem ggX12_match_X12_gearAt : GoodIn wsX12_match wsX12_gearAt := goodIn_r _ [35, 25, 36, 37, 38, 39, 29, 40, 31, 41, 42, 43, 44, 45, 46, 47, 48, 49, 50, 51, 52, 53, 124, 125, 126, 127, 128, 129, 130, 131, 132, 133, 134, 135, 136, 137, 138, 139, 140, 141, 142, 143, 144, 145, 146, 147, 148, 149, 150, 151, 152, 153, 154, 155, 156, 157, 181, 182, 183] (by decide +kernel) (by decide +kernel)
set_option maxRecDepth 20000 in
theorem gX12_match_X12_gearAt : GoodIn wsX12_match (wsV RX12 111 RX12 yX12_gearAt wsX12_gearAt) := goodIn_app (goodIn_of _ (by decide +kernel)) ggX12_match_X12_gearAt
set_option maxRecDepth 20000 in
theorem ggX12_match_X12_isPair : GoodIn wsX12_match wsX12_isPair := goodIn_r _ [71, 32, 33, 34, 14, 35, 25, 36, 37, 38, 39, 29, 40, 31, 41, 42, 43, 44, 45, 46, 47, 48, 49, 50, 51, 52, 53, 158, 159, 160, 161, 162, 163, 164, 165, 166, 167, 168, 169, 170, 171, 172, 173, 174, 175, 176, 177, 178, 179, 180, 124, 125, 126, 127, 128, 129, 130, 131, 132, 133, 134, 135, 136, 137, 138, 139, 140, 141, 142, 143, 144, 145, 146, 147, 148, 149, 150, 151, 152, 153, 154, 155, 156, 157, 181, 182, 183] (by decide +kernel) (by decide +kernel)
set_option maxRecDepth 20000 in
theorem gX12_match_X12_isPair : GoodIn wsX12_match (wsV RX12 125 RX12 yX12_isPair wsX12_isPair) := goodIn_app (goodIn_of _ (by decide +kernel)) ggX12_match_X12_isPair
set_option maxRecDepth 20000 in
theorem ggX12_match_X12_quietestOf : GoodIn wsX12_match wsX12_quietestOf := goodIn_ca (goodIn_ca (goodIn_r _ [75, 76, 77, 78, 14, 79, 80, 81, 82, 83, 84, 85, 86, 87, 88, 89, 57, 90, 91, 92, 93, 94, 95, 96, 97, 98, 99, 100, 101, 102, 103, 104, 105, 106, 107, 108, 109, 158, 159, 160, 161, 162, 163, 164, 165, 166, 167, 168, 169, 170, 171, 172, 173, 174, 175, 176, 177, 178, 179, 180, 124, 125, 126, 127, 128, 129, 130, 131, 132, 133, 134, 135, 136, 137, 138, 139, 140, 141, 142, 143, 144, 145, 146, 147, 148, 149, 150, 151, 152, 153, 154, 155, 156, 157] (by decide +kernel) (by decide +kernel)) (goodIn_sub (fun _ h => List.mem_cons_of_mem _ (List.mem_append_right _ h)) (by decide +kernel))) (goodIn_sub (fun _ h => List.mem_cons_of_mem _ (List.mem_append_left _ (List.mem_append_right _ h))) (by decide +kernel))
set_option maxRecDepth 20000 in
theorem gX12_match_X12_quietestOf : GoodIn wsX12_match (wsV RX12 434 RX12 yX12_quietestOf wsX12_quietestOf) := goodIn_app (goodIn_of _ (by decide +kernel)) ggX12_match_X12_quietestOf
set_option maxRecDepth 20000 in
theorem ggX12_match_X12_peakOf : GoodIn wsX12_match wsX12_peakOf := goodIn_ca (goodIn_ca (goodIn_r _ [113, 76, 77, 78, 14, 79, 80, 81, 82, 83, 84, 85, 86, 87, 88, 89, 57, 90, 91, 92, 93, 94, 95, 96, 97, 98, 99, 100, 101, 102, 103, 104, 105, 106, 107, 108, 109, 158, 159, 160, 161, 162, 163, 164, 165, 166, 167, 168, 169, 170, 171, 172, 173, 174, 175, 176, 177, 178, 179, 180, 124, 125, 126, 127, 128, 129, 130, 131, 132, 133, 134, 135, 136, 137, 138, 139, 140, 141, 142, 143, 144, 145, 146, 147, 148, 149, 150, 151, 152, 153, 154, 155, 156, 157] (by decide +kernel) (by decide +kernel)) (goodIn_sub (fun _ h => List.mem_cons_of_mem _ (List.mem_append_right _ h)) (by decide +kernel))) (goodIn_sub (fun _ h => List.mem_cons_of_mem _ (List.mem_append_left _ (List.mem_append_right _ h))) (by decide +kernel))
set_option maxRecDepth 20000 in
theorem gX12_match_X12_peakOf : GoodIn wsX12_match (wsV RX12 430 RX12 yX12_peakOf wsX12_peakOf) := goodIn_app (goodIn_of _ (by decide +kernel)) ggX12_match_X12_peakOf
set_option maxRecDepth 20000 in
theorem ggX12_match_X12_matches : GoodIn wsX12_match wsX12_matches := goodIn_ca (goodIn_r _ [117, 6, 8, 10, 118, 11, 119, 3, 5, 2, 4, 9, 68, 69, 70, 14, 71, 32, 33, 34, 35, 25, 36, 37, 38, 39, 29, 40, 31, 41, 42, 43, 44, 45, 46, 47, 48, 49, 50, 51, 52, 53, 114, 115, 116, 124, 125, 126, 127, 128, 129, 130, 131, 132, 133, 134, 135, 136, 137, 138, 139, 140, 141, 142, 143, 144, 145, 146, 147, 148, 149, 150, 151, 152, 153, 154, 155, 156, 157, 158, 159, 160, 161, 162, 163, 164, 165, 166, 167, 168, 169, 170, 171, 172, 173, 174, 175, 176, 177, 178, 179, 180, 181, 182, 183] (by decide +kernel) (by decide +kernel)) (goodIn_sub (fun _ h => List.mem_cons_of_mem _ (List.mem_append_left _ (List.mem_append_right _ h))) (by decide +kernel))
set_option maxRecDepth 20000 in
theorem gX12_match_X12_matches : GoodIn wsX12_match (wsV RX12 473 RX12 yX12_matches wsX12_matches) := goodIn_app (goodIn_of _ (by decide +kernel)) ggX12_match_X12_matches
set_option maxRecDepth 20000 in
theorem ggX12_match_X12_answer : GoodIn wsX12_match wsX12_answer := goodIn_r _ [123, 20, 124, 125, 126, 127, 128, 129, 130, 131, 132, 133, 134, 135, 136, 137, 138, 139, 140, 141, 142, 143, 144, 145, 146, 147, 148, 149, 150, 151, 152, 153, 154, 155, 156, 157] (by decide +kernel) (by decide +kernel)
set_option maxRecDepth 20000 in
theorem gX12_match_X12_answer : GoodIn wsX12_match (wsV RX12 153 RX12 yX12_answer wsX12_answer) := goodIn_app (goodIn_of _ (by decide +kernel)) ggX12_match_X12_answer
theorem dX12_match_0 : decode cX12_match 0 = .ok (.iload_n 1, 1) := by decide +kernel
theorem dX12_match_1 : decode cX12_match 1 = .ok (.iload_n 2, 1) := by decide +kernel
theorem dX12_match_2 : decode cX12_match 2 = .ok (.if_icmp .eq 15, 3) := by decide +kernel
theorem dX12_match_5 : decode cX12_match 5 = .ok (.iload_n 3, 1) := by decide +kernel
theorem dX12_match_6 : decode cX12_match 6 = .ok (.i2l, 1) := by decide +kernel
theorem dX12_match_7 : decode cX12_match 7 = .ok (.lconst 1, 1) := by decide +kernel
theorem dX12_match_8 : decode cX12_match 8 = .ok (.ldc2_w 314, 3) := by decide +kernel
theorem dX12_match_11 : decode cX12_match 11 = .ok (.invokestatic 101, 3) := by decide +kernel
theorem dX12_match_14 : decode cX12_match 14 = .ok (.ifCond .ne 9, 3) := by decide +kernel
theorem dX12_match_17 : decode cX12_match 17 = .ok (.aload_n 0, 1) := by decide +kernel
theorem dX12_match_18 : decode cX12_match 18 = .ok (.iconst 1, 1) := by decide +kernel
theorem dX12_match_19 : decode cX12_match 19 = .ok (.invokevirtual 143, 3) := by decide +kernel
theorem dX12_match_22 : decode cX12_match 22 = .ok (.ireturn, 1) := by decide +kernel
theorem dX12_match_23 : decode cX12_match 23 = .ok (.aload_n 0, 1) := by decide +kernel
theorem dX12_match_24 : decode cX12_match 24 = .ok (.aload_n 0, 1) := by decide +kernel
theorem dX12_match_25 : decode cX12_match 25 = .ok (.iload_n 1, 1) := by decide +kernel
theorem dX12_match_26 : decode cX12_match 26 = .ok (.aload_n 0, 1) := by decide +kernel
theorem dX12_match_27 : decode cX12_match 27 = .ok (.getfield 66, 3) := by decide +kernel
theorem dX12_match_30 : decode cX12_match 30 = .ok (.invokevirtual 477, 3) := by decide +kernel
theorem dX12_match_33 : decode cX12_match 33 = .ok (.putfield 467, 3) := by decide +kernel
theorem dX12_match_36 : decode cX12_match 36 = .ok (.aload_n 0, 1) := by decide +kernel
theorem dX12_match_37 : decode cX12_match 37 = .ok (.aload_n 0, 1) := by decide +kernel
theorem dX12_match_38 : decode cX12_match 38 = .ok (.iload_n 2, 1) := by decide +kernel
theorem dX12_match_39 : decode cX12_match 39 = .ok (.aload_n 0, 1) := by decide +kernel
theorem dX12_match_40 : decode cX12_match 40 = .ok (.getfield 69, 3) := by decide +kernel
theorem dX12_match_43 : decode cX12_match 43 = .ok (.invokevirtual 477, 3) := by decide +kernel
theorem dX12_match_46 : decode cX12_match 46 = .ok (.putfield 470, 3) := by decide +kernel
theorem dX12_match_49 : decode cX12_match 49 = .ok (.aload_n 0, 1) := by decide +kernel
theorem dX12_match_50 : decode cX12_match 50 = .ok (.iload_n 3, 1) := by decide +kernel
theorem dX12_match_51 : decode cX12_match 51 = .ok (.putfield 461, 3) := by decide +kernel
theorem dX12_match_54 : decode cX12_match 54 = .ok (.aload_n 0, 1) := by decide +kernel
theorem dX12_match_55 : decode cX12_match 55 = .ok (.ldc2_w 335, 3) := by decide +kernel
theorem dX12_match_58 : decode cX12_match 58 = .ok (.putfield 464, 3) := by decide +kernel
theorem dX12_match_61 : decode cX12_match 61 = .ok (.iconst 0, 1) := by decide +kernel
theorem dX12_match_62 : decode cX12_match 62 = .ok (.istore 4, 2) := by decide +kernel
theorem dX12_match_64 : decode cX12_match 64 = .ok (.iload 4, 2) := by decide +kernel
theorem dX12_match_66 : decode cX12_match 66 = .ok (.aload_n 0, 1) := by decide +kernel
theorem dX12_match_67 : decode cX12_match 67 = .ok (.getfield 467, 3) := by decide +kernel
theorem dX12_match_70 : decode cX12_match 70 = .ok (.if_icmp .ge 106, 3) := by decide +kernel
theorem dX12_match_73 : decode cX12_match 73 = .ok (.iconst 0, 1) := by decide +kernel
theorem dX12_match_74 : decode cX12_match 74 = .ok (.istore 5, 2) := by decide +kernel
theorem dX12_match_76 : decode cX12_match 76 = .ok (.iload 5, 2) := by decide +kernel
theorem dX12_match_78 : decode cX12_match 78 = .ok (.aload_n 0, 1) := by decide +kernel
theorem dX12_match_79 : decode cX12_match 79 = .ok (.getfield 470, 3) := by decide +kernel
theorem dX12_match_82 : decode cX12_match 82 = .ok (.if_icmp .ge 88, 3) := by decide +kernel
theorem dX12_match_85 : decode cX12_match 85 = .ok (.aload_n 0, 1) := by decide +kernel
theorem dX12_match_86 : decode cX12_match 86 = .ok (.aload_n 0, 1) := by decide +kernel
theorem dX12_match_87 : decode cX12_match 87 = .ok (.getfield 66, 3) := by decide +kernel
theorem dX12_match_90 : decode cX12_match 90 = .ok (.iload 4, 2) := by decide +kernel
theorem dX12_match_92 : decode cX12_match 92 = .ok (.iaload, 1) := by decide +kernel
theorem dX12_match_93 : decode cX12_match 93 = .ok (.invokevirtual 111, 3) := by decide +kernel
theorem dX12_match_96 : decode cX12_match 96 = .ok (.astore 6, 2) := by decide +kernel
theorem dX12_match_98 : decode cX12_match 98 = .ok (.aload_n 0, 1) := by decide +kernel
theorem dX12_match_99 : decode cX12_match 99 = .ok (.aload_n 0, 1) := by decide +kernel
theorem dX12_match_100 : decode cX12_match 100 = .ok (.getfield 69, 3) := by decide +kernel
theorem dX12_match_103 : decode cX12_match 103 = .ok (.iload 5, 2) := by decide +kernel
theorem dX12_match_105 : decode cX12_match 105 = .ok (.iaload, 1) := by decide +kernel
theorem dX12_match_106 : decode cX12_match 106 = .ok (.invokevirtual 111, 3) := by decide +kernel
theorem dX12_match_109 : decode cX12_match 109 = .ok (.astore 7, 2) := by decide +kernel
theorem dX12_match_111 : decode cX12_match 111 = .ok (.aload_n 0, 1) := by decide +kernel
theorem dX12_match_112 : decode cX12_match 112 = .ok (.getfield 91, 3) := by decide +kernel
theorem dX12_match_115 : decode cX12_match 115 = .ok (.iconst 5, 1) := by decide +kernel
theorem dX12_match_116 : decode cX12_match 116 = .ok (.iload 4, 2) := by decide +kernel
theorem dX12_match_118 : decode cX12_match 118 = .ok (.imul, 1) := by decide +kernel
theorem dX12_match_119 : decode cX12_match 119 = .ok (.iload 5, 2) := by decide +kernel
theorem dX12_match_121 : decode cX12_match 121 = .ok (.iadd, 1) := by decide +kernel
theorem dX12_match_122 : decode cX12_match 122 = .ok (.aload_n 0, 1) := by decide +kernel
theorem dX12_match_123 : decode cX12_match 123 = .ok (.aload_n 0, 1) := by decide +kernel
theorem dX12_match_124 : decode cX12_match 124 = .ok (.getfield 66, 3) := by decide +kernel
theorem dX12_match_127 : decode cX12_match 127 = .ok (.iload 4, 2) := by decide +kernel
theorem dX12_match_129 : decode cX12_match 129 = .ok (.iaload, 1) := by decide +kernel
theorem dX12_match_130 : decode cX12_match 130 = .ok (.aload_n 0, 1) := by decide +kernel
theorem dX12_match_131 : decode cX12_match 131 = .ok (.getfield 69, 3) := by decide +kernel
theorem dX12_match_134 : decode cX12_match 134 = .ok (.iload 5, 2) := by decide +kernel
theorem dX12_match_136 : decode cX12_match 136 = .ok (.iaload, 1) := by decide +kernel
theorem dX12_match_137 : decode cX12_match 137 = .ok (.invokevirtual 125, 3) := by decide +kernel
theorem dX12_match_140 : decode cX12_match 140 = .ok (.ifCond .eq 22, 3) := by decide +kernel
theorem dX12_match_143 : decode cX12_match 143 = .ok (.aload_n 0, 1) := by decide +kernel
theorem dX12_match_144 : decode cX12_match 144 = .ok (.aload 6, 2) := by decide +kernel
theorem dX12_match_146 : decode cX12_match 146 = .ok (.aload 7, 2) := by decide +kernel
theorem dX12_match_148 : decode cX12_match 148 = .ok (.aload_n 0, 1) := by decide +kernel
theorem dX12_match_149 : decode cX12_match 149 = .ok (.aload 6, 2) := by decide +kernel
theorem dX12_match_151 : decode cX12_match 151 = .ok (.aload 7, 2) := by decide +kernel
theorem dX12_match_153 : decode cX12_match 153 = .ok (.invokevirtual 434, 3) := by decide +kernel
theorem dX12_match_156 : decode cX12_match 156 = .ok (.invokevirtual 430, 3) := by decide +kernel
theorem dX12_match_159 : decode cX12_match 159 = .ok (.goto 4, 3) := by decide +kernel
theorem dX12_match_162 : decode cX12_match 162 = .ok (.iconst 0, 1) := by decide +kernel
theorem dX12_match_163 : decode cX12_match 163 = .ok (.iastore, 1) := by decide +kernel
theorem dX12_match_164 : decode cX12_match 164 = .ok (.iinc 5 1, 3) := by decide +kernel
theorem dX12_match_167 : decode cX12_match 167 = .ok (.goto (-91), 3) := by decide +kernel
theorem dX12_match_170 : decode cX12_match 170 = .ok (.iinc 4 1, 3) := by decide +kernel
theorem dX12_match_173 : decode cX12_match 173 = .ok (.goto (-109), 3) := by decide +kernel
theorem dX12_match_176 : decode cX12_match 176 = .ok (.aload_n 0, 1) := by decide +kernel
theorem dX12_match_177 : decode cX12_match 177 = .ok (.iconst 0, 1) := by decide +kernel
theorem dX12_match_178 : decode cX12_match 178 = .ok (.iconst 0, 1) := by decide +kernel
theorem dX12_match_179 : decode cX12_match 179 = .ok (.iconst 0, 1) := by decide +kernel
theorem dX12_match_180 : decode cX12_match 180 = .ok (.lconst 0, 1) := by decide +kernel
theorem dX12_match_181 : decode cX12_match 181 = .ok (.invokevirtual 473, 3) := by decide +kernel
theorem dX12_match_184 : decode cX12_match 184 = .ok (.aload_n 0, 1) := by decide +kernel
theorem dX12_match_185 : decode cX12_match 185 = .ok (.getfield 464, 3) := by decide +kernel
theorem dX12_match_188 : decode cX12_match 188 = .ok (.lconst 0, 1) := by decide +kernel
theorem dX12_match_189 : decode cX12_match 189 = .ok (.lcmp, 1) := by decide +kernel
theorem dX12_match_190 : decode cX12_match 190 = .ok (.ifCond .ge 9, 3) := by decide +kernel
theorem dX12_match_193 : decode cX12_match 193 = .ok (.aload_n 0, 1) := by decide +kernel
theorem dX12_match_194 : decode cX12_match 194 = .ok (.iconst 2, 1) := by decide +kernel
theorem dX12_match_195 : decode cX12_match 195 = .ok (.invokevirtual 143, 3) := by decide +kernel
theorem dX12_match_198 : decode cX12_match 198 = .ok (.ireturn, 1) := by decide +kernel
theorem dX12_match_199 : decode cX12_match 199 = .ok (.iconst 0, 1) := by decide +kernel
theorem dX12_match_200 : decode cX12_match 200 = .ok (.istore 4, 2) := by decide +kernel
theorem dX12_match_202 : decode cX12_match 202 = .ok (.iload 4, 2) := by decide +kernel
theorem dX12_match_204 : decode cX12_match 204 = .ok (.iload_n 3, 1) := by decide +kernel
theorem dX12_match_205 : decode cX12_match 205 = .ok (.if_icmp .ge 51, 3) := by decide +kernel
theorem dX12_match_208 : decode cX12_match 208 = .ok (.aload_n 0, 1) := by decide +kernel
theorem dX12_match_209 : decode cX12_match 209 = .ok (.aload_n 0, 1) := by decide +kernel
theorem dX12_match_210 : decode cX12_match 210 = .ok (.getfield 60, 3) := by decide +kernel
theorem dX12_match_213 : decode cX12_match 213 = .ok (.iload 4, 2) := by decide +kernel
theorem dX12_match_215 : decode cX12_match 215 = .ok (.iaload, 1) := by decide +kernel
theorem dX12_match_216 : decode cX12_match 216 = .ok (.invokevirtual 111, 3) := by decide +kernel
theorem dX12_match_219 : decode cX12_match 219 = .ok (.aload_n 0, 1) := by decide +kernel
theorem dX12_match_220 : decode cX12_match 220 = .ok (.getfield 63, 3) := by decide +kernel
theorem dX12_match_223 : decode cX12_match 223 = .ok (.iload 4, 2) := by decide +kernel
theorem dX12_match_225 : decode cX12_match 225 = .ok (.iaload, 1) := by decide +kernel
theorem dX12_match_226 : decode cX12_match 226 = .ok (.putfield 446, 3) := by decide +kernel
theorem dX12_match_229 : decode cX12_match 229 = .ok (.aload_n 0, 1) := by decide +kernel
theorem dX12_match_230 : decode cX12_match 230 = .ok (.aload_n 0, 1) := by decide +kernel
theorem dX12_match_231 : decode cX12_match 231 = .ok (.getfield 63, 3) := by decide +kernel
theorem dX12_match_234 : decode cX12_match 234 = .ok (.iload 4, 2) := by decide +kernel
theorem dX12_match_236 : decode cX12_match 236 = .ok (.iaload, 1) := by decide +kernel
theorem dX12_match_237 : decode cX12_match 237 = .ok (.invokevirtual 111, 3) := by decide +kernel
theorem dX12_match_240 : decode cX12_match 240 = .ok (.aload_n 0, 1) := by decide +kernel
theorem dX12_match_241 : decode cX12_match 241 = .ok (.getfield 60, 3) := by decide +kernel
theorem dX12_match_244 : decode cX12_match 244 = .ok (.iload 4, 2) := by decide +kernel
theorem dX12_match_246 : decode cX12_match 246 = .ok (.iaload, 1) := by decide +kernel
theorem dX12_match_247 : decode cX12_match 247 = .ok (.putfield 446, 3) := by decide +kernel
theorem dX12_match_250 : decode cX12_match 250 = .ok (.iinc 4 1, 3) := by decide +kernel
theorem dX12_match_253 : decode cX12_match 253 = .ok (.goto (-51), 3) := by decide +kernel
theorem dX12_match_256 : decode cX12_match 256 = .ok (.aload_n 0, 1) := by decide +kernel
theorem dX12_match_257 : decode cX12_match 257 = .ok (.aload_n 0, 1) := by decide +kernel
theorem dX12_match_258 : decode cX12_match 258 = .ok (.getfield 464, 3) := by decide +kernel
theorem dX12_match_261 : decode cX12_match 261 = .ok (.l2i, 1) := by decide +kernel
theorem dX12_match_262 : decode cX12_match 262 = .ok (.invokevirtual 153, 3) := by decide +kernel
theorem dX12_match_265 : decode cX12_match 265 = .ok (.ireturn, 1) := by decide +kernel
set_option maxRecDepth 20000 in
theorem ggX12_mate_X12_isGear : GoodIn wsX12_mate wsX12_isGear := goodIn_r _ [5, 6, 7, 8, 9, 10, 11, 12, 13, 14, 4, 15, 70, 71, 72, 73, 74, 75, 76, 77, 78, 79, 80, 81, 82, 83, 84, 85, 86, 87, 88, 89, 90, 91, 92, 93, 94, 95, 96, 97, 98, 99, 100, 101, 102, 103, 104, 105, 106] (by decide +kernel) (by decide +kernel)
set_option maxRecDepth 20000 in
theorem gX12_mate_X12_isGear : GoodIn wsX12_mate (wsV RX12 121 RX12 yX12_isGear wsX12_isGear) := goodIn_app (goodIn_of _ (by decide +kernel)) ggX12_mate_X12_isGear
set_option maxRecDepth 20000 in
theorem ggX12_mate_X12_fails : GoodIn wsX12_mate wsX12_fails := goodIn_r _ [19, 20, 70, 71, 72, 73, 74, 75, 76, 77, 78, 79, 80, 81, 82, 83, 84, 85, 86, 87, 88, 89, 90, 91, 92, 93, 94, 95, 96, 97, 98, 99, 100, 101, 102, 103] (by decide +kernel) (by decide +kernel)
set_option maxRecDepth 20000 in
theorem gX12_mate_X12_fails : GoodIn wsX12_mate (wsV RX12 143 RX12 yX12_fails wsX12_fails) := goodIn_app (goodIn_of _ (by decide +kernel)) ggX12_mate_X12_fails
set_option maxRecDepth 20000 in
theorem ggX12_mate_X12_gearAt : GoodIn wsX12_mate wsX12_gearAt := goodIn_r _ [24, 6, 25, 26, 27, 28, 10, 29, 12, 30, 31, 32, 33, 34, 35, 36, 37, 38, 39, 40, 41, 42, 70, 71, 72, 73, 74, 75, 76, 77, 78, 79, 80, 81, 82, 83, 84, 85, 86, 87, 88, 89, 90, 91, 92, 93, 94, 95, 96, 97, 98, 99, 100, 101, 102, 103, 104, 105, 106] (by decide +kernel) (by decide +kernel)
set_option maxRecDepth 20000 in
theorem gX12_mate_X12_gearAt : GoodIn wsX12_mate (wsV RX12 111 RX12 yX12_gearAt wsX12_gearAt) := goodIn_app (goodIn_of _ (by decide +kernel)) ggX12_mate_X12_gearAt
set_option maxRecDepth 20000 in
theorem ggX12_mate_X12_answer : GoodIn wsX12_mate wsX12_answer := goodIn_r _ [46, 20, 70, 71, 72, 73, 74, 75, 76, 77, 78, 79, 80, 81, 82, 83, 84, 85, 86, 87, 88, 89, 90, 91, 92, 93, 94, 95, 96, 97, 98, 99, 100, 101, 102, 103] (by decide +kernel) (by decide +kernel)
set_option maxRecDepth 20000 in
theorem gX12_mate_X12_answer : GoodIn wsX12_mate (wsV RX12 153 RX12 yX12_answer wsX12_answer) := goodIn_app (goodIn_of _ (by decide +kernel)) ggX12_mate_X12_answer
theorem dX12_mate_0 : decode cX12_mate 0 = .ok (.aload_n 0, 1) := by decide +kernel
theorem dX12_mate_1 : decode cX12_mate 1 = .ok (.iload_n 1, 1) := by decide +kernel
theorem dX12_mate_2 : decode cX12_mate 2 = .ok (.invokevirtual 121, 3) := by decide +kernel
theorem dX12_mate_5 : decode cX12_mate 5 = .ok (.ifCond .ne 9, 3) := by decide +kernel
theorem dX12_mate_8 : decode cX12_mate 8 = .ok (.aload_n 0, 1) := by decide +kernel
theorem dX12_mate_9 : decode cX12_mate 9 = .ok (.iconst 1, 1) := by decide +kernel
theorem dX12_mate_10 : decode cX12_mate 10 = .ok (.invokevirtual 143, 3) := by decide +kernel
theorem dX12_mate_13 : decode cX12_mate 13 = .ok (.ireturn, 1) := by decide +kernel
theorem dX12_mate_14 : decode cX12_mate 14 = .ok (.aload_n 0, 1) := by decide +kernel
theorem dX12_mate_15 : decode cX12_mate 15 = .ok (.iload_n 1, 1) := by decide +kernel
theorem dX12_mate_16 : decode cX12_mate 16 = .ok (.invokevirtual 111, 3) := by decide +kernel
theorem dX12_mate_19 : decode cX12_mate 19 = .ok (.getfield 446, 3) := by decide +kernel
theorem dX12_mate_22 : decode cX12_mate 22 = .ok (.iconst (-1), 1) := by decide +kernel
theorem dX12_mate_23 : decode cX12_mate 23 = .ok (.if_icmp .ne 11, 3) := by decide +kernel
theorem dX12_mate_26 : decode cX12_mate 26 = .ok (.aload_n 0, 1) := by decide +kernel
theorem dX12_mate_27 : decode cX12_mate 27 = .ok (.iconst 2, 1) := by decide +kernel
theorem dX12_mate_28 : decode cX12_mate 28 = .ok (.invokevirtual 143, 3) := by decide +kernel
theorem dX12_mate_31 : decode cX12_mate 31 = .ok (.goto 15, 3) := by decide +kernel
theorem dX12_mate_34 : decode cX12_mate 34 = .ok (.aload_n 0, 1) := by decide +kernel
theorem dX12_mate_35 : decode cX12_mate 35 = .ok (.aload_n 0, 1) := by decide +kernel
theorem dX12_mate_36 : decode cX12_mate 36 = .ok (.iload_n 1, 1) := by decide +kernel
theorem dX12_mate_37 : decode cX12_mate 37 = .ok (.invokevirtual 111, 3) := by decide +kernel
theorem dX12_mate_40 : decode cX12_mate 40 = .ok (.getfield 446, 3) := by decide +kernel
theorem dX12_mate_43 : decode cX12_mate 43 = .ok (.invokevirtual 153, 3) := by decide +kernel
theorem dX12_mate_46 : decode cX12_mate 46 = .ok (.ireturn, 1) := by decide +kernel
set_option maxRecDepth 20000 in
theorem ggX12_separate_X12_isGear : GoodIn wsX12_separate wsX12_isGear := goodIn_r _ [5, 6, 7, 8, 9, 10, 11, 12, 13, 14, 4, 15, 70, 71, 72, 73, 74, 75, 76, 77, 78, 79, 80, 81, 82, 83, 84, 85, 86, 87, 88, 89, 90, 91, 92, 93, 94, 95, 96, 97, 98, 99, 100, 101, 102, 103, 104, 105, 106] (by decide +kernel) (by decide +kernel)
set_option maxRecDepth 20000 in
theorem gX12_separate_X12_isGear : GoodIn wsX12_separate (wsV RX12 121 RX12 yX12_isGear wsX12_isGear) := goodIn_app (goodIn_of _ (by decide +kernel)) ggX12_separate_X12_isGear
set_option maxRecDepth 20000 in
theorem ggX12_separate_X12_fails : GoodIn wsX12_separate wsX12_fails := goodIn_r _ [19, 20, 70, 71, 72, 73, 74, 75, 76, 77, 78, 79, 80, 81, 82, 83, 84, 85, 86, 87, 88, 89, 90, 91, 92, 93, 94, 95, 96, 97, 98, 99, 100, 101, 102, 103] (by decide +kernel) (by decide +kernel)
set_option maxRecDepth 20000 in
theorem gX12_separate_X12_fails : GoodIn wsX12_separate (wsV RX12 143 RX12 yX12_fails wsX12_fails) := goodIn_app (goodIn_of _ (by decide +kernel)) ggX12_separate_X12_fails
set_option maxRecDepth 20000 in
theorem ggX12_separate_X12_gearAt : GoodIn wsX12_separate wsX12_gearAt := goodIn_r _ [24, 6, 25, 26, 27, 28, 10, 29, 12, 30, 31, 32, 33, 34, 35, 36, 37, 38, 39, 40, 41, 42, 70, 71, 72, 73, 74, 75, 76, 77, 78, 79, 80, 81, 82, 83, 84, 85, 86, 87, 88, 89, 90, 91, 92, 93, 94, 95, 96, 97, 98, 99, 100, 101, 102, 103, 104, 105, 106] (by decide +kernel) (by decide +kernel)
set_option maxRecDepth 20000 in
theorem gX12_separate_X12_gearAt : GoodIn wsX12_separate (wsV RX12 111 RX12 yX12_gearAt wsX12_gearAt) := goodIn_app (goodIn_of _ (by decide +kernel)) ggX12_separate_X12_gearAt
set_option maxRecDepth 20000 in
theorem ggX12_separate_X12_answer : GoodIn wsX12_separate wsX12_answer := goodIn_r _ [46, 20, 70, 71, 72, 73, 74, 75, 76, 77, 78, 79, 80, 81, 82, 83, 84, 85, 86, 87, 88, 89, 90, 91, 92, 93, 94, 95, 96, 97, 98, 99, 100, 101, 102, 103] (by decide +kernel) (by decide +kernel)
set_option maxRecDepth 20000 in
theorem gX12_separate_X12_answer : GoodIn wsX12_separate (wsV RX12 153 RX12 yX12_answer wsX12_answer) := goodIn_app (goodIn_of _ (by decide +kernel)) ggX12_separate_X12_answer
theorem dX12_separate_0 : decode cX12_separate 0 = .ok (.aload_n 0, 1) := by decide +kernel
theorem dX12_separate_1 : decode cX12_separate 1 = .ok (.iload_n 1, 1) := by decide +kernel
theorem dX12_separate_2 : decode cX12_separate 2 = .ok (.invokevirtual 121, 3) := by decide +kernel
theorem dX12_separate_5 : decode cX12_separate 5 = .ok (.ifCond .ne 9, 3) := by decide +kernel
theorem dX12_separate_8 : decode cX12_separate 8 = .ok (.aload_n 0, 1) := by decide +kernel
theorem dX12_separate_9 : decode cX12_separate 9 = .ok (.iconst 1, 1) := by decide +kernel
theorem dX12_separate_10 : decode cX12_separate 10 = .ok (.invokevirtual 143, 3) := by decide +kernel
theorem dX12_separate_13 : decode cX12_separate 13 = .ok (.ireturn, 1) := by decide +kernel
theorem dX12_separate_14 : decode cX12_separate 14 = .ok (.aload_n 0, 1) := by decide +kernel
theorem dX12_separate_15 : decode cX12_separate 15 = .ok (.iload_n 1, 1) := by decide +kernel
theorem dX12_separate_16 : decode cX12_separate 16 = .ok (.invokevirtual 111, 3) := by decide +kernel
theorem dX12_separate_19 : decode cX12_separate 19 = .ok (.getfield 446, 3) := by decide +kernel
theorem dX12_separate_22 : decode cX12_separate 22 = .ok (.istore_n 2, 1) := by decide +kernel
theorem dX12_separate_23 : decode cX12_separate 23 = .ok (.iload_n 2, 1) := by decide +kernel
theorem dX12_separate_24 : decode cX12_separate 24 = .ok (.iconst (-1), 1) := by decide +kernel
theorem dX12_separate_25 : decode cX12_separate 25 = .ok (.if_icmp .ne 9, 3) := by decide +kernel
theorem dX12_separate_28 : decode cX12_separate 28 = .ok (.aload_n 0, 1) := by decide +kernel
theorem dX12_separate_29 : decode cX12_separate 29 = .ok (.iconst 2, 1) := by decide +kernel
theorem dX12_separate_30 : decode cX12_separate 30 = .ok (.invokevirtual 143, 3) := by decide +kernel
theorem dX12_separate_33 : decode cX12_separate 33 = .ok (.ireturn, 1) := by decide +kernel
theorem dX12_separate_34 : decode cX12_separate 34 = .ok (.aload_n 0, 1) := by decide +kernel
theorem dX12_separate_35 : decode cX12_separate 35 = .ok (.iload_n 1, 1) := by decide +kernel
theorem dX12_separate_36 : decode cX12_separate 36 = .ok (.invokevirtual 111, 3) := by decide +kernel
theorem dX12_separate_39 : decode cX12_separate 39 = .ok (.iconst (-1), 1) := by decide +kernel
theorem dX12_separate_40 : decode cX12_separate 40 = .ok (.putfield 446, 3) := by decide +kernel
theorem dX12_separate_43 : decode cX12_separate 43 = .ok (.aload_n 0, 1) := by decide +kernel
theorem dX12_separate_44 : decode cX12_separate 44 = .ok (.iload_n 2, 1) := by decide +kernel
theorem dX12_separate_45 : decode cX12_separate 45 = .ok (.invokevirtual 111, 3) := by decide +kernel
theorem dX12_separate_48 : decode cX12_separate 48 = .ok (.iconst (-1), 1) := by decide +kernel
theorem dX12_separate_49 : decode cX12_separate 49 = .ok (.putfield 446, 3) := by decide +kernel
theorem dX12_separate_52 : decode cX12_separate 52 = .ok (.aload_n 0, 1) := by decide +kernel
theorem dX12_separate_53 : decode cX12_separate 53 = .ok (.iload_n 2, 1) := by decide +kernel
theorem dX12_separate_54 : decode cX12_separate 54 = .ok (.invokevirtual 153, 3) := by decide +kernel
theorem dX12_separate_57 : decode cX12_separate 57 = .ok (.ireturn, 1) := by decide +kernel
theorem dX12_isKind_0 : decode cX12_isKind 0 = .ok (.iload_n 0, 1) := by decide +kernel
theorem dX12_isKind_1 : decode cX12_isKind 1 = .ok (.bipush 104, 2) := by decide +kernel
theorem dX12_isKind_3 : decode cX12_isKind 3 = .ok (.if_icmp .eq 21, 3) := by decide +kernel
theorem dX12_isKind_6 : decode cX12_isKind 6 = .ok (.iload_n 0, 1) := by decide +kernel
theorem dX12_isKind_7 : decode cX12_isKind 7 = .ok (.bipush 102, 2) := by decide +kernel
theorem dX12_isKind_9 : decode cX12_isKind 9 = .ok (.if_icmp .eq 15, 3) := by decide +kernel
theorem dX12_isKind_12 : decode cX12_isKind 12 = .ok (.iload_n 0, 1) := by decide +kernel
theorem dX12_isKind_13 : decode cX12_isKind 13 = .ok (.bipush 103, 2) := by decide +kernel
theorem dX12_isKind_15 : decode cX12_isKind 15 = .ok (.if_icmp .eq 9, 3) := by decide +kernel
theorem dX12_isKind_18 : decode cX12_isKind 18 = .ok (.iload_n 0, 1) := by decide +kernel
theorem dX12_isKind_19 : decode cX12_isKind 19 = .ok (.bipush 99, 2) := by decide +kernel
theorem dX12_isKind_21 : decode cX12_isKind 21 = .ok (.if_icmp .ne 7, 3) := by decide +kernel
theorem dX12_isKind_24 : decode cX12_isKind 24 = .ok (.iconst 1, 1) := by decide +kernel
theorem dX12_isKind_25 : decode cX12_isKind 25 = .ok (.goto 4, 3) := by decide +kernel
theorem dX12_isKind_28 : decode cX12_isKind 28 = .ok (.iconst 0, 1) := by decide +kernel
theorem dX12_isKind_29 : decode cX12_isKind 29 = .ok (.ireturn, 1) := by decide +kernel
set_option maxRecDepth 20000 in
theorem ggX12_machine_X12_isKind : GoodIn wsX12_machine wsX12_isKind := goodIn_r _ [8] (by decide +kernel) (by decide +kernel)
set_option maxRecDepth 20000 in
theorem gX12_machine_X12_isKind : GoodIn wsX12_machine (va_wsS RX12 481 yX12_isKind wsX12_isKind) := goodIn_app (goodIn_of _ (by decide +kernel)) ggX12_machine_X12_isKind
set_option maxRecDepth 20000 in
theorem ggX12_machine_X12_in : GoodIn wsX12_machine wsX12_in := goodIn_r _ [11] (by decide +kernel) (by decide +kernel)
set_option maxRecDepth 20000 in
theorem gX12_machine_X12_in : GoodIn wsX12_machine (va_wsS RX12 101 yX12_in wsX12_in) := goodIn_app (goodIn_of _ (by decide +kernel)) ggX12_machine_X12_in
set_option maxRecDepth 20000 in
theorem ggX12_machine_X12_fails : GoodIn wsX12_machine wsX12_fails := goodIn_r _ [15, 16, 21, 22, 23, 24, 25, 26, 27, 28, 29, 30, 31, 32, 33, 34, 35, 36, 37, 38, 39, 40, 41, 42, 43, 44, 45, 46, 47, 48, 49, 50, 51, 52, 53, 54] (by decide +kernel) (by decide +kernel)
set_option maxRecDepth 20000 in
theorem gX12_machine_X12_fails : GoodIn wsX12_machine (wsV RX12 143 RX12 yX12_fails wsX12_fails) := goodIn_app (goodIn_of _ (by decide +kernel)) ggX12_machine_X12_fails
set_option maxRecDepth 20000 in
theorem ggX12_machine_X12_answer : GoodIn wsX12_machine wsX12_answer := goodIn_r _ [20, 16, 21, 22, 23, 24, 25, 26, 27, 28, 29, 30, 31, 32, 33, 34, 35, 36, 37, 38, 39, 40, 41, 42, 43, 44, 45, 46, 47, 48, 49, 50, 51, 52, 53, 54] (by decide +kernel) (by decide +kernel)
set_option maxRecDepth 20000 in
theorem gX12_machine_X12_answer : GoodIn wsX12_machine (wsV RX12 153 RX12 yX12_answer wsX12_answer) := goodIn_app (goodIn_of _ (by decide +kernel)) ggX12_machine_X12_answer
theorem dX12_machine_0 : decode cX12_machine 0 = .ok (.iload_n 1, 1) := by decide +kernel
theorem dX12_machine_1 : decode cX12_machine 1 = .ok (.invokestatic 481, 3) := by decide +kernel
theorem dX12_machine_4 : decode cX12_machine 4 = .ok (.ifCond .eq 15, 3) := by decide +kernel
theorem dX12_machine_7 : decode cX12_machine 7 = .ok (.iload_n 2, 1) := by decide +kernel
theorem dX12_machine_8 : decode cX12_machine 8 = .ok (.i2l, 1) := by decide +kernel
theorem dX12_machine_9 : decode cX12_machine 9 = .ok (.lconst 1, 1) := by decide +kernel
theorem dX12_machine_10 : decode cX12_machine 10 = .ok (.ldc2_w 312, 3) := by decide +kernel
theorem dX12_machine_13 : decode cX12_machine 13 = .ok (.invokestatic 101, 3) := by decide +kernel
theorem dX12_machine_16 : decode cX12_machine 16 = .ok (.ifCond .ne 9, 3) := by decide +kernel
theorem dX12_machine_19 : decode cX12_machine 19 = .ok (.aload_n 0, 1) := by decide +kernel
theorem dX12_machine_20 : decode cX12_machine 20 = .ok (.iconst 1, 1) := by decide +kernel
theorem dX12_machine_21 : decode cX12_machine 21 = .ok (.invokevirtual 143, 3) := by decide +kernel
theorem dX12_machine_24 : decode cX12_machine 24 = .ok (.ireturn, 1) := by decide +kernel
theorem dX12_machine_25 : decode cX12_machine 25 = .ok (.aload_n 0, 1) := by decide +kernel
theorem dX12_machine_26 : decode cX12_machine 26 = .ok (.getfield 485, 3) := by decide +kernel
theorem dX12_machine_29 : decode cX12_machine 29 = .ok (.bipush 6, 2) := by decide +kernel
theorem dX12_machine_31 : decode cX12_machine 31 = .ok (.if_icmp .ne 9, 3) := by decide +kernel
theorem dX12_machine_34 : decode cX12_machine 34 = .ok (.aload_n 0, 1) := by decide +kernel
theorem dX12_machine_35 : decode cX12_machine 35 = .ok (.iconst 2, 1) := by decide +kernel
theorem dX12_machine_36 : decode cX12_machine 36 = .ok (.invokevirtual 143, 3) := by decide +kernel
theorem dX12_machine_39 : decode cX12_machine 39 = .ok (.ireturn, 1) := by decide +kernel
theorem dX12_machine_40 : decode cX12_machine 40 = .ok (.aload_n 0, 1) := by decide +kernel
theorem dX12_machine_41 : decode cX12_machine 41 = .ok (.getfield 41, 3) := by decide +kernel
theorem dX12_machine_44 : decode cX12_machine 44 = .ok (.aload_n 0, 1) := by decide +kernel
theorem dX12_machine_45 : decode cX12_machine 45 = .ok (.getfield 485, 3) := by decide +kernel
theorem dX12_machine_48 : decode cX12_machine 48 = .ok (.iload_n 1, 1) := by decide +kernel
theorem dX12_machine_49 : decode cX12_machine 49 = .ok (.castore, 1) := by decide +kernel
theorem dX12_machine_50 : decode cX12_machine 50 = .ok (.aload_n 0, 1) := by decide +kernel
theorem dX12_machine_51 : decode cX12_machine 51 = .ok (.getfield 45, 3) := by decide +kernel
theorem dX12_machine_54 : decode cX12_machine 54 = .ok (.aload_n 0, 1) := by decide +kernel
theorem dX12_machine_55 : decode cX12_machine 55 = .ok (.getfield 485, 3) := by decide +kernel
theorem dX12_machine_58 : decode cX12_machine 58 = .ok (.iload_n 2, 1) := by decide +kernel
theorem dX12_machine_59 : decode cX12_machine 59 = .ok (.iastore, 1) := by decide +kernel
theorem dX12_machine_60 : decode cX12_machine 60 = .ok (.aload_n 0, 1) := by decide +kernel
theorem dX12_machine_61 : decode cX12_machine 61 = .ok (.dup, 1) := by decide +kernel
theorem dX12_machine_62 : decode cX12_machine 62 = .ok (.getfield 485, 3) := by decide +kernel
theorem dX12_machine_65 : decode cX12_machine 65 = .ok (.iconst 1, 1) := by decide +kernel
theorem dX12_machine_66 : decode cX12_machine 66 = .ok (.iadd, 1) := by decide +kernel
theorem dX12_machine_67 : decode cX12_machine 67 = .ok (.putfield 485, 3) := by decide +kernel
theorem dX12_machine_70 : decode cX12_machine 70 = .ok (.aload_n 0, 1) := by decide +kernel
theorem dX12_machine_71 : decode cX12_machine 71 = .ok (.aload_n 0, 1) := by decide +kernel
theorem dX12_machine_72 : decode cX12_machine 72 = .ok (.getfield 485, 3) := by decide +kernel
theorem dX12_machine_75 : decode cX12_machine 75 = .ok (.iconst 1, 1) := by decide +kernel
theorem dX12_machine_76 : decode cX12_machine 76 = .ok (.isub, 1) := by decide +kernel
theorem dX12_machine_77 : decode cX12_machine 77 = .ok (.invokevirtual 153, 3) := by decide +kernel
theorem dX12_machine_80 : decode cX12_machine 80 = .ok (.ireturn, 1) := by decide +kernel
set_option maxRecDepth 20000 in
theorem ggX12_toolsAt_X12_in : GoodIn wsX12_toolsAt wsX12_in := goodIn_r _ [7] (by decide +kernel) (by decide +kernel)
set_option maxRecDepth 20000 in
theorem gX12_toolsAt_X12_in : GoodIn wsX12_toolsAt (va_wsS RX12 101 yX12_in wsX12_in) := goodIn_app (goodIn_of _ (by decide +kernel)) ggX12_toolsAt_X12_in
set_option maxRecDepth 20000 in
theorem ggX12_toolsAt_X12_fails : GoodIn wsX12_toolsAt wsX12_fails := goodIn_r _ [11, 12, 17, 18, 19, 20, 21, 22, 23, 24, 25, 26, 27, 28, 29, 30, 31, 32, 33, 34, 35, 36, 37, 38, 39, 40, 41, 42, 43, 44, 45, 46, 47, 48, 49, 50] (by decide +kernel) (by decide +kernel)
set_option maxRecDepth 20000 in
theorem gX12_toolsAt_X12_fails : GoodIn wsX12_toolsAt (wsV RX12 143 RX12 yX12_fails wsX12_fails) := goodIn_app (goodIn_of _ (by decide +kernel)) ggX12_toolsAt_X12_fails
set_option maxRecDepth 20000 in
theorem ggX12_toolsAt_X12_answer : GoodIn wsX12_toolsAt wsX12_answer := goodIn_r _ [16, 12, 17, 18, 19, 20, 21, 22, 23, 24, 25, 26, 27, 28, 29, 30, 31, 32, 33, 34, 35, 36, 37, 38, 39, 40, 41, 42, 43, 44, 45, 46, 47, 48, 49, 50] (by decide +kernel) (by decide +kernel)
set_option maxRecDepth 20000 in
theorem gX12_toolsAt_X12_answer : GoodIn wsX12_toolsAt (wsV RX12 153 RX12 yX12_answer wsX12_answer) := goodIn_app (goodIn_of _ (by decide +kernel)) ggX12_toolsAt_X12_answer
theorem dX12_toolsAt_0 : decode cX12_toolsAt 0 = .ok (.iload_n 1, 1) := by decide +kernel
theorem dX12_toolsAt_1 : decode cX12_toolsAt 1 = .ok (.i2l, 1) := by decide +kernel
theorem dX12_toolsAt_2 : decode cX12_toolsAt 2 = .ok (.lconst 0, 1) := by decide +kernel
theorem dX12_toolsAt_3 : decode cX12_toolsAt 3 = .ok (.aload_n 0, 1) := by decide +kernel
theorem dX12_toolsAt_4 : decode cX12_toolsAt 4 = .ok (.getfield 485, 3) := by decide +kernel
theorem dX12_toolsAt_7 : decode cX12_toolsAt 7 = .ok (.iconst 1, 1) := by decide +kernel
theorem dX12_toolsAt_8 : decode cX12_toolsAt 8 = .ok (.isub, 1) := by decide +kernel
theorem dX12_toolsAt_9 : decode cX12_toolsAt 9 = .ok (.i2l, 1) := by decide +kernel
theorem dX12_toolsAt_10 : decode cX12_toolsAt 10 = .ok (.invokestatic 101, 3) := by decide +kernel
theorem dX12_toolsAt_13 : decode cX12_toolsAt 13 = .ok (.ifCond .ne 9, 3) := by decide +kernel
theorem dX12_toolsAt_16 : decode cX12_toolsAt 16 = .ok (.aload_n 0, 1) := by decide +kernel
theorem dX12_toolsAt_17 : decode cX12_toolsAt 17 = .ok (.iconst 1, 1) := by decide +kernel
theorem dX12_toolsAt_18 : decode cX12_toolsAt 18 = .ok (.invokevirtual 143, 3) := by decide +kernel
theorem dX12_toolsAt_21 : decode cX12_toolsAt 21 = .ok (.ireturn, 1) := by decide +kernel
theorem dX12_toolsAt_22 : decode cX12_toolsAt 22 = .ok (.iload_n 2, 1) := by decide +kernel
theorem dX12_toolsAt_23 : decode cX12_toolsAt 23 = .ok (.i2l, 1) := by decide +kernel
theorem dX12_toolsAt_24 : decode cX12_toolsAt 24 = .ok (.lconst 0, 1) := by decide +kernel
theorem dX12_toolsAt_25 : decode cX12_toolsAt 25 = .ok (.ldc2_w 249, 3) := by decide +kernel
theorem dX12_toolsAt_28 : decode cX12_toolsAt 28 = .ok (.invokestatic 101, 3) := by decide +kernel
theorem dX12_toolsAt_31 : decode cX12_toolsAt 31 = .ok (.ifCond .ne 9, 3) := by decide +kernel
theorem dX12_toolsAt_34 : decode cX12_toolsAt 34 = .ok (.aload_n 0, 1) := by decide +kernel
theorem dX12_toolsAt_35 : decode cX12_toolsAt 35 = .ok (.iconst 2, 1) := by decide +kernel
theorem dX12_toolsAt_36 : decode cX12_toolsAt 36 = .ok (.invokevirtual 143, 3) := by decide +kernel
theorem dX12_toolsAt_39 : decode cX12_toolsAt 39 = .ok (.ireturn, 1) := by decide +kernel
theorem dX12_toolsAt_40 : decode cX12_toolsAt 40 = .ok (.aload_n 0, 1) := by decide +kernel
theorem dX12_toolsAt_41 : decode cX12_toolsAt 41 = .ok (.getfield 48, 3) := by decide +kernel
theorem dX12_toolsAt_44 : decode cX12_toolsAt 44 = .ok (.iload_n 1, 1) := by decide +kernel
theorem dX12_toolsAt_45 : decode cX12_toolsAt 45 = .ok (.iaload, 1) := by decide +kernel
theorem dX12_toolsAt_46 : decode cX12_toolsAt 46 = .ok (.istore_n 3, 1) := by decide +kernel
theorem dX12_toolsAt_47 : decode cX12_toolsAt 47 = .ok (.aload_n 0, 1) := by decide +kernel
theorem dX12_toolsAt_48 : decode cX12_toolsAt 48 = .ok (.getfield 48, 3) := by decide +kernel
theorem dX12_toolsAt_51 : decode cX12_toolsAt 51 = .ok (.iload_n 1, 1) := by decide +kernel
theorem dX12_toolsAt_52 : decode cX12_toolsAt 52 = .ok (.iload_n 2, 1) := by decide +kernel
theorem dX12_toolsAt_53 : decode cX12_toolsAt 53 = .ok (.iastore, 1) := by decide +kernel
theorem dX12_toolsAt_54 : decode cX12_toolsAt 54 = .ok (.aload_n 0, 1) := by decide +kernel
theorem dX12_toolsAt_55 : decode cX12_toolsAt 55 = .ok (.iload_n 3, 1) := by decide +kernel
theorem dX12_toolsAt_56 : decode cX12_toolsAt 56 = .ok (.invokevirtual 153, 3) := by decide +kernel
theorem dX12_toolsAt_59 : decode cX12_toolsAt 59 = .ok (.ireturn, 1) := by decide +kernel
set_option maxRecDepth 20000 in
theorem ggX12_route_X12_isGear : GoodIn wsX12_route wsX12_isGear := goodIn_r _ [5, 6, 7, 8, 9, 10, 11, 12, 13, 14, 4, 15, 73, 74, 75, 76, 77, 78, 79, 80, 81, 82, 83, 84, 85, 86, 87, 88, 89, 90, 91, 92, 93, 94, 95, 96, 97, 98, 99, 100, 101, 102, 103, 104, 105, 106, 107, 108, 109] (by decide +kernel) (by decide +kernel)
set_option maxRecDepth 20000 in
theorem gX12_route_X12_isGear : GoodIn wsX12_route (wsV RX12 121 RX12 yX12_isGear wsX12_isGear) := goodIn_app (goodIn_of _ (by decide +kernel)) ggX12_route_X12_isGear
set_option maxRecDepth 20000 in
theorem ggX12_route_X12_fails : GoodIn wsX12_route wsX12_fails := goodIn_r _ [19, 20, 73, 74, 75, 76, 77, 78, 79, 80, 81, 82, 83, 84, 85, 86, 87, 88, 89, 90, 91, 92, 93, 94, 95, 96, 97, 98, 99, 100, 101, 102, 103, 104, 105, 106] (by decide +kernel) (by decide +kernel)
set_option maxRecDepth 20000 in
theorem gX12_route_X12_fails : GoodIn wsX12_route (wsV RX12 143 RX12 yX12_fails wsX12_fails) := goodIn_app (goodIn_of _ (by decide +kernel)) ggX12_route_X12_fails
set_option maxRecDepth 20000 in
theorem ggX12_route_X12_isKind : GoodIn wsX12_route wsX12_isKind := goodIn_r _ [23] (by decide +kernel) (by decide +kernel)
set_option maxRecDepth 20000 in
theorem gX12_route_X12_isKind : GoodIn wsX12_route (va_wsS RX12 481 yX12_isKind wsX12_isKind) := goodIn_app (goodIn_of _ (by decide +kernel)) ggX12_route_X12_isKind
set_option maxRecDepth 20000 in
theorem ggX12_route_X12_gearAt : GoodIn wsX12_route wsX12_gearAt := goodIn_r _ [27, 6, 28, 29, 30, 31, 10, 32, 12, 33, 34, 35, 36, 37, 38, 39, 40, 41, 42, 43, 44, 45, 73, 74, 75, 76, 77, 78, 79, 80, 81, 82, 83, 84, 85, 86, 87, 88, 89, 90, 91, 92, 93, 94, 95, 96, 97, 98, 99, 100, 101, 102, 103, 104, 105, 106, 107, 108, 109] (by decide +kernel) (by decide +kernel)
set_option maxRecDepth 20000 in
theorem gX12_route_X12_gearAt : GoodIn wsX12_route (wsV RX12 111 RX12 yX12_gearAt wsX12_gearAt) := goodIn_app (goodIn_of _ (by decide +kernel)) ggX12_route_X12_gearAt
set_option maxRecDepth 20000 in
theorem ggX12_route_X12_answer : GoodIn wsX12_route wsX12_answer := goodIn_r _ [49, 20, 73, 74, 75, 76, 77, 78, 79, 80, 81, 82, 83, 84, 85, 86, 87, 88, 89, 90, 91, 92, 93, 94, 95, 96, 97, 98, 99, 100, 101, 102, 103, 104, 105, 106] (by decide +kernel) (by decide +kernel)
set_option maxRecDepth 20000 in
theorem gX12_route_X12_answer : GoodIn wsX12_route (wsV RX12 153 RX12 yX12_answer wsX12_answer) := goodIn_app (goodIn_of _ (by decide +kernel)) ggX12_route_X12_answer
theorem dX12_route_0 : decode cX12_route 0 = .ok (.aload_n 0, 1) := by decide +kernel
theorem dX12_route_1 : decode cX12_route 1 = .ok (.iload_n 1, 1) := by decide +kernel
theorem dX12_route_2 : decode cX12_route 2 = .ok (.invokevirtual 121, 3) := by decide +kernel
theorem dX12_route_5 : decode cX12_route 5 = .ok (.ifCond .ne 9, 3) := by decide +kernel
theorem dX12_route_8 : decode cX12_route 8 = .ok (.aload_n 0, 1) := by decide +kernel
theorem dX12_route_9 : decode cX12_route 9 = .ok (.iconst 1, 1) := by decide +kernel
theorem dX12_route_10 : decode cX12_route 10 = .ok (.invokevirtual 143, 3) := by decide +kernel
theorem dX12_route_13 : decode cX12_route 13 = .ok (.ireturn, 1) := by decide +kernel
theorem dX12_route_14 : decode cX12_route 14 = .ok (.iload_n 2, 1) := by decide +kernel
theorem dX12_route_15 : decode cX12_route 15 = .ok (.invokestatic 481, 3) := by decide +kernel
theorem dX12_route_18 : decode cX12_route 18 = .ok (.ifCond .ne 9, 3) := by decide +kernel
theorem dX12_route_21 : decode cX12_route 21 = .ok (.aload_n 0, 1) := by decide +kernel
theorem dX12_route_22 : decode cX12_route 22 = .ok (.iconst 2, 1) := by decide +kernel
theorem dX12_route_23 : decode cX12_route 23 = .ok (.invokevirtual 143, 3) := by decide +kernel
theorem dX12_route_26 : decode cX12_route 26 = .ok (.ireturn, 1) := by decide +kernel
theorem dX12_route_27 : decode cX12_route 27 = .ok (.aload_n 0, 1) := by decide +kernel
theorem dX12_route_28 : decode cX12_route 28 = .ok (.iload_n 1, 1) := by decide +kernel
theorem dX12_route_29 : decode cX12_route 29 = .ok (.invokevirtual 111, 3) := by decide +kernel
theorem dX12_route_32 : decode cX12_route 32 = .ok (.astore_n 3, 1) := by decide +kernel
theorem dX12_route_33 : decode cX12_route 33 = .ok (.aload_n 3, 1) := by decide +kernel
theorem dX12_route_34 : decode cX12_route 34 = .ok (.getfield 488, 3) := by decide +kernel
theorem dX12_route_37 : decode cX12_route 37 = .ok (.bipush 8, 2) := by decide +kernel
theorem dX12_route_39 : decode cX12_route 39 = .ok (.if_icmp .ne 9, 3) := by decide +kernel
theorem dX12_route_42 : decode cX12_route 42 = .ok (.aload_n 0, 1) := by decide +kernel
theorem dX12_route_43 : decode cX12_route 43 = .ok (.iconst 3, 1) := by decide +kernel
theorem dX12_route_44 : decode cX12_route 44 = .ok (.invokevirtual 143, 3) := by decide +kernel
theorem dX12_route_47 : decode cX12_route 47 = .ok (.ireturn, 1) := by decide +kernel
theorem dX12_route_48 : decode cX12_route 48 = .ok (.aload_n 3, 1) := by decide +kernel
theorem dX12_route_49 : decode cX12_route 49 = .ok (.getfield 490, 3) := by decide +kernel
theorem dX12_route_52 : decode cX12_route 52 = .ok (.aload_n 3, 1) := by decide +kernel
theorem dX12_route_53 : decode cX12_route 53 = .ok (.getfield 488, 3) := by decide +kernel
theorem dX12_route_56 : decode cX12_route 56 = .ok (.iload_n 2, 1) := by decide +kernel
theorem dX12_route_57 : decode cX12_route 57 = .ok (.castore, 1) := by decide +kernel
theorem dX12_route_58 : decode cX12_route 58 = .ok (.aload_n 3, 1) := by decide +kernel
theorem dX12_route_59 : decode cX12_route 59 = .ok (.dup, 1) := by decide +kernel
theorem dX12_route_60 : decode cX12_route 60 = .ok (.getfield 488, 3) := by decide +kernel
theorem dX12_route_63 : decode cX12_route 63 = .ok (.iconst 1, 1) := by decide +kernel
theorem dX12_route_64 : decode cX12_route 64 = .ok (.iadd, 1) := by decide +kernel
theorem dX12_route_65 : decode cX12_route 65 = .ok (.putfield 488, 3) := by decide +kernel
theorem dX12_route_68 : decode cX12_route 68 = .ok (.aload_n 0, 1) := by decide +kernel
theorem dX12_route_69 : decode cX12_route 69 = .ok (.aload_n 3, 1) := by decide +kernel
theorem dX12_route_70 : decode cX12_route 70 = .ok (.getfield 488, 3) := by decide +kernel
theorem dX12_route_73 : decode cX12_route 73 = .ok (.invokevirtual 153, 3) := by decide +kernel
theorem dX12_route_76 : decode cX12_route 76 = .ok (.ireturn, 1) := by decide +kernel
theorem dX12_goesThrough_0 : decode cX12_goesThrough 0 = .ok (.iconst 0, 1) := by decide +kernel
theorem dX12_goesThrough_1 : decode cX12_goesThrough 1 = .ok (.istore_n 2, 1) := by decide +kernel
theorem dX12_goesThrough_2 : decode cX12_goesThrough 2 = .ok (.iconst 0, 1) := by decide +kernel
theorem dX12_goesThrough_3 : decode cX12_goesThrough 3 = .ok (.istore_n 3, 1) := by decide +kernel
theorem dX12_goesThrough_4 : decode cX12_goesThrough 4 = .ok (.iload_n 3, 1) := by decide +kernel
theorem dX12_goesThrough_5 : decode cX12_goesThrough 5 = .ok (.aload_n 1, 1) := by decide +kernel
theorem dX12_goesThrough_6 : decode cX12_goesThrough 6 = .ok (.getfield 488, 3) := by decide +kernel
theorem dX12_goesThrough_9 : decode cX12_goesThrough 9 = .ok (.if_icmp .ge 124, 3) := by decide +kernel
theorem dX12_goesThrough_12 : decode cX12_goesThrough 12 = .ok (.iconst (-1), 1) := by decide +kernel
theorem dX12_goesThrough_13 : decode cX12_goesThrough 13 = .ok (.istore 4, 2) := by decide +kernel
theorem dX12_goesThrough_15 : decode cX12_goesThrough 15 = .ok (.iconst 0, 1) := by decide +kernel
theorem dX12_goesThrough_16 : decode cX12_goesThrough 16 = .ok (.istore 5, 2) := by decide +kernel
theorem dX12_goesThrough_18 : decode cX12_goesThrough 18 = .ok (.iconst 0, 1) := by decide +kernel
theorem dX12_goesThrough_19 : decode cX12_goesThrough 19 = .ok (.istore 6, 2) := by decide +kernel
theorem dX12_goesThrough_21 : decode cX12_goesThrough 21 = .ok (.iload 6, 2) := by decide +kernel
theorem dX12_goesThrough_23 : decode cX12_goesThrough 23 = .ok (.aload_n 0, 1) := by decide +kernel
theorem dX12_goesThrough_24 : decode cX12_goesThrough 24 = .ok (.getfield 485, 3) := by decide +kernel
theorem dX12_goesThrough_27 : decode cX12_goesThrough 27 = .ok (.if_icmp .ge 80, 3) := by decide +kernel
theorem dX12_goesThrough_30 : decode cX12_goesThrough 30 = .ok (.iload_n 2, 1) := by decide +kernel
theorem dX12_goesThrough_31 : decode cX12_goesThrough 31 = .ok (.aload_n 0, 1) := by decide +kernel
theorem dX12_goesThrough_32 : decode cX12_goesThrough 32 = .ok (.getfield 51, 3) := by decide +kernel
theorem dX12_goesThrough_35 : decode cX12_goesThrough 35 = .ok (.iload 6, 2) := by decide +kernel
theorem dX12_goesThrough_37 : decode cX12_goesThrough 37 = .ok (.iaload, 1) := by decide +kernel
theorem dX12_goesThrough_38 : decode cX12_goesThrough 38 = .ok (.aload_n 0, 1) := by decide +kernel
theorem dX12_goesThrough_39 : decode cX12_goesThrough 39 = .ok (.getfield 48, 3) := by decide +kernel
theorem dX12_goesThrough_42 : decode cX12_goesThrough 42 = .ok (.iload 6, 2) := by decide +kernel
theorem dX12_goesThrough_44 : decode cX12_goesThrough 44 = .ok (.iaload, 1) := by decide +kernel
theorem dX12_goesThrough_45 : decode cX12_goesThrough 45 = .ok (.invokestatic 418, 3) := by decide +kernel
theorem dX12_goesThrough_48 : decode cX12_goesThrough 48 = .ok (.invokestatic 418, 3) := by decide +kernel
theorem dX12_goesThrough_51 : decode cX12_goesThrough 51 = .ok (.aload_n 0, 1) := by decide +kernel
theorem dX12_goesThrough_52 : decode cX12_goesThrough 52 = .ok (.getfield 45, 3) := by decide +kernel
theorem dX12_goesThrough_55 : decode cX12_goesThrough 55 = .ok (.iload 6, 2) := by decide +kernel
theorem dX12_goesThrough_57 : decode cX12_goesThrough 57 = .ok (.iaload, 1) := by decide +kernel
theorem dX12_goesThrough_58 : decode cX12_goesThrough 58 = .ok (.iadd, 1) := by decide +kernel
theorem dX12_goesThrough_59 : decode cX12_goesThrough 59 = .ok (.istore 7, 2) := by decide +kernel
theorem dX12_goesThrough_61 : decode cX12_goesThrough 61 = .ok (.aload_n 0, 1) := by decide +kernel
theorem dX12_goesThrough_62 : decode cX12_goesThrough 62 = .ok (.getfield 41, 3) := by decide +kernel
theorem dX12_goesThrough_65 : decode cX12_goesThrough 65 = .ok (.iload 6, 2) := by decide +kernel
theorem dX12_goesThrough_67 : decode cX12_goesThrough 67 = .ok (.caload, 1) := by decide +kernel
theorem dX12_goesThrough_68 : decode cX12_goesThrough 68 = .ok (.aload_n 1, 1) := by decide +kernel
theorem dX12_goesThrough_69 : decode cX12_goesThrough 69 = .ok (.getfield 490, 3) := by decide +kernel
theorem dX12_goesThrough_72 : decode cX12_goesThrough 72 = .ok (.iload_n 3, 1) := by decide +kernel
theorem dX12_goesThrough_73 : decode cX12_goesThrough 73 = .ok (.caload, 1) := by decide +kernel
theorem dX12_goesThrough_74 : decode cX12_goesThrough 74 = .ok (.if_icmp .ne 27, 3) := by decide +kernel
theorem dX12_goesThrough_77 : decode cX12_goesThrough 77 = .ok (.iload 4, 2) := by decide +kernel
theorem dX12_goesThrough_79 : decode cX12_goesThrough 79 = .ok (.iconst (-1), 1) := by decide +kernel
theorem dX12_goesThrough_80 : decode cX12_goesThrough 80 = .ok (.if_icmp .eq 13, 3) := by decide +kernel
theorem dX12_goesThrough_83 : decode cX12_goesThrough 83 = .ok (.iload 7, 2) := by decide +kernel
theorem dX12_goesThrough_85 : decode cX12_goesThrough 85 = .ok (.iload 5, 2) := by decide +kernel
theorem dX12_goesThrough_87 : decode cX12_goesThrough 87 = .ok (.if_icmp .lt 6, 3) := by decide +kernel
theorem dX12_goesThrough_90 : decode cX12_goesThrough 90 = .ok (.goto 11, 3) := by decide +kernel
theorem dX12_goesThrough_93 : decode cX12_goesThrough 93 = .ok (.iload 6, 2) := by decide +kernel
theorem dX12_goesThrough_95 : decode cX12_goesThrough 95 = .ok (.istore 4, 2) := by decide +kernel
theorem dX12_goesThrough_97 : decode cX12_goesThrough 97 = .ok (.iload 7, 2) := by decide +kernel
theorem dX12_goesThrough_99 : decode cX12_goesThrough 99 = .ok (.istore 5, 2) := by decide +kernel
theorem dX12_goesThrough_101 : decode cX12_goesThrough 101 = .ok (.iinc 6 1, 3) := by decide +kernel
theorem dX12_goesThrough_104 : decode cX12_goesThrough 104 = .ok (.goto (-83), 3) := by decide +kernel
theorem dX12_goesThrough_107 : decode cX12_goesThrough 107 = .ok (.iload 4, 2) := by decide +kernel
theorem dX12_goesThrough_109 : decode cX12_goesThrough 109 = .ok (.iconst (-1), 1) := by decide +kernel
theorem dX12_goesThrough_110 : decode cX12_goesThrough 110 = .ok (.if_icmp .ne 5, 3) := by decide +kernel
theorem dX12_goesThrough_113 : decode cX12_goesThrough 113 = .ok (.iconst (-1), 1) := by decide +kernel
theorem dX12_goesThrough_114 : decode cX12_goesThrough 114 = .ok (.ireturn, 1) := by decide +kernel
theorem dX12_goesThrough_115 : decode cX12_goesThrough 115 = .ok (.aload_n 0, 1) := by decide +kernel
theorem dX12_goesThrough_116 : decode cX12_goesThrough 116 = .ok (.getfield 51, 3) := by decide +kernel
theorem dX12_goesThrough_119 : decode cX12_goesThrough 119 = .ok (.iload 4, 2) := by decide +kernel
theorem dX12_goesThrough_121 : decode cX12_goesThrough 121 = .ok (.iload 5, 2) := by decide +kernel
theorem dX12_goesThrough_123 : decode cX12_goesThrough 123 = .ok (.iastore, 1) := by decide +kernel
theorem dX12_goesThrough_124 : decode cX12_goesThrough 124 = .ok (.iload 5, 2) := by decide +kernel
theorem dX12_goesThrough_126 : decode cX12_goesThrough 126 = .ok (.istore_n 2, 1) := by decide +kernel
theorem dX12_goesThrough_127 : decode cX12_goesThrough 127 = .ok (.iinc 3 1, 3) := by decide +kernel
theorem dX12_goesThrough_130 : decode cX12_goesThrough 130 = .ok (.goto (-126), 3) := by decide +kernel
theorem dX12_goesThrough_133 : decode cX12_goesThrough 133 = .ok (.iload_n 2, 1) := by decide +kernel
theorem dX12_goesThrough_134 : decode cX12_goesThrough 134 = .ok (.ireturn, 1) := by decide +kernel
set_option maxRecDepth 20000 in
theorem ggX12_doneAt_X12_isGear : GoodIn wsX12_doneAt wsX12_isGear := goodIn_r _ [7, 2, 8, 9, 10, 11, 12, 13, 14, 15, 6, 16, 60, 61, 62, 63, 64, 65, 66, 67, 68, 69, 70, 71, 72, 73, 74, 75, 76, 77, 78, 79, 80, 81, 82, 83, 84, 85, 86, 87, 88, 89, 90, 91, 92, 93, 94, 95, 96] (by decide +kernel) (by decide +kernel)
set_option maxRecDepth 20000 in
theorem gX12_doneAt_X12_isGear : GoodIn wsX12_doneAt (wsV RX12 121 RX12 yX12_isGear wsX12_isGear) := goodIn_app (goodIn_of _ (by decide +kernel)) ggX12_doneAt_X12_isGear
set_option maxRecDepth 20000 in
theorem ggX12_doneAt_X12_fails : GoodIn wsX12_doneAt wsX12_fails := goodIn_r _ [20, 21, 60, 61, 62, 63, 64, 65, 66, 67, 68, 69, 70, 71, 72, 73, 74, 75, 76, 77, 78, 79, 80, 81, 82, 83, 84, 85, 86, 87, 88, 89, 90, 91, 92, 93] (by decide +kernel) (by decide +kernel)
set_option maxRecDepth 20000 in
theorem gX12_doneAt_X12_fails : GoodIn wsX12_doneAt (wsV RX12 143 RX12 yX12_fails wsX12_fails) := goodIn_app (goodIn_of _ (by decide +kernel)) ggX12_doneAt_X12_fails
set_option maxRecDepth 20000 in
theorem ggX12_doneAt_Jx4a65c_size_8abf5 : GoodIn wsX12_doneAt wsJx4a65c_size_8abf5 := goodIn_r _ [12, 13, 94, 95, 96] (by decide +kernel) (by decide +kernel)
set_option maxRecDepth 20000 in
theorem gX12_doneAt_Jx4a65c_size_8abf5 : GoodIn wsX12_doneAt (wsV RX12 97 RJx4a65c yJx4a65c_size_8abf5 wsJx4a65c_size_8abf5) := goodIn_app (goodIn_of _ (by decide +kernel)) ggX12_doneAt_Jx4a65c_size_8abf5
set_option maxRecDepth 20000 in
theorem ggX12_doneAt_X12_gearAt : GoodIn wsX12_doneAt wsX12_gearAt := goodIn_r _ [25, 2, 26, 27, 28, 29, 11, 30, 13, 31, 32, 33, 34, 35, 36, 37, 38, 39, 40, 41, 42, 43, 60, 61, 62, 63, 64, 65, 66, 67, 68, 69, 70, 71, 72, 73, 74, 75, 76, 77, 78, 79, 80, 81, 82, 83, 84, 85, 86, 87, 88, 89, 90, 91, 92, 93, 94, 95, 96] (by decide +kernel) (by decide +kernel)
set_option maxRecDepth 20000 in
theorem gX12_doneAt_X12_gearAt : GoodIn wsX12_doneAt (wsV RX12 111 RX12 yX12_gearAt wsX12_gearAt) := goodIn_app (goodIn_of _ (by decide +kernel)) ggX12_doneAt_X12_gearAt
set_option maxRecDepth 20000 in
theorem ggX12_doneAt_X12_goesThrough : GoodIn wsX12_doneAt wsX12_goesThrough := goodIn_ca (goodIn_r _ [47, 48, 1, 49, 50, 51, 52, 53, 54, 55, 97, 98, 99, 100, 101, 102, 103, 104, 105, 106, 107, 108, 109, 110, 111, 112, 113, 114, 115, 116, 117, 118, 119, 60, 61, 62, 63, 64, 65, 66, 67, 68, 69, 70, 71, 72, 73, 74, 75, 76, 77, 78, 79, 80, 81, 82, 83, 84, 85, 86, 87, 88, 89, 90, 91, 92, 93] (by decide +kernel) (by decide +kernel)) (goodIn_sub (fun _ h => List.mem_cons_of_mem _ (List.mem_append_right _ h)) (by decide +kernel))
set_option maxRecDepth 20000 in
theorem gX12_doneAt_X12_goesThrough : GoodIn wsX12_doneAt (wsV RX12 493 RX12 yX12_goesThrough wsX12_goesThrough) := goodIn_app (goodIn_of _ (by decide +kernel)) ggX12_doneAt_X12_goesThrough
set_option maxRecDepth 20000 in
theorem ggX12_doneAt_X12_answer : GoodIn wsX12_doneAt wsX12_answer := goodIn_r _ [59, 21, 60, 61, 62, 63, 64, 65, 66, 67, 68, 69, 70, 71, 72, 73, 74, 75, 76, 77, 78, 79, 80, 81, 82, 83, 84, 85, 86, 87, 88, 89, 90, 91, 92, 93] (by decide +kernel) (by decide +kernel)
set_option maxRecDepth 20000 in
theorem gX12_doneAt_X12_answer : GoodIn wsX12_doneAt (wsV RX12 153 RX12 yX12_answer wsX12_answer) := goodIn_app (goodIn_of _ (by decide +kernel)) ggX12_doneAt_X12_answer
theorem dX12_doneAt_0 : decode cX12_doneAt 0 = .ok (.aload_n 0, 1) := by decide +kernel
theorem dX12_doneAt_1 : decode cX12_doneAt 1 = .ok (.iload_n 1, 1) := by decide +kernel
theorem dX12_doneAt_2 : decode cX12_doneAt 2 = .ok (.invokevirtual 121, 3) := by decide +kernel
theorem dX12_doneAt_5 : decode cX12_doneAt 5 = .ok (.ifCond .ne 9, 3) := by decide +kernel
theorem dX12_doneAt_8 : decode cX12_doneAt 8 = .ok (.aload_n 0, 1) := by decide +kernel
theorem dX12_doneAt_9 : decode cX12_doneAt 9 = .ok (.iconst 1, 1) := by decide +kernel
theorem dX12_doneAt_10 : decode cX12_doneAt 10 = .ok (.invokevirtual 143, 3) := by decide +kernel
theorem dX12_doneAt_13 : decode cX12_doneAt 13 = .ok (.ireturn, 1) := by decide +kernel
theorem dX12_doneAt_14 : decode cX12_doneAt 14 = .ok (.iconst 0, 1) := by decide +kernel
theorem dX12_doneAt_15 : decode cX12_doneAt 15 = .ok (.istore_n 2, 1) := by decide +kernel
theorem dX12_doneAt_16 : decode cX12_doneAt 16 = .ok (.iload_n 2, 1) := by decide +kernel
theorem dX12_doneAt_17 : decode cX12_doneAt 17 = .ok (.bipush 6, 2) := by decide +kernel
theorem dX12_doneAt_19 : decode cX12_doneAt 19 = .ok (.if_icmp .ge 16, 3) := by decide +kernel
theorem dX12_doneAt_22 : decode cX12_doneAt 22 = .ok (.aload_n 0, 1) := by decide +kernel
theorem dX12_doneAt_23 : decode cX12_doneAt 23 = .ok (.getfield 51, 3) := by decide +kernel
theorem dX12_doneAt_26 : decode cX12_doneAt 26 = .ok (.iload_n 2, 1) := by decide +kernel
theorem dX12_doneAt_27 : decode cX12_doneAt 27 = .ok (.iconst 0, 1) := by decide +kernel
theorem dX12_doneAt_28 : decode cX12_doneAt 28 = .ok (.iastore, 1) := by decide +kernel
theorem dX12_doneAt_29 : decode cX12_doneAt 29 = .ok (.iinc 2 1, 3) := by decide +kernel
theorem dX12_doneAt_32 : decode cX12_doneAt 32 = .ok (.goto (-16), 3) := by decide +kernel
theorem dX12_doneAt_35 : decode cX12_doneAt 35 = .ok (.iconst 0, 1) := by decide +kernel
theorem dX12_doneAt_36 : decode cX12_doneAt 36 = .ok (.istore_n 2, 1) := by decide +kernel
theorem dX12_doneAt_37 : decode cX12_doneAt 37 = .ok (.iconst 0, 1) := by decide +kernel
theorem dX12_doneAt_38 : decode cX12_doneAt 38 = .ok (.istore_n 3, 1) := by decide +kernel
theorem dX12_doneAt_39 : decode cX12_doneAt 39 = .ok (.iconst 0, 1) := by decide +kernel
theorem dX12_doneAt_40 : decode cX12_doneAt 40 = .ok (.istore 4, 2) := by decide +kernel
theorem dX12_doneAt_42 : decode cX12_doneAt 42 = .ok (.iload 4, 2) := by decide +kernel
theorem dX12_doneAt_44 : decode cX12_doneAt 44 = .ok (.aload_n 0, 1) := by decide +kernel
theorem dX12_doneAt_45 : decode cX12_doneAt 45 = .ok (.getfield 24, 3) := by decide +kernel
theorem dX12_doneAt_48 : decode cX12_doneAt 48 = .ok (.invokevirtual 97, 3) := by decide +kernel
theorem dX12_doneAt_51 : decode cX12_doneAt 51 = .ok (.if_icmp .ge 50, 3) := by decide +kernel
theorem dX12_doneAt_54 : decode cX12_doneAt 54 = .ok (.aload_n 0, 1) := by decide +kernel
theorem dX12_doneAt_55 : decode cX12_doneAt 55 = .ok (.aload_n 0, 1) := by decide +kernel
theorem dX12_doneAt_56 : decode cX12_doneAt 56 = .ok (.iload 4, 2) := by decide +kernel
theorem dX12_doneAt_58 : decode cX12_doneAt 58 = .ok (.invokevirtual 111, 3) := by decide +kernel
theorem dX12_doneAt_61 : decode cX12_doneAt 61 = .ok (.invokevirtual 493, 3) := by decide +kernel
theorem dX12_doneAt_64 : decode cX12_doneAt 64 = .ok (.istore 5, 2) := by decide +kernel
theorem dX12_doneAt_66 : decode cX12_doneAt 66 = .ok (.iload_n 3, 1) := by decide +kernel
theorem dX12_doneAt_67 : decode cX12_doneAt 67 = .ok (.ifCond .ne 9, 3) := by decide +kernel
theorem dX12_doneAt_70 : decode cX12_doneAt 70 = .ok (.iload 5, 2) := by decide +kernel
theorem dX12_doneAt_72 : decode cX12_doneAt 72 = .ok (.iconst (-1), 1) := by decide +kernel
theorem dX12_doneAt_73 : decode cX12_doneAt 73 = .ok (.if_icmp .ne 7, 3) := by decide +kernel
theorem dX12_doneAt_76 : decode cX12_doneAt 76 = .ok (.iconst 1, 1) := by decide +kernel
theorem dX12_doneAt_77 : decode cX12_doneAt 77 = .ok (.goto 4, 3) := by decide +kernel
theorem dX12_doneAt_80 : decode cX12_doneAt 80 = .ok (.iconst 0, 1) := by decide +kernel
theorem dX12_doneAt_81 : decode cX12_doneAt 81 = .ok (.istore_n 3, 1) := by decide +kernel
theorem dX12_doneAt_82 : decode cX12_doneAt 82 = .ok (.iload 4, 2) := by decide +kernel
theorem dX12_doneAt_84 : decode cX12_doneAt 84 = .ok (.iload_n 1, 1) := by decide +kernel
theorem dX12_doneAt_85 : decode cX12_doneAt 85 = .ok (.if_icmp .ne 8, 3) := by decide +kernel
theorem dX12_doneAt_88 : decode cX12_doneAt 88 = .ok (.iload 5, 2) := by decide +kernel
theorem dX12_doneAt_90 : decode cX12_doneAt 90 = .ok (.goto 4, 3) := by decide +kernel
theorem dX12_doneAt_93 : decode cX12_doneAt 93 = .ok (.iload_n 2, 1) := by decide +kernel
theorem dX12_doneAt_94 : decode cX12_doneAt 94 = .ok (.istore_n 2, 1) := by decide +kernel
theorem dX12_doneAt_95 : decode cX12_doneAt 95 = .ok (.iinc 4 1, 3) := by decide +kernel
theorem dX12_doneAt_98 : decode cX12_doneAt 98 = .ok (.goto (-56), 3) := by decide +kernel
theorem dX12_doneAt_101 : decode cX12_doneAt 101 = .ok (.iload_n 3, 1) := by decide +kernel
theorem dX12_doneAt_102 : decode cX12_doneAt 102 = .ok (.ifCond .eq 11, 3) := by decide +kernel
theorem dX12_doneAt_105 : decode cX12_doneAt 105 = .ok (.aload_n 0, 1) := by decide +kernel
theorem dX12_doneAt_106 : decode cX12_doneAt 106 = .ok (.iconst 2, 1) := by decide +kernel
theorem dX12_doneAt_107 : decode cX12_doneAt 107 = .ok (.invokevirtual 143, 3) := by decide +kernel
theorem dX12_doneAt_110 : decode cX12_doneAt 110 = .ok (.goto 8, 3) := by decide +kernel
theorem dX12_doneAt_113 : decode cX12_doneAt 113 = .ok (.aload_n 0, 1) := by decide +kernel
theorem dX12_doneAt_114 : decode cX12_doneAt 114 = .ok (.iload_n 2, 1) := by decide +kernel
theorem dX12_doneAt_115 : decode cX12_doneAt 115 = .ok (.invokevirtual 153, 3) := by decide +kernel
theorem dX12_doneAt_118 : decode cX12_doneAt 118 = .ok (.ireturn, 1) := by decide +kernel
theorem dX12_isOldBetter_0 : decode cX12_isOldBetter 0 = .ok (.iload_n 2, 1) := by decide +kernel
theorem dX12_isOldBetter_1 : decode cX12_isOldBetter 1 = .ok (.invokestatic 215, 3) := by decide +kernel
theorem dX12_isOldBetter_4 : decode cX12_isOldBetter 4 = .ok (.aload_n 0, 1) := by decide +kernel
theorem dX12_isOldBetter_5 : decode cX12_isOldBetter 5 = .ok (.getfield 497, 3) := by decide +kernel
theorem dX12_isOldBetter_8 : decode cX12_isOldBetter 8 = .ok (.invokestatic 215, 3) := by decide +kernel
theorem dX12_isOldBetter_11 : decode cX12_isOldBetter 11 = .ok (.if_icmp .eq 23, 3) := by decide +kernel
theorem dX12_isOldBetter_14 : decode cX12_isOldBetter 14 = .ok (.iload_n 2, 1) := by decide +kernel
theorem dX12_isOldBetter_15 : decode cX12_isOldBetter 15 = .ok (.invokestatic 215, 3) := by decide +kernel
theorem dX12_isOldBetter_18 : decode cX12_isOldBetter 18 = .ok (.aload_n 0, 1) := by decide +kernel
theorem dX12_isOldBetter_19 : decode cX12_isOldBetter 19 = .ok (.getfield 497, 3) := by decide +kernel
theorem dX12_isOldBetter_22 : decode cX12_isOldBetter 22 = .ok (.invokestatic 215, 3) := by decide +kernel
theorem dX12_isOldBetter_25 : decode cX12_isOldBetter 25 = .ok (.if_icmp .ge 7, 3) := by decide +kernel
theorem dX12_isOldBetter_28 : decode cX12_isOldBetter 28 = .ok (.iconst 1, 1) := by decide +kernel
theorem dX12_isOldBetter_29 : decode cX12_isOldBetter 29 = .ok (.goto 4, 3) := by decide +kernel
theorem dX12_isOldBetter_32 : decode cX12_isOldBetter 32 = .ok (.iconst 0, 1) := by decide +kernel
theorem dX12_isOldBetter_33 : decode cX12_isOldBetter 33 = .ok (.ireturn, 1) := by decide +kernel
theorem dX12_isOldBetter_34 : decode cX12_isOldBetter 34 = .ok (.lload_n 3, 1) := by decide +kernel
theorem dX12_isOldBetter_35 : decode cX12_isOldBetter 35 = .ok (.lload 5, 2) := by decide +kernel
theorem dX12_isOldBetter_37 : decode cX12_isOldBetter 37 = .ok (.lcmp, 1) := by decide +kernel
theorem dX12_isOldBetter_38 : decode cX12_isOldBetter 38 = .ok (.ifCond .eq 16, 3) := by decide +kernel
theorem dX12_isOldBetter_41 : decode cX12_isOldBetter 41 = .ok (.lload_n 3, 1) := by decide +kernel
theorem dX12_isOldBetter_42 : decode cX12_isOldBetter 42 = .ok (.lload 5, 2) := by decide +kernel
theorem dX12_isOldBetter_44 : decode cX12_isOldBetter 44 = .ok (.lcmp, 1) := by decide +kernel
theorem dX12_isOldBetter_45 : decode cX12_isOldBetter 45 = .ok (.ifCond .ge 7, 3) := by decide +kernel
theorem dX12_isOldBetter_48 : decode cX12_isOldBetter 48 = .ok (.iconst 1, 1) := by decide +kernel
theorem dX12_isOldBetter_49 : decode cX12_isOldBetter 49 = .ok (.goto 4, 3) := by decide +kernel
theorem dX12_isOldBetter_52 : decode cX12_isOldBetter 52 = .ok (.iconst 0, 1) := by decide +kernel
theorem dX12_isOldBetter_53 : decode cX12_isOldBetter 53 = .ok (.ireturn, 1) := by decide +kernel
theorem dX12_isOldBetter_54 : decode cX12_isOldBetter 54 = .ok (.iload_n 1, 1) := by decide +kernel
theorem dX12_isOldBetter_55 : decode cX12_isOldBetter 55 = .ok (.aload_n 0, 1) := by decide +kernel
theorem dX12_isOldBetter_56 : decode cX12_isOldBetter 56 = .ok (.getfield 500, 3) := by decide +kernel
theorem dX12_isOldBetter_59 : decode cX12_isOldBetter 59 = .ok (.if_icmp .eq 19, 3) := by decide +kernel
theorem dX12_isOldBetter_62 : decode cX12_isOldBetter 62 = .ok (.iload_n 1, 1) := by decide +kernel
theorem dX12_isOldBetter_63 : decode cX12_isOldBetter 63 = .ok (.aload_n 0, 1) := by decide +kernel
theorem dX12_isOldBetter_64 : decode cX12_isOldBetter 64 = .ok (.getfield 500, 3) := by decide +kernel
theorem dX12_isOldBetter_67 : decode cX12_isOldBetter 67 = .ok (.if_icmp .ge 7, 3) := by decide +kernel
theorem dX12_isOldBetter_70 : decode cX12_isOldBetter 70 = .ok (.iconst 1, 1) := by decide +kernel
theorem dX12_isOldBetter_71 : decode cX12_isOldBetter 71 = .ok (.goto 20, 3) := by decide +kernel
theorem dX12_isOldBetter_74 : decode cX12_isOldBetter 74 = .ok (.iconst 0, 1) := by decide +kernel
theorem dX12_isOldBetter_75 : decode cX12_isOldBetter 75 = .ok (.goto 16, 3) := by decide +kernel
theorem dX12_isOldBetter_78 : decode cX12_isOldBetter 78 = .ok (.iload_n 2, 1) := by decide +kernel
theorem dX12_isOldBetter_79 : decode cX12_isOldBetter 79 = .ok (.aload_n 0, 1) := by decide +kernel
theorem dX12_isOldBetter_80 : decode cX12_isOldBetter 80 = .ok (.getfield 497, 3) := by decide +kernel
theorem dX12_isOldBetter_83 : decode cX12_isOldBetter 83 = .ok (.if_icmp .le 7, 3) := by decide +kernel
theorem dX12_isOldBetter_86 : decode cX12_isOldBetter 86 = .ok (.iconst 1, 1) := by decide +kernel
theorem dX12_isOldBetter_87 : decode cX12_isOldBetter 87 = .ok (.goto 4, 3) := by decide +kernel
theorem dX12_isOldBetter_90 : decode cX12_isOldBetter 90 = .ok (.iconst 0, 1) := by decide +kernel
theorem dX12_isOldBetter_91 : decode cX12_isOldBetter 91 = .ok (.ireturn, 1) := by decide +kernel
set_option maxRecDepth 20000 in
theorem ggX12_isMeant_X12_isOldBetter : GoodIn wsX12_isMeant wsX12_isOldBetter := goodIn_r _ [10, 11, 12, 13, 14, 5, 4, 15, 16, 17, 18, 19, 20, 21, 22, 23, 24, 25, 26, 27, 28, 29, 30, 31, 32, 33, 34, 35, 36, 37, 38, 39, 40, 41, 42, 43, 44, 45, 46, 47, 48] (by decide +kernel) (by decide +kernel)
set_option maxRecDepth 20000 in
theorem gX12_isMeant_X12_isOldBetter : GoodIn wsX12_isMeant (wsV RX12 503 RX12 yX12_isOldBetter wsX12_isOldBetter) := goodIn_app (goodIn_of _ (by decide +kernel)) ggX12_isMeant_X12_isOldBetter
theorem dX12_isMeant_0 : decode cX12_isMeant 0 = .ok (.ldc2_w 335, 3) := by decide +kernel
theorem dX12_isMeant_3 : decode cX12_isMeant 3 = .ok (.lstore 4, 2) := by decide +kernel
theorem dX12_isMeant_5 : decode cX12_isMeant 5 = .ok (.sipush 500, 3) := by decide +kernel
theorem dX12_isMeant_8 : decode cX12_isMeant 8 = .ok (.istore 6, 2) := by decide +kernel
theorem dX12_isMeant_10 : decode cX12_isMeant 10 = .ok (.iload 6, 2) := by decide +kernel
theorem dX12_isMeant_12 : decode cX12_isMeant 12 = .ok (.sipush 10000, 3) := by decide +kernel
theorem dX12_isMeant_15 : decode cX12_isMeant 15 = .ok (.if_icmp .gt 121, 3) := by decide +kernel
theorem dX12_isMeant_18 : decode cX12_isMeant 18 = .ok (.bipush (-50), 2) := by decide +kernel
theorem dX12_isMeant_20 : decode cX12_isMeant 20 = .ok (.istore 7, 2) := by decide +kernel
theorem dX12_isMeant_22 : decode cX12_isMeant 22 = .ok (.iload 7, 2) := by decide +kernel
theorem dX12_isMeant_24 : decode cX12_isMeant 24 = .ok (.bipush 50, 2) := by decide +kernel
theorem dX12_isMeant_26 : decode cX12_isMeant 26 = .ok (.if_icmp .gt 101, 3) := by decide +kernel
theorem dX12_isMeant_29 : decode cX12_isMeant 29 = .ok (.iload_n 1, 1) := by decide +kernel
theorem dX12_isMeant_30 : decode cX12_isMeant 30 = .ok (.i2l, 1) := by decide +kernel
theorem dX12_isMeant_31 : decode cX12_isMeant 31 = .ok (.iload 6, 2) := by decide +kernel
theorem dX12_isMeant_33 : decode cX12_isMeant 33 = .ok (.i2l, 1) := by decide +kernel
theorem dX12_isMeant_34 : decode cX12_isMeant 34 = .ok (.lmul, 1) := by decide +kernel
theorem dX12_isMeant_35 : decode cX12_isMeant 35 = .ok (.ldc2_w 3, 3) := by decide +kernel
theorem dX12_isMeant_38 : decode cX12_isMeant 38 = .ok (.iload 6, 2) := by decide +kernel
theorem dX12_isMeant_40 : decode cX12_isMeant 40 = .ok (.i2l, 1) := by decide +kernel
theorem dX12_isMeant_41 : decode cX12_isMeant 41 = .ok (.lmul, 1) := by decide +kernel
theorem dX12_isMeant_42 : decode cX12_isMeant 42 = .ok (.ladd, 1) := by decide +kernel
theorem dX12_isMeant_43 : decode cX12_isMeant 43 = .ok (.ldc2_w 3, 3) := by decide +kernel
theorem dX12_isMeant_46 : decode cX12_isMeant 46 = .ok (.iload 7, 2) := by decide +kernel
theorem dX12_isMeant_48 : decode cX12_isMeant 48 = .ok (.i2l, 1) := by decide +kernel
theorem dX12_isMeant_49 : decode cX12_isMeant 49 = .ok (.lmul, 1) := by decide +kernel
theorem dX12_isMeant_50 : decode cX12_isMeant 50 = .ok (.iload 6, 2) := by decide +kernel
theorem dX12_isMeant_52 : decode cX12_isMeant 52 = .ok (.i2l, 1) := by decide +kernel
theorem dX12_isMeant_53 : decode cX12_isMeant 53 = .ok (.lmul, 1) := by decide +kernel
theorem dX12_isMeant_54 : decode cX12_isMeant 54 = .ok (.ldc2_w 158, 3) := by decide +kernel
theorem dX12_isMeant_57 : decode cX12_isMeant 57 = .ok (.ldiv, 1) := by decide +kernel
theorem dX12_isMeant_58 : decode cX12_isMeant 58 = .ok (.ladd, 1) := by decide +kernel
theorem dX12_isMeant_59 : decode cX12_isMeant 59 = .ok (.lstore 8, 2) := by decide +kernel
theorem dX12_isMeant_61 : decode cX12_isMeant 61 = .ok (.lload 8, 2) := by decide +kernel
theorem dX12_isMeant_63 : decode cX12_isMeant 63 = .ok (.iload_n 2, 1) := by decide +kernel
theorem dX12_isMeant_64 : decode cX12_isMeant 64 = .ok (.i2l, 1) := by decide +kernel
theorem dX12_isMeant_65 : decode cX12_isMeant 65 = .ok (.lcmp, 1) := by decide +kernel
theorem dX12_isMeant_66 : decode cX12_isMeant 66 = .ok (.ifCond .lt 55, 3) := by decide +kernel
theorem dX12_isMeant_69 : decode cX12_isMeant 69 = .ok (.lload 8, 2) := by decide +kernel
theorem dX12_isMeant_71 : decode cX12_isMeant 71 = .ok (.iload_n 2, 1) := by decide +kernel
theorem dX12_isMeant_72 : decode cX12_isMeant 72 = .ok (.i2l, 1) := by decide +kernel
theorem dX12_isMeant_73 : decode cX12_isMeant 73 = .ok (.iload_n 3, 1) := by decide +kernel
theorem dX12_isMeant_74 : decode cX12_isMeant 74 = .ok (.i2l, 1) := by decide +kernel
theorem dX12_isMeant_75 : decode cX12_isMeant 75 = .ok (.ladd, 1) := by decide +kernel
theorem dX12_isMeant_76 : decode cX12_isMeant 76 = .ok (.lcmp, 1) := by decide +kernel
theorem dX12_isMeant_77 : decode cX12_isMeant 77 = .ok (.ifCond .gt 44, 3) := by decide +kernel
theorem dX12_isMeant_80 : decode cX12_isMeant 80 = .ok (.lload 4, 2) := by decide +kernel
theorem dX12_isMeant_82 : decode cX12_isMeant 82 = .ok (.lconst 0, 1) := by decide +kernel
theorem dX12_isMeant_83 : decode cX12_isMeant 83 = .ok (.lcmp, 1) := by decide +kernel
theorem dX12_isMeant_84 : decode cX12_isMeant 84 = .ok (.ifCond .lt 21, 3) := by decide +kernel
theorem dX12_isMeant_87 : decode cX12_isMeant 87 = .ok (.aload_n 0, 1) := by decide +kernel
theorem dX12_isMeant_88 : decode cX12_isMeant 88 = .ok (.iload 6, 2) := by decide +kernel
theorem dX12_isMeant_90 : decode cX12_isMeant 90 = .ok (.iload 7, 2) := by decide +kernel
theorem dX12_isMeant_92 : decode cX12_isMeant 92 = .ok (.lload 8, 2) := by decide +kernel
theorem dX12_isMeant_94 : decode cX12_isMeant 94 = .ok (.lload 4, 2) := by decide +kernel
theorem dX12_isMeant_96 : decode cX12_isMeant 96 = .ok (.invokevirtual 503, 3) := by decide +kernel
theorem dX12_isMeant_99 : decode cX12_isMeant 99 = .ok (.ifCond .ne 6, 3) := by decide +kernel
theorem dX12_isMeant_102 : decode cX12_isMeant 102 = .ok (.goto 19, 3) := by decide +kernel
theorem dX12_isMeant_105 : decode cX12_isMeant 105 = .ok (.lload 8, 2) := by decide +kernel
theorem dX12_isMeant_107 : decode cX12_isMeant 107 = .ok (.lstore 4, 2) := by decide +kernel
theorem dX12_isMeant_109 : decode cX12_isMeant 109 = .ok (.aload_n 0, 1) := by decide +kernel
theorem dX12_isMeant_110 : decode cX12_isMeant 110 = .ok (.iload 6, 2) := by decide +kernel
theorem dX12_isMeant_112 : decode cX12_isMeant 112 = .ok (.putfield 500, 3) := by decide +kernel
theorem dX12_isMeant_115 : decode cX12_isMeant 115 = .ok (.aload_n 0, 1) := by decide +kernel
theorem dX12_isMeant_116 : decode cX12_isMeant 116 = .ok (.iload 7, 2) := by decide +kernel
theorem dX12_isMeant_118 : decode cX12_isMeant 118 = .ok (.putfield 497, 3) := by decide +kernel
theorem dX12_isMeant_121 : decode cX12_isMeant 121 = .ok (.iinc 7 1, 3) := by decide +kernel
theorem dX12_isMeant_124 : decode cX12_isMeant 124 = .ok (.goto (-102), 3) := by decide +kernel
theorem dX12_isMeant_127 : decode cX12_isMeant 127 = .ok (.iinc 6 250, 6) := by decide +kernel
theorem dX12_isMeant_133 : decode cX12_isMeant 133 = .ok (.goto (-123), 3) := by decide +kernel
theorem dX12_isMeant_136 : decode cX12_isMeant 136 = .ok (.lload 4, 2) := by decide +kernel
theorem dX12_isMeant_138 : decode cX12_isMeant 138 = .ok (.lconst 0, 1) := by decide +kernel
theorem dX12_isMeant_139 : decode cX12_isMeant 139 = .ok (.lcmp, 1) := by decide +kernel
theorem dX12_isMeant_140 : decode cX12_isMeant 140 = .ok (.ifCond .lt 7, 3) := by decide +kernel
theorem dX12_isMeant_143 : decode cX12_isMeant 143 = .ok (.iconst 1, 1) := by decide +kernel
theorem dX12_isMeant_144 : decode cX12_isMeant 144 = .ok (.goto 4, 3) := by decide +kernel
theorem dX12_isMeant_147 : decode cX12_isMeant 147 = .ok (.iconst 0, 1) := by decide +kernel
theorem dX12_isMeant_148 : decode cX12_isMeant 148 = .ok (.ireturn, 1) := by decide +kernel
set_option maxRecDepth 20000 in
theorem ggX12_isOld_X12_in : GoodIn wsX12_isOld wsX12_in := goodIn_r _ [10] (by decide +kernel) (by decide +kernel)
set_option maxRecDepth 20000 in
theorem gX12_isOld_X12_in : GoodIn wsX12_isOld (va_wsS RX12 101 yX12_in wsX12_in) := goodIn_app (goodIn_of _ (by decide +kernel)) ggX12_isOld_X12_in
set_option maxRecDepth 20000 in
theorem ggX12_isOld_X12_isMeant : GoodIn wsX12_isOld wsX12_isMeant := goodIn_r _ [14, 15, 16, 17, 18, 19, 20, 21, 22, 9, 23, 24, 25, 26, 27, 28, 29, 30, 31, 32, 33, 34, 35, 36, 37, 38, 39, 40, 41, 42, 43, 44, 45, 46, 47, 48, 49, 50, 51, 52, 53, 54, 55, 56, 57, 58, 59, 60, 61] (by decide +kernel) (by decide +kernel)
set_option maxRecDepth 20000 in
theorem gX12_isOld_X12_isMeant : GoodIn wsX12_isOld (wsV RX12 509 RX12 yX12_isMeant wsX12_isMeant) := goodIn_app (goodIn_of _ (by decide +kernel)) ggX12_isOld_X12_isMeant
theorem dX12_isOld_0 : decode cX12_isOld 0 = .ok (.iload_n 1, 1) := by decide +kernel
theorem dX12_isOld_1 : decode cX12_isOld 1 = .ok (.i2l, 1) := by decide +kernel
theorem dX12_isOld_2 : decode cX12_isOld 2 = .ok (.ldc2_w 129, 3) := by decide +kernel
theorem dX12_isOld_5 : decode cX12_isOld 5 = .ok (.ldc2_w 131, 3) := by decide +kernel
theorem dX12_isOld_8 : decode cX12_isOld 8 = .ok (.invokestatic 101, 3) := by decide +kernel
theorem dX12_isOld_11 : decode cX12_isOld 11 = .ok (.ifCond .eq 33, 3) := by decide +kernel
theorem dX12_isOld_14 : decode cX12_isOld 14 = .ok (.iload_n 2, 1) := by decide +kernel
theorem dX12_isOld_15 : decode cX12_isOld 15 = .ok (.i2l, 1) := by decide +kernel
theorem dX12_isOld_16 : decode cX12_isOld 16 = .ok (.ldc2_w 139, 3) := by decide +kernel
theorem dX12_isOld_19 : decode cX12_isOld 19 = .ok (.ldc2_w 507, 3) := by decide +kernel
theorem dX12_isOld_22 : decode cX12_isOld 22 = .ok (.invokestatic 101, 3) := by decide +kernel
theorem dX12_isOld_25 : decode cX12_isOld 25 = .ok (.ifCond .eq 19, 3) := by decide +kernel
theorem dX12_isOld_28 : decode cX12_isOld 28 = .ok (.iload_n 3, 1) := by decide +kernel
theorem dX12_isOld_29 : decode cX12_isOld 29 = .ok (.i2l, 1) := by decide +kernel
theorem dX12_isOld_30 : decode cX12_isOld 30 = .ok (.lconst 0, 1) := by decide +kernel
theorem dX12_isOld_31 : decode cX12_isOld 31 = .ok (.ldc2_w 249, 3) := by decide +kernel
theorem dX12_isOld_34 : decode cX12_isOld 34 = .ok (.invokestatic 101, 3) := by decide +kernel
theorem dX12_isOld_37 : decode cX12_isOld 37 = .ok (.ifCond .eq 7, 3) := by decide +kernel
theorem dX12_isOld_40 : decode cX12_isOld 40 = .ok (.iconst 1, 1) := by decide +kernel
theorem dX12_isOld_41 : decode cX12_isOld 41 = .ok (.goto 4, 3) := by decide +kernel
theorem dX12_isOld_44 : decode cX12_isOld 44 = .ok (.iconst 0, 1) := by decide +kernel
theorem dX12_isOld_45 : decode cX12_isOld 45 = .ok (.istore 4, 2) := by decide +kernel
theorem dX12_isOld_47 : decode cX12_isOld 47 = .ok (.aload_n 0, 1) := by decide +kernel
theorem dX12_isOld_48 : decode cX12_isOld 48 = .ok (.iload 4, 2) := by decide +kernel
theorem dX12_isOld_50 : decode cX12_isOld 50 = .ok (.ifCond .ne 7, 3) := by decide +kernel
theorem dX12_isOld_53 : decode cX12_isOld 53 = .ok (.iconst 1, 1) := by decide +kernel
theorem dX12_isOld_54 : decode cX12_isOld 54 = .ok (.goto 18, 3) := by decide +kernel
theorem dX12_isOld_57 : decode cX12_isOld 57 = .ok (.aload_n 0, 1) := by decide +kernel
theorem dX12_isOld_58 : decode cX12_isOld 58 = .ok (.iload_n 1, 1) := by decide +kernel
theorem dX12_isOld_59 : decode cX12_isOld 59 = .ok (.iload_n 2, 1) := by decide +kernel
theorem dX12_isOld_60 : decode cX12_isOld 60 = .ok (.iload_n 3, 1) := by decide +kernel
theorem dX12_isOld_61 : decode cX12_isOld 61 = .ok (.invokevirtual 509, 3) := by decide +kernel
theorem dX12_isOld_64 : decode cX12_isOld 64 = .ok (.ifCond .eq 7, 3) := by decide +kernel
theorem dX12_isOld_67 : decode cX12_isOld 67 = .ok (.iconst 0, 1) := by decide +kernel
theorem dX12_isOld_68 : decode cX12_isOld 68 = .ok (.goto 4, 3) := by decide +kernel
theorem dX12_isOld_71 : decode cX12_isOld 71 = .ok (.iconst 2, 1) := by decide +kernel
theorem dX12_isOld_72 : decode cX12_isOld 72 = .ok (.putfield 94, 3) := by decide +kernel
theorem dX12_isOld_75 : decode cX12_isOld 75 = .ok (.aload_n 0, 1) := by decide +kernel
theorem dX12_isOld_76 : decode cX12_isOld 76 = .ok (.getfield 94, 3) := by decide +kernel
theorem dX12_isOld_79 : decode cX12_isOld 79 = .ok (.ifCond .ne 7, 3) := by decide +kernel
theorem dX12_isOld_82 : decode cX12_isOld 82 = .ok (.iconst 1, 1) := by decide +kernel
theorem dX12_isOld_83 : decode cX12_isOld 83 = .ok (.goto 4, 3) := by decide +kernel
theorem dX12_isOld_86 : decode cX12_isOld 86 = .ok (.iconst 0, 1) := by decide +kernel
theorem dX12_isOld_87 : decode cX12_isOld 87 = .ok (.ireturn, 1) := by decide +kernel
set_option maxRecDepth 20000 in
theorem ggX12_oldModule_X12_isOld : GoodIn wsX12_oldModule wsX12_isOld := goodIn_r _ [6, 7, 8, 9, 10, 11, 12, 13, 14, 5, 15, 16, 17, 18, 19, 20, 21, 22, 1, 23, 24, 25, 26, 27, 28, 29, 30, 31, 32, 33, 34, 35, 36, 37, 38, 39, 40, 41, 42, 43, 44, 45, 46, 47, 48, 49, 50, 51, 52, 53, 54, 55, 56, 57, 58, 59, 60, 61, 62, 63, 64, 65] (by decide +kernel) (by decide +kernel)
set_option maxRecDepth 20000 in
theorem gX12_oldModule_X12_isOld : GoodIn wsX12_oldModule (wsV RX12 513 RX12 yX12_isOld wsX12_isOld) := goodIn_app (goodIn_of _ (by decide +kernel)) ggX12_oldModule_X12_isOld
theorem dX12_oldModule_0 : decode cX12_oldModule 0 = .ok (.aload_n 0, 1) := by decide +kernel
theorem dX12_oldModule_1 : decode cX12_oldModule 1 = .ok (.iload_n 1, 1) := by decide +kernel
theorem dX12_oldModule_2 : decode cX12_oldModule 2 = .ok (.iload_n 2, 1) := by decide +kernel
theorem dX12_oldModule_3 : decode cX12_oldModule 3 = .ok (.iload_n 3, 1) := by decide +kernel
theorem dX12_oldModule_4 : decode cX12_oldModule 4 = .ok (.invokevirtual 513, 3) := by decide +kernel
theorem dX12_oldModule_7 : decode cX12_oldModule 7 = .ok (.ifCond .eq 10, 3) := by decide +kernel
theorem dX12_oldModule_10 : decode cX12_oldModule 10 = .ok (.aload_n 0, 1) := by decide +kernel
theorem dX12_oldModule_11 : decode cX12_oldModule 11 = .ok (.getfield 500, 3) := by decide +kernel
theorem dX12_oldModule_14 : decode cX12_oldModule 14 = .ok (.goto 4, 3) := by decide +kernel
theorem dX12_oldModule_17 : decode cX12_oldModule 17 = .ok (.iconst 0, 1) := by decide +kernel
theorem dX12_oldModule_18 : decode cX12_oldModule 18 = .ok (.ireturn, 1) := by decide +kernel
set_option maxRecDepth 20000 in
theorem ggX12_oldShift_X12_isOld : GoodIn wsX12_oldShift wsX12_isOld := goodIn_r _ [6, 7, 8, 9, 10, 11, 12, 13, 14, 5, 15, 16, 17, 18, 19, 20, 21, 22, 23, 1, 24, 25, 26, 27, 28, 29, 30, 31, 32, 33, 34, 35, 36, 37, 38, 39, 40, 41, 42, 43, 44, 45, 46, 47, 48, 49, 50, 51, 52, 53, 54, 55, 56, 57, 58, 59, 60, 61, 62, 63, 64, 65] (by decide +kernel) (by decide +kernel)
set_option maxRecDepth 20000 in
theorem gX12_oldShift_X12_isOld : GoodIn wsX12_oldShift (wsV RX12 513 RX12 yX12_isOld wsX12_isOld) := goodIn_app (goodIn_of _ (by decide +kernel)) ggX12_oldShift_X12_isOld
theorem dX12_oldShift_0 : decode cX12_oldShift 0 = .ok (.aload_n 0, 1) := by decide +kernel
theorem dX12_oldShift_1 : decode cX12_oldShift 1 = .ok (.iload_n 1, 1) := by decide +kernel
theorem dX12_oldShift_2 : decode cX12_oldShift 2 = .ok (.iload_n 2, 1) := by decide +kernel
theorem dX12_oldShift_3 : decode cX12_oldShift 3 = .ok (.iload_n 3, 1) := by decide +kernel
theorem dX12_oldShift_4 : decode cX12_oldShift 4 = .ok (.invokevirtual 513, 3) := by decide +kernel
theorem dX12_oldShift_7 : decode cX12_oldShift 7 = .ok (.ifCond .eq 10, 3) := by decide +kernel
theorem dX12_oldShift_10 : decode cX12_oldShift 10 = .ok (.aload_n 0, 1) := by decide +kernel
theorem dX12_oldShift_11 : decode cX12_oldShift 11 = .ok (.getfield 497, 3) := by decide +kernel
theorem dX12_oldShift_14 : decode cX12_oldShift 14 = .ok (.goto 4, 3) := by decide +kernel
theorem dX12_oldShift_17 : decode cX12_oldShift 17 = .ok (.iconst 0, 1) := by decide +kernel
theorem dX12_oldShift_18 : decode cX12_oldShift 18 = .ok (.ireturn, 1) := by decide +kernel
set_option maxRecDepth 20000 in
theorem ggX12_allDamage_Jx4a65c_size_8abf5 : GoodIn wsX12_allDamage wsJx4a65c_size_8abf5 := goodIn_r _ [6, 7, 93, 94, 95] (by decide +kernel) (by decide +kernel)
set_option maxRecDepth 20000 in
theorem gX12_allDamage_Jx4a65c_size_8abf5 : GoodIn wsX12_allDamage (wsV RX12 97 RJx4a65c yJx4a65c_size_8abf5 wsJx4a65c_size_8abf5) := goodIn_app (goodIn_of _ (by decide +kernel)) ggX12_allDamage_Jx4a65c_size_8abf5
set_option maxRecDepth 20000 in
theorem ggX12_allDamage_X12_gearAt : GoodIn wsX12_allDamage wsX12_gearAt := goodIn_r _ [12, 1, 13, 14, 15, 16, 5, 17, 7, 18, 19, 20, 21, 22, 23, 24, 25, 26, 27, 28, 29, 30, 36, 37, 38, 39, 40, 41, 42, 43, 44, 45, 46, 47, 48, 49, 50, 51, 52, 53, 54, 55, 56, 57, 58, 59, 60, 61, 62, 63, 64, 65, 66, 67, 68, 69, 93, 94, 95] (by decide +kernel) (by decide +kernel)
set_option maxRecDepth 20000 in
theorem gX12_allDamage_X12_gearAt : GoodIn wsX12_allDamage (wsV RX12 111 RX12 yX12_gearAt wsX12_gearAt) := goodIn_app (goodIn_of _ (by decide +kernel)) ggX12_allDamage_X12_gearAt
set_option maxRecDepth 20000 in
theorem ggX12_allDamage_X12_answerLong : GoodIn wsX12_allDamage wsX12_answerLong := goodIn_r _ [34, 35, 36, 37, 38, 39, 40, 41, 42, 43, 44, 45, 46, 47, 48, 49, 50, 51, 52, 53, 54, 55, 56, 57, 58, 59, 60, 61, 62, 63, 64, 65, 66, 67, 68, 69] (by decide +kernel) (by decide +kernel)
set_option maxRecDepth 20000 in
theorem gX12_allDamage_X12_answerLong : GoodIn wsX12_allDamage (wsV RX12 443 RX12 yX12_answerLong wsX12_answerLong) := goodIn_app (goodIn_of _ (by decide +kernel)) ggX12_allDamage_X12_answerLong
theorem dX12_allDamage_0 : decode cX12_allDamage 0 = .ok (.lconst 0, 1) := by decide +kernel
theorem dX12_allDamage_1 : decode cX12_allDamage 1 = .ok (.lstore_n 1, 1) := by decide +kernel
theorem dX12_allDamage_2 : decode cX12_allDamage 2 = .ok (.iconst 0, 1) := by decide +kernel
theorem dX12_allDamage_3 : decode cX12_allDamage 3 = .ok (.istore_n 3, 1) := by decide +kernel
theorem dX12_allDamage_4 : decode cX12_allDamage 4 = .ok (.iload_n 3, 1) := by decide +kernel
theorem dX12_allDamage_5 : decode cX12_allDamage 5 = .ok (.aload_n 0, 1) := by decide +kernel
theorem dX12_allDamage_6 : decode cX12_allDamage 6 = .ok (.getfield 24, 3) := by decide +kernel
theorem dX12_allDamage_9 : decode cX12_allDamage 9 = .ok (.invokevirtual 97, 3) := by decide +kernel
theorem dX12_allDamage_12 : decode cX12_allDamage 12 = .ok (.if_icmp .ge 20, 3) := by decide +kernel
theorem dX12_allDamage_15 : decode cX12_allDamage 15 = .ok (.lload_n 1, 1) := by decide +kernel
theorem dX12_allDamage_16 : decode cX12_allDamage 16 = .ok (.aload_n 0, 1) := by decide +kernel
theorem dX12_allDamage_17 : decode cX12_allDamage 17 = .ok (.iload_n 3, 1) := by decide +kernel
theorem dX12_allDamage_18 : decode cX12_allDamage 18 = .ok (.invokevirtual 111, 3) := by decide +kernel
theorem dX12_allDamage_21 : decode cX12_allDamage 21 = .ok (.getfield 455, 3) := by decide +kernel
theorem dX12_allDamage_24 : decode cX12_allDamage 24 = .ok (.ladd, 1) := by decide +kernel
theorem dX12_allDamage_25 : decode cX12_allDamage 25 = .ok (.lstore_n 1, 1) := by decide +kernel
theorem dX12_allDamage_26 : decode cX12_allDamage 26 = .ok (.iinc 3 1, 3) := by decide +kernel
theorem dX12_allDamage_29 : decode cX12_allDamage 29 = .ok (.goto (-25), 3) := by decide +kernel
theorem dX12_allDamage_32 : decode cX12_allDamage 32 = .ok (.aload_n 0, 1) := by decide +kernel
theorem dX12_allDamage_33 : decode cX12_allDamage 33 = .ok (.lload_n 1, 1) := by decide +kernel
theorem dX12_allDamage_34 : decode cX12_allDamage 34 = .ok (.invokevirtual 443, 3) := by decide +kernel
theorem dX12_allDamage_37 : decode cX12_allDamage 37 = .ok (.lreturn, 1) := by decide +kernel
set_option maxRecDepth 20000 in
theorem ggX12_cutShare_Jx4a65c_size_8abf5 : GoodIn wsX12_cutShare wsJx4a65c_size_8abf5 := goodIn_r _ [7, 8, 93, 94, 95] (by decide +kernel) (by decide +kernel)
set_option maxRecDepth 20000 in
theorem gX12_cutShare_Jx4a65c_size_8abf5 : GoodIn wsX12_cutShare (wsV RX12 97 RJx4a65c yJx4a65c_size_8abf5 wsJx4a65c_size_8abf5) := goodIn_app (goodIn_of _ (by decide +kernel)) ggX12_cutShare_Jx4a65c_size_8abf5
set_option maxRecDepth 20000 in
theorem ggX12_cutShare_X12_gearAt : GoodIn wsX12_cutShare wsX12_gearAt := goodIn_r _ [13, 1, 14, 15, 16, 17, 6, 18, 8, 19, 20, 21, 22, 23, 24, 25, 26, 27, 28, 29, 30, 31, 36, 37, 38, 39, 40, 41, 42, 43, 44, 45, 46, 47, 48, 49, 50, 51, 52, 53, 54, 55, 56, 57, 58, 59, 60, 61, 62, 63, 64, 65, 66, 67, 68, 69, 93, 94, 95] (by decide +kernel) (by decide +kernel)
set_option maxRecDepth 20000 in
theorem gX12_cutShare_X12_gearAt : GoodIn wsX12_cutShare (wsV RX12 111 RX12 yX12_gearAt wsX12_gearAt) := goodIn_app (goodIn_of _ (by decide +kernel)) ggX12_cutShare_X12_gearAt
set_option maxRecDepth 20000 in
theorem ggX12_cutShare_Jx4a65c_isEmpty_aae02 : GoodIn wsX12_cutShare wsJx4a65c_isEmpty_aae02 := goodIn_r _ [35, 8, 93, 94, 95] (by decide +kernel) (by decide +kernel)
set_option maxRecDepth 20000 in
theorem gX12_cutShare_Jx4a65c_isEmpty_aae02 : GoodIn wsX12_cutShare (wsV RX12 516 RJx4a65c yJx4a65c_isEmpty_aae02 wsJx4a65c_isEmpty_aae02) := goodIn_app (goodIn_of _ (by decide +kernel)) ggX12_cutShare_Jx4a65c_isEmpty_aae02
theorem dX12_cutShare_0 : decode cX12_cutShare 0 = .ok (.iconst 0, 1) := by decide +kernel
theorem dX12_cutShare_1 : decode cX12_cutShare 1 = .ok (.istore_n 1, 1) := by decide +kernel
theorem dX12_cutShare_2 : decode cX12_cutShare 2 = .ok (.iconst 0, 1) := by decide +kernel
theorem dX12_cutShare_3 : decode cX12_cutShare 3 = .ok (.istore_n 2, 1) := by decide +kernel
theorem dX12_cutShare_4 : decode cX12_cutShare 4 = .ok (.iload_n 2, 1) := by decide +kernel
theorem dX12_cutShare_5 : decode cX12_cutShare 5 = .ok (.aload_n 0, 1) := by decide +kernel
theorem dX12_cutShare_6 : decode cX12_cutShare 6 = .ok (.getfield 24, 3) := by decide +kernel
theorem dX12_cutShare_9 : decode cX12_cutShare 9 = .ok (.invokevirtual 97, 3) := by decide +kernel
theorem dX12_cutShare_12 : decode cX12_cutShare 12 = .ok (.if_icmp .ge 28, 3) := by decide +kernel
theorem dX12_cutShare_15 : decode cX12_cutShare 15 = .ok (.iload_n 1, 1) := by decide +kernel
theorem dX12_cutShare_16 : decode cX12_cutShare 16 = .ok (.aload_n 0, 1) := by decide +kernel
theorem dX12_cutShare_17 : decode cX12_cutShare 17 = .ok (.iload_n 2, 1) := by decide +kernel
theorem dX12_cutShare_18 : decode cX12_cutShare 18 = .ok (.invokevirtual 111, 3) := by decide +kernel
theorem dX12_cutShare_21 : decode cX12_cutShare 21 = .ok (.getfield 160, 3) := by decide +kernel
theorem dX12_cutShare_24 : decode cX12_cutShare 24 = .ok (.ifCond .eq 7, 3) := by decide +kernel
theorem dX12_cutShare_27 : decode cX12_cutShare 27 = .ok (.iconst 1, 1) := by decide +kernel
theorem dX12_cutShare_28 : decode cX12_cutShare 28 = .ok (.goto 4, 3) := by decide +kernel
theorem dX12_cutShare_31 : decode cX12_cutShare 31 = .ok (.iconst 0, 1) := by decide +kernel
theorem dX12_cutShare_32 : decode cX12_cutShare 32 = .ok (.iadd, 1) := by decide +kernel
theorem dX12_cutShare_33 : decode cX12_cutShare 33 = .ok (.istore_n 1, 1) := by decide +kernel
theorem dX12_cutShare_34 : decode cX12_cutShare 34 = .ok (.iinc 2 1, 3) := by decide +kernel
theorem dX12_cutShare_37 : decode cX12_cutShare 37 = .ok (.goto (-33), 3) := by decide +kernel
theorem dX12_cutShare_40 : decode cX12_cutShare 40 = .ok (.aload_n 0, 1) := by decide +kernel
theorem dX12_cutShare_41 : decode cX12_cutShare 41 = .ok (.aload_n 0, 1) := by decide +kernel
theorem dX12_cutShare_42 : decode cX12_cutShare 42 = .ok (.getfield 24, 3) := by decide +kernel
theorem dX12_cutShare_45 : decode cX12_cutShare 45 = .ok (.invokevirtual 516, 3) := by decide +kernel
theorem dX12_cutShare_48 : decode cX12_cutShare 48 = .ok (.ifCond .eq 7, 3) := by decide +kernel
theorem dX12_cutShare_51 : decode cX12_cutShare 51 = .ok (.iconst 1, 1) := by decide +kernel
theorem dX12_cutShare_52 : decode cX12_cutShare 52 = .ok (.goto 4, 3) := by decide +kernel
theorem dX12_cutShare_55 : decode cX12_cutShare 55 = .ok (.iconst 0, 1) := by decide +kernel
theorem dX12_cutShare_56 : decode cX12_cutShare 56 = .ok (.putfield 94, 3) := by decide +kernel
theorem dX12_cutShare_59 : decode cX12_cutShare 59 = .ok (.aload_n 0, 1) := by decide +kernel
theorem dX12_cutShare_60 : decode cX12_cutShare 60 = .ok (.getfield 94, 3) := by decide +kernel
theorem dX12_cutShare_63 : decode cX12_cutShare 63 = .ok (.ifCond .le 7, 3) := by decide +kernel
theorem dX12_cutShare_66 : decode cX12_cutShare 66 = .ok (.fconst 0, 1) := by decide +kernel
theorem dX12_cutShare_67 : decode cX12_cutShare 67 = .ok (.goto 14, 3) := by decide +kernel
theorem dX12_cutShare_70 : decode cX12_cutShare 70 = .ok (.iload_n 1, 1) := by decide +kernel
theorem dX12_cutShare_71 : decode cX12_cutShare 71 = .ok (.i2f, 1) := by decide +kernel
theorem dX12_cutShare_72 : decode cX12_cutShare 72 = .ok (.aload_n 0, 1) := by decide +kernel
theorem dX12_cutShare_73 : decode cX12_cutShare 73 = .ok (.getfield 24, 3) := by decide +kernel
theorem dX12_cutShare_76 : decode cX12_cutShare 76 = .ok (.invokevirtual 97, 3) := by decide +kernel
theorem dX12_cutShare_79 : decode cX12_cutShare 79 = .ok (.i2f, 1) := by decide +kernel
theorem dX12_cutShare_80 : decode cX12_cutShare 80 = .ok (.fdiv, 1) := by decide +kernel
theorem dX12_cutShare_81 : decode cX12_cutShare 81 = .ok (.freturn, 1) := by decide +kernel
set_option maxRecDepth 20000 in
theorem ggX12_meanGrade_Jx4a65c_size_8abf5 : GoodIn wsX12_meanGrade wsJx4a65c_size_8abf5 := goodIn_r _ [7, 8, 105, 106, 107] (by decide +kernel) (by decide +kernel)
set_option maxRecDepth 20000 in
theorem gX12_meanGrade_Jx4a65c_size_8abf5 : GoodIn wsX12_meanGrade (wsV RX12 97 RJx4a65c yJx4a65c_size_8abf5 wsJx4a65c_size_8abf5) := goodIn_app (goodIn_of _ (by decide +kernel)) ggX12_meanGrade_Jx4a65c_size_8abf5
set_option maxRecDepth 20000 in
theorem ggX12_meanGrade_X12_gearAt : GoodIn wsX12_meanGrade wsX12_gearAt := goodIn_r _ [13, 1, 14, 15, 16, 17, 6, 18, 8, 19, 20, 21, 22, 23, 24, 25, 26, 27, 28, 29, 30, 31, 71, 72, 73, 74, 75, 76, 77, 78, 79, 80, 81, 82, 83, 84, 85, 86, 87, 88, 89, 90, 91, 92, 93, 94, 95, 96, 97, 98, 99, 100, 101, 102, 103, 104, 105, 106, 107] (by decide +kernel) (by decide +kernel)
set_option maxRecDepth 20000 in
theorem gX12_meanGrade_X12_gearAt : GoodIn wsX12_meanGrade (wsV RX12 111 RX12 yX12_gearAt wsX12_gearAt) := goodIn_app (goodIn_of _ (by decide +kernel)) ggX12_meanGrade_X12_gearAt
set_option maxRecDepth 20000 in
theorem ggX12_meanGrade_X10_grade : GoodIn wsX12_meanGrade wsX10_grade := goodIn_ca (goodIn_ca (goodIn_r _ [36, 37, 38, 39, 40, 41, 42, 43, 44, 35, 45, 46, 47, 48, 49, 50, 51, 12, 52, 53, 54, 55, 56, 57, 58, 59, 60, 61, 62, 63, 64, 65, 66, 108, 109, 110, 111, 112, 113, 114, 115, 116, 117, 118, 119, 120, 121, 122, 123, 124, 125, 126, 127, 128, 129, 130] (by decide +kernel) (by decide +kernel)) (goodIn_sub (fun _ h => List.mem_cons_of_mem _ (List.mem_append_left _ (List.mem_append_right _ h))) (by decide +kernel))) (goodIn_sub (fun _ h => List.mem_cons_of_mem _ (List.mem_append_right _ h)) (by decide +kernel))
set_option maxRecDepth 20000 in
theorem gX12_meanGrade_X10_grade : GoodIn wsX12_meanGrade (wsV RX12 409 RX10 yX10_grade wsX10_grade) := goodIn_app (goodIn_of _ (by decide +kernel)) ggX12_meanGrade_X10_grade
set_option maxRecDepth 20000 in
theorem ggX12_meanGrade_Jx4a65c_isEmpty_aae02 : GoodIn wsX12_meanGrade wsJx4a65c_isEmpty_aae02 := goodIn_r _ [70, 8, 105, 106, 107] (by decide +kernel) (by decide +kernel)
set_option maxRecDepth 20000 in
theorem gX12_meanGrade_Jx4a65c_isEmpty_aae02 : GoodIn wsX12_meanGrade (wsV RX12 516 RJx4a65c yJx4a65c_isEmpty_aae02 wsJx4a65c_isEmpty_aae02) := goodIn_app (goodIn_of _ (by decide +kernel)) ggX12_meanGrade_Jx4a65c_isEmpty_aae02
theorem dX12_meanGrade_0 : decode cX12_meanGrade 0 = .ok (.iconst 0, 1) := by decide +kernel
theorem dX12_meanGrade_1 : decode cX12_meanGrade 1 = .ok (.istore_n 1, 1) := by decide +kernel
theorem dX12_meanGrade_2 : decode cX12_meanGrade 2 = .ok (.iconst 0, 1) := by decide +kernel
theorem dX12_meanGrade_3 : decode cX12_meanGrade 3 = .ok (.istore_n 2, 1) := by decide +kernel
theorem dX12_meanGrade_4 : decode cX12_meanGrade 4 = .ok (.iload_n 2, 1) := by decide +kernel
theorem dX12_meanGrade_5 : decode cX12_meanGrade 5 = .ok (.aload_n 0, 1) := by decide +kernel
theorem dX12_meanGrade_6 : decode cX12_meanGrade 6 = .ok (.getfield 24, 3) := by decide +kernel
theorem dX12_meanGrade_9 : decode cX12_meanGrade 9 = .ok (.invokevirtual 97, 3) := by decide +kernel
theorem dX12_meanGrade_12 : decode cX12_meanGrade 12 = .ok (.if_icmp .ge 20, 3) := by decide +kernel
theorem dX12_meanGrade_15 : decode cX12_meanGrade 15 = .ok (.iload_n 1, 1) := by decide +kernel
theorem dX12_meanGrade_16 : decode cX12_meanGrade 16 = .ok (.aload_n 0, 1) := by decide +kernel
theorem dX12_meanGrade_17 : decode cX12_meanGrade 17 = .ok (.iload_n 2, 1) := by decide +kernel
theorem dX12_meanGrade_18 : decode cX12_meanGrade 18 = .ok (.invokevirtual 111, 3) := by decide +kernel
theorem dX12_meanGrade_21 : decode cX12_meanGrade 21 = .ok (.invokevirtual 409, 3) := by decide +kernel
theorem dX12_meanGrade_24 : decode cX12_meanGrade 24 = .ok (.iadd, 1) := by decide +kernel
theorem dX12_meanGrade_25 : decode cX12_meanGrade 25 = .ok (.istore_n 1, 1) := by decide +kernel
theorem dX12_meanGrade_26 : decode cX12_meanGrade 26 = .ok (.iinc 2 1, 3) := by decide +kernel
theorem dX12_meanGrade_29 : decode cX12_meanGrade 29 = .ok (.goto (-25), 3) := by decide +kernel
theorem dX12_meanGrade_32 : decode cX12_meanGrade 32 = .ok (.aload_n 0, 1) := by decide +kernel
theorem dX12_meanGrade_33 : decode cX12_meanGrade 33 = .ok (.aload_n 0, 1) := by decide +kernel
theorem dX12_meanGrade_34 : decode cX12_meanGrade 34 = .ok (.getfield 24, 3) := by decide +kernel
theorem dX12_meanGrade_37 : decode cX12_meanGrade 37 = .ok (.invokevirtual 516, 3) := by decide +kernel
theorem dX12_meanGrade_40 : decode cX12_meanGrade 40 = .ok (.ifCond .eq 7, 3) := by decide +kernel
theorem dX12_meanGrade_43 : decode cX12_meanGrade 43 = .ok (.iconst 1, 1) := by decide +kernel
theorem dX12_meanGrade_44 : decode cX12_meanGrade 44 = .ok (.goto 4, 3) := by decide +kernel
theorem dX12_meanGrade_47 : decode cX12_meanGrade 47 = .ok (.iconst 0, 1) := by decide +kernel
theorem dX12_meanGrade_48 : decode cX12_meanGrade 48 = .ok (.putfield 94, 3) := by decide +kernel
theorem dX12_meanGrade_51 : decode cX12_meanGrade 51 = .ok (.aload_n 0, 1) := by decide +kernel
theorem dX12_meanGrade_52 : decode cX12_meanGrade 52 = .ok (.getfield 94, 3) := by decide +kernel
theorem dX12_meanGrade_55 : decode cX12_meanGrade 55 = .ok (.ifCond .le 7, 3) := by decide +kernel
theorem dX12_meanGrade_58 : decode cX12_meanGrade 58 = .ok (.dconst 0, 1) := by decide +kernel
theorem dX12_meanGrade_59 : decode cX12_meanGrade 59 = .ok (.goto 14, 3) := by decide +kernel
theorem dX12_meanGrade_62 : decode cX12_meanGrade 62 = .ok (.iload_n 1, 1) := by decide +kernel
theorem dX12_meanGrade_63 : decode cX12_meanGrade 63 = .ok (.i2d, 1) := by decide +kernel
theorem dX12_meanGrade_64 : decode cX12_meanGrade 64 = .ok (.aload_n 0, 1) := by decide +kernel
theorem dX12_meanGrade_65 : decode cX12_meanGrade 65 = .ok (.getfield 24, 3) := by decide +kernel
theorem dX12_meanGrade_68 : decode cX12_meanGrade 68 = .ok (.invokevirtual 97, 3) := by decide +kernel
theorem dX12_meanGrade_71 : decode cX12_meanGrade 71 = .ok (.i2d, 1) := by decide +kernel
theorem dX12_meanGrade_72 : decode cX12_meanGrade 72 = .ok (.ddiv, 1) := by decide +kernel
theorem dX12_meanGrade_73 : decode cX12_meanGrade 73 = .ok (.dreturn, 1) := by decide +kernel
set_option maxRecDepth 20000 in
theorem ggX12_isSound_X12_says : GoodIn wsX12_isSound wsX12_says := goodIn_r _ [5, 6, 7, 8, 9, 10, 11, 12, 13, 14, 15, 16, 17, 18, 19, 20, 21, 22, 23, 24, 25, 26, 27, 28, 29, 30, 31, 32, 33, 34, 35, 36, 37, 38, 39, 40] (by decide +kernel) (by decide +kernel)
set_option maxRecDepth 20000 in
theorem gX12_isSound_X12_says : GoodIn wsX12_isSound (wsV RX12 178 RX12 yX12_says wsX12_says) := goodIn_app (goodIn_of _ (by decide +kernel)) ggX12_isSound_X12_says
theorem dX12_isSound_0 : decode cX12_isSound 0 = .ok (.aload_n 0, 1) := by decide +kernel
theorem dX12_isSound_1 : decode cX12_isSound 1 = .ok (.iconst 1, 1) := by decide +kernel
theorem dX12_isSound_2 : decode cX12_isSound 2 = .ok (.invokevirtual 178, 3) := by decide +kernel
theorem dX12_isSound_5 : decode cX12_isSound 5 = .ok (.ireturn, 1) := by decide +kernel
set_option maxRecDepth 20000 in
theorem ggJ5_init_d00df_J2_newBytesFor_77867 : GoodIn wsJ5_init_d00df wsJ2_newBytesFor_77867 := goodIn_r _ [11, 5, 12, 13, 10, 14, 15] (by decide +kernel) (by decide +kernel)
set_option maxRecDepth 20000 in
theorem gJ5_init_d00df_J2_newBytesFor_77867 : GoodIn wsJ5_init_d00df (va_wsS RJ5 26 yJ2_newBytesFor_77867 wsJ2_newBytesFor_77867) := goodIn_app (goodIn_of _ (by decide +kernel)) ggJ5_init_d00df_J2_newBytesFor_77867
theorem dJ5_init_d00df_0 : decode cJ5_init_d00df 0 = .ok (.aload_n 0, 1) := by decide +kernel
theorem dJ5_init_d00df_1 : decode cJ5_init_d00df 1 = .ok (.invokespecial 3, 3) := by decide +kernel
theorem dJ5_init_d00df_4 : decode cJ5_init_d00df 4 = .ok (.getstatic 18, 3) := by decide +kernel
theorem dJ5_init_d00df_7 : decode cJ5_init_d00df 7 = .ok (.ifCond .eq 18, 3) := by decide +kernel
theorem dJ5_init_d00df_10 : decode cJ5_init_d00df 10 = .ok (.aload_n 0, 1) := by decide +kernel
theorem dJ5_init_d00df_11 : decode cJ5_init_d00df 11 = .ok (.iload_n 1, 1) := by decide +kernel
theorem dJ5_init_d00df_12 : decode cJ5_init_d00df 12 = .ok (.newarray .byte, 2) := by decide +kernel
theorem dJ5_init_d00df_14 : decode cJ5_init_d00df 14 = .ok (.putfield 15, 3) := by decide +kernel
theorem dJ5_init_d00df_17 : decode cJ5_init_d00df 17 = .ok (.aload_n 0, 1) := by decide +kernel
theorem dJ5_init_d00df_18 : decode cJ5_init_d00df 18 = .ok (.iconst 0, 1) := by decide +kernel
theorem dJ5_init_d00df_19 : decode cJ5_init_d00df 19 = .ok (.putfield 22, 3) := by decide +kernel
theorem dJ5_init_d00df_22 : decode cJ5_init_d00df 22 = .ok (.goto 16, 3) := by decide +kernel
theorem dJ5_init_d00df_25 : decode cJ5_init_d00df 25 = .ok (.aload_n 0, 1) := by decide +kernel
theorem dJ5_init_d00df_26 : decode cJ5_init_d00df 26 = .ok (.iload_n 1, 1) := by decide +kernel
theorem dJ5_init_d00df_27 : decode cJ5_init_d00df 27 = .ok (.invokestatic 26, 3) := by decide +kernel
theorem dJ5_init_d00df_30 : decode cJ5_init_d00df 30 = .ok (.putfield 15, 3) := by decide +kernel
theorem dJ5_init_d00df_33 : decode cJ5_init_d00df 33 = .ok (.aload_n 0, 1) := by decide +kernel
theorem dJ5_init_d00df_34 : decode cJ5_init_d00df 34 = .ok (.iconst 1, 1) := by decide +kernel
theorem dJ5_init_d00df_35 : decode cJ5_init_d00df 35 = .ok (.putfield 22, 3) := by decide +kernel
theorem dJ5_init_d00df_38 : decode cJ5_init_d00df 38 = .ok (.return_, 1) := by decide +kernel
theorem dJ5_length_8abf5_0 : decode cJ5_length_8abf5 0 = .ok (.aload_n 0, 1) := by decide +kernel
theorem dJ5_length_8abf5_1 : decode cJ5_length_8abf5 1 = .ok (.getfield 79, 3) := by decide +kernel
theorem dJ5_length_8abf5_4 : decode cJ5_length_8abf5 4 = .ok (.ireturn, 1) := by decide +kernel
set_option maxRecDepth 20000 in
theorem ggJ5_ensureCapacityInternal_d00df_J5_newCapacity_0f7a4 : GoodIn wsJ5_ensureCapacityInternal_d00df wsJ5_newCapacity_0f7a4 := goodIn_r _ [8, 1, 2, 9, 10, 11, 12, 13, 14, 15, 16, 17, 18, 19, 20, 21, 40, 41, 42, 43] (by decide +kernel) (by decide +kernel)
set_option maxRecDepth 20000 in
theorem gJ5_ensureCapacityInternal_d00df_J5_newCapacity_0f7a4_u104J4 : GoodIn wsJ5_ensureCapacityInternal_d00df (va_wsU RJ5 104 RJ4 "java/lang/AbstractStringBuilder" ⟨"java/lang/AbstractStringBuilder", "newCapacity", "(I)I"⟩ yJ5_newCapacity_0f7a4 wsJ5_newCapacity_0f7a4) := goodIn_app (goodIn_of _ (by decide +kernel)) ggJ5_ensureCapacityInternal_d00df_J5_newCapacity_0f7a4
set_option maxRecDepth 20000 in
theorem ggJ5_ensureCapacityInternal_d00df_J7_copyOf_9075b : GoodIn wsJ5_ensureCapacityInternal_d00df wsJ7_copyOf_9075b := goodIn_r _ [25, 26, 27, 28, 29, 30, 31, 32, 33, 34, 16, 35, 36, 37, 38, 39] (by decide +kernel) (by decide +kernel)
set_option maxRecDepth 20000 in
theorem gJ5_ensureCapacityInternal_d00df_J7_copyOf_9075b : GoodIn wsJ5_ensureCapacityInternal_d00df (va_wsS RJ5 108 yJ7_copyOf_9075b wsJ7_copyOf_9075b) := goodIn_app (goodIn_of _ (by decide +kernel)) ggJ5_ensureCapacityInternal_d00df_J7_copyOf_9075b
theorem dJ5_ensureCapacityInternal_d00df_0 : decode cJ5_ensureCapacityInternal_d00df 0 = .ok (.aload_n 0, 1) := by decide +kernel
theorem dJ5_ensureCapacityInternal_d00df_1 : decode cJ5_ensureCapacityInternal_d00df 1 = .ok (.getfield 15, 3) := by decide +kernel
theorem dJ5_ensureCapacityInternal_d00df_4 : decode cJ5_ensureCapacityInternal_d00df 4 = .ok (.arraylength, 1) := by decide +kernel
theorem dJ5_ensureCapacityInternal_d00df_5 : decode cJ5_ensureCapacityInternal_d00df 5 = .ok (.aload_n 0, 1) := by decide +kernel
theorem dJ5_ensureCapacityInternal_d00df_6 : decode cJ5_ensureCapacityInternal_d00df 6 = .ok (.getfield 22, 3) := by decide +kernel
theorem dJ5_ensureCapacityInternal_d00df_9 : decode cJ5_ensureCapacityInternal_d00df 9 = .ok (.ishr, 1) := by decide +kernel
theorem dJ5_ensureCapacityInternal_d00df_10 : decode cJ5_ensureCapacityInternal_d00df 10 = .ok (.istore_n 2, 1) := by decide +kernel
theorem dJ5_ensureCapacityInternal_d00df_11 : decode cJ5_ensureCapacityInternal_d00df 11 = .ok (.iload_n 1, 1) := by decide +kernel
theorem dJ5_ensureCapacityInternal_d00df_12 : decode cJ5_ensureCapacityInternal_d00df 12 = .ok (.iload_n 2, 1) := by decide +kernel
theorem dJ5_ensureCapacityInternal_d00df_13 : decode cJ5_ensureCapacityInternal_d00df 13 = .ok (.isub, 1) := by decide +kernel
theorem dJ5_ensureCapacityInternal_d00df_14 : decode cJ5_ensureCapacityInternal_d00df 14 = .ok (.ifCond .le 24, 3) := by decide +kernel
theorem dJ5_ensureCapacityInternal_d00df_17 : decode cJ5_ensureCapacityInternal_d00df 17 = .ok (.aload_n 0, 1) := by decide +kernel
theorem dJ5_ensureCapacityInternal_d00df_18 : decode cJ5_ensureCapacityInternal_d00df 18 = .ok (.aload_n 0, 1) := by decide +kernel
theorem dJ5_ensureCapacityInternal_d00df_19 : decode cJ5_ensureCapacityInternal_d00df 19 = .ok (.getfield 15, 3) := by decide +kernel
theorem dJ5_ensureCapacityInternal_d00df_22 : decode cJ5_ensureCapacityInternal_d00df 22 = .ok (.aload_n 0, 1) := by decide +kernel
theorem dJ5_ensureCapacityInternal_d00df_23 : decode cJ5_ensureCapacityInternal_d00df 23 = .ok (.iload_n 1, 1) := by decide +kernel
theorem dJ5_ensureCapacityInternal_d00df_24 : decode cJ5_ensureCapacityInternal_d00df 24 = .ok (.invokevirtual 104, 3) := by decide +kernel
theorem dJ5_ensureCapacityInternal_d00df_27 : decode cJ5_ensureCapacityInternal_d00df 27 = .ok (.aload_n 0, 1) := by decide +kernel
theorem dJ5_ensureCapacityInternal_d00df_28 : decode cJ5_ensureCapacityInternal_d00df 28 = .ok (.getfield 22, 3) := by decide +kernel
theorem dJ5_ensureCapacityInternal_d00df_31 : decode cJ5_ensureCapacityInternal_d00df 31 = .ok (.ishl, 1) := by decide +kernel
theorem dJ5_ensureCapacityInternal_d00df_32 : decode cJ5_ensureCapacityInternal_d00df 32 = .ok (.invokestatic 108, 3) := by decide +kernel
theorem dJ5_ensureCapacityInternal_d00df_35 : decode cJ5_ensureCapacityInternal_d00df 35 = .ok (.putfield 15, 3) := by decide +kernel
theorem dJ5_ensureCapacityInternal_d00df_38 : decode cJ5_ensureCapacityInternal_d00df 38 = .ok (.return_, 1) := by decide +kernel
set_option maxRecDepth 20000 in
theorem ggJ5_newCapacity_0f7a4_J8_newLength_cabcc : GoodIn wsJ5_newCapacity_0f7a4 wsJ8_newLength_cabcc := goodIn_r _ [7, 8, 9, 10, 11, 12, 13, 14, 6, 15] (by decide +kernel) (by decide +kernel)
set_option maxRecDepth 20000 in
theorem gJ5_newCapacity_0f7a4_J8_newLength_cabcc : GoodIn wsJ5_newCapacity_0f7a4 (va_wsS RJ5 114 yJ8_newLength_cabcc wsJ8_newLength_cabcc) := goodIn_app (goodIn_of _ (by decide +kernel)) ggJ5_newCapacity_0f7a4_J8_newLength_cabcc
theorem dJ5_newCapacity_0f7a4_0 : decode cJ5_newCapacity_0f7a4 0 = .ok (.aload_n 0, 1) := by decide +kernel
theorem dJ5_newCapacity_0f7a4_1 : decode cJ5_newCapacity_0f7a4 1 = .ok (.getfield 15, 3) := by decide +kernel
theorem dJ5_newCapacity_0f7a4_4 : decode cJ5_newCapacity_0f7a4 4 = .ok (.arraylength, 1) := by decide +kernel
theorem dJ5_newCapacity_0f7a4_5 : decode cJ5_newCapacity_0f7a4 5 = .ok (.istore_n 2, 1) := by decide +kernel
theorem dJ5_newCapacity_0f7a4_6 : decode cJ5_newCapacity_0f7a4 6 = .ok (.iload_n 1, 1) := by decide +kernel
theorem dJ5_newCapacity_0f7a4_7 : decode cJ5_newCapacity_0f7a4 7 = .ok (.aload_n 0, 1) := by decide +kernel
theorem dJ5_newCapacity_0f7a4_8 : decode cJ5_newCapacity_0f7a4 8 = .ok (.getfield 22, 3) := by decide +kernel
theorem dJ5_newCapacity_0f7a4_11 : decode cJ5_newCapacity_0f7a4 11 = .ok (.ishl, 1) := by decide +kernel
theorem dJ5_newCapacity_0f7a4_12 : decode cJ5_newCapacity_0f7a4 12 = .ok (.istore_n 3, 1) := by decide +kernel
theorem dJ5_newCapacity_0f7a4_13 : decode cJ5_newCapacity_0f7a4 13 = .ok (.iload_n 3, 1) := by decide +kernel
theorem dJ5_newCapacity_0f7a4_14 : decode cJ5_newCapacity_0f7a4 14 = .ok (.iload_n 2, 1) := by decide +kernel
theorem dJ5_newCapacity_0f7a4_15 : decode cJ5_newCapacity_0f7a4 15 = .ok (.isub, 1) := by decide +kernel
theorem dJ5_newCapacity_0f7a4_16 : decode cJ5_newCapacity_0f7a4 16 = .ok (.istore 4, 2) := by decide +kernel
theorem dJ5_newCapacity_0f7a4_18 : decode cJ5_newCapacity_0f7a4 18 = .ok (.iload_n 2, 1) := by decide +kernel
theorem dJ5_newCapacity_0f7a4_19 : decode cJ5_newCapacity_0f7a4 19 = .ok (.iload 4, 2) := by decide +kernel
theorem dJ5_newCapacity_0f7a4_21 : decode cJ5_newCapacity_0f7a4 21 = .ok (.iload_n 2, 1) := by decide +kernel
theorem dJ5_newCapacity_0f7a4_22 : decode cJ5_newCapacity_0f7a4 22 = .ok (.iconst 2, 1) := by decide +kernel
theorem dJ5_newCapacity_0f7a4_23 : decode cJ5_newCapacity_0f7a4 23 = .ok (.aload_n 0, 1) := by decide +kernel
theorem dJ5_newCapacity_0f7a4_24 : decode cJ5_newCapacity_0f7a4 24 = .ok (.getfield 22, 3) := by decide +kernel
theorem dJ5_newCapacity_0f7a4_27 : decode cJ5_newCapacity_0f7a4 27 = .ok (.ishl, 1) := by decide +kernel
theorem dJ5_newCapacity_0f7a4_28 : decode cJ5_newCapacity_0f7a4 28 = .ok (.iadd, 1) := by decide +kernel
theorem dJ5_newCapacity_0f7a4_29 : decode cJ5_newCapacity_0f7a4 29 = .ok (.invokestatic 114, 3) := by decide +kernel
theorem dJ5_newCapacity_0f7a4_32 : decode cJ5_newCapacity_0f7a4 32 = .ok (.istore 5, 2) := by decide +kernel
theorem dJ5_newCapacity_0f7a4_34 : decode cJ5_newCapacity_0f7a4 34 = .ok (.iload 5, 2) := by decide +kernel
theorem dJ5_newCapacity_0f7a4_36 : decode cJ5_newCapacity_0f7a4 36 = .ok (.ldc 39, 2) := by decide +kernel
theorem dJ5_newCapacity_0f7a4_38 : decode cJ5_newCapacity_0f7a4 38 = .ok (.if_icmp .ne 13, 3) := by decide +kernel
theorem dJ5_newCapacity_0f7a4_41 : decode cJ5_newCapacity_0f7a4 41 = .ok (.new 120, 3) := by decide +kernel
theorem dJ5_newCapacity_0f7a4_44 : decode cJ5_newCapacity_0f7a4 44 = .ok (.dup, 1) := by decide +kernel
theorem dJ5_newCapacity_0f7a4_45 : decode cJ5_newCapacity_0f7a4 45 = .ok (.ldc 122, 2) := by decide +kernel
theorem dJ5_newCapacity_0f7a4_47 : decode cJ5_newCapacity_0f7a4 47 = .ok (.invokespecial 124, 3) := by decide +kernel
theorem dJ5_newCapacity_0f7a4_50 : decode cJ5_newCapacity_0f7a4 50 = .ok (.athrow, 1) := by decide +kernel
theorem dJ5_newCapacity_0f7a4_51 : decode cJ5_newCapacity_0f7a4 51 = .ok (.iload 5, 2) := by decide +kernel
theorem dJ5_newCapacity_0f7a4_53 : decode cJ5_newCapacity_0f7a4 53 = .ok (.aload_n 0, 1) := by decide +kernel
theorem dJ5_newCapacity_0f7a4_54 : decode cJ5_newCapacity_0f7a4 54 = .ok (.getfield 22, 3) := by decide +kernel
theorem dJ5_newCapacity_0f7a4_57 : decode cJ5_newCapacity_0f7a4 57 = .ok (.ishr, 1) := by decide +kernel
theorem dJ5_newCapacity_0f7a4_58 : decode cJ5_newCapacity_0f7a4 58 = .ok (.ireturn, 1) := by decide +kernel
set_option maxRecDepth 20000 in
theorem ggJ5_inflate_da8c8_J5_isLatin1_aae02 : GoodIn wsJ5_inflate_da8c8 wsJ5_isLatin1_aae02 := goodIn_r _ [9, 10, 3, 48, 49, 50, 51] (by decide +kernel) (by decide +kernel)
set_option maxRecDepth 20000 in
theorem gJ5_inflate_da8c8_J5_isLatin1_aae02_u83J4 : GoodIn wsJ5_inflate_da8c8 (va_wsU RJ5 83 RJ4 "java/lang/AbstractStringBuilder" ⟨"java/lang/AbstractStringBuilder", "isLatin1", "()Z"⟩ yJ5_isLatin1_aae02 wsJ5_isLatin1_aae02) := goodIn_app (goodIn_of _ (by decide +kernel)) ggJ5_inflate_da8c8_J5_isLatin1_aae02
set_option maxRecDepth 20000 in
theorem ggJ5_inflate_da8c8_J2_newBytesFor_77867 : GoodIn wsJ5_inflate_da8c8 wsJ2_newBytesFor_77867 := goodIn_r _ [14, 15, 16, 17, 13, 18, 19] (by decide +kernel) (by decide +kernel)
set_option maxRecDepth 20000 in
theorem gJ5_inflate_da8c8_J2_newBytesFor_77867 : GoodIn wsJ5_inflate_da8c8 (va_wsS RJ5 26 yJ2_newBytesFor_77867 wsJ2_newBytesFor_77867) := goodIn_app (goodIn_of _ (by decide +kernel)) ggJ5_inflate_da8c8_J2_newBytesFor_77867
set_option maxRecDepth 20000 in
theorem ggJ5_inflate_da8c8_J1_inflate_0e8fd : GoodIn wsJ5_inflate_da8c8 wsJ1_inflate_0e8fd := goodIn_r _ [23, 24, 25, 13, 26, 27, 28, 29, 30, 31, 32, 33, 34, 35, 36, 37, 38, 39, 40, 41, 42, 43, 44, 45, 46, 47] (by decide +kernel) (by decide +kernel)
set_option maxRecDepth 20000 in
theorem gJ5_inflate_da8c8_J1_inflate_0e8fd : GoodIn wsJ5_inflate_da8c8 (va_wsS RJ5 125 yJ1_inflate_0e8fd wsJ1_inflate_0e8fd) := goodIn_app (goodIn_of _ (by decide +kernel)) ggJ5_inflate_da8c8_J1_inflate_0e8fd
theorem dJ5_inflate_da8c8_0 : decode cJ5_inflate_da8c8 0 = .ok (.aload_n 0, 1) := by decide +kernel
theorem dJ5_inflate_da8c8_1 : decode cJ5_inflate_da8c8 1 = .ok (.invokevirtual 83, 3) := by decide +kernel
theorem dJ5_inflate_da8c8_4 : decode cJ5_inflate_da8c8 4 = .ok (.ifCond .ne 4, 3) := by decide +kernel
theorem dJ5_inflate_da8c8_7 : decode cJ5_inflate_da8c8 7 = .ok (.return_, 1) := by decide +kernel
theorem dJ5_inflate_da8c8_8 : decode cJ5_inflate_da8c8 8 = .ok (.aload_n 0, 1) := by decide +kernel
theorem dJ5_inflate_da8c8_9 : decode cJ5_inflate_da8c8 9 = .ok (.getfield 15, 3) := by decide +kernel
theorem dJ5_inflate_da8c8_12 : decode cJ5_inflate_da8c8 12 = .ok (.arraylength, 1) := by decide +kernel
theorem dJ5_inflate_da8c8_13 : decode cJ5_inflate_da8c8 13 = .ok (.invokestatic 26, 3) := by decide +kernel
theorem dJ5_inflate_da8c8_16 : decode cJ5_inflate_da8c8 16 = .ok (.astore_n 1, 1) := by decide +kernel
theorem dJ5_inflate_da8c8_17 : decode cJ5_inflate_da8c8 17 = .ok (.aload_n 0, 1) := by decide +kernel
theorem dJ5_inflate_da8c8_18 : decode cJ5_inflate_da8c8 18 = .ok (.getfield 15, 3) := by decide +kernel
theorem dJ5_inflate_da8c8_21 : decode cJ5_inflate_da8c8 21 = .ok (.iconst 0, 1) := by decide +kernel
theorem dJ5_inflate_da8c8_22 : decode cJ5_inflate_da8c8 22 = .ok (.aload_n 1, 1) := by decide +kernel
theorem dJ5_inflate_da8c8_23 : decode cJ5_inflate_da8c8 23 = .ok (.iconst 0, 1) := by decide +kernel
theorem dJ5_inflate_da8c8_24 : decode cJ5_inflate_da8c8 24 = .ok (.aload_n 0, 1) := by decide +kernel
theorem dJ5_inflate_da8c8_25 : decode cJ5_inflate_da8c8 25 = .ok (.getfield 79, 3) := by decide +kernel
theorem dJ5_inflate_da8c8_28 : decode cJ5_inflate_da8c8 28 = .ok (.invokestatic 125, 3) := by decide +kernel
theorem dJ5_inflate_da8c8_31 : decode cJ5_inflate_da8c8 31 = .ok (.aload_n 0, 1) := by decide +kernel
theorem dJ5_inflate_da8c8_32 : decode cJ5_inflate_da8c8 32 = .ok (.aload_n 1, 1) := by decide +kernel
theorem dJ5_inflate_da8c8_33 : decode cJ5_inflate_da8c8 33 = .ok (.putfield 15, 3) := by decide +kernel
theorem dJ5_inflate_da8c8_36 : decode cJ5_inflate_da8c8 36 = .ok (.aload_n 0, 1) := by decide +kernel
theorem dJ5_inflate_da8c8_37 : decode cJ5_inflate_da8c8 37 = .ok (.iconst 1, 1) := by decide +kernel
theorem dJ5_inflate_da8c8_38 : decode cJ5_inflate_da8c8 38 = .ok (.putfield 22, 3) := by decide +kernel
theorem dJ5_inflate_da8c8_41 : decode cJ5_inflate_da8c8 41 = .ok (.return_, 1) := by decide +kernel
set_option maxRecDepth 20000 in
theorem ggJ5_charAt_5068e_J0_checkIndex_df160 : GoodIn wsJ5_charAt_5068e wsJ0_checkIndex_df160 := goodIn_r _ [11, 12, 13, 14, 15, 16] (by decide +kernel) (by decide +kernel)
set_option maxRecDepth 20000 in
theorem gJ5_charAt_5068e_J0_checkIndex_df160 : GoodIn wsJ5_charAt_5068e (va_wsS RJ5 144 yJ0_checkIndex_df160 wsJ0_checkIndex_df160) := goodIn_app (goodIn_of _ (by decide +kernel)) ggJ5_charAt_5068e_J0_checkIndex_df160
set_option maxRecDepth 20000 in
theorem ggJ5_charAt_5068e_J2_getChar_3b067 : GoodIn wsJ5_charAt_5068e wsJ2_getChar_3b067 := goodIn_r _ [20, 21, 22, 23, 24, 25, 19, 26] (by decide +kernel) (by decide +kernel)
set_option maxRecDepth 20000 in
theorem gJ5_charAt_5068e_J2_getChar_3b067 : GoodIn wsJ5_charAt_5068e (va_wsS RJ5 148 yJ2_getChar_3b067 wsJ2_getChar_3b067) := goodIn_app (goodIn_of _ (by decide +kernel)) ggJ5_charAt_5068e_J2_getChar_3b067
theorem dJ5_charAt_5068e_0 : decode cJ5_charAt_5068e 0 = .ok (.aload_n 0, 1) := by decide +kernel
theorem dJ5_charAt_5068e_1 : decode cJ5_charAt_5068e 1 = .ok (.getfield 22, 3) := by decide +kernel
theorem dJ5_charAt_5068e_4 : decode cJ5_charAt_5068e 4 = .ok (.istore_n 2, 1) := by decide +kernel
theorem dJ5_charAt_5068e_5 : decode cJ5_charAt_5068e 5 = .ok (.aload_n 0, 1) := by decide +kernel
theorem dJ5_charAt_5068e_6 : decode cJ5_charAt_5068e 6 = .ok (.getfield 15, 3) := by decide +kernel
theorem dJ5_charAt_5068e_9 : decode cJ5_charAt_5068e 9 = .ok (.astore_n 3, 1) := by decide +kernel
theorem dJ5_charAt_5068e_10 : decode cJ5_charAt_5068e 10 = .ok (.aload_n 0, 1) := by decide +kernel
theorem dJ5_charAt_5068e_11 : decode cJ5_charAt_5068e 11 = .ok (.getfield 79, 3) := by decide +kernel
theorem dJ5_charAt_5068e_14 : decode cJ5_charAt_5068e 14 = .ok (.aload_n 3, 1) := by decide +kernel
theorem dJ5_charAt_5068e_15 : decode cJ5_charAt_5068e 15 = .ok (.arraylength, 1) := by decide +kernel
theorem dJ5_charAt_5068e_16 : decode cJ5_charAt_5068e 16 = .ok (.iload_n 2, 1) := by decide +kernel
theorem dJ5_charAt_5068e_17 : decode cJ5_charAt_5068e 17 = .ok (.ishr, 1) := by decide +kernel
theorem dJ5_charAt_5068e_18 : decode cJ5_charAt_5068e 18 = .ok (.invokestatic 138, 3) := by decide +kernel
theorem dJ5_charAt_5068e_21 : decode cJ5_charAt_5068e 21 = .ok (.istore 4, 2) := by decide +kernel
theorem dJ5_charAt_5068e_23 : decode cJ5_charAt_5068e 23 = .ok (.iload_n 1, 1) := by decide +kernel
theorem dJ5_charAt_5068e_24 : decode cJ5_charAt_5068e 24 = .ok (.iload 4, 2) := by decide +kernel
theorem dJ5_charAt_5068e_26 : decode cJ5_charAt_5068e 26 = .ok (.invokestatic 144, 3) := by decide +kernel
theorem dJ5_charAt_5068e_29 : decode cJ5_charAt_5068e 29 = .ok (.iload_n 2, 1) := by decide +kernel
theorem dJ5_charAt_5068e_30 : decode cJ5_charAt_5068e 30 = .ok (.ifCond .ne 12, 3) := by decide +kernel
theorem dJ5_charAt_5068e_33 : decode cJ5_charAt_5068e 33 = .ok (.aload_n 3, 1) := by decide +kernel
theorem dJ5_charAt_5068e_34 : decode cJ5_charAt_5068e 34 = .ok (.iload_n 1, 1) := by decide +kernel
theorem dJ5_charAt_5068e_35 : decode cJ5_charAt_5068e 35 = .ok (.baload, 1) := by decide +kernel
theorem dJ5_charAt_5068e_36 : decode cJ5_charAt_5068e 36 = .ok (.sipush 255, 3) := by decide +kernel
theorem dJ5_charAt_5068e_39 : decode cJ5_charAt_5068e 39 = .ok (.iand, 1) := by decide +kernel
theorem dJ5_charAt_5068e_40 : decode cJ5_charAt_5068e 40 = .ok (.i2c, 1) := by decide +kernel
theorem dJ5_charAt_5068e_41 : decode cJ5_charAt_5068e 41 = .ok (.ireturn, 1) := by decide +kernel
theorem dJ5_charAt_5068e_42 : decode cJ5_charAt_5068e 42 = .ok (.aload_n 3, 1) := by decide +kernel
theorem dJ5_charAt_5068e_43 : decode cJ5_charAt_5068e 43 = .ok (.iload_n 1, 1) := by decide +kernel
theorem dJ5_charAt_5068e_44 : decode cJ5_charAt_5068e 44 = .ok (.invokestatic 148, 3) := by decide +kernel
theorem dJ5_charAt_5068e_47 : decode cJ5_charAt_5068e 47 = .ok (.ireturn, 1) := by decide +kernel
set_option maxRecDepth 20000 in
theorem ggJ5_append_3fe6f_J5_ensureCapacityInternal_d00df : GoodIn wsJ5_append_3fe6f wsJ5_ensureCapacityInternal_d00df := goodIn_r _ [8, 2, 9, 10, 11, 12, 13, 7, 14, 15, 16, 17, 18, 19, 20, 21, 22, 23, 24, 25, 26, 27, 28, 29, 30, 31, 32, 33, 34, 35, 36, 37, 38, 39, 40, 41, 42, 43, 44, 45, 108, 109, 110, 111] (by decide +kernel) (by decide +kernel)
set_option maxRecDepth 20000 in
theorem gJ5_append_3fe6f_J5_ensureCapacityInternal_d00df_u100J4 : GoodIn wsJ5_append_3fe6f (va_wsU RJ5 100 RJ4 "java/lang/AbstractStringBuilder" ⟨"java/lang/AbstractStringBuilder", "ensureCapacityInternal", "(I)V"⟩ yJ5_ensureCapacityInternal_d00df wsJ5_ensureCapacityInternal_d00df) := goodIn_app (goodIn_of _ (by decide +kernel)) ggJ5_append_3fe6f_J5_ensureCapacityInternal_d00df
set_option maxRecDepth 20000 in
theorem ggJ5_append_3fe6f_J5_isLatin1_aae02 : GoodIn wsJ5_append_3fe6f wsJ5_isLatin1_aae02 := goodIn_r _ [50, 51, 9, 108, 109, 110, 111] (by decide +kernel) (by decide +kernel)
set_option maxRecDepth 20000 in
theorem gJ5_append_3fe6f_J5_isLatin1_aae02_u83J4 : GoodIn wsJ5_append_3fe6f (va_wsU RJ5 83 RJ4 "java/lang/AbstractStringBuilder" ⟨"java/lang/AbstractStringBuilder", "isLatin1", "()Z"⟩ yJ5_isLatin1_aae02 wsJ5_isLatin1_aae02) := goodIn_app (goodIn_of _ (by decide +kernel)) ggJ5_append_3fe6f_J5_isLatin1_aae02
set_option maxRecDepth 20000 in
theorem ggJ5_append_3fe6f_J1_canEncode_fc78d : GoodIn wsJ5_append_3fe6f wsJ1_canEncode_fc78d := goodIn_r _ [55] (by decide +kernel) (by decide +kernel)
set_option maxRecDepth 20000 in
theorem gJ5_append_3fe6f_J1_canEncode_fc78d : GoodIn wsJ5_append_3fe6f (va_wsS RJ5 191 yJ1_canEncode_fc78d wsJ1_canEncode_fc78d) := goodIn_app (goodIn_of _ (by decide +kernel)) ggJ5_append_3fe6f_J1_canEncode_fc78d
set_option maxRecDepth 20000 in
theorem ggJ5_append_3fe6f_J5_inflate_da8c8 : GoodIn wsJ5_append_3fe6f wsJ5_inflate_da8c8 := goodIn_r _ [60, 2, 1, 9, 46, 47, 48, 49, 7, 50, 51, 61, 62, 63, 64, 38, 65, 66, 67, 68, 69, 70, 54, 71, 72, 73, 74, 75, 76, 77, 78, 79, 80, 81, 82, 83, 84, 85, 86, 87, 88, 89, 90, 91, 92, 93, 94, 95, 108, 109, 110, 111] (by decide +kernel) (by decide +kernel)
set_option maxRecDepth 20000 in
theorem gJ5_append_3fe6f_J5_inflate_da8c8_u195J4 : GoodIn wsJ5_append_3fe6f (va_wsU RJ5 195 RJ4 "java/lang/AbstractStringBuilder" ⟨"java/lang/AbstractStringBuilder", "inflate", "()V"⟩ yJ5_inflate_da8c8 wsJ5_inflate_da8c8) := goodIn_app (goodIn_of _ (by decide +kernel)) ggJ5_append_3fe6f_J5_inflate_da8c8
set_option maxRecDepth 20000 in
theorem ggJ5_append_3fe6f_J2_putCharSB_b72d1 : GoodIn wsJ5_append_3fe6f wsJ2_putCharSB_b72d1 := goodIn_r _ [98, 99, 100, 63, 101, 78, 79, 80, 102, 103, 83, 104, 85, 105, 106, 88, 107, 90, 91, 92, 93, 94, 95] (by decide +kernel) (by decide +kernel)
set_option maxRecDepth 20000 in
theorem gJ5_append_3fe6f_J2_putCharSB_b72d1 : GoodIn wsJ5_append_3fe6f (va_wsS RJ5 197 yJ2_putCharSB_b72d1 wsJ2_putCharSB_b72d1) := goodIn_app (goodIn_of _ (by decide +kernel)) ggJ5_append_3fe6f_J2_putCharSB_b72d1
theorem dJ5_append_3fe6f_0 : decode cJ5_append_3fe6f 0 = .ok (.aload_n 0, 1) := by decide +kernel
theorem dJ5_append_3fe6f_1 : decode cJ5_append_3fe6f 1 = .ok (.aload_n 0, 1) := by decide +kernel
theorem dJ5_append_3fe6f_2 : decode cJ5_append_3fe6f 2 = .ok (.getfield 79, 3) := by decide +kernel
theorem dJ5_append_3fe6f_5 : decode cJ5_append_3fe6f 5 = .ok (.iconst 1, 1) := by decide +kernel
theorem dJ5_append_3fe6f_6 : decode cJ5_append_3fe6f 6 = .ok (.iadd, 1) := by decide +kernel
theorem dJ5_append_3fe6f_7 : decode cJ5_append_3fe6f 7 = .ok (.invokevirtual 100, 3) := by decide +kernel
theorem dJ5_append_3fe6f_10 : decode cJ5_append_3fe6f 10 = .ok (.aload_n 0, 1) := by decide +kernel
theorem dJ5_append_3fe6f_11 : decode cJ5_append_3fe6f 11 = .ok (.invokevirtual 83, 3) := by decide +kernel
theorem dJ5_append_3fe6f_14 : decode cJ5_append_3fe6f 14 = .ok (.ifCond .eq 31, 3) := by decide +kernel
theorem dJ5_append_3fe6f_17 : decode cJ5_append_3fe6f 17 = .ok (.iload_n 1, 1) := by decide +kernel
theorem dJ5_append_3fe6f_18 : decode cJ5_append_3fe6f 18 = .ok (.invokestatic 191, 3) := by decide +kernel
theorem dJ5_append_3fe6f_21 : decode cJ5_append_3fe6f 21 = .ok (.ifCond .eq 24, 3) := by decide +kernel
theorem dJ5_append_3fe6f_24 : decode cJ5_append_3fe6f 24 = .ok (.aload_n 0, 1) := by decide +kernel
theorem dJ5_append_3fe6f_25 : decode cJ5_append_3fe6f 25 = .ok (.getfield 15, 3) := by decide +kernel
theorem dJ5_append_3fe6f_28 : decode cJ5_append_3fe6f 28 = .ok (.aload_n 0, 1) := by decide +kernel
theorem dJ5_append_3fe6f_29 : decode cJ5_append_3fe6f 29 = .ok (.dup, 1) := by decide +kernel
theorem dJ5_append_3fe6f_30 : decode cJ5_append_3fe6f 30 = .ok (.getfield 79, 3) := by decide +kernel
theorem dJ5_append_3fe6f_33 : decode cJ5_append_3fe6f 33 = .ok (.dup_x1, 1) := by decide +kernel
theorem dJ5_append_3fe6f_34 : decode cJ5_append_3fe6f 34 = .ok (.iconst 1, 1) := by decide +kernel
theorem dJ5_append_3fe6f_35 : decode cJ5_append_3fe6f 35 = .ok (.iadd, 1) := by decide +kernel
theorem dJ5_append_3fe6f_36 : decode cJ5_append_3fe6f 36 = .ok (.putfield 79, 3) := by decide +kernel
theorem dJ5_append_3fe6f_39 : decode cJ5_append_3fe6f 39 = .ok (.iload_n 1, 1) := by decide +kernel
theorem dJ5_append_3fe6f_40 : decode cJ5_append_3fe6f 40 = .ok (.i2b, 1) := by decide +kernel
theorem dJ5_append_3fe6f_41 : decode cJ5_append_3fe6f 41 = .ok (.bastore, 1) := by decide +kernel
theorem dJ5_append_3fe6f_42 : decode cJ5_append_3fe6f 42 = .ok (.goto 33, 3) := by decide +kernel
theorem dJ5_append_3fe6f_45 : decode cJ5_append_3fe6f 45 = .ok (.aload_n 0, 1) := by decide +kernel
theorem dJ5_append_3fe6f_46 : decode cJ5_append_3fe6f 46 = .ok (.invokevirtual 83, 3) := by decide +kernel
theorem dJ5_append_3fe6f_49 : decode cJ5_append_3fe6f 49 = .ok (.ifCond .eq 7, 3) := by decide +kernel
theorem dJ5_append_3fe6f_52 : decode cJ5_append_3fe6f 52 = .ok (.aload_n 0, 1) := by decide +kernel
theorem dJ5_append_3fe6f_53 : decode cJ5_append_3fe6f 53 = .ok (.invokevirtual 195, 3) := by decide +kernel
theorem dJ5_append_3fe6f_56 : decode cJ5_append_3fe6f 56 = .ok (.aload_n 0, 1) := by decide +kernel
theorem dJ5_append_3fe6f_57 : decode cJ5_append_3fe6f 57 = .ok (.getfield 15, 3) := by decide +kernel
theorem dJ5_append_3fe6f_60 : decode cJ5_append_3fe6f 60 = .ok (.aload_n 0, 1) := by decide +kernel
theorem dJ5_append_3fe6f_61 : decode cJ5_append_3fe6f 61 = .ok (.dup, 1) := by decide +kernel
theorem dJ5_append_3fe6f_62 : decode cJ5_append_3fe6f 62 = .ok (.getfield 79, 3) := by decide +kernel
theorem dJ5_append_3fe6f_65 : decode cJ5_append_3fe6f 65 = .ok (.dup_x1, 1) := by decide +kernel
theorem dJ5_append_3fe6f_66 : decode cJ5_append_3fe6f 66 = .ok (.iconst 1, 1) := by decide +kernel
theorem dJ5_append_3fe6f_67 : decode cJ5_append_3fe6f 67 = .ok (.iadd, 1) := by decide +kernel
theorem dJ5_append_3fe6f_68 : decode cJ5_append_3fe6f 68 = .ok (.putfield 79, 3) := by decide +kernel
theorem dJ5_append_3fe6f_71 : decode cJ5_append_3fe6f 71 = .ok (.iload_n 1, 1) := by decide +kernel
theorem dJ5_append_3fe6f_72 : decode cJ5_append_3fe6f 72 = .ok (.invokestatic 197, 3) := by decide +kernel
theorem dJ5_append_3fe6f_75 : decode cJ5_append_3fe6f 75 = .ok (.aload_n 0, 1) := by decide +kernel
theorem dJ5_append_3fe6f_76 : decode cJ5_append_3fe6f 76 = .ok (.areturn, 1) := by decide +kernel
theorem dJ5_isLatin1_aae02_0 : decode cJ5_isLatin1_aae02 0 = .ok (.getstatic 18, 3) := by decide +kernel
theorem dJ5_isLatin1_aae02_3 : decode cJ5_isLatin1_aae02 3 = .ok (.ifCond .eq 14, 3) := by decide +kernel
theorem dJ5_isLatin1_aae02_6 : decode cJ5_isLatin1_aae02 6 = .ok (.aload_n 0, 1) := by decide +kernel
theorem dJ5_isLatin1_aae02_7 : decode cJ5_isLatin1_aae02 7 = .ok (.getfield 22, 3) := by decide +kernel
theorem dJ5_isLatin1_aae02_10 : decode cJ5_isLatin1_aae02 10 = .ok (.ifCond .ne 7, 3) := by decide +kernel
theorem dJ5_isLatin1_aae02_13 : decode cJ5_isLatin1_aae02 13 = .ok (.iconst 1, 1) := by decide +kernel
theorem dJ5_isLatin1_aae02_14 : decode cJ5_isLatin1_aae02 14 = .ok (.goto 4, 3) := by decide +kernel
theorem dJ5_isLatin1_aae02_17 : decode cJ5_isLatin1_aae02 17 = .ok (.iconst 0, 1) := by decide +kernel
theorem dJ5_isLatin1_aae02_18 : decode cJ5_isLatin1_aae02 18 = .ok (.ireturn, 1) := by decide +kernel
theorem dJx00060_init_a7421_0 : decode cJx00060_init_a7421 0 = .ok (.aload_n 0, 1) := by decide +kernel
theorem dJx00060_init_a7421_1 : decode cJx00060_init_a7421 1 = .ok (.aload_n 1, 1) := by decide +kernel
theorem dJx00060_init_a7421_2 : decode cJx00060_init_a7421 2 = .ok (.invokespecial 7, 3) := by decide +kernel
theorem dJx00060_init_a7421_5 : decode cJx00060_init_a7421 5 = .ok (.return_, 1) := by decide +kernel
theorem dJ9_floorMod_7cf53_0 : decode cJ9_floorMod_7cf53 0 = .ok (.iload_n 0, 1) := by decide +kernel
theorem dJ9_floorMod_7cf53_1 : decode cJ9_floorMod_7cf53 1 = .ok (.iload_n 1, 1) := by decide +kernel
theorem dJ9_floorMod_7cf53_2 : decode cJ9_floorMod_7cf53 2 = .ok (.irem, 1) := by decide +kernel
theorem dJ9_floorMod_7cf53_3 : decode cJ9_floorMod_7cf53 3 = .ok (.istore_n 2, 1) := by decide +kernel
theorem dJ9_floorMod_7cf53_4 : decode cJ9_floorMod_7cf53 4 = .ok (.iload_n 0, 1) := by decide +kernel
theorem dJ9_floorMod_7cf53_5 : decode cJ9_floorMod_7cf53 5 = .ok (.iload_n 1, 1) := by decide +kernel
theorem dJ9_floorMod_7cf53_6 : decode cJ9_floorMod_7cf53 6 = .ok (.ixor, 1) := by decide +kernel
theorem dJ9_floorMod_7cf53_7 : decode cJ9_floorMod_7cf53 7 = .ok (.ifCond .ge 11, 3) := by decide +kernel
theorem dJ9_floorMod_7cf53_10 : decode cJ9_floorMod_7cf53 10 = .ok (.iload_n 2, 1) := by decide +kernel
theorem dJ9_floorMod_7cf53_11 : decode cJ9_floorMod_7cf53 11 = .ok (.ifCond .eq 7, 3) := by decide +kernel
theorem dJ9_floorMod_7cf53_14 : decode cJ9_floorMod_7cf53 14 = .ok (.iload_n 2, 1) := by decide +kernel
theorem dJ9_floorMod_7cf53_15 : decode cJ9_floorMod_7cf53 15 = .ok (.iload_n 1, 1) := by decide +kernel
theorem dJ9_floorMod_7cf53_16 : decode cJ9_floorMod_7cf53 16 = .ok (.iadd, 1) := by decide +kernel
theorem dJ9_floorMod_7cf53_17 : decode cJ9_floorMod_7cf53 17 = .ok (.ireturn, 1) := by decide +kernel
theorem dJ9_floorMod_7cf53_18 : decode cJ9_floorMod_7cf53 18 = .ok (.iload_n 2, 1) := by decide +kernel
theorem dJ9_floorMod_7cf53_19 : decode cJ9_floorMod_7cf53 19 = .ok (.ireturn, 1) := by decide +kernel
theorem dJ9_abs_0f7a4_0 : decode cJ9_abs_0f7a4 0 = .ok (.iload_n 0, 1) := by decide +kernel
theorem dJ9_abs_0f7a4_1 : decode cJ9_abs_0f7a4 1 = .ok (.ifCond .ge 8, 3) := by decide +kernel
theorem dJ9_abs_0f7a4_4 : decode cJ9_abs_0f7a4 4 = .ok (.iload_n 0, 1) := by decide +kernel
theorem dJ9_abs_0f7a4_5 : decode cJ9_abs_0f7a4 5 = .ok (.ineg, 1) := by decide +kernel
theorem dJ9_abs_0f7a4_6 : decode cJ9_abs_0f7a4 6 = .ok (.goto 4, 3) := by decide +kernel
theorem dJ9_abs_0f7a4_9 : decode cJ9_abs_0f7a4 9 = .ok (.iload_n 0, 1) := by decide +kernel
theorem dJ9_abs_0f7a4_10 : decode cJ9_abs_0f7a4 10 = .ok (.ireturn, 1) := by decide +kernel
theorem dJ9_abs_067f4_0 : decode cJ9_abs_067f4 0 = .ok (.lload_n 0, 1) := by decide +kernel
theorem dJ9_abs_067f4_1 : decode cJ9_abs_067f4 1 = .ok (.lconst 0, 1) := by decide +kernel
theorem dJ9_abs_067f4_2 : decode cJ9_abs_067f4 2 = .ok (.lcmp, 1) := by decide +kernel
theorem dJ9_abs_067f4_3 : decode cJ9_abs_067f4 3 = .ok (.ifCond .ge 8, 3) := by decide +kernel
theorem dJ9_abs_067f4_6 : decode cJ9_abs_067f4 6 = .ok (.lload_n 0, 1) := by decide +kernel
theorem dJ9_abs_067f4_7 : decode cJ9_abs_067f4 7 = .ok (.lneg, 1) := by decide +kernel
theorem dJ9_abs_067f4_8 : decode cJ9_abs_067f4 8 = .ok (.goto 4, 3) := by decide +kernel
theorem dJ9_abs_067f4_11 : decode cJ9_abs_067f4 11 = .ok (.lload_n 0, 1) := by decide +kernel
theorem dJ9_abs_067f4_12 : decode cJ9_abs_067f4 12 = .ok (.lreturn, 1) := by decide +kernel
theorem dJ9_max_7cf53_0 : decode cJ9_max_7cf53 0 = .ok (.iload_n 0, 1) := by decide +kernel
theorem dJ9_max_7cf53_1 : decode cJ9_max_7cf53 1 = .ok (.iload_n 1, 1) := by decide +kernel
theorem dJ9_max_7cf53_2 : decode cJ9_max_7cf53 2 = .ok (.if_icmp .lt 7, 3) := by decide +kernel
theorem dJ9_max_7cf53_5 : decode cJ9_max_7cf53 5 = .ok (.iload_n 0, 1) := by decide +kernel
theorem dJ9_max_7cf53_6 : decode cJ9_max_7cf53 6 = .ok (.goto 4, 3) := by decide +kernel
theorem dJ9_max_7cf53_9 : decode cJ9_max_7cf53 9 = .ok (.iload_n 1, 1) := by decide +kernel
theorem dJ9_max_7cf53_10 : decode cJ9_max_7cf53 10 = .ok (.ireturn, 1) := by decide +kernel
theorem dJ9_max_f86c9_0 : decode cJ9_max_f86c9 0 = .ok (.lload_n 0, 1) := by decide +kernel
theorem dJ9_max_f86c9_1 : decode cJ9_max_f86c9 1 = .ok (.lload_n 2, 1) := by decide +kernel
theorem dJ9_max_f86c9_2 : decode cJ9_max_f86c9 2 = .ok (.lcmp, 1) := by decide +kernel
theorem dJ9_max_f86c9_3 : decode cJ9_max_f86c9 3 = .ok (.ifCond .lt 7, 3) := by decide +kernel
theorem dJ9_max_f86c9_6 : decode cJ9_max_f86c9 6 = .ok (.lload_n 0, 1) := by decide +kernel
theorem dJ9_max_f86c9_7 : decode cJ9_max_f86c9 7 = .ok (.goto 4, 3) := by decide +kernel
theorem dJ9_max_f86c9_10 : decode cJ9_max_f86c9 10 = .ok (.lload_n 2, 1) := by decide +kernel
theorem dJ9_max_f86c9_11 : decode cJ9_max_f86c9 11 = .ok (.lreturn, 1) := by decide +kernel
theorem dJ9_min_7cf53_0 : decode cJ9_min_7cf53 0 = .ok (.iload_n 0, 1) := by decide +kernel
theorem dJ9_min_7cf53_1 : decode cJ9_min_7cf53 1 = .ok (.iload_n 1, 1) := by decide +kernel
theorem dJ9_min_7cf53_2 : decode cJ9_min_7cf53 2 = .ok (.if_icmp .gt 7, 3) := by decide +kernel
theorem dJ9_min_7cf53_5 : decode cJ9_min_7cf53 5 = .ok (.iload_n 0, 1) := by decide +kernel
theorem dJ9_min_7cf53_6 : decode cJ9_min_7cf53 6 = .ok (.goto 4, 3) := by decide +kernel
theorem dJ9_min_7cf53_9 : decode cJ9_min_7cf53 9 = .ok (.iload_n 1, 1) := by decide +kernel
theorem dJ9_min_7cf53_10 : decode cJ9_min_7cf53 10 = .ok (.ireturn, 1) := by decide +kernel
theorem dJ9_min_f86c9_0 : decode cJ9_min_f86c9 0 = .ok (.lload_n 0, 1) := by decide +kernel
theorem dJ9_min_f86c9_1 : decode cJ9_min_f86c9 1 = .ok (.lload_n 2, 1) := by decide +kernel
theorem dJ9_min_f86c9_2 : decode cJ9_min_f86c9 2 = .ok (.lcmp, 1) := by decide +kernel
theorem dJ9_min_f86c9_3 : decode cJ9_min_f86c9 3 = .ok (.ifCond .gt 7, 3) := by decide +kernel
theorem dJ9_min_f86c9_6 : decode cJ9_min_f86c9 6 = .ok (.lload_n 0, 1) := by decide +kernel
theorem dJ9_min_f86c9_7 : decode cJ9_min_f86c9 7 = .ok (.goto 4, 3) := by decide +kernel
theorem dJ9_min_f86c9_10 : decode cJ9_min_f86c9 10 = .ok (.lload_n 2, 1) := by decide +kernel
theorem dJ9_min_f86c9_11 : decode cJ9_min_f86c9 11 = .ok (.lreturn, 1) := by decide +kernel
set_option maxRecDepth 20000 in
theorem ggJ0_checkIndex_df160_J3_checkIndex_8e157 : GoodIn wsJ0_checkIndex_df160 wsJ3_checkIndex_8e157 := goodIn_r _ [5] (by decide +kernel) (by decide +kernel)
set_option maxRecDepth 20000 in
theorem gJ0_checkIndex_df160_J3_checkIndex_8e157 : GoodIn wsJ0_checkIndex_df160 (va_wsS RJ0 1059 yJ3_checkIndex_8e157 wsJ3_checkIndex_8e157) := goodIn_app (goodIn_of _ (by decide +kernel)) ggJ0_checkIndex_df160_J3_checkIndex_8e157
theorem dJ0_checkIndex_df160_0 : decode cJ0_checkIndex_df160 0 = .ok (.iload_n 0, 1) := by decide +kernel
theorem dJ0_checkIndex_df160_1 : decode cJ0_checkIndex_df160 1 = .ok (.iload_n 1, 1) := by decide +kernel
theorem dJ0_checkIndex_df160_2 : decode cJ0_checkIndex_df160 2 = .ok (.getstatic 1053, 3) := by decide +kernel
theorem dJ0_checkIndex_df160_5 : decode cJ0_checkIndex_df160 5 = .ok (.invokestatic 1059, 3) := by decide +kernel
theorem dJ0_checkIndex_df160_8 : decode cJ0_checkIndex_df160 8 = .ok (.pop, 1) := by decide +kernel
theorem dJ0_checkIndex_df160_9 : decode cJ0_checkIndex_df160 9 = .ok (.return_, 1) := by decide +kernel
set_option maxRecDepth 20000 in
theorem ggJ0_checkBoundsOffCount_cabcc_J3_checkFromIndexSize_8c36e : GoodIn wsJ0_checkBoundsOffCount_cabcc wsJ3_checkFromIndexSize_8c36e := goodIn_r _ [5] (by decide +kernel) (by decide +kernel)
set_option maxRecDepth 20000 in
theorem gJ0_checkBoundsOffCount_cabcc_J3_checkFromIndexSize_8c36e : GoodIn wsJ0_checkBoundsOffCount_cabcc (va_wsS RJ0 1065 yJ3_checkFromIndexSize_8c36e wsJ3_checkFromIndexSize_8c36e) := goodIn_app (goodIn_of _ (by decide +kernel)) ggJ0_checkBoundsOffCount_cabcc_J3_checkFromIndexSize_8c36e
theorem dJ0_checkBoundsOffCount_cabcc_0 : decode cJ0_checkBoundsOffCount_cabcc 0 = .ok (.iload_n 0, 1) := by decide +kernel
theorem dJ0_checkBoundsOffCount_cabcc_1 : decode cJ0_checkBoundsOffCount_cabcc 1 = .ok (.iload_n 1, 1) := by decide +kernel
theorem dJ0_checkBoundsOffCount_cabcc_2 : decode cJ0_checkBoundsOffCount_cabcc 2 = .ok (.iload_n 2, 1) := by decide +kernel
theorem dJ0_checkBoundsOffCount_cabcc_3 : decode cJ0_checkBoundsOffCount_cabcc 3 = .ok (.getstatic 1053, 3) := by decide +kernel
theorem dJ0_checkBoundsOffCount_cabcc_6 : decode cJ0_checkBoundsOffCount_cabcc 6 = .ok (.invokestatic 1065, 3) := by decide +kernel
theorem dJ0_checkBoundsOffCount_cabcc_9 : decode cJ0_checkBoundsOffCount_cabcc 9 = .ok (.ireturn, 1) := by decide +kernel
set_option maxRecDepth 20000 in
theorem ggJ4_init_da8c8_J5_init_d00df : GoodIn wsJ4_init_da8c8 wsJ5_init_d00df := goodIn_r _ [4, 5, 6, 7, 8, 9, 10, 11, 12, 13, 14, 15, 16, 17, 18, 19, 20, 21, 22, 23] (by decide +kernel) (by decide +kernel)
set_option maxRecDepth 20000 in
theorem gJ4_init_da8c8_J5_init_d00df : GoodIn wsJ4_init_da8c8 (wsJ5_init_d00df) := ggJ4_init_da8c8_J5_init_d00df
theorem dJ4_init_da8c8_0 : decode cJ4_init_da8c8 0 = .ok (.aload_n 0, 1) := by decide +kernel
theorem dJ4_init_da8c8_1 : decode cJ4_init_da8c8 1 = .ok (.bipush 16, 2) := by decide +kernel
theorem dJ4_init_da8c8_3 : decode cJ4_init_da8c8 3 = .ok (.invokespecial 1, 3) := by decide +kernel
theorem dJ4_init_da8c8_6 : decode cJ4_init_da8c8 6 = .ok (.return_, 1) := by decide +kernel
set_option maxRecDepth 20000 in
theorem ggJ4_append_cf468_J5_append_3fe6f : GoodIn wsJ4_append_cf468 wsJ5_append_3fe6f := goodIn_r _ [6, 7, 8, 9, 10, 11, 12, 5, 13, 14, 15, 16, 17, 18, 19, 20, 21, 22, 23, 24, 25, 26, 27, 28, 29, 30, 31, 32, 33, 34, 35, 36, 37, 38, 39, 40, 41, 42, 43, 44, 45, 46, 47, 48, 49, 50, 51, 52, 53, 54, 55, 56, 57, 58, 59, 60, 61, 62, 63, 64, 65, 66, 67, 68, 69, 70, 71, 72, 73, 74, 75, 76, 77, 78, 79, 80, 81, 82, 83, 84, 85, 86, 87, 88, 89, 90, 91, 92, 93, 94, 95, 96, 97, 98, 99, 100, 101, 102, 103, 104, 105, 106, 107, 108, 109, 110, 111, 112, 113, 114, 115, 116] (by decide +kernel) (by decide +kernel)
set_option maxRecDepth 20000 in
theorem gJ4_append_cf468_J5_append_3fe6f_s50 : GoodIn wsJ4_append_cf468 (va_wsSU RJ4 50 yJ5_append_3fe6f wsJ5_append_3fe6f) := goodIn_app (goodIn_of _ (by decide +kernel)) ggJ4_append_cf468_J5_append_3fe6f
theorem dJ4_append_cf468_0 : decode cJ4_append_cf468 0 = .ok (.aload_n 0, 1) := by decide +kernel
theorem dJ4_append_cf468_1 : decode cJ4_append_cf468 1 = .ok (.iload_n 1, 1) := by decide +kernel
theorem dJ4_append_cf468_2 : decode cJ4_append_cf468 2 = .ok (.invokespecial 50, 3) := by decide +kernel
theorem dJ4_append_cf468_5 : decode cJ4_append_cf468 5 = .ok (.pop, 1) := by decide +kernel
theorem dJ4_append_cf468_6 : decode cJ4_append_cf468 6 = .ok (.aload_n 0, 1) := by decide +kernel
theorem dJ4_append_cf468_7 : decode cJ4_append_cf468 7 = .ok (.areturn, 1) := by decide +kernel
set_option maxRecDepth 20000 in
theorem ggJ4_charAt_5068e_J5_charAt_5068e : GoodIn wsJ4_charAt_5068e wsJ5_charAt_5068e := goodIn_r _ [6, 7, 8, 9, 10, 11, 12, 13, 14, 15, 16, 17, 18, 19, 20, 21, 22, 23, 24, 25, 26, 27, 28, 29, 30, 31, 32, 33, 34, 35, 36] (by decide +kernel) (by decide +kernel)
set_option maxRecDepth 20000 in
theorem gJ4_charAt_5068e_J5_charAt_5068e_s329 : GoodIn wsJ4_charAt_5068e (va_wsSU RJ4 329 yJ5_charAt_5068e wsJ5_charAt_5068e) := goodIn_app (goodIn_of _ (by decide +kernel)) ggJ4_charAt_5068e_J5_charAt_5068e
theorem dJ4_charAt_5068e_0 : decode cJ4_charAt_5068e 0 = .ok (.aload_n 0, 1) := by decide +kernel
theorem dJ4_charAt_5068e_1 : decode cJ4_charAt_5068e 1 = .ok (.iload_n 1, 1) := by decide +kernel
theorem dJ4_charAt_5068e_2 : decode cJ4_charAt_5068e 2 = .ok (.invokespecial 329, 3) := by decide +kernel
theorem dJ4_charAt_5068e_5 : decode cJ4_charAt_5068e 5 = .ok (.ireturn, 1) := by decide +kernel
set_option maxRecDepth 20000 in
theorem ggJ4_length_8abf5_J5_length_8abf5 : GoodIn wsJ4_length_8abf5 wsJ5_length_8abf5 := goodIn_r _ [6, 7, 8, 9, 10, 11] (by decide +kernel) (by decide +kernel)
set_option maxRecDepth 20000 in
theorem gJ4_length_8abf5_J5_length_8abf5_s343 : GoodIn wsJ4_length_8abf5 (va_wsSU RJ4 343 yJ5_length_8abf5 wsJ5_length_8abf5) := goodIn_app (goodIn_of _ (by decide +kernel)) ggJ4_length_8abf5_J5_length_8abf5
theorem dJ4_length_8abf5_0 : decode cJ4_length_8abf5 0 = .ok (.aload_n 0, 1) := by decide +kernel
theorem dJ4_length_8abf5_1 : decode cJ4_length_8abf5 1 = .ok (.invokespecial 343, 3) := by decide +kernel
theorem dJ4_length_8abf5_4 : decode cJ4_length_8abf5 4 = .ok (.ireturn, 1) := by decide +kernel
theorem dJ1_canEncode_fc78d_0 : decode cJ1_canEncode_fc78d 0 = .ok (.iload_n 0, 1) := by decide +kernel
theorem dJ1_canEncode_fc78d_1 : decode cJ1_canEncode_fc78d 1 = .ok (.sipush 255, 3) := by decide +kernel
theorem dJ1_canEncode_fc78d_4 : decode cJ1_canEncode_fc78d 4 = .ok (.if_icmp .gt 7, 3) := by decide +kernel
theorem dJ1_canEncode_fc78d_7 : decode cJ1_canEncode_fc78d 7 = .ok (.iconst 1, 1) := by decide +kernel
theorem dJ1_canEncode_fc78d_8 : decode cJ1_canEncode_fc78d 8 = .ok (.goto 4, 3) := by decide +kernel
theorem dJ1_canEncode_fc78d_11 : decode cJ1_canEncode_fc78d 11 = .ok (.iconst 0, 1) := by decide +kernel
theorem dJ1_canEncode_fc78d_12 : decode cJ1_canEncode_fc78d 12 = .ok (.ireturn, 1) := by decide +kernel
set_option maxRecDepth 20000 in
theorem ggJ1_inflate_0e8fd_J2_inflate_0e8fd : GoodIn wsJ1_inflate_0e8fd wsJ2_inflate_0e8fd := goodIn_r _ [4, 5, 6, 3, 7, 8, 9, 10, 11, 12, 13, 14, 15, 16, 17, 18, 19, 20, 21, 22, 23, 24, 25] (by decide +kernel) (by decide +kernel)
set_option maxRecDepth 20000 in
theorem gJ1_inflate_0e8fd_J2_inflate_0e8fd : GoodIn wsJ1_inflate_0e8fd (va_wsS RJ1 240 yJ2_inflate_0e8fd wsJ2_inflate_0e8fd) := goodIn_app (goodIn_of _ (by decide +kernel)) ggJ1_inflate_0e8fd_J2_inflate_0e8fd
theorem dJ1_inflate_0e8fd_0 : decode cJ1_inflate_0e8fd 0 = .ok (.aload_n 0, 1) := by decide +kernel
theorem dJ1_inflate_0e8fd_1 : decode cJ1_inflate_0e8fd 1 = .ok (.iload_n 1, 1) := by decide +kernel
theorem dJ1_inflate_0e8fd_2 : decode cJ1_inflate_0e8fd 2 = .ok (.aload_n 2, 1) := by decide +kernel
theorem dJ1_inflate_0e8fd_3 : decode cJ1_inflate_0e8fd 3 = .ok (.iload_n 3, 1) := by decide +kernel
theorem dJ1_inflate_0e8fd_4 : decode cJ1_inflate_0e8fd 4 = .ok (.iload 4, 2) := by decide +kernel
theorem dJ1_inflate_0e8fd_6 : decode cJ1_inflate_0e8fd 6 = .ok (.invokestatic 240, 3) := by decide +kernel
theorem dJ1_inflate_0e8fd_9 : decode cJ1_inflate_0e8fd 9 = .ok (.return_, 1) := by decide +kernel
set_option maxRecDepth 20000 in
theorem ggJ2_newBytesFor_77867_J2_newBytesLength_0f7a4 : GoodIn wsJ2_newBytesFor_77867 wsJ2_newBytesLength_0f7a4 := goodIn_r _ [5, 6] (by decide +kernel) (by decide +kernel)
set_option maxRecDepth 20000 in
theorem gJ2_newBytesFor_77867_J2_newBytesLength_0f7a4 : GoodIn wsJ2_newBytesFor_77867 (va_wsS RJ2 11 yJ2_newBytesLength_0f7a4 wsJ2_newBytesLength_0f7a4) := goodIn_app (goodIn_of _ (by decide +kernel)) ggJ2_newBytesFor_77867_J2_newBytesLength_0f7a4
theorem dJ2_newBytesFor_77867_0 : decode cJ2_newBytesFor_77867 0 = .ok (.iload_n 0, 1) := by decide +kernel
theorem dJ2_newBytesFor_77867_1 : decode cJ2_newBytesFor_77867 1 = .ok (.invokestatic 11, 3) := by decide +kernel
theorem dJ2_newBytesFor_77867_4 : decode cJ2_newBytesFor_77867 4 = .ok (.newarray .byte, 2) := by decide +kernel
theorem dJ2_newBytesFor_77867_6 : decode cJ2_newBytesFor_77867 6 = .ok (.areturn, 1) := by decide +kernel
theorem dJ2_newBytesLength_0f7a4_0 : decode cJ2_newBytesLength_0f7a4 0 = .ok (.iload_n 0, 1) := by decide +kernel
theorem dJ2_newBytesLength_0f7a4_1 : decode cJ2_newBytesLength_0f7a4 1 = .ok (.ifCond .ge 11, 3) := by decide +kernel
theorem dJ2_newBytesLength_0f7a4_4 : decode cJ2_newBytesLength_0f7a4 4 = .ok (.new 17, 3) := by decide +kernel
theorem dJ2_newBytesLength_0f7a4_7 : decode cJ2_newBytesLength_0f7a4 7 = .ok (.dup, 1) := by decide +kernel
theorem dJ2_newBytesLength_0f7a4_8 : decode cJ2_newBytesLength_0f7a4 8 = .ok (.invokespecial 19, 3) := by decide +kernel
theorem dJ2_newBytesLength_0f7a4_11 : decode cJ2_newBytesLength_0f7a4 11 = .ok (.athrow, 1) := by decide +kernel
theorem dJ2_newBytesLength_0f7a4_12 : decode cJ2_newBytesLength_0f7a4 12 = .ok (.iload_n 0, 1) := by decide +kernel
theorem dJ2_newBytesLength_0f7a4_13 : decode cJ2_newBytesLength_0f7a4 13 = .ok (.ldc 20, 2) := by decide +kernel
theorem dJ2_newBytesLength_0f7a4_15 : decode cJ2_newBytesLength_0f7a4 15 = .ok (.if_icmp .lt 40, 3) := by decide +kernel
theorem dJ2_newBytesLength_0f7a4_18 : decode cJ2_newBytesLength_0f7a4 18 = .ok (.new 21, 3) := by decide +kernel
theorem dJ2_newBytesLength_0f7a4_21 : decode cJ2_newBytesLength_0f7a4 21 = .ok (.dup, 1) := by decide +kernel
theorem dJ2_newBytesLength_0f7a4_22 : decode cJ2_newBytesLength_0f7a4 22 = .ok (.new 23, 3) := by decide +kernel
theorem dJ2_newBytesLength_0f7a4_25 : decode cJ2_newBytesLength_0f7a4 25 = .ok (.dup, 1) := by decide +kernel
theorem dJ2_newBytesLength_0f7a4_26 : decode cJ2_newBytesLength_0f7a4 26 = .ok (.invokespecial 25, 3) := by decide +kernel
theorem dJ2_newBytesLength_0f7a4_29 : decode cJ2_newBytesLength_0f7a4 29 = .ok (.ldc 26, 2) := by decide +kernel
theorem dJ2_newBytesLength_0f7a4_31 : decode cJ2_newBytesLength_0f7a4 31 = .ok (.invokevirtual 28, 3) := by decide +kernel
theorem dJ2_newBytesLength_0f7a4_34 : decode cJ2_newBytesLength_0f7a4 34 = .ok (.iload_n 0, 1) := by decide +kernel
theorem dJ2_newBytesLength_0f7a4_35 : decode cJ2_newBytesLength_0f7a4 35 = .ok (.invokevirtual 32, 3) := by decide +kernel
theorem dJ2_newBytesLength_0f7a4_38 : decode cJ2_newBytesLength_0f7a4 38 = .ok (.ldc 35, 2) := by decide +kernel
theorem dJ2_newBytesLength_0f7a4_40 : decode cJ2_newBytesLength_0f7a4 40 = .ok (.invokevirtual 28, 3) := by decide +kernel
theorem dJ2_newBytesLength_0f7a4_43 : decode cJ2_newBytesLength_0f7a4 43 = .ok (.ldc 20, 2) := by decide +kernel
theorem dJ2_newBytesLength_0f7a4_45 : decode cJ2_newBytesLength_0f7a4 45 = .ok (.invokevirtual 32, 3) := by decide +kernel
theorem dJ2_newBytesLength_0f7a4_48 : decode cJ2_newBytesLength_0f7a4 48 = .ok (.invokevirtual 37, 3) := by decide +kernel
theorem dJ2_newBytesLength_0f7a4_51 : decode cJ2_newBytesLength_0f7a4 51 = .ok (.invokespecial 41, 3) := by decide +kernel
theorem dJ2_newBytesLength_0f7a4_54 : decode cJ2_newBytesLength_0f7a4 54 = .ok (.athrow, 1) := by decide +kernel
theorem dJ2_newBytesLength_0f7a4_55 : decode cJ2_newBytesLength_0f7a4 55 = .ok (.iload_n 0, 1) := by decide +kernel
theorem dJ2_newBytesLength_0f7a4_56 : decode cJ2_newBytesLength_0f7a4 56 = .ok (.iconst 1, 1) := by decide +kernel
theorem dJ2_newBytesLength_0f7a4_57 : decode cJ2_newBytesLength_0f7a4 57 = .ok (.ishl, 1) := by decide +kernel
theorem dJ2_newBytesLength_0f7a4_58 : decode cJ2_newBytesLength_0f7a4 58 = .ok (.ireturn, 1) := by decide +kernel
set_option maxRecDepth 20000 in
theorem ggJ2_putChar_b72d1_J2_length_9d52b : GoodIn wsJ2_putChar_b72d1 wsJ2_length_9d52b := goodIn_r _ [7] (by decide +kernel) (by decide +kernel)
set_option maxRecDepth 20000 in
theorem gJ2_putChar_b72d1_J2_length_9d52b : GoodIn wsJ2_putChar_b72d1 (va_wsS RJ2 48 yJ2_length_9d52b wsJ2_length_9d52b) := goodIn_app (goodIn_of _ (by decide +kernel)) ggJ2_putChar_b72d1_J2_length_9d52b
theorem dJ2_putChar_b72d1_0 : decode cJ2_putChar_b72d1 0 = .ok (.getstatic 44, 3) := by decide +kernel
theorem dJ2_putChar_b72d1_3 : decode cJ2_putChar_b72d1 3 = .ok (.ifCond .ne 25, 3) := by decide +kernel
theorem dJ2_putChar_b72d1_6 : decode cJ2_putChar_b72d1 6 = .ok (.iload_n 1, 1) := by decide +kernel
theorem dJ2_putChar_b72d1_7 : decode cJ2_putChar_b72d1 7 = .ok (.ifCond .lt 11, 3) := by decide +kernel
theorem dJ2_putChar_b72d1_10 : decode cJ2_putChar_b72d1 10 = .ok (.iload_n 1, 1) := by decide +kernel
theorem dJ2_putChar_b72d1_11 : decode cJ2_putChar_b72d1 11 = .ok (.aload_n 0, 1) := by decide +kernel
theorem dJ2_putChar_b72d1_12 : decode cJ2_putChar_b72d1 12 = .ok (.invokestatic 48, 3) := by decide +kernel
theorem dJ2_putChar_b72d1_15 : decode cJ2_putChar_b72d1 15 = .ok (.if_icmp .lt 13, 3) := by decide +kernel
theorem dJ2_putChar_b72d1_18 : decode cJ2_putChar_b72d1 18 = .ok (.new 52, 3) := by decide +kernel
theorem dJ2_putChar_b72d1_21 : decode cJ2_putChar_b72d1 21 = .ok (.dup, 1) := by decide +kernel
theorem dJ2_putChar_b72d1_22 : decode cJ2_putChar_b72d1 22 = .ok (.ldc 54, 2) := by decide +kernel
theorem dJ2_putChar_b72d1_24 : decode cJ2_putChar_b72d1 24 = .ok (.invokespecial 56, 3) := by decide +kernel
theorem dJ2_putChar_b72d1_27 : decode cJ2_putChar_b72d1 27 = .ok (.athrow, 1) := by decide +kernel
theorem dJ2_putChar_b72d1_28 : decode cJ2_putChar_b72d1 28 = .ok (.iload_n 1, 1) := by decide +kernel
theorem dJ2_putChar_b72d1_29 : decode cJ2_putChar_b72d1 29 = .ok (.iconst 1, 1) := by decide +kernel
theorem dJ2_putChar_b72d1_30 : decode cJ2_putChar_b72d1 30 = .ok (.ishl, 1) := by decide +kernel
theorem dJ2_putChar_b72d1_31 : decode cJ2_putChar_b72d1 31 = .ok (.istore_n 1, 1) := by decide +kernel
theorem dJ2_putChar_b72d1_32 : decode cJ2_putChar_b72d1 32 = .ok (.aload_n 0, 1) := by decide +kernel
theorem dJ2_putChar_b72d1_33 : decode cJ2_putChar_b72d1 33 = .ok (.iload_n 1, 1) := by decide +kernel
theorem dJ2_putChar_b72d1_34 : decode cJ2_putChar_b72d1 34 = .ok (.iinc 1 1, 3) := by decide +kernel
theorem dJ2_putChar_b72d1_37 : decode cJ2_putChar_b72d1 37 = .ok (.iload_n 2, 1) := by decide +kernel
theorem dJ2_putChar_b72d1_38 : decode cJ2_putChar_b72d1 38 = .ok (.getstatic 59, 3) := by decide +kernel
theorem dJ2_putChar_b72d1_41 : decode cJ2_putChar_b72d1 41 = .ok (.ishr, 1) := by decide +kernel
theorem dJ2_putChar_b72d1_42 : decode cJ2_putChar_b72d1 42 = .ok (.i2b, 1) := by decide +kernel
theorem dJ2_putChar_b72d1_43 : decode cJ2_putChar_b72d1 43 = .ok (.bastore, 1) := by decide +kernel
theorem dJ2_putChar_b72d1_44 : decode cJ2_putChar_b72d1 44 = .ok (.aload_n 0, 1) := by decide +kernel
theorem dJ2_putChar_b72d1_45 : decode cJ2_putChar_b72d1 45 = .ok (.iload_n 1, 1) := by decide +kernel
theorem dJ2_putChar_b72d1_46 : decode cJ2_putChar_b72d1 46 = .ok (.iload_n 2, 1) := by decide +kernel
theorem dJ2_putChar_b72d1_47 : decode cJ2_putChar_b72d1 47 = .ok (.getstatic 63, 3) := by decide +kernel
theorem dJ2_putChar_b72d1_50 : decode cJ2_putChar_b72d1 50 = .ok (.ishr, 1) := by decide +kernel
theorem dJ2_putChar_b72d1_51 : decode cJ2_putChar_b72d1 51 = .ok (.i2b, 1) := by decide +kernel
theorem dJ2_putChar_b72d1_52 : decode cJ2_putChar_b72d1 52 = .ok (.bastore, 1) := by decide +kernel
theorem dJ2_putChar_b72d1_53 : decode cJ2_putChar_b72d1 53 = .ok (.return_, 1) := by decide +kernel
set_option maxRecDepth 20000 in
theorem ggJ2_getChar_3b067_J2_length_9d52b : GoodIn wsJ2_getChar_3b067 wsJ2_length_9d52b := goodIn_r _ [7] (by decide +kernel) (by decide +kernel)
set_option maxRecDepth 20000 in
theorem gJ2_getChar_3b067_J2_length_9d52b : GoodIn wsJ2_getChar_3b067 (va_wsS RJ2 48 yJ2_length_9d52b wsJ2_length_9d52b) := goodIn_app (goodIn_of _ (by decide +kernel)) ggJ2_getChar_3b067_J2_length_9d52b
theorem dJ2_getChar_3b067_0 : decode cJ2_getChar_3b067 0 = .ok (.getstatic 44, 3) := by decide +kernel
theorem dJ2_getChar_3b067_3 : decode cJ2_getChar_3b067 3 = .ok (.ifCond .ne 25, 3) := by decide +kernel
theorem dJ2_getChar_3b067_6 : decode cJ2_getChar_3b067 6 = .ok (.iload_n 1, 1) := by decide +kernel
theorem dJ2_getChar_3b067_7 : decode cJ2_getChar_3b067 7 = .ok (.ifCond .lt 11, 3) := by decide +kernel
theorem dJ2_getChar_3b067_10 : decode cJ2_getChar_3b067 10 = .ok (.iload_n 1, 1) := by decide +kernel
theorem dJ2_getChar_3b067_11 : decode cJ2_getChar_3b067 11 = .ok (.aload_n 0, 1) := by decide +kernel
theorem dJ2_getChar_3b067_12 : decode cJ2_getChar_3b067 12 = .ok (.invokestatic 48, 3) := by decide +kernel
theorem dJ2_getChar_3b067_15 : decode cJ2_getChar_3b067 15 = .ok (.if_icmp .lt 13, 3) := by decide +kernel
theorem dJ2_getChar_3b067_18 : decode cJ2_getChar_3b067 18 = .ok (.new 52, 3) := by decide +kernel
theorem dJ2_getChar_3b067_21 : decode cJ2_getChar_3b067 21 = .ok (.dup, 1) := by decide +kernel
theorem dJ2_getChar_3b067_22 : decode cJ2_getChar_3b067 22 = .ok (.ldc 54, 2) := by decide +kernel
theorem dJ2_getChar_3b067_24 : decode cJ2_getChar_3b067 24 = .ok (.invokespecial 56, 3) := by decide +kernel
theorem dJ2_getChar_3b067_27 : decode cJ2_getChar_3b067 27 = .ok (.athrow, 1) := by decide +kernel
theorem dJ2_getChar_3b067_28 : decode cJ2_getChar_3b067 28 = .ok (.iload_n 1, 1) := by decide +kernel
theorem dJ2_getChar_3b067_29 : decode cJ2_getChar_3b067 29 = .ok (.iconst 1, 1) := by decide +kernel
theorem dJ2_getChar_3b067_30 : decode cJ2_getChar_3b067 30 = .ok (.ishl, 1) := by decide +kernel
theorem dJ2_getChar_3b067_31 : decode cJ2_getChar_3b067 31 = .ok (.istore_n 1, 1) := by decide +kernel
theorem dJ2_getChar_3b067_32 : decode cJ2_getChar_3b067 32 = .ok (.aload_n 0, 1) := by decide +kernel
theorem dJ2_getChar_3b067_33 : decode cJ2_getChar_3b067 33 = .ok (.iload_n 1, 1) := by decide +kernel
theorem dJ2_getChar_3b067_34 : decode cJ2_getChar_3b067 34 = .ok (.iinc 1 1, 3) := by decide +kernel
theorem dJ2_getChar_3b067_37 : decode cJ2_getChar_3b067 37 = .ok (.baload, 1) := by decide +kernel
theorem dJ2_getChar_3b067_38 : decode cJ2_getChar_3b067 38 = .ok (.sipush 255, 3) := by decide +kernel
theorem dJ2_getChar_3b067_41 : decode cJ2_getChar_3b067 41 = .ok (.iand, 1) := by decide +kernel
theorem dJ2_getChar_3b067_42 : decode cJ2_getChar_3b067 42 = .ok (.getstatic 59, 3) := by decide +kernel
theorem dJ2_getChar_3b067_45 : decode cJ2_getChar_3b067 45 = .ok (.ishl, 1) := by decide +kernel
theorem dJ2_getChar_3b067_46 : decode cJ2_getChar_3b067 46 = .ok (.aload_n 0, 1) := by decide +kernel
theorem dJ2_getChar_3b067_47 : decode cJ2_getChar_3b067 47 = .ok (.iload_n 1, 1) := by decide +kernel
theorem dJ2_getChar_3b067_48 : decode cJ2_getChar_3b067 48 = .ok (.baload, 1) := by decide +kernel
theorem dJ2_getChar_3b067_49 : decode cJ2_getChar_3b067 49 = .ok (.sipush 255, 3) := by decide +kernel
theorem dJ2_getChar_3b067_52 : decode cJ2_getChar_3b067 52 = .ok (.iand, 1) := by decide +kernel
theorem dJ2_getChar_3b067_53 : decode cJ2_getChar_3b067 53 = .ok (.getstatic 63, 3) := by decide +kernel
theorem dJ2_getChar_3b067_56 : decode cJ2_getChar_3b067 56 = .ok (.ishl, 1) := by decide +kernel
theorem dJ2_getChar_3b067_57 : decode cJ2_getChar_3b067 57 = .ok (.ior, 1) := by decide +kernel
theorem dJ2_getChar_3b067_58 : decode cJ2_getChar_3b067 58 = .ok (.i2c, 1) := by decide +kernel
theorem dJ2_getChar_3b067_59 : decode cJ2_getChar_3b067 59 = .ok (.ireturn, 1) := by decide +kernel
theorem dJ2_length_9d52b_0 : decode cJ2_length_9d52b 0 = .ok (.aload_n 0, 1) := by decide +kernel
theorem dJ2_length_9d52b_1 : decode cJ2_length_9d52b 1 = .ok (.arraylength, 1) := by decide +kernel
theorem dJ2_length_9d52b_2 : decode cJ2_length_9d52b 2 = .ok (.iconst 1, 1) := by decide +kernel
theorem dJ2_length_9d52b_3 : decode cJ2_length_9d52b 3 = .ok (.ishr, 1) := by decide +kernel
theorem dJ2_length_9d52b_4 : decode cJ2_length_9d52b 4 = .ok (.ireturn, 1) := by decide +kernel
set_option maxRecDepth 20000 in
theorem ggJ2_putCharSB_b72d1_J2_checkIndex_2214a : GoodIn wsJ2_putCharSB_b72d1 wsJ2_checkIndex_2214a := goodIn_r _ [4, 5, 6, 3, 7, 8, 9, 10, 11, 12, 13, 14, 15, 16] (by decide +kernel) (by decide +kernel)
set_option maxRecDepth 20000 in
theorem gJ2_putCharSB_b72d1_J2_checkIndex_2214a : GoodIn wsJ2_putCharSB_b72d1 (va_wsS RJ2 67 yJ2_checkIndex_2214a wsJ2_checkIndex_2214a) := goodIn_app (goodIn_of _ (by decide +kernel)) ggJ2_putCharSB_b72d1_J2_checkIndex_2214a
set_option maxRecDepth 20000 in
theorem ggJ2_putCharSB_b72d1_J2_putChar_b72d1 : GoodIn wsJ2_putCharSB_b72d1 wsJ2_putChar_b72d1 := goodIn_r _ [19, 20, 21, 22, 5, 6, 3, 7] (by decide +kernel) (by decide +kernel)
set_option maxRecDepth 20000 in
theorem gJ2_putCharSB_b72d1_J2_putChar_b72d1 : GoodIn wsJ2_putCharSB_b72d1 (va_wsS RJ2 111 yJ2_putChar_b72d1 wsJ2_putChar_b72d1) := goodIn_app (goodIn_of _ (by decide +kernel)) ggJ2_putCharSB_b72d1_J2_putChar_b72d1
theorem dJ2_putCharSB_b72d1_0 : decode cJ2_putCharSB_b72d1 0 = .ok (.iload_n 1, 1) := by decide +kernel
theorem dJ2_putCharSB_b72d1_1 : decode cJ2_putCharSB_b72d1 1 = .ok (.aload_n 0, 1) := by decide +kernel
theorem dJ2_putCharSB_b72d1_2 : decode cJ2_putCharSB_b72d1 2 = .ok (.invokestatic 67, 3) := by decide +kernel
theorem dJ2_putCharSB_b72d1_5 : decode cJ2_putCharSB_b72d1 5 = .ok (.aload_n 0, 1) := by decide +kernel
theorem dJ2_putCharSB_b72d1_6 : decode cJ2_putCharSB_b72d1 6 = .ok (.iload_n 1, 1) := by decide +kernel
theorem dJ2_putCharSB_b72d1_7 : decode cJ2_putCharSB_b72d1 7 = .ok (.iload_n 2, 1) := by decide +kernel
theorem dJ2_putCharSB_b72d1_8 : decode cJ2_putCharSB_b72d1 8 = .ok (.invokestatic 111, 3) := by decide +kernel
theorem dJ2_putCharSB_b72d1_11 : decode cJ2_putCharSB_b72d1 11 = .ok (.return_, 1) := by decide +kernel
set_option maxRecDepth 20000 in
theorem ggJ2_inflate_0e8fd_J2_checkBoundsOffCount_d044e : GoodIn wsJ2_inflate_0e8fd wsJ2_checkBoundsOffCount_d044e := goodIn_r _ [4, 5, 6, 3, 7, 8, 9, 10, 11, 12, 13, 14, 15, 16] (by decide +kernel) (by decide +kernel)
set_option maxRecDepth 20000 in
theorem gJ2_inflate_0e8fd_J2_checkBoundsOffCount_d044e : GoodIn wsJ2_inflate_0e8fd (va_wsS RJ2 173 yJ2_checkBoundsOffCount_d044e wsJ2_checkBoundsOffCount_d044e) := goodIn_app (goodIn_of _ (by decide +kernel)) ggJ2_inflate_0e8fd_J2_checkBoundsOffCount_d044e
set_option maxRecDepth 20000 in
theorem ggJ2_inflate_0e8fd_J2_putChar_b72d1 : GoodIn wsJ2_inflate_0e8fd wsJ2_putChar_b72d1 := goodIn_r _ [19, 20, 21, 22, 5, 6, 3, 7] (by decide +kernel) (by decide +kernel)
set_option maxRecDepth 20000 in
theorem gJ2_inflate_0e8fd_J2_putChar_b72d1 : GoodIn wsJ2_inflate_0e8fd (va_wsS RJ2 111 yJ2_putChar_b72d1 wsJ2_putChar_b72d1) := goodIn_app (goodIn_of _ (by decide +kernel)) ggJ2_inflate_0e8fd_J2_putChar_b72d1
theorem dJ2_inflate_0e8fd_0 : decode cJ2_inflate_0e8fd 0 = .ok (.iload_n 3, 1) := by decide +kernel
theorem dJ2_inflate_0e8fd_1 : decode cJ2_inflate_0e8fd 1 = .ok (.iload 4, 2) := by decide +kernel
theorem dJ2_inflate_0e8fd_3 : decode cJ2_inflate_0e8fd 3 = .ok (.aload_n 2, 1) := by decide +kernel
theorem dJ2_inflate_0e8fd_4 : decode cJ2_inflate_0e8fd 4 = .ok (.invokestatic 173, 3) := by decide +kernel
theorem dJ2_inflate_0e8fd_7 : decode cJ2_inflate_0e8fd 7 = .ok (.iconst 0, 1) := by decide +kernel
theorem dJ2_inflate_0e8fd_8 : decode cJ2_inflate_0e8fd 8 = .ok (.istore 5, 2) := by decide +kernel
theorem dJ2_inflate_0e8fd_10 : decode cJ2_inflate_0e8fd 10 = .ok (.iload 5, 2) := by decide +kernel
theorem dJ2_inflate_0e8fd_12 : decode cJ2_inflate_0e8fd 12 = .ok (.iload 4, 2) := by decide +kernel
theorem dJ2_inflate_0e8fd_14 : decode cJ2_inflate_0e8fd 14 = .ok (.if_icmp .ge 27, 3) := by decide +kernel
theorem dJ2_inflate_0e8fd_17 : decode cJ2_inflate_0e8fd 17 = .ok (.aload_n 2, 1) := by decide +kernel
theorem dJ2_inflate_0e8fd_18 : decode cJ2_inflate_0e8fd 18 = .ok (.iload_n 3, 1) := by decide +kernel
theorem dJ2_inflate_0e8fd_19 : decode cJ2_inflate_0e8fd 19 = .ok (.iinc 3 1, 3) := by decide +kernel
theorem dJ2_inflate_0e8fd_22 : decode cJ2_inflate_0e8fd 22 = .ok (.aload_n 0, 1) := by decide +kernel
theorem dJ2_inflate_0e8fd_23 : decode cJ2_inflate_0e8fd 23 = .ok (.iload_n 1, 1) := by decide +kernel
theorem dJ2_inflate_0e8fd_24 : decode cJ2_inflate_0e8fd 24 = .ok (.iinc 1 1, 3) := by decide +kernel
theorem dJ2_inflate_0e8fd_27 : decode cJ2_inflate_0e8fd 27 = .ok (.baload, 1) := by decide +kernel
theorem dJ2_inflate_0e8fd_28 : decode cJ2_inflate_0e8fd 28 = .ok (.sipush 255, 3) := by decide +kernel
theorem dJ2_inflate_0e8fd_31 : decode cJ2_inflate_0e8fd 31 = .ok (.iand, 1) := by decide +kernel
theorem dJ2_inflate_0e8fd_32 : decode cJ2_inflate_0e8fd 32 = .ok (.invokestatic 111, 3) := by decide +kernel
theorem dJ2_inflate_0e8fd_35 : decode cJ2_inflate_0e8fd 35 = .ok (.iinc 5 1, 3) := by decide +kernel
theorem dJ2_inflate_0e8fd_38 : decode cJ2_inflate_0e8fd 38 = .ok (.goto (-28), 3) := by decide +kernel
theorem dJ2_inflate_0e8fd_41 : decode cJ2_inflate_0e8fd 41 = .ok (.return_, 1) := by decide +kernel
set_option maxRecDepth 20000 in
theorem ggJ2_checkIndex_2214a_J2_length_9d52b : GoodIn wsJ2_checkIndex_2214a wsJ2_length_9d52b := goodIn_r _ [4] (by decide +kernel) (by decide +kernel)
set_option maxRecDepth 20000 in
theorem gJ2_checkIndex_2214a_J2_length_9d52b : GoodIn wsJ2_checkIndex_2214a (va_wsS RJ2 48 yJ2_length_9d52b wsJ2_length_9d52b) := goodIn_app (goodIn_of _ (by decide +kernel)) ggJ2_checkIndex_2214a_J2_length_9d52b
set_option maxRecDepth 20000 in
theorem ggJ2_checkIndex_2214a_J0_checkIndex_df160 : GoodIn wsJ2_checkIndex_2214a wsJ0_checkIndex_df160 := goodIn_r _ [8, 9, 10, 11, 12, 13] (by decide +kernel) (by decide +kernel)
set_option maxRecDepth 20000 in
theorem gJ2_checkIndex_2214a_J0_checkIndex_df160 : GoodIn wsJ2_checkIndex_2214a (va_wsS RJ2 414 yJ0_checkIndex_df160 wsJ0_checkIndex_df160) := goodIn_app (goodIn_of _ (by decide +kernel)) ggJ2_checkIndex_2214a_J0_checkIndex_df160
theorem dJ2_checkIndex_2214a_0 : decode cJ2_checkIndex_2214a 0 = .ok (.iload_n 0, 1) := by decide +kernel
theorem dJ2_checkIndex_2214a_1 : decode cJ2_checkIndex_2214a 1 = .ok (.aload_n 1, 1) := by decide +kernel
theorem dJ2_checkIndex_2214a_2 : decode cJ2_checkIndex_2214a 2 = .ok (.invokestatic 48, 3) := by decide +kernel
theorem dJ2_checkIndex_2214a_5 : decode cJ2_checkIndex_2214a 5 = .ok (.invokestatic 414, 3) := by decide +kernel
theorem dJ2_checkIndex_2214a_8 : decode cJ2_checkIndex_2214a 8 = .ok (.return_, 1) := by decide +kernel
set_option maxRecDepth 20000 in
theorem ggJ2_checkBoundsOffCount_d044e_J2_length_9d52b : GoodIn wsJ2_checkBoundsOffCount_d044e wsJ2_length_9d52b := goodIn_r _ [4] (by decide +kernel) (by decide +kernel)
set_option maxRecDepth 20000 in
theorem gJ2_checkBoundsOffCount_d044e_J2_length_9d52b : GoodIn wsJ2_checkBoundsOffCount_d044e (va_wsS RJ2 48 yJ2_length_9d52b wsJ2_length_9d52b) := goodIn_app (goodIn_of _ (by decide +kernel)) ggJ2_checkBoundsOffCount_d044e_J2_length_9d52b
set_option maxRecDepth 20000 in
theorem ggJ2_checkBoundsOffCount_d044e_J0_checkBoundsOffCount_cabcc : GoodIn wsJ2_checkBoundsOffCount_d044e wsJ0_checkBoundsOffCount_cabcc := goodIn_r _ [8, 9, 10, 11, 12, 13] (by decide +kernel) (by decide +kernel)
set_option maxRecDepth 20000 in
theorem gJ2_checkBoundsOffCount_d044e_J0_checkBoundsOffCount_cabcc : GoodIn wsJ2_checkBoundsOffCount_d044e (va_wsS RJ2 419 yJ0_checkBoundsOffCount_cabcc wsJ0_checkBoundsOffCount_cabcc) := goodIn_app (goodIn_of _ (by decide +kernel)) ggJ2_checkBoundsOffCount_d044e_J0_checkBoundsOffCount_cabcc
theorem dJ2_checkBoundsOffCount_d044e_0 : decode cJ2_checkBoundsOffCount_d044e 0 = .ok (.iload_n 0, 1) := by decide +kernel
theorem dJ2_checkBoundsOffCount_d044e_1 : decode cJ2_checkBoundsOffCount_d044e 1 = .ok (.iload_n 1, 1) := by decide +kernel
theorem dJ2_checkBoundsOffCount_d044e_2 : decode cJ2_checkBoundsOffCount_d044e 2 = .ok (.aload_n 2, 1) := by decide +kernel
theorem dJ2_checkBoundsOffCount_d044e_3 : decode cJ2_checkBoundsOffCount_d044e 3 = .ok (.invokestatic 48, 3) := by decide +kernel
theorem dJ2_checkBoundsOffCount_d044e_6 : decode cJ2_checkBoundsOffCount_d044e 6 = .ok (.invokestatic 419, 3) := by decide +kernel
theorem dJ2_checkBoundsOffCount_d044e_9 : decode cJ2_checkBoundsOffCount_d044e 9 = .ok (.pop, 1) := by decide +kernel
theorem dJ2_checkBoundsOffCount_d044e_10 : decode cJ2_checkBoundsOffCount_d044e 10 = .ok (.return_, 1) := by decide +kernel
theorem dJxa1e45_init_da8c8_0 : decode cJxa1e45_init_da8c8 0 = .ok (.aload_n 0, 1) := by decide +kernel
theorem dJxa1e45_init_da8c8_1 : decode cJxa1e45_init_da8c8 1 = .ok (.invokespecial 1, 3) := by decide +kernel
theorem dJxa1e45_init_da8c8_4 : decode cJxa1e45_init_da8c8 4 = .ok (.return_, 1) := by decide +kernel
set_option maxRecDepth 20000 in
theorem ggJxc12de_init_da8c8_Jxa1e45_init_da8c8 : GoodIn wsJxc12de_init_da8c8 wsJxa1e45_init_da8c8 := goodIn_r _ [5, 6, 7, 8] (by decide +kernel) (by decide +kernel)
set_option maxRecDepth 20000 in
theorem gJxc12de_init_da8c8_Jxa1e45_init_da8c8 : GoodIn wsJxc12de_init_da8c8 (wsJxa1e45_init_da8c8) := ggJxc12de_init_da8c8_Jxa1e45_init_da8c8
theorem dJxc12de_init_da8c8_0 : decode cJxc12de_init_da8c8 0 = .ok (.aload_n 0, 1) := by decide +kernel
theorem dJxc12de_init_da8c8_1 : decode cJxc12de_init_da8c8 1 = .ok (.invokespecial 1, 3) := by decide +kernel
theorem dJxc12de_init_da8c8_4 : decode cJxc12de_init_da8c8 4 = .ok (.aload_n 0, 1) := by decide +kernel
theorem dJxc12de_init_da8c8_5 : decode cJxc12de_init_da8c8 5 = .ok (.iconst 0, 1) := by decide +kernel
theorem dJxc12de_init_da8c8_6 : decode cJxc12de_init_da8c8 6 = .ok (.putfield 7, 3) := by decide +kernel
theorem dJxc12de_init_da8c8_9 : decode cJxc12de_init_da8c8 9 = .ok (.return_, 1) := by decide +kernel
set_option maxRecDepth 20000 in
theorem ggJx4a65c_init_da8c8_Jxc12de_init_da8c8 : GoodIn wsJx4a65c_init_da8c8 wsJxc12de_init_da8c8 := goodIn_r _ [6, 7, 8, 9, 10, 11, 12, 13, 14, 15, 16, 17] (by decide +kernel) (by decide +kernel)
set_option maxRecDepth 20000 in
theorem gJx4a65c_init_da8c8_Jxc12de_init_da8c8 : GoodIn wsJx4a65c_init_da8c8 (wsJxc12de_init_da8c8) := ggJx4a65c_init_da8c8_Jxc12de_init_da8c8
theorem dJx4a65c_init_da8c8_0 : decode cJx4a65c_init_da8c8 0 = .ok (.aload_n 0, 1) := by decide +kernel
theorem dJx4a65c_init_da8c8_1 : decode cJx4a65c_init_da8c8 1 = .ok (.invokespecial 1, 3) := by decide +kernel
theorem dJx4a65c_init_da8c8_4 : decode cJx4a65c_init_da8c8 4 = .ok (.aload_n 0, 1) := by decide +kernel
theorem dJx4a65c_init_da8c8_5 : decode cJx4a65c_init_da8c8 5 = .ok (.getstatic 39, 3) := by decide +kernel
theorem dJx4a65c_init_da8c8_8 : decode cJx4a65c_init_da8c8 8 = .ok (.putfield 9, 3) := by decide +kernel
theorem dJx4a65c_init_da8c8_11 : decode cJx4a65c_init_da8c8 11 = .ok (.return_, 1) := by decide +kernel
set_option maxRecDepth 20000 in
theorem ggJx4a65c_grow_92f84_J8_newLength_cabcc : GoodIn wsJx4a65c_grow_92f84 wsJ8_newLength_cabcc := goodIn_r _ [11, 12, 4, 5, 6, 13, 14, 15, 10, 16] (by decide +kernel) (by decide +kernel)
set_option maxRecDepth 20000 in
theorem gJx4a65c_grow_92f84_J8_newLength_cabcc : GoodIn wsJx4a65c_grow_92f84 (va_wsS RJx4a65c 73 yJ8_newLength_cabcc wsJ8_newLength_cabcc) := goodIn_app (goodIn_of _ (by decide +kernel)) ggJx4a65c_grow_92f84_J8_newLength_cabcc
set_option maxRecDepth 20000 in
theorem ggJx4a65c_grow_92f84_J7_copyOf_1904c : GoodIn wsJx4a65c_grow_92f84 wsJ7_copyOf_1904c := goodIn_r _ [20, 21, 22, 23, 24, 25, 26, 19, 27, 28, 29, 30, 31, 5, 32, 33, 34, 35, 36] (by decide +kernel) (by decide +kernel)
set_option maxRecDepth 20000 in
theorem gJx4a65c_grow_92f84_J7_copyOf_1904c : GoodIn wsJx4a65c_grow_92f84 (va_wsS RJx4a65c 66 yJ7_copyOf_1904c wsJ7_copyOf_1904c) := goodIn_app (goodIn_of _ (by decide +kernel)) ggJx4a65c_grow_92f84_J7_copyOf_1904c
theorem dJx4a65c_grow_92f84_0 : decode cJx4a65c_grow_92f84 0 = .ok (.aload_n 0, 1) := by decide +kernel
theorem dJx4a65c_grow_92f84_1 : decode cJx4a65c_grow_92f84 1 = .ok (.getfield 9, 3) := by decide +kernel
theorem dJx4a65c_grow_92f84_4 : decode cJx4a65c_grow_92f84 4 = .ok (.arraylength, 1) := by decide +kernel
theorem dJx4a65c_grow_92f84_5 : decode cJx4a65c_grow_92f84 5 = .ok (.istore_n 2, 1) := by decide +kernel
theorem dJx4a65c_grow_92f84_6 : decode cJx4a65c_grow_92f84 6 = .ok (.iload_n 2, 1) := by decide +kernel
theorem dJx4a65c_grow_92f84_7 : decode cJx4a65c_grow_92f84 7 = .ok (.ifCond .gt 13, 3) := by decide +kernel
theorem dJx4a65c_grow_92f84_10 : decode cJx4a65c_grow_92f84 10 = .ok (.aload_n 0, 1) := by decide +kernel
theorem dJx4a65c_grow_92f84_11 : decode cJx4a65c_grow_92f84 11 = .ok (.getfield 9, 3) := by decide +kernel
theorem dJx4a65c_grow_92f84_14 : decode cJx4a65c_grow_92f84 14 = .ok (.getstatic 39, 3) := by decide +kernel
theorem dJx4a65c_grow_92f84_17 : decode cJx4a65c_grow_92f84 17 = .ok (.if_acmp .eq 28, 3) := by decide +kernel
theorem dJx4a65c_grow_92f84_20 : decode cJx4a65c_grow_92f84 20 = .ok (.iload_n 2, 1) := by decide +kernel
theorem dJx4a65c_grow_92f84_21 : decode cJx4a65c_grow_92f84 21 = .ok (.iload_n 1, 1) := by decide +kernel
theorem dJx4a65c_grow_92f84_22 : decode cJx4a65c_grow_92f84 22 = .ok (.iload_n 2, 1) := by decide +kernel
theorem dJx4a65c_grow_92f84_23 : decode cJx4a65c_grow_92f84 23 = .ok (.isub, 1) := by decide +kernel
theorem dJx4a65c_grow_92f84_24 : decode cJx4a65c_grow_92f84 24 = .ok (.iload_n 2, 1) := by decide +kernel
theorem dJx4a65c_grow_92f84_25 : decode cJx4a65c_grow_92f84 25 = .ok (.iconst 1, 1) := by decide +kernel
theorem dJx4a65c_grow_92f84_26 : decode cJx4a65c_grow_92f84 26 = .ok (.ishr, 1) := by decide +kernel
theorem dJx4a65c_grow_92f84_27 : decode cJx4a65c_grow_92f84 27 = .ok (.invokestatic 73, 3) := by decide +kernel
theorem dJx4a65c_grow_92f84_30 : decode cJx4a65c_grow_92f84 30 = .ok (.istore_n 3, 1) := by decide +kernel
theorem dJx4a65c_grow_92f84_31 : decode cJx4a65c_grow_92f84 31 = .ok (.aload_n 0, 1) := by decide +kernel
theorem dJx4a65c_grow_92f84_32 : decode cJx4a65c_grow_92f84 32 = .ok (.aload_n 0, 1) := by decide +kernel
theorem dJx4a65c_grow_92f84_33 : decode cJx4a65c_grow_92f84 33 = .ok (.getfield 9, 3) := by decide +kernel
theorem dJx4a65c_grow_92f84_36 : decode cJx4a65c_grow_92f84 36 = .ok (.iload_n 3, 1) := by decide +kernel
theorem dJx4a65c_grow_92f84_37 : decode cJx4a65c_grow_92f84 37 = .ok (.invokestatic 66, 3) := by decide +kernel
theorem dJx4a65c_grow_92f84_40 : decode cJx4a65c_grow_92f84 40 = .ok (.dup_x1, 1) := by decide +kernel
theorem dJx4a65c_grow_92f84_41 : decode cJx4a65c_grow_92f84 41 = .ok (.putfield 9, 3) := by decide +kernel
theorem dJx4a65c_grow_92f84_44 : decode cJx4a65c_grow_92f84 44 = .ok (.areturn, 1) := by decide +kernel
theorem dJx4a65c_grow_92f84_45 : decode cJx4a65c_grow_92f84 45 = .ok (.aload_n 0, 1) := by decide +kernel
theorem dJx4a65c_grow_92f84_46 : decode cJx4a65c_grow_92f84 46 = .ok (.bipush 10, 2) := by decide +kernel
theorem dJx4a65c_grow_92f84_48 : decode cJx4a65c_grow_92f84 48 = .ok (.iload_n 1, 1) := by decide +kernel
theorem dJx4a65c_grow_92f84_49 : decode cJx4a65c_grow_92f84 49 = .ok (.invokestatic 79, 3) := by decide +kernel
theorem dJx4a65c_grow_92f84_52 : decode cJx4a65c_grow_92f84 52 = .ok (.anewarray 7, 3) := by decide +kernel
theorem dJx4a65c_grow_92f84_55 : decode cJx4a65c_grow_92f84 55 = .ok (.dup_x1, 1) := by decide +kernel
theorem dJx4a65c_grow_92f84_56 : decode cJx4a65c_grow_92f84 56 = .ok (.putfield 9, 3) := by decide +kernel
theorem dJx4a65c_grow_92f84_59 : decode cJx4a65c_grow_92f84 59 = .ok (.areturn, 1) := by decide +kernel
set_option maxRecDepth 20000 in
theorem ggJx4a65c_grow_d5877_Jx4a65c_grow_92f84 : GoodIn wsJx4a65c_grow_d5877 wsJx4a65c_grow_92f84 := goodIn_r _ [6, 7, 8, 9, 10, 11, 12, 13, 14, 15, 16, 17, 18, 19, 20, 21, 22, 23, 24, 25, 26, 27, 28, 29, 30, 31, 32, 33, 34, 35, 36, 37, 38, 39, 40, 41, 42, 43, 44, 45] (by decide +kernel) (by decide +kernel)
set_option maxRecDepth 20000 in
theorem gJx4a65c_grow_d5877_Jx4a65c_grow_92f84 : GoodIn wsJx4a65c_grow_d5877 (wsV RJx4a65c 69 RJx4a65c yJx4a65c_grow_92f84 wsJx4a65c_grow_92f84) := goodIn_app (goodIn_of _ (by decide +kernel)) ggJx4a65c_grow_d5877_Jx4a65c_grow_92f84
theorem dJx4a65c_grow_d5877_0 : decode cJx4a65c_grow_d5877 0 = .ok (.aload_n 0, 1) := by decide +kernel
theorem dJx4a65c_grow_d5877_1 : decode cJx4a65c_grow_d5877 1 = .ok (.aload_n 0, 1) := by decide +kernel
theorem dJx4a65c_grow_d5877_2 : decode cJx4a65c_grow_d5877 2 = .ok (.getfield 48, 3) := by decide +kernel
theorem dJx4a65c_grow_d5877_5 : decode cJx4a65c_grow_d5877 5 = .ok (.iconst 1, 1) := by decide +kernel
theorem dJx4a65c_grow_d5877_6 : decode cJx4a65c_grow_d5877 6 = .ok (.iadd, 1) := by decide +kernel
theorem dJx4a65c_grow_d5877_7 : decode cJx4a65c_grow_d5877 7 = .ok (.invokevirtual 69, 3) := by decide +kernel
theorem dJx4a65c_grow_d5877_10 : decode cJx4a65c_grow_d5877 10 = .ok (.areturn, 1) := by decide +kernel
theorem dJx4a65c_size_8abf5_0 : decode cJx4a65c_size_8abf5 0 = .ok (.aload_n 0, 1) := by decide +kernel
theorem dJx4a65c_size_8abf5_1 : decode cJx4a65c_size_8abf5 1 = .ok (.getfield 48, 3) := by decide +kernel
theorem dJx4a65c_size_8abf5_4 : decode cJx4a65c_size_8abf5 4 = .ok (.ireturn, 1) := by decide +kernel
theorem dJx4a65c_isEmpty_aae02_0 : decode cJx4a65c_isEmpty_aae02 0 = .ok (.aload_n 0, 1) := by decide +kernel
theorem dJx4a65c_isEmpty_aae02_1 : decode cJx4a65c_isEmpty_aae02 1 = .ok (.getfield 48, 3) := by decide +kernel
theorem dJx4a65c_isEmpty_aae02_4 : decode cJx4a65c_isEmpty_aae02 4 = .ok (.ifCond .ne 7, 3) := by decide +kernel
theorem dJx4a65c_isEmpty_aae02_7 : decode cJx4a65c_isEmpty_aae02 7 = .ok (.iconst 1, 1) := by decide +kernel
theorem dJx4a65c_isEmpty_aae02_8 : decode cJx4a65c_isEmpty_aae02 8 = .ok (.goto 4, 3) := by decide +kernel
theorem dJx4a65c_isEmpty_aae02_11 : decode cJx4a65c_isEmpty_aae02 11 = .ok (.iconst 0, 1) := by decide +kernel
theorem dJx4a65c_isEmpty_aae02_12 : decode cJx4a65c_isEmpty_aae02 12 = .ok (.ireturn, 1) := by decide +kernel
theorem dJx4a65c_elementData_915e3_0 : decode cJx4a65c_elementData_915e3 0 = .ok (.aload_n 0, 1) := by decide +kernel
theorem dJx4a65c_elementData_915e3_1 : decode cJx4a65c_elementData_915e3 1 = .ok (.getfield 9, 3) := by decide +kernel
theorem dJx4a65c_elementData_915e3_4 : decode cJx4a65c_elementData_915e3 4 = .ok (.iload_n 1, 1) := by decide +kernel
theorem dJx4a65c_elementData_915e3_5 : decode cJx4a65c_elementData_915e3 5 = .ok (.aaload, 1) := by decide +kernel
theorem dJx4a65c_elementData_915e3_6 : decode cJx4a65c_elementData_915e3 6 = .ok (.areturn, 1) := by decide +kernel
set_option maxRecDepth 20000 in
theorem ggJx4a65c_get_915e3_J15_checkIndex_7cf53 : GoodIn wsJx4a65c_get_915e3 wsJ15_checkIndex_7cf53 := goodIn_r _ [5, 6, 7, 8, 9] (by decide +kernel) (by decide +kernel)
set_option maxRecDepth 20000 in
theorem gJx4a65c_get_915e3_J15_checkIndex_7cf53 : GoodIn wsJx4a65c_get_915e3 (va_wsS RJx4a65c 118 yJ15_checkIndex_7cf53 wsJ15_checkIndex_7cf53) := goodIn_app (goodIn_of _ (by decide +kernel)) ggJx4a65c_get_915e3_J15_checkIndex_7cf53
set_option maxRecDepth 20000 in
theorem ggJx4a65c_get_915e3_Jx4a65c_elementData_915e3 : GoodIn wsJx4a65c_get_915e3 wsJx4a65c_elementData_915e3 := goodIn_r _ [14, 15, 16, 17, 18] (by decide +kernel) (by decide +kernel)
set_option maxRecDepth 20000 in
theorem gJx4a65c_get_915e3_Jx4a65c_elementData_915e3 : GoodIn wsJx4a65c_get_915e3 (wsV RJx4a65c 123 RJx4a65c yJx4a65c_elementData_915e3 wsJx4a65c_elementData_915e3) := goodIn_app (goodIn_of _ (by decide +kernel)) ggJx4a65c_get_915e3_Jx4a65c_elementData_915e3
theorem dJx4a65c_get_915e3_0 : decode cJx4a65c_get_915e3 0 = .ok (.iload_n 1, 1) := by decide +kernel
theorem dJx4a65c_get_915e3_1 : decode cJx4a65c_get_915e3 1 = .ok (.aload_n 0, 1) := by decide +kernel
theorem dJx4a65c_get_915e3_2 : decode cJx4a65c_get_915e3 2 = .ok (.getfield 48, 3) := by decide +kernel
theorem dJx4a65c_get_915e3_5 : decode cJx4a65c_get_915e3 5 = .ok (.invokestatic 118, 3) := by decide +kernel
theorem dJx4a65c_get_915e3_8 : decode cJx4a65c_get_915e3 8 = .ok (.pop, 1) := by decide +kernel
theorem dJx4a65c_get_915e3_9 : decode cJx4a65c_get_915e3 9 = .ok (.aload_n 0, 1) := by decide +kernel
theorem dJx4a65c_get_915e3_10 : decode cJx4a65c_get_915e3 10 = .ok (.iload_n 1, 1) := by decide +kernel
theorem dJx4a65c_get_915e3_11 : decode cJx4a65c_get_915e3 11 = .ok (.invokevirtual 123, 3) := by decide +kernel
theorem dJx4a65c_get_915e3_14 : decode cJx4a65c_get_915e3 14 = .ok (.areturn, 1) := by decide +kernel
set_option maxRecDepth 20000 in
theorem ggJx4a65c_add_72be8_Jx4a65c_grow_d5877 : GoodIn wsJx4a65c_add_72be8 wsJx4a65c_grow_d5877 := goodIn_r _ [6, 1, 7, 8, 9, 5, 10, 11, 12, 13, 14, 15, 16, 17, 18, 19, 20, 21, 22, 23, 24, 25, 26, 27, 28, 29, 30, 31, 32, 33, 34, 35, 36, 37, 38, 39, 40, 41, 42, 43, 44, 45, 46, 47, 48, 49] (by decide +kernel) (by decide +kernel)
set_option maxRecDepth 20000 in
theorem gJx4a65c_add_72be8_Jx4a65c_grow_d5877 : GoodIn wsJx4a65c_add_72be8 (wsV RJx4a65c 129 RJx4a65c yJx4a65c_grow_d5877 wsJx4a65c_grow_d5877) := goodIn_app (goodIn_of _ (by decide +kernel)) ggJx4a65c_add_72be8_Jx4a65c_grow_d5877
theorem dJx4a65c_add_72be8_0 : decode cJx4a65c_add_72be8 0 = .ok (.iload_n 3, 1) := by decide +kernel
theorem dJx4a65c_add_72be8_1 : decode cJx4a65c_add_72be8 1 = .ok (.aload_n 2, 1) := by decide +kernel
theorem dJx4a65c_add_72be8_2 : decode cJx4a65c_add_72be8 2 = .ok (.arraylength, 1) := by decide +kernel
theorem dJx4a65c_add_72be8_3 : decode cJx4a65c_add_72be8 3 = .ok (.if_icmp .ne 8, 3) := by decide +kernel
theorem dJx4a65c_add_72be8_6 : decode cJx4a65c_add_72be8 6 = .ok (.aload_n 0, 1) := by decide +kernel
theorem dJx4a65c_add_72be8_7 : decode cJx4a65c_add_72be8 7 = .ok (.invokevirtual 129, 3) := by decide +kernel
theorem dJx4a65c_add_72be8_10 : decode cJx4a65c_add_72be8 10 = .ok (.astore_n 2, 1) := by decide +kernel
theorem dJx4a65c_add_72be8_11 : decode cJx4a65c_add_72be8 11 = .ok (.aload_n 2, 1) := by decide +kernel
theorem dJx4a65c_add_72be8_12 : decode cJx4a65c_add_72be8 12 = .ok (.iload_n 3, 1) := by decide +kernel
theorem dJx4a65c_add_72be8_13 : decode cJx4a65c_add_72be8 13 = .ok (.aload_n 1, 1) := by decide +kernel
theorem dJx4a65c_add_72be8_14 : decode cJx4a65c_add_72be8 14 = .ok (.aastore, 1) := by decide +kernel
theorem dJx4a65c_add_72be8_15 : decode cJx4a65c_add_72be8 15 = .ok (.aload_n 0, 1) := by decide +kernel
theorem dJx4a65c_add_72be8_16 : decode cJx4a65c_add_72be8 16 = .ok (.iload_n 3, 1) := by decide +kernel
theorem dJx4a65c_add_72be8_17 : decode cJx4a65c_add_72be8 17 = .ok (.iconst 1, 1) := by decide +kernel
theorem dJx4a65c_add_72be8_18 : decode cJx4a65c_add_72be8 18 = .ok (.iadd, 1) := by decide +kernel
theorem dJx4a65c_add_72be8_19 : decode cJx4a65c_add_72be8 19 = .ok (.putfield 48, 3) := by decide +kernel
theorem dJx4a65c_add_72be8_22 : decode cJx4a65c_add_72be8 22 = .ok (.return_, 1) := by decide +kernel
set_option maxRecDepth 20000 in
theorem ggJx4a65c_add_9ea2d_Jx4a65c_add_72be8 : GoodIn wsJx4a65c_add_9ea2d wsJx4a65c_add_72be8 := goodIn_r _ [9, 4, 10, 11, 12, 8, 13, 14, 15, 16, 17, 3, 18, 19, 20, 21, 22, 23, 24, 25, 26, 27, 28, 29, 30, 31, 32, 33, 34, 35, 36, 37, 38, 39, 40, 41, 42, 43, 44, 45, 46, 47, 48, 49, 50, 51, 52, 53, 54, 55] (by decide +kernel) (by decide +kernel)
set_option maxRecDepth 20000 in
theorem gJx4a65c_add_9ea2d_Jx4a65c_add_72be8 : GoodIn wsJx4a65c_add_9ea2d (wsV RJx4a65c 131 RJx4a65c yJx4a65c_add_72be8 wsJx4a65c_add_72be8) := goodIn_app (goodIn_of _ (by decide +kernel)) ggJx4a65c_add_9ea2d_Jx4a65c_add_72be8
theorem dJx4a65c_add_9ea2d_0 : decode cJx4a65c_add_9ea2d 0 = .ok (.aload_n 0, 1) := by decide +kernel
theorem dJx4a65c_add_9ea2d_1 : decode cJx4a65c_add_9ea2d 1 = .ok (.dup, 1) := by decide +kernel
theorem dJx4a65c_add_9ea2d_2 : decode cJx4a65c_add_9ea2d 2 = .ok (.getfield 63, 3) := by decide +kernel
theorem dJx4a65c_add_9ea2d_5 : decode cJx4a65c_add_9ea2d 5 = .ok (.iconst 1, 1) := by decide +kernel
theorem dJx4a65c_add_9ea2d_6 : decode cJx4a65c_add_9ea2d 6 = .ok (.iadd, 1) := by decide +kernel
theorem dJx4a65c_add_9ea2d_7 : decode cJx4a65c_add_9ea2d 7 = .ok (.putfield 63, 3) := by decide +kernel
theorem dJx4a65c_add_9ea2d_10 : decode cJx4a65c_add_9ea2d 10 = .ok (.aload_n 0, 1) := by decide +kernel
theorem dJx4a65c_add_9ea2d_11 : decode cJx4a65c_add_9ea2d 11 = .ok (.aload_n 1, 1) := by decide +kernel
theorem dJx4a65c_add_9ea2d_12 : decode cJx4a65c_add_9ea2d 12 = .ok (.aload_n 0, 1) := by decide +kernel
theorem dJx4a65c_add_9ea2d_13 : decode cJx4a65c_add_9ea2d 13 = .ok (.getfield 9, 3) := by decide +kernel
theorem dJx4a65c_add_9ea2d_16 : decode cJx4a65c_add_9ea2d 16 = .ok (.aload_n 0, 1) := by decide +kernel
theorem dJx4a65c_add_9ea2d_17 : decode cJx4a65c_add_9ea2d 17 = .ok (.getfield 48, 3) := by decide +kernel
theorem dJx4a65c_add_9ea2d_20 : decode cJx4a65c_add_9ea2d 20 = .ok (.invokevirtual 131, 3) := by decide +kernel
theorem dJx4a65c_add_9ea2d_23 : decode cJx4a65c_add_9ea2d 23 = .ok (.iconst 1, 1) := by decide +kernel
theorem dJx4a65c_add_9ea2d_24 : decode cJx4a65c_add_9ea2d 24 = .ok (.ireturn, 1) := by decide +kernel
set_option maxRecDepth 20000 in
theorem ggJ7_copyOf_1904c_J7_copyOf_6403c : GoodIn wsJ7_copyOf_1904c wsJ7_copyOf_6403c := goodIn_r _ [8, 9, 10, 11, 12, 13, 14, 15, 16, 17, 18] (by decide +kernel) (by decide +kernel)
set_option maxRecDepth 20000 in
theorem gJ7_copyOf_1904c_J7_copyOf_6403c : GoodIn wsJ7_copyOf_1904c (va_wsS RJ7 300 yJ7_copyOf_6403c wsJ7_copyOf_6403c) := goodIn_app (goodIn_of _ (by decide +kernel)) ggJ7_copyOf_1904c_J7_copyOf_6403c
theorem dJ7_copyOf_1904c_0 : decode cJ7_copyOf_1904c 0 = .ok (.aload_n 0, 1) := by decide +kernel
theorem dJ7_copyOf_1904c_1 : decode cJ7_copyOf_1904c 1 = .ok (.iload_n 1, 1) := by decide +kernel
theorem dJ7_copyOf_1904c_2 : decode cJ7_copyOf_1904c 2 = .ok (.aload_n 0, 1) := by decide +kernel
theorem dJ7_copyOf_1904c_3 : decode cJ7_copyOf_1904c 3 = .ok (.invokevirtual 86, 3) := by decide +kernel
theorem dJ7_copyOf_1904c_6 : decode cJ7_copyOf_1904c 6 = .ok (.invokestatic 300, 3) := by decide +kernel
theorem dJ7_copyOf_1904c_9 : decode cJ7_copyOf_1904c 9 = .ok (.areturn, 1) := by decide +kernel
theorem dJ7_copyOf_6403c_0 : decode cJ7_copyOf_6403c 0 = .ok (.aload_n 2, 1) := by decide +kernel
theorem dJ7_copyOf_6403c_1 : decode cJ7_copyOf_6403c 1 = .ok (.ldc 110, 2) := by decide +kernel
theorem dJ7_copyOf_6403c_3 : decode cJ7_copyOf_6403c 3 = .ok (.if_acmp .ne 10, 3) := by decide +kernel
theorem dJ7_copyOf_6403c_6 : decode cJ7_copyOf_6403c 6 = .ok (.iload_n 1, 1) := by decide +kernel
theorem dJ7_copyOf_6403c_7 : decode cJ7_copyOf_6403c 7 = .ok (.anewarray 2, 3) := by decide +kernel
theorem dJ7_copyOf_6403c_10 : decode cJ7_copyOf_6403c 10 = .ok (.goto 14, 3) := by decide +kernel
theorem dJ7_copyOf_6403c_13 : decode cJ7_copyOf_6403c 13 = .ok (.aload_n 2, 1) := by decide +kernel
theorem dJ7_copyOf_6403c_14 : decode cJ7_copyOf_6403c 14 = .ok (.invokevirtual 90, 3) := by decide +kernel
theorem dJ7_copyOf_6403c_17 : decode cJ7_copyOf_6403c 17 = .ok (.iload_n 1, 1) := by decide +kernel
theorem dJ7_copyOf_6403c_18 : decode cJ7_copyOf_6403c 18 = .ok (.invokestatic 95, 3) := by decide +kernel
theorem dJ7_copyOf_6403c_21 : decode cJ7_copyOf_6403c 21 = .ok (.checkcast 110, 3) := by decide +kernel
theorem dJ7_copyOf_6403c_24 : decode cJ7_copyOf_6403c 24 = .ok (.astore_n 3, 1) := by decide +kernel
theorem dJ7_copyOf_6403c_25 : decode cJ7_copyOf_6403c 25 = .ok (.aload_n 0, 1) := by decide +kernel
theorem dJ7_copyOf_6403c_26 : decode cJ7_copyOf_6403c 26 = .ok (.iconst 0, 1) := by decide +kernel
theorem dJ7_copyOf_6403c_27 : decode cJ7_copyOf_6403c 27 = .ok (.aload_n 3, 1) := by decide +kernel
theorem dJ7_copyOf_6403c_28 : decode cJ7_copyOf_6403c 28 = .ok (.iconst 0, 1) := by decide +kernel
theorem dJ7_copyOf_6403c_29 : decode cJ7_copyOf_6403c 29 = .ok (.aload_n 0, 1) := by decide +kernel
theorem dJ7_copyOf_6403c_30 : decode cJ7_copyOf_6403c 30 = .ok (.arraylength, 1) := by decide +kernel
theorem dJ7_copyOf_6403c_31 : decode cJ7_copyOf_6403c 31 = .ok (.iload_n 1, 1) := by decide +kernel
theorem dJ7_copyOf_6403c_32 : decode cJ7_copyOf_6403c 32 = .ok (.invokestatic 304, 3) := by decide +kernel
theorem dJ7_copyOf_6403c_35 : decode cJ7_copyOf_6403c 35 = .ok (.invokestatic 150, 3) := by decide +kernel
theorem dJ7_copyOf_6403c_38 : decode cJ7_copyOf_6403c 38 = .ok (.aload_n 3, 1) := by decide +kernel
theorem dJ7_copyOf_6403c_39 : decode cJ7_copyOf_6403c 39 = .ok (.areturn, 1) := by decide +kernel
theorem dJ7_copyOf_9075b_0 : decode cJ7_copyOf_9075b 0 = .ok (.iload_n 1, 1) := by decide +kernel
theorem dJ7_copyOf_9075b_1 : decode cJ7_copyOf_9075b 1 = .ok (.aload_n 0, 1) := by decide +kernel
theorem dJ7_copyOf_9075b_2 : decode cJ7_copyOf_9075b 2 = .ok (.arraylength, 1) := by decide +kernel
theorem dJ7_copyOf_9075b_3 : decode cJ7_copyOf_9075b 3 = .ok (.if_icmp .ne 11, 3) := by decide +kernel
theorem dJ7_copyOf_9075b_6 : decode cJ7_copyOf_9075b 6 = .ok (.aload_n 0, 1) := by decide +kernel
theorem dJ7_copyOf_9075b_7 : decode cJ7_copyOf_9075b 7 = .ok (.invokevirtual 310, 3) := by decide +kernel
theorem dJ7_copyOf_9075b_10 : decode cJ7_copyOf_9075b 10 = .ok (.checkcast 311, 3) := by decide +kernel
theorem dJ7_copyOf_9075b_13 : decode cJ7_copyOf_9075b 13 = .ok (.areturn, 1) := by decide +kernel
theorem dJ7_copyOf_9075b_14 : decode cJ7_copyOf_9075b 14 = .ok (.iload_n 1, 1) := by decide +kernel
theorem dJ7_copyOf_9075b_15 : decode cJ7_copyOf_9075b 15 = .ok (.newarray .byte, 2) := by decide +kernel
theorem dJ7_copyOf_9075b_17 : decode cJ7_copyOf_9075b 17 = .ok (.astore_n 2, 1) := by decide +kernel
theorem dJ7_copyOf_9075b_18 : decode cJ7_copyOf_9075b 18 = .ok (.aload_n 0, 1) := by decide +kernel
theorem dJ7_copyOf_9075b_19 : decode cJ7_copyOf_9075b 19 = .ok (.iconst 0, 1) := by decide +kernel
theorem dJ7_copyOf_9075b_20 : decode cJ7_copyOf_9075b 20 = .ok (.aload_n 2, 1) := by decide +kernel
theorem dJ7_copyOf_9075b_21 : decode cJ7_copyOf_9075b 21 = .ok (.iconst 0, 1) := by decide +kernel
theorem dJ7_copyOf_9075b_22 : decode cJ7_copyOf_9075b 22 = .ok (.aload_n 0, 1) := by decide +kernel
theorem dJ7_copyOf_9075b_23 : decode cJ7_copyOf_9075b 23 = .ok (.arraylength, 1) := by decide +kernel
theorem dJ7_copyOf_9075b_24 : decode cJ7_copyOf_9075b 24 = .ok (.iload_n 1, 1) := by decide +kernel
theorem dJ7_copyOf_9075b_25 : decode cJ7_copyOf_9075b 25 = .ok (.invokestatic 304, 3) := by decide +kernel
theorem dJ7_copyOf_9075b_28 : decode cJ7_copyOf_9075b 28 = .ok (.invokestatic 150, 3) := by decide +kernel
theorem dJ7_copyOf_9075b_31 : decode cJ7_copyOf_9075b 31 = .ok (.aload_n 2, 1) := by decide +kernel
theorem dJ7_copyOf_9075b_32 : decode cJ7_copyOf_9075b 32 = .ok (.areturn, 1) := by decide +kernel
set_option maxRecDepth 20000 in
theorem ggJ15_checkIndex_7cf53_J3_checkIndex_8e157 : GoodIn wsJ15_checkIndex_7cf53 wsJ3_checkIndex_8e157 := goodIn_r _ [4] (by decide +kernel) (by decide +kernel)
set_option maxRecDepth 20000 in
theorem gJ15_checkIndex_7cf53_J3_checkIndex_8e157 : GoodIn wsJ15_checkIndex_7cf53 (va_wsS RJ15 105 yJ3_checkIndex_8e157 wsJ3_checkIndex_8e157) := goodIn_app (goodIn_of _ (by decide +kernel)) ggJ15_checkIndex_7cf53_J3_checkIndex_8e157
theorem dJ15_checkIndex_7cf53_0 : decode cJ15_checkIndex_7cf53 0 = .ok (.iload_n 0, 1) := by decide +kernel
theorem dJ15_checkIndex_7cf53_1 : decode cJ15_checkIndex_7cf53 1 = .ok (.iload_n 1, 1) := by decide +kernel
theorem dJ15_checkIndex_7cf53_2 : decode cJ15_checkIndex_7cf53 2 = .ok (.aconst_null, 1) := by decide +kernel
theorem dJ15_checkIndex_7cf53_3 : decode cJ15_checkIndex_7cf53 3 = .ok (.invokestatic 105, 3) := by decide +kernel
theorem dJ15_checkIndex_7cf53_6 : decode cJ15_checkIndex_7cf53 6 = .ok (.ireturn, 1) := by decide +kernel
set_option maxRecDepth 20000 in
theorem ggJ8_newLength_cabcc_J8_hugeLength_7cf53 : GoodIn wsJ8_newLength_cabcc wsJ8_hugeLength_7cf53 := goodIn_r _ [9, 5] (by decide +kernel) (by decide +kernel)
set_option maxRecDepth 20000 in
theorem gJ8_newLength_cabcc_J8_hugeLength_7cf53 : GoodIn wsJ8_newLength_cabcc (va_wsS RJ8 201 yJ8_hugeLength_7cf53 wsJ8_hugeLength_7cf53) := goodIn_app (goodIn_of _ (by decide +kernel)) ggJ8_newLength_cabcc_J8_hugeLength_7cf53
theorem dJ8_newLength_cabcc_0 : decode cJ8_newLength_cabcc 0 = .ok (.iload_n 0, 1) := by decide +kernel
theorem dJ8_newLength_cabcc_1 : decode cJ8_newLength_cabcc 1 = .ok (.iload_n 1, 1) := by decide +kernel
theorem dJ8_newLength_cabcc_2 : decode cJ8_newLength_cabcc 2 = .ok (.iload_n 2, 1) := by decide +kernel
theorem dJ8_newLength_cabcc_3 : decode cJ8_newLength_cabcc 3 = .ok (.invokestatic 194, 3) := by decide +kernel
theorem dJ8_newLength_cabcc_6 : decode cJ8_newLength_cabcc 6 = .ok (.iadd, 1) := by decide +kernel
theorem dJ8_newLength_cabcc_7 : decode cJ8_newLength_cabcc 7 = .ok (.istore_n 3, 1) := by decide +kernel
theorem dJ8_newLength_cabcc_8 : decode cJ8_newLength_cabcc 8 = .ok (.iconst 0, 1) := by decide +kernel
theorem dJ8_newLength_cabcc_9 : decode cJ8_newLength_cabcc 9 = .ok (.iload_n 3, 1) := by decide +kernel
theorem dJ8_newLength_cabcc_10 : decode cJ8_newLength_cabcc 10 = .ok (.if_icmp .ge 11, 3) := by decide +kernel
theorem dJ8_newLength_cabcc_13 : decode cJ8_newLength_cabcc 13 = .ok (.iload_n 3, 1) := by decide +kernel
theorem dJ8_newLength_cabcc_14 : decode cJ8_newLength_cabcc 14 = .ok (.ldc 200, 2) := by decide +kernel
theorem dJ8_newLength_cabcc_16 : decode cJ8_newLength_cabcc 16 = .ok (.if_icmp .gt 5, 3) := by decide +kernel
theorem dJ8_newLength_cabcc_19 : decode cJ8_newLength_cabcc 19 = .ok (.iload_n 3, 1) := by decide +kernel
theorem dJ8_newLength_cabcc_20 : decode cJ8_newLength_cabcc 20 = .ok (.ireturn, 1) := by decide +kernel
theorem dJ8_newLength_cabcc_21 : decode cJ8_newLength_cabcc 21 = .ok (.iload_n 0, 1) := by decide +kernel
theorem dJ8_newLength_cabcc_22 : decode cJ8_newLength_cabcc 22 = .ok (.iload_n 1, 1) := by decide +kernel
theorem dJ8_newLength_cabcc_23 : decode cJ8_newLength_cabcc 23 = .ok (.invokestatic 201, 3) := by decide +kernel
theorem dJ8_newLength_cabcc_26 : decode cJ8_newLength_cabcc 26 = .ok (.ireturn, 1) := by decide +kernel
theorem dJ8_hugeLength_7cf53_0 : decode cJ8_hugeLength_7cf53 0 = .ok (.iload_n 0, 1) := by decide +kernel
theorem dJ8_hugeLength_7cf53_1 : decode cJ8_hugeLength_7cf53 1 = .ok (.iload_n 1, 1) := by decide +kernel
theorem dJ8_hugeLength_7cf53_2 : decode cJ8_hugeLength_7cf53 2 = .ok (.iadd, 1) := by decide +kernel
theorem dJ8_hugeLength_7cf53_3 : decode cJ8_hugeLength_7cf53 3 = .ok (.istore_n 2, 1) := by decide +kernel
theorem dJ8_hugeLength_7cf53_4 : decode cJ8_hugeLength_7cf53 4 = .ok (.iload_n 2, 1) := by decide +kernel
theorem dJ8_hugeLength_7cf53_5 : decode cJ8_hugeLength_7cf53 5 = .ok (.ifCond .ge 44, 3) := by decide +kernel
theorem dJ8_hugeLength_7cf53_8 : decode cJ8_hugeLength_7cf53 8 = .ok (.new 204, 3) := by decide +kernel
theorem dJ8_hugeLength_7cf53_11 : decode cJ8_hugeLength_7cf53 11 = .ok (.dup, 1) := by decide +kernel
theorem dJ8_hugeLength_7cf53_12 : decode cJ8_hugeLength_7cf53 12 = .ok (.new 89, 3) := by decide +kernel
theorem dJ8_hugeLength_7cf53_15 : decode cJ8_hugeLength_7cf53 15 = .ok (.dup, 1) := by decide +kernel
theorem dJ8_hugeLength_7cf53_16 : decode cJ8_hugeLength_7cf53 16 = .ok (.invokespecial 91, 3) := by decide +kernel
theorem dJ8_hugeLength_7cf53_19 : decode cJ8_hugeLength_7cf53 19 = .ok (.ldc 206, 2) := by decide +kernel
theorem dJ8_hugeLength_7cf53_21 : decode cJ8_hugeLength_7cf53 21 = .ok (.invokevirtual 94, 3) := by decide +kernel
theorem dJ8_hugeLength_7cf53_24 : decode cJ8_hugeLength_7cf53 24 = .ok (.iload_n 0, 1) := by decide +kernel
theorem dJ8_hugeLength_7cf53_25 : decode cJ8_hugeLength_7cf53 25 = .ok (.invokevirtual 98, 3) := by decide +kernel
theorem dJ8_hugeLength_7cf53_28 : decode cJ8_hugeLength_7cf53 28 = .ok (.ldc 208, 2) := by decide +kernel
theorem dJ8_hugeLength_7cf53_30 : decode cJ8_hugeLength_7cf53 30 = .ok (.invokevirtual 94, 3) := by decide +kernel
theorem dJ8_hugeLength_7cf53_33 : decode cJ8_hugeLength_7cf53 33 = .ok (.iload_n 1, 1) := by decide +kernel
theorem dJ8_hugeLength_7cf53_34 : decode cJ8_hugeLength_7cf53 34 = .ok (.invokevirtual 98, 3) := by decide +kernel
theorem dJ8_hugeLength_7cf53_37 : decode cJ8_hugeLength_7cf53 37 = .ok (.ldc 210, 2) := by decide +kernel
theorem dJ8_hugeLength_7cf53_39 : decode cJ8_hugeLength_7cf53 39 = .ok (.invokevirtual 94, 3) := by decide +kernel
theorem dJ8_hugeLength_7cf53_42 : decode cJ8_hugeLength_7cf53 42 = .ok (.invokevirtual 101, 3) := by decide +kernel
theorem dJ8_hugeLength_7cf53_45 : decode cJ8_hugeLength_7cf53 45 = .ok (.invokespecial 212, 3) := by decide +kernel
theorem dJ8_hugeLength_7cf53_48 : decode cJ8_hugeLength_7cf53 48 = .ok (.athrow, 1) := by decide +kernel
theorem dJ8_hugeLength_7cf53_49 : decode cJ8_hugeLength_7cf53 49 = .ok (.iload_n 2, 1) := by decide +kernel
theorem dJ8_hugeLength_7cf53_50 : decode cJ8_hugeLength_7cf53 50 = .ok (.ldc 200, 2) := by decide +kernel
theorem dJ8_hugeLength_7cf53_52 : decode cJ8_hugeLength_7cf53 52 = .ok (.if_icmp .gt 6, 3) := by decide +kernel
theorem dJ8_hugeLength_7cf53_55 : decode cJ8_hugeLength_7cf53 55 = .ok (.ldc 200, 2) := by decide +kernel
theorem dJ8_hugeLength_7cf53_57 : decode cJ8_hugeLength_7cf53 57 = .ok (.ireturn, 1) := by decide +kernel
theorem dJ8_hugeLength_7cf53_58 : decode cJ8_hugeLength_7cf53 58 = .ok (.iload_n 2, 1) := by decide +kernel
theorem dJ8_hugeLength_7cf53_59 : decode cJ8_hugeLength_7cf53 59 = .ok (.ireturn, 1) := by decide +kernel
theorem dJ3_checkIndex_8e157_0 : decode cJ3_checkIndex_8e157 0 = .ok (.iload_n 0, 1) := by decide +kernel
theorem dJ3_checkIndex_8e157_1 : decode cJ3_checkIndex_8e157 1 = .ok (.ifCond .lt 8, 3) := by decide +kernel
theorem dJ3_checkIndex_8e157_4 : decode cJ3_checkIndex_8e157 4 = .ok (.iload_n 0, 1) := by decide +kernel
theorem dJ3_checkIndex_8e157_5 : decode cJ3_checkIndex_8e157 5 = .ok (.iload_n 1, 1) := by decide +kernel
theorem dJ3_checkIndex_8e157_6 : decode cJ3_checkIndex_8e157 6 = .ok (.if_icmp .lt 10, 3) := by decide +kernel
theorem dJ3_checkIndex_8e157_9 : decode cJ3_checkIndex_8e157 9 = .ok (.aload_n 2, 1) := by decide +kernel
theorem dJ3_checkIndex_8e157_10 : decode cJ3_checkIndex_8e157 10 = .ok (.iload_n 0, 1) := by decide +kernel
theorem dJ3_checkIndex_8e157_11 : decode cJ3_checkIndex_8e157 11 = .ok (.iload_n 1, 1) := by decide +kernel
theorem dJ3_checkIndex_8e157_12 : decode cJ3_checkIndex_8e157 12 = .ok (.invokestatic 95, 3) := by decide +kernel
theorem dJ3_checkIndex_8e157_15 : decode cJ3_checkIndex_8e157 15 = .ok (.athrow, 1) := by decide +kernel
theorem dJ3_checkIndex_8e157_16 : decode cJ3_checkIndex_8e157 16 = .ok (.iload_n 0, 1) := by decide +kernel
theorem dJ3_checkIndex_8e157_17 : decode cJ3_checkIndex_8e157 17 = .ok (.ireturn, 1) := by decide +kernel
theorem dJ3_checkFromIndexSize_8c36e_0 : decode cJ3_checkFromIndexSize_8c36e 0 = .ok (.iload_n 2, 1) := by decide +kernel
theorem dJ3_checkFromIndexSize_8c36e_1 : decode cJ3_checkFromIndexSize_8c36e 1 = .ok (.iload_n 0, 1) := by decide +kernel
theorem dJ3_checkFromIndexSize_8c36e_2 : decode cJ3_checkFromIndexSize_8c36e 2 = .ok (.ior, 1) := by decide +kernel
theorem dJ3_checkFromIndexSize_8c36e_3 : decode cJ3_checkFromIndexSize_8c36e 3 = .ok (.iload_n 1, 1) := by decide +kernel
theorem dJ3_checkFromIndexSize_8c36e_4 : decode cJ3_checkFromIndexSize_8c36e 4 = .ok (.ior, 1) := by decide +kernel
theorem dJ3_checkFromIndexSize_8c36e_5 : decode cJ3_checkFromIndexSize_8c36e 5 = .ok (.ifCond .lt 10, 3) := by decide +kernel
theorem dJ3_checkFromIndexSize_8c36e_8 : decode cJ3_checkFromIndexSize_8c36e 8 = .ok (.iload_n 1, 1) := by decide +kernel
theorem dJ3_checkFromIndexSize_8c36e_9 : decode cJ3_checkFromIndexSize_8c36e 9 = .ok (.iload_n 2, 1) := by decide +kernel
theorem dJ3_checkFromIndexSize_8c36e_10 : decode cJ3_checkFromIndexSize_8c36e 10 = .ok (.iload_n 0, 1) := by decide +kernel
theorem dJ3_checkFromIndexSize_8c36e_11 : decode cJ3_checkFromIndexSize_8c36e 11 = .ok (.isub, 1) := by decide +kernel
theorem dJ3_checkFromIndexSize_8c36e_12 : decode cJ3_checkFromIndexSize_8c36e 12 = .ok (.if_icmp .le 11, 3) := by decide +kernel
theorem dJ3_checkFromIndexSize_8c36e_15 : decode cJ3_checkFromIndexSize_8c36e 15 = .ok (.aload_n 3, 1) := by decide +kernel
theorem dJ3_checkFromIndexSize_8c36e_16 : decode cJ3_checkFromIndexSize_8c36e 16 = .ok (.iload_n 0, 1) := by decide +kernel
theorem dJ3_checkFromIndexSize_8c36e_17 : decode cJ3_checkFromIndexSize_8c36e 17 = .ok (.iload_n 1, 1) := by decide +kernel
theorem dJ3_checkFromIndexSize_8c36e_18 : decode cJ3_checkFromIndexSize_8c36e 18 = .ok (.iload_n 2, 1) := by decide +kernel
theorem dJ3_checkFromIndexSize_8c36e_19 : decode cJ3_checkFromIndexSize_8c36e 19 = .ok (.invokestatic 103, 3) := by decide +kernel
theorem dJ3_checkFromIndexSize_8c36e_22 : decode cJ3_checkFromIndexSize_8c36e 22 = .ok (.athrow, 1) := by decide +kernel
theorem dJ3_checkFromIndexSize_8c36e_23 : decode cJ3_checkFromIndexSize_8c36e 23 = .ok (.iload_n 0, 1) := by decide +kernel
theorem dJ3_checkFromIndexSize_8c36e_24 : decode cJ3_checkFromIndexSize_8c36e 24 = .ok (.ireturn, 1) := by decide +kernel
set_option maxRecDepth 20000 in
theorem ggL_gear_X9_gear : GoodIn wsL_gear wsX9_gear := goodIn_ca (goodIn_ca (goodIn_r _ [7, 8, 9, 10, 11, 12, 13, 14, 15, 16, 17, 6, 18, 19, 20, 21, 22, 23, 24, 25, 26, 27, 28, 29, 30, 31, 32, 33, 34, 35, 36, 37, 38, 39, 40, 41, 42, 43, 44, 45, 46, 47, 48, 49, 50, 51, 52, 53, 54, 55, 56, 57, 58, 59, 60, 61, 62, 63, 64, 65, 66, 67, 68, 69, 70, 71, 72, 73, 74, 75, 76, 77, 78, 79, 80, 81, 82, 83, 84, 85, 86, 87, 88, 89, 90, 91, 92, 93, 94, 95, 96, 97, 98, 99, 100, 101, 102, 103, 104, 105, 106, 107, 108, 109] (by decide +kernel) (by decide +kernel)) (goodIn_sub (fun _ h => List.mem_cons_of_mem _ (List.mem_append_left _ (List.mem_append_right _ h))) (by decide +kernel))) (goodIn_sub (fun _ h => List.mem_cons_of_mem _ (List.mem_append_right _ h)) (by decide +kernel))
set_option maxRecDepth 20000 in
theorem gL_gear_X9_gear : GoodIn wsL_gear (wsV RL 7 RX9 yX9_gear wsX9_gear) := goodIn_app (goodIn_of _ (by decide +kernel)) ggL_gear_X9_gear
theorem dL_gear_0 : decode cL_gear 0 = .ok (.aload 5, 2) := by decide +kernel
theorem dL_gear_2 : decode cL_gear 2 = .ok (.iconst 0, 1) := by decide +kernel
theorem dL_gear_3 : decode cL_gear 3 = .ok (.aload_n 0, 1) := by decide +kernel
theorem dL_gear_4 : decode cL_gear 4 = .ok (.iload_n 1, 1) := by decide +kernel
theorem dL_gear_5 : decode cL_gear 5 = .ok (.iload_n 2, 1) := by decide +kernel
theorem dL_gear_6 : decode cL_gear 6 = .ok (.iload_n 3, 1) := by decide +kernel
theorem dL_gear_7 : decode cL_gear 7 = .ok (.iload 4, 2) := by decide +kernel
theorem dL_gear_9 : decode cL_gear 9 = .ok (.invokevirtual 7, 3) := by decide +kernel
theorem dL_gear_12 : decode cL_gear 12 = .ok (.i2l, 1) := by decide +kernel
theorem dL_gear_13 : decode cL_gear 13 = .ok (.lastore, 1) := by decide +kernel
theorem dL_gear_14 : decode cL_gear 14 = .ok (.goto 11, 3) := by decide +kernel
theorem dL_gear_17 : decode cL_gear 17 = .ok (.astore 6, 2) := by decide +kernel
theorem dL_gear_19 : decode cL_gear 19 = .ok (.iconst 1, 1) := by decide +kernel
theorem dL_gear_20 : decode cL_gear 20 = .ok (.ireturn, 1) := by decide +kernel
theorem dL_gear_21 : decode cL_gear 21 = .ok (.astore 6, 2) := by decide +kernel
theorem dL_gear_23 : decode cL_gear 23 = .ok (.iconst 2, 1) := by decide +kernel
theorem dL_gear_24 : decode cL_gear 24 = .ok (.ireturn, 1) := by decide +kernel
theorem dL_gear_25 : decode cL_gear 25 = .ok (.iconst 0, 1) := by decide +kernel
theorem dL_gear_26 : decode cL_gear 26 = .ok (.ireturn, 1) := by decide +kernel
set_option maxRecDepth 20000 in
theorem ggL_setShift_X9_setShift : GoodIn wsL_setShift wsX9_setShift := goodIn_ca (goodIn_ca (goodIn_ca (goodIn_r _ [8, 9, 10, 11, 12, 13, 7, 14, 15, 16, 17, 18, 19, 20, 21, 22, 23, 24, 25, 26, 27, 28, 29, 30, 31, 32, 33, 34, 35, 36, 37, 38, 39, 40, 41, 42, 43, 44, 45, 46, 47, 48, 49, 50, 51, 52, 53, 54, 55, 56, 57, 58, 59] (by decide +kernel) (by decide +kernel)) (goodIn_sub (fun _ h => List.mem_cons_of_mem _ (List.mem_append_left _ (List.mem_append_left _ (List.mem_append_right _ h)))) (by decide +kernel))) (goodIn_sub (fun _ h => List.mem_cons_of_mem _ (List.mem_append_left _ (List.mem_append_right _ h))) (by decide +kernel))) (goodIn_sub (fun _ h => List.mem_cons_of_mem _ (List.mem_append_right _ h)) (by decide +kernel))
set_option maxRecDepth 20000 in
theorem gL_setShift_X9_setShift : GoodIn wsL_setShift (wsV RL 17 RX9 yX9_setShift wsX9_setShift) := goodIn_app (goodIn_of _ (by decide +kernel)) ggL_setShift_X9_setShift
theorem dL_setShift_0 : decode cL_setShift 0 = .ok (.aload_n 3, 1) := by decide +kernel
theorem dL_setShift_1 : decode cL_setShift 1 = .ok (.iconst 0, 1) := by decide +kernel
theorem dL_setShift_2 : decode cL_setShift 2 = .ok (.aload_n 0, 1) := by decide +kernel
theorem dL_setShift_3 : decode cL_setShift 3 = .ok (.iload_n 1, 1) := by decide +kernel
theorem dL_setShift_4 : decode cL_setShift 4 = .ok (.iload_n 2, 1) := by decide +kernel
theorem dL_setShift_5 : decode cL_setShift 5 = .ok (.invokevirtual 17, 3) := by decide +kernel
theorem dL_setShift_8 : decode cL_setShift 8 = .ok (.i2l, 1) := by decide +kernel
theorem dL_setShift_9 : decode cL_setShift 9 = .ok (.lastore, 1) := by decide +kernel
theorem dL_setShift_10 : decode cL_setShift 10 = .ok (.goto 15, 3) := by decide +kernel
theorem dL_setShift_13 : decode cL_setShift 13 = .ok (.astore 4, 2) := by decide +kernel
theorem dL_setShift_15 : decode cL_setShift 15 = .ok (.iconst 1, 1) := by decide +kernel
theorem dL_setShift_16 : decode cL_setShift 16 = .ok (.ireturn, 1) := by decide +kernel
theorem dL_setShift_17 : decode cL_setShift 17 = .ok (.astore 4, 2) := by decide +kernel
theorem dL_setShift_19 : decode cL_setShift 19 = .ok (.iconst 2, 1) := by decide +kernel
theorem dL_setShift_20 : decode cL_setShift 20 = .ok (.ireturn, 1) := by decide +kernel
theorem dL_setShift_21 : decode cL_setShift 21 = .ok (.astore 4, 2) := by decide +kernel
theorem dL_setShift_23 : decode cL_setShift 23 = .ok (.iconst 3, 1) := by decide +kernel
theorem dL_setShift_24 : decode cL_setShift 24 = .ok (.ireturn, 1) := by decide +kernel
theorem dL_setShift_25 : decode cL_setShift 25 = .ok (.iconst 0, 1) := by decide +kernel
theorem dL_setShift_26 : decode cL_setShift 26 = .ok (.ireturn, 1) := by decide +kernel
set_option maxRecDepth 20000 in
theorem ggL_diameter_X9_diameter : GoodIn wsL_diameter wsX9_diameter := goodIn_ca (goodIn_r _ [6, 7, 8, 9, 5, 10, 11, 12, 13, 14, 15, 16, 17, 18, 19, 20, 21, 22, 23, 24, 25, 26, 27, 28, 29, 30, 31, 32, 33, 34, 35, 36, 37, 38, 39, 40, 41, 42, 43, 44, 45, 46, 47, 48, 49, 50, 51, 52] (by decide +kernel) (by decide +kernel)) (goodIn_sub (fun _ h => List.mem_cons_of_mem _ (List.mem_append_right _ h)) (by decide +kernel))
set_option maxRecDepth 20000 in
theorem gL_diameter_X9_diameter : GoodIn wsL_diameter (wsV RL 25 RX9 yX9_diameter wsX9_diameter) := goodIn_app (goodIn_of _ (by decide +kernel)) ggL_diameter_X9_diameter
theorem dL_diameter_0 : decode cL_diameter 0 = .ok (.aload_n 2, 1) := by decide +kernel
theorem dL_diameter_1 : decode cL_diameter 1 = .ok (.iconst 0, 1) := by decide +kernel
theorem dL_diameter_2 : decode cL_diameter 2 = .ok (.aload_n 0, 1) := by decide +kernel
theorem dL_diameter_3 : decode cL_diameter 3 = .ok (.iload_n 1, 1) := by decide +kernel
theorem dL_diameter_4 : decode cL_diameter 4 = .ok (.invokevirtual 25, 3) := by decide +kernel
theorem dL_diameter_7 : decode cL_diameter 7 = .ok (.i2l, 1) := by decide +kernel
theorem dL_diameter_8 : decode cL_diameter 8 = .ok (.lastore, 1) := by decide +kernel
theorem dL_diameter_9 : decode cL_diameter 9 = .ok (.goto 6, 3) := by decide +kernel
theorem dL_diameter_12 : decode cL_diameter 12 = .ok (.astore_n 3, 1) := by decide +kernel
theorem dL_diameter_13 : decode cL_diameter 13 = .ok (.iconst 1, 1) := by decide +kernel
theorem dL_diameter_14 : decode cL_diameter 14 = .ok (.ireturn, 1) := by decide +kernel
theorem dL_diameter_15 : decode cL_diameter 15 = .ok (.iconst 0, 1) := by decide +kernel
theorem dL_diameter_16 : decode cL_diameter 16 = .ok (.ireturn, 1) := by decide +kernel
set_option maxRecDepth 20000 in
theorem ggL_tip_X9_tip : GoodIn wsL_tip wsX9_tip := goodIn_ca (goodIn_r _ [6, 7, 8, 9, 10, 5, 11, 12, 13, 14, 15, 16, 17, 18, 19, 20, 21, 22, 23, 24, 25, 26, 27, 28, 29, 30, 31, 32, 33, 34, 35, 36, 37, 38, 39, 40, 41, 42, 43, 44, 45, 46, 47, 48, 49, 50, 51, 52, 53, 54, 55] (by decide +kernel) (by decide +kernel)) (goodIn_sub (fun _ h => List.mem_cons_of_mem _ (List.mem_append_right _ h)) (by decide +kernel))
set_option maxRecDepth 20000 in
theorem gL_tip_X9_tip : GoodIn wsL_tip (wsV RL 29 RX9 yX9_tip wsX9_tip) := goodIn_app (goodIn_of _ (by decide +kernel)) ggL_tip_X9_tip
theorem dL_tip_0 : decode cL_tip 0 = .ok (.aload_n 2, 1) := by decide +kernel
theorem dL_tip_1 : decode cL_tip 1 = .ok (.iconst 0, 1) := by decide +kernel
theorem dL_tip_2 : decode cL_tip 2 = .ok (.aload_n 0, 1) := by decide +kernel
theorem dL_tip_3 : decode cL_tip 3 = .ok (.iload_n 1, 1) := by decide +kernel
theorem dL_tip_4 : decode cL_tip 4 = .ok (.invokevirtual 29, 3) := by decide +kernel
theorem dL_tip_7 : decode cL_tip 7 = .ok (.i2l, 1) := by decide +kernel
theorem dL_tip_8 : decode cL_tip 8 = .ok (.lastore, 1) := by decide +kernel
theorem dL_tip_9 : decode cL_tip 9 = .ok (.goto 6, 3) := by decide +kernel
theorem dL_tip_12 : decode cL_tip 12 = .ok (.astore_n 3, 1) := by decide +kernel
theorem dL_tip_13 : decode cL_tip 13 = .ok (.iconst 1, 1) := by decide +kernel
theorem dL_tip_14 : decode cL_tip 14 = .ok (.ireturn, 1) := by decide +kernel
theorem dL_tip_15 : decode cL_tip 15 = .ok (.iconst 0, 1) := by decide +kernel
theorem dL_tip_16 : decode cL_tip 16 = .ok (.ireturn, 1) := by decide +kernel
set_option maxRecDepth 20000 in
theorem ggL_isUndercut_X9_isUndercut : GoodIn wsL_isUndercut wsX9_isUndercut := goodIn_ca (goodIn_r _ [6, 7, 8, 9, 10, 11, 5, 12, 13, 14, 15, 16, 17, 18, 19, 20, 21, 22, 23, 24, 25, 26, 27, 28, 29, 30, 31, 32, 33, 34, 35, 36, 37, 38, 39, 40, 41, 42, 43, 44, 45, 46, 47, 48, 49, 50] (by decide +kernel) (by decide +kernel)) (goodIn_sub (fun _ h => List.mem_cons_of_mem _ (List.mem_append_right _ h)) (by decide +kernel))
set_option maxRecDepth 20000 in
theorem gL_isUndercut_X9_isUndercut : GoodIn wsL_isUndercut (wsV RL 32 RX9 yX9_isUndercut wsX9_isUndercut) := goodIn_app (goodIn_of _ (by decide +kernel)) ggL_isUndercut_X9_isUndercut
theorem dL_isUndercut_0 : decode cL_isUndercut 0 = .ok (.aload_n 2, 1) := by decide +kernel
theorem dL_isUndercut_1 : decode cL_isUndercut 1 = .ok (.iconst 0, 1) := by decide +kernel
theorem dL_isUndercut_2 : decode cL_isUndercut 2 = .ok (.aload_n 0, 1) := by decide +kernel
theorem dL_isUndercut_3 : decode cL_isUndercut 3 = .ok (.iload_n 1, 1) := by decide +kernel
theorem dL_isUndercut_4 : decode cL_isUndercut 4 = .ok (.invokevirtual 32, 3) := by decide +kernel
theorem dL_isUndercut_7 : decode cL_isUndercut 7 = .ok (.ifCond .eq 7, 3) := by decide +kernel
theorem dL_isUndercut_10 : decode cL_isUndercut 10 = .ok (.lconst 1, 1) := by decide +kernel
theorem dL_isUndercut_11 : decode cL_isUndercut 11 = .ok (.goto 4, 3) := by decide +kernel
theorem dL_isUndercut_14 : decode cL_isUndercut 14 = .ok (.lconst 0, 1) := by decide +kernel
theorem dL_isUndercut_15 : decode cL_isUndercut 15 = .ok (.lastore, 1) := by decide +kernel
theorem dL_isUndercut_16 : decode cL_isUndercut 16 = .ok (.goto 6, 3) := by decide +kernel
theorem dL_isUndercut_19 : decode cL_isUndercut 19 = .ok (.astore_n 3, 1) := by decide +kernel
theorem dL_isUndercut_20 : decode cL_isUndercut 20 = .ok (.iconst 1, 1) := by decide +kernel
theorem dL_isUndercut_21 : decode cL_isUndercut 21 = .ok (.ireturn, 1) := by decide +kernel
theorem dL_isUndercut_22 : decode cL_isUndercut 22 = .ok (.iconst 0, 1) := by decide +kernel
theorem dL_isUndercut_23 : decode cL_isUndercut 23 = .ok (.ireturn, 1) := by decide +kernel
set_option maxRecDepth 20000 in
theorem ggL_isSharp_X9_isSharp : GoodIn wsL_isSharp wsX9_isSharp := goodIn_ca (goodIn_r _ [6, 7, 8, 9, 10, 11, 5, 12, 13, 14, 15, 16, 17, 18, 19, 20, 21, 22, 23, 24, 25, 26, 27, 28, 29, 30, 31, 32, 33, 34, 35, 36, 37, 38, 39, 40, 41, 42, 43, 44, 45, 46, 47, 48, 49, 50] (by decide +kernel) (by decide +kernel)) (goodIn_sub (fun _ h => List.mem_cons_of_mem _ (List.mem_append_right _ h)) (by decide +kernel))
set_option maxRecDepth 20000 in
theorem gL_isSharp_X9_isSharp : GoodIn wsL_isSharp (wsV RL 36 RX9 yX9_isSharp wsX9_isSharp) := goodIn_app (goodIn_of _ (by decide +kernel)) ggL_isSharp_X9_isSharp
theorem dL_isSharp_0 : decode cL_isSharp 0 = .ok (.aload_n 2, 1) := by decide +kernel
theorem dL_isSharp_1 : decode cL_isSharp 1 = .ok (.iconst 0, 1) := by decide +kernel
theorem dL_isSharp_2 : decode cL_isSharp 2 = .ok (.aload_n 0, 1) := by decide +kernel
theorem dL_isSharp_3 : decode cL_isSharp 3 = .ok (.iload_n 1, 1) := by decide +kernel
theorem dL_isSharp_4 : decode cL_isSharp 4 = .ok (.invokevirtual 36, 3) := by decide +kernel
theorem dL_isSharp_7 : decode cL_isSharp 7 = .ok (.ifCond .eq 7, 3) := by decide +kernel
theorem dL_isSharp_10 : decode cL_isSharp 10 = .ok (.lconst 1, 1) := by decide +kernel
theorem dL_isSharp_11 : decode cL_isSharp 11 = .ok (.goto 4, 3) := by decide +kernel
theorem dL_isSharp_14 : decode cL_isSharp 14 = .ok (.lconst 0, 1) := by decide +kernel
theorem dL_isSharp_15 : decode cL_isSharp 15 = .ok (.lastore, 1) := by decide +kernel
theorem dL_isSharp_16 : decode cL_isSharp 16 = .ok (.goto 6, 3) := by decide +kernel
theorem dL_isSharp_19 : decode cL_isSharp 19 = .ok (.astore_n 3, 1) := by decide +kernel
theorem dL_isSharp_20 : decode cL_isSharp 20 = .ok (.iconst 1, 1) := by decide +kernel
theorem dL_isSharp_21 : decode cL_isSharp 21 = .ok (.ireturn, 1) := by decide +kernel
theorem dL_isSharp_22 : decode cL_isSharp 22 = .ok (.iconst 0, 1) := by decide +kernel
theorem dL_isSharp_23 : decode cL_isSharp 23 = .ok (.ireturn, 1) := by decide +kernel
set_option maxRecDepth 20000 in
theorem ggL_fewest_X9_fewest : GoodIn wsL_fewest wsX9_fewest := goodIn_ca (goodIn_r _ [6, 7, 8, 5, 9, 10, 11, 12, 13, 14] (by decide +kernel) (by decide +kernel)) (goodIn_sub (fun _ h => List.mem_cons_of_mem _ (List.mem_append_right _ h)) (by decide +kernel))
set_option maxRecDepth 20000 in
theorem gL_fewest_X9_fewest : GoodIn wsL_fewest (wsV RL 39 RX9 yX9_fewest wsX9_fewest) := goodIn_app (goodIn_of _ (by decide +kernel)) ggL_fewest_X9_fewest
theorem dL_fewest_0 : decode cL_fewest 0 = .ok (.aload_n 2, 1) := by decide +kernel
theorem dL_fewest_1 : decode cL_fewest 1 = .ok (.iconst 0, 1) := by decide +kernel
theorem dL_fewest_2 : decode cL_fewest 2 = .ok (.aload_n 0, 1) := by decide +kernel
theorem dL_fewest_3 : decode cL_fewest 3 = .ok (.iload_n 1, 1) := by decide +kernel
theorem dL_fewest_4 : decode cL_fewest 4 = .ok (.invokevirtual 39, 3) := by decide +kernel
theorem dL_fewest_7 : decode cL_fewest 7 = .ok (.i2l, 1) := by decide +kernel
theorem dL_fewest_8 : decode cL_fewest 8 = .ok (.lastore, 1) := by decide +kernel
theorem dL_fewest_9 : decode cL_fewest 9 = .ok (.goto 6, 3) := by decide +kernel
theorem dL_fewest_12 : decode cL_fewest 12 = .ok (.astore_n 3, 1) := by decide +kernel
theorem dL_fewest_13 : decode cL_fewest 13 = .ok (.iconst 1, 1) := by decide +kernel
theorem dL_fewest_14 : decode cL_fewest 14 = .ok (.ireturn, 1) := by decide +kernel
theorem dL_fewest_15 : decode cL_fewest 15 = .ok (.iconst 0, 1) := by decide +kernel
theorem dL_fewest_16 : decode cL_fewest 16 = .ok (.ireturn, 1) := by decide +kernel
set_option maxRecDepth 20000 in
theorem ggL_doPair_X9_doPair : GoodIn wsL_doPair wsX9_doPair := goodIn_ca (goodIn_ca (goodIn_r _ [7, 8, 9, 10, 11, 12, 6, 13, 14, 15, 16, 17, 18, 19, 20, 21, 22, 23, 24, 25, 26, 27, 28, 29, 30, 31, 32, 33, 34, 35, 36, 37, 38, 39, 40, 41, 42, 43, 44, 45, 46, 47, 48, 49, 50, 51, 52, 53, 54, 55] (by decide +kernel) (by decide +kernel)) (goodIn_sub (fun _ h => List.mem_cons_of_mem _ (List.mem_append_left _ (List.mem_append_right _ h))) (by decide +kernel))) (goodIn_sub (fun _ h => List.mem_cons_of_mem _ (List.mem_append_right _ h)) (by decide +kernel))
set_option maxRecDepth 20000 in
theorem gL_doPair_X9_doPair : GoodIn wsL_doPair (wsV RL 42 RX9 yX9_doPair wsX9_doPair) := goodIn_app (goodIn_of _ (by decide +kernel)) ggL_doPair_X9_doPair
theorem dL_doPair_0 : decode cL_doPair 0 = .ok (.aload_n 3, 1) := by decide +kernel
theorem dL_doPair_1 : decode cL_doPair 1 = .ok (.iconst 0, 1) := by decide +kernel
theorem dL_doPair_2 : decode cL_doPair 2 = .ok (.aload_n 0, 1) := by decide +kernel
theorem dL_doPair_3 : decode cL_doPair 3 = .ok (.iload_n 1, 1) := by decide +kernel
theorem dL_doPair_4 : decode cL_doPair 4 = .ok (.iload_n 2, 1) := by decide +kernel
theorem dL_doPair_5 : decode cL_doPair 5 = .ok (.invokevirtual 42, 3) := by decide +kernel
theorem dL_doPair_8 : decode cL_doPair 8 = .ok (.ifCond .eq 7, 3) := by decide +kernel
theorem dL_doPair_11 : decode cL_doPair 11 = .ok (.lconst 1, 1) := by decide +kernel
theorem dL_doPair_12 : decode cL_doPair 12 = .ok (.goto 4, 3) := by decide +kernel
theorem dL_doPair_15 : decode cL_doPair 15 = .ok (.lconst 0, 1) := by decide +kernel
theorem dL_doPair_16 : decode cL_doPair 16 = .ok (.lastore, 1) := by decide +kernel
theorem dL_doPair_17 : decode cL_doPair 17 = .ok (.goto 11, 3) := by decide +kernel
theorem dL_doPair_20 : decode cL_doPair 20 = .ok (.astore 4, 2) := by decide +kernel
theorem dL_doPair_22 : decode cL_doPair 22 = .ok (.iconst 1, 1) := by decide +kernel
theorem dL_doPair_23 : decode cL_doPair 23 = .ok (.ireturn, 1) := by decide +kernel
theorem dL_doPair_24 : decode cL_doPair 24 = .ok (.astore 4, 2) := by decide +kernel
theorem dL_doPair_26 : decode cL_doPair 26 = .ok (.iconst 2, 1) := by decide +kernel
theorem dL_doPair_27 : decode cL_doPair 27 = .ok (.ireturn, 1) := by decide +kernel
theorem dL_doPair_28 : decode cL_doPair 28 = .ok (.iconst 0, 1) := by decide +kernel
theorem dL_doPair_29 : decode cL_doPair 29 = .ok (.ireturn, 1) := by decide +kernel
set_option maxRecDepth 20000 in
theorem ggL_contact_X9_contact : GoodIn wsL_contact wsX9_contact := goodIn_ca (goodIn_ca (goodIn_ca (goodIn_r _ [7, 8, 9, 10, 6, 11, 12, 13, 14, 15, 16, 17, 18, 19, 20, 21, 22, 23, 24, 25, 26, 27, 28, 29, 30, 31, 32, 33, 34, 35, 36, 37, 38, 39, 40, 41, 42, 43, 44, 45, 46, 47, 48, 49, 50, 51, 52, 53, 54, 55, 56, 57, 58, 59, 60, 61, 62, 63, 64, 65, 66, 67, 68, 69, 70, 71, 72, 73, 74, 75, 76, 77, 78, 79, 80, 81, 82, 83, 84, 85, 86, 87, 88, 89, 90, 91, 92] (by decide +kernel) (by decide +kernel)) (goodIn_sub (fun _ h => List.mem_cons_of_mem _ (List.mem_append_left _ (List.mem_append_left _ (List.mem_append_right _ h)))) (by decide +kernel))) (goodIn_sub (fun _ h => List.mem_cons_of_mem _ (List.mem_append_left _ (List.mem_append_right _ h))) (by decide +kernel))) (goodIn_sub (fun _ h => List.mem_cons_of_mem _ (List.mem_append_right _ h)) (by decide +kernel))
set_option maxRecDepth 20000 in
theorem gL_contact_X9_contact : GoodIn wsL_contact (wsV RL 46 RX9 yX9_contact wsX9_contact) := goodIn_app (goodIn_of _ (by decide +kernel)) ggL_contact_X9_contact
theorem dL_contact_0 : decode cL_contact 0 = .ok (.aload_n 3, 1) := by decide +kernel
theorem dL_contact_1 : decode cL_contact 1 = .ok (.iconst 0, 1) := by decide +kernel
theorem dL_contact_2 : decode cL_contact 2 = .ok (.aload_n 0, 1) := by decide +kernel
theorem dL_contact_3 : decode cL_contact 3 = .ok (.iload_n 1, 1) := by decide +kernel
theorem dL_contact_4 : decode cL_contact 4 = .ok (.iload_n 2, 1) := by decide +kernel
theorem dL_contact_5 : decode cL_contact 5 = .ok (.invokevirtual 46, 3) := by decide +kernel
theorem dL_contact_8 : decode cL_contact 8 = .ok (.lastore, 1) := by decide +kernel
theorem dL_contact_9 : decode cL_contact 9 = .ok (.goto 11, 3) := by decide +kernel
theorem dL_contact_12 : decode cL_contact 12 = .ok (.astore 4, 2) := by decide +kernel
theorem dL_contact_14 : decode cL_contact 14 = .ok (.iconst 1, 1) := by decide +kernel
theorem dL_contact_15 : decode cL_contact 15 = .ok (.ireturn, 1) := by decide +kernel
theorem dL_contact_16 : decode cL_contact 16 = .ok (.astore 4, 2) := by decide +kernel
theorem dL_contact_18 : decode cL_contact 18 = .ok (.iconst 2, 1) := by decide +kernel
theorem dL_contact_19 : decode cL_contact 19 = .ok (.ireturn, 1) := by decide +kernel
theorem dL_contact_20 : decode cL_contact 20 = .ok (.iconst 0, 1) := by decide +kernel
theorem dL_contact_21 : decode cL_contact 21 = .ok (.ireturn, 1) := by decide +kernel
set_option maxRecDepth 20000 in
theorem ggL_overlap_X9_overlap : GoodIn wsL_overlap wsX9_overlap := goodIn_ca (goodIn_ca (goodIn_ca (goodIn_r _ [7, 8, 9, 10, 6, 11, 12, 13, 14, 15, 16, 17, 18, 19, 20, 21, 22, 23, 24, 25, 26, 27, 28, 29, 30, 31, 32, 33, 34, 35, 36, 37, 38, 39, 40, 41, 42, 43, 44, 45, 46, 47, 48, 49, 50, 51, 52, 53, 54, 55, 56, 57, 58, 59, 60, 61, 62, 63, 64, 65, 66, 67, 68, 69, 70, 71, 72, 73, 74, 75, 76] (by decide +kernel) (by decide +kernel)) (goodIn_sub (fun _ h => List.mem_cons_of_mem _ (List.mem_append_left _ (List.mem_append_left _ (List.mem_append_right _ h)))) (by decide +kernel))) (goodIn_sub (fun _ h => List.mem_cons_of_mem _ (List.mem_append_left _ (List.mem_append_right _ h))) (by decide +kernel))) (goodIn_sub (fun _ h => List.mem_cons_of_mem _ (List.mem_append_right _ h)) (by decide +kernel))
set_option maxRecDepth 20000 in
theorem gL_overlap_X9_overlap : GoodIn wsL_overlap (wsV RL 50 RX9 yX9_overlap wsX9_overlap) := goodIn_app (goodIn_of _ (by decide +kernel)) ggL_overlap_X9_overlap
theorem dL_overlap_0 : decode cL_overlap 0 = .ok (.aload_n 3, 1) := by decide +kernel
theorem dL_overlap_1 : decode cL_overlap 1 = .ok (.iconst 0, 1) := by decide +kernel
theorem dL_overlap_2 : decode cL_overlap 2 = .ok (.aload_n 0, 1) := by decide +kernel
theorem dL_overlap_3 : decode cL_overlap 3 = .ok (.iload_n 1, 1) := by decide +kernel
theorem dL_overlap_4 : decode cL_overlap 4 = .ok (.iload_n 2, 1) := by decide +kernel
theorem dL_overlap_5 : decode cL_overlap 5 = .ok (.invokevirtual 50, 3) := by decide +kernel
theorem dL_overlap_8 : decode cL_overlap 8 = .ok (.lastore, 1) := by decide +kernel
theorem dL_overlap_9 : decode cL_overlap 9 = .ok (.goto 11, 3) := by decide +kernel
theorem dL_overlap_12 : decode cL_overlap 12 = .ok (.astore 4, 2) := by decide +kernel
theorem dL_overlap_14 : decode cL_overlap 14 = .ok (.iconst 1, 1) := by decide +kernel
theorem dL_overlap_15 : decode cL_overlap 15 = .ok (.ireturn, 1) := by decide +kernel
theorem dL_overlap_16 : decode cL_overlap 16 = .ok (.astore 4, 2) := by decide +kernel
theorem dL_overlap_18 : decode cL_overlap 18 = .ok (.iconst 2, 1) := by decide +kernel
theorem dL_overlap_19 : decode cL_overlap 19 = .ok (.ireturn, 1) := by decide +kernel
theorem dL_overlap_20 : decode cL_overlap 20 = .ok (.iconst 0, 1) := by decide +kernel
theorem dL_overlap_21 : decode cL_overlap 21 = .ok (.ireturn, 1) := by decide +kernel
set_option maxRecDepth 20000 in
theorem ggL_runsWell_X9_runsWell : GoodIn wsL_runsWell wsX9_runsWell := goodIn_ca (goodIn_ca (goodIn_ca (goodIn_r _ [7, 8, 9, 10, 11, 12, 6, 13, 14, 15, 16, 17, 18, 19, 20, 21, 22, 23, 24, 25, 26, 27, 28, 29, 30, 31, 32, 33, 34, 35, 36, 37, 38, 39, 40, 41, 42, 43, 44, 45, 46, 47, 48, 49, 50, 51, 52, 53, 54, 55, 56, 57, 58, 59, 60, 61, 62, 63, 64, 65, 66, 67, 68, 69, 70, 71, 72, 73, 74, 75, 76, 77, 78, 79, 80, 81, 82, 83, 84, 85, 86, 87, 88, 89, 90, 91, 92, 93, 94, 95, 96, 97, 98, 99, 100, 101, 102, 103, 104, 105, 106, 107, 108, 109, 110, 111, 112, 113, 114] (by decide +kernel) (by decide +kernel)) (goodIn_sub (fun _ h => List.mem_cons_of_mem _ (List.mem_append_left _ (List.mem_append_left _ (List.mem_append_right _ h)))) (by decide +kernel))) (goodIn_sub (fun _ h => List.mem_cons_of_mem _ (List.mem_append_left _ (List.mem_append_right _ h))) (by decide +kernel))) (goodIn_sub (fun _ h => List.mem_cons_of_mem _ (List.mem_append_right _ h)) (by decide +kernel))
set_option maxRecDepth 20000 in
theorem gL_runsWell_X9_runsWell : GoodIn wsL_runsWell (wsV RL 53 RX9 yX9_runsWell wsX9_runsWell) := goodIn_app (goodIn_of _ (by decide +kernel)) ggL_runsWell_X9_runsWell
theorem dL_runsWell_0 : decode cL_runsWell 0 = .ok (.aload_n 3, 1) := by decide +kernel
theorem dL_runsWell_1 : decode cL_runsWell 1 = .ok (.iconst 0, 1) := by decide +kernel
theorem dL_runsWell_2 : decode cL_runsWell 2 = .ok (.aload_n 0, 1) := by decide +kernel
theorem dL_runsWell_3 : decode cL_runsWell 3 = .ok (.iload_n 1, 1) := by decide +kernel
theorem dL_runsWell_4 : decode cL_runsWell 4 = .ok (.iload_n 2, 1) := by decide +kernel
theorem dL_runsWell_5 : decode cL_runsWell 5 = .ok (.invokevirtual 53, 3) := by decide +kernel
theorem dL_runsWell_8 : decode cL_runsWell 8 = .ok (.ifCond .eq 7, 3) := by decide +kernel
theorem dL_runsWell_11 : decode cL_runsWell 11 = .ok (.lconst 1, 1) := by decide +kernel
theorem dL_runsWell_12 : decode cL_runsWell 12 = .ok (.goto 4, 3) := by decide +kernel
theorem dL_runsWell_15 : decode cL_runsWell 15 = .ok (.lconst 0, 1) := by decide +kernel
theorem dL_runsWell_16 : decode cL_runsWell 16 = .ok (.lastore, 1) := by decide +kernel
theorem dL_runsWell_17 : decode cL_runsWell 17 = .ok (.goto 11, 3) := by decide +kernel
theorem dL_runsWell_20 : decode cL_runsWell 20 = .ok (.astore 4, 2) := by decide +kernel
theorem dL_runsWell_22 : decode cL_runsWell 22 = .ok (.iconst 1, 1) := by decide +kernel
theorem dL_runsWell_23 : decode cL_runsWell 23 = .ok (.ireturn, 1) := by decide +kernel
theorem dL_runsWell_24 : decode cL_runsWell 24 = .ok (.astore 4, 2) := by decide +kernel
theorem dL_runsWell_26 : decode cL_runsWell 26 = .ok (.iconst 2, 1) := by decide +kernel
theorem dL_runsWell_27 : decode cL_runsWell 27 = .ok (.ireturn, 1) := by decide +kernel
theorem dL_runsWell_28 : decode cL_runsWell 28 = .ok (.iconst 0, 1) := by decide +kernel
theorem dL_runsWell_29 : decode cL_runsWell 29 = .ok (.ireturn, 1) := by decide +kernel
set_option maxRecDepth 20000 in
theorem ggL_slide_X9_slide : GoodIn wsL_slide wsX9_slide := goodIn_ca (goodIn_ca (goodIn_r _ [7, 8, 9, 10, 11, 12, 13, 14, 15, 6, 16, 17, 18, 19, 20, 21, 22, 23, 24, 25, 26, 27, 28, 29, 30, 31, 32, 33, 34, 35, 36, 37, 38, 39, 40, 41, 42, 43, 44, 45, 46, 47, 48, 49, 50, 51, 52, 53, 54, 55, 56, 57, 58, 59, 60, 61, 62, 63, 64, 65, 66, 67, 68, 69, 70, 71, 72, 73, 74, 75, 76, 77, 78, 79, 80, 81, 82, 83, 84, 85, 86, 87, 88, 89, 90] (by decide +kernel) (by decide +kernel)) (goodIn_sub (fun _ h => List.mem_cons_of_mem _ (List.mem_append_left _ (List.mem_append_right _ h))) (by decide +kernel))) (goodIn_sub (fun _ h => List.mem_cons_of_mem _ (List.mem_append_right _ h)) (by decide +kernel))
set_option maxRecDepth 20000 in
theorem gL_slide_X9_slide : GoodIn wsL_slide (wsV RL 56 RX9 yX9_slide wsX9_slide) := goodIn_app (goodIn_of _ (by decide +kernel)) ggL_slide_X9_slide
theorem dL_slide_0 : decode cL_slide 0 = .ok (.aload_n 3, 1) := by decide +kernel
theorem dL_slide_1 : decode cL_slide 1 = .ok (.iconst 0, 1) := by decide +kernel
theorem dL_slide_2 : decode cL_slide 2 = .ok (.aload_n 0, 1) := by decide +kernel
theorem dL_slide_3 : decode cL_slide 3 = .ok (.iload_n 1, 1) := by decide +kernel
theorem dL_slide_4 : decode cL_slide 4 = .ok (.iload_n 2, 1) := by decide +kernel
theorem dL_slide_5 : decode cL_slide 5 = .ok (.invokevirtual 56, 3) := by decide +kernel
theorem dL_slide_8 : decode cL_slide 8 = .ok (.lastore, 1) := by decide +kernel
theorem dL_slide_9 : decode cL_slide 9 = .ok (.goto 11, 3) := by decide +kernel
theorem dL_slide_12 : decode cL_slide 12 = .ok (.astore 4, 2) := by decide +kernel
theorem dL_slide_14 : decode cL_slide 14 = .ok (.iconst 1, 1) := by decide +kernel
theorem dL_slide_15 : decode cL_slide 15 = .ok (.ireturn, 1) := by decide +kernel
theorem dL_slide_16 : decode cL_slide 16 = .ok (.astore 4, 2) := by decide +kernel
theorem dL_slide_18 : decode cL_slide 18 = .ok (.iconst 2, 1) := by decide +kernel
theorem dL_slide_19 : decode cL_slide 19 = .ok (.ireturn, 1) := by decide +kernel
theorem dL_slide_20 : decode cL_slide 20 = .ok (.iconst 0, 1) := by decide +kernel
theorem dL_slide_21 : decode cL_slide 21 = .ok (.ireturn, 1) := by decide +kernel
set_option maxRecDepth 20000 in
theorem ggL_balance_X9_balance : GoodIn wsL_balance wsX9_balance := goodIn_ca (goodIn_ca (goodIn_ca (goodIn_r _ [8, 9, 10, 11, 12, 13, 14, 15, 7, 16, 17, 18, 19, 20, 21, 22, 23, 24, 25, 26, 27, 28, 29, 30, 31, 32, 33, 34, 35, 36, 37, 38, 39, 40, 41, 42, 43, 44, 45, 46, 47, 48, 49, 50, 51, 52, 53, 54, 55, 56, 57, 58, 59, 60, 61, 62, 63, 64, 65, 66, 67, 68, 69, 70, 71, 72, 73, 74, 75, 76, 77, 78, 79, 80, 81, 82, 83, 84, 85, 86, 87, 88, 89, 90, 91, 92, 93, 94, 95, 96, 97, 98, 99, 100, 101, 102, 103, 104, 105, 106, 107, 108, 109] (by decide +kernel) (by decide +kernel)) (goodIn_sub (fun _ h => List.mem_cons_of_mem _ (List.mem_append_left _ (List.mem_append_left _ (List.mem_append_right _ h)))) (by decide +kernel))) (goodIn_sub (fun _ h => List.mem_cons_of_mem _ (List.mem_append_left _ (List.mem_append_right _ h))) (by decide +kernel))) (goodIn_sub (fun _ h => List.mem_cons_of_mem _ (List.mem_append_right _ h)) (by decide +kernel))
set_option maxRecDepth 20000 in
theorem gL_balance_X9_balance : GoodIn wsL_balance (wsV RL 59 RX9 yX9_balance wsX9_balance) := goodIn_app (goodIn_of _ (by decide +kernel)) ggL_balance_X9_balance
theorem dL_balance_0 : decode cL_balance 0 = .ok (.aload_n 3, 1) := by decide +kernel
theorem dL_balance_1 : decode cL_balance 1 = .ok (.iconst 0, 1) := by decide +kernel
theorem dL_balance_2 : decode cL_balance 2 = .ok (.aload_n 0, 1) := by decide +kernel
theorem dL_balance_3 : decode cL_balance 3 = .ok (.iload_n 1, 1) := by decide +kernel
theorem dL_balance_4 : decode cL_balance 4 = .ok (.iload_n 2, 1) := by decide +kernel
theorem dL_balance_5 : decode cL_balance 5 = .ok (.invokevirtual 59, 3) := by decide +kernel
theorem dL_balance_8 : decode cL_balance 8 = .ok (.i2l, 1) := by decide +kernel
theorem dL_balance_9 : decode cL_balance 9 = .ok (.lastore, 1) := by decide +kernel
theorem dL_balance_10 : decode cL_balance 10 = .ok (.goto 15, 3) := by decide +kernel
theorem dL_balance_13 : decode cL_balance 13 = .ok (.astore 4, 2) := by decide +kernel
theorem dL_balance_15 : decode cL_balance 15 = .ok (.iconst 1, 1) := by decide +kernel
theorem dL_balance_16 : decode cL_balance 16 = .ok (.ireturn, 1) := by decide +kernel
theorem dL_balance_17 : decode cL_balance 17 = .ok (.astore 4, 2) := by decide +kernel
theorem dL_balance_19 : decode cL_balance 19 = .ok (.iconst 2, 1) := by decide +kernel
theorem dL_balance_20 : decode cL_balance 20 = .ok (.ireturn, 1) := by decide +kernel
theorem dL_balance_21 : decode cL_balance 21 = .ok (.astore 4, 2) := by decide +kernel
theorem dL_balance_23 : decode cL_balance 23 = .ok (.iconst 3, 1) := by decide +kernel
theorem dL_balance_24 : decode cL_balance 24 = .ok (.ireturn, 1) := by decide +kernel
theorem dL_balance_25 : decode cL_balance 25 = .ok (.iconst 0, 1) := by decide +kernel
theorem dL_balance_26 : decode cL_balance 26 = .ok (.ireturn, 1) := by decide +kernel
set_option maxRecDepth 20000 in
theorem ggL_section_X9_section : GoodIn wsL_section wsX9_section := goodIn_ca (goodIn_ca (goodIn_ca (goodIn_ca (goodIn_r _ [8, 9, 10, 11, 12, 13, 14, 15, 7, 16, 17, 18, 19, 20, 21, 22, 23, 24, 25, 26, 27, 28, 29, 30, 31, 32, 33, 34, 35, 36, 37, 38, 39, 40, 41, 42, 43, 44, 45, 46, 47, 48, 49, 50, 51, 52, 53, 54, 55, 56, 57, 58, 59, 60, 61, 62, 63, 64, 65, 66, 67, 68, 69, 70, 71] (by decide +kernel) (by decide +kernel)) (goodIn_sub (fun _ h => List.mem_cons_of_mem _ (List.mem_append_left _ (List.mem_append_left _ (List.mem_append_left _ (List.mem_append_right _ h))))) (by decide +kernel))) (goodIn_sub (fun _ h => List.mem_cons_of_mem _ (List.mem_append_left _ (List.mem_append_left _ (List.mem_append_right _ h)))) (by decide +kernel))) (goodIn_sub (fun _ h => List.mem_cons_of_mem _ (List.mem_append_left _ (List.mem_append_right _ h))) (by decide +kernel))) (goodIn_sub (fun _ h => List.mem_cons_of_mem _ (List.mem_append_right _ h)) (by decide +kernel))
set_option maxRecDepth 20000 in
theorem gL_section_X9_section : GoodIn wsL_section (wsV RL 64 RX9 yX9_section wsX9_section) := goodIn_app (goodIn_of _ (by decide +kernel)) ggL_section_X9_section
theorem dL_section_0 : decode cL_section 0 = .ok (.aload 5, 2) := by decide +kernel
theorem dL_section_2 : decode cL_section 2 = .ok (.iconst 0, 1) := by decide +kernel
theorem dL_section_3 : decode cL_section 3 = .ok (.aload_n 0, 1) := by decide +kernel
theorem dL_section_4 : decode cL_section 4 = .ok (.iload_n 1, 1) := by decide +kernel
theorem dL_section_5 : decode cL_section 5 = .ok (.iload_n 2, 1) := by decide +kernel
theorem dL_section_6 : decode cL_section 6 = .ok (.iload_n 3, 1) := by decide +kernel
theorem dL_section_7 : decode cL_section 7 = .ok (.iload 4, 2) := by decide +kernel
theorem dL_section_9 : decode cL_section 9 = .ok (.invokevirtual 64, 3) := by decide +kernel
theorem dL_section_12 : decode cL_section 12 = .ok (.i2l, 1) := by decide +kernel
theorem dL_section_13 : decode cL_section 13 = .ok (.lastore, 1) := by decide +kernel
theorem dL_section_14 : decode cL_section 14 = .ok (.goto 15, 3) := by decide +kernel
theorem dL_section_17 : decode cL_section 17 = .ok (.astore 6, 2) := by decide +kernel
theorem dL_section_19 : decode cL_section 19 = .ok (.iconst 1, 1) := by decide +kernel
theorem dL_section_20 : decode cL_section 20 = .ok (.ireturn, 1) := by decide +kernel
theorem dL_section_21 : decode cL_section 21 = .ok (.astore 6, 2) := by decide +kernel
theorem dL_section_23 : decode cL_section 23 = .ok (.iconst 2, 1) := by decide +kernel
theorem dL_section_24 : decode cL_section 24 = .ok (.ireturn, 1) := by decide +kernel
theorem dL_section_25 : decode cL_section 25 = .ok (.astore 6, 2) := by decide +kernel
theorem dL_section_27 : decode cL_section 27 = .ok (.iconst 3, 1) := by decide +kernel
theorem dL_section_28 : decode cL_section 28 = .ok (.ireturn, 1) := by decide +kernel
theorem dL_section_29 : decode cL_section 29 = .ok (.iconst 0, 1) := by decide +kernel
theorem dL_section_30 : decode cL_section 30 = .ok (.ireturn, 1) := by decide +kernel
set_option maxRecDepth 20000 in
theorem ggL_bestPair_X9_bestPair : GoodIn wsL_bestPair wsX9_bestPair := goodIn_ca (goodIn_ca (goodIn_r _ [6, 7, 8, 5, 9, 10, 11, 12, 13, 14, 15, 16, 17, 18, 19, 20, 21, 22, 23, 24, 25, 26, 27, 28, 29, 30, 31, 32, 33, 34, 35, 36, 37, 38, 39, 40, 41, 42, 43, 44, 45, 46, 47, 48, 49, 50, 51, 52, 53, 54, 55, 56, 57, 58, 59, 60, 61, 62, 63, 64, 65, 66] (by decide +kernel) (by decide +kernel)) (goodIn_sub (fun _ h => List.mem_cons_of_mem _ (List.mem_append_left _ (List.mem_append_right _ h))) (by decide +kernel))) (goodIn_sub (fun _ h => List.mem_cons_of_mem _ (List.mem_append_right _ h)) (by decide +kernel))
set_option maxRecDepth 20000 in
theorem gL_bestPair_X9_bestPair : GoodIn wsL_bestPair (wsV RL 67 RX9 yX9_bestPair wsX9_bestPair) := goodIn_app (goodIn_of _ (by decide +kernel)) ggL_bestPair_X9_bestPair
theorem dL_bestPair_0 : decode cL_bestPair 0 = .ok (.aload 5, 2) := by decide +kernel
theorem dL_bestPair_2 : decode cL_bestPair 2 = .ok (.iconst 0, 1) := by decide +kernel
theorem dL_bestPair_3 : decode cL_bestPair 3 = .ok (.aload_n 0, 1) := by decide +kernel
theorem dL_bestPair_4 : decode cL_bestPair 4 = .ok (.iload_n 1, 1) := by decide +kernel
theorem dL_bestPair_5 : decode cL_bestPair 5 = .ok (.iload_n 2, 1) := by decide +kernel
theorem dL_bestPair_6 : decode cL_bestPair 6 = .ok (.iload_n 3, 1) := by decide +kernel
theorem dL_bestPair_7 : decode cL_bestPair 7 = .ok (.iload 4, 2) := by decide +kernel
theorem dL_bestPair_9 : decode cL_bestPair 9 = .ok (.invokevirtual 67, 3) := by decide +kernel
theorem dL_bestPair_12 : decode cL_bestPair 12 = .ok (.i2l, 1) := by decide +kernel
theorem dL_bestPair_13 : decode cL_bestPair 13 = .ok (.lastore, 1) := by decide +kernel
theorem dL_bestPair_14 : decode cL_bestPair 14 = .ok (.goto 7, 3) := by decide +kernel
theorem dL_bestPair_17 : decode cL_bestPair 17 = .ok (.astore 6, 2) := by decide +kernel
theorem dL_bestPair_19 : decode cL_bestPair 19 = .ok (.iconst 1, 1) := by decide +kernel
theorem dL_bestPair_20 : decode cL_bestPair 20 = .ok (.ireturn, 1) := by decide +kernel
theorem dL_bestPair_21 : decode cL_bestPair 21 = .ok (.iconst 0, 1) := by decide +kernel
theorem dL_bestPair_22 : decode cL_bestPair 22 = .ok (.ireturn, 1) := by decide +kernel
set_option maxRecDepth 20000 in
theorem ggL_bestMate_X9_bestMate : GoodIn wsL_bestMate wsX9_bestMate := goodIn_ca (goodIn_ca (goodIn_r _ [6, 7, 8, 5, 9, 10, 11, 12, 13, 14, 15, 16, 17, 18, 19, 20, 21, 22, 23, 24, 25, 26, 27, 28, 29, 30, 31, 32, 33, 34, 35, 36, 37, 38, 39, 40, 41, 42, 43, 44, 45, 46, 47, 48, 49, 50, 51, 52, 53, 54, 55, 56, 57, 58, 59, 60, 61, 62, 63, 64, 65, 66] (by decide +kernel) (by decide +kernel)) (goodIn_sub (fun _ h => List.mem_cons_of_mem _ (List.mem_append_left _ (List.mem_append_right _ h))) (by decide +kernel))) (goodIn_sub (fun _ h => List.mem_cons_of_mem _ (List.mem_append_right _ h)) (by decide +kernel))
set_option maxRecDepth 20000 in
theorem gL_bestMate_X9_bestMate : GoodIn wsL_bestMate (wsV RL 70 RX9 yX9_bestMate wsX9_bestMate) := goodIn_app (goodIn_of _ (by decide +kernel)) ggL_bestMate_X9_bestMate
theorem dL_bestMate_0 : decode cL_bestMate 0 = .ok (.aload 5, 2) := by decide +kernel
theorem dL_bestMate_2 : decode cL_bestMate 2 = .ok (.iconst 0, 1) := by decide +kernel
theorem dL_bestMate_3 : decode cL_bestMate 3 = .ok (.aload_n 0, 1) := by decide +kernel
theorem dL_bestMate_4 : decode cL_bestMate 4 = .ok (.iload_n 1, 1) := by decide +kernel
theorem dL_bestMate_5 : decode cL_bestMate 5 = .ok (.iload_n 2, 1) := by decide +kernel
theorem dL_bestMate_6 : decode cL_bestMate 6 = .ok (.iload_n 3, 1) := by decide +kernel
theorem dL_bestMate_7 : decode cL_bestMate 7 = .ok (.iload 4, 2) := by decide +kernel
theorem dL_bestMate_9 : decode cL_bestMate 9 = .ok (.invokevirtual 70, 3) := by decide +kernel
theorem dL_bestMate_12 : decode cL_bestMate 12 = .ok (.i2l, 1) := by decide +kernel
theorem dL_bestMate_13 : decode cL_bestMate 13 = .ok (.lastore, 1) := by decide +kernel
theorem dL_bestMate_14 : decode cL_bestMate 14 = .ok (.goto 7, 3) := by decide +kernel
theorem dL_bestMate_17 : decode cL_bestMate 17 = .ok (.astore 6, 2) := by decide +kernel
theorem dL_bestMate_19 : decode cL_bestMate 19 = .ok (.iconst 1, 1) := by decide +kernel
theorem dL_bestMate_20 : decode cL_bestMate 20 = .ok (.ireturn, 1) := by decide +kernel
theorem dL_bestMate_21 : decode cL_bestMate 21 = .ok (.iconst 0, 1) := by decide +kernel
theorem dL_bestMate_22 : decode cL_bestMate 22 = .ok (.ireturn, 1) := by decide +kernel
set_option maxRecDepth 20000 in
theorem ggL_planets_X9_planets : GoodIn wsL_planets wsX9_planets := goodIn_ca (goodIn_ca (goodIn_ca (goodIn_r _ [6, 7, 8, 5, 9, 10, 11, 12, 13, 14, 15, 16, 17, 18] (by decide +kernel) (by decide +kernel)) (goodIn_sub (fun _ h => List.mem_cons_of_mem _ (List.mem_append_left _ (List.mem_append_right _ h))) (by decide +kernel))) (goodIn_sub (fun _ h => List.mem_cons_of_mem _ (List.mem_append_right _ h)) (by decide +kernel))) (goodIn_sub (fun _ h => List.mem_cons_of_mem _ (List.mem_append_left _ (List.mem_append_left _ (List.mem_append_right _ h)))) (by decide +kernel))
set_option maxRecDepth 20000 in
theorem gL_planets_X9_planets : GoodIn wsL_planets (wsV RL 73 RX9 yX9_planets wsX9_planets) := goodIn_app (goodIn_of _ (by decide +kernel)) ggL_planets_X9_planets
theorem dL_planets_0 : decode cL_planets 0 = .ok (.aload 4, 2) := by decide +kernel
theorem dL_planets_2 : decode cL_planets 2 = .ok (.iconst 0, 1) := by decide +kernel
theorem dL_planets_3 : decode cL_planets 3 = .ok (.aload_n 0, 1) := by decide +kernel
theorem dL_planets_4 : decode cL_planets 4 = .ok (.iload_n 1, 1) := by decide +kernel
theorem dL_planets_5 : decode cL_planets 5 = .ok (.iload_n 2, 1) := by decide +kernel
theorem dL_planets_6 : decode cL_planets 6 = .ok (.iload_n 3, 1) := by decide +kernel
theorem dL_planets_7 : decode cL_planets 7 = .ok (.invokevirtual 73, 3) := by decide +kernel
theorem dL_planets_10 : decode cL_planets 10 = .ok (.i2l, 1) := by decide +kernel
theorem dL_planets_11 : decode cL_planets 11 = .ok (.lastore, 1) := by decide +kernel
theorem dL_planets_12 : decode cL_planets 12 = .ok (.goto 7, 3) := by decide +kernel
theorem dL_planets_15 : decode cL_planets 15 = .ok (.astore 5, 2) := by decide +kernel
theorem dL_planets_17 : decode cL_planets 17 = .ok (.iconst 1, 1) := by decide +kernel
theorem dL_planets_18 : decode cL_planets 18 = .ok (.ireturn, 1) := by decide +kernel
theorem dL_planets_19 : decode cL_planets 19 = .ok (.iconst 0, 1) := by decide +kernel
theorem dL_planets_20 : decode cL_planets 20 = .ok (.ireturn, 1) := by decide +kernel
set_option maxRecDepth 20000 in
theorem ggL_rings_X9_rings : GoodIn wsL_rings wsX9_rings := goodIn_ca (goodIn_ca (goodIn_ca (goodIn_r _ [6, 7, 8, 5, 9, 10, 11, 12, 13, 14, 15, 16, 17, 18] (by decide +kernel) (by decide +kernel)) (goodIn_sub (fun _ h => List.mem_cons_of_mem _ (List.mem_append_left _ (List.mem_append_right _ h))) (by decide +kernel))) (goodIn_sub (fun _ h => List.mem_cons_of_mem _ (List.mem_append_right _ h)) (by decide +kernel))) (goodIn_sub (fun _ h => List.mem_cons_of_mem _ (List.mem_append_left _ (List.mem_append_left _ (List.mem_append_right _ h)))) (by decide +kernel))
set_option maxRecDepth 20000 in
theorem gL_rings_X9_rings : GoodIn wsL_rings (wsV RL 77 RX9 yX9_rings wsX9_rings) := goodIn_app (goodIn_of _ (by decide +kernel)) ggL_rings_X9_rings
theorem dL_rings_0 : decode cL_rings 0 = .ok (.aload 5, 2) := by decide +kernel
theorem dL_rings_2 : decode cL_rings 2 = .ok (.iconst 0, 1) := by decide +kernel
theorem dL_rings_3 : decode cL_rings 3 = .ok (.aload_n 0, 1) := by decide +kernel
theorem dL_rings_4 : decode cL_rings 4 = .ok (.iload_n 1, 1) := by decide +kernel
theorem dL_rings_5 : decode cL_rings 5 = .ok (.iload_n 2, 1) := by decide +kernel
theorem dL_rings_6 : decode cL_rings 6 = .ok (.iload_n 3, 1) := by decide +kernel
theorem dL_rings_7 : decode cL_rings 7 = .ok (.iload 4, 2) := by decide +kernel
theorem dL_rings_9 : decode cL_rings 9 = .ok (.invokevirtual 77, 3) := by decide +kernel
theorem dL_rings_12 : decode cL_rings 12 = .ok (.i2l, 1) := by decide +kernel
theorem dL_rings_13 : decode cL_rings 13 = .ok (.lastore, 1) := by decide +kernel
theorem dL_rings_14 : decode cL_rings 14 = .ok (.goto 7, 3) := by decide +kernel
theorem dL_rings_17 : decode cL_rings 17 = .ok (.astore 6, 2) := by decide +kernel
theorem dL_rings_19 : decode cL_rings 19 = .ok (.iconst 1, 1) := by decide +kernel
theorem dL_rings_20 : decode cL_rings 20 = .ok (.ireturn, 1) := by decide +kernel
theorem dL_rings_21 : decode cL_rings 21 = .ok (.iconst 0, 1) := by decide +kernel
theorem dL_rings_22 : decode cL_rings 22 = .ok (.ireturn, 1) := by decide +kernel
set_option maxRecDepth 20000 in
theorem ggL_wheel_X9_wheel : GoodIn wsL_wheel wsX9_wheel := goodIn_ca (goodIn_ca (goodIn_ca (goodIn_r _ [7, 8, 9, 10, 11, 12, 6, 13, 14, 15, 16, 17, 18, 19, 20, 21, 22, 23, 24, 25, 26, 27, 28, 29, 30, 31, 32, 33, 34, 35, 36, 37, 38, 39, 40, 41, 42, 43, 44] (by decide +kernel) (by decide +kernel)) (goodIn_sub (fun _ h => List.mem_cons_of_mem _ (List.mem_append_left _ (List.mem_append_right _ h))) (by decide +kernel))) (goodIn_sub (fun _ h => List.mem_cons_of_mem _ (List.mem_append_right _ h)) (by decide +kernel))) (goodIn_sub (fun _ h => List.mem_cons_of_mem _ (List.mem_append_left _ (List.mem_append_left _ (List.mem_append_right _ h)))) (by decide +kernel))
set_option maxRecDepth 20000 in
theorem gL_wheel_X9_wheel : GoodIn wsL_wheel (wsV RL 80 RX9 yX9_wheel wsX9_wheel) := goodIn_app (goodIn_of _ (by decide +kernel)) ggL_wheel_X9_wheel
theorem dL_wheel_0 : decode cL_wheel 0 = .ok (.aload_n 2, 1) := by decide +kernel
theorem dL_wheel_1 : decode cL_wheel 1 = .ok (.iconst 0, 1) := by decide +kernel
theorem dL_wheel_2 : decode cL_wheel 2 = .ok (.aload_n 0, 1) := by decide +kernel
theorem dL_wheel_3 : decode cL_wheel 3 = .ok (.iload_n 1, 1) := by decide +kernel
theorem dL_wheel_4 : decode cL_wheel 4 = .ok (.invokevirtual 80, 3) := by decide +kernel
theorem dL_wheel_7 : decode cL_wheel 7 = .ok (.i2l, 1) := by decide +kernel
theorem dL_wheel_8 : decode cL_wheel 8 = .ok (.lastore, 1) := by decide +kernel
theorem dL_wheel_9 : decode cL_wheel 9 = .ok (.goto 9, 3) := by decide +kernel
theorem dL_wheel_12 : decode cL_wheel 12 = .ok (.astore_n 3, 1) := by decide +kernel
theorem dL_wheel_13 : decode cL_wheel 13 = .ok (.iconst 1, 1) := by decide +kernel
theorem dL_wheel_14 : decode cL_wheel 14 = .ok (.ireturn, 1) := by decide +kernel
theorem dL_wheel_15 : decode cL_wheel 15 = .ok (.astore_n 3, 1) := by decide +kernel
theorem dL_wheel_16 : decode cL_wheel 16 = .ok (.iconst 2, 1) := by decide +kernel
theorem dL_wheel_17 : decode cL_wheel 17 = .ok (.ireturn, 1) := by decide +kernel
theorem dL_wheel_18 : decode cL_wheel 18 = .ok (.iconst 0, 1) := by decide +kernel
theorem dL_wheel_19 : decode cL_wheel 19 = .ok (.ireturn, 1) := by decide +kernel
set_option maxRecDepth 20000 in
theorem ggL_change_X9_change : GoodIn wsL_change wsX9_change := goodIn_ca (goodIn_ca (goodIn_ca (goodIn_r _ [7, 8, 9, 10, 6, 11, 12, 13, 14, 15, 16, 17, 18, 19, 20, 21, 22, 23, 24, 25, 26, 27, 28, 29, 30, 31, 32, 33, 34, 35, 36, 37, 38, 39, 40, 41, 42, 43, 44, 45, 46, 47, 48, 49, 50, 51, 52, 53, 54, 55, 56, 57, 58, 59, 60, 61, 62, 63, 64, 65, 66, 67, 68, 69, 70, 71, 72, 73] (by decide +kernel) (by decide +kernel)) (goodIn_sub (fun _ h => List.mem_cons_of_mem _ (List.mem_append_left _ (List.mem_append_right _ h))) (by decide +kernel))) (goodIn_sub (fun _ h => List.mem_cons_of_mem _ (List.mem_append_right _ h)) (by decide +kernel))) (goodIn_sub (fun _ h => List.mem_cons_of_mem _ (List.mem_append_left _ (List.mem_append_left _ (List.mem_append_right _ h)))) (by decide +kernel))
set_option maxRecDepth 20000 in
theorem gL_change_X9_change : GoodIn wsL_change (wsV RL 83 RX9 yX9_change wsX9_change) := goodIn_app (goodIn_of _ (by decide +kernel)) ggL_change_X9_change
theorem dL_change_0 : decode cL_change 0 = .ok (.aload 4, 2) := by decide +kernel
theorem dL_change_2 : decode cL_change 2 = .ok (.iconst 0, 1) := by decide +kernel
theorem dL_change_3 : decode cL_change 3 = .ok (.aload_n 0, 1) := by decide +kernel
theorem dL_change_4 : decode cL_change 4 = .ok (.iload_n 1, 1) := by decide +kernel
theorem dL_change_5 : decode cL_change 5 = .ok (.iload_n 2, 1) := by decide +kernel
theorem dL_change_6 : decode cL_change 6 = .ok (.iload_n 3, 1) := by decide +kernel
theorem dL_change_7 : decode cL_change 7 = .ok (.invokevirtual 83, 3) := by decide +kernel
theorem dL_change_10 : decode cL_change 10 = .ok (.i2l, 1) := by decide +kernel
theorem dL_change_11 : decode cL_change 11 = .ok (.lastore, 1) := by decide +kernel
theorem dL_change_12 : decode cL_change 12 = .ok (.goto 11, 3) := by decide +kernel
theorem dL_change_15 : decode cL_change 15 = .ok (.astore 5, 2) := by decide +kernel
theorem dL_change_17 : decode cL_change 17 = .ok (.iconst 1, 1) := by decide +kernel
theorem dL_change_18 : decode cL_change 18 = .ok (.ireturn, 1) := by decide +kernel
theorem dL_change_19 : decode cL_change 19 = .ok (.astore 5, 2) := by decide +kernel
theorem dL_change_21 : decode cL_change 21 = .ok (.iconst 2, 1) := by decide +kernel
theorem dL_change_22 : decode cL_change 22 = .ok (.ireturn, 1) := by decide +kernel
theorem dL_change_23 : decode cL_change 23 = .ok (.iconst 0, 1) := by decide +kernel
theorem dL_change_24 : decode cL_change 24 = .ok (.ireturn, 1) := by decide +kernel
set_option maxRecDepth 20000 in
theorem ggL_meets_X9_meets : GoodIn wsL_meets wsX9_meets := goodIn_ca (goodIn_ca (goodIn_ca (goodIn_r _ [7, 8, 9, 10, 11, 6, 12, 13, 14, 15, 16, 17, 18, 19, 20, 21, 22, 23, 24, 25, 26, 27, 28, 29, 30, 31, 32, 33, 34, 35, 36, 37, 38, 39, 40, 41, 42, 43, 44, 45, 46, 47, 48, 49, 50, 51, 52, 53, 54, 55, 56, 57, 58, 59, 60, 61, 62, 63, 64, 65, 66, 67, 68, 69, 70, 71, 72, 73, 74, 75] (by decide +kernel) (by decide +kernel)) (goodIn_sub (fun _ h => List.mem_cons_of_mem _ (List.mem_append_left _ (List.mem_append_right _ h))) (by decide +kernel))) (goodIn_sub (fun _ h => List.mem_cons_of_mem _ (List.mem_append_right _ h)) (by decide +kernel))) (goodIn_sub (fun _ h => List.mem_cons_of_mem _ (List.mem_append_left _ (List.mem_append_left _ (List.mem_append_right _ h)))) (by decide +kernel))
set_option maxRecDepth 20000 in
theorem gL_meets_X9_meets : GoodIn wsL_meets (wsV RL 87 RX9 yX9_meets wsX9_meets) := goodIn_app (goodIn_of _ (by decide +kernel)) ggL_meets_X9_meets
theorem dL_meets_0 : decode cL_meets 0 = .ok (.aload 4, 2) := by decide +kernel
theorem dL_meets_2 : decode cL_meets 2 = .ok (.iconst 0, 1) := by decide +kernel
theorem dL_meets_3 : decode cL_meets 3 = .ok (.aload_n 0, 1) := by decide +kernel
theorem dL_meets_4 : decode cL_meets 4 = .ok (.iload_n 1, 1) := by decide +kernel
theorem dL_meets_5 : decode cL_meets 5 = .ok (.iload_n 2, 1) := by decide +kernel
theorem dL_meets_6 : decode cL_meets 6 = .ok (.iload_n 3, 1) := by decide +kernel
theorem dL_meets_7 : decode cL_meets 7 = .ok (.invokevirtual 87, 3) := by decide +kernel
theorem dL_meets_10 : decode cL_meets 10 = .ok (.ifCond .eq 7, 3) := by decide +kernel
theorem dL_meets_13 : decode cL_meets 13 = .ok (.lconst 1, 1) := by decide +kernel
theorem dL_meets_14 : decode cL_meets 14 = .ok (.goto 4, 3) := by decide +kernel
theorem dL_meets_17 : decode cL_meets 17 = .ok (.lconst 0, 1) := by decide +kernel
theorem dL_meets_18 : decode cL_meets 18 = .ok (.lastore, 1) := by decide +kernel
theorem dL_meets_19 : decode cL_meets 19 = .ok (.goto 11, 3) := by decide +kernel
theorem dL_meets_22 : decode cL_meets 22 = .ok (.astore 5, 2) := by decide +kernel
theorem dL_meets_24 : decode cL_meets 24 = .ok (.iconst 1, 1) := by decide +kernel
theorem dL_meets_25 : decode cL_meets 25 = .ok (.ireturn, 1) := by decide +kernel
theorem dL_meets_26 : decode cL_meets 26 = .ok (.astore 5, 2) := by decide +kernel
theorem dL_meets_28 : decode cL_meets 28 = .ok (.iconst 2, 1) := by decide +kernel
theorem dL_meets_29 : decode cL_meets 29 = .ok (.ireturn, 1) := by decide +kernel
theorem dL_meets_30 : decode cL_meets 30 = .ok (.iconst 0, 1) := by decide +kernel
theorem dL_meets_31 : decode cL_meets 31 = .ok (.ireturn, 1) := by decide +kernel
set_option maxRecDepth 20000 in
theorem ggL_setMachine_X9_setMachine : GoodIn wsL_setMachine wsX9_setMachine := goodIn_ca (goodIn_r _ [6, 7, 8, 9, 10, 5, 11, 12, 13, 14, 15, 16, 17, 18, 19, 20, 21, 22, 23, 24] (by decide +kernel) (by decide +kernel)) (goodIn_sub (fun _ h => List.mem_cons_of_mem _ (List.mem_append_right _ h)) (by decide +kernel))
set_option maxRecDepth 20000 in
theorem gL_setMachine_X9_setMachine : GoodIn wsL_setMachine (wsV RL 91 RX9 yX9_setMachine wsX9_setMachine) := goodIn_app (goodIn_of _ (by decide +kernel)) ggL_setMachine_X9_setMachine
theorem dL_setMachine_0 : decode cL_setMachine 0 = .ok (.aload_n 3, 1) := by decide +kernel
theorem dL_setMachine_1 : decode cL_setMachine 1 = .ok (.iconst 0, 1) := by decide +kernel
theorem dL_setMachine_2 : decode cL_setMachine 2 = .ok (.aload_n 0, 1) := by decide +kernel
theorem dL_setMachine_3 : decode cL_setMachine 3 = .ok (.iload_n 1, 1) := by decide +kernel
theorem dL_setMachine_4 : decode cL_setMachine 4 = .ok (.iload_n 2, 1) := by decide +kernel
theorem dL_setMachine_5 : decode cL_setMachine 5 = .ok (.invokevirtual 91, 3) := by decide +kernel
theorem dL_setMachine_8 : decode cL_setMachine 8 = .ok (.i2l, 1) := by decide +kernel
theorem dL_setMachine_9 : decode cL_setMachine 9 = .ok (.lastore, 1) := by decide +kernel
theorem dL_setMachine_10 : decode cL_setMachine 10 = .ok (.goto 7, 3) := by decide +kernel
theorem dL_setMachine_13 : decode cL_setMachine 13 = .ok (.astore 4, 2) := by decide +kernel
theorem dL_setMachine_15 : decode cL_setMachine 15 = .ok (.iconst 1, 1) := by decide +kernel
theorem dL_setMachine_16 : decode cL_setMachine 16 = .ok (.ireturn, 1) := by decide +kernel
theorem dL_setMachine_17 : decode cL_setMachine 17 = .ok (.iconst 0, 1) := by decide +kernel
theorem dL_setMachine_18 : decode cL_setMachine 18 = .ok (.ireturn, 1) := by decide +kernel
set_option maxRecDepth 20000 in
theorem ggL_hob_X9_hob : GoodIn wsL_hob wsX9_hob := goodIn_ca (goodIn_ca (goodIn_r _ [7, 8, 9, 10, 11, 12, 13, 14, 15, 16, 17, 6, 18, 19, 20, 21, 22, 23, 24, 25, 26, 27, 28, 29, 30, 31, 32, 33, 34, 35, 36, 37, 38, 39, 40, 41, 42, 43, 44, 45, 46, 47, 48] (by decide +kernel) (by decide +kernel)) (goodIn_sub (fun _ h => List.mem_cons_of_mem _ (List.mem_append_left _ (List.mem_append_right _ h))) (by decide +kernel))) (goodIn_sub (fun _ h => List.mem_cons_of_mem _ (List.mem_append_right _ h)) (by decide +kernel))
set_option maxRecDepth 20000 in
theorem gL_hob_X9_hob : GoodIn wsL_hob (wsV RL 94 RX9 yX9_hob wsX9_hob) := goodIn_app (goodIn_of _ (by decide +kernel)) ggL_hob_X9_hob
theorem dL_hob_0 : decode cL_hob 0 = .ok (.aload 5, 2) := by decide +kernel
theorem dL_hob_2 : decode cL_hob 2 = .ok (.iconst 0, 1) := by decide +kernel
theorem dL_hob_3 : decode cL_hob 3 = .ok (.aload_n 0, 1) := by decide +kernel
theorem dL_hob_4 : decode cL_hob 4 = .ok (.iload_n 1, 1) := by decide +kernel
theorem dL_hob_5 : decode cL_hob 5 = .ok (.iload_n 2, 1) := by decide +kernel
theorem dL_hob_6 : decode cL_hob 6 = .ok (.iload_n 3, 1) := by decide +kernel
theorem dL_hob_7 : decode cL_hob 7 = .ok (.iload 4, 2) := by decide +kernel
theorem dL_hob_9 : decode cL_hob 9 = .ok (.invokevirtual 94, 3) := by decide +kernel
theorem dL_hob_12 : decode cL_hob 12 = .ok (.i2l, 1) := by decide +kernel
theorem dL_hob_13 : decode cL_hob 13 = .ok (.lastore, 1) := by decide +kernel
theorem dL_hob_14 : decode cL_hob 14 = .ok (.goto 11, 3) := by decide +kernel
theorem dL_hob_17 : decode cL_hob 17 = .ok (.astore 6, 2) := by decide +kernel
theorem dL_hob_19 : decode cL_hob 19 = .ok (.iconst 1, 1) := by decide +kernel
theorem dL_hob_20 : decode cL_hob 20 = .ok (.ireturn, 1) := by decide +kernel
theorem dL_hob_21 : decode cL_hob 21 = .ok (.astore 6, 2) := by decide +kernel
theorem dL_hob_23 : decode cL_hob 23 = .ok (.iconst 2, 1) := by decide +kernel
theorem dL_hob_24 : decode cL_hob 24 = .ok (.ireturn, 1) := by decide +kernel
theorem dL_hob_25 : decode cL_hob 25 = .ok (.iconst 0, 1) := by decide +kernel
theorem dL_hob_26 : decode cL_hob 26 = .ok (.ireturn, 1) := by decide +kernel
set_option maxRecDepth 20000 in
theorem ggL_indexes_X9_indexes : GoodIn wsL_indexes wsX9_indexes := goodIn_ca (goodIn_ca (goodIn_ca (goodIn_ca (goodIn_r _ [8, 9, 10, 11, 12, 13, 14, 15, 16, 7, 17, 18, 19, 20, 21, 22, 23, 24, 25, 26, 27, 28, 29, 30, 31, 32, 33, 34, 35, 36, 37, 38, 39, 40, 41, 42, 43, 44, 45, 46, 47, 48, 49, 50, 51, 52, 53, 54, 55, 56, 57, 58, 59, 60, 61, 62, 63, 64, 65, 66, 67, 68, 69, 70, 71, 72, 73, 74, 75, 76, 77, 78, 79, 80, 81, 82, 83, 84, 85, 86, 87, 88, 89, 90, 91, 92, 93, 94, 95, 96, 97, 98, 99, 100, 101, 102, 103, 104, 105, 106, 107, 108, 109, 110, 111, 112, 113, 114, 115, 116] (by decide +kernel) (by decide +kernel)) (goodIn_sub (fun _ h => List.mem_cons_of_mem _ (List.mem_append_left _ (List.mem_append_left _ (List.mem_append_right _ h)))) (by decide +kernel))) (goodIn_sub (fun _ h => List.mem_cons_of_mem _ (List.mem_append_left _ (List.mem_append_right _ h))) (by decide +kernel))) (goodIn_sub (fun _ h => List.mem_cons_of_mem _ (List.mem_append_right _ h)) (by decide +kernel))) (goodIn_sub (fun _ h => List.mem_cons_of_mem _ (List.mem_append_left _ (List.mem_append_left _ (List.mem_append_left _ (List.mem_append_right _ h))))) (by decide +kernel))
set_option maxRecDepth 20000 in
theorem gL_indexes_X9_indexes : GoodIn wsL_indexes (wsV RL 97 RX9 yX9_indexes wsX9_indexes) := goodIn_app (goodIn_of _ (by decide +kernel)) ggL_indexes_X9_indexes
theorem dL_indexes_0 : decode cL_indexes 0 = .ok (.aload 4, 2) := by decide +kernel
theorem dL_indexes_2 : decode cL_indexes 2 = .ok (.iconst 0, 1) := by decide +kernel
theorem dL_indexes_3 : decode cL_indexes 3 = .ok (.aload_n 0, 1) := by decide +kernel
theorem dL_indexes_4 : decode cL_indexes 4 = .ok (.iload_n 1, 1) := by decide +kernel
theorem dL_indexes_5 : decode cL_indexes 5 = .ok (.iload_n 2, 1) := by decide +kernel
theorem dL_indexes_6 : decode cL_indexes 6 = .ok (.iload_n 3, 1) := by decide +kernel
theorem dL_indexes_7 : decode cL_indexes 7 = .ok (.invokevirtual 97, 3) := by decide +kernel
theorem dL_indexes_10 : decode cL_indexes 10 = .ok (.ifCond .eq 7, 3) := by decide +kernel
theorem dL_indexes_13 : decode cL_indexes 13 = .ok (.lconst 1, 1) := by decide +kernel
theorem dL_indexes_14 : decode cL_indexes 14 = .ok (.goto 4, 3) := by decide +kernel
theorem dL_indexes_17 : decode cL_indexes 17 = .ok (.lconst 0, 1) := by decide +kernel
theorem dL_indexes_18 : decode cL_indexes 18 = .ok (.lastore, 1) := by decide +kernel
theorem dL_indexes_19 : decode cL_indexes 19 = .ok (.goto 15, 3) := by decide +kernel
theorem dL_indexes_22 : decode cL_indexes 22 = .ok (.astore 5, 2) := by decide +kernel
theorem dL_indexes_24 : decode cL_indexes 24 = .ok (.iconst 1, 1) := by decide +kernel
theorem dL_indexes_25 : decode cL_indexes 25 = .ok (.ireturn, 1) := by decide +kernel
theorem dL_indexes_26 : decode cL_indexes 26 = .ok (.astore 5, 2) := by decide +kernel
theorem dL_indexes_28 : decode cL_indexes 28 = .ok (.iconst 2, 1) := by decide +kernel
theorem dL_indexes_29 : decode cL_indexes 29 = .ok (.ireturn, 1) := by decide +kernel
theorem dL_indexes_30 : decode cL_indexes 30 = .ok (.astore 5, 2) := by decide +kernel
theorem dL_indexes_32 : decode cL_indexes 32 = .ok (.iconst 3, 1) := by decide +kernel
theorem dL_indexes_33 : decode cL_indexes 33 = .ok (.ireturn, 1) := by decide +kernel
theorem dL_indexes_34 : decode cL_indexes 34 = .ok (.iconst 0, 1) := by decide +kernel
theorem dL_indexes_35 : decode cL_indexes 35 = .ok (.ireturn, 1) := by decide +kernel
set_option maxRecDepth 20000 in
theorem ggL_differs_X9_differs : GoodIn wsL_differs wsX9_differs := goodIn_ca (goodIn_ca (goodIn_ca (goodIn_ca (goodIn_ca (goodIn_r _ [9, 10, 11, 12, 13, 14, 15, 16, 17, 18, 19, 20, 21, 22, 8, 23, 24, 25, 26, 27, 28, 29, 30, 31, 32, 33, 34, 35, 36, 37, 38, 39, 40, 41, 42, 43, 44, 45, 46, 47, 48, 49, 50, 51, 52, 53, 54, 55, 56, 57, 58, 59, 60, 61, 62, 63, 64, 65, 66, 67, 68, 69, 70, 71, 72, 73, 74, 75, 76, 77, 78, 79, 80, 81, 82, 83, 84, 85, 86, 87, 88, 89, 90, 91, 92, 93, 94, 95, 96, 97, 98, 99, 100, 101, 102, 103, 104, 105, 106, 107, 108, 109, 110, 111, 112, 113, 114, 115, 116, 117, 118, 119, 120, 121, 122, 123, 124, 125, 126] (by decide +kernel) (by decide +kernel)) (goodIn_sub (fun _ h => List.mem_cons_of_mem _ (List.mem_append_left _ (List.mem_append_left _ (List.mem_append_left _ (List.mem_append_right _ h))))) (by decide +kernel))) (goodIn_sub (fun _ h => List.mem_cons_of_mem _ (List.mem_append_left _ (List.mem_append_left _ (List.mem_append_right _ h)))) (by decide +kernel))) (goodIn_sub (fun _ h => List.mem_cons_of_mem _ (List.mem_append_left _ (List.mem_append_right _ h))) (by decide +kernel))) (goodIn_sub (fun _ h => List.mem_cons_of_mem _ (List.mem_append_right _ h)) (by decide +kernel))) (goodIn_sub (fun _ h => List.mem_cons_of_mem _ (List.mem_append_left _ (List.mem_append_left _ (List.mem_append_left _ (List.mem_append_left _ (List.mem_append_right _ h)))))) (by decide +kernel))
set_option maxRecDepth 20000 in
theorem gL_differs_X9_differs : GoodIn wsL_differs (wsV RL 100 RX9 yX9_differs wsX9_differs) := goodIn_app (goodIn_of _ (by decide +kernel)) ggL_differs_X9_differs
theorem dL_differs_0 : decode cL_differs 0 = .ok (.aload 4, 2) := by decide +kernel
theorem dL_differs_2 : decode cL_differs 2 = .ok (.iconst 0, 1) := by decide +kernel
theorem dL_differs_3 : decode cL_differs 3 = .ok (.aload_n 0, 1) := by decide +kernel
theorem dL_differs_4 : decode cL_differs 4 = .ok (.iload_n 1, 1) := by decide +kernel
theorem dL_differs_5 : decode cL_differs 5 = .ok (.iload_n 2, 1) := by decide +kernel
theorem dL_differs_6 : decode cL_differs 6 = .ok (.iload_n 3, 1) := by decide +kernel
theorem dL_differs_7 : decode cL_differs 7 = .ok (.invokevirtual 100, 3) := by decide +kernel
theorem dL_differs_10 : decode cL_differs 10 = .ok (.ifCond .eq 7, 3) := by decide +kernel
theorem dL_differs_13 : decode cL_differs 13 = .ok (.lconst 1, 1) := by decide +kernel
theorem dL_differs_14 : decode cL_differs 14 = .ok (.goto 4, 3) := by decide +kernel
theorem dL_differs_17 : decode cL_differs 17 = .ok (.lconst 0, 1) := by decide +kernel
theorem dL_differs_18 : decode cL_differs 18 = .ok (.lastore, 1) := by decide +kernel
theorem dL_differs_19 : decode cL_differs 19 = .ok (.goto 19, 3) := by decide +kernel
theorem dL_differs_22 : decode cL_differs 22 = .ok (.astore 5, 2) := by decide +kernel
theorem dL_differs_24 : decode cL_differs 24 = .ok (.iconst 1, 1) := by decide +kernel
theorem dL_differs_25 : decode cL_differs 25 = .ok (.ireturn, 1) := by decide +kernel
theorem dL_differs_26 : decode cL_differs 26 = .ok (.astore 5, 2) := by decide +kernel
theorem dL_differs_28 : decode cL_differs 28 = .ok (.iconst 2, 1) := by decide +kernel
theorem dL_differs_29 : decode cL_differs 29 = .ok (.ireturn, 1) := by decide +kernel
theorem dL_differs_30 : decode cL_differs 30 = .ok (.astore 5, 2) := by decide +kernel
theorem dL_differs_32 : decode cL_differs 32 = .ok (.iconst 3, 1) := by decide +kernel
theorem dL_differs_33 : decode cL_differs 33 = .ok (.ireturn, 1) := by decide +kernel
theorem dL_differs_34 : decode cL_differs 34 = .ok (.astore 5, 2) := by decide +kernel
theorem dL_differs_36 : decode cL_differs 36 = .ok (.iconst 4, 1) := by decide +kernel
theorem dL_differs_37 : decode cL_differs 37 = .ok (.ireturn, 1) := by decide +kernel
theorem dL_differs_38 : decode cL_differs 38 = .ok (.iconst 0, 1) := by decide +kernel
theorem dL_differs_39 : decode cL_differs 39 = .ok (.ireturn, 1) := by decide +kernel
set_option maxRecDepth 20000 in
theorem ggL_shoulder_X9_shoulder : GoodIn wsL_shoulder wsX9_shoulder := goodIn_ca (goodIn_ca (goodIn_r _ [7, 8, 9, 10, 11, 12, 6, 13, 14, 15, 16, 17, 18, 19, 20, 21, 22, 23, 24, 25, 26, 27, 28, 29, 30, 31, 32, 33, 34, 35, 36, 37, 38, 39, 40, 41, 42, 43, 44, 45, 46, 47, 48, 49, 50, 51, 52, 53] (by decide +kernel) (by decide +kernel)) (goodIn_sub (fun _ h => List.mem_cons_of_mem _ (List.mem_append_left _ (List.mem_append_right _ h))) (by decide +kernel))) (goodIn_sub (fun _ h => List.mem_cons_of_mem _ (List.mem_append_right _ h)) (by decide +kernel))
set_option maxRecDepth 20000 in
theorem gL_shoulder_X9_shoulder : GoodIn wsL_shoulder (wsV RL 103 RX9 yX9_shoulder wsX9_shoulder) := goodIn_app (goodIn_of _ (by decide +kernel)) ggL_shoulder_X9_shoulder
theorem dL_shoulder_0 : decode cL_shoulder 0 = .ok (.aload_n 3, 1) := by decide +kernel
theorem dL_shoulder_1 : decode cL_shoulder 1 = .ok (.iconst 0, 1) := by decide +kernel
theorem dL_shoulder_2 : decode cL_shoulder 2 = .ok (.aload_n 0, 1) := by decide +kernel
theorem dL_shoulder_3 : decode cL_shoulder 3 = .ok (.iload_n 1, 1) := by decide +kernel
theorem dL_shoulder_4 : decode cL_shoulder 4 = .ok (.iload_n 2, 1) := by decide +kernel
theorem dL_shoulder_5 : decode cL_shoulder 5 = .ok (.invokevirtual 103, 3) := by decide +kernel
theorem dL_shoulder_8 : decode cL_shoulder 8 = .ok (.i2l, 1) := by decide +kernel
theorem dL_shoulder_9 : decode cL_shoulder 9 = .ok (.lastore, 1) := by decide +kernel
theorem dL_shoulder_10 : decode cL_shoulder 10 = .ok (.goto 11, 3) := by decide +kernel
theorem dL_shoulder_13 : decode cL_shoulder 13 = .ok (.astore 4, 2) := by decide +kernel
theorem dL_shoulder_15 : decode cL_shoulder 15 = .ok (.iconst 1, 1) := by decide +kernel
theorem dL_shoulder_16 : decode cL_shoulder 16 = .ok (.ireturn, 1) := by decide +kernel
theorem dL_shoulder_17 : decode cL_shoulder 17 = .ok (.astore 4, 2) := by decide +kernel
theorem dL_shoulder_19 : decode cL_shoulder 19 = .ok (.iconst 2, 1) := by decide +kernel
theorem dL_shoulder_20 : decode cL_shoulder 20 = .ok (.ireturn, 1) := by decide +kernel
theorem dL_shoulder_21 : decode cL_shoulder 21 = .ok (.iconst 0, 1) := by decide +kernel
theorem dL_shoulder_22 : decode cL_shoulder 22 = .ok (.ireturn, 1) := by decide +kernel
set_option maxRecDepth 20000 in
theorem ggL_approach_X9_approach : GoodIn wsL_approach wsX9_approach := goodIn_ca (goodIn_r _ [6, 7, 8, 9, 5, 10, 11, 12, 13, 14, 15, 16, 17, 18, 19, 20, 21, 22, 23, 24, 25, 26, 27, 28, 29, 30, 31, 32, 33, 34, 35, 36, 37, 38, 39, 40, 41, 42] (by decide +kernel) (by decide +kernel)) (goodIn_sub (fun _ h => List.mem_cons_of_mem _ (List.mem_append_right _ h)) (by decide +kernel))
set_option maxRecDepth 20000 in
theorem gL_approach_X9_approach : GoodIn wsL_approach (wsV RL 106 RX9 yX9_approach wsX9_approach) := goodIn_app (goodIn_of _ (by decide +kernel)) ggL_approach_X9_approach
theorem dL_approach_0 : decode cL_approach 0 = .ok (.aload_n 2, 1) := by decide +kernel
theorem dL_approach_1 : decode cL_approach 1 = .ok (.iconst 0, 1) := by decide +kernel
theorem dL_approach_2 : decode cL_approach 2 = .ok (.aload_n 0, 1) := by decide +kernel
theorem dL_approach_3 : decode cL_approach 3 = .ok (.iload_n 1, 1) := by decide +kernel
theorem dL_approach_4 : decode cL_approach 4 = .ok (.invokevirtual 106, 3) := by decide +kernel
theorem dL_approach_7 : decode cL_approach 7 = .ok (.i2l, 1) := by decide +kernel
theorem dL_approach_8 : decode cL_approach 8 = .ok (.lastore, 1) := by decide +kernel
theorem dL_approach_9 : decode cL_approach 9 = .ok (.goto 6, 3) := by decide +kernel
theorem dL_approach_12 : decode cL_approach 12 = .ok (.astore_n 3, 1) := by decide +kernel
theorem dL_approach_13 : decode cL_approach 13 = .ok (.iconst 1, 1) := by decide +kernel
theorem dL_approach_14 : decode cL_approach 14 = .ok (.ireturn, 1) := by decide +kernel
theorem dL_approach_15 : decode cL_approach 15 = .ok (.iconst 0, 1) := by decide +kernel
theorem dL_approach_16 : decode cL_approach 16 = .ok (.ireturn, 1) := by decide +kernel
set_option maxRecDepth 20000 in
theorem ggL_cut_X9_cut : GoodIn wsL_cut wsX9_cut := goodIn_ca (goodIn_ca (goodIn_ca (goodIn_ca (goodIn_ca (goodIn_r _ [8, 9, 10, 11, 12, 13, 14, 15, 16, 17, 18, 7, 19, 20, 21, 22, 23, 24, 25, 26, 27, 28, 29, 30, 31, 32, 33, 34, 35, 36, 37, 38, 39, 40, 41, 42, 43, 44, 45, 46, 47, 48, 49, 50, 51, 52, 53, 54, 55, 56, 57, 58, 59, 60, 61, 62, 63, 64, 65, 66, 67, 68, 69, 70, 71, 72, 73, 74, 75, 76, 77, 78, 79, 80, 81, 82, 83, 84, 85, 86, 87, 88, 89, 90, 91, 92, 93, 94, 95, 96, 97, 98, 99, 100, 101, 102, 103, 104, 105, 106] (by decide +kernel) (by decide +kernel)) (goodIn_sub (fun _ h => List.mem_cons_of_mem _ (List.mem_append_left _ (List.mem_append_left _ (List.mem_append_left _ (List.mem_append_right _ h))))) (by decide +kernel))) (goodIn_sub (fun _ h => List.mem_cons_of_mem _ (List.mem_append_left _ (List.mem_append_left _ (List.mem_append_right _ h)))) (by decide +kernel))) (goodIn_sub (fun _ h => List.mem_cons_of_mem _ (List.mem_append_left _ (List.mem_append_left _ (List.mem_append_left _ (List.mem_append_left _ (List.mem_append_right _ h)))))) (by decide +kernel))) (goodIn_sub (fun _ h => List.mem_cons_of_mem _ (List.mem_append_left _ (List.mem_append_right _ h))) (by decide +kernel))) (goodIn_sub (fun _ h => List.mem_cons_of_mem _ (List.mem_append_right _ h)) (by decide +kernel))
set_option maxRecDepth 20000 in
theorem gL_cut_X9_cut : GoodIn wsL_cut (wsV RL 109 RX9 yX9_cut wsX9_cut) := goodIn_app (goodIn_of _ (by decide +kernel)) ggL_cut_X9_cut
theorem dL_cut_0 : decode cL_cut 0 = .ok (.aload 4, 2) := by decide +kernel
theorem dL_cut_2 : decode cL_cut 2 = .ok (.iconst 0, 1) := by decide +kernel
theorem dL_cut_3 : decode cL_cut 3 = .ok (.aload_n 0, 1) := by decide +kernel
theorem dL_cut_4 : decode cL_cut 4 = .ok (.iload_n 1, 1) := by decide +kernel
theorem dL_cut_5 : decode cL_cut 5 = .ok (.iload_n 2, 1) := by decide +kernel
theorem dL_cut_6 : decode cL_cut 6 = .ok (.iload_n 3, 1) := by decide +kernel
theorem dL_cut_7 : decode cL_cut 7 = .ok (.invokevirtual 109, 3) := by decide +kernel
theorem dL_cut_10 : decode cL_cut 10 = .ok (.i2l, 1) := by decide +kernel
theorem dL_cut_11 : decode cL_cut 11 = .ok (.lastore, 1) := by decide +kernel
theorem dL_cut_12 : decode cL_cut 12 = .ok (.goto 15, 3) := by decide +kernel
theorem dL_cut_15 : decode cL_cut 15 = .ok (.astore 5, 2) := by decide +kernel
theorem dL_cut_17 : decode cL_cut 17 = .ok (.iconst 1, 1) := by decide +kernel
theorem dL_cut_18 : decode cL_cut 18 = .ok (.ireturn, 1) := by decide +kernel
theorem dL_cut_19 : decode cL_cut 19 = .ok (.astore 5, 2) := by decide +kernel
theorem dL_cut_21 : decode cL_cut 21 = .ok (.iconst 2, 1) := by decide +kernel
theorem dL_cut_22 : decode cL_cut 22 = .ok (.ireturn, 1) := by decide +kernel
theorem dL_cut_23 : decode cL_cut 23 = .ok (.astore 5, 2) := by decide +kernel
theorem dL_cut_25 : decode cL_cut 25 = .ok (.iconst 3, 1) := by decide +kernel
theorem dL_cut_26 : decode cL_cut 26 = .ok (.ireturn, 1) := by decide +kernel
theorem dL_cut_27 : decode cL_cut 27 = .ok (.iconst 0, 1) := by decide +kernel
theorem dL_cut_28 : decode cL_cut 28 = .ok (.ireturn, 1) := by decide +kernel
set_option maxRecDepth 20000 in
theorem ggL_wear_X9_wear : GoodIn wsL_wear wsX9_wear := goodIn_ca (goodIn_ca (goodIn_r _ [6, 7, 8, 9, 10, 11, 12, 5, 13, 14, 15, 16, 17, 18, 19, 20, 21, 22, 23, 24, 25, 26, 27, 28, 29, 30, 31, 32] (by decide +kernel) (by decide +kernel)) (goodIn_sub (fun _ h => List.mem_cons_of_mem _ (List.mem_append_right _ h)) (by decide +kernel))) (goodIn_sub (fun _ h => List.mem_cons_of_mem _ (List.mem_append_left _ (List.mem_append_right _ h))) (by decide +kernel))
set_option maxRecDepth 20000 in
theorem gL_wear_X9_wear : GoodIn wsL_wear (wsV RL 112 RX9 yX9_wear wsX9_wear) := goodIn_app (goodIn_of _ (by decide +kernel)) ggL_wear_X9_wear
theorem dL_wear_0 : decode cL_wear 0 = .ok (.aload_n 3, 1) := by decide +kernel
theorem dL_wear_1 : decode cL_wear 1 = .ok (.iconst 0, 1) := by decide +kernel
theorem dL_wear_2 : decode cL_wear 2 = .ok (.aload_n 0, 1) := by decide +kernel
theorem dL_wear_3 : decode cL_wear 3 = .ok (.iload_n 1, 1) := by decide +kernel
theorem dL_wear_4 : decode cL_wear 4 = .ok (.iload_n 2, 1) := by decide +kernel
theorem dL_wear_5 : decode cL_wear 5 = .ok (.invokevirtual 112, 3) := by decide +kernel
theorem dL_wear_8 : decode cL_wear 8 = .ok (.i2l, 1) := by decide +kernel
theorem dL_wear_9 : decode cL_wear 9 = .ok (.lastore, 1) := by decide +kernel
theorem dL_wear_10 : decode cL_wear 10 = .ok (.goto 7, 3) := by decide +kernel
theorem dL_wear_13 : decode cL_wear 13 = .ok (.astore 4, 2) := by decide +kernel
theorem dL_wear_15 : decode cL_wear 15 = .ok (.iconst 1, 1) := by decide +kernel
theorem dL_wear_16 : decode cL_wear 16 = .ok (.ireturn, 1) := by decide +kernel
theorem dL_wear_17 : decode cL_wear 17 = .ok (.iconst 0, 1) := by decide +kernel
theorem dL_wear_18 : decode cL_wear 18 = .ok (.ireturn, 1) := by decide +kernel
set_option maxRecDepth 20000 in
theorem ggL_regrind_X9_regrind : GoodIn wsL_regrind wsX9_regrind := goodIn_ca (goodIn_ca (goodIn_ca (goodIn_r _ [7, 8, 9, 10, 11, 12, 6, 13, 14, 15, 16, 17, 18, 19, 20, 21, 22, 23, 24, 25, 26, 27, 28, 29, 30, 31, 32, 33, 34, 35, 36, 37, 38, 39, 40, 41, 42, 43, 44, 45, 46, 47] (by decide +kernel) (by decide +kernel)) (goodIn_sub (fun _ h => List.mem_cons_of_mem _ (List.mem_append_left _ (List.mem_append_right _ h))) (by decide +kernel))) (goodIn_sub (fun _ h => List.mem_cons_of_mem _ (List.mem_append_right _ h)) (by decide +kernel))) (goodIn_sub (fun _ h => List.mem_cons_of_mem _ (List.mem_append_left _ (List.mem_append_left _ (List.mem_append_right _ h)))) (by decide +kernel))
set_option maxRecDepth 20000 in
theorem gL_regrind_X9_regrind : GoodIn wsL_regrind (wsV RL 115 RX9 yX9_regrind wsX9_regrind) := goodIn_app (goodIn_of _ (by decide +kernel)) ggL_regrind_X9_regrind
theorem dL_regrind_0 : decode cL_regrind 0 = .ok (.aload_n 2, 1) := by decide +kernel
theorem dL_regrind_1 : decode cL_regrind 1 = .ok (.iconst 0, 1) := by decide +kernel
theorem dL_regrind_2 : decode cL_regrind 2 = .ok (.aload_n 0, 1) := by decide +kernel
theorem dL_regrind_3 : decode cL_regrind 3 = .ok (.iload_n 1, 1) := by decide +kernel
theorem dL_regrind_4 : decode cL_regrind 4 = .ok (.invokevirtual 115, 3) := by decide +kernel
theorem dL_regrind_7 : decode cL_regrind 7 = .ok (.i2l, 1) := by decide +kernel
theorem dL_regrind_8 : decode cL_regrind 8 = .ok (.lastore, 1) := by decide +kernel
theorem dL_regrind_9 : decode cL_regrind 9 = .ok (.goto 9, 3) := by decide +kernel
theorem dL_regrind_12 : decode cL_regrind 12 = .ok (.astore_n 3, 1) := by decide +kernel
theorem dL_regrind_13 : decode cL_regrind 13 = .ok (.iconst 1, 1) := by decide +kernel
theorem dL_regrind_14 : decode cL_regrind 14 = .ok (.ireturn, 1) := by decide +kernel
theorem dL_regrind_15 : decode cL_regrind 15 = .ok (.astore_n 3, 1) := by decide +kernel
theorem dL_regrind_16 : decode cL_regrind 16 = .ok (.iconst 2, 1) := by decide +kernel
theorem dL_regrind_17 : decode cL_regrind 17 = .ok (.ireturn, 1) := by decide +kernel
theorem dL_regrind_18 : decode cL_regrind 18 = .ok (.iconst 0, 1) := by decide +kernel
theorem dL_regrind_19 : decode cL_regrind 19 = .ok (.ireturn, 1) := by decide +kernel
set_option maxRecDepth 20000 in
theorem ggL_inStep_X9_inStep : GoodIn wsL_inStep wsX9_inStep := goodIn_ca (goodIn_ca (goodIn_r _ [6, 7, 8, 9, 5, 10, 11, 12, 13, 14, 15, 16, 17, 18, 19, 20, 21, 22, 23, 24, 25] (by decide +kernel) (by decide +kernel)) (goodIn_sub (fun _ h => List.mem_cons_of_mem _ (List.mem_append_left _ (List.mem_append_right _ h))) (by decide +kernel))) (goodIn_sub (fun _ h => List.mem_cons_of_mem _ (List.mem_append_right _ h)) (by decide +kernel))
set_option maxRecDepth 20000 in
theorem gL_inStep_X9_inStep : GoodIn wsL_inStep (wsV RL 118 RX9 yX9_inStep wsX9_inStep) := goodIn_app (goodIn_of _ (by decide +kernel)) ggL_inStep_X9_inStep
theorem dL_inStep_0 : decode cL_inStep 0 = .ok (.aload 5, 2) := by decide +kernel
theorem dL_inStep_2 : decode cL_inStep 2 = .ok (.iconst 0, 1) := by decide +kernel
theorem dL_inStep_3 : decode cL_inStep 3 = .ok (.aload_n 0, 1) := by decide +kernel
theorem dL_inStep_4 : decode cL_inStep 4 = .ok (.iload_n 1, 1) := by decide +kernel
theorem dL_inStep_5 : decode cL_inStep 5 = .ok (.iload_n 2, 1) := by decide +kernel
theorem dL_inStep_6 : decode cL_inStep 6 = .ok (.iload_n 3, 1) := by decide +kernel
theorem dL_inStep_7 : decode cL_inStep 7 = .ok (.iload 4, 2) := by decide +kernel
theorem dL_inStep_9 : decode cL_inStep 9 = .ok (.invokevirtual 118, 3) := by decide +kernel
theorem dL_inStep_12 : decode cL_inStep 12 = .ok (.ifCond .eq 7, 3) := by decide +kernel
theorem dL_inStep_15 : decode cL_inStep 15 = .ok (.lconst 1, 1) := by decide +kernel
theorem dL_inStep_16 : decode cL_inStep 16 = .ok (.goto 4, 3) := by decide +kernel
theorem dL_inStep_19 : decode cL_inStep 19 = .ok (.lconst 0, 1) := by decide +kernel
theorem dL_inStep_20 : decode cL_inStep 20 = .ok (.lastore, 1) := by decide +kernel
theorem dL_inStep_21 : decode cL_inStep 21 = .ok (.goto 7, 3) := by decide +kernel
theorem dL_inStep_24 : decode cL_inStep 24 = .ok (.astore 6, 2) := by decide +kernel
theorem dL_inStep_26 : decode cL_inStep 26 = .ok (.iconst 1, 1) := by decide +kernel
theorem dL_inStep_27 : decode cL_inStep 27 = .ok (.ireturn, 1) := by decide +kernel
theorem dL_inStep_28 : decode cL_inStep 28 = .ok (.iconst 0, 1) := by decide +kernel
theorem dL_inStep_29 : decode cL_inStep 29 = .ok (.ireturn, 1) := by decide +kernel
set_option maxRecDepth 20000 in
theorem ggL_clock_X9_clock : GoodIn wsL_clock wsX9_clock := goodIn_ca (goodIn_r _ [6, 7, 8, 5, 9, 10, 11, 12, 13, 14, 15, 16, 17, 18] (by decide +kernel) (by decide +kernel)) (goodIn_sub (fun _ h => List.mem_cons_of_mem _ (List.mem_append_right _ h)) (by decide +kernel))
set_option maxRecDepth 20000 in
theorem gL_clock_X9_clock : GoodIn wsL_clock (wsV RL 122 RX9 yX9_clock wsX9_clock) := goodIn_app (goodIn_of _ (by decide +kernel)) ggL_clock_X9_clock
theorem dL_clock_0 : decode cL_clock 0 = .ok (.aload 4, 2) := by decide +kernel
theorem dL_clock_2 : decode cL_clock 2 = .ok (.iconst 0, 1) := by decide +kernel
theorem dL_clock_3 : decode cL_clock 3 = .ok (.aload_n 0, 1) := by decide +kernel
theorem dL_clock_4 : decode cL_clock 4 = .ok (.iload_n 1, 1) := by decide +kernel
theorem dL_clock_5 : decode cL_clock 5 = .ok (.iload_n 2, 1) := by decide +kernel
theorem dL_clock_6 : decode cL_clock 6 = .ok (.iload_n 3, 1) := by decide +kernel
theorem dL_clock_7 : decode cL_clock 7 = .ok (.invokevirtual 122, 3) := by decide +kernel
theorem dL_clock_10 : decode cL_clock 10 = .ok (.i2l, 1) := by decide +kernel
theorem dL_clock_11 : decode cL_clock 11 = .ok (.lastore, 1) := by decide +kernel
theorem dL_clock_12 : decode cL_clock 12 = .ok (.goto 7, 3) := by decide +kernel
theorem dL_clock_15 : decode cL_clock 15 = .ok (.astore 5, 2) := by decide +kernel
theorem dL_clock_17 : decode cL_clock 17 = .ok (.iconst 1, 1) := by decide +kernel
theorem dL_clock_18 : decode cL_clock 18 = .ok (.ireturn, 1) := by decide +kernel
theorem dL_clock_19 : decode cL_clock 19 = .ok (.iconst 0, 1) := by decide +kernel
theorem dL_clock_20 : decode cL_clock 20 = .ok (.ireturn, 1) := by decide +kernel
set_option maxRecDepth 20000 in
theorem ggL_harden_X9_harden : GoodIn wsL_harden wsX9_harden := goodIn_ca (goodIn_ca (goodIn_ca (goodIn_ca (goodIn_r _ [8, 9, 10, 11, 12, 7, 13, 14, 15, 16, 17, 18, 19, 20, 21, 22, 23, 24, 25, 26, 27, 28, 29, 30, 31, 32, 33, 34, 35, 36, 37, 38, 39, 40, 41, 42, 43, 44, 45, 46, 47, 48, 49, 50, 51, 52, 53, 54, 55, 56, 57, 58, 59, 60, 61, 62, 63, 64, 65, 66, 67, 68, 69, 70, 71, 72, 73, 74, 75, 76, 77, 78, 79, 80, 81, 82, 83, 84, 85, 86, 87, 88, 89, 90, 91, 92] (by decide +kernel) (by decide +kernel)) (goodIn_sub (fun _ h => List.mem_cons_of_mem _ (List.mem_append_left _ (List.mem_append_left _ (List.mem_append_left _ (List.mem_append_right _ h))))) (by decide +kernel))) (goodIn_sub (fun _ h => List.mem_cons_of_mem _ (List.mem_append_left _ (List.mem_append_left _ (List.mem_append_right _ h)))) (by decide +kernel))) (goodIn_sub (fun _ h => List.mem_cons_of_mem _ (List.mem_append_left _ (List.mem_append_right _ h))) (by decide +kernel))) (goodIn_sub (fun _ h => List.mem_cons_of_mem _ (List.mem_append_right _ h)) (by decide +kernel))
set_option maxRecDepth 20000 in
theorem gL_harden_X9_harden : GoodIn wsL_harden (wsV RL 125 RX9 yX9_harden wsX9_harden) := goodIn_app (goodIn_of _ (by decide +kernel)) ggL_harden_X9_harden
theorem dL_harden_0 : decode cL_harden 0 = .ok (.aload 4, 2) := by decide +kernel
theorem dL_harden_2 : decode cL_harden 2 = .ok (.iconst 0, 1) := by decide +kernel
theorem dL_harden_3 : decode cL_harden 3 = .ok (.aload_n 0, 1) := by decide +kernel
theorem dL_harden_4 : decode cL_harden 4 = .ok (.iload_n 1, 1) := by decide +kernel
theorem dL_harden_5 : decode cL_harden 5 = .ok (.iload_n 2, 1) := by decide +kernel
theorem dL_harden_6 : decode cL_harden 6 = .ok (.iload_n 3, 1) := by decide +kernel
theorem dL_harden_7 : decode cL_harden 7 = .ok (.invokevirtual 125, 3) := by decide +kernel
theorem dL_harden_10 : decode cL_harden 10 = .ok (.i2l, 1) := by decide +kernel
theorem dL_harden_11 : decode cL_harden 11 = .ok (.lastore, 1) := by decide +kernel
theorem dL_harden_12 : decode cL_harden 12 = .ok (.goto 15, 3) := by decide +kernel
theorem dL_harden_15 : decode cL_harden 15 = .ok (.astore 5, 2) := by decide +kernel
theorem dL_harden_17 : decode cL_harden 17 = .ok (.iconst 1, 1) := by decide +kernel
theorem dL_harden_18 : decode cL_harden 18 = .ok (.ireturn, 1) := by decide +kernel
theorem dL_harden_19 : decode cL_harden 19 = .ok (.astore 5, 2) := by decide +kernel
theorem dL_harden_21 : decode cL_harden 21 = .ok (.iconst 2, 1) := by decide +kernel
theorem dL_harden_22 : decode cL_harden 22 = .ok (.ireturn, 1) := by decide +kernel
theorem dL_harden_23 : decode cL_harden 23 = .ok (.astore 5, 2) := by decide +kernel
theorem dL_harden_25 : decode cL_harden 25 = .ok (.iconst 3, 1) := by decide +kernel
theorem dL_harden_26 : decode cL_harden 26 = .ok (.ireturn, 1) := by decide +kernel
theorem dL_harden_27 : decode cL_harden 27 = .ok (.iconst 0, 1) := by decide +kernel
theorem dL_harden_28 : decode cL_harden 28 = .ok (.ireturn, 1) := by decide +kernel
set_option maxRecDepth 20000 in
theorem ggL_caseOf_X9_caseOf : GoodIn wsL_caseOf wsX9_caseOf := goodIn_ca (goodIn_r _ [6, 7, 8, 9, 10, 5, 11, 12, 13, 14, 15, 16, 17, 18, 19, 20, 21, 22, 23, 24, 25, 26, 27, 28, 29, 30, 31, 32, 33, 34, 35, 36, 37, 38, 39, 40, 41, 42, 43, 44, 45, 46] (by decide +kernel) (by decide +kernel)) (goodIn_sub (fun _ h => List.mem_cons_of_mem _ (List.mem_append_right _ h)) (by decide +kernel))
set_option maxRecDepth 20000 in
theorem gL_caseOf_X9_caseOf : GoodIn wsL_caseOf (wsV RL 129 RX9 yX9_caseOf wsX9_caseOf) := goodIn_app (goodIn_of _ (by decide +kernel)) ggL_caseOf_X9_caseOf
theorem dL_caseOf_0 : decode cL_caseOf 0 = .ok (.aload_n 2, 1) := by decide +kernel
theorem dL_caseOf_1 : decode cL_caseOf 1 = .ok (.iconst 0, 1) := by decide +kernel
theorem dL_caseOf_2 : decode cL_caseOf 2 = .ok (.aload_n 0, 1) := by decide +kernel
theorem dL_caseOf_3 : decode cL_caseOf 3 = .ok (.iload_n 1, 1) := by decide +kernel
theorem dL_caseOf_4 : decode cL_caseOf 4 = .ok (.invokevirtual 129, 3) := by decide +kernel
theorem dL_caseOf_7 : decode cL_caseOf 7 = .ok (.i2l, 1) := by decide +kernel
theorem dL_caseOf_8 : decode cL_caseOf 8 = .ok (.lastore, 1) := by decide +kernel
theorem dL_caseOf_9 : decode cL_caseOf 9 = .ok (.goto 6, 3) := by decide +kernel
theorem dL_caseOf_12 : decode cL_caseOf 12 = .ok (.astore_n 3, 1) := by decide +kernel
theorem dL_caseOf_13 : decode cL_caseOf 13 = .ok (.iconst 1, 1) := by decide +kernel
theorem dL_caseOf_14 : decode cL_caseOf 14 = .ok (.ireturn, 1) := by decide +kernel
theorem dL_caseOf_15 : decode cL_caseOf 15 = .ok (.iconst 0, 1) := by decide +kernel
theorem dL_caseOf_16 : decode cL_caseOf 16 = .ok (.ireturn, 1) := by decide +kernel
set_option maxRecDepth 20000 in
theorem ggL_isClean_X9_isClean : GoodIn wsL_isClean wsX9_isClean := goodIn_ca (goodIn_ca (goodIn_r _ [7, 8, 9, 10, 11, 12, 6, 13, 14, 15, 16, 17, 18, 19, 20, 21, 22, 23, 24, 25, 26, 27, 28, 29, 30, 31, 32, 33, 34, 35, 36, 37, 38, 39, 40, 41, 42, 43, 44, 45, 46, 47, 48, 49, 50, 51, 52, 53] (by decide +kernel) (by decide +kernel)) (goodIn_sub (fun _ h => List.mem_cons_of_mem _ (List.mem_append_left _ (List.mem_append_right _ h))) (by decide +kernel))) (goodIn_sub (fun _ h => List.mem_cons_of_mem _ (List.mem_append_right _ h)) (by decide +kernel))
set_option maxRecDepth 20000 in
theorem gL_isClean_X9_isClean : GoodIn wsL_isClean (wsV RL 132 RX9 yX9_isClean wsX9_isClean) := goodIn_app (goodIn_of _ (by decide +kernel)) ggL_isClean_X9_isClean
theorem dL_isClean_0 : decode cL_isClean 0 = .ok (.aload_n 2, 1) := by decide +kernel
theorem dL_isClean_1 : decode cL_isClean 1 = .ok (.iconst 0, 1) := by decide +kernel
theorem dL_isClean_2 : decode cL_isClean 2 = .ok (.aload_n 0, 1) := by decide +kernel
theorem dL_isClean_3 : decode cL_isClean 3 = .ok (.iload_n 1, 1) := by decide +kernel
theorem dL_isClean_4 : decode cL_isClean 4 = .ok (.invokevirtual 132, 3) := by decide +kernel
theorem dL_isClean_7 : decode cL_isClean 7 = .ok (.ifCond .eq 7, 3) := by decide +kernel
theorem dL_isClean_10 : decode cL_isClean 10 = .ok (.lconst 1, 1) := by decide +kernel
theorem dL_isClean_11 : decode cL_isClean 11 = .ok (.goto 4, 3) := by decide +kernel
theorem dL_isClean_14 : decode cL_isClean 14 = .ok (.lconst 0, 1) := by decide +kernel
theorem dL_isClean_15 : decode cL_isClean 15 = .ok (.lastore, 1) := by decide +kernel
theorem dL_isClean_16 : decode cL_isClean 16 = .ok (.goto 9, 3) := by decide +kernel
theorem dL_isClean_19 : decode cL_isClean 19 = .ok (.astore_n 3, 1) := by decide +kernel
theorem dL_isClean_20 : decode cL_isClean 20 = .ok (.iconst 1, 1) := by decide +kernel
theorem dL_isClean_21 : decode cL_isClean 21 = .ok (.ireturn, 1) := by decide +kernel
theorem dL_isClean_22 : decode cL_isClean 22 = .ok (.astore_n 3, 1) := by decide +kernel
theorem dL_isClean_23 : decode cL_isClean 23 = .ok (.iconst 2, 1) := by decide +kernel
theorem dL_isClean_24 : decode cL_isClean 24 = .ok (.ireturn, 1) := by decide +kernel
theorem dL_isClean_25 : decode cL_isClean 25 = .ok (.iconst 0, 1) := by decide +kernel
theorem dL_isClean_26 : decode cL_isClean 26 = .ok (.ireturn, 1) := by decide +kernel
set_option maxRecDepth 20000 in
theorem ggL_grind_X9_grind : GoodIn wsL_grind wsX9_grind := goodIn_ca (goodIn_ca (goodIn_ca (goodIn_r _ [8, 9, 10, 11, 12, 13, 14, 15, 16, 7, 17, 18, 19, 20, 21, 22, 23, 24, 25, 26, 27, 28, 29, 30, 31, 32, 33, 34, 35, 36, 37, 38, 39, 40, 41, 42, 43, 44, 45, 46, 47, 48, 49, 50, 51, 52, 53, 54, 55, 56, 57, 58, 59, 60, 61, 62, 63, 64, 65, 66, 67, 68, 69, 70, 71, 72, 73, 74, 75, 76, 77, 78, 79, 80, 81, 82, 83, 84, 85] (by decide +kernel) (by decide +kernel)) (goodIn_sub (fun _ h => List.mem_cons_of_mem _ (List.mem_append_left _ (List.mem_append_left _ (List.mem_append_right _ h)))) (by decide +kernel))) (goodIn_sub (fun _ h => List.mem_cons_of_mem _ (List.mem_append_left _ (List.mem_append_right _ h))) (by decide +kernel))) (goodIn_sub (fun _ h => List.mem_cons_of_mem _ (List.mem_append_right _ h)) (by decide +kernel))
set_option maxRecDepth 20000 in
theorem gL_grind_X9_grind : GoodIn wsL_grind (wsV RL 135 RX9 yX9_grind wsX9_grind) := goodIn_app (goodIn_of _ (by decide +kernel)) ggL_grind_X9_grind
theorem dL_grind_0 : decode cL_grind 0 = .ok (.aload 4, 2) := by decide +kernel
theorem dL_grind_2 : decode cL_grind 2 = .ok (.iconst 0, 1) := by decide +kernel
theorem dL_grind_3 : decode cL_grind 3 = .ok (.aload_n 0, 1) := by decide +kernel
theorem dL_grind_4 : decode cL_grind 4 = .ok (.iload_n 1, 1) := by decide +kernel
theorem dL_grind_5 : decode cL_grind 5 = .ok (.iload_n 2, 1) := by decide +kernel
theorem dL_grind_6 : decode cL_grind 6 = .ok (.iload_n 3, 1) := by decide +kernel
theorem dL_grind_7 : decode cL_grind 7 = .ok (.invokevirtual 135, 3) := by decide +kernel
theorem dL_grind_10 : decode cL_grind 10 = .ok (.i2l, 1) := by decide +kernel
theorem dL_grind_11 : decode cL_grind 11 = .ok (.lastore, 1) := by decide +kernel
theorem dL_grind_12 : decode cL_grind 12 = .ok (.goto 15, 3) := by decide +kernel
theorem dL_grind_15 : decode cL_grind 15 = .ok (.astore 5, 2) := by decide +kernel
theorem dL_grind_17 : decode cL_grind 17 = .ok (.iconst 1, 1) := by decide +kernel
theorem dL_grind_18 : decode cL_grind 18 = .ok (.ireturn, 1) := by decide +kernel
theorem dL_grind_19 : decode cL_grind 19 = .ok (.astore 5, 2) := by decide +kernel
theorem dL_grind_21 : decode cL_grind 21 = .ok (.iconst 2, 1) := by decide +kernel
theorem dL_grind_22 : decode cL_grind 22 = .ok (.ireturn, 1) := by decide +kernel
theorem dL_grind_23 : decode cL_grind 23 = .ok (.astore 5, 2) := by decide +kernel
theorem dL_grind_25 : decode cL_grind 25 = .ok (.iconst 3, 1) := by decide +kernel
theorem dL_grind_26 : decode cL_grind 26 = .ok (.ireturn, 1) := by decide +kernel
theorem dL_grind_27 : decode cL_grind 27 = .ok (.iconst 0, 1) := by decide +kernel
theorem dL_grind_28 : decode cL_grind 28 = .ok (.ireturn, 1) := by decide +kernel
set_option maxRecDepth 20000 in
theorem ggL_stateOf_X9_stateOf : GoodIn wsL_stateOf wsX9_stateOf := goodIn_ca (goodIn_r _ [6, 7, 8, 9, 10, 11, 12, 13, 5, 14, 15, 16, 17, 18, 19, 20, 21, 22, 23, 24, 25, 26, 27, 28, 29, 30, 31, 32, 33, 34, 35, 36, 37, 38, 39, 40, 41, 42, 43, 44, 45, 46, 47, 48, 49, 50, 51, 52, 53, 54, 55, 56] (by decide +kernel) (by decide +kernel)) (goodIn_sub (fun _ h => List.mem_cons_of_mem _ (List.mem_append_right _ h)) (by decide +kernel))
set_option maxRecDepth 20000 in
theorem gL_stateOf_X9_stateOf : GoodIn wsL_stateOf (wsV RL 138 RX9 yX9_stateOf wsX9_stateOf) := goodIn_app (goodIn_of _ (by decide +kernel)) ggL_stateOf_X9_stateOf
theorem dL_stateOf_0 : decode cL_stateOf 0 = .ok (.aload_n 2, 1) := by decide +kernel
theorem dL_stateOf_1 : decode cL_stateOf 1 = .ok (.iconst 0, 1) := by decide +kernel
theorem dL_stateOf_2 : decode cL_stateOf 2 = .ok (.aload_n 0, 1) := by decide +kernel
theorem dL_stateOf_3 : decode cL_stateOf 3 = .ok (.iload_n 1, 1) := by decide +kernel
theorem dL_stateOf_4 : decode cL_stateOf 4 = .ok (.invokevirtual 138, 3) := by decide +kernel
theorem dL_stateOf_7 : decode cL_stateOf 7 = .ok (.i2l, 1) := by decide +kernel
theorem dL_stateOf_8 : decode cL_stateOf 8 = .ok (.lastore, 1) := by decide +kernel
theorem dL_stateOf_9 : decode cL_stateOf 9 = .ok (.goto 6, 3) := by decide +kernel
theorem dL_stateOf_12 : decode cL_stateOf 12 = .ok (.astore_n 3, 1) := by decide +kernel
theorem dL_stateOf_13 : decode cL_stateOf 13 = .ok (.iconst 1, 1) := by decide +kernel
theorem dL_stateOf_14 : decode cL_stateOf 14 = .ok (.ireturn, 1) := by decide +kernel
theorem dL_stateOf_15 : decode cL_stateOf 15 = .ok (.iconst 0, 1) := by decide +kernel
theorem dL_stateOf_16 : decode cL_stateOf 16 = .ok (.ireturn, 1) := by decide +kernel
set_option maxRecDepth 20000 in
theorem ggL_chart_X9_chart : GoodIn wsL_chart wsX9_chart := goodIn_ca (goodIn_ca (goodIn_ca (goodIn_ca (goodIn_r _ [7, 8, 9, 10, 11, 12, 6, 13, 14, 15, 16, 17, 18, 19, 20, 21, 22, 23, 24, 25, 26, 27, 28, 29, 30, 31, 32, 33, 34, 35, 36, 37, 38, 39, 40, 41, 42, 43, 44, 45, 46, 47, 48, 49, 50, 51, 52, 53, 54, 55, 56, 57, 58, 59, 60, 61, 62, 63, 64, 65, 66, 67, 68, 69, 70, 71, 72, 73, 74, 75, 76, 77, 78, 79] (by decide +kernel) (by decide +kernel)) (goodIn_sub (fun _ h => List.mem_cons_of_mem _ (List.mem_append_left _ (List.mem_append_left _ (List.mem_append_right _ h)))) (by decide +kernel))) (goodIn_sub (fun _ h => List.mem_cons_of_mem _ (List.mem_append_left _ (List.mem_append_right _ h))) (by decide +kernel))) (goodIn_sub (fun _ h => List.mem_cons_of_mem _ (List.mem_append_left _ (List.mem_append_left _ (List.mem_append_left _ (List.mem_append_right _ h))))) (by decide +kernel))) (goodIn_sub (fun _ h => List.mem_cons_of_mem _ (List.mem_append_right _ h)) (by decide +kernel))
set_option maxRecDepth 20000 in
theorem gL_chart_X9_chart : GoodIn wsL_chart (wsV RL 142 RX9 yX9_chart wsX9_chart) := goodIn_app (goodIn_of _ (by decide +kernel)) ggL_chart_X9_chart
theorem dL_chart_0 : decode cL_chart 0 = .ok (.aload 4, 2) := by decide +kernel
theorem dL_chart_2 : decode cL_chart 2 = .ok (.iconst 0, 1) := by decide +kernel
theorem dL_chart_3 : decode cL_chart 3 = .ok (.aload_n 0, 1) := by decide +kernel
theorem dL_chart_4 : decode cL_chart 4 = .ok (.iload_n 1, 1) := by decide +kernel
theorem dL_chart_5 : decode cL_chart 5 = .ok (.iload_n 2, 1) := by decide +kernel
theorem dL_chart_6 : decode cL_chart 6 = .ok (.iload_n 3, 1) := by decide +kernel
theorem dL_chart_7 : decode cL_chart 7 = .ok (.invokevirtual 142, 3) := by decide +kernel
theorem dL_chart_10 : decode cL_chart 10 = .ok (.i2l, 1) := by decide +kernel
theorem dL_chart_11 : decode cL_chart 11 = .ok (.lastore, 1) := by decide +kernel
theorem dL_chart_12 : decode cL_chart 12 = .ok (.goto 11, 3) := by decide +kernel
theorem dL_chart_15 : decode cL_chart 15 = .ok (.astore 5, 2) := by decide +kernel
theorem dL_chart_17 : decode cL_chart 17 = .ok (.iconst 1, 1) := by decide +kernel
theorem dL_chart_18 : decode cL_chart 18 = .ok (.ireturn, 1) := by decide +kernel
theorem dL_chart_19 : decode cL_chart 19 = .ok (.astore 5, 2) := by decide +kernel
theorem dL_chart_21 : decode cL_chart 21 = .ok (.iconst 2, 1) := by decide +kernel
theorem dL_chart_22 : decode cL_chart 22 = .ok (.ireturn, 1) := by decide +kernel
theorem dL_chart_23 : decode cL_chart 23 = .ok (.iconst 0, 1) := by decide +kernel
theorem dL_chart_24 : decode cL_chart 24 = .ok (.ireturn, 1) := by decide +kernel
set_option maxRecDepth 20000 in
theorem ggL_total_X9_total : GoodIn wsL_total wsX9_total := goodIn_ca (goodIn_r _ [6, 7, 8, 9, 10, 11, 5, 12, 13, 14, 15, 16, 17, 18, 19, 20, 21, 22, 23, 24, 25, 26, 27, 28, 29, 30, 31, 32, 33, 34, 35, 36, 37, 38, 39, 40, 41, 42, 43, 44, 45, 46, 47, 48, 49, 50] (by decide +kernel) (by decide +kernel)) (goodIn_sub (fun _ h => List.mem_cons_of_mem _ (List.mem_append_right _ h)) (by decide +kernel))
set_option maxRecDepth 20000 in
theorem gL_total_X9_total : GoodIn wsL_total (wsV RL 145 RX9 yX9_total wsX9_total) := goodIn_app (goodIn_of _ (by decide +kernel)) ggL_total_X9_total
theorem dL_total_0 : decode cL_total 0 = .ok (.aload_n 2, 1) := by decide +kernel
theorem dL_total_1 : decode cL_total 1 = .ok (.iconst 0, 1) := by decide +kernel
theorem dL_total_2 : decode cL_total 2 = .ok (.aload_n 0, 1) := by decide +kernel
theorem dL_total_3 : decode cL_total 3 = .ok (.iload_n 1, 1) := by decide +kernel
theorem dL_total_4 : decode cL_total 4 = .ok (.invokevirtual 145, 3) := by decide +kernel
theorem dL_total_7 : decode cL_total 7 = .ok (.i2l, 1) := by decide +kernel
theorem dL_total_8 : decode cL_total 8 = .ok (.lastore, 1) := by decide +kernel
theorem dL_total_9 : decode cL_total 9 = .ok (.goto 6, 3) := by decide +kernel
theorem dL_total_12 : decode cL_total 12 = .ok (.astore_n 3, 1) := by decide +kernel
theorem dL_total_13 : decode cL_total 13 = .ok (.iconst 1, 1) := by decide +kernel
theorem dL_total_14 : decode cL_total 14 = .ok (.ireturn, 1) := by decide +kernel
theorem dL_total_15 : decode cL_total 15 = .ok (.iconst 0, 1) := by decide +kernel
theorem dL_total_16 : decode cL_total 16 = .ok (.ireturn, 1) := by decide +kernel
set_option maxRecDepth 20000 in
theorem ggL_grade_X9_grade : GoodIn wsL_grade wsX9_grade := goodIn_ca (goodIn_ca (goodIn_r _ [6, 7, 8, 9, 5, 10, 11, 12, 13, 14, 15, 16, 17, 18, 19, 20, 21, 22, 23, 24, 25, 26, 27, 28, 29, 30, 31, 32, 33, 34, 35, 36, 37, 38, 39, 40, 41, 42, 43, 44, 45, 46, 47, 48, 49, 50, 51, 52, 53, 54, 55, 56, 57, 58, 59, 60, 61, 62, 63, 64, 65, 66, 67, 68, 69, 70, 71, 72, 73] (by decide +kernel) (by decide +kernel)) (goodIn_sub (fun _ h => List.mem_cons_of_mem _ (List.mem_append_right _ h)) (by decide +kernel))) (goodIn_sub (fun _ h => List.mem_cons_of_mem _ (List.mem_append_left _ (List.mem_append_right _ h))) (by decide +kernel))
set_option maxRecDepth 20000 in
theorem gL_grade_X9_grade : GoodIn wsL_grade (wsV RL 148 RX9 yX9_grade wsX9_grade) := goodIn_app (goodIn_of _ (by decide +kernel)) ggL_grade_X9_grade
theorem dL_grade_0 : decode cL_grade 0 = .ok (.aload_n 2, 1) := by decide +kernel
theorem dL_grade_1 : decode cL_grade 1 = .ok (.iconst 0, 1) := by decide +kernel
theorem dL_grade_2 : decode cL_grade 2 = .ok (.aload_n 0, 1) := by decide +kernel
theorem dL_grade_3 : decode cL_grade 3 = .ok (.iload_n 1, 1) := by decide +kernel
theorem dL_grade_4 : decode cL_grade 4 = .ok (.invokevirtual 148, 3) := by decide +kernel
theorem dL_grade_7 : decode cL_grade 7 = .ok (.i2l, 1) := by decide +kernel
theorem dL_grade_8 : decode cL_grade 8 = .ok (.lastore, 1) := by decide +kernel
theorem dL_grade_9 : decode cL_grade 9 = .ok (.goto 6, 3) := by decide +kernel
theorem dL_grade_12 : decode cL_grade 12 = .ok (.astore_n 3, 1) := by decide +kernel
theorem dL_grade_13 : decode cL_grade 13 = .ok (.iconst 1, 1) := by decide +kernel
theorem dL_grade_14 : decode cL_grade 14 = .ok (.ireturn, 1) := by decide +kernel
theorem dL_grade_15 : decode cL_grade 15 = .ok (.iconst 0, 1) := by decide +kernel
theorem dL_grade_16 : decode cL_grade 16 = .ok (.ireturn, 1) := by decide +kernel
set_option maxRecDepth 20000 in
theorem ggL_part_X9_part : GoodIn wsL_part wsX9_part := goodIn_ca (goodIn_ca (goodIn_ca (goodIn_ca (goodIn_r _ [7, 8, 9, 10, 11, 12, 13, 14, 6, 15, 16, 17, 18, 19, 20, 21, 22, 23, 24, 25, 26, 27, 28, 29, 30, 31, 32, 33, 34, 35, 36, 37, 38, 39, 40, 41, 42, 43, 44, 45, 46, 47, 48, 49, 50, 51, 52, 53, 54, 55, 56, 57, 58, 59, 60, 61, 62, 63, 64, 65, 66, 67, 68, 69, 70] (by decide +kernel) (by decide +kernel)) (goodIn_sub (fun _ h => List.mem_cons_of_mem _ (List.mem_append_left _ (List.mem_append_left _ (List.mem_append_right _ h)))) (by decide +kernel))) (goodIn_sub (fun _ h => List.mem_cons_of_mem _ (List.mem_append_left _ (List.mem_append_right _ h))) (by decide +kernel))) (goodIn_sub (fun _ h => List.mem_cons_of_mem _ (List.mem_append_right _ h)) (by decide +kernel))) (goodIn_sub (fun _ h => List.mem_cons_of_mem _ (List.mem_append_left _ (List.mem_append_left _ (List.mem_append_left _ (List.mem_append_right _ h))))) (by decide +kernel))
set_option maxRecDepth 20000 in
theorem gL_part_X9_part : GoodIn wsL_part (wsV RL 151 RX9 yX9_part wsX9_part) := goodIn_app (goodIn_of _ (by decide +kernel)) ggL_part_X9_part
theorem dL_part_0 : decode cL_part 0 = .ok (.aload_n 3, 1) := by decide +kernel
theorem dL_part_1 : decode cL_part 1 = .ok (.iconst 0, 1) := by decide +kernel
theorem dL_part_2 : decode cL_part 2 = .ok (.aload_n 0, 1) := by decide +kernel
theorem dL_part_3 : decode cL_part 3 = .ok (.iload_n 1, 1) := by decide +kernel
theorem dL_part_4 : decode cL_part 4 = .ok (.iload_n 2, 1) := by decide +kernel
theorem dL_part_5 : decode cL_part 5 = .ok (.invokevirtual 151, 3) := by decide +kernel
theorem dL_part_8 : decode cL_part 8 = .ok (.i2l, 1) := by decide +kernel
theorem dL_part_9 : decode cL_part 9 = .ok (.lastore, 1) := by decide +kernel
theorem dL_part_10 : decode cL_part 10 = .ok (.goto 11, 3) := by decide +kernel
theorem dL_part_13 : decode cL_part 13 = .ok (.astore 4, 2) := by decide +kernel
theorem dL_part_15 : decode cL_part 15 = .ok (.iconst 1, 1) := by decide +kernel
theorem dL_part_16 : decode cL_part 16 = .ok (.ireturn, 1) := by decide +kernel
theorem dL_part_17 : decode cL_part 17 = .ok (.astore 4, 2) := by decide +kernel
theorem dL_part_19 : decode cL_part 19 = .ok (.iconst 2, 1) := by decide +kernel
theorem dL_part_20 : decode cL_part 20 = .ok (.ireturn, 1) := by decide +kernel
theorem dL_part_21 : decode cL_part 21 = .ok (.iconst 0, 1) := by decide +kernel
theorem dL_part_22 : decode cL_part 22 = .ok (.ireturn, 1) := by decide +kernel
set_option maxRecDepth 20000 in
theorem ggL_cause_X9_cause : GoodIn wsL_cause wsX9_cause := goodIn_ca (goodIn_ca (goodIn_ca (goodIn_r _ [6, 7, 8, 9, 10, 11, 12, 13, 14, 15, 16, 17, 18, 5, 19, 20, 21, 22, 23, 24, 25, 26, 27, 28, 29, 30, 31, 32, 33, 34, 35, 36, 37, 38, 39, 40, 41, 42, 43, 44, 45, 46, 47, 48, 49, 50, 51, 52, 53, 54, 55, 56, 57, 58, 59, 60, 61, 62, 63, 64, 65, 66, 67, 68, 69, 70, 71, 72, 73, 74] (by decide +kernel) (by decide +kernel)) (goodIn_sub (fun _ h => List.mem_cons_of_mem _ (List.mem_append_left _ (List.mem_append_right _ h))) (by decide +kernel))) (goodIn_sub (fun _ h => List.mem_cons_of_mem _ (List.mem_append_right _ h)) (by decide +kernel))) (goodIn_sub (fun _ h => List.mem_cons_of_mem _ (List.mem_append_left _ (List.mem_append_left _ (List.mem_append_right _ h)))) (by decide +kernel))
set_option maxRecDepth 20000 in
theorem gL_cause_X9_cause : GoodIn wsL_cause (wsV RL 154 RX9 yX9_cause wsX9_cause) := goodIn_app (goodIn_of _ (by decide +kernel)) ggL_cause_X9_cause
theorem dL_cause_0 : decode cL_cause 0 = .ok (.aload_n 2, 1) := by decide +kernel
theorem dL_cause_1 : decode cL_cause 1 = .ok (.iconst 0, 1) := by decide +kernel
theorem dL_cause_2 : decode cL_cause 2 = .ok (.aload_n 0, 1) := by decide +kernel
theorem dL_cause_3 : decode cL_cause 3 = .ok (.iload_n 1, 1) := by decide +kernel
theorem dL_cause_4 : decode cL_cause 4 = .ok (.invokevirtual 154, 3) := by decide +kernel
theorem dL_cause_7 : decode cL_cause 7 = .ok (.i2l, 1) := by decide +kernel
theorem dL_cause_8 : decode cL_cause 8 = .ok (.lastore, 1) := by decide +kernel
theorem dL_cause_9 : decode cL_cause 9 = .ok (.goto 6, 3) := by decide +kernel
theorem dL_cause_12 : decode cL_cause 12 = .ok (.astore_n 3, 1) := by decide +kernel
theorem dL_cause_13 : decode cL_cause 13 = .ok (.iconst 1, 1) := by decide +kernel
theorem dL_cause_14 : decode cL_cause 14 = .ok (.ireturn, 1) := by decide +kernel
theorem dL_cause_15 : decode cL_cause 15 = .ok (.iconst 0, 1) := by decide +kernel
theorem dL_cause_16 : decode cL_cause 16 = .ok (.ireturn, 1) := by decide +kernel
set_option maxRecDepth 20000 in
theorem ggL_peak_X9_peak : GoodIn wsL_peak wsX9_peak := goodIn_ca (goodIn_ca (goodIn_ca (goodIn_ca (goodIn_ca (goodIn_r _ [8, 9, 10, 11, 12, 13, 14, 7, 15, 16, 17, 18, 19, 20, 21, 22, 23, 24, 25, 26, 27, 28, 29, 30, 31, 32, 33, 34, 35, 36, 37, 38, 39, 40, 41, 42, 43, 44, 45, 46, 47, 48, 49, 50, 51, 52, 53, 54, 55, 56, 57, 58, 59, 60, 61, 62, 63, 64, 65, 66, 67, 68, 69, 70, 71, 72, 73, 74, 75, 76, 77, 78, 79, 80, 81, 82, 83, 84, 85, 86, 87, 88, 89, 90, 91, 92, 93, 94, 95, 96, 97, 98, 99, 100, 101, 102, 103, 104, 105, 106, 107, 108, 109, 110, 111, 112, 113] (by decide +kernel) (by decide +kernel)) (goodIn_sub (fun _ h => List.mem_cons_of_mem _ (List.mem_append_left _ (List.mem_append_left _ (List.mem_append_left _ (List.mem_append_right _ h))))) (by decide +kernel))) (goodIn_sub (fun _ h => List.mem_cons_of_mem _ (List.mem_append_left _ (List.mem_append_left _ (List.mem_append_right _ h)))) (by decide +kernel))) (goodIn_sub (fun _ h => List.mem_cons_of_mem _ (List.mem_append_left _ (List.mem_append_right _ h))) (by decide +kernel))) (goodIn_sub (fun _ h => List.mem_cons_of_mem _ (List.mem_append_right _ h)) (by decide +kernel))) (goodIn_sub (fun _ h => List.mem_cons_of_mem _ (List.mem_append_left _ (List.mem_append_left _ (List.mem_append_left _ (List.mem_append_left _ (List.mem_append_right _ h)))))) (by decide +kernel))
set_option maxRecDepth 20000 in
theorem gL_peak_X9_peak : GoodIn wsL_peak (wsV RL 157 RX9 yX9_peak wsX9_peak) := goodIn_app (goodIn_of _ (by decide +kernel)) ggL_peak_X9_peak
theorem dL_peak_0 : decode cL_peak 0 = .ok (.aload 4, 2) := by decide +kernel
theorem dL_peak_2 : decode cL_peak 2 = .ok (.iconst 0, 1) := by decide +kernel
theorem dL_peak_3 : decode cL_peak 3 = .ok (.aload_n 0, 1) := by decide +kernel
theorem dL_peak_4 : decode cL_peak 4 = .ok (.iload_n 1, 1) := by decide +kernel
theorem dL_peak_5 : decode cL_peak 5 = .ok (.iload_n 2, 1) := by decide +kernel
theorem dL_peak_6 : decode cL_peak 6 = .ok (.iload_n 3, 1) := by decide +kernel
theorem dL_peak_7 : decode cL_peak 7 = .ok (.invokevirtual 157, 3) := by decide +kernel
theorem dL_peak_10 : decode cL_peak 10 = .ok (.i2l, 1) := by decide +kernel
theorem dL_peak_11 : decode cL_peak 11 = .ok (.lastore, 1) := by decide +kernel
theorem dL_peak_12 : decode cL_peak 12 = .ok (.goto 15, 3) := by decide +kernel
theorem dL_peak_15 : decode cL_peak 15 = .ok (.astore 5, 2) := by decide +kernel
theorem dL_peak_17 : decode cL_peak 17 = .ok (.iconst 1, 1) := by decide +kernel
theorem dL_peak_18 : decode cL_peak 18 = .ok (.ireturn, 1) := by decide +kernel
theorem dL_peak_19 : decode cL_peak 19 = .ok (.astore 5, 2) := by decide +kernel
theorem dL_peak_21 : decode cL_peak 21 = .ok (.iconst 2, 1) := by decide +kernel
theorem dL_peak_22 : decode cL_peak 22 = .ok (.ireturn, 1) := by decide +kernel
theorem dL_peak_23 : decode cL_peak 23 = .ok (.astore 5, 2) := by decide +kernel
theorem dL_peak_25 : decode cL_peak 25 = .ok (.iconst 3, 1) := by decide +kernel
theorem dL_peak_26 : decode cL_peak 26 = .ok (.ireturn, 1) := by decide +kernel
theorem dL_peak_27 : decode cL_peak 27 = .ok (.iconst 0, 1) := by decide +kernel
theorem dL_peak_28 : decode cL_peak 28 = .ok (.ireturn, 1) := by decide +kernel
set_option maxRecDepth 20000 in
theorem ggL_quietest_X9_quietest : GoodIn wsL_quietest wsX9_quietest := goodIn_ca (goodIn_ca (goodIn_ca (goodIn_ca (goodIn_r _ [7, 8, 9, 10, 11, 12, 6, 13, 14, 15, 16, 17, 18, 19, 20, 21, 22, 23, 24, 25, 26, 27, 28, 29, 30, 31, 32, 33, 34, 35, 36, 37, 38, 39, 40, 41, 42, 43, 44, 45, 46, 47, 48, 49, 50, 51, 52, 53, 54, 55, 56, 57, 58, 59, 60, 61, 62, 63, 64, 65, 66, 67, 68, 69, 70, 71, 72, 73, 74, 75, 76, 77, 78, 79, 80, 81, 82, 83, 84, 85, 86, 87, 88, 89, 90, 91, 92, 93, 94, 95, 96, 97, 98, 99, 100, 101, 102, 103, 104, 105, 106, 107, 108, 109, 110] (by decide +kernel) (by decide +kernel)) (goodIn_sub (fun _ h => List.mem_cons_of_mem _ (List.mem_append_left _ (List.mem_append_left _ (List.mem_append_right _ h)))) (by decide +kernel))) (goodIn_sub (fun _ h => List.mem_cons_of_mem _ (List.mem_append_left _ (List.mem_append_right _ h))) (by decide +kernel))) (goodIn_sub (fun _ h => List.mem_cons_of_mem _ (List.mem_append_right _ h)) (by decide +kernel))) (goodIn_sub (fun _ h => List.mem_cons_of_mem _ (List.mem_append_left _ (List.mem_append_left _ (List.mem_append_left _ (List.mem_append_right _ h))))) (by decide +kernel))
set_option maxRecDepth 20000 in
theorem gL_quietest_X9_quietest : GoodIn wsL_quietest (wsV RL 160 RX9 yX9_quietest wsX9_quietest) := goodIn_app (goodIn_of _ (by decide +kernel)) ggL_quietest_X9_quietest
theorem dL_quietest_0 : decode cL_quietest 0 = .ok (.aload_n 3, 1) := by decide +kernel
theorem dL_quietest_1 : decode cL_quietest 1 = .ok (.iconst 0, 1) := by decide +kernel
theorem dL_quietest_2 : decode cL_quietest 2 = .ok (.aload_n 0, 1) := by decide +kernel
theorem dL_quietest_3 : decode cL_quietest 3 = .ok (.iload_n 1, 1) := by decide +kernel
theorem dL_quietest_4 : decode cL_quietest 4 = .ok (.iload_n 2, 1) := by decide +kernel
theorem dL_quietest_5 : decode cL_quietest 5 = .ok (.invokevirtual 160, 3) := by decide +kernel
theorem dL_quietest_8 : decode cL_quietest 8 = .ok (.i2l, 1) := by decide +kernel
theorem dL_quietest_9 : decode cL_quietest 9 = .ok (.lastore, 1) := by decide +kernel
theorem dL_quietest_10 : decode cL_quietest 10 = .ok (.goto 11, 3) := by decide +kernel
theorem dL_quietest_13 : decode cL_quietest 13 = .ok (.astore 4, 2) := by decide +kernel
theorem dL_quietest_15 : decode cL_quietest 15 = .ok (.iconst 1, 1) := by decide +kernel
theorem dL_quietest_16 : decode cL_quietest 16 = .ok (.ireturn, 1) := by decide +kernel
theorem dL_quietest_17 : decode cL_quietest 17 = .ok (.astore 4, 2) := by decide +kernel
theorem dL_quietest_19 : decode cL_quietest 19 = .ok (.iconst 2, 1) := by decide +kernel
theorem dL_quietest_20 : decode cL_quietest 20 = .ok (.ireturn, 1) := by decide +kernel
theorem dL_quietest_21 : decode cL_quietest 21 = .ok (.iconst 0, 1) := by decide +kernel
theorem dL_quietest_22 : decode cL_quietest 22 = .ok (.ireturn, 1) := by decide +kernel
set_option maxRecDepth 20000 in
theorem ggL_note_X9_note : GoodIn wsL_note wsX9_note := goodIn_ca (goodIn_ca (goodIn_ca (goodIn_ca (goodIn_ca (goodIn_r _ [8, 9, 10, 11, 12, 13, 14, 15, 16, 7, 17, 18, 19, 20, 21, 22, 23, 24, 25, 26, 27, 28, 29, 30, 31, 32, 33, 34, 35, 36, 37, 38, 39, 40, 41, 42, 43, 44, 45, 46, 47, 48, 49, 50, 51, 52, 53, 54, 55, 56, 57, 58, 59, 60, 61, 62, 63, 64, 65, 66, 67, 68, 69, 70, 71, 72, 73, 74, 75, 76, 77, 78, 79, 80, 81, 82, 83, 84, 85, 86, 87, 88, 89, 90, 91] (by decide +kernel) (by decide +kernel)) (goodIn_sub (fun _ h => List.mem_cons_of_mem _ (List.mem_append_left _ (List.mem_append_left _ (List.mem_append_left _ (List.mem_append_right _ h))))) (by decide +kernel))) (goodIn_sub (fun _ h => List.mem_cons_of_mem _ (List.mem_append_left _ (List.mem_append_left _ (List.mem_append_right _ h)))) (by decide +kernel))) (goodIn_sub (fun _ h => List.mem_cons_of_mem _ (List.mem_append_left _ (List.mem_append_right _ h))) (by decide +kernel))) (goodIn_sub (fun _ h => List.mem_cons_of_mem _ (List.mem_append_right _ h)) (by decide +kernel))) (goodIn_sub (fun _ h => List.mem_cons_of_mem _ (List.mem_append_left _ (List.mem_append_left _ (List.mem_append_left _ (List.mem_append_left _ (List.mem_append_right _ h)))))) (by decide +kernel))
set_option maxRecDepth 20000 in
theorem gL_note_X9_note : GoodIn wsL_note (wsV RL 163 RX9 yX9_note wsX9_note) := goodIn_app (goodIn_of _ (by decide +kernel)) ggL_note_X9_note
theorem dL_note_0 : decode cL_note 0 = .ok (.aload 4, 2) := by decide +kernel
theorem dL_note_2 : decode cL_note 2 = .ok (.iconst 0, 1) := by decide +kernel
theorem dL_note_3 : decode cL_note 3 = .ok (.aload_n 0, 1) := by decide +kernel
theorem dL_note_4 : decode cL_note 4 = .ok (.iload_n 1, 1) := by decide +kernel
theorem dL_note_5 : decode cL_note 5 = .ok (.iload_n 2, 1) := by decide +kernel
theorem dL_note_6 : decode cL_note 6 = .ok (.iload_n 3, 1) := by decide +kernel
theorem dL_note_7 : decode cL_note 7 = .ok (.invokevirtual 163, 3) := by decide +kernel
theorem dL_note_10 : decode cL_note 10 = .ok (.i2l, 1) := by decide +kernel
theorem dL_note_11 : decode cL_note 11 = .ok (.lastore, 1) := by decide +kernel
theorem dL_note_12 : decode cL_note 12 = .ok (.goto 15, 3) := by decide +kernel
theorem dL_note_15 : decode cL_note 15 = .ok (.astore 5, 2) := by decide +kernel
theorem dL_note_17 : decode cL_note 17 = .ok (.iconst 1, 1) := by decide +kernel
theorem dL_note_18 : decode cL_note 18 = .ok (.ireturn, 1) := by decide +kernel
theorem dL_note_19 : decode cL_note 19 = .ok (.astore 5, 2) := by decide +kernel
theorem dL_note_21 : decode cL_note 21 = .ok (.iconst 2, 1) := by decide +kernel
theorem dL_note_22 : decode cL_note 22 = .ok (.ireturn, 1) := by decide +kernel
theorem dL_note_23 : decode cL_note 23 = .ok (.astore 5, 2) := by decide +kernel
theorem dL_note_25 : decode cL_note 25 = .ok (.iconst 3, 1) := by decide +kernel
theorem dL_note_26 : decode cL_note 26 = .ok (.ireturn, 1) := by decide +kernel
theorem dL_note_27 : decode cL_note 27 = .ok (.iconst 0, 1) := by decide +kernel
theorem dL_note_28 : decode cL_note 28 = .ok (.ireturn, 1) := by decide +kernel
set_option maxRecDepth 20000 in
theorem ggL_hunts_X9_hunts : GoodIn wsL_hunts wsX9_hunts := goodIn_ca (goodIn_ca (goodIn_ca (goodIn_r _ [7, 8, 9, 10, 11, 6, 12, 13, 14, 15, 16, 17, 18, 19, 20, 21, 22, 23, 24, 25, 26, 27, 28, 29, 30, 31, 32, 33, 34, 35, 36, 37, 38, 39, 40, 41, 42, 43, 44, 45, 46, 47, 48, 49, 50, 51, 52, 53, 54, 55, 56, 57, 58, 59, 60, 61, 62, 63, 64, 65, 66, 67, 68, 69] (by decide +kernel) (by decide +kernel)) (goodIn_sub (fun _ h => List.mem_cons_of_mem _ (List.mem_append_left _ (List.mem_append_left _ (List.mem_append_right _ h)))) (by decide +kernel))) (goodIn_sub (fun _ h => List.mem_cons_of_mem _ (List.mem_append_left _ (List.mem_append_right _ h))) (by decide +kernel))) (goodIn_sub (fun _ h => List.mem_cons_of_mem _ (List.mem_append_right _ h)) (by decide +kernel))
set_option maxRecDepth 20000 in
theorem gL_hunts_X9_hunts : GoodIn wsL_hunts (wsV RL 166 RX9 yX9_hunts wsX9_hunts) := goodIn_app (goodIn_of _ (by decide +kernel)) ggL_hunts_X9_hunts
theorem dL_hunts_0 : decode cL_hunts 0 = .ok (.aload_n 3, 1) := by decide +kernel
theorem dL_hunts_1 : decode cL_hunts 1 = .ok (.iconst 0, 1) := by decide +kernel
theorem dL_hunts_2 : decode cL_hunts 2 = .ok (.aload_n 0, 1) := by decide +kernel
theorem dL_hunts_3 : decode cL_hunts 3 = .ok (.iload_n 1, 1) := by decide +kernel
theorem dL_hunts_4 : decode cL_hunts 4 = .ok (.iload_n 2, 1) := by decide +kernel
theorem dL_hunts_5 : decode cL_hunts 5 = .ok (.invokevirtual 166, 3) := by decide +kernel
theorem dL_hunts_8 : decode cL_hunts 8 = .ok (.ifCond .eq 7, 3) := by decide +kernel
theorem dL_hunts_11 : decode cL_hunts 11 = .ok (.lconst 1, 1) := by decide +kernel
theorem dL_hunts_12 : decode cL_hunts 12 = .ok (.goto 4, 3) := by decide +kernel
theorem dL_hunts_15 : decode cL_hunts 15 = .ok (.lconst 0, 1) := by decide +kernel
theorem dL_hunts_16 : decode cL_hunts 16 = .ok (.lastore, 1) := by decide +kernel
theorem dL_hunts_17 : decode cL_hunts 17 = .ok (.goto 11, 3) := by decide +kernel
theorem dL_hunts_20 : decode cL_hunts 20 = .ok (.astore 4, 2) := by decide +kernel
theorem dL_hunts_22 : decode cL_hunts 22 = .ok (.iconst 1, 1) := by decide +kernel
theorem dL_hunts_23 : decode cL_hunts 23 = .ok (.ireturn, 1) := by decide +kernel
theorem dL_hunts_24 : decode cL_hunts 24 = .ok (.astore 4, 2) := by decide +kernel
theorem dL_hunts_26 : decode cL_hunts 26 = .ok (.iconst 2, 1) := by decide +kernel
theorem dL_hunts_27 : decode cL_hunts 27 = .ok (.ireturn, 1) := by decide +kernel
theorem dL_hunts_28 : decode cL_hunts 28 = .ok (.iconst 0, 1) := by decide +kernel
theorem dL_hunts_29 : decode cL_hunts 29 = .ok (.ireturn, 1) := by decide +kernel
set_option maxRecDepth 20000 in
theorem ggL_bears_X9_bears : GoodIn wsL_bears wsX9_bears := goodIn_ca (goodIn_ca (goodIn_r _ [6, 7, 8, 9, 5, 10, 11, 12, 13, 14, 15, 16, 17, 18, 19, 20, 21, 22, 23, 24, 25, 26, 27, 28, 29, 30, 31, 32, 33, 34, 35, 36, 37, 38, 39, 40, 41, 42, 43, 44, 45, 46, 47, 48, 49, 50, 51, 52, 53, 54, 55, 56, 57, 58, 59, 60, 61, 62, 63, 64, 65, 66, 67, 68, 69, 70, 71, 72, 73, 74] (by decide +kernel) (by decide +kernel)) (goodIn_sub (fun _ h => List.mem_cons_of_mem _ (List.mem_append_left _ (List.mem_append_right _ h))) (by decide +kernel))) (goodIn_sub (fun _ h => List.mem_cons_of_mem _ (List.mem_append_right _ h)) (by decide +kernel))
set_option maxRecDepth 20000 in
theorem gL_bears_X9_bears : GoodIn wsL_bears (wsV RL 169 RX9 yX9_bears wsX9_bears) := goodIn_app (goodIn_of _ (by decide +kernel)) ggL_bears_X9_bears
theorem dL_bears_0 : decode cL_bears 0 = .ok (.aload_n 2, 1) := by decide +kernel
theorem dL_bears_1 : decode cL_bears 1 = .ok (.iconst 0, 1) := by decide +kernel
theorem dL_bears_2 : decode cL_bears 2 = .ok (.aload_n 0, 1) := by decide +kernel
theorem dL_bears_3 : decode cL_bears 3 = .ok (.iload_n 1, 1) := by decide +kernel
theorem dL_bears_4 : decode cL_bears 4 = .ok (.invokevirtual 169, 3) := by decide +kernel
theorem dL_bears_7 : decode cL_bears 7 = .ok (.i2l, 1) := by decide +kernel
theorem dL_bears_8 : decode cL_bears 8 = .ok (.lastore, 1) := by decide +kernel
theorem dL_bears_9 : decode cL_bears 9 = .ok (.goto 6, 3) := by decide +kernel
theorem dL_bears_12 : decode cL_bears 12 = .ok (.astore_n 3, 1) := by decide +kernel
theorem dL_bears_13 : decode cL_bears 13 = .ok (.iconst 1, 1) := by decide +kernel
theorem dL_bears_14 : decode cL_bears 14 = .ok (.ireturn, 1) := by decide +kernel
theorem dL_bears_15 : decode cL_bears 15 = .ok (.iconst 0, 1) := by decide +kernel
theorem dL_bears_16 : decode cL_bears 16 = .ok (.ireturn, 1) := by decide +kernel
set_option maxRecDepth 20000 in
theorem ggL_life_X9_life : GoodIn wsL_life wsX9_life := goodIn_ca (goodIn_ca (goodIn_ca (goodIn_r _ [7, 8, 9, 10, 11, 6, 12, 13, 14, 15, 16, 17, 18, 19, 20, 21, 22, 23, 24, 25, 26, 27, 28, 29, 30, 31, 32, 33, 34, 35, 36, 37, 38, 39, 40, 41, 42, 43, 44, 45, 46, 47, 48, 49, 50, 51, 52, 53, 54, 55, 56, 57, 58, 59, 60, 61, 62, 63, 64, 65, 66, 67, 68, 69, 70, 71, 72, 73, 74, 75, 76, 77, 78, 79, 80, 81, 82, 83, 84, 85, 86] (by decide +kernel) (by decide +kernel)) (goodIn_sub (fun _ h => List.mem_cons_of_mem _ (List.mem_append_left _ (List.mem_append_left _ (List.mem_append_right _ h)))) (by decide +kernel))) (goodIn_sub (fun _ h => List.mem_cons_of_mem _ (List.mem_append_left _ (List.mem_append_right _ h))) (by decide +kernel))) (goodIn_sub (fun _ h => List.mem_cons_of_mem _ (List.mem_append_right _ h)) (by decide +kernel))
set_option maxRecDepth 20000 in
theorem gL_life_X9_life : GoodIn wsL_life (wsV RL 172 RX9 yX9_life wsX9_life) := goodIn_app (goodIn_of _ (by decide +kernel)) ggL_life_X9_life
theorem dL_life_0 : decode cL_life 0 = .ok (.aload_n 3, 1) := by decide +kernel
theorem dL_life_1 : decode cL_life 1 = .ok (.iconst 0, 1) := by decide +kernel
theorem dL_life_2 : decode cL_life 2 = .ok (.aload_n 0, 1) := by decide +kernel
theorem dL_life_3 : decode cL_life 3 = .ok (.iload_n 1, 1) := by decide +kernel
theorem dL_life_4 : decode cL_life 4 = .ok (.iload_n 2, 1) := by decide +kernel
theorem dL_life_5 : decode cL_life 5 = .ok (.invokevirtual 172, 3) := by decide +kernel
theorem dL_life_8 : decode cL_life 8 = .ok (.lastore, 1) := by decide +kernel
theorem dL_life_9 : decode cL_life 9 = .ok (.goto 11, 3) := by decide +kernel
theorem dL_life_12 : decode cL_life 12 = .ok (.astore 4, 2) := by decide +kernel
theorem dL_life_14 : decode cL_life 14 = .ok (.iconst 1, 1) := by decide +kernel
theorem dL_life_15 : decode cL_life 15 = .ok (.ireturn, 1) := by decide +kernel
theorem dL_life_16 : decode cL_life 16 = .ok (.astore 4, 2) := by decide +kernel
theorem dL_life_18 : decode cL_life 18 = .ok (.iconst 2, 1) := by decide +kernel
theorem dL_life_19 : decode cL_life 19 = .ok (.ireturn, 1) := by decide +kernel
theorem dL_life_20 : decode cL_life 20 = .ok (.iconst 0, 1) := by decide +kernel
theorem dL_life_21 : decode cL_life 21 = .ok (.ireturn, 1) := by decide +kernel
set_option maxRecDepth 20000 in
theorem ggL_run_X9_run : GoodIn wsL_run wsX9_run := goodIn_ca (goodIn_ca (goodIn_ca (goodIn_ca (goodIn_r _ [8, 9, 10, 11, 12, 13, 14, 7, 15, 16, 17, 18, 19, 20, 21, 22, 23, 24, 25, 26, 27, 28, 29, 30, 31, 32, 33, 34, 35, 36, 37, 38, 39, 40, 41, 42, 43, 44, 45, 46, 47, 48, 49, 50, 51, 52, 53, 54, 55, 56, 57, 58, 59, 60, 61, 62, 63, 64, 65, 66, 67, 68, 69, 70, 71, 72, 73, 74, 75, 76, 77, 78, 79, 80, 81, 82, 83, 84, 85, 86, 87, 88, 89, 90, 91, 92, 93, 94, 95, 96, 97, 98, 99, 100, 101, 102, 103, 104, 105, 106, 107, 108, 109, 110, 111, 112, 113, 114, 115, 116, 117, 118, 119, 120, 121, 122, 123, 124] (by decide +kernel) (by decide +kernel)) (goodIn_sub (fun _ h => List.mem_cons_of_mem _ (List.mem_append_left _ (List.mem_append_left _ (List.mem_append_left _ (List.mem_append_right _ h))))) (by decide +kernel))) (goodIn_sub (fun _ h => List.mem_cons_of_mem _ (List.mem_append_left _ (List.mem_append_left _ (List.mem_append_right _ h)))) (by decide +kernel))) (goodIn_sub (fun _ h => List.mem_cons_of_mem _ (List.mem_append_left _ (List.mem_append_right _ h))) (by decide +kernel))) (goodIn_sub (fun _ h => List.mem_cons_of_mem _ (List.mem_append_right _ h)) (by decide +kernel))
set_option maxRecDepth 20000 in
theorem gL_run_X9_run : GoodIn wsL_run (wsV RL 175 RX9 yX9_run wsX9_run) := goodIn_app (goodIn_of _ (by decide +kernel)) ggL_run_X9_run
theorem dL_run_0 : decode cL_run 0 = .ok (.aload 5, 2) := by decide +kernel
theorem dL_run_2 : decode cL_run 2 = .ok (.iconst 0, 1) := by decide +kernel
theorem dL_run_3 : decode cL_run 3 = .ok (.aload_n 0, 1) := by decide +kernel
theorem dL_run_4 : decode cL_run 4 = .ok (.iload_n 1, 1) := by decide +kernel
theorem dL_run_5 : decode cL_run 5 = .ok (.iload_n 2, 1) := by decide +kernel
theorem dL_run_6 : decode cL_run 6 = .ok (.iload_n 3, 1) := by decide +kernel
theorem dL_run_7 : decode cL_run 7 = .ok (.iload 4, 2) := by decide +kernel
theorem dL_run_9 : decode cL_run 9 = .ok (.invokevirtual 175, 3) := by decide +kernel
theorem dL_run_12 : decode cL_run 12 = .ok (.i2l, 1) := by decide +kernel
theorem dL_run_13 : decode cL_run 13 = .ok (.lastore, 1) := by decide +kernel
theorem dL_run_14 : decode cL_run 14 = .ok (.goto 15, 3) := by decide +kernel
theorem dL_run_17 : decode cL_run 17 = .ok (.astore 6, 2) := by decide +kernel
theorem dL_run_19 : decode cL_run 19 = .ok (.iconst 1, 1) := by decide +kernel
theorem dL_run_20 : decode cL_run 20 = .ok (.ireturn, 1) := by decide +kernel
theorem dL_run_21 : decode cL_run 21 = .ok (.astore 6, 2) := by decide +kernel
theorem dL_run_23 : decode cL_run 23 = .ok (.iconst 2, 1) := by decide +kernel
theorem dL_run_24 : decode cL_run 24 = .ok (.ireturn, 1) := by decide +kernel
theorem dL_run_25 : decode cL_run 25 = .ok (.astore 6, 2) := by decide +kernel
theorem dL_run_27 : decode cL_run 27 = .ok (.iconst 3, 1) := by decide +kernel
theorem dL_run_28 : decode cL_run 28 = .ok (.ireturn, 1) := by decide +kernel
theorem dL_run_29 : decode cL_run 29 = .ok (.iconst 0, 1) := by decide +kernel
theorem dL_run_30 : decode cL_run 30 = .ok (.ireturn, 1) := by decide +kernel
set_option maxRecDepth 20000 in
theorem ggL_damage_X9_damage : GoodIn wsL_damage wsX9_damage := goodIn_ca (goodIn_r _ [6, 7, 8, 9, 10, 5, 11, 12, 13, 14, 15, 16, 17, 18, 19, 20, 21, 22, 23, 24, 25, 26, 27, 28, 29, 30, 31, 32, 33, 34, 35, 36, 37, 38, 39, 40, 41, 42, 43, 44, 45, 46] (by decide +kernel) (by decide +kernel)) (goodIn_sub (fun _ h => List.mem_cons_of_mem _ (List.mem_append_right _ h)) (by decide +kernel))
set_option maxRecDepth 20000 in
theorem gL_damage_X9_damage : GoodIn wsL_damage (wsV RL 178 RX9 yX9_damage wsX9_damage) := goodIn_app (goodIn_of _ (by decide +kernel)) ggL_damage_X9_damage
theorem dL_damage_0 : decode cL_damage 0 = .ok (.aload_n 2, 1) := by decide +kernel
theorem dL_damage_1 : decode cL_damage 1 = .ok (.iconst 0, 1) := by decide +kernel
theorem dL_damage_2 : decode cL_damage 2 = .ok (.aload_n 0, 1) := by decide +kernel
theorem dL_damage_3 : decode cL_damage 3 = .ok (.iload_n 1, 1) := by decide +kernel
theorem dL_damage_4 : decode cL_damage 4 = .ok (.invokevirtual 178, 3) := by decide +kernel
theorem dL_damage_7 : decode cL_damage 7 = .ok (.lastore, 1) := by decide +kernel
theorem dL_damage_8 : decode cL_damage 8 = .ok (.goto 6, 3) := by decide +kernel
theorem dL_damage_11 : decode cL_damage 11 = .ok (.astore_n 3, 1) := by decide +kernel
theorem dL_damage_12 : decode cL_damage 12 = .ok (.iconst 1, 1) := by decide +kernel
theorem dL_damage_13 : decode cL_damage 13 = .ok (.ireturn, 1) := by decide +kernel
theorem dL_damage_14 : decode cL_damage 14 = .ok (.iconst 0, 1) := by decide +kernel
theorem dL_damage_15 : decode cL_damage 15 = .ok (.ireturn, 1) := by decide +kernel
set_option maxRecDepth 20000 in
theorem ggL_match_X9_match : GoodIn wsL_match wsX9_match := goodIn_ca (goodIn_ca (goodIn_ca (goodIn_ca (goodIn_r _ [7, 8, 9, 10, 11, 12, 13, 14, 15, 16, 17, 18, 6, 19, 20, 21, 22, 23, 24, 25, 26, 27, 28, 29, 30, 31, 32, 33, 34, 35, 36, 37, 38, 39, 40, 41, 42, 43, 44, 45, 46, 47, 48, 49, 50, 51, 52, 53, 54, 55, 56, 57, 58, 59, 60, 61, 62, 63, 64, 65, 66, 67, 68, 69, 70, 71, 72, 73, 74, 75, 76, 77, 78, 79, 80, 81, 82, 83, 84, 85, 86, 87, 88, 89, 90, 91, 92, 93, 94, 95, 96, 97, 98, 99, 100, 101, 102, 103, 104, 105, 106, 107, 108, 109, 110, 111, 112, 113, 114, 115, 116, 117, 118, 119, 120, 121, 122, 123, 124, 125, 126, 127, 128, 129, 130, 131, 132, 133, 134, 135, 136, 137, 138, 139, 140, 141, 142, 143, 144, 145, 146, 147, 148, 149, 150, 151, 152, 153, 154, 155, 156, 157, 158, 159, 160, 161, 162, 163, 164, 165, 166, 167, 168, 169, 170, 171, 172, 173] (by decide +kernel) (by decide +kernel)) (goodIn_sub (fun _ h => List.mem_cons_of_mem _ (List.mem_append_left _ (List.mem_append_left _ (List.mem_append_right _ h)))) (by decide +kernel))) (goodIn_sub (fun _ h => List.mem_cons_of_mem _ (List.mem_append_left _ (List.mem_append_right _ h))) (by decide +kernel))) (goodIn_sub (fun _ h => List.mem_cons_of_mem _ (List.mem_append_left _ (List.mem_append_left _ (List.mem_append_left _ (List.mem_append_right _ h))))) (by decide +kernel))) (goodIn_sub (fun _ h => List.mem_cons_of_mem _ (List.mem_append_right _ h)) (by decide +kernel))
set_option maxRecDepth 20000 in
theorem gL_match_X9_match : GoodIn wsL_match (wsV RL 182 RX9 yX9_match wsX9_match) := goodIn_app (goodIn_of _ (by decide +kernel)) ggL_match_X9_match
theorem dL_match_0 : decode cL_match 0 = .ok (.aload 4, 2) := by decide +kernel
theorem dL_match_2 : decode cL_match 2 = .ok (.iconst 0, 1) := by decide +kernel
theorem dL_match_3 : decode cL_match 3 = .ok (.aload_n 0, 1) := by decide +kernel
theorem dL_match_4 : decode cL_match 4 = .ok (.iload_n 1, 1) := by decide +kernel
theorem dL_match_5 : decode cL_match 5 = .ok (.iload_n 2, 1) := by decide +kernel
theorem dL_match_6 : decode cL_match 6 = .ok (.iload_n 3, 1) := by decide +kernel
theorem dL_match_7 : decode cL_match 7 = .ok (.invokevirtual 182, 3) := by decide +kernel
theorem dL_match_10 : decode cL_match 10 = .ok (.i2l, 1) := by decide +kernel
theorem dL_match_11 : decode cL_match 11 = .ok (.lastore, 1) := by decide +kernel
theorem dL_match_12 : decode cL_match 12 = .ok (.goto 11, 3) := by decide +kernel
theorem dL_match_15 : decode cL_match 15 = .ok (.astore 5, 2) := by decide +kernel
theorem dL_match_17 : decode cL_match 17 = .ok (.iconst 1, 1) := by decide +kernel
theorem dL_match_18 : decode cL_match 18 = .ok (.ireturn, 1) := by decide +kernel
theorem dL_match_19 : decode cL_match 19 = .ok (.astore 5, 2) := by decide +kernel
theorem dL_match_21 : decode cL_match 21 = .ok (.iconst 2, 1) := by decide +kernel
theorem dL_match_22 : decode cL_match 22 = .ok (.ireturn, 1) := by decide +kernel
theorem dL_match_23 : decode cL_match 23 = .ok (.iconst 0, 1) := by decide +kernel
theorem dL_match_24 : decode cL_match 24 = .ok (.ireturn, 1) := by decide +kernel
set_option maxRecDepth 20000 in
theorem ggL_mate_X9_mate : GoodIn wsL_mate wsX9_mate := goodIn_ca (goodIn_ca (goodIn_r _ [7, 8, 9, 10, 11, 12, 13, 6, 14, 15, 16, 17, 18, 19, 20, 21, 22, 23, 24, 25, 26, 27, 28, 29, 30, 31, 32, 33, 34, 35, 36, 37, 38, 39, 40, 41, 42, 43, 44, 45, 46, 47, 48, 49] (by decide +kernel) (by decide +kernel)) (goodIn_sub (fun _ h => List.mem_cons_of_mem _ (List.mem_append_left _ (List.mem_append_right _ h))) (by decide +kernel))) (goodIn_sub (fun _ h => List.mem_cons_of_mem _ (List.mem_append_right _ h)) (by decide +kernel))
set_option maxRecDepth 20000 in
theorem gL_mate_X9_mate : GoodIn wsL_mate (wsV RL 185 RX9 yX9_mate wsX9_mate) := goodIn_app (goodIn_of _ (by decide +kernel)) ggL_mate_X9_mate
theorem dL_mate_0 : decode cL_mate 0 = .ok (.aload_n 2, 1) := by decide +kernel
theorem dL_mate_1 : decode cL_mate 1 = .ok (.iconst 0, 1) := by decide +kernel
theorem dL_mate_2 : decode cL_mate 2 = .ok (.aload_n 0, 1) := by decide +kernel
theorem dL_mate_3 : decode cL_mate 3 = .ok (.iload_n 1, 1) := by decide +kernel
theorem dL_mate_4 : decode cL_mate 4 = .ok (.invokevirtual 185, 3) := by decide +kernel
theorem dL_mate_7 : decode cL_mate 7 = .ok (.i2l, 1) := by decide +kernel
theorem dL_mate_8 : decode cL_mate 8 = .ok (.lastore, 1) := by decide +kernel
theorem dL_mate_9 : decode cL_mate 9 = .ok (.goto 9, 3) := by decide +kernel
theorem dL_mate_12 : decode cL_mate 12 = .ok (.astore_n 3, 1) := by decide +kernel
theorem dL_mate_13 : decode cL_mate 13 = .ok (.iconst 1, 1) := by decide +kernel
theorem dL_mate_14 : decode cL_mate 14 = .ok (.ireturn, 1) := by decide +kernel
theorem dL_mate_15 : decode cL_mate 15 = .ok (.astore_n 3, 1) := by decide +kernel
theorem dL_mate_16 : decode cL_mate 16 = .ok (.iconst 2, 1) := by decide +kernel
theorem dL_mate_17 : decode cL_mate 17 = .ok (.ireturn, 1) := by decide +kernel
theorem dL_mate_18 : decode cL_mate 18 = .ok (.iconst 0, 1) := by decide +kernel
theorem dL_mate_19 : decode cL_mate 19 = .ok (.ireturn, 1) := by decide +kernel
set_option maxRecDepth 20000 in
theorem ggL_separate_X9_separate : GoodIn wsL_separate wsX9_separate := goodIn_ca (goodIn_ca (goodIn_r _ [7, 8, 9, 10, 11, 12, 6, 13, 14, 15, 16, 17, 18, 19, 20, 21, 22, 23, 24, 25, 26, 27, 28, 29, 30, 31, 32, 33, 34, 35, 36, 37, 38, 39, 40, 41, 42, 43, 44, 45, 46, 47, 48, 49, 50, 51, 52, 53] (by decide +kernel) (by decide +kernel)) (goodIn_sub (fun _ h => List.mem_cons_of_mem _ (List.mem_append_left _ (List.mem_append_right _ h))) (by decide +kernel))) (goodIn_sub (fun _ h => List.mem_cons_of_mem _ (List.mem_append_right _ h)) (by decide +kernel))
set_option maxRecDepth 20000 in
theorem gL_separate_X9_separate : GoodIn wsL_separate (wsV RL 188 RX9 yX9_separate wsX9_separate) := goodIn_app (goodIn_of _ (by decide +kernel)) ggL_separate_X9_separate
theorem dL_separate_0 : decode cL_separate 0 = .ok (.aload_n 2, 1) := by decide +kernel
theorem dL_separate_1 : decode cL_separate 1 = .ok (.iconst 0, 1) := by decide +kernel
theorem dL_separate_2 : decode cL_separate 2 = .ok (.aload_n 0, 1) := by decide +kernel
theorem dL_separate_3 : decode cL_separate 3 = .ok (.iload_n 1, 1) := by decide +kernel
theorem dL_separate_4 : decode cL_separate 4 = .ok (.invokevirtual 188, 3) := by decide +kernel
theorem dL_separate_7 : decode cL_separate 7 = .ok (.i2l, 1) := by decide +kernel
theorem dL_separate_8 : decode cL_separate 8 = .ok (.lastore, 1) := by decide +kernel
theorem dL_separate_9 : decode cL_separate 9 = .ok (.goto 9, 3) := by decide +kernel
theorem dL_separate_12 : decode cL_separate 12 = .ok (.astore_n 3, 1) := by decide +kernel
theorem dL_separate_13 : decode cL_separate 13 = .ok (.iconst 1, 1) := by decide +kernel
theorem dL_separate_14 : decode cL_separate 14 = .ok (.ireturn, 1) := by decide +kernel
theorem dL_separate_15 : decode cL_separate 15 = .ok (.astore_n 3, 1) := by decide +kernel
theorem dL_separate_16 : decode cL_separate 16 = .ok (.iconst 2, 1) := by decide +kernel
theorem dL_separate_17 : decode cL_separate 17 = .ok (.ireturn, 1) := by decide +kernel
theorem dL_separate_18 : decode cL_separate 18 = .ok (.iconst 0, 1) := by decide +kernel
theorem dL_separate_19 : decode cL_separate 19 = .ok (.ireturn, 1) := by decide +kernel
set_option maxRecDepth 20000 in
theorem ggL_machine_X9_machine : GoodIn wsL_machine wsX9_machine := goodIn_ca (goodIn_ca (goodIn_r _ [7, 8, 9, 10, 11, 12, 13, 14, 15, 16, 6, 17, 18, 19, 20, 21, 22, 23, 24, 25, 26, 27, 28, 29, 30, 31, 32, 33, 34, 35, 36, 37, 38, 39, 40, 41, 42, 43, 44, 45] (by decide +kernel) (by decide +kernel)) (goodIn_sub (fun _ h => List.mem_cons_of_mem _ (List.mem_append_left _ (List.mem_append_right _ h))) (by decide +kernel))) (goodIn_sub (fun _ h => List.mem_cons_of_mem _ (List.mem_append_right _ h)) (by decide +kernel))
set_option maxRecDepth 20000 in
theorem gL_machine_X9_machine : GoodIn wsL_machine (wsV RL 191 RX9 yX9_machine wsX9_machine) := goodIn_app (goodIn_of _ (by decide +kernel)) ggL_machine_X9_machine
theorem dL_machine_0 : decode cL_machine 0 = .ok (.aload_n 3, 1) := by decide +kernel
theorem dL_machine_1 : decode cL_machine 1 = .ok (.iconst 0, 1) := by decide +kernel
theorem dL_machine_2 : decode cL_machine 2 = .ok (.aload_n 0, 1) := by decide +kernel
theorem dL_machine_3 : decode cL_machine 3 = .ok (.iload_n 1, 1) := by decide +kernel
theorem dL_machine_4 : decode cL_machine 4 = .ok (.iload_n 2, 1) := by decide +kernel
theorem dL_machine_5 : decode cL_machine 5 = .ok (.invokevirtual 191, 3) := by decide +kernel
theorem dL_machine_8 : decode cL_machine 8 = .ok (.i2l, 1) := by decide +kernel
theorem dL_machine_9 : decode cL_machine 9 = .ok (.lastore, 1) := by decide +kernel
theorem dL_machine_10 : decode cL_machine 10 = .ok (.goto 11, 3) := by decide +kernel
theorem dL_machine_13 : decode cL_machine 13 = .ok (.astore 4, 2) := by decide +kernel
theorem dL_machine_15 : decode cL_machine 15 = .ok (.iconst 1, 1) := by decide +kernel
theorem dL_machine_16 : decode cL_machine 16 = .ok (.ireturn, 1) := by decide +kernel
theorem dL_machine_17 : decode cL_machine 17 = .ok (.astore 4, 2) := by decide +kernel
theorem dL_machine_19 : decode cL_machine 19 = .ok (.iconst 2, 1) := by decide +kernel
theorem dL_machine_20 : decode cL_machine 20 = .ok (.ireturn, 1) := by decide +kernel
theorem dL_machine_21 : decode cL_machine 21 = .ok (.iconst 0, 1) := by decide +kernel
theorem dL_machine_22 : decode cL_machine 22 = .ok (.ireturn, 1) := by decide +kernel
set_option maxRecDepth 20000 in
theorem ggL_toolsAt_X9_toolsAt : GoodIn wsL_toolsAt wsX9_toolsAt := goodIn_ca (goodIn_ca (goodIn_r _ [7, 8, 9, 10, 11, 12, 13, 14, 6, 15, 16, 17, 18, 19, 20, 21, 22, 23, 24, 25, 26, 27, 28, 29, 30, 31, 32] (by decide +kernel) (by decide +kernel)) (goodIn_sub (fun _ h => List.mem_cons_of_mem _ (List.mem_append_left _ (List.mem_append_right _ h))) (by decide +kernel))) (goodIn_sub (fun _ h => List.mem_cons_of_mem _ (List.mem_append_right _ h)) (by decide +kernel))
set_option maxRecDepth 20000 in
theorem gL_toolsAt_X9_toolsAt : GoodIn wsL_toolsAt (wsV RL 195 RX9 yX9_toolsAt wsX9_toolsAt) := goodIn_app (goodIn_of _ (by decide +kernel)) ggL_toolsAt_X9_toolsAt
theorem dL_toolsAt_0 : decode cL_toolsAt 0 = .ok (.aload_n 3, 1) := by decide +kernel
theorem dL_toolsAt_1 : decode cL_toolsAt 1 = .ok (.iconst 0, 1) := by decide +kernel
theorem dL_toolsAt_2 : decode cL_toolsAt 2 = .ok (.aload_n 0, 1) := by decide +kernel
theorem dL_toolsAt_3 : decode cL_toolsAt 3 = .ok (.iload_n 1, 1) := by decide +kernel
theorem dL_toolsAt_4 : decode cL_toolsAt 4 = .ok (.iload_n 2, 1) := by decide +kernel
theorem dL_toolsAt_5 : decode cL_toolsAt 5 = .ok (.invokevirtual 195, 3) := by decide +kernel
theorem dL_toolsAt_8 : decode cL_toolsAt 8 = .ok (.i2l, 1) := by decide +kernel
theorem dL_toolsAt_9 : decode cL_toolsAt 9 = .ok (.lastore, 1) := by decide +kernel
theorem dL_toolsAt_10 : decode cL_toolsAt 10 = .ok (.goto 11, 3) := by decide +kernel
theorem dL_toolsAt_13 : decode cL_toolsAt 13 = .ok (.astore 4, 2) := by decide +kernel
theorem dL_toolsAt_15 : decode cL_toolsAt 15 = .ok (.iconst 1, 1) := by decide +kernel
theorem dL_toolsAt_16 : decode cL_toolsAt 16 = .ok (.ireturn, 1) := by decide +kernel
theorem dL_toolsAt_17 : decode cL_toolsAt 17 = .ok (.astore 4, 2) := by decide +kernel
theorem dL_toolsAt_19 : decode cL_toolsAt 19 = .ok (.iconst 2, 1) := by decide +kernel
theorem dL_toolsAt_20 : decode cL_toolsAt 20 = .ok (.ireturn, 1) := by decide +kernel
theorem dL_toolsAt_21 : decode cL_toolsAt 21 = .ok (.iconst 0, 1) := by decide +kernel
theorem dL_toolsAt_22 : decode cL_toolsAt 22 = .ok (.ireturn, 1) := by decide +kernel
set_option maxRecDepth 20000 in
theorem ggL_route_X9_route : GoodIn wsL_route wsX9_route := goodIn_ca (goodIn_ca (goodIn_ca (goodIn_r _ [8, 9, 10, 11, 12, 13, 14, 7, 15, 16, 17, 18, 19, 20, 21, 22, 23, 24, 25, 26, 27, 28, 29, 30, 31, 32, 33, 34, 35, 36, 37, 38, 39, 40, 41, 42, 43, 44, 45, 46, 47, 48, 49, 50, 51, 52, 53, 54, 55, 56, 57, 58, 59, 60, 61, 62, 63, 64, 65, 66, 67, 68, 69, 70, 71, 72, 73, 74, 75, 76, 77, 78, 79, 80, 81, 82, 83, 84, 85, 86, 87, 88, 89, 90, 91, 92, 93, 94, 95, 96, 97, 98, 99, 100, 101, 102, 103, 104, 105, 106, 107, 108, 109, 110, 111, 112, 113, 114, 115, 116, 117, 118, 119, 120, 121, 122, 123, 124, 125, 126, 127, 128, 129, 130, 131, 132, 133, 134, 135, 136, 137, 138, 139, 140, 141, 142, 143, 144, 145, 146, 147, 148, 149, 150, 151, 152, 153, 154, 155, 156, 157, 158, 159, 160, 161, 162, 163, 164, 165, 166, 167, 168, 169, 170, 171, 172, 173, 174, 175, 176, 177, 178, 179, 180, 181, 182, 183, 184] (by decide +kernel) (by decide +kernel)) (goodIn_sub (fun _ h => List.mem_cons_of_mem _ (List.mem_append_left _ (List.mem_append_left _ (List.mem_append_right _ h)))) (by decide +kernel))) (goodIn_sub (fun _ h => List.mem_cons_of_mem _ (List.mem_append_left _ (List.mem_append_right _ h))) (by decide +kernel))) (goodIn_sub (fun _ h => List.mem_cons_of_mem _ (List.mem_append_right _ h)) (by decide +kernel))
set_option maxRecDepth 20000 in
theorem gL_route_X9_route : GoodIn wsL_route (wsV RL 198 RX9 yX9_route wsX9_route) := goodIn_app (goodIn_of _ (by decide +kernel)) ggL_route_X9_route
theorem dL_route_0 : decode cL_route 0 = .ok (.aload_n 3, 1) := by decide +kernel
theorem dL_route_1 : decode cL_route 1 = .ok (.iconst 0, 1) := by decide +kernel
theorem dL_route_2 : decode cL_route 2 = .ok (.aload_n 0, 1) := by decide +kernel
theorem dL_route_3 : decode cL_route 3 = .ok (.iload_n 1, 1) := by decide +kernel
theorem dL_route_4 : decode cL_route 4 = .ok (.iload_n 2, 1) := by decide +kernel
theorem dL_route_5 : decode cL_route 5 = .ok (.invokevirtual 198, 3) := by decide +kernel
theorem dL_route_8 : decode cL_route 8 = .ok (.i2l, 1) := by decide +kernel
theorem dL_route_9 : decode cL_route 9 = .ok (.lastore, 1) := by decide +kernel
theorem dL_route_10 : decode cL_route 10 = .ok (.goto 15, 3) := by decide +kernel
theorem dL_route_13 : decode cL_route 13 = .ok (.astore 4, 2) := by decide +kernel
theorem dL_route_15 : decode cL_route 15 = .ok (.iconst 1, 1) := by decide +kernel
theorem dL_route_16 : decode cL_route 16 = .ok (.ireturn, 1) := by decide +kernel
theorem dL_route_17 : decode cL_route 17 = .ok (.astore 4, 2) := by decide +kernel
theorem dL_route_19 : decode cL_route 19 = .ok (.iconst 2, 1) := by decide +kernel
theorem dL_route_20 : decode cL_route 20 = .ok (.ireturn, 1) := by decide +kernel
theorem dL_route_21 : decode cL_route 21 = .ok (.astore 4, 2) := by decide +kernel
theorem dL_route_23 : decode cL_route 23 = .ok (.iconst 3, 1) := by decide +kernel
theorem dL_route_24 : decode cL_route 24 = .ok (.ireturn, 1) := by decide +kernel
theorem dL_route_25 : decode cL_route 25 = .ok (.iconst 0, 1) := by decide +kernel
theorem dL_route_26 : decode cL_route 26 = .ok (.ireturn, 1) := by decide +kernel
set_option maxRecDepth 20000 in
theorem ggL_doneAt_X9_doneAt : GoodIn wsL_doneAt wsX9_doneAt := goodIn_ca (goodIn_ca (goodIn_r _ [7, 8, 9, 10, 11, 12, 13, 14, 15, 16, 17, 18, 6, 19, 20, 21, 22, 23, 24, 25, 26, 27, 28, 29, 30, 31, 32, 33, 34, 35, 36, 37, 38, 39, 40, 41, 42, 43, 44, 45, 46, 47, 48, 49, 50, 51, 52, 53, 54, 55, 56, 57, 58, 59, 60, 61, 62, 63, 64, 65, 66, 67, 68, 69, 70, 71, 72, 73, 74, 75, 76, 77, 78, 79, 80, 81, 82, 83, 84, 85, 86, 87, 88, 89, 90, 91, 92, 93, 94, 95, 96, 97, 98, 99, 100, 101, 102, 103, 104, 105, 106, 107, 108, 109, 110, 111, 112, 113, 114, 115, 116, 117, 118, 119, 120, 121, 122, 123, 124, 125, 126, 127, 128, 129, 130, 131] (by decide +kernel) (by decide +kernel)) (goodIn_sub (fun _ h => List.mem_cons_of_mem _ (List.mem_append_left _ (List.mem_append_right _ h))) (by decide +kernel))) (goodIn_sub (fun _ h => List.mem_cons_of_mem _ (List.mem_append_right _ h)) (by decide +kernel))
set_option maxRecDepth 20000 in
theorem gL_doneAt_X9_doneAt : GoodIn wsL_doneAt (wsV RL 202 RX9 yX9_doneAt wsX9_doneAt) := goodIn_app (goodIn_of _ (by decide +kernel)) ggL_doneAt_X9_doneAt
theorem dL_doneAt_0 : decode cL_doneAt 0 = .ok (.aload_n 2, 1) := by decide +kernel
theorem dL_doneAt_1 : decode cL_doneAt 1 = .ok (.iconst 0, 1) := by decide +kernel
theorem dL_doneAt_2 : decode cL_doneAt 2 = .ok (.aload_n 0, 1) := by decide +kernel
theorem dL_doneAt_3 : decode cL_doneAt 3 = .ok (.iload_n 1, 1) := by decide +kernel
theorem dL_doneAt_4 : decode cL_doneAt 4 = .ok (.invokevirtual 202, 3) := by decide +kernel
theorem dL_doneAt_7 : decode cL_doneAt 7 = .ok (.i2l, 1) := by decide +kernel
theorem dL_doneAt_8 : decode cL_doneAt 8 = .ok (.lastore, 1) := by decide +kernel
theorem dL_doneAt_9 : decode cL_doneAt 9 = .ok (.goto 9, 3) := by decide +kernel
theorem dL_doneAt_12 : decode cL_doneAt 12 = .ok (.astore_n 3, 1) := by decide +kernel
theorem dL_doneAt_13 : decode cL_doneAt 13 = .ok (.iconst 1, 1) := by decide +kernel
theorem dL_doneAt_14 : decode cL_doneAt 14 = .ok (.ireturn, 1) := by decide +kernel
theorem dL_doneAt_15 : decode cL_doneAt 15 = .ok (.astore_n 3, 1) := by decide +kernel
theorem dL_doneAt_16 : decode cL_doneAt 16 = .ok (.iconst 2, 1) := by decide +kernel
theorem dL_doneAt_17 : decode cL_doneAt 17 = .ok (.ireturn, 1) := by decide +kernel
theorem dL_doneAt_18 : decode cL_doneAt 18 = .ok (.iconst 0, 1) := by decide +kernel
theorem dL_doneAt_19 : decode cL_doneAt 19 = .ok (.ireturn, 1) := by decide +kernel
set_option maxRecDepth 20000 in
theorem ggL_oldModule_X9_oldModule : GoodIn wsL_oldModule wsX9_oldModule := goodIn_ca (goodIn_ca (goodIn_r _ [7, 8, 9, 6, 10, 11, 12, 13, 14, 15, 16, 17, 18, 19, 20, 21, 22, 23, 24, 25, 26, 27, 28, 29, 30, 31, 32, 33, 34, 35, 36, 37, 38, 39, 40, 41, 42, 43, 44, 45, 46, 47, 48, 49, 50, 51, 52, 53, 54, 55, 56, 57, 58] (by decide +kernel) (by decide +kernel)) (goodIn_sub (fun _ h => List.mem_cons_of_mem _ (List.mem_append_left _ (List.mem_append_right _ h))) (by decide +kernel))) (goodIn_sub (fun _ h => List.mem_cons_of_mem _ (List.mem_append_right _ h)) (by decide +kernel))
set_option maxRecDepth 20000 in
theorem gL_oldModule_X9_oldModule : GoodIn wsL_oldModule (wsV RL 205 RX9 yX9_oldModule wsX9_oldModule) := goodIn_app (goodIn_of _ (by decide +kernel)) ggL_oldModule_X9_oldModule
theorem dL_oldModule_0 : decode cL_oldModule 0 = .ok (.aload 4, 2) := by decide +kernel
theorem dL_oldModule_2 : decode cL_oldModule 2 = .ok (.iconst 0, 1) := by decide +kernel
theorem dL_oldModule_3 : decode cL_oldModule 3 = .ok (.aload_n 0, 1) := by decide +kernel
theorem dL_oldModule_4 : decode cL_oldModule 4 = .ok (.iload_n 1, 1) := by decide +kernel
theorem dL_oldModule_5 : decode cL_oldModule 5 = .ok (.iload_n 2, 1) := by decide +kernel
theorem dL_oldModule_6 : decode cL_oldModule 6 = .ok (.iload_n 3, 1) := by decide +kernel
theorem dL_oldModule_7 : decode cL_oldModule 7 = .ok (.invokevirtual 205, 3) := by decide +kernel
theorem dL_oldModule_10 : decode cL_oldModule 10 = .ok (.i2l, 1) := by decide +kernel
theorem dL_oldModule_11 : decode cL_oldModule 11 = .ok (.lastore, 1) := by decide +kernel
theorem dL_oldModule_12 : decode cL_oldModule 12 = .ok (.goto 11, 3) := by decide +kernel
theorem dL_oldModule_15 : decode cL_oldModule 15 = .ok (.astore 5, 2) := by decide +kernel
theorem dL_oldModule_17 : decode cL_oldModule 17 = .ok (.iconst 1, 1) := by decide +kernel
theorem dL_oldModule_18 : decode cL_oldModule 18 = .ok (.ireturn, 1) := by decide +kernel
theorem dL_oldModule_19 : decode cL_oldModule 19 = .ok (.astore 5, 2) := by decide +kernel
theorem dL_oldModule_21 : decode cL_oldModule 21 = .ok (.iconst 2, 1) := by decide +kernel
theorem dL_oldModule_22 : decode cL_oldModule 22 = .ok (.ireturn, 1) := by decide +kernel
theorem dL_oldModule_23 : decode cL_oldModule 23 = .ok (.iconst 0, 1) := by decide +kernel
theorem dL_oldModule_24 : decode cL_oldModule 24 = .ok (.ireturn, 1) := by decide +kernel
set_option maxRecDepth 20000 in
theorem ggL_oldShift_X9_oldShift : GoodIn wsL_oldShift wsX9_oldShift := goodIn_ca (goodIn_ca (goodIn_r _ [7, 8, 9, 6, 10, 11, 12, 13, 14, 15, 16, 17, 18, 19, 20, 21, 22, 23, 24, 25, 26, 27, 28, 29, 30, 31, 32, 33, 34, 35, 36, 37, 38, 39, 40, 41, 42, 43, 44, 45, 46, 47, 48, 49, 50, 51, 52, 53, 54, 55, 56, 57, 58] (by decide +kernel) (by decide +kernel)) (goodIn_sub (fun _ h => List.mem_cons_of_mem _ (List.mem_append_left _ (List.mem_append_right _ h))) (by decide +kernel))) (goodIn_sub (fun _ h => List.mem_cons_of_mem _ (List.mem_append_right _ h)) (by decide +kernel))
set_option maxRecDepth 20000 in
theorem gL_oldShift_X9_oldShift : GoodIn wsL_oldShift (wsV RL 208 RX9 yX9_oldShift wsX9_oldShift) := goodIn_app (goodIn_of _ (by decide +kernel)) ggL_oldShift_X9_oldShift
theorem dL_oldShift_0 : decode cL_oldShift 0 = .ok (.aload 4, 2) := by decide +kernel
theorem dL_oldShift_2 : decode cL_oldShift 2 = .ok (.iconst 0, 1) := by decide +kernel
theorem dL_oldShift_3 : decode cL_oldShift 3 = .ok (.aload_n 0, 1) := by decide +kernel
theorem dL_oldShift_4 : decode cL_oldShift 4 = .ok (.iload_n 1, 1) := by decide +kernel
theorem dL_oldShift_5 : decode cL_oldShift 5 = .ok (.iload_n 2, 1) := by decide +kernel
theorem dL_oldShift_6 : decode cL_oldShift 6 = .ok (.iload_n 3, 1) := by decide +kernel
theorem dL_oldShift_7 : decode cL_oldShift 7 = .ok (.invokevirtual 208, 3) := by decide +kernel
theorem dL_oldShift_10 : decode cL_oldShift 10 = .ok (.i2l, 1) := by decide +kernel
theorem dL_oldShift_11 : decode cL_oldShift 11 = .ok (.lastore, 1) := by decide +kernel
theorem dL_oldShift_12 : decode cL_oldShift 12 = .ok (.goto 11, 3) := by decide +kernel
theorem dL_oldShift_15 : decode cL_oldShift 15 = .ok (.astore 5, 2) := by decide +kernel
theorem dL_oldShift_17 : decode cL_oldShift 17 = .ok (.iconst 1, 1) := by decide +kernel
theorem dL_oldShift_18 : decode cL_oldShift 18 = .ok (.ireturn, 1) := by decide +kernel
theorem dL_oldShift_19 : decode cL_oldShift 19 = .ok (.astore 5, 2) := by decide +kernel
theorem dL_oldShift_21 : decode cL_oldShift 21 = .ok (.iconst 2, 1) := by decide +kernel
theorem dL_oldShift_22 : decode cL_oldShift 22 = .ok (.ireturn, 1) := by decide +kernel
theorem dL_oldShift_23 : decode cL_oldShift 23 = .ok (.iconst 0, 1) := by decide +kernel
theorem dL_oldShift_24 : decode cL_oldShift 24 = .ok (.ireturn, 1) := by decide +kernel
set_option maxRecDepth 20000 in
theorem ggL_cutShare_X9_cutShare : GoodIn wsL_cutShare wsX9_cutShare := goodIn_ca (goodIn_r _ [6, 7, 8, 9, 10, 11, 12, 5, 13, 14, 15, 16, 17, 18, 19, 20, 21, 22, 23, 24, 25, 26, 27, 28, 29, 30, 31, 32, 33, 34, 35, 36, 37, 38, 39, 40, 41, 42, 43, 44, 45, 46] (by decide +kernel) (by decide +kernel)) (goodIn_sub (fun _ h => List.mem_cons_of_mem _ (List.mem_append_right _ h)) (by decide +kernel))
set_option maxRecDepth 20000 in
theorem gL_cutShare_X9_cutShare : GoodIn wsL_cutShare (wsV RL 211 RX9 yX9_cutShare wsX9_cutShare) := goodIn_app (goodIn_of _ (by decide +kernel)) ggL_cutShare_X9_cutShare
theorem dL_cutShare_0 : decode cL_cutShare 0 = .ok (.aload_n 1, 1) := by decide +kernel
theorem dL_cutShare_1 : decode cL_cutShare 1 = .ok (.iconst 0, 1) := by decide +kernel
theorem dL_cutShare_2 : decode cL_cutShare 2 = .ok (.aload_n 0, 1) := by decide +kernel
theorem dL_cutShare_3 : decode cL_cutShare 3 = .ok (.invokevirtual 211, 3) := by decide +kernel
theorem dL_cutShare_6 : decode cL_cutShare 6 = .ok (.f2d, 1) := by decide +kernel
theorem dL_cutShare_7 : decode cL_cutShare 7 = .ok (.dastore, 1) := by decide +kernel
theorem dL_cutShare_8 : decode cL_cutShare 8 = .ok (.goto 6, 3) := by decide +kernel
theorem dL_cutShare_11 : decode cL_cutShare 11 = .ok (.astore_n 2, 1) := by decide +kernel
theorem dL_cutShare_12 : decode cL_cutShare 12 = .ok (.iconst 1, 1) := by decide +kernel
theorem dL_cutShare_13 : decode cL_cutShare 13 = .ok (.ireturn, 1) := by decide +kernel
theorem dL_cutShare_14 : decode cL_cutShare 14 = .ok (.iconst 0, 1) := by decide +kernel
theorem dL_cutShare_15 : decode cL_cutShare 15 = .ok (.ireturn, 1) := by decide +kernel
set_option maxRecDepth 20000 in
theorem ggL_meanGrade_X9_meanGrade : GoodIn wsL_meanGrade wsX9_meanGrade := goodIn_ca (goodIn_ca (goodIn_r _ [6, 7, 8, 9, 10, 11, 5, 12, 13, 14, 15, 16, 17, 18, 19, 20, 21, 22, 23, 24, 25, 26, 27, 28, 29, 30, 31, 32, 33, 34, 35, 36, 37, 38, 39, 40, 41, 42, 43, 44, 45, 46, 47, 48, 49, 50, 51, 52, 53, 54, 55, 56, 57, 58, 59, 60, 61, 62, 63, 64, 65, 66, 67, 68, 69, 70, 71, 72, 73] (by decide +kernel) (by decide +kernel)) (goodIn_sub (fun _ h => List.mem_cons_of_mem _ (List.mem_append_right _ h)) (by decide +kernel))) (goodIn_sub (fun _ h => List.mem_cons_of_mem _ (List.mem_append_left _ (List.mem_append_right _ h))) (by decide +kernel))
set_option maxRecDepth 20000 in
theorem gL_meanGrade_X9_meanGrade : GoodIn wsL_meanGrade (wsV RL 217 RX9 yX9_meanGrade wsX9_meanGrade) := goodIn_app (goodIn_of _ (by decide +kernel)) ggL_meanGrade_X9_meanGrade
theorem dL_meanGrade_0 : decode cL_meanGrade 0 = .ok (.aload_n 1, 1) := by decide +kernel
theorem dL_meanGrade_1 : decode cL_meanGrade 1 = .ok (.iconst 0, 1) := by decide +kernel
theorem dL_meanGrade_2 : decode cL_meanGrade 2 = .ok (.aload_n 0, 1) := by decide +kernel
theorem dL_meanGrade_3 : decode cL_meanGrade 3 = .ok (.invokevirtual 217, 3) := by decide +kernel
theorem dL_meanGrade_6 : decode cL_meanGrade 6 = .ok (.dastore, 1) := by decide +kernel
theorem dL_meanGrade_7 : decode cL_meanGrade 7 = .ok (.goto 6, 3) := by decide +kernel
theorem dL_meanGrade_10 : decode cL_meanGrade 10 = .ok (.astore_n 2, 1) := by decide +kernel
theorem dL_meanGrade_11 : decode cL_meanGrade 11 = .ok (.iconst 1, 1) := by decide +kernel
theorem dL_meanGrade_12 : decode cL_meanGrade 12 = .ok (.ireturn, 1) := by decide +kernel
theorem dL_meanGrade_13 : decode cL_meanGrade 13 = .ok (.iconst 0, 1) := by decide +kernel
theorem dL_meanGrade_14 : decode cL_meanGrade 14 = .ok (.ireturn, 1) := by decide +kernel
set_option maxRecDepth 20000 in
theorem ggL_law_X9_init : GoodIn wsL_law wsX9_init := goodIn_r _ [10, 11, 12, 13, 14, 15, 16, 17, 18, 19, 20, 21, 22, 23, 24, 25, 26, 27, 28, 29, 30, 31, 32, 33, 34, 35, 36, 37, 38, 39, 40, 41, 42, 43, 44, 45, 46, 47, 48, 49, 50, 51, 52, 53, 54, 55, 56, 57, 58, 1902, 1903, 1904, 1905, 1906, 1907, 1908, 1909, 1910, 1911, 1912, 1947, 1948, 1949, 1950, 1951, 1952, 1953, 1954, 1955, 1956, 1957, 1958, 1959, 1960, 1961, 1962, 1963, 1964, 1965, 1966, 1967] (by decide +kernel) (by decide +kernel)
set_option maxRecDepth 20000 in
theorem gL_law_X9_init : GoodIn wsL_law (wsX9_init) := ggL_law_X9_init
set_option maxRecDepth 20000 in
theorem ggL_law_X12_init : GoodIn wsL_law wsX12_init := goodIn_r _ [61, 62, 12, 13, 63, 64, 65, 66, 67, 37, 68, 69, 70, 71, 72, 73, 74, 75, 76, 77, 78, 79, 80, 81, 82, 83, 84, 85, 86, 87, 88, 89, 90, 91, 92, 93, 94, 95, 96, 97, 98, 99, 100, 101, 102, 103, 1968, 1969, 1970, 1913, 1914, 1915, 1916, 1917, 1918, 1919, 1920, 1921, 1922, 1923, 1924, 1925, 1926, 1927, 1928, 1929, 1930, 1931, 1932, 1933, 1934, 1935, 1936, 1937, 1938, 1939, 1940, 1941, 1942, 1943, 1944, 1945, 1946] (by decide +kernel) (by decide +kernel)
set_option maxRecDepth 20000 in
theorem gL_law_X12_init : GoodIn wsL_law (wsX12_init) := ggL_law_X12_init
set_option maxRecDepth 20000 in
theorem ggL_law_L_gear : GoodIn wsL_law wsL_gear := goodIn_ca (goodIn_ca (goodIn_ca (goodIn_r _ [107, 108, 109, 110, 111, 112, 2, 113, 114, 115, 116, 117, 15, 14, 118, 119, 120, 121, 122, 123, 124, 125, 126, 127, 128, 129, 130, 131, 12, 13, 132, 133, 134, 135, 136, 137, 138, 139, 140, 141, 142, 143, 144, 145, 146, 147, 148, 149, 150, 37, 151, 152, 153, 154, 155, 156, 157, 158, 159, 160, 161, 162, 163, 164, 165, 166, 167, 168, 169, 170, 171, 172, 1902, 1903, 1904, 1905, 1906, 1907, 1908, 1909, 1910, 1911, 1912, 1971, 1972, 1973, 1974, 1975, 1976, 1977, 1978, 1979, 1980, 1981, 1982, 1983, 1984, 1985, 1986, 1987, 1988, 1989, 1990, 1991, 1992, 1993, 1994, 1995, 1996, 1997] (by decide +kernel) (by decide +kernel)) (goodIn_sub (fun _ h => List.mem_append_left _ (List.mem_append_left _ (List.mem_append_left _ (List.mem_append_left _ (List.mem_append_left _ (List.mem_append_left _ (List.mem_append_left _ (List.mem_append_right _ h)))))))) (by decide +kernel))) (goodIn_sub (fun _ h => List.mem_append_left _ (List.mem_append_left _ (List.mem_append_left _ (List.mem_append_left _ (List.mem_append_left _ (List.mem_append_left _ (List.mem_append_right _ h))))))) (by decide +kernel))) (goodIn_sub (fun _ h => List.mem_append_left _ (List.mem_append_left _ (List.mem_append_left _ (List.mem_append_left _ (List.mem_append_left _ (List.mem_append_right _ h)))))) (by decide +kernel))
set_option maxRecDepth 20000 in
theorem gL_law_L_gear : GoodIn wsL_law (va_wsS RL 225 yL_gear wsL_gear) := goodIn_app (goodIn_of _ (by decide +kernel)) ggL_law_L_gear
set_option maxRecDepth 20000 in
theorem ggL_law_X12_gear : GoodIn wsL_law wsX12_gear := goodIn_r _ [176, 177, 178, 179, 180, 181, 182, 183, 66, 184, 185, 186, 187, 188, 5, 189, 190, 191, 192, 193, 194, 195, 196, 197, 65, 198, 199, 200, 201, 202, 203, 12, 13, 37, 204, 71, 205, 206, 207, 208, 209, 210, 211, 212, 213, 214, 215, 216, 217, 218, 93, 219, 220, 221, 222, 223, 224, 225, 226, 227, 228, 229, 230, 92, 231, 232, 233, 234, 235, 236, 237, 238, 239, 240, 241, 242, 243, 244, 245, 246, 247, 248, 249, 250, 251, 252, 253, 254, 255, 256, 257, 258, 259, 260, 261, 262, 263, 264, 265, 266, 267, 268, 1913, 1914, 1915, 1916, 1917, 1918, 1919, 1920, 1921, 1922, 1923, 1924, 1925, 1926, 1927, 1928, 1929, 1930, 1931, 1932, 1933, 1934, 1935, 1936, 1937, 1938, 1939, 1940, 1941, 1942, 1943, 1944, 1945, 1946, 1998, 1999, 2000, 2001, 2002, 2003, 2004, 2005, 2006, 2007, 2008, 2009, 2010, 2011, 2012, 2013, 2014, 2015, 2016, 2017, 2018, 2019, 2020, 1968, 1969, 1970] (by decide +kernel) (by decide +kernel)
set_option maxRecDepth 20000 in
theorem gL_law_X12_gear : GoodIn wsL_law (wsV RL 230 RX12 yX12_gear wsX12_gear) := goodIn_app (goodIn_of _ (by decide +kernel)) ggL_law_X12_gear
set_option maxRecDepth 20000 in
theorem ggL_law_L_setShift : GoodIn wsL_law wsL_setShift := goodIn_ca (goodIn_ca (goodIn_ca (goodIn_ca (goodIn_r _ [271, 272, 108, 273, 274, 275, 276, 2, 277, 278, 279, 280, 281, 282, 283, 284, 285, 117, 15, 123, 124, 125, 126, 127, 286, 287, 288, 289, 290, 1971, 1972, 1973, 1974, 1975, 1976, 1977, 1978, 1979, 1980, 1981, 1982, 1983, 1984, 1985, 1986, 1987, 1988, 1989, 1990, 1902, 1903, 1904, 1905, 1906, 1907, 1908, 1909, 1910, 1911, 1912] (by decide +kernel) (by decide +kernel)) (goodIn_sub (fun _ h => List.mem_append_left _ (List.mem_append_left _ (List.mem_append_left _ (List.mem_append_left _ (List.mem_append_left _ (List.mem_append_left _ (List.mem_append_left _ (List.mem_append_right _ h)))))))) (by decide +kernel))) (goodIn_sub (fun _ h => List.mem_append_left _ (List.mem_append_left _ (List.mem_append_left _ (List.mem_append_left _ (List.mem_append_right _ h))))) (by decide +kernel))) (goodIn_sub (fun _ h => List.mem_append_left _ (List.mem_append_left _ (List.mem_append_left _ (List.mem_append_left _ (List.mem_append_left _ (List.mem_append_right _ h)))))) (by decide +kernel))) (goodIn_sub (fun _ h => List.mem_append_left _ (List.mem_append_left _ (List.mem_append_left _ (List.mem_append_right _ h)))) (by decide +kernel))
set_option maxRecDepth 20000 in
theorem gL_law_L_setShift : GoodIn wsL_law (va_wsS RL 231 yL_setShift wsL_setShift) := goodIn_app (goodIn_of _ (by decide +kernel)) ggL_law_L_setShift
set_option maxRecDepth 20000 in
theorem ggL_law_X12_setShift : GoodIn wsL_law wsX12_setShift := goodIn_r _ [294, 295, 296, 297, 298, 299, 5, 300, 66, 195, 196, 197, 65, 198, 199, 187, 188, 189, 190, 191, 192, 193, 194, 301, 302, 303, 304, 305, 306, 307, 308, 309, 310, 311, 312, 313, 314, 315, 316, 317, 318, 319, 320, 321, 93, 265, 266, 267, 268, 1998, 1999, 2000, 2001, 2002, 2003, 2004, 2005, 2006, 2007, 2008, 2009, 2010, 2011, 2012, 2013, 2014, 2015, 2016, 2017, 2018, 2019, 2020, 1913, 1914, 1915, 1916, 1917, 1918, 1919, 1920, 1921, 1922, 1923, 1924, 1925, 1926, 1927, 1928, 1929, 1930, 1931, 1932, 1933, 1934, 1935, 1936, 1937, 1938, 1939, 1940, 1941, 1942, 1943, 1944, 1945, 1946, 1968, 1969, 1970] (by decide +kernel) (by decide +kernel)
set_option maxRecDepth 20000 in
theorem gL_law_X12_setShift : GoodIn wsL_law (wsV RL 234 RX12 yX12_setShift wsX12_setShift) := goodIn_app (goodIn_of _ (by decide +kernel)) ggL_law_X12_setShift
set_option maxRecDepth 20000 in
theorem ggL_law_L_diameter : GoodIn wsL_law wsL_diameter := goodIn_ca (goodIn_ca (goodIn_r _ [324, 272, 325, 326, 327, 2, 328, 280, 281, 282, 283, 284, 285, 117, 15, 329, 330, 331, 119, 332, 133, 134, 1902, 1903, 1904, 1905, 1906, 1907, 1908, 1909, 1910, 1911, 1912, 1971, 1972, 1973, 1974, 1975, 1976, 1977, 1978, 1979, 1980, 1981, 1982, 1983, 1984, 1985, 1986, 1987, 1988, 1989, 1990] (by decide +kernel) (by decide +kernel)) (goodIn_sub (fun _ h => List.mem_append_left _ (List.mem_append_left _ (List.mem_append_left _ (List.mem_append_left _ (List.mem_append_left _ (List.mem_append_left _ (List.mem_append_left _ (List.mem_append_right _ h)))))))) (by decide +kernel))) (goodIn_sub (fun _ h => List.mem_append_left _ (List.mem_append_left _ (List.mem_append_left _ (List.mem_append_left _ (List.mem_append_right _ h))))) (by decide +kernel))
set_option maxRecDepth 20000 in
theorem gL_law_L_diameter : GoodIn wsL_law (va_wsS RL 235 yL_diameter wsL_diameter) := goodIn_app (goodIn_of _ (by decide +kernel)) ggL_law_L_diameter
set_option maxRecDepth 20000 in
theorem ggL_law_X12_diameter : GoodIn wsL_law wsX12_diameter := goodIn_r _ [336, 297, 298, 299, 5, 300, 66, 195, 196, 197, 65, 198, 199, 187, 188, 189, 301, 302, 303, 304, 305, 306, 307, 308, 309, 310, 311, 312, 313, 314, 315, 316, 317, 318, 319, 320, 321, 93, 337, 338, 339, 186, 340, 209, 210, 265, 266, 267, 268, 194, 190, 191, 192, 193, 1913, 1914, 1915, 1916, 1917, 1918, 1919, 1920, 1921, 1922, 1923, 1924, 1925, 1926, 1927, 1928, 1929, 1930, 1931, 1932, 1933, 1934, 1935, 1936, 1937, 1938, 1939, 1940, 1941, 1942, 1943, 1944, 1945, 1946, 1968, 1969, 1970, 1998, 1999, 2000, 2001, 2002, 2003, 2004, 2005, 2006, 2007, 2008, 2009, 2010, 2011, 2012, 2013, 2014, 2015, 2016, 2017, 2018, 2019, 2020] (by decide +kernel) (by decide +kernel)
set_option maxRecDepth 20000 in
theorem gL_law_X12_diameter : GoodIn wsL_law (wsV RL 238 RX12 yX12_diameter wsX12_diameter) := goodIn_app (goodIn_of _ (by decide +kernel)) ggL_law_X12_diameter
set_option maxRecDepth 20000 in
theorem ggL_law_L_tip : GoodIn wsL_law wsL_tip := goodIn_ca (goodIn_ca (goodIn_r _ [343, 272, 344, 345, 346, 2, 347, 279, 280, 281, 282, 283, 284, 285, 117, 15, 348, 349, 350, 119, 351, 133, 134, 352, 353, 1971, 1972, 1973, 1974, 1975, 1976, 1977, 1978, 1979, 1980, 1981, 1982, 1983, 1984, 1985, 1986, 1987, 1988, 1989, 1990, 1902, 1903, 1904, 1905, 1906, 1907, 1908, 1909, 1910, 1911, 1912] (by decide +kernel) (by decide +kernel)) (goodIn_sub (fun _ h => List.mem_append_left _ (List.mem_append_left _ (List.mem_append_left _ (List.mem_append_left _ (List.mem_append_left _ (List.mem_append_left _ (List.mem_append_left _ (List.mem_append_right _ h)))))))) (by decide +kernel))) (goodIn_sub (fun _ h => List.mem_append_left _ (List.mem_append_left _ (List.mem_append_left _ (List.mem_append_left _ (List.mem_append_right _ h))))) (by decide +kernel))
set_option maxRecDepth 20000 in
theorem gL_law_L_tip : GoodIn wsL_law (va_wsS RL 239 yL_tip wsL_tip) := goodIn_app (goodIn_of _ (by decide +kernel)) ggL_law_L_tip
set_option maxRecDepth 20000 in
theorem ggL_law_X12_tip : GoodIn wsL_law wsX12_tip := goodIn_r _ [357, 297, 298, 299, 5, 300, 66, 195, 196, 197, 65, 198, 199, 187, 188, 189, 301, 302, 303, 304, 305, 306, 307, 308, 309, 310, 311, 312, 313, 314, 315, 316, 317, 318, 319, 320, 321, 93, 358, 359, 360, 186, 361, 362, 210, 363, 364, 338, 339, 340, 209, 265, 266, 267, 268, 194, 190, 191, 192, 193, 1998, 1999, 2000, 2001, 2002, 2003, 2004, 2005, 2006, 2007, 2008, 2009, 2010, 2011, 2012, 2013, 2014, 2015, 2016, 2017, 2018, 2019, 2020, 1913, 1914, 1915, 1916, 1917, 1918, 1919, 1920, 1921, 1922, 1923, 1924, 1925, 1926, 1927, 1928, 1929, 1930, 1931, 1932, 1933, 1934, 1935, 1936, 1937, 1938, 1939, 1940, 1941, 1942, 1943, 1944, 1945, 1946, 1968, 1969, 1970] (by decide +kernel) (by decide +kernel)
set_option maxRecDepth 20000 in
theorem gL_law_X12_tip : GoodIn wsL_law (wsV RL 241 RX12 yX12_tip wsX12_tip) := goodIn_app (goodIn_of _ (by decide +kernel)) ggL_law_X12_tip
set_option maxRecDepth 20000 in
theorem ggL_law_L_isUndercut : GoodIn wsL_law wsL_isUndercut := goodIn_ca (goodIn_ca (goodIn_r _ [367, 272, 368, 369, 370, 2, 371, 372, 279, 280, 281, 282, 283, 284, 285, 117, 15, 373, 374, 375, 1971, 1972, 1973, 1974, 1975, 1976, 1977, 1978, 1979, 1980, 1981, 1982, 1983, 1984, 1985, 1986, 1987, 1988, 1989, 1990, 1902, 1903, 1904, 1905, 1906, 1907, 1908, 1909, 1910, 1911, 1912] (by decide +kernel) (by decide +kernel)) (goodIn_sub (fun _ h => List.mem_append_left _ (List.mem_append_left _ (List.mem_append_left _ (List.mem_append_left _ (List.mem_append_left _ (List.mem_append_left _ (List.mem_append_left _ (List.mem_append_right _ h)))))))) (by decide +kernel))) (goodIn_sub (fun _ h => List.mem_append_left _ (List.mem_append_left _ (List.mem_append_left _ (List.mem_append_left _ (List.mem_append_right _ h))))) (by decide +kernel))
set_option maxRecDepth 20000 in
theorem gL_law_L_isUndercut : GoodIn wsL_law (va_wsS RL 242 yL_isUndercut wsL_isUndercut) := goodIn_app (goodIn_of _ (by decide +kernel)) ggL_law_L_isUndercut
set_option maxRecDepth 20000 in
theorem ggL_law_X12_isUndercut : GoodIn wsL_law wsX12_isUndercut := goodIn_r _ [379, 297, 298, 299, 5, 300, 66, 195, 196, 197, 65, 198, 199, 187, 188, 189, 301, 302, 303, 304, 305, 306, 307, 308, 309, 310, 311, 312, 313, 314, 315, 316, 317, 318, 319, 320, 321, 93, 380, 381, 382, 186, 383, 209, 384, 385, 386, 387, 194, 388, 389, 390, 391, 1998, 1999, 2000, 2001, 2002, 2003, 2004, 2005, 2006, 2007, 2008, 2009, 2010, 2011, 2012, 2013, 2014, 2015, 2016, 2017, 2018, 2019, 2020, 1913, 1914, 1915, 1916, 1917, 1918, 1919, 1920, 1921, 1922, 1923, 1924, 1925, 1926, 1927, 1928, 1929, 1930, 1931, 1932, 1933, 1934, 1935, 1936, 1937, 1938, 1939, 1940, 1941, 1942, 1943, 1944, 1945, 1946, 1968, 1969, 1970] (by decide +kernel) (by decide +kernel)
set_option maxRecDepth 20000 in
theorem gL_law_X12_isUndercut : GoodIn wsL_law (wsV RL 244 RX12 yX12_isUndercut wsX12_isUndercut) := goodIn_app (goodIn_of _ (by decide +kernel)) ggL_law_X12_isUndercut
set_option maxRecDepth 20000 in
theorem ggL_law_L_isSharp : GoodIn wsL_law wsL_isSharp := goodIn_ca (goodIn_ca (goodIn_r _ [394, 272, 395, 396, 397, 2, 398, 372, 279, 280, 281, 282, 283, 284, 285, 117, 15, 399, 400, 401, 1971, 1972, 1973, 1974, 1975, 1976, 1977, 1978, 1979, 1980, 1981, 1982, 1983, 1984, 1985, 1986, 1987, 1988, 1989, 1990, 1902, 1903, 1904, 1905, 1906, 1907, 1908, 1909, 1910, 1911, 1912] (by decide +kernel) (by decide +kernel)) (goodIn_sub (fun _ h => List.mem_append_left _ (List.mem_append_left _ (List.mem_append_left _ (List.mem_append_left _ (List.mem_append_left _ (List.mem_append_left _ (List.mem_append_left _ (List.mem_append_right _ h)))))))) (by decide +kernel))) (goodIn_sub (fun _ h => List.mem_append_left _ (List.mem_append_left _ (List.mem_append_left _ (List.mem_append_left _ (List.mem_append_right _ h))))) (by decide +kernel))
set_option maxRecDepth 20000 in
theorem gL_law_L_isSharp : GoodIn wsL_law (va_wsS RL 245 yL_isSharp wsL_isSharp) := goodIn_app (goodIn_of _ (by decide +kernel)) ggL_law_L_isSharp
set_option maxRecDepth 20000 in
theorem ggL_law_X12_isSharp : GoodIn wsL_law wsX12_isSharp := goodIn_r _ [405, 297, 298, 299, 5, 300, 66, 195, 196, 197, 65, 198, 199, 187, 188, 189, 301, 302, 303, 304, 305, 306, 307, 308, 309, 310, 311, 312, 313, 314, 315, 316, 317, 318, 319, 320, 321, 93, 406, 407, 408, 186, 409, 209, 384, 385, 386, 387, 194, 388, 389, 390, 391, 1998, 1999, 2000, 2001, 2002, 2003, 2004, 2005, 2006, 2007, 2008, 2009, 2010, 2011, 2012, 2013, 2014, 2015, 2016, 2017, 2018, 2019, 2020, 1913, 1914, 1915, 1916, 1917, 1918, 1919, 1920, 1921, 1922, 1923, 1924, 1925, 1926, 1927, 1928, 1929, 1930, 1931, 1932, 1933, 1934, 1935, 1936, 1937, 1938, 1939, 1940, 1941, 1942, 1943, 1944, 1945, 1946, 1968, 1969, 1970] (by decide +kernel) (by decide +kernel)
set_option maxRecDepth 20000 in
theorem gL_law_X12_isSharp : GoodIn wsL_law (wsV RL 247 RX12 yX12_isSharp wsX12_isSharp) := goodIn_app (goodIn_of _ (by decide +kernel)) ggL_law_X12_isSharp
set_option maxRecDepth 20000 in
theorem ggL_law_L_fewest : GoodIn wsL_law wsL_fewest := goodIn_ca (goodIn_ca (goodIn_r _ [412, 108, 413, 414, 415, 2, 416, 123, 124, 125, 126, 127, 373, 374, 375] (by decide +kernel) (by decide +kernel)) (goodIn_sub (fun _ h => List.mem_append_left _ (List.mem_append_left _ (List.mem_append_left _ (List.mem_append_left _ (List.mem_append_left _ (List.mem_append_left _ (List.mem_append_left _ (List.mem_append_right _ h)))))))) (by decide +kernel))) (goodIn_sub (fun _ h => List.mem_append_left _ (List.mem_append_left _ (List.mem_append_left _ (List.mem_append_left _ (List.mem_append_left _ (List.mem_append_right _ h)))))) (by decide +kernel))
set_option maxRecDepth 20000 in
theorem gL_law_L_fewest : GoodIn wsL_law (va_wsS RL 248 yL_fewest wsL_fewest) := goodIn_app (goodIn_of _ (by decide +kernel)) ggL_law_L_fewest
set_option maxRecDepth 20000 in
theorem ggL_law_X12_fewest : GoodIn wsL_law wsX12_fewest := goodIn_r _ [420, 295, 296, 187, 188, 5, 189, 190, 191, 192, 193, 194, 265, 266, 267, 268, 1913, 1914, 1915, 1916, 1917, 1918, 1919, 1920, 1921, 1922, 1923, 1924, 1925, 1926, 1927, 1928, 1929, 1930, 1931, 1932, 1933, 1934, 1935, 1936, 1937, 1938, 1939, 1940, 1941, 1942, 1943, 1944, 1945, 1946] (by decide +kernel) (by decide +kernel)
set_option maxRecDepth 20000 in
theorem gL_law_X12_fewest : GoodIn wsL_law (wsV RL 250 RX12 yX12_fewest wsX12_fewest) := goodIn_app (goodIn_of _ (by decide +kernel)) ggL_law_X12_fewest
set_option maxRecDepth 20000 in
theorem ggL_law_L_doPair : GoodIn wsL_law wsL_doPair := goodIn_ca (goodIn_ca (goodIn_ca (goodIn_r _ [423, 272, 108, 424, 425, 426, 2, 427, 126, 127, 280, 281, 282, 283, 284, 285, 117, 15, 428, 429, 430, 119, 431, 134, 135, 1902, 1903, 1904, 1905, 1906, 1907, 1908, 1909, 1910, 1911, 1912, 1971, 1972, 1973, 1974, 1975, 1976, 1977, 1978, 1979, 1980, 1981, 1982, 1983, 1984, 1985, 1986, 1987, 1988, 1989, 1990] (by decide +kernel) (by decide +kernel)) (goodIn_sub (fun _ h => List.mem_append_left _ (List.mem_append_left _ (List.mem_append_left _ (List.mem_append_left _ (List.mem_append_left _ (List.mem_append_left _ (List.mem_append_left _ (List.mem_append_right _ h)))))))) (by decide +kernel))) (goodIn_sub (fun _ h => List.mem_append_left _ (List.mem_append_left _ (List.mem_append_left _ (List.mem_append_left _ (List.mem_append_left _ (List.mem_append_right _ h)))))) (by decide +kernel))) (goodIn_sub (fun _ h => List.mem_append_left _ (List.mem_append_left _ (List.mem_append_left _ (List.mem_append_left _ (List.mem_append_right _ h))))) (by decide +kernel))
set_option maxRecDepth 20000 in
theorem gL_law_L_doPair : GoodIn wsL_law (va_wsS RL 251 yL_doPair wsL_doPair) := goodIn_app (goodIn_of _ (by decide +kernel)) ggL_law_L_doPair
set_option maxRecDepth 20000 in
theorem ggL_law_X12_doPair : GoodIn wsL_law wsX12_doPair := goodIn_r _ [435, 297, 298, 299, 5, 300, 66, 195, 196, 197, 65, 198, 199, 187, 188, 189, 388, 389, 390, 391, 194, 436, 437, 438, 439, 301, 302, 303, 304, 305, 306, 307, 308, 309, 310, 311, 312, 313, 314, 315, 316, 317, 318, 319, 320, 321, 93, 384, 385, 386, 387, 1913, 1914, 1915, 1916, 1917, 1918, 1919, 1920, 1921, 1922, 1923, 1924, 1925, 1926, 1927, 1928, 1929, 1930, 1931, 1932, 1933, 1934, 1935, 1936, 1937, 1938, 1939, 1940, 1941, 1942, 1943, 1944, 1945, 1946, 1968, 1969, 1970, 1998, 1999, 2000, 2001, 2002, 2003, 2004, 2005, 2006, 2007, 2008, 2009, 2010, 2011, 2012, 2013, 2014, 2015, 2016, 2017, 2018, 2019, 2020] (by decide +kernel) (by decide +kernel)
set_option maxRecDepth 20000 in
theorem gL_law_X12_doPair : GoodIn wsL_law (wsV RL 253 RX12 yX12_doPair wsX12_doPair) := goodIn_app (goodIn_of _ (by decide +kernel)) ggL_law_X12_doPair
set_option maxRecDepth 20000 in
theorem ggL_law_L_contact : GoodIn wsL_law wsL_contact := goodIn_ca (goodIn_ca (goodIn_ca (goodIn_ca (goodIn_r _ [442, 272, 273, 443, 444, 445, 2, 446, 280, 281, 282, 283, 284, 285, 117, 15, 447, 448, 449, 428, 429, 430, 119, 431, 134, 135, 286, 287, 288, 289, 290, 450, 451, 452, 279, 453, 454, 455, 456, 457, 458, 329, 330, 331, 332, 133, 459, 460, 461, 462, 463, 464, 465, 349, 350, 351, 352, 353, 466, 467, 468, 469, 1902, 1903, 1904, 1905, 1906, 1907, 1908, 1909, 1910, 1911, 1912, 1971, 1972, 1973, 1974, 1975, 1976, 1977, 1978, 1979, 1980, 1981, 1982, 1983, 1984, 1985, 1986, 1987, 1988, 1989, 1990] (by decide +kernel) (by decide +kernel)) (goodIn_sub (fun _ h => List.mem_append_left _ (List.mem_append_left _ (List.mem_append_left _ (List.mem_append_left _ (List.mem_append_left _ (List.mem_append_left _ (List.mem_append_left _ (List.mem_append_right _ h)))))))) (by decide +kernel))) (goodIn_sub (fun _ h => List.mem_append_left _ (List.mem_append_left _ (List.mem_append_left _ (List.mem_append_left _ (List.mem_append_right _ h))))) (by decide +kernel))) (goodIn_sub (fun _ h => List.mem_append_left _ (List.mem_append_left _ (List.mem_append_left _ (List.mem_append_right _ h)))) (by decide +kernel))) (goodIn_sub (fun _ h => List.mem_append_left _ (List.mem_append_left _ (List.mem_append_right _ h))) (by decide +kernel))
set_option maxRecDepth 20000 in
theorem gL_law_L_contact : GoodIn wsL_law (va_wsS RL 254 yL_contact wsL_contact) := goodIn_app (goodIn_of _ (by decide +kernel)) ggL_law_L_contact
set_option maxRecDepth 20000 in
theorem ggL_law_X12_contact : GoodIn wsL_law wsX12_contact := goodIn_ca (goodIn_r _ [473, 474, 475, 476, 5, 477, 194, 297, 298, 299, 300, 66, 195, 196, 197, 65, 198, 199, 187, 188, 189, 436, 437, 438, 439, 301, 302, 303, 304, 305, 306, 307, 308, 309, 310, 311, 312, 313, 314, 315, 316, 317, 318, 319, 320, 321, 93, 478, 479, 480, 481, 482, 483, 484, 485, 182, 486, 487, 233, 488, 337, 338, 339, 186, 340, 209, 210, 489, 490, 491, 492, 493, 494, 495, 359, 360, 361, 362, 363, 364, 496, 497, 498, 499, 500, 1913, 1914, 1915, 1916, 1917, 1918, 1919, 1920, 1921, 1922, 1923, 1924, 1925, 1926, 1927, 1928, 1929, 1930, 1931, 1932, 1933, 1934, 1935, 1936, 1937, 1938, 1939, 1940, 1941, 1942, 1943, 1944, 1945, 1946, 1968, 1969, 1970, 1998, 1999, 2000, 2001, 2002, 2003, 2004, 2005, 2006, 2007, 2008, 2009, 2010, 2011, 2012, 2013, 2014, 2015, 2016, 2017, 2018, 2019, 2020] (by decide +kernel) (by decide +kernel)) (goodIn_sub (fun _ h => List.mem_append_left _ (List.mem_append_left _ (List.mem_append_right _ h))) (by decide +kernel))
set_option maxRecDepth 20000 in
theorem gL_law_X12_contact : GoodIn wsL_law (wsV RL 256 RX12 yX12_contact wsX12_contact) := goodIn_app (goodIn_of _ (by decide +kernel)) ggL_law_X12_contact
set_option maxRecDepth 20000 in
theorem ggL_law_L_overlap : GoodIn wsL_law wsL_overlap := goodIn_ca (goodIn_ca (goodIn_ca (goodIn_ca (goodIn_r _ [503, 272, 273, 504, 505, 506, 2, 507, 280, 281, 282, 283, 284, 285, 117, 15, 447, 448, 449, 428, 429, 430, 119, 431, 134, 135, 286, 287, 288, 289, 290, 508, 509, 510, 511, 512, 259, 233, 260, 513, 514, 515, 516, 457, 517, 456, 1902, 1903, 1904, 1905, 1906, 1907, 1908, 1909, 1910, 1911, 1912, 1971, 1972, 1973, 1974, 1975, 1976, 1977, 1978, 1979, 1980, 1981, 1982, 1983, 1984, 1985, 1986, 1987, 1988, 1989, 1990] (by decide +kernel) (by decide +kernel)) (goodIn_sub (fun _ h => List.mem_append_left _ (List.mem_append_left _ (List.mem_append_left _ (List.mem_append_left _ (List.mem_append_left _ (List.mem_append_left _ (List.mem_append_left _ (List.mem_append_right _ h)))))))) (by decide +kernel))) (goodIn_sub (fun _ h => List.mem_append_left _ (List.mem_append_left _ (List.mem_append_left _ (List.mem_append_left _ (List.mem_append_right _ h))))) (by decide +kernel))) (goodIn_sub (fun _ h => List.mem_append_left _ (List.mem_append_left _ (List.mem_append_left _ (List.mem_append_right _ h)))) (by decide +kernel))) (goodIn_sub (fun _ h => List.mem_append_left _ (List.mem_append_left _ (List.mem_append_right _ h))) (by decide +kernel))
set_option maxRecDepth 20000 in
theorem gL_law_L_overlap : GoodIn wsL_law (va_wsS RL 257 yL_overlap wsL_overlap) := goodIn_app (goodIn_of _ (by decide +kernel)) ggL_law_L_overlap
set_option maxRecDepth 20000 in
theorem ggL_law_X12_overlap : GoodIn wsL_law wsX12_overlap := goodIn_ca (goodIn_r _ [521, 474, 475, 476, 5, 477, 194, 297, 298, 299, 300, 66, 195, 196, 197, 65, 198, 199, 187, 188, 189, 436, 437, 438, 439, 301, 302, 303, 304, 305, 306, 307, 308, 309, 310, 311, 312, 313, 314, 315, 316, 317, 318, 319, 320, 321, 93, 522, 523, 524, 525, 259, 233, 260, 526, 515, 516, 485, 527, 1913, 1914, 1915, 1916, 1917, 1918, 1919, 1920, 1921, 1922, 1923, 1924, 1925, 1926, 1927, 1928, 1929, 1930, 1931, 1932, 1933, 1934, 1935, 1936, 1937, 1938, 1939, 1940, 1941, 1942, 1943, 1944, 1945, 1946, 1968, 1969, 1970, 1998, 1999, 2000, 2001, 2002, 2003, 2004, 2005, 2006, 2007, 2008, 2009, 2010, 2011, 2012, 2013, 2014, 2015, 2016, 2017, 2018, 2019, 2020] (by decide +kernel) (by decide +kernel)) (goodIn_sub (fun _ h => List.mem_append_left _ (List.mem_append_left _ (List.mem_append_right _ h))) (by decide +kernel))
set_option maxRecDepth 20000 in
theorem gL_law_X12_overlap : GoodIn wsL_law (wsV RL 259 RX12 yX12_overlap wsX12_overlap) := goodIn_app (goodIn_of _ (by decide +kernel)) ggL_law_X12_overlap
set_option maxRecDepth 20000 in
theorem ggL_law_L_runsWell : GoodIn wsL_law wsL_runsWell := goodIn_ca (goodIn_ca (goodIn_ca (goodIn_ca (goodIn_r _ [530, 272, 273, 531, 532, 533, 2, 534, 279, 535, 280, 281, 282, 283, 284, 285, 117, 15, 447, 448, 449, 428, 429, 430, 119, 431, 134, 135, 286, 287, 288, 289, 290, 536, 537, 538, 539, 133, 374, 375, 400, 401, 450, 451, 452, 453, 454, 455, 456, 457, 458, 329, 330, 331, 332, 459, 460, 461, 462, 463, 464, 465, 349, 350, 351, 352, 353, 466, 467, 468, 469, 508, 509, 510, 511, 512, 259, 233, 260, 513, 514, 515, 516, 517, 1971, 1972, 1973, 1974, 1975, 1976, 1977, 1978, 1979, 1980, 1981, 1982, 1983, 1984, 1985, 1986, 1987, 1988, 1989, 1990, 1902, 1903, 1904, 1905, 1906, 1907, 1908, 1909, 1910, 1911, 1912] (by decide +kernel) (by decide +kernel)) (goodIn_sub (fun _ h => List.mem_append_left _ (List.mem_append_left _ (List.mem_append_left _ (List.mem_append_left _ (List.mem_append_left _ (List.mem_append_left _ (List.mem_append_left _ (List.mem_append_right _ h)))))))) (by decide +kernel))) (goodIn_sub (fun _ h => List.mem_append_left _ (List.mem_append_left _ (List.mem_append_left _ (List.mem_append_left _ (List.mem_append_right _ h))))) (by decide +kernel))) (goodIn_sub (fun _ h => List.mem_append_left _ (List.mem_append_left _ (List.mem_append_left _ (List.mem_append_right _ h)))) (by decide +kernel))) (goodIn_sub (fun _ h => List.mem_append_left _ (List.mem_append_left _ (List.mem_append_right _ h))) (by decide +kernel))
set_option maxRecDepth 20000 in
theorem gL_law_L_runsWell : GoodIn wsL_law (va_wsS RL 260 yL_runsWell wsL_runsWell) := goodIn_app (goodIn_of _ (by decide +kernel)) ggL_law_L_runsWell
set_option maxRecDepth 20000 in
theorem ggL_law_X12_runsWell : GoodIn wsL_law wsX12_runsWell := goodIn_ca (goodIn_r _ [543, 544, 474, 475, 476, 5, 477, 194, 297, 298, 299, 300, 66, 195, 196, 197, 65, 198, 199, 187, 188, 189, 436, 437, 438, 439, 301, 302, 303, 304, 305, 306, 307, 308, 309, 310, 311, 312, 313, 314, 315, 316, 317, 318, 319, 320, 321, 93, 545, 546, 547, 186, 548, 549, 381, 382, 383, 209, 550, 407, 408, 409, 478, 479, 480, 481, 482, 483, 484, 485, 182, 486, 487, 233, 488, 337, 338, 339, 340, 210, 489, 490, 491, 492, 493, 494, 495, 359, 360, 361, 362, 363, 364, 496, 497, 498, 499, 500, 522, 523, 524, 525, 259, 260, 526, 515, 516, 527, 1998, 1999, 2000, 2001, 2002, 2003, 2004, 2005, 2006, 2007, 2008, 2009, 2010, 2011, 2012, 2013, 2014, 2015, 2016, 2017, 2018, 2019, 2020, 1913, 1914, 1915, 1916, 1917, 1918, 1919, 1920, 1921, 1922, 1923, 1924, 1925, 1926, 1927, 1928, 1929, 1930, 1931, 1932, 1933, 1934, 1935, 1936, 1937, 1938, 1939, 1940, 1941, 1942, 1943, 1944, 1945, 1946, 1968, 1969, 1970] (by decide +kernel) (by decide +kernel)) (goodIn_sub (fun _ h => List.mem_append_left _ (List.mem_append_left _ (List.mem_append_right _ h))) (by decide +kernel))
set_option maxRecDepth 20000 in
theorem gL_law_X12_runsWell : GoodIn wsL_law (wsV RL 262 RX12 yX12_runsWell wsX12_runsWell) := goodIn_app (goodIn_of _ (by decide +kernel)) ggL_law_X12_runsWell
set_option maxRecDepth 20000 in
theorem ggL_law_L_slide : GoodIn wsL_law wsL_slide := goodIn_ca (goodIn_ca (goodIn_ca (goodIn_r _ [553, 272, 273, 554, 555, 556, 2, 557, 279, 558, 559, 233, 560, 280, 281, 282, 283, 284, 285, 117, 15, 447, 448, 449, 428, 429, 430, 119, 431, 134, 135, 286, 287, 288, 289, 290, 561, 562, 563, 564, 565, 463, 466, 330, 331, 332, 133, 566, 460, 461, 462, 464, 465, 349, 350, 351, 352, 353, 467, 468, 1971, 1972, 1973, 1974, 1975, 1976, 1977, 1978, 1979, 1980, 1981, 1982, 1983, 1984, 1985, 1986, 1987, 1988, 1989, 1990, 1902, 1903, 1904, 1905, 1906, 1907, 1908, 1909, 1910, 1911, 1912] (by decide +kernel) (by decide +kernel)) (goodIn_sub (fun _ h => List.mem_append_left _ (List.mem_append_left _ (List.mem_append_left _ (List.mem_append_left _ (List.mem_append_left _ (List.mem_append_left _ (List.mem_append_left _ (List.mem_append_right _ h)))))))) (by decide +kernel))) (goodIn_sub (fun _ h => List.mem_append_left _ (List.mem_append_left _ (List.mem_append_left _ (List.mem_append_left _ (List.mem_append_right _ h))))) (by decide +kernel))) (goodIn_sub (fun _ h => List.mem_append_left _ (List.mem_append_left _ (List.mem_append_left _ (List.mem_append_right _ h)))) (by decide +kernel))
set_option maxRecDepth 20000 in
theorem gL_law_L_slide : GoodIn wsL_law (va_wsS RL 263 yL_slide wsL_slide) := goodIn_app (goodIn_of _ (by decide +kernel)) ggL_law_L_slide
set_option maxRecDepth 20000 in
theorem ggL_law_X12_slide : GoodIn wsL_law wsX12_slide := goodIn_r _ [570, 474, 475, 476, 5, 477, 194, 297, 298, 299, 300, 66, 195, 196, 197, 65, 198, 199, 187, 188, 189, 436, 437, 438, 439, 301, 302, 303, 304, 305, 306, 307, 308, 309, 310, 311, 312, 313, 314, 315, 316, 317, 318, 319, 320, 321, 93, 571, 572, 573, 574, 559, 233, 560, 575, 576, 577, 186, 578, 579, 493, 580, 490, 491, 492, 494, 495, 359, 360, 361, 362, 210, 363, 364, 338, 339, 340, 209, 496, 497, 498, 499, 1998, 1999, 2000, 2001, 2002, 2003, 2004, 2005, 2006, 2007, 2008, 2009, 2010, 2011, 2012, 2013, 2014, 2015, 2016, 2017, 2018, 2019, 2020, 1913, 1914, 1915, 1916, 1917, 1918, 1919, 1920, 1921, 1922, 1923, 1924, 1925, 1926, 1927, 1928, 1929, 1930, 1931, 1932, 1933, 1934, 1935, 1936, 1937, 1938, 1939, 1940, 1941, 1942, 1943, 1944, 1945, 1946, 1968, 1969, 1970] (by decide +kernel) (by decide +kernel)
set_option maxRecDepth 20000 in
theorem gL_law_X12_slide : GoodIn wsL_law (wsV RL 265 RX12 yX12_slide wsX12_slide) := goodIn_app (goodIn_of _ (by decide +kernel)) ggL_law_X12_slide
set_option maxRecDepth 20000 in
theorem ggL_law_L_balance : GoodIn wsL_law wsL_balance := goodIn_ca (goodIn_ca (goodIn_ca (goodIn_ca (goodIn_r _ [583, 272, 273, 584, 585, 586, 587, 2, 588, 589, 590, 278, 279, 280, 281, 282, 283, 284, 285, 117, 15, 447, 448, 449, 428, 429, 430, 119, 431, 134, 135, 286, 287, 288, 289, 290, 591, 592, 593, 594, 558, 559, 233, 560, 595, 596, 597, 536, 537, 538, 539, 133, 374, 375, 400, 401, 561, 562, 563, 564, 565, 463, 466, 330, 331, 332, 566, 460, 461, 462, 464, 465, 349, 350, 351, 352, 353, 467, 468, 1971, 1972, 1973, 1974, 1975, 1976, 1977, 1978, 1979, 1980, 1981, 1982, 1983, 1984, 1985, 1986, 1987, 1988, 1989, 1990, 1902, 1903, 1904, 1905, 1906, 1907, 1908, 1909, 1910, 1911, 1912] (by decide +kernel) (by decide +kernel)) (goodIn_sub (fun _ h => List.mem_append_left _ (List.mem_append_left _ (List.mem_append_left _ (List.mem_append_left _ (List.mem_append_left _ (List.mem_append_left _ (List.mem_append_left _ (List.mem_append_right _ h)))))))) (by decide +kernel))) (goodIn_sub (fun _ h => List.mem_append_left _ (List.mem_append_right _ h)) (by decide +kernel))) (goodIn_sub (fun _ h => List.mem_append_left _ (List.mem_append_left _ (List.mem_append_left _ (List.mem_append_left _ (List.mem_append_right _ h))))) (by decide +kernel))) (goodIn_sub (fun _ h => List.mem_append_left _ (List.mem_append_left _ (List.mem_append_left _ (List.mem_append_right _ h)))) (by decide +kernel))
set_option maxRecDepth 20000 in
theorem gL_law_L_balance : GoodIn wsL_law (va_wsS RL 266 yL_balance wsL_balance) := goodIn_app (goodIn_of _ (by decide +kernel)) ggL_law_L_balance
set_option maxRecDepth 20000 in
theorem ggL_law_X12_balance : GoodIn wsL_law wsX12_balance := goodIn_r _ [601, 297, 298, 299, 5, 300, 66, 195, 196, 197, 65, 198, 199, 187, 188, 189, 190, 191, 192, 193, 194, 436, 437, 438, 439, 301, 302, 303, 304, 305, 306, 307, 308, 309, 310, 311, 312, 313, 314, 315, 316, 317, 318, 319, 320, 321, 93, 545, 546, 547, 186, 548, 549, 381, 382, 383, 209, 550, 407, 408, 409, 571, 572, 573, 574, 559, 233, 560, 575, 576, 577, 578, 579, 493, 580, 490, 491, 492, 494, 495, 359, 360, 361, 362, 210, 363, 364, 338, 339, 340, 496, 497, 498, 499, 265, 266, 267, 268, 1998, 1999, 2000, 2001, 2002, 2003, 2004, 2005, 2006, 2007, 2008, 2009, 2010, 2011, 2012, 2013, 2014, 2015, 2016, 2017, 2018, 2019, 2020, 1913, 1914, 1915, 1916, 1917, 1918, 1919, 1920, 1921, 1922, 1923, 1924, 1925, 1926, 1927, 1928, 1929, 1930, 1931, 1932, 1933, 1934, 1935, 1936, 1937, 1938, 1939, 1940, 1941, 1942, 1943, 1944, 1945, 1946, 1968, 1969, 1970] (by decide +kernel) (by decide +kernel)
set_option maxRecDepth 20000 in
theorem gL_law_X12_balance : GoodIn wsL_law (wsV RL 268 RX12 yX12_balance wsX12_balance) := goodIn_app (goodIn_of _ (by decide +kernel)) ggL_law_X12_balance
set_option maxRecDepth 20000 in
theorem ggL_law_L_section : GoodIn wsL_law wsL_section := goodIn_ca (goodIn_ca (goodIn_ca (goodIn_ca (goodIn_ca (goodIn_r _ [604, 272, 108, 273, 605, 606, 607, 2, 608, 609, 511, 610, 456, 280, 281, 282, 283, 284, 285, 117, 15, 123, 124, 125, 126, 127, 329, 330, 331, 119, 332, 133, 134, 469, 467, 468, 286, 287, 288, 289, 290, 1971, 1972, 1973, 1974, 1975, 1976, 1977, 1978, 1979, 1980, 1981, 1982, 1983, 1984, 1985, 1986, 1987, 1988, 1989, 1990, 1902, 1903, 1904, 1905, 1906, 1907, 1908, 1909, 1910, 1911, 1912] (by decide +kernel) (by decide +kernel)) (goodIn_sub (fun _ h => List.mem_append_left _ (List.mem_append_left _ (List.mem_append_left _ (List.mem_append_left _ (List.mem_append_left _ (List.mem_append_left _ (List.mem_append_left _ (List.mem_append_right _ h)))))))) (by decide +kernel))) (goodIn_sub (fun _ h => List.mem_append_left _ (List.mem_append_left _ (List.mem_append_right _ h))) (by decide +kernel))) (goodIn_sub (fun _ h => List.mem_append_left _ (List.mem_append_left _ (List.mem_append_left _ (List.mem_append_left _ (List.mem_append_right _ h))))) (by decide +kernel))) (goodIn_sub (fun _ h => List.mem_append_left _ (List.mem_append_left _ (List.mem_append_left _ (List.mem_append_left _ (List.mem_append_left _ (List.mem_append_right _ h)))))) (by decide +kernel))) (goodIn_sub (fun _ h => List.mem_append_left _ (List.mem_append_left _ (List.mem_append_left _ (List.mem_append_right _ h)))) (by decide +kernel))
set_option maxRecDepth 20000 in
theorem gL_law_L_section : GoodIn wsL_law (va_wsS RL 269 yL_section wsL_section) := goodIn_app (goodIn_of _ (by decide +kernel)) ggL_law_L_section
set_option maxRecDepth 20000 in
theorem ggL_law_X12_section : GoodIn wsL_law wsX12_section := goodIn_ca (goodIn_r _ [614, 615, 499, 616, 297, 298, 299, 5, 300, 66, 195, 196, 197, 65, 198, 199, 187, 188, 189, 190, 191, 192, 193, 194, 301, 302, 303, 304, 305, 306, 307, 308, 309, 310, 311, 312, 313, 314, 315, 316, 317, 318, 319, 320, 321, 93, 337, 338, 339, 186, 340, 209, 210, 500, 496, 497, 498, 265, 266, 267, 268, 1998, 1999, 2000, 2001, 2002, 2003, 2004, 2005, 2006, 2007, 2008, 2009, 2010, 2011, 2012, 2013, 2014, 2015, 2016, 2017, 2018, 2019, 2020, 1913, 1914, 1915, 1916, 1917, 1918, 1919, 1920, 1921, 1922, 1923, 1924, 1925, 1926, 1927, 1928, 1929, 1930, 1931, 1932, 1933, 1934, 1935, 1936, 1937, 1938, 1939, 1940, 1941, 1942, 1943, 1944, 1945, 1946, 1968, 1969, 1970] (by decide +kernel) (by decide +kernel)) (goodIn_sub (fun _ h => List.mem_append_left _ (List.mem_append_left _ (List.mem_append_right _ h))) (by decide +kernel))
set_option maxRecDepth 20000 in
theorem gL_law_X12_section : GoodIn wsL_law (wsV RL 271 RX12 yX12_section wsX12_section) := goodIn_app (goodIn_of _ (by decide +kernel)) ggL_law_X12_section
set_option maxRecDepth 20000 in
theorem ggL_law_L_bestPair : GoodIn wsL_law wsL_bestPair := goodIn_ca (goodIn_ca (goodIn_ca (goodIn_r _ [619, 108, 620, 621, 622, 2, 623, 624, 625, 626, 627, 628, 629, 630, 631, 632, 123, 124, 125, 126, 127, 633, 634, 635, 636, 12, 13, 637, 638, 639, 640, 641, 642, 643, 644, 233, 645, 646, 487, 488, 647, 259, 260, 648, 649, 650, 651, 652, 559, 560, 653, 654, 655, 656, 657, 658, 659, 660, 661, 662, 232, 234, 2021, 2022, 2023, 2024, 2025] (by decide +kernel) (by decide +kernel)) (goodIn_sub (fun _ h => List.mem_append_left _ (List.mem_append_left _ (List.mem_append_left _ (List.mem_append_left _ (List.mem_append_left _ (List.mem_append_left _ (List.mem_append_left _ (List.mem_append_right _ h)))))))) (by decide +kernel))) (goodIn_sub (fun _ h => List.mem_append_left _ (List.mem_append_left _ (List.mem_append_left _ (List.mem_append_left _ (List.mem_append_left _ (List.mem_append_right _ h)))))) (by decide +kernel))) (goodIn_sub (fun _ h => List.mem_append_left _ (List.mem_append_left _ (List.mem_append_right _ h))) (by decide +kernel))
set_option maxRecDepth 20000 in
theorem gL_law_L_bestPair : GoodIn wsL_law (va_wsS RL 272 yL_bestPair wsL_bestPair) := goodIn_app (goodIn_of _ (by decide +kernel)) ggL_law_L_bestPair
set_option maxRecDepth 20000 in
theorem ggL_law_X12_bestPair : GoodIn wsL_law wsX12_bestPair := goodIn_ca (goodIn_r _ [666, 667, 668, 669, 670, 5, 671, 672, 177, 187, 188, 189, 190, 191, 192, 193, 194, 673, 674, 675, 676, 574, 559, 233, 560, 677, 678, 679, 680, 681, 682, 683, 684, 685, 265, 266, 267, 268, 1913, 1914, 1915, 1916, 1917, 1918, 1919, 1920, 1921, 1922, 1923, 1924, 1925, 1926, 1927, 1928, 1929, 1930, 1931, 1932, 1933, 1934, 1935, 1936, 1937, 1938, 1939, 1940, 1941, 1942, 1943, 1944, 1945, 1946] (by decide +kernel) (by decide +kernel)) (goodIn_sub (fun _ h => List.mem_append_left _ (List.mem_append_left _ (List.mem_append_right _ h))) (by decide +kernel))
set_option maxRecDepth 20000 in
theorem gL_law_X12_bestPair : GoodIn wsL_law (wsV RL 274 RX12 yX12_bestPair wsX12_bestPair) := goodIn_app (goodIn_of _ (by decide +kernel)) ggL_law_X12_bestPair
set_option maxRecDepth 20000 in
theorem ggL_law_L_bestMate : GoodIn wsL_law wsL_bestMate := goodIn_ca (goodIn_ca (goodIn_ca (goodIn_r _ [688, 108, 689, 690, 691, 2, 692, 624, 625, 626, 627, 628, 629, 630, 631, 632, 123, 124, 125, 126, 127, 633, 634, 635, 636, 12, 13, 637, 638, 639, 640, 641, 642, 643, 644, 233, 645, 646, 487, 488, 647, 259, 260, 648, 649, 650, 651, 652, 559, 560, 653, 654, 655, 656, 657, 658, 659, 660, 661, 662, 232, 234, 2021, 2022, 2023, 2024, 2025] (by decide +kernel) (by decide +kernel)) (goodIn_sub (fun _ h => List.mem_append_left _ (List.mem_append_left _ (List.mem_append_left _ (List.mem_append_left _ (List.mem_append_left _ (List.mem_append_left _ (List.mem_append_left _ (List.mem_append_right _ h)))))))) (by decide +kernel))) (goodIn_sub (fun _ h => List.mem_append_left _ (List.mem_append_left _ (List.mem_append_left _ (List.mem_append_left _ (List.mem_append_left _ (List.mem_append_right _ h)))))) (by decide +kernel))) (goodIn_sub (fun _ h => List.mem_append_left _ (List.mem_append_left _ (List.mem_append_right _ h))) (by decide +kernel))
set_option maxRecDepth 20000 in
theorem gL_law_L_bestMate : GoodIn wsL_law (va_wsS RL 275 yL_bestMate wsL_bestMate) := goodIn_app (goodIn_of _ (by decide +kernel)) ggL_law_L_bestMate
set_option maxRecDepth 20000 in
theorem ggL_law_X12_bestMate : GoodIn wsL_law wsX12_bestMate := goodIn_ca (goodIn_r _ [696, 677, 668, 669, 670, 5, 671, 672, 177, 187, 188, 189, 190, 191, 192, 193, 194, 673, 674, 675, 676, 667, 574, 559, 233, 560, 678, 679, 680, 681, 682, 683, 684, 685, 265, 266, 267, 268, 1913, 1914, 1915, 1916, 1917, 1918, 1919, 1920, 1921, 1922, 1923, 1924, 1925, 1926, 1927, 1928, 1929, 1930, 1931, 1932, 1933, 1934, 1935, 1936, 1937, 1938, 1939, 1940, 1941, 1942, 1943, 1944, 1945, 1946] (by decide +kernel) (by decide +kernel)) (goodIn_sub (fun _ h => List.mem_append_left _ (List.mem_append_left _ (List.mem_append_right _ h))) (by decide +kernel))
set_option maxRecDepth 20000 in
theorem gL_law_X12_bestMate : GoodIn wsL_law (wsV RL 277 RX12 yX12_bestMate wsX12_bestMate) := goodIn_app (goodIn_of _ (by decide +kernel)) ggL_law_X12_bestMate
set_option maxRecDepth 20000 in
theorem ggL_law_L_planets : GoodIn wsL_law wsL_planets := goodIn_ca (goodIn_ca (goodIn_ca (goodIn_r _ [699, 108, 700, 701, 702, 2, 703, 120, 121, 122, 123, 124, 125, 126, 127, 704, 705, 706, 707] (by decide +kernel) (by decide +kernel)) (goodIn_sub (fun _ h => List.mem_append_left _ (List.mem_append_left _ (List.mem_append_left _ (List.mem_append_left _ (List.mem_append_left _ (List.mem_append_left _ (List.mem_append_left _ (List.mem_append_right _ h)))))))) (by decide +kernel))) (goodIn_sub (fun _ h => List.mem_append_left _ (List.mem_append_left _ (List.mem_append_left _ (List.mem_append_left _ (List.mem_append_left _ (List.mem_append_right _ h)))))) (by decide +kernel))) (goodIn_sub (fun _ h => List.mem_append_left _ (List.mem_append_left _ (List.mem_append_right _ h))) (by decide +kernel))
set_option maxRecDepth 20000 in
theorem gL_law_L_planets : GoodIn wsL_law (va_wsS RL 278 yL_planets wsL_planets) := goodIn_app (goodIn_of _ (by decide +kernel)) ggL_law_L_planets
set_option maxRecDepth 20000 in
theorem ggL_law_X12_planets : GoodIn wsL_law wsX12_planets := goodIn_ca (goodIn_r _ [711, 177, 178, 712, 616, 194, 187, 188, 5, 189, 713, 714, 715, 1913, 1914, 1915, 1916, 1917, 1918, 1919, 1920, 1921, 1922, 1923, 1924, 1925, 1926, 1927, 1928, 1929, 1930, 1931, 1932, 1933, 1934, 1935, 1936, 1937, 1938, 1939, 1940, 1941, 1942, 1943, 1944, 1945, 1946] (by decide +kernel) (by decide +kernel)) (goodIn_sub (fun _ h => List.mem_append_left _ (List.mem_append_left _ (List.mem_append_right _ h))) (by decide +kernel))
set_option maxRecDepth 20000 in
theorem gL_law_X12_planets : GoodIn wsL_law (wsV RL 281 RX12 yX12_planets wsX12_planets) := goodIn_app (goodIn_of _ (by decide +kernel)) ggL_law_X12_planets
set_option maxRecDepth 20000 in
theorem ggL_law_L_rings : GoodIn wsL_law wsL_rings := goodIn_ca (goodIn_ca (goodIn_ca (goodIn_r _ [718, 108, 719, 720, 721, 2, 722, 120, 121, 122, 123, 124, 125, 126, 127, 704, 705, 706, 707] (by decide +kernel) (by decide +kernel)) (goodIn_sub (fun _ h => List.mem_append_left _ (List.mem_append_left _ (List.mem_append_left _ (List.mem_append_left _ (List.mem_append_left _ (List.mem_append_left _ (List.mem_append_left _ (List.mem_append_right _ h)))))))) (by decide +kernel))) (goodIn_sub (fun _ h => List.mem_append_left _ (List.mem_append_left _ (List.mem_append_left _ (List.mem_append_left _ (List.mem_append_left _ (List.mem_append_right _ h)))))) (by decide +kernel))) (goodIn_sub (fun _ h => List.mem_append_left _ (List.mem_append_left _ (List.mem_append_right _ h))) (by decide +kernel))
set_option maxRecDepth 20000 in
theorem gL_law_L_rings : GoodIn wsL_law (va_wsS RL 282 yL_rings wsL_rings) := goodIn_app (goodIn_of _ (by decide +kernel)) ggL_law_L_rings
set_option maxRecDepth 20000 in
theorem ggL_law_X12_rings : GoodIn wsL_law wsX12_rings := goodIn_ca (goodIn_r _ [726, 177, 178, 616, 672, 187, 188, 5, 189, 190, 191, 192, 193, 194, 713, 714, 715, 265, 266, 267, 268, 1913, 1914, 1915, 1916, 1917, 1918, 1919, 1920, 1921, 1922, 1923, 1924, 1925, 1926, 1927, 1928, 1929, 1930, 1931, 1932, 1933, 1934, 1935, 1936, 1937, 1938, 1939, 1940, 1941, 1942, 1943, 1944, 1945, 1946] (by decide +kernel) (by decide +kernel)) (goodIn_sub (fun _ h => List.mem_append_left _ (List.mem_append_left _ (List.mem_append_right _ h))) (by decide +kernel))
set_option maxRecDepth 20000 in
theorem gL_law_X12_rings : GoodIn wsL_law (wsV RL 284 RX12 yX12_rings wsX12_rings) := goodIn_app (goodIn_of _ (by decide +kernel)) ggL_law_X12_rings
set_option maxRecDepth 20000 in
theorem ggL_law_L_wheel : GoodIn wsL_law wsL_wheel := goodIn_ca (goodIn_ca (goodIn_ca (goodIn_r _ [729, 108, 109, 730, 731, 732, 2, 733, 114, 115, 23, 123, 124, 125, 126, 127, 734, 735, 736, 22, 737, 738, 739, 740, 741, 742, 38, 1902, 1903, 1904, 1905, 1906, 1907, 1908, 1909, 1910, 1911, 1912, 1947, 1948, 1949, 1950, 1951, 1952, 1953] (by decide +kernel) (by decide +kernel)) (goodIn_sub (fun _ h => List.mem_append_left _ (List.mem_append_left _ (List.mem_append_left _ (List.mem_append_left _ (List.mem_append_left _ (List.mem_append_left _ (List.mem_append_left _ (List.mem_append_right _ h)))))))) (by decide +kernel))) (goodIn_sub (fun _ h => List.mem_append_left _ (List.mem_append_left _ (List.mem_append_left _ (List.mem_append_left _ (List.mem_append_left _ (List.mem_append_left _ (List.mem_append_right _ h))))))) (by decide +kernel))) (goodIn_sub (fun _ h => List.mem_append_left _ (List.mem_append_left _ (List.mem_append_left _ (List.mem_append_left _ (List.mem_append_left _ (List.mem_append_right _ h)))))) (by decide +kernel))
set_option maxRecDepth 20000 in
theorem gL_law_L_wheel : GoodIn wsL_law (va_wsS RL 285 yL_wheel wsL_wheel) := goodIn_app (goodIn_of _ (by decide +kernel)) ggL_law_L_wheel
set_option maxRecDepth 20000 in
theorem ggL_law_X12_wheel : GoodIn wsL_law wsX12_wheel := goodIn_ca (goodIn_r _ [746, 747, 748, 749, 68, 187, 188, 5, 189, 190, 191, 192, 193, 194, 265, 266, 267, 268, 1913, 1914, 1915, 1916, 1917, 1918, 1919, 1920, 1921, 1922, 1923, 1924, 1925, 1926, 1927, 1928, 1929, 1930, 1931, 1932, 1933, 1934, 1935, 1936, 1937, 1938, 1939, 1940, 1941, 1942, 1943, 1944, 1945, 1946] (by decide +kernel) (by decide +kernel)) (goodIn_sub (fun _ h => List.mem_append_left _ (List.mem_append_left _ (List.mem_append_left _ (List.mem_append_left _ (List.mem_append_left _ (List.mem_append_left _ (List.mem_append_left _ (List.mem_append_right _ h)))))))) (by decide +kernel))
set_option maxRecDepth 20000 in
theorem gL_law_X12_wheel : GoodIn wsL_law (wsV RL 287 RX12 yX12_wheel wsX12_wheel) := goodIn_app (goodIn_of _ (by decide +kernel)) ggL_law_X12_wheel
set_option maxRecDepth 20000 in
theorem ggL_law_L_change : GoodIn wsL_law wsL_change := goodIn_ca (goodIn_ca (goodIn_ca (goodIn_r _ [752, 108, 584, 753, 754, 755, 2, 756, 23, 630, 631, 632, 123, 124, 125, 126, 127, 757, 758, 759, 760, 589, 590, 761, 762, 763, 22, 764, 738, 765, 766, 767, 768, 769, 770, 771, 772, 773, 774, 775, 776, 777, 38, 778, 779, 780, 781, 782, 559, 233, 560, 39, 783, 784, 785, 786, 1902, 1903, 1904, 1905, 1906, 1907, 1908, 1909, 1910, 1911, 1912, 1947, 1948, 1949, 1950, 1951, 1952, 1953] (by decide +kernel) (by decide +kernel)) (goodIn_sub (fun _ h => List.mem_append_left _ (List.mem_append_left _ (List.mem_append_left _ (List.mem_append_left _ (List.mem_append_left _ (List.mem_append_left _ (List.mem_append_left _ (List.mem_append_right _ h)))))))) (by decide +kernel))) (goodIn_sub (fun _ h => List.mem_append_left _ (List.mem_append_left _ (List.mem_append_left _ (List.mem_append_left _ (List.mem_append_left _ (List.mem_append_right _ h)))))) (by decide +kernel))) (goodIn_sub (fun _ h => List.mem_append_left _ (List.mem_append_right _ h)) (by decide +kernel))
set_option maxRecDepth 20000 in
theorem gL_law_L_change : GoodIn wsL_law (va_wsS RL 288 yL_change wsL_change) := goodIn_app (goodIn_of _ (by decide +kernel)) ggL_law_L_change
set_option maxRecDepth 20000 in
theorem ggL_law_X12_change : GoodIn wsL_law wsX12_change := goodIn_ca (goodIn_r _ [790, 616, 749, 69, 791, 792, 5, 793, 672, 187, 188, 189, 190, 191, 192, 193, 194, 794, 795, 796, 797, 798, 799, 800, 801, 70, 68, 802, 803, 804, 805, 806, 807, 808, 574, 559, 233, 560, 265, 266, 267, 268, 1913, 1914, 1915, 1916, 1917, 1918, 1919, 1920, 1921, 1922, 1923, 1924, 1925, 1926, 1927, 1928, 1929, 1930, 1931, 1932, 1933, 1934, 1935, 1936, 1937, 1938, 1939, 1940, 1941, 1942, 1943, 1944, 1945, 1946] (by decide +kernel) (by decide +kernel)) (goodIn_sub (fun _ h => List.mem_append_left _ (List.mem_append_left _ (List.mem_append_left _ (List.mem_append_left _ (List.mem_append_left _ (List.mem_append_left _ (List.mem_append_left _ (List.mem_append_right _ h)))))))) (by decide +kernel))
set_option maxRecDepth 20000 in
theorem gL_law_X12_change : GoodIn wsL_law (wsV RL 290 RX12 yX12_change wsX12_change) := goodIn_app (goodIn_of _ (by decide +kernel)) ggL_law_X12_change
set_option maxRecDepth 20000 in
theorem ggL_law_L_meets : GoodIn wsL_law wsL_meets := goodIn_ca (goodIn_ca (goodIn_ca (goodIn_r _ [811, 108, 584, 812, 813, 814, 2, 815, 816, 23, 630, 631, 632, 123, 124, 125, 126, 127, 757, 758, 759, 760, 589, 590, 761, 762, 763, 22, 764, 738, 765, 766, 767, 768, 769, 770, 771, 772, 773, 774, 775, 776, 777, 38, 778, 779, 780, 781, 782, 559, 233, 560, 39, 817, 818, 819, 820, 821, 1902, 1903, 1904, 1905, 1906, 1907, 1908, 1909, 1910, 1911, 1912, 1947, 1948, 1949, 1950, 1951, 1952, 1953] (by decide +kernel) (by decide +kernel)) (goodIn_sub (fun _ h => List.mem_append_left _ (List.mem_append_left _ (List.mem_append_left _ (List.mem_append_left _ (List.mem_append_left _ (List.mem_append_left _ (List.mem_append_left _ (List.mem_append_right _ h)))))))) (by decide +kernel))) (goodIn_sub (fun _ h => List.mem_append_left _ (List.mem_append_left _ (List.mem_append_left _ (List.mem_append_left _ (List.mem_append_left _ (List.mem_append_right _ h)))))) (by decide +kernel))) (goodIn_sub (fun _ h => List.mem_append_left _ (List.mem_append_right _ h)) (by decide +kernel))
set_option maxRecDepth 20000 in
theorem gL_law_L_meets : GoodIn wsL_law (va_wsS RL 291 yL_meets wsL_meets) := goodIn_app (goodIn_of _ (by decide +kernel)) ggL_law_L_meets
set_option maxRecDepth 20000 in
theorem ggL_law_X12_meets : GoodIn wsL_law wsX12_meets := goodIn_ca (goodIn_r _ [825, 826, 749, 791, 792, 5, 793, 672, 187, 188, 189, 388, 389, 390, 391, 194, 827, 828, 829, 830, 831, 69, 794, 795, 796, 797, 798, 799, 800, 801, 70, 68, 802, 803, 804, 805, 806, 807, 808, 574, 559, 233, 560, 384, 385, 386, 387, 1913, 1914, 1915, 1916, 1917, 1918, 1919, 1920, 1921, 1922, 1923, 1924, 1925, 1926, 1927, 1928, 1929, 1930, 1931, 1932, 1933, 1934, 1935, 1936, 1937, 1938, 1939, 1940, 1941, 1942, 1943, 1944, 1945, 1946] (by decide +kernel) (by decide +kernel)) (goodIn_sub (fun _ h => List.mem_append_left _ (List.mem_append_left _ (List.mem_append_left _ (List.mem_append_left _ (List.mem_append_left _ (List.mem_append_left _ (List.mem_append_left _ (List.mem_append_right _ h)))))))) (by decide +kernel))
set_option maxRecDepth 20000 in
theorem gL_law_X12_meets : GoodIn wsL_law (wsV RL 293 RX12 yX12_meets wsX12_meets) := goodIn_app (goodIn_of _ (by decide +kernel)) ggL_law_X12_meets
set_option maxRecDepth 20000 in
theorem ggL_law_L_setMachine : GoodIn wsL_law wsL_setMachine := goodIn_ca (goodIn_ca (goodIn_r _ [834, 108, 835, 836, 837, 2, 838, 32, 33, 123, 124, 125, 126, 127, 1902, 1903, 1904, 1905, 1906, 1907, 1908, 1909, 1910, 1911, 1912] (by decide +kernel) (by decide +kernel)) (goodIn_sub (fun _ h => List.mem_append_left _ (List.mem_append_left _ (List.mem_append_left _ (List.mem_append_left _ (List.mem_append_left _ (List.mem_append_left _ (List.mem_append_left _ (List.mem_append_right _ h)))))))) (by decide +kernel))) (goodIn_sub (fun _ h => List.mem_append_left _ (List.mem_append_left _ (List.mem_append_left _ (List.mem_append_left _ (List.mem_append_left _ (List.mem_append_right _ h)))))) (by decide +kernel))
set_option maxRecDepth 20000 in
theorem gL_law_L_setMachine : GoodIn wsL_law (va_wsS RL 294 yL_setMachine wsL_setMachine) := goodIn_app (goodIn_of _ (by decide +kernel)) ggL_law_L_setMachine
set_option maxRecDepth 20000 in
theorem ggL_law_X12_setMachine : GoodIn wsL_law wsX12_setMachine := goodIn_r _ [842, 843, 499, 178, 82, 83, 187, 188, 5, 189, 190, 191, 192, 193, 194, 265, 266, 267, 268, 1913, 1914, 1915, 1916, 1917, 1918, 1919, 1920, 1921, 1922, 1923, 1924, 1925, 1926, 1927, 1928, 1929, 1930, 1931, 1932, 1933, 1934, 1935, 1936, 1937, 1938, 1939, 1940, 1941, 1942, 1943, 1944, 1945, 1946] (by decide +kernel) (by decide +kernel)
set_option maxRecDepth 20000 in
theorem gL_law_X12_setMachine : GoodIn wsL_law (wsV RL 296 RX12 yX12_setMachine wsX12_setMachine) := goodIn_app (goodIn_of _ (by decide +kernel)) ggL_law_X12_setMachine
set_option maxRecDepth 20000 in
theorem ggL_law_X12_thrown : GoodIn wsL_law wsX12_thrown := goodIn_r _ [847, 194, 1913, 1914, 1915, 1916, 1917, 1918, 1919, 1920, 1921, 1922, 1923, 1924, 1925, 1926, 1927, 1928, 1929, 1930, 1931, 1932, 1933, 1934, 1935, 1936, 1937, 1938, 1939, 1940, 1941, 1942, 1943, 1944, 1945, 1946] (by decide +kernel) (by decide +kernel)
set_option maxRecDepth 20000 in
theorem gL_law_X12_thrown : GoodIn wsL_law (wsV RL 297 RX12 yX12_thrown wsX12_thrown) := goodIn_app (goodIn_of _ (by decide +kernel)) ggL_law_X12_thrown
set_option maxRecDepth 20000 in
theorem ggL_law_L_hob : GoodIn wsL_law wsL_hob := goodIn_ca (goodIn_ca (goodIn_ca (goodIn_r _ [850, 108, 109, 851, 852, 853, 2, 854, 114, 115, 855, 856, 17, 16, 857, 858, 123, 124, 125, 126, 127, 859, 860, 861, 862, 12, 13, 863, 864, 865, 37, 866, 1902, 1903, 1904, 1905, 1906, 1907, 1908, 1909, 1910, 1911, 1912, 2026, 2027, 2028, 2029, 2030, 2031] (by decide +kernel) (by decide +kernel)) (goodIn_sub (fun _ h => List.mem_append_left _ (List.mem_append_left _ (List.mem_append_left _ (List.mem_append_left _ (List.mem_append_left _ (List.mem_append_left _ (List.mem_append_left _ (List.mem_append_right _ h)))))))) (by decide +kernel))) (goodIn_sub (fun _ h => List.mem_append_left _ (List.mem_append_left _ (List.mem_append_left _ (List.mem_append_left _ (List.mem_append_left _ (List.mem_append_left _ (List.mem_append_right _ h))))))) (by decide +kernel))) (goodIn_sub (fun _ h => List.mem_append_left _ (List.mem_append_left _ (List.mem_append_left _ (List.mem_append_left _ (List.mem_append_left _ (List.mem_append_right _ h)))))) (by decide +kernel))
set_option maxRecDepth 20000 in
theorem gL_law_L_hob : GoodIn wsL_law (va_wsS RL 301 yL_hob wsL_hob) := goodIn_app (goodIn_of _ (by decide +kernel)) ggL_law_L_hob
set_option maxRecDepth 20000 in
theorem ggL_law_X12_hob : GoodIn wsL_law wsX12_hob := goodIn_r _ [870, 179, 180, 871, 872, 873, 874, 67, 875, 876, 877, 187, 188, 5, 189, 190, 191, 192, 193, 194, 195, 196, 197, 65, 198, 199, 878, 879, 880, 881, 12, 13, 37, 882, 883, 884, 885, 886, 213, 214, 215, 216, 217, 218, 93, 219, 220, 221, 222, 223, 224, 225, 226, 227, 228, 229, 230, 92, 231, 232, 233, 234, 235, 236, 237, 238, 239, 240, 241, 242, 243, 244, 245, 246, 247, 248, 249, 250, 251, 252, 253, 254, 255, 256, 257, 258, 259, 260, 261, 262, 263, 264, 265, 266, 267, 268, 1913, 1914, 1915, 1916, 1917, 1918, 1919, 1920, 1921, 1922, 1923, 1924, 1925, 1926, 1927, 1928, 1929, 1930, 1931, 1932, 1933, 1934, 1935, 1936, 1937, 1938, 1939, 1940, 1941, 1942, 1943, 1944, 1945, 1946, 2032, 2033, 2034, 2035, 2036, 2037, 2038, 1968, 1969, 1970] (by decide +kernel) (by decide +kernel)
set_option maxRecDepth 20000 in
theorem gL_law_X12_hob : GoodIn wsL_law (wsV RL 303 RX12 yX12_hob wsX12_hob) := goodIn_app (goodIn_of _ (by decide +kernel)) ggL_law_X12_hob
set_option maxRecDepth 20000 in
theorem ggL_law_L_indexes : GoodIn wsL_law wsL_indexes := goodIn_ca (goodIn_ca (goodIn_ca (goodIn_ca (goodIn_r _ [889, 272, 108, 584, 890, 891, 892, 2, 893, 816, 23, 32, 894, 372, 280, 281, 282, 283, 284, 285, 117, 15, 895, 896, 897, 898, 856, 17, 123, 124, 125, 126, 127, 757, 758, 759, 760, 589, 590, 761, 762, 763, 22, 764, 738, 765, 766, 767, 768, 769, 770, 771, 772, 773, 774, 775, 776, 777, 38, 778, 779, 780, 781, 782, 559, 233, 560, 39, 817, 818, 819, 820, 821, 1902, 1903, 1904, 1905, 1906, 1907, 1908, 1909, 1910, 1911, 1912, 2026, 2027, 2028, 2029, 2030, 2031, 1971, 1972, 1973, 1974, 1975, 1976, 1977, 1978, 1979, 1980, 1981, 1982, 1983, 1984, 1985, 1986, 1987, 1988, 1989, 1990, 1947, 1948, 1949, 1950, 1951, 1952, 1953] (by decide +kernel) (by decide +kernel)) (goodIn_sub (fun _ h => List.mem_append_left _ (List.mem_append_left _ (List.mem_append_left _ (List.mem_append_left _ (List.mem_append_left _ (List.mem_append_left _ (List.mem_append_left _ (List.mem_append_right _ h)))))))) (by decide +kernel))) (goodIn_sub (fun _ h => List.mem_append_left _ (List.mem_append_left _ (List.mem_append_left _ (List.mem_append_left _ (List.mem_append_right _ h))))) (by decide +kernel))) (goodIn_sub (fun _ h => List.mem_append_left _ (List.mem_append_left _ (List.mem_append_left _ (List.mem_append_left _ (List.mem_append_left _ (List.mem_append_right _ h)))))) (by decide +kernel))) (goodIn_sub (fun _ h => List.mem_append_left _ (List.mem_append_right _ h)) (by decide +kernel))
set_option maxRecDepth 20000 in
theorem gL_law_L_indexes : GoodIn wsL_law (va_wsS RL 304 yL_indexes wsL_indexes) := goodIn_app (goodIn_of _ (by decide +kernel)) ggL_law_L_indexes
set_option maxRecDepth 20000 in
theorem ggL_law_X12_indexes : GoodIn wsL_law wsX12_indexes := goodIn_ca (goodIn_r _ [902, 826, 749, 82, 67, 903, 297, 298, 299, 5, 300, 66, 195, 196, 197, 65, 198, 199, 187, 188, 189, 904, 905, 906, 907, 388, 389, 390, 391, 194, 306, 307, 308, 309, 310, 311, 312, 313, 314, 315, 316, 317, 318, 319, 320, 321, 93, 301, 302, 303, 304, 305, 827, 828, 829, 830, 831, 69, 794, 795, 796, 797, 798, 799, 800, 801, 70, 68, 802, 803, 804, 805, 806, 807, 808, 574, 559, 233, 560, 384, 385, 386, 387, 1913, 1914, 1915, 1916, 1917, 1918, 1919, 1920, 1921, 1922, 1923, 1924, 1925, 1926, 1927, 1928, 1929, 1930, 1931, 1932, 1933, 1934, 1935, 1936, 1937, 1938, 1939, 1940, 1941, 1942, 1943, 1944, 1945, 1946, 2032, 2033, 2034, 2035, 2036, 2037, 2038, 1998, 1999, 2000, 2001, 2002, 2003, 2004, 2005, 2006, 2007, 2008, 2009, 2010, 2011, 2012, 2013, 2014, 2015, 2016, 2017, 2018, 2019, 2020, 1968, 1969, 1970] (by decide +kernel) (by decide +kernel)) (goodIn_sub (fun _ h => List.mem_append_left _ (List.mem_append_left _ (List.mem_append_left _ (List.mem_append_left _ (List.mem_append_left _ (List.mem_append_left _ (List.mem_append_left _ (List.mem_append_right _ h)))))))) (by decide +kernel))
set_option maxRecDepth 20000 in
theorem gL_law_X12_indexes : GoodIn wsL_law (wsV RL 306 RX12 yX12_indexes wsX12_indexes) := goodIn_app (goodIn_of _ (by decide +kernel)) ggL_law_X12_indexes
set_option maxRecDepth 20000 in
theorem ggL_law_L_differs : GoodIn wsL_law wsL_differs := goodIn_ca (goodIn_ca (goodIn_ca (goodIn_ca (goodIn_ca (goodIn_r _ [910, 272, 108, 273, 584, 911, 912, 913, 2, 914, 816, 513, 23, 514, 515, 233, 516, 32, 456, 894, 280, 281, 282, 283, 284, 285, 117, 15, 895, 896, 897, 898, 856, 17, 123, 124, 125, 126, 127, 286, 287, 288, 289, 290, 757, 758, 759, 760, 589, 590, 761, 762, 763, 22, 764, 738, 765, 766, 767, 768, 769, 770, 771, 772, 773, 774, 775, 776, 777, 38, 778, 779, 780, 781, 782, 559, 560, 39, 817, 818, 819, 820, 821, 1971, 1972, 1973, 1974, 1975, 1976, 1977, 1978, 1979, 1980, 1981, 1982, 1983, 1984, 1985, 1986, 1987, 1988, 1989, 1990, 1902, 1903, 1904, 1905, 1906, 1907, 1908, 1909, 1910, 1911, 1912, 2026, 2027, 2028, 2029, 2030, 2031, 1947, 1948, 1949, 1950, 1951, 1952, 1953] (by decide +kernel) (by decide +kernel)) (goodIn_sub (fun _ h => List.mem_append_left _ (List.mem_append_left _ (List.mem_append_left _ (List.mem_append_left _ (List.mem_append_left _ (List.mem_append_left _ (List.mem_append_left _ (List.mem_append_right _ h)))))))) (by decide +kernel))) (goodIn_sub (fun _ h => List.mem_append_left _ (List.mem_append_left _ (List.mem_append_left _ (List.mem_append_left _ (List.mem_append_right _ h))))) (by decide +kernel))) (goodIn_sub (fun _ h => List.mem_append_left _ (List.mem_append_left _ (List.mem_append_left _ (List.mem_append_left _ (List.mem_append_left _ (List.mem_append_right _ h)))))) (by decide +kernel))) (goodIn_sub (fun _ h => List.mem_append_left _ (List.mem_append_left _ (List.mem_append_left _ (List.mem_append_right _ h)))) (by decide +kernel))) (goodIn_sub (fun _ h => List.mem_append_left _ (List.mem_append_right _ h)) (by decide +kernel))
set_option maxRecDepth 20000 in
theorem gL_law_L_differs : GoodIn wsL_law (va_wsS RL 307 yL_differs wsL_differs) := goodIn_app (goodIn_of _ (by decide +kernel)) ggL_law_L_differs
set_option maxRecDepth 20000 in
theorem ggL_law_X12_differs : GoodIn wsL_law wsX12_differs := goodIn_ca (goodIn_r _ [918, 826, 749, 526, 515, 233, 516, 82, 67, 903, 297, 298, 299, 5, 300, 66, 195, 196, 197, 65, 198, 199, 187, 188, 189, 904, 905, 906, 907, 388, 389, 390, 391, 194, 301, 302, 303, 304, 305, 306, 307, 308, 309, 310, 311, 312, 313, 314, 315, 316, 317, 318, 319, 320, 321, 93, 827, 828, 829, 830, 831, 69, 794, 795, 796, 797, 798, 799, 800, 801, 70, 68, 802, 803, 804, 805, 806, 807, 808, 574, 559, 560, 384, 385, 386, 387, 1998, 1999, 2000, 2001, 2002, 2003, 2004, 2005, 2006, 2007, 2008, 2009, 2010, 2011, 2012, 2013, 2014, 2015, 2016, 2017, 2018, 2019, 2020, 1913, 1914, 1915, 1916, 1917, 1918, 1919, 1920, 1921, 1922, 1923, 1924, 1925, 1926, 1927, 1928, 1929, 1930, 1931, 1932, 1933, 1934, 1935, 1936, 1937, 1938, 1939, 1940, 1941, 1942, 1943, 1944, 1945, 1946, 2032, 2033, 2034, 2035, 2036, 2037, 2038, 1968, 1969, 1970] (by decide +kernel) (by decide +kernel)) (goodIn_sub (fun _ h => List.mem_append_left _ (List.mem_append_left _ (List.mem_append_left _ (List.mem_append_left _ (List.mem_append_left _ (List.mem_append_left _ (List.mem_append_left _ (List.mem_append_right _ h)))))))) (by decide +kernel))
set_option maxRecDepth 20000 in
theorem gL_law_X12_differs : GoodIn wsL_law (wsV RL 309 RX12 yX12_differs wsX12_differs) := goodIn_app (goodIn_of _ (by decide +kernel)) ggL_law_X12_differs
set_option maxRecDepth 20000 in
theorem ggL_law_L_shoulder : GoodIn wsL_law wsL_shoulder := goodIn_ca (goodIn_ca (goodIn_ca (goodIn_r _ [921, 272, 108, 922, 923, 924, 2, 925, 116, 926, 280, 281, 282, 283, 284, 285, 117, 15, 123, 124, 125, 126, 127, 1971, 1972, 1973, 1974, 1975, 1976, 1977, 1978, 1979, 1980, 1981, 1982, 1983, 1984, 1985, 1986, 1987, 1988, 1989, 1990, 1902, 1903, 1904, 1905, 1906, 1907, 1908, 1909, 1910, 1911, 1912] (by decide +kernel) (by decide +kernel)) (goodIn_sub (fun _ h => List.mem_append_left _ (List.mem_append_left _ (List.mem_append_left _ (List.mem_append_left _ (List.mem_append_left _ (List.mem_append_left _ (List.mem_append_left _ (List.mem_append_right _ h)))))))) (by decide +kernel))) (goodIn_sub (fun _ h => List.mem_append_left _ (List.mem_append_left _ (List.mem_append_left _ (List.mem_append_left _ (List.mem_append_right _ h))))) (by decide +kernel))) (goodIn_sub (fun _ h => List.mem_append_left _ (List.mem_append_left _ (List.mem_append_left _ (List.mem_append_left _ (List.mem_append_left _ (List.mem_append_right _ h)))))) (by decide +kernel))
set_option maxRecDepth 20000 in
theorem gL_law_L_shoulder : GoodIn wsL_law (va_wsS RL 310 yL_shoulder wsL_shoulder) := goodIn_app (goodIn_of _ (by decide +kernel)) ggL_law_L_shoulder
set_option maxRecDepth 20000 in
theorem ggL_law_X12_shoulder : GoodIn wsL_law wsX12_shoulder := goodIn_r _ [930, 931, 183, 297, 298, 299, 5, 300, 66, 195, 196, 197, 65, 198, 199, 187, 188, 189, 190, 191, 192, 193, 194, 301, 302, 303, 304, 305, 306, 307, 308, 309, 310, 311, 312, 313, 314, 315, 316, 317, 318, 319, 320, 321, 93, 265, 266, 267, 268, 1998, 1999, 2000, 2001, 2002, 2003, 2004, 2005, 2006, 2007, 2008, 2009, 2010, 2011, 2012, 2013, 2014, 2015, 2016, 2017, 2018, 2019, 2020, 1913, 1914, 1915, 1916, 1917, 1918, 1919, 1920, 1921, 1922, 1923, 1924, 1925, 1926, 1927, 1928, 1929, 1930, 1931, 1932, 1933, 1934, 1935, 1936, 1937, 1938, 1939, 1940, 1941, 1942, 1943, 1944, 1945, 1946, 1968, 1969, 1970] (by decide +kernel) (by decide +kernel)
set_option maxRecDepth 20000 in
theorem gL_law_X12_shoulder : GoodIn wsL_law (wsV RL 312 RX12 yX12_shoulder wsX12_shoulder) := goodIn_app (goodIn_of _ (by decide +kernel)) ggL_law_X12_shoulder
set_option maxRecDepth 20000 in
theorem ggL_law_L_approach : GoodIn wsL_law wsL_approach := goodIn_ca (goodIn_ca (goodIn_r _ [934, 272, 935, 936, 937, 2, 938, 895, 896, 897, 898, 284, 285, 856, 17, 939, 940, 941, 858, 942, 943, 863, 944, 865, 467, 468, 1902, 1903, 1904, 1905, 1906, 1907, 1908, 1909, 1910, 1911, 1912, 2026, 2027, 2028, 2029, 2030, 2031] (by decide +kernel) (by decide +kernel)) (goodIn_sub (fun _ h => List.mem_append_left _ (List.mem_append_left _ (List.mem_append_left _ (List.mem_append_left _ (List.mem_append_left _ (List.mem_append_left _ (List.mem_append_left _ (List.mem_append_right _ h)))))))) (by decide +kernel))) (goodIn_sub (fun _ h => List.mem_append_left _ (List.mem_append_left _ (List.mem_append_left _ (List.mem_append_left _ (List.mem_append_right _ h))))) (by decide +kernel))
set_option maxRecDepth 20000 in
theorem gL_law_L_approach : GoodIn wsL_law (va_wsS RL 313 yL_approach wsL_approach) := goodIn_app (goodIn_of _ (by decide +kernel)) ggL_law_L_approach
set_option maxRecDepth 20000 in
theorem ggL_law_X12_approach : GoodIn wsL_law wsX12_approach := goodIn_r _ [948, 67, 903, 904, 905, 906, 5, 907, 195, 196, 197, 65, 198, 199, 187, 188, 189, 306, 307, 308, 309, 310, 311, 312, 313, 314, 315, 316, 317, 318, 319, 320, 321, 93, 949, 950, 951, 877, 952, 953, 883, 954, 885, 496, 497, 498, 499, 265, 266, 267, 268, 194, 190, 191, 192, 193, 1913, 1914, 1915, 1916, 1917, 1918, 1919, 1920, 1921, 1922, 1923, 1924, 1925, 1926, 1927, 1928, 1929, 1930, 1931, 1932, 1933, 1934, 1935, 1936, 1937, 1938, 1939, 1940, 1941, 1942, 1943, 1944, 1945, 1946, 1968, 1969, 1970, 2032, 2033, 2034, 2035, 2036, 2037, 2038] (by decide +kernel) (by decide +kernel)
set_option maxRecDepth 20000 in
theorem gL_law_X12_approach : GoodIn wsL_law (wsV RL 315 RX12 yX12_approach wsX12_approach) := goodIn_app (goodIn_of _ (by decide +kernel)) ggL_law_X12_approach
set_option maxRecDepth 20000 in
theorem ggL_law_L_cut : GoodIn wsL_law wsL_cut := goodIn_ca (goodIn_ca (goodIn_ca (goodIn_ca (goodIn_ca (goodIn_r _ [957, 272, 108, 273, 958, 959, 960, 2, 961, 278, 894, 962, 963, 964, 965, 372, 280, 281, 282, 283, 284, 285, 117, 15, 895, 896, 897, 898, 856, 17, 123, 124, 125, 126, 127, 966, 967, 968, 858, 969, 970, 863, 971, 864, 972, 973, 974, 940, 941, 942, 943, 944, 865, 467, 468, 975, 976, 977, 978, 979, 866, 286, 287, 288, 289, 290, 980, 981, 982, 983, 1971, 1972, 1973, 1974, 1975, 1976, 1977, 1978, 1979, 1980, 1981, 1982, 1983, 1984, 1985, 1986, 1987, 1988, 1989, 1990, 2026, 2027, 2028, 2029, 2030, 2031, 1902, 1903, 1904, 1905, 1906, 1907, 1908, 1909, 1910, 1911, 1912] (by decide +kernel) (by decide +kernel)) (goodIn_sub (fun _ h => List.mem_append_left _ (List.mem_append_left _ (List.mem_append_left _ (List.mem_append_left _ (List.mem_append_left _ (List.mem_append_left _ (List.mem_append_left _ (List.mem_append_right _ h)))))))) (by decide +kernel))) (goodIn_sub (fun _ h => List.mem_append_left _ (List.mem_append_left _ (List.mem_append_left _ (List.mem_append_left _ (List.mem_append_right _ h))))) (by decide +kernel))) (goodIn_sub (fun _ h => List.mem_append_left _ (List.mem_append_left _ (List.mem_append_left _ (List.mem_append_left _ (List.mem_append_left _ (List.mem_append_right _ h)))))) (by decide +kernel))) (goodIn_sub (fun _ h => List.mem_append_left _ (List.mem_append_left _ (List.mem_append_left _ (List.mem_append_right _ h)))) (by decide +kernel))) (goodIn_sub (fun _ h => List.mem_append_left _ (List.mem_append_left _ (List.mem_append_right _ h))) (by decide +kernel))
set_option maxRecDepth 20000 in
theorem gL_law_L_cut : GoodIn wsL_law (va_wsS RL 316 yL_cut wsL_cut) := goodIn_app (goodIn_of _ (by decide +kernel)) ggL_law_L_cut
set_option maxRecDepth 20000 in
theorem ggL_law_X12_cut : GoodIn wsL_law wsX12_cut := goodIn_ca (goodIn_ca (goodIn_r _ [987, 179, 67, 903, 297, 298, 299, 5, 300, 66, 195, 196, 197, 65, 198, 199, 187, 188, 189, 904, 905, 906, 907, 190, 191, 192, 193, 194, 301, 302, 303, 304, 305, 306, 307, 308, 309, 310, 311, 312, 313, 314, 315, 316, 317, 318, 319, 320, 321, 93, 988, 989, 990, 877, 991, 883, 884, 882, 992, 993, 950, 951, 952, 953, 954, 885, 496, 497, 498, 499, 265, 266, 267, 268, 1913, 1914, 1915, 1916, 1917, 1918, 1919, 1920, 1921, 1922, 1923, 1924, 1925, 1926, 1927, 1928, 1929, 1930, 1931, 1932, 1933, 1934, 1935, 1936, 1937, 1938, 1939, 1940, 1941, 1942, 1943, 1944, 1945, 1946, 1998, 1999, 2000, 2001, 2002, 2003, 2004, 2005, 2006, 2007, 2008, 2009, 2010, 2011, 2012, 2013, 2014, 2015, 2016, 2017, 2018, 2019, 2020, 2032, 2033, 2034, 2035, 2036, 2037, 2038, 1968, 1969, 1970] (by decide +kernel) (by decide +kernel)) (goodIn_sub (fun _ h => List.mem_append_left _ (List.mem_append_left _ (List.mem_append_left _ (List.mem_append_left _ (List.mem_append_left _ (List.mem_append_left _ (List.mem_append_left _ (List.mem_append_right _ h)))))))) (by decide +kernel))) (goodIn_sub (fun _ h => List.mem_append_left _ (List.mem_append_left _ (List.mem_append_right _ h))) (by decide +kernel))
set_option maxRecDepth 20000 in
theorem gL_law_X12_cut : GoodIn wsL_law (wsV RL 318 RX12 yX12_cut wsX12_cut) := goodIn_app (goodIn_of _ (by decide +kernel)) ggL_law_X12_cut
set_option maxRecDepth 20000 in
theorem ggL_law_L_wear : GoodIn wsL_law wsL_wear := goodIn_ca (goodIn_ca (goodIn_r _ [996, 272, 997, 998, 999, 2, 1000, 284, 285, 1001, 895, 896, 897, 898, 856, 17, 2026, 2027, 2028, 2029, 2030, 2031, 1902, 1903, 1904, 1905, 1906, 1907, 1908, 1909, 1910, 1911, 1912] (by decide +kernel) (by decide +kernel)) (goodIn_sub (fun _ h => List.mem_append_left _ (List.mem_append_left _ (List.mem_append_left _ (List.mem_append_left _ (List.mem_append_left _ (List.mem_append_left _ (List.mem_append_left _ (List.mem_append_right _ h)))))))) (by decide +kernel))) (goodIn_sub (fun _ h => List.mem_append_left _ (List.mem_append_left _ (List.mem_append_left _ (List.mem_append_left _ (List.mem_append_right _ h))))) (by decide +kernel))
set_option maxRecDepth 20000 in
theorem gL_law_L_wear : GoodIn wsL_law (va_wsS RL 319 yL_wear wsL_wear) := goodIn_app (goodIn_of _ (by decide +kernel)) ggL_law_L_wear
set_option maxRecDepth 20000 in
theorem ggL_law_X12_wear : GoodIn wsL_law wsX12_wear := goodIn_ca (goodIn_r _ [1005, 67, 903, 904, 905, 906, 5, 907, 195, 196, 197, 65, 198, 199, 187, 188, 189, 306, 307, 308, 309, 310, 311, 312, 313, 314, 315, 316, 317, 318, 319, 320, 321, 93, 265, 266, 267, 268, 194, 190, 191, 192, 193, 1913, 1914, 1915, 1916, 1917, 1918, 1919, 1920, 1921, 1922, 1923, 1924, 1925, 1926, 1927, 1928, 1929, 1930, 1931, 1932, 1933, 1934, 1935, 1936, 1937, 1938, 1939, 1940, 1941, 1942, 1943, 1944, 1945, 1946, 2032, 2033, 2034, 2035, 2036, 2037, 2038, 1968, 1969, 1970] (by decide +kernel) (by decide +kernel)) (goodIn_sub (fun _ h => List.mem_append_left _ (List.mem_append_left _ (List.mem_append_left _ (List.mem_append_left _ (List.mem_append_left _ (List.mem_append_left _ (List.mem_append_left _ (List.mem_append_right _ h)))))))) (by decide +kernel))
set_option maxRecDepth 20000 in
theorem gL_law_X12_wear : GoodIn wsL_law (wsV RL 321 RX12 yX12_wear wsX12_wear) := goodIn_app (goodIn_of _ (by decide +kernel)) ggL_law_X12_wear
set_option maxRecDepth 20000 in
theorem ggL_law_L_regrind : GoodIn wsL_law wsL_regrind := goodIn_ca (goodIn_ca (goodIn_ca (goodIn_r _ [1008, 272, 273, 1009, 1010, 1011, 2, 1012, 963, 1013, 895, 896, 897, 898, 284, 285, 856, 17, 286, 287, 288, 289, 290, 1014, 1015, 1016, 858, 1017, 865, 1018, 866, 2026, 2027, 2028, 2029, 2030, 2031, 1902, 1903, 1904, 1905, 1906, 1907, 1908, 1909, 1910, 1911, 1912] (by decide +kernel) (by decide +kernel)) (goodIn_sub (fun _ h => List.mem_append_left _ (List.mem_append_left _ (List.mem_append_left _ (List.mem_append_left _ (List.mem_append_left _ (List.mem_append_left _ (List.mem_append_left _ (List.mem_append_right _ h)))))))) (by decide +kernel))) (goodIn_sub (fun _ h => List.mem_append_left _ (List.mem_append_left _ (List.mem_append_left _ (List.mem_append_left _ (List.mem_append_right _ h))))) (by decide +kernel))) (goodIn_sub (fun _ h => List.mem_append_left _ (List.mem_append_left _ (List.mem_append_left _ (List.mem_append_right _ h)))) (by decide +kernel))
set_option maxRecDepth 20000 in
theorem gL_law_L_regrind : GoodIn wsL_law (va_wsS RL 322 yL_regrind wsL_regrind) := goodIn_app (goodIn_of _ (by decide +kernel)) ggL_law_L_regrind
set_option maxRecDepth 20000 in
theorem ggL_law_X12_regrind : GoodIn wsL_law wsX12_regrind := goodIn_ca (goodIn_r _ [1022, 67, 903, 904, 905, 906, 5, 907, 195, 196, 197, 65, 198, 199, 187, 188, 189, 190, 191, 192, 193, 194, 306, 307, 308, 309, 310, 311, 312, 313, 314, 315, 316, 317, 318, 319, 320, 321, 93, 265, 266, 267, 268, 1913, 1914, 1915, 1916, 1917, 1918, 1919, 1920, 1921, 1922, 1923, 1924, 1925, 1926, 1927, 1928, 1929, 1930, 1931, 1932, 1933, 1934, 1935, 1936, 1937, 1938, 1939, 1940, 1941, 1942, 1943, 1944, 1945, 1946, 2032, 2033, 2034, 2035, 2036, 2037, 2038, 1968, 1969, 1970] (by decide +kernel) (by decide +kernel)) (goodIn_sub (fun _ h => List.mem_append_left _ (List.mem_append_left _ (List.mem_append_left _ (List.mem_append_left _ (List.mem_append_left _ (List.mem_append_left _ (List.mem_append_left _ (List.mem_append_right _ h)))))))) (by decide +kernel))
set_option maxRecDepth 20000 in
theorem gL_law_X12_regrind : GoodIn wsL_law (wsV RL 324 RX12 yX12_regrind wsX12_regrind) := goodIn_app (goodIn_of _ (by decide +kernel)) ggL_law_X12_regrind
set_option maxRecDepth 20000 in
theorem ggL_law_L_inStep : GoodIn wsL_law wsL_inStep := goodIn_ca (goodIn_ca (goodIn_ca (goodIn_r _ [1025, 108, 1026, 1027, 1028, 2, 1029, 1030, 120, 121, 122, 123, 124, 125, 126, 127, 1031, 1032, 1033, 1034, 660, 661, 662, 232, 233, 234] (by decide +kernel) (by decide +kernel)) (goodIn_sub (fun _ h => List.mem_append_left _ (List.mem_append_left _ (List.mem_append_left _ (List.mem_append_left _ (List.mem_append_left _ (List.mem_append_left _ (List.mem_append_left _ (List.mem_append_right _ h)))))))) (by decide +kernel))) (goodIn_sub (fun _ h => List.mem_append_left _ (List.mem_append_left _ (List.mem_append_right _ h))) (by decide +kernel))) (goodIn_sub (fun _ h => List.mem_append_left _ (List.mem_append_left _ (List.mem_append_left _ (List.mem_append_left _ (List.mem_append_left _ (List.mem_append_right _ h)))))) (by decide +kernel))
set_option maxRecDepth 20000 in
theorem gL_law_L_inStep : GoodIn wsL_law (va_wsS RL 325 yL_inStep wsL_inStep) := goodIn_app (goodIn_of _ (by decide +kernel)) ggL_law_L_inStep
set_option maxRecDepth 20000 in
theorem ggL_law_X12_inStep : GoodIn wsL_law wsX12_inStep := goodIn_ca (goodIn_r _ [1038, 177, 178, 672, 187, 188, 5, 189, 388, 389, 390, 391, 194, 683, 684, 685, 384, 385, 386, 387, 1913, 1914, 1915, 1916, 1917, 1918, 1919, 1920, 1921, 1922, 1923, 1924, 1925, 1926, 1927, 1928, 1929, 1930, 1931, 1932, 1933, 1934, 1935, 1936, 1937, 1938, 1939, 1940, 1941, 1942, 1943, 1944, 1945, 1946] (by decide +kernel) (by decide +kernel)) (goodIn_sub (fun _ h => List.mem_append_left _ (List.mem_append_left _ (List.mem_append_right _ h))) (by decide +kernel))
set_option maxRecDepth 20000 in
theorem gL_law_X12_inStep : GoodIn wsL_law (wsV RL 327 RX12 yX12_inStep wsX12_inStep) := goodIn_app (goodIn_of _ (by decide +kernel)) ggL_law_X12_inStep
set_option maxRecDepth 20000 in
theorem ggL_law_L_clock : GoodIn wsL_law wsL_clock := goodIn_ca (goodIn_ca (goodIn_r _ [1041, 108, 1042, 1043, 1044, 2, 1045, 120, 121, 122, 123, 124, 125, 126, 127, 1046, 1047, 1048, 1049] (by decide +kernel) (by decide +kernel)) (goodIn_sub (fun _ h => List.mem_append_left _ (List.mem_append_left _ (List.mem_append_left _ (List.mem_append_left _ (List.mem_append_left _ (List.mem_append_left _ (List.mem_append_left _ (List.mem_append_right _ h)))))))) (by decide +kernel))) (goodIn_sub (fun _ h => List.mem_append_left _ (List.mem_append_left _ (List.mem_append_left _ (List.mem_append_left _ (List.mem_append_left _ (List.mem_append_right _ h)))))) (by decide +kernel))
set_option maxRecDepth 20000 in
theorem gL_law_L_clock : GoodIn wsL_law (va_wsS RL 328 yL_clock wsL_clock) := goodIn_app (goodIn_of _ (by decide +kernel)) ggL_law_L_clock
set_option maxRecDepth 20000 in
theorem ggL_law_X12_clock : GoodIn wsL_law wsX12_clock := goodIn_ca (goodIn_r _ [1053, 177, 178, 187, 188, 5, 189, 190, 191, 192, 193, 194, 265, 266, 267, 268, 1913, 1914, 1915, 1916, 1917, 1918, 1919, 1920, 1921, 1922, 1923, 1924, 1925, 1926, 1927, 1928, 1929, 1930, 1931, 1932, 1933, 1934, 1935, 1936, 1937, 1938, 1939, 1940, 1941, 1942, 1943, 1944, 1945, 1946] (by decide +kernel) (by decide +kernel)) (goodIn_sub (fun _ h => List.mem_append_left _ (List.mem_append_left _ (List.mem_append_right _ h))) (by decide +kernel))
set_option maxRecDepth 20000 in
theorem gL_law_X12_clock : GoodIn wsL_law (wsV RL 330 RX12 yX12_clock wsX12_clock) := goodIn_app (goodIn_of _ (by decide +kernel)) ggL_law_X12_clock
set_option maxRecDepth 20000 in
theorem ggL_law_L_harden : GoodIn wsL_law wsL_harden := goodIn_ca (goodIn_ca (goodIn_ca (goodIn_ca (goodIn_ca (goodIn_r _ [1056, 272, 108, 273, 1057, 1058, 1059, 2, 1060, 1061, 280, 281, 282, 283, 284, 285, 117, 15, 123, 124, 125, 126, 127, 1062, 1063, 1064, 119, 1065, 1066, 1067, 1068, 1069, 1070, 1071, 1072, 1073, 286, 287, 288, 289, 290, 1074, 1075, 1076, 1077, 1078, 1079, 136, 1080, 1081, 1082, 1083, 1084, 1085, 466, 330, 331, 332, 133, 134, 467, 468, 1971, 1972, 1973, 1974, 1975, 1976, 1977, 1978, 1979, 1980, 1981, 1982, 1983, 1984, 1985, 1986, 1987, 1988, 1989, 1990, 1902, 1903, 1904, 1905, 1906, 1907, 1908, 1909, 1910, 1911, 1912] (by decide +kernel) (by decide +kernel)) (goodIn_sub (fun _ h => List.mem_append_left _ (List.mem_append_left _ (List.mem_append_left _ (List.mem_append_left _ (List.mem_append_left _ (List.mem_append_left _ (List.mem_append_left _ (List.mem_append_right _ h)))))))) (by decide +kernel))) (goodIn_sub (fun _ h => List.mem_append_left _ (List.mem_append_left _ (List.mem_append_left _ (List.mem_append_left _ (List.mem_append_right _ h))))) (by decide +kernel))) (goodIn_sub (fun _ h => List.mem_append_left _ (List.mem_append_left _ (List.mem_append_left _ (List.mem_append_left _ (List.mem_append_left _ (List.mem_append_right _ h)))))) (by decide +kernel))) (goodIn_sub (fun _ h => List.mem_append_left _ (List.mem_append_left _ (List.mem_append_left _ (List.mem_append_right _ h)))) (by decide +kernel))) (goodIn_sub (fun _ h => List.mem_append_left _ (List.mem_append_left _ (List.mem_append_right _ h))) (by decide +kernel))
set_option maxRecDepth 20000 in
theorem gL_law_L_harden : GoodIn wsL_law (va_wsS RL 331 yL_harden wsL_harden) := goodIn_app (goodIn_of _ (by decide +kernel)) ggL_law_L_harden
set_option maxRecDepth 20000 in
theorem ggL_law_X12_harden : GoodIn wsL_law wsX12_harden := goodIn_ca (goodIn_r _ [1089, 843, 1090, 1091, 616, 180, 499, 297, 298, 299, 5, 300, 66, 195, 196, 197, 65, 198, 199, 187, 188, 189, 190, 191, 192, 193, 194, 301, 302, 303, 304, 305, 306, 307, 308, 309, 310, 311, 312, 313, 314, 315, 316, 317, 318, 319, 320, 321, 93, 1092, 1093, 1094, 186, 1095, 1096, 1097, 337, 338, 339, 340, 209, 210, 500, 496, 497, 498, 265, 266, 267, 268, 1998, 1999, 2000, 2001, 2002, 2003, 2004, 2005, 2006, 2007, 2008, 2009, 2010, 2011, 2012, 2013, 2014, 2015, 2016, 2017, 2018, 2019, 2020, 1913, 1914, 1915, 1916, 1917, 1918, 1919, 1920, 1921, 1922, 1923, 1924, 1925, 1926, 1927, 1928, 1929, 1930, 1931, 1932, 1933, 1934, 1935, 1936, 1937, 1938, 1939, 1940, 1941, 1942, 1943, 1944, 1945, 1946, 1968, 1969, 1970] (by decide +kernel) (by decide +kernel)) (goodIn_sub (fun _ h => List.mem_append_left _ (List.mem_append_left _ (List.mem_append_right _ h))) (by decide +kernel))
set_option maxRecDepth 20000 in
theorem gL_law_X12_harden : GoodIn wsL_law (wsV RL 334 RX12 yX12_harden wsX12_harden) := goodIn_app (goodIn_of _ (by decide +kernel)) ggL_law_X12_harden
set_option maxRecDepth 20000 in
theorem ggL_law_L_caseOf : GoodIn wsL_law wsL_caseOf := goodIn_ca (goodIn_ca (goodIn_r _ [1100, 272, 1101, 1102, 1103, 2, 1104, 1105, 280, 281, 282, 283, 284, 285, 117, 15, 1971, 1972, 1973, 1974, 1975, 1976, 1977, 1978, 1979, 1980, 1981, 1982, 1983, 1984, 1985, 1986, 1987, 1988, 1989, 1990, 1902, 1903, 1904, 1905, 1906, 1907, 1908, 1909, 1910, 1911, 1912] (by decide +kernel) (by decide +kernel)) (goodIn_sub (fun _ h => List.mem_append_left _ (List.mem_append_left _ (List.mem_append_left _ (List.mem_append_left _ (List.mem_append_left _ (List.mem_append_left _ (List.mem_append_left _ (List.mem_append_right _ h)))))))) (by decide +kernel))) (goodIn_sub (fun _ h => List.mem_append_left _ (List.mem_append_left _ (List.mem_append_left _ (List.mem_append_left _ (List.mem_append_right _ h))))) (by decide +kernel))
set_option maxRecDepth 20000 in
theorem gL_law_L_caseOf : GoodIn wsL_law (va_wsS RL 335 yL_caseOf wsL_caseOf) := goodIn_app (goodIn_of _ (by decide +kernel)) ggL_law_L_caseOf
set_option maxRecDepth 20000 in
theorem ggL_law_X12_caseOf : GoodIn wsL_law wsX12_caseOf := goodIn_r _ [1109, 297, 298, 299, 5, 300, 66, 195, 196, 197, 65, 198, 199, 187, 188, 189, 301, 302, 303, 304, 305, 306, 307, 308, 309, 310, 311, 312, 313, 314, 315, 316, 317, 318, 319, 320, 321, 93, 1110, 1111, 1112, 186, 1113, 1114, 1115, 1116, 1117, 232, 233, 234, 265, 266, 267, 268, 194, 190, 191, 192, 193, 1913, 1914, 1915, 1916, 1917, 1918, 1919, 1920, 1921, 1922, 1923, 1924, 1925, 1926, 1927, 1928, 1929, 1930, 1931, 1932, 1933, 1934, 1935, 1936, 1937, 1938, 1939, 1940, 1941, 1942, 1943, 1944, 1945, 1946, 1968, 1969, 1970, 1998, 1999, 2000, 2001, 2002, 2003, 2004, 2005, 2006, 2007, 2008, 2009, 2010, 2011, 2012, 2013, 2014, 2015, 2016, 2017, 2018, 2019, 2020] (by decide +kernel) (by decide +kernel)
set_option maxRecDepth 20000 in
theorem gL_law_X12_caseOf : GoodIn wsL_law (wsV RL 337 RX12 yX12_caseOf wsX12_caseOf) := goodIn_app (goodIn_of _ (by decide +kernel)) ggL_law_X12_caseOf
set_option maxRecDepth 20000 in
theorem ggL_law_L_isClean : GoodIn wsL_law wsL_isClean := goodIn_ca (goodIn_ca (goodIn_ca (goodIn_r _ [1120, 272, 273, 1121, 1122, 1123, 2, 1124, 1061, 1125, 280, 281, 282, 283, 284, 285, 117, 15, 286, 287, 288, 289, 290, 1971, 1972, 1973, 1974, 1975, 1976, 1977, 1978, 1979, 1980, 1981, 1982, 1983, 1984, 1985, 1986, 1987, 1988, 1989, 1990, 1902, 1903, 1904, 1905, 1906, 1907, 1908, 1909, 1910, 1911, 1912] (by decide +kernel) (by decide +kernel)) (goodIn_sub (fun _ h => List.mem_append_left _ (List.mem_append_left _ (List.mem_append_left _ (List.mem_append_left _ (List.mem_append_left _ (List.mem_append_left _ (List.mem_append_left _ (List.mem_append_right _ h)))))))) (by decide +kernel))) (goodIn_sub (fun _ h => List.mem_append_left _ (List.mem_append_left _ (List.mem_append_left _ (List.mem_append_left _ (List.mem_append_right _ h))))) (by decide +kernel))) (goodIn_sub (fun _ h => List.mem_append_left _ (List.mem_append_left _ (List.mem_append_left _ (List.mem_append_right _ h)))) (by decide +kernel))
set_option maxRecDepth 20000 in
theorem gL_law_L_isClean : GoodIn wsL_law (va_wsS RL 338 yL_isClean wsL_isClean) := goodIn_app (goodIn_of _ (by decide +kernel)) ggL_law_L_isClean
set_option maxRecDepth 20000 in
theorem ggL_law_X12_isClean : GoodIn wsL_law wsX12_isClean := goodIn_r _ [1129, 297, 298, 299, 5, 300, 66, 195, 196, 197, 65, 198, 199, 187, 188, 189, 388, 389, 390, 391, 194, 301, 302, 303, 304, 305, 306, 307, 308, 309, 310, 311, 312, 313, 314, 315, 316, 317, 318, 319, 320, 321, 93, 384, 385, 386, 387, 1998, 1999, 2000, 2001, 2002, 2003, 2004, 2005, 2006, 2007, 2008, 2009, 2010, 2011, 2012, 2013, 2014, 2015, 2016, 2017, 2018, 2019, 2020, 1913, 1914, 1915, 1916, 1917, 1918, 1919, 1920, 1921, 1922, 1923, 1924, 1925, 1926, 1927, 1928, 1929, 1930, 1931, 1932, 1933, 1934, 1935, 1936, 1937, 1938, 1939, 1940, 1941, 1942, 1943, 1944, 1945, 1946, 1968, 1969, 1970] (by decide +kernel) (by decide +kernel)
set_option maxRecDepth 20000 in
theorem gL_law_X12_isClean : GoodIn wsL_law (wsV RL 340 RX12 yX12_isClean wsX12_isClean) := goodIn_app (goodIn_of _ (by decide +kernel)) ggL_law_X12_isClean
set_option maxRecDepth 20000 in
theorem ggL_law_L_grind : GoodIn wsL_law wsL_grind := goodIn_ca (goodIn_ca (goodIn_ca (goodIn_ca (goodIn_r _ [1132, 272, 108, 273, 1133, 1134, 1135, 2, 1136, 965, 512, 259, 233, 260, 280, 281, 282, 283, 284, 285, 117, 15, 123, 124, 125, 126, 127, 1062, 1063, 1064, 119, 1065, 1066, 1067, 1068, 1069, 1070, 1071, 1072, 1073, 286, 287, 288, 289, 290, 1137, 1138, 1139, 1140, 1082, 1085, 1141, 232, 234, 1142, 1971, 1972, 1973, 1974, 1975, 1976, 1977, 1978, 1979, 1980, 1981, 1982, 1983, 1984, 1985, 1986, 1987, 1988, 1989, 1990, 1902, 1903, 1904, 1905, 1906, 1907, 1908, 1909, 1910, 1911, 1912] (by decide +kernel) (by decide +kernel)) (goodIn_sub (fun _ h => List.mem_append_left _ (List.mem_append_left _ (List.mem_append_left _ (List.mem_append_left _ (List.mem_append_left _ (List.mem_append_left _ (List.mem_append_left _ (List.mem_append_right _ h)))))))) (by decide +kernel))) (goodIn_sub (fun _ h => List.mem_append_left _ (List.mem_append_left _ (List.mem_append_left _ (List.mem_append_left _ (List.mem_append_right _ h))))) (by decide +kernel))) (goodIn_sub (fun _ h => List.mem_append_left _ (List.mem_append_left _ (List.mem_append_left _ (List.mem_append_left _ (List.mem_append_left _ (List.mem_append_right _ h)))))) (by decide +kernel))) (goodIn_sub (fun _ h => List.mem_append_left _ (List.mem_append_left _ (List.mem_append_left _ (List.mem_append_right _ h)))) (by decide +kernel))
set_option maxRecDepth 20000 in
theorem gL_law_L_grind : GoodIn wsL_law (va_wsS RL 341 yL_grind wsL_grind) := goodIn_app (goodIn_of _ (by decide +kernel)) ggL_law_L_grind
set_option maxRecDepth 20000 in
theorem ggL_law_X12_grind : GoodIn wsL_law wsX12_grind := goodIn_r _ [1146, 843, 1147, 525, 259, 233, 260, 297, 298, 299, 5, 300, 66, 195, 196, 197, 65, 198, 199, 187, 188, 189, 190, 191, 192, 193, 194, 301, 302, 303, 304, 305, 306, 307, 308, 309, 310, 311, 312, 313, 314, 315, 316, 317, 318, 319, 320, 321, 93, 1092, 1093, 1094, 186, 1095, 1096, 1097, 265, 266, 267, 268, 1998, 1999, 2000, 2001, 2002, 2003, 2004, 2005, 2006, 2007, 2008, 2009, 2010, 2011, 2012, 2013, 2014, 2015, 2016, 2017, 2018, 2019, 2020, 1913, 1914, 1915, 1916, 1917, 1918, 1919, 1920, 1921, 1922, 1923, 1924, 1925, 1926, 1927, 1928, 1929, 1930, 1931, 1932, 1933, 1934, 1935, 1936, 1937, 1938, 1939, 1940, 1941, 1942, 1943, 1944, 1945, 1946, 1968, 1969, 1970] (by decide +kernel) (by decide +kernel)
set_option maxRecDepth 20000 in
theorem gL_law_X12_grind : GoodIn wsL_law (wsV RL 343 RX12 yX12_grind wsX12_grind) := goodIn_app (goodIn_of _ (by decide +kernel)) ggL_law_X12_grind
set_option maxRecDepth 20000 in
theorem ggL_law_L_stateOf : GoodIn wsL_law wsL_stateOf := goodIn_ca (goodIn_ca (goodIn_r _ [1150, 272, 1151, 1152, 1153, 2, 1154, 1155, 1156, 1061, 278, 280, 281, 282, 283, 284, 285, 117, 15, 1157, 1069, 1070, 119, 1071, 1072, 1073, 1971, 1972, 1973, 1974, 1975, 1976, 1977, 1978, 1979, 1980, 1981, 1982, 1983, 1984, 1985, 1986, 1987, 1988, 1989, 1990, 1902, 1903, 1904, 1905, 1906, 1907, 1908, 1909, 1910, 1911, 1912] (by decide +kernel) (by decide +kernel)) (goodIn_sub (fun _ h => List.mem_append_left _ (List.mem_append_left _ (List.mem_append_left _ (List.mem_append_left _ (List.mem_append_left _ (List.mem_append_left _ (List.mem_append_left _ (List.mem_append_right _ h)))))))) (by decide +kernel))) (goodIn_sub (fun _ h => List.mem_append_left _ (List.mem_append_left _ (List.mem_append_left _ (List.mem_append_left _ (List.mem_append_right _ h))))) (by decide +kernel))
set_option maxRecDepth 20000 in
theorem gL_law_L_stateOf : GoodIn wsL_law (va_wsS RL 344 yL_stateOf wsL_stateOf) := goodIn_app (goodIn_of _ (by decide +kernel)) ggL_law_L_stateOf
set_option maxRecDepth 20000 in
theorem ggL_law_X12_stateOf : GoodIn wsL_law wsX12_stateOf := goodIn_r _ [1161, 194, 297, 298, 299, 5, 300, 66, 195, 196, 197, 65, 198, 199, 187, 188, 189, 301, 302, 303, 304, 305, 306, 307, 308, 309, 310, 311, 312, 313, 314, 315, 316, 317, 318, 319, 320, 321, 93, 1092, 1093, 1094, 186, 1095, 1096, 1097, 1913, 1914, 1915, 1916, 1917, 1918, 1919, 1920, 1921, 1922, 1923, 1924, 1925, 1926, 1927, 1928, 1929, 1930, 1931, 1932, 1933, 1934, 1935, 1936, 1937, 1938, 1939, 1940, 1941, 1942, 1943, 1944, 1945, 1946, 1998, 1999, 2000, 2001, 2002, 2003, 2004, 2005, 2006, 2007, 2008, 2009, 2010, 2011, 2012, 2013, 2014, 2015, 2016, 2017, 2018, 2019, 2020, 1968, 1969, 1970] (by decide +kernel) (by decide +kernel)
set_option maxRecDepth 20000 in
theorem gL_law_X12_stateOf : GoodIn wsL_law (wsV RL 346 RX12 yX12_stateOf wsX12_stateOf) := goodIn_app (goodIn_of _ (by decide +kernel)) ggL_law_X12_stateOf
set_option maxRecDepth 20000 in
theorem ggL_law_L_chart : GoodIn wsL_law wsL_chart := goodIn_ca (goodIn_ca (goodIn_ca (goodIn_ca (goodIn_r _ [1164, 272, 108, 1165, 1166, 1167, 2, 1168, 372, 1169, 280, 281, 282, 283, 284, 285, 117, 15, 123, 124, 125, 126, 127, 1170, 1171, 1172, 139, 1173, 151, 1174, 1175, 1176, 1177, 1178, 487, 233, 488, 1179, 644, 645, 152, 1180, 1181, 1182, 1183, 1184, 1971, 1972, 1973, 1974, 1975, 1976, 1977, 1978, 1979, 1980, 1981, 1982, 1983, 1984, 1985, 1986, 1987, 1988, 1989, 1990, 1902, 1903, 1904, 1905, 1906, 1907, 1908, 1909, 1910, 1911, 1912, 1991, 1992, 1993] (by decide +kernel) (by decide +kernel)) (goodIn_sub (fun _ h => List.mem_append_left _ (List.mem_append_left _ (List.mem_append_left _ (List.mem_append_left _ (List.mem_append_left _ (List.mem_append_left _ (List.mem_append_left _ (List.mem_append_right _ h)))))))) (by decide +kernel))) (goodIn_sub (fun _ h => List.mem_append_left _ (List.mem_append_left _ (List.mem_append_left _ (List.mem_append_left _ (List.mem_append_right _ h))))) (by decide +kernel))) (goodIn_sub (fun _ h => List.mem_append_left _ (List.mem_append_left _ (List.mem_append_left _ (List.mem_append_left _ (List.mem_append_left _ (List.mem_append_right _ h)))))) (by decide +kernel))) (goodIn_sub (fun _ h => List.mem_append_left _ (List.mem_append_left _ (List.mem_append_right _ h))) (by decide +kernel))
set_option maxRecDepth 20000 in
theorem gL_law_L_chart : GoodIn wsL_law (va_wsS RL 347 yL_chart wsL_chart) := goodIn_app (goodIn_of _ (by decide +kernel)) ggL_law_L_chart
set_option maxRecDepth 20000 in
theorem ggL_law_X12_chart : GoodIn wsL_law wsX12_chart := goodIn_ca (goodIn_r _ [1188, 181, 179, 297, 298, 299, 5, 300, 66, 195, 196, 197, 65, 198, 199, 187, 188, 189, 190, 191, 192, 193, 194, 301, 302, 303, 304, 305, 306, 307, 308, 309, 310, 311, 312, 313, 314, 315, 316, 317, 318, 319, 320, 321, 93, 265, 266, 267, 268, 1998, 1999, 2000, 2001, 2002, 2003, 2004, 2005, 2006, 2007, 2008, 2009, 2010, 2011, 2012, 2013, 2014, 2015, 2016, 2017, 2018, 2019, 2020, 1913, 1914, 1915, 1916, 1917, 1918, 1919, 1920, 1921, 1922, 1923, 1924, 1925, 1926, 1927, 1928, 1929, 1930, 1931, 1932, 1933, 1934, 1935, 1936, 1937, 1938, 1939, 1940, 1941, 1942, 1943, 1944, 1945, 1946, 1968, 1969, 1970] (by decide +kernel) (by decide +kernel)) (goodIn_sub (fun _ h => List.mem_append_left _ (List.mem_append_left _ (List.mem_append_left _ (List.mem_append_left _ (List.mem_append_left _ (List.mem_append_left _ (List.mem_append_left _ (List.mem_append_right _ h)))))))) (by decide +kernel))
set_option maxRecDepth 20000 in
theorem gL_law_X12_chart : GoodIn wsL_law (wsV RL 349 RX12 yX12_chart wsX12_chart) := goodIn_app (goodIn_of _ (by decide +kernel)) ggL_law_X12_chart
set_option maxRecDepth 20000 in
theorem ggL_law_L_total : GoodIn wsL_law wsL_total := goodIn_ca (goodIn_ca (goodIn_r _ [1191, 272, 1192, 1193, 1194, 2, 1195, 1169, 1196, 280, 281, 282, 283, 284, 285, 117, 15, 1971, 1972, 1973, 1974, 1975, 1976, 1977, 1978, 1979, 1980, 1981, 1982, 1983, 1984, 1985, 1986, 1987, 1988, 1989, 1990, 1991, 1992, 1993, 1902, 1903, 1904, 1905, 1906, 1907, 1908, 1909, 1910, 1911, 1912] (by decide +kernel) (by decide +kernel)) (goodIn_sub (fun _ h => List.mem_append_left _ (List.mem_append_left _ (List.mem_append_left _ (List.mem_append_left _ (List.mem_append_left _ (List.mem_append_left _ (List.mem_append_left _ (List.mem_append_right _ h)))))))) (by decide +kernel))) (goodIn_sub (fun _ h => List.mem_append_left _ (List.mem_append_left _ (List.mem_append_left _ (List.mem_append_left _ (List.mem_append_right _ h))))) (by decide +kernel))
set_option maxRecDepth 20000 in
theorem gL_law_L_total : GoodIn wsL_law (va_wsS RL 350 yL_total wsL_total) := goodIn_app (goodIn_of _ (by decide +kernel)) ggL_law_L_total
set_option maxRecDepth 20000 in
theorem ggL_law_X12_total : GoodIn wsL_law wsX12_total := goodIn_ca (goodIn_ca (goodIn_r _ [1200, 297, 298, 299, 5, 300, 66, 195, 196, 197, 65, 198, 199, 187, 188, 189, 301, 302, 303, 304, 305, 306, 307, 308, 309, 310, 311, 312, 313, 314, 315, 316, 317, 318, 319, 320, 321, 93, 1201, 1202, 1203, 186, 1204, 209, 1117, 232, 233, 234, 1205, 259, 260, 204, 1206, 1207, 1208, 1209, 265, 266, 267, 268, 194, 190, 191, 192, 193, 1913, 1914, 1915, 1916, 1917, 1918, 1919, 1920, 1921, 1922, 1923, 1924, 1925, 1926, 1927, 1928, 1929, 1930, 1931, 1932, 1933, 1934, 1935, 1936, 1937, 1938, 1939, 1940, 1941, 1942, 1943, 1944, 1945, 1946, 1968, 1969, 1970, 1998, 1999, 2000, 2001, 2002, 2003, 2004, 2005, 2006, 2007, 2008, 2009, 2010, 2011, 2012, 2013, 2014, 2015, 2016, 2017, 2018, 2019, 2020] (by decide +kernel) (by decide +kernel)) (goodIn_sub (fun _ h => List.mem_append_left _ (List.mem_append_left _ (List.mem_append_left _ (List.mem_append_left _ (List.mem_append_left _ (List.mem_append_left _ (List.mem_append_left _ (List.mem_append_right _ h)))))))) (by decide +kernel))) (goodIn_sub (fun _ h => List.mem_append_left _ (List.mem_append_left _ (List.mem_append_right _ h))) (by decide +kernel))
set_option maxRecDepth 20000 in
theorem gL_law_X12_total : GoodIn wsL_law (wsV RL 352 RX12 yX12_total wsX12_total) := goodIn_app (goodIn_of _ (by decide +kernel)) ggL_law_X12_total
set_option maxRecDepth 20000 in
theorem ggL_law_L_grade : GoodIn wsL_law wsL_grade := goodIn_ca (goodIn_ca (goodIn_r _ [1212, 272, 1213, 1214, 1215, 2, 1216, 280, 281, 282, 283, 284, 285, 117, 15, 1217, 1218, 1219, 119, 1220, 140, 1221, 1141, 232, 233, 234, 1222, 1223, 1224, 1225, 139, 1226, 151, 1227, 515, 516, 1228, 1229, 1230, 1231, 1902, 1903, 1904, 1905, 1906, 1907, 1908, 1909, 1910, 1911, 1912, 1971, 1972, 1973, 1974, 1975, 1976, 1977, 1978, 1979, 1980, 1981, 1982, 1983, 1984, 1985, 1986, 1987, 1988, 1989, 1990, 1991, 1992, 1993] (by decide +kernel) (by decide +kernel)) (goodIn_sub (fun _ h => List.mem_append_left _ (List.mem_append_left _ (List.mem_append_left _ (List.mem_append_left _ (List.mem_append_left _ (List.mem_append_left _ (List.mem_append_left _ (List.mem_append_right _ h)))))))) (by decide +kernel))) (goodIn_sub (fun _ h => List.mem_append_left _ (List.mem_append_left _ (List.mem_append_left _ (List.mem_append_left _ (List.mem_append_right _ h))))) (by decide +kernel))
set_option maxRecDepth 20000 in
theorem gL_law_L_grade : GoodIn wsL_law (va_wsS RL 353 yL_grade wsL_grade) := goodIn_app (goodIn_of _ (by decide +kernel)) ggL_law_L_grade
set_option maxRecDepth 20000 in
theorem ggL_law_X12_grade : GoodIn wsL_law wsX12_grade := goodIn_ca (goodIn_ca (goodIn_r _ [1235, 297, 298, 299, 5, 300, 66, 195, 196, 197, 65, 198, 199, 187, 188, 189, 301, 302, 303, 304, 305, 306, 307, 308, 309, 310, 311, 312, 313, 314, 315, 316, 317, 318, 319, 320, 321, 93, 1236, 1237, 1238, 186, 1239, 1240, 1117, 232, 233, 234, 1241, 1242, 1243, 1244, 209, 204, 1245, 515, 516, 1246, 1247, 1248, 1249, 1250, 1251, 1202, 1203, 1204, 1205, 259, 260, 1206, 1207, 1208, 1209, 265, 266, 267, 268, 194, 190, 191, 192, 193, 1913, 1914, 1915, 1916, 1917, 1918, 1919, 1920, 1921, 1922, 1923, 1924, 1925, 1926, 1927, 1928, 1929, 1930, 1931, 1932, 1933, 1934, 1935, 1936, 1937, 1938, 1939, 1940, 1941, 1942, 1943, 1944, 1945, 1946, 1968, 1969, 1970, 1998, 1999, 2000, 2001, 2002, 2003, 2004, 2005, 2006, 2007, 2008, 2009, 2010, 2011, 2012, 2013, 2014, 2015, 2016, 2017, 2018, 2019, 2020] (by decide +kernel) (by decide +kernel)) (goodIn_sub (fun _ h => List.mem_append_left _ (List.mem_append_left _ (List.mem_append_left _ (List.mem_append_left _ (List.mem_append_left _ (List.mem_append_left _ (List.mem_append_left _ (List.mem_append_right _ h)))))))) (by decide +kernel))) (goodIn_sub (fun _ h => List.mem_append_left _ (List.mem_append_left _ (List.mem_append_right _ h))) (by decide +kernel))
set_option maxRecDepth 20000 in
theorem gL_law_X12_grade : GoodIn wsL_law (wsV RL 355 RX12 yX12_grade wsX12_grade) := goodIn_app (goodIn_of _ (by decide +kernel)) ggL_law_X12_grade
set_option maxRecDepth 20000 in
theorem ggL_law_L_part : GoodIn wsL_law wsL_part := goodIn_ca (goodIn_ca (goodIn_ca (goodIn_ca (goodIn_r _ [1254, 272, 108, 1255, 1256, 1257, 2, 1258, 126, 127, 372, 1169, 280, 281, 282, 283, 284, 285, 117, 15, 1259, 1260, 1261, 139, 1262, 151, 1228, 232, 233, 234, 1263, 259, 260, 1181, 1182, 1183, 1184, 1971, 1972, 1973, 1974, 1975, 1976, 1977, 1978, 1979, 1980, 1981, 1982, 1983, 1984, 1985, 1986, 1987, 1988, 1989, 1990, 1902, 1903, 1904, 1905, 1906, 1907, 1908, 1909, 1910, 1911, 1912, 1991, 1992, 1993] (by decide +kernel) (by decide +kernel)) (goodIn_sub (fun _ h => List.mem_append_left _ (List.mem_append_left _ (List.mem_append_left _ (List.mem_append_left _ (List.mem_append_left _ (List.mem_append_left _ (List.mem_append_left _ (List.mem_append_right _ h)))))))) (by decide +kernel))) (goodIn_sub (fun _ h => List.mem_append_left _ (List.mem_append_left _ (List.mem_append_right _ h))) (by decide +kernel))) (goodIn_sub (fun _ h => List.mem_append_left _ (List.mem_append_left _ (List.mem_append_left _ (List.mem_append_left _ (List.mem_append_left _ (List.mem_append_right _ h)))))) (by decide +kernel))) (goodIn_sub (fun _ h => List.mem_append_left _ (List.mem_append_left _ (List.mem_append_left _ (List.mem_append_left _ (List.mem_append_right _ h))))) (by decide +kernel))
set_option maxRecDepth 20000 in
theorem gL_law_L_part : GoodIn wsL_law (va_wsS RL 356 yL_part wsL_part) := goodIn_app (goodIn_of _ (by decide +kernel)) ggL_law_L_part
set_option maxRecDepth 20000 in
theorem ggL_law_X12_part : GoodIn wsL_law wsX12_part := goodIn_ca (goodIn_ca (goodIn_r _ [1267, 297, 298, 299, 5, 300, 66, 195, 196, 197, 65, 198, 199, 187, 188, 189, 190, 191, 192, 193, 194, 301, 302, 303, 304, 305, 306, 307, 308, 309, 310, 311, 312, 313, 314, 315, 316, 317, 318, 319, 320, 321, 93, 1268, 1269, 1270, 186, 1271, 209, 204, 1117, 232, 233, 234, 1205, 259, 260, 265, 266, 267, 268, 1998, 1999, 2000, 2001, 2002, 2003, 2004, 2005, 2006, 2007, 2008, 2009, 2010, 2011, 2012, 2013, 2014, 2015, 2016, 2017, 2018, 2019, 2020, 1913, 1914, 1915, 1916, 1917, 1918, 1919, 1920, 1921, 1922, 1923, 1924, 1925, 1926, 1927, 1928, 1929, 1930, 1931, 1932, 1933, 1934, 1935, 1936, 1937, 1938, 1939, 1940, 1941, 1942, 1943, 1944, 1945, 1946, 1968, 1969, 1970] (by decide +kernel) (by decide +kernel)) (goodIn_sub (fun _ h => List.mem_append_left _ (List.mem_append_left _ (List.mem_append_right _ h))) (by decide +kernel))) (goodIn_sub (fun _ h => List.mem_append_left _ (List.mem_append_left _ (List.mem_append_left _ (List.mem_append_left _ (List.mem_append_left _ (List.mem_append_left _ (List.mem_append_left _ (List.mem_append_right _ h)))))))) (by decide +kernel))
set_option maxRecDepth 20000 in
theorem gL_law_X12_part : GoodIn wsL_law (wsV RL 358 RX12 yX12_part wsX12_part) := goodIn_app (goodIn_of _ (by decide +kernel)) ggL_law_X12_part
set_option maxRecDepth 20000 in
theorem ggL_law_L_cause : GoodIn wsL_law wsL_cause := goodIn_ca (goodIn_ca (goodIn_ca (goodIn_r _ [1274, 272, 1275, 1276, 1277, 2, 1278, 1169, 33, 372, 962, 1196, 662, 232, 233, 234, 280, 281, 282, 283, 284, 285, 117, 15, 1034, 660, 661, 1259, 1260, 1261, 139, 1262, 151, 1228, 1263, 259, 260, 1181, 1182, 1183, 1184, 1971, 1972, 1973, 1974, 1975, 1976, 1977, 1978, 1979, 1980, 1981, 1982, 1983, 1984, 1985, 1986, 1987, 1988, 1989, 1990, 1902, 1903, 1904, 1905, 1906, 1907, 1908, 1909, 1910, 1911, 1912, 1991, 1992, 1993] (by decide +kernel) (by decide +kernel)) (goodIn_sub (fun _ h => List.mem_append_left _ (List.mem_append_left _ (List.mem_append_left _ (List.mem_append_left _ (List.mem_append_left _ (List.mem_append_left _ (List.mem_append_left _ (List.mem_append_right _ h)))))))) (by decide +kernel))) (goodIn_sub (fun _ h => List.mem_append_left _ (List.mem_append_left _ (List.mem_append_left _ (List.mem_append_left _ (List.mem_append_right _ h))))) (by decide +kernel))) (goodIn_sub (fun _ h => List.mem_append_left _ (List.mem_append_left _ (List.mem_append_right _ h))) (by decide +kernel))
set_option maxRecDepth 20000 in
theorem gL_law_L_cause : GoodIn wsL_law (va_wsS RL 359 yL_cause wsL_cause) := goodIn_app (goodIn_of _ (by decide +kernel)) ggL_law_L_cause
set_option maxRecDepth 20000 in
theorem ggL_law_X12_cause : GoodIn wsL_law wsX12_cause := goodIn_ca (goodIn_ca (goodIn_r _ [1282, 194, 83, 1283, 232, 233, 234, 297, 298, 299, 5, 300, 66, 195, 196, 197, 65, 198, 199, 187, 188, 189, 301, 302, 303, 304, 305, 306, 307, 308, 309, 310, 311, 312, 313, 314, 315, 316, 317, 318, 319, 320, 321, 93, 683, 684, 685, 1268, 1269, 1270, 186, 1271, 209, 204, 1117, 1205, 259, 260, 1284, 1285, 1286, 1287, 1288, 1201, 1202, 1203, 1204, 1206, 1207, 1208, 1209, 1913, 1914, 1915, 1916, 1917, 1918, 1919, 1920, 1921, 1922, 1923, 1924, 1925, 1926, 1927, 1928, 1929, 1930, 1931, 1932, 1933, 1934, 1935, 1936, 1937, 1938, 1939, 1940, 1941, 1942, 1943, 1944, 1945, 1946, 1998, 1999, 2000, 2001, 2002, 2003, 2004, 2005, 2006, 2007, 2008, 2009, 2010, 2011, 2012, 2013, 2014, 2015, 2016, 2017, 2018, 2019, 2020, 1968, 1969, 1970] (by decide +kernel) (by decide +kernel)) (goodIn_sub (fun _ h => List.mem_append_left _ (List.mem_append_left _ (List.mem_append_right _ h))) (by decide +kernel))) (goodIn_sub (fun _ h => List.mem_append_left _ (List.mem_append_left _ (List.mem_append_left _ (List.mem_append_left _ (List.mem_append_left _ (List.mem_append_left _ (List.mem_append_left _ (List.mem_append_right _ h)))))))) (by decide +kernel))
set_option maxRecDepth 20000 in
theorem gL_law_X12_cause : GoodIn wsL_law (wsV RL 361 RX12 yX12_cause wsX12_cause) := goodIn_app (goodIn_of _ (by decide +kernel)) ggL_law_X12_cause
set_option maxRecDepth 20000 in
theorem ggL_law_L_peak : GoodIn wsL_law wsL_peak := goodIn_ca (goodIn_ca (goodIn_ca (goodIn_ca (goodIn_ca (goodIn_r _ [1291, 272, 108, 273, 1292, 1293, 1294, 2, 1295, 372, 27, 1169, 280, 281, 282, 283, 284, 285, 117, 15, 123, 124, 125, 126, 127, 447, 448, 449, 428, 429, 430, 119, 431, 134, 135, 286, 287, 288, 289, 290, 1296, 1297, 1298, 26, 1299, 1300, 1301, 259, 233, 260, 1302, 232, 234, 47, 43, 44, 45, 46, 660, 661, 662, 1303, 1304, 1305, 1306, 1307, 1308, 1309, 1310, 1311, 1312, 1313, 1047, 1048, 1049, 1971, 1972, 1973, 1974, 1975, 1976, 1977, 1978, 1979, 1980, 1981, 1982, 1983, 1984, 1985, 1986, 1987, 1988, 1989, 1990, 1902, 1903, 1904, 1905, 1906, 1907, 1908, 1909, 1910, 1911, 1912, 1991, 1992, 1993, 1954, 1955, 1956, 1957, 1958] (by decide +kernel) (by decide +kernel)) (goodIn_sub (fun _ h => List.mem_append_left _ (List.mem_append_left _ (List.mem_append_left _ (List.mem_append_left _ (List.mem_append_left _ (List.mem_append_left _ (List.mem_append_left _ (List.mem_append_right _ h)))))))) (by decide +kernel))) (goodIn_sub (fun _ h => List.mem_append_left _ (List.mem_append_left _ (List.mem_append_left _ (List.mem_append_left _ (List.mem_append_right _ h))))) (by decide +kernel))) (goodIn_sub (fun _ h => List.mem_append_left _ (List.mem_append_left _ (List.mem_append_left _ (List.mem_append_left _ (List.mem_append_left _ (List.mem_append_right _ h)))))) (by decide +kernel))) (goodIn_sub (fun _ h => List.mem_append_left _ (List.mem_append_left _ (List.mem_append_left _ (List.mem_append_right _ h)))) (by decide +kernel))) (goodIn_sub (fun _ h => List.mem_append_left _ (List.mem_append_left _ (List.mem_append_right _ h))) (by decide +kernel))
set_option maxRecDepth 20000 in
theorem gL_law_L_peak : GoodIn wsL_law (va_wsS RL 362 yL_peak wsL_peak) := goodIn_app (goodIn_of _ (by decide +kernel)) ggL_law_L_peak
set_option maxRecDepth 20000 in
theorem ggL_law_X12_peak : GoodIn wsL_law wsX12_peak := goodIn_ca (goodIn_ca (goodIn_r _ [1317, 297, 298, 299, 5, 300, 66, 195, 196, 197, 65, 198, 199, 187, 188, 189, 190, 191, 192, 193, 194, 301, 302, 303, 304, 305, 306, 307, 308, 309, 310, 311, 312, 313, 314, 315, 316, 317, 318, 319, 320, 321, 93, 436, 437, 438, 439, 1318, 1319, 1320, 1321, 1322, 1323, 1324, 1325, 84, 85, 86, 87, 683, 684, 685, 1326, 1327, 1328, 186, 1329, 209, 204, 1117, 232, 233, 234, 1205, 259, 260, 1206, 1207, 1208, 1209, 1330, 1331, 1332, 1333, 1283, 525, 265, 266, 267, 268, 1998, 1999, 2000, 2001, 2002, 2003, 2004, 2005, 2006, 2007, 2008, 2009, 2010, 2011, 2012, 2013, 2014, 2015, 2016, 2017, 2018, 2019, 2020, 1913, 1914, 1915, 1916, 1917, 1918, 1919, 1920, 1921, 1922, 1923, 1924, 1925, 1926, 1927, 1928, 1929, 1930, 1931, 1932, 1933, 1934, 1935, 1936, 1937, 1938, 1939, 1940, 1941, 1942, 1943, 1944, 1945, 1946, 1968, 1969, 1970] (by decide +kernel) (by decide +kernel)) (goodIn_sub (fun _ h => List.mem_append_left _ (List.mem_append_left _ (List.mem_append_right _ h))) (by decide +kernel))) (goodIn_sub (fun _ h => List.mem_append_left _ (List.mem_append_left _ (List.mem_append_left _ (List.mem_append_left _ (List.mem_append_left _ (List.mem_append_left _ (List.mem_append_left _ (List.mem_append_right _ h)))))))) (by decide +kernel))
set_option maxRecDepth 20000 in
theorem gL_law_X12_peak : GoodIn wsL_law (wsV RL 364 RX12 yX12_peak wsX12_peak) := goodIn_app (goodIn_of _ (by decide +kernel)) ggL_law_X12_peak
set_option maxRecDepth 20000 in
theorem ggL_law_L_quietest : GoodIn wsL_law wsL_quietest := goodIn_ca (goodIn_ca (goodIn_ca (goodIn_ca (goodIn_r _ [1336, 272, 273, 1337, 1338, 1339, 2, 1340, 27, 1169, 280, 281, 282, 283, 284, 285, 117, 15, 447, 448, 449, 428, 429, 430, 119, 431, 134, 135, 286, 287, 288, 289, 290, 1296, 1297, 1298, 26, 1299, 1300, 1301, 259, 233, 260, 1302, 232, 234, 47, 43, 44, 45, 46, 660, 661, 662, 1303, 1304, 1305, 1306, 1341, 1342, 1343, 1344, 1345, 1308, 1309, 1310, 1311, 1312, 1313, 1047, 1048, 1049, 1902, 1903, 1904, 1905, 1906, 1907, 1908, 1909, 1910, 1911, 1912, 1971, 1972, 1973, 1974, 1975, 1976, 1977, 1978, 1979, 1980, 1981, 1982, 1983, 1984, 1985, 1986, 1987, 1988, 1989, 1990, 1991, 1992, 1993, 1954, 1955, 1956, 1957, 1958] (by decide +kernel) (by decide +kernel)) (goodIn_sub (fun _ h => List.mem_append_left _ (List.mem_append_left _ (List.mem_append_left _ (List.mem_append_left _ (List.mem_append_left _ (List.mem_append_left _ (List.mem_append_left _ (List.mem_append_right _ h)))))))) (by decide +kernel))) (goodIn_sub (fun _ h => List.mem_append_left _ (List.mem_append_left _ (List.mem_append_left _ (List.mem_append_left _ (List.mem_append_right _ h))))) (by decide +kernel))) (goodIn_sub (fun _ h => List.mem_append_left _ (List.mem_append_left _ (List.mem_append_left _ (List.mem_append_right _ h)))) (by decide +kernel))) (goodIn_sub (fun _ h => List.mem_append_left _ (List.mem_append_left _ (List.mem_append_right _ h))) (by decide +kernel))
set_option maxRecDepth 20000 in
theorem gL_law_L_quietest : GoodIn wsL_law (va_wsS RL 365 yL_quietest wsL_quietest) := goodIn_app (goodIn_of _ (by decide +kernel)) ggL_law_L_quietest
set_option maxRecDepth 20000 in
theorem ggL_law_X12_quietest : GoodIn wsL_law wsX12_quietest := goodIn_ca (goodIn_ca (goodIn_r _ [1349, 474, 475, 476, 5, 477, 194, 297, 298, 299, 300, 66, 195, 196, 197, 65, 198, 199, 187, 188, 189, 436, 437, 438, 439, 301, 302, 303, 304, 305, 306, 307, 308, 309, 310, 311, 312, 313, 314, 315, 316, 317, 318, 319, 320, 321, 93, 1350, 1351, 1352, 1353, 1322, 1323, 1324, 1325, 84, 85, 86, 87, 683, 684, 685, 1326, 1327, 1328, 186, 1329, 209, 204, 1117, 232, 233, 234, 1205, 259, 260, 1206, 1207, 1208, 1209, 1330, 1331, 1332, 1333, 1283, 525, 1913, 1914, 1915, 1916, 1917, 1918, 1919, 1920, 1921, 1922, 1923, 1924, 1925, 1926, 1927, 1928, 1929, 1930, 1931, 1932, 1933, 1934, 1935, 1936, 1937, 1938, 1939, 1940, 1941, 1942, 1943, 1944, 1945, 1946, 1968, 1969, 1970, 1998, 1999, 2000, 2001, 2002, 2003, 2004, 2005, 2006, 2007, 2008, 2009, 2010, 2011, 2012, 2013, 2014, 2015, 2016, 2017, 2018, 2019, 2020] (by decide +kernel) (by decide +kernel)) (goodIn_sub (fun _ h => List.mem_append_left _ (List.mem_append_left _ (List.mem_append_right _ h))) (by decide +kernel))) (goodIn_sub (fun _ h => List.mem_append_left _ (List.mem_append_left _ (List.mem_append_left _ (List.mem_append_left _ (List.mem_append_left _ (List.mem_append_left _ (List.mem_append_left _ (List.mem_append_right _ h)))))))) (by decide +kernel))
set_option maxRecDepth 20000 in
theorem gL_law_X12_quietest : GoodIn wsL_law (wsV RL 367 RX12 yX12_quietest wsX12_quietest) := goodIn_app (goodIn_of _ (by decide +kernel)) ggL_law_X12_quietest
set_option maxRecDepth 20000 in
theorem ggL_law_L_note : GoodIn wsL_law wsL_note := goodIn_ca (goodIn_ca (goodIn_ca (goodIn_ca (goodIn_ca (goodIn_r _ [1356, 272, 108, 273, 1357, 1358, 1359, 2, 1360, 1169, 514, 515, 233, 516, 280, 281, 282, 283, 284, 285, 117, 15, 123, 124, 125, 126, 127, 447, 448, 449, 428, 429, 430, 119, 431, 134, 135, 286, 287, 288, 289, 290, 1259, 1260, 1261, 139, 1262, 151, 1228, 232, 234, 1263, 259, 260, 1181, 1182, 1183, 1184, 1971, 1972, 1973, 1974, 1975, 1976, 1977, 1978, 1979, 1980, 1981, 1982, 1983, 1984, 1985, 1986, 1987, 1988, 1989, 1990, 1902, 1903, 1904, 1905, 1906, 1907, 1908, 1909, 1910, 1911, 1912, 1991, 1992, 1993] (by decide +kernel) (by decide +kernel)) (goodIn_sub (fun _ h => List.mem_append_left _ (List.mem_append_left _ (List.mem_append_left _ (List.mem_append_left _ (List.mem_append_left _ (List.mem_append_left _ (List.mem_append_left _ (List.mem_append_right _ h)))))))) (by decide +kernel))) (goodIn_sub (fun _ h => List.mem_append_left _ (List.mem_append_left _ (List.mem_append_left _ (List.mem_append_left _ (List.mem_append_right _ h))))) (by decide +kernel))) (goodIn_sub (fun _ h => List.mem_append_left _ (List.mem_append_left _ (List.mem_append_left _ (List.mem_append_left _ (List.mem_append_left _ (List.mem_append_right _ h)))))) (by decide +kernel))) (goodIn_sub (fun _ h => List.mem_append_left _ (List.mem_append_left _ (List.mem_append_left _ (List.mem_append_right _ h)))) (by decide +kernel))) (goodIn_sub (fun _ h => List.mem_append_left _ (List.mem_append_left _ (List.mem_append_right _ h))) (by decide +kernel))
set_option maxRecDepth 20000 in
theorem gL_law_L_note : GoodIn wsL_law (va_wsS RL 368 yL_note wsL_note) := goodIn_app (goodIn_of _ (by decide +kernel)) ggL_law_L_note
set_option maxRecDepth 20000 in
theorem ggL_law_X12_note : GoodIn wsL_law wsX12_note := goodIn_ca (goodIn_ca (goodIn_r _ [1364, 178, 526, 515, 233, 516, 1283, 232, 234, 297, 298, 299, 5, 300, 66, 195, 196, 197, 65, 198, 199, 187, 188, 189, 190, 191, 192, 193, 194, 436, 437, 438, 439, 301, 302, 303, 304, 305, 306, 307, 308, 309, 310, 311, 312, 313, 314, 315, 316, 317, 318, 319, 320, 321, 93, 1284, 1285, 1286, 186, 1287, 209, 1288, 1269, 1270, 1271, 204, 1117, 1205, 259, 260, 265, 266, 267, 268, 1998, 1999, 2000, 2001, 2002, 2003, 2004, 2005, 2006, 2007, 2008, 2009, 2010, 2011, 2012, 2013, 2014, 2015, 2016, 2017, 2018, 2019, 2020, 1913, 1914, 1915, 1916, 1917, 1918, 1919, 1920, 1921, 1922, 1923, 1924, 1925, 1926, 1927, 1928, 1929, 1930, 1931, 1932, 1933, 1934, 1935, 1936, 1937, 1938, 1939, 1940, 1941, 1942, 1943, 1944, 1945, 1946, 1968, 1969, 1970] (by decide +kernel) (by decide +kernel)) (goodIn_sub (fun _ h => List.mem_append_left _ (List.mem_append_left _ (List.mem_append_right _ h))) (by decide +kernel))) (goodIn_sub (fun _ h => List.mem_append_left _ (List.mem_append_left _ (List.mem_append_left _ (List.mem_append_left _ (List.mem_append_left _ (List.mem_append_left _ (List.mem_append_left _ (List.mem_append_right _ h)))))))) (by decide +kernel))
set_option maxRecDepth 20000 in
theorem gL_law_X12_note : GoodIn wsL_law (wsV RL 370 RX12 yX12_note wsX12_note) := goodIn_app (goodIn_of _ (by decide +kernel)) ggL_law_X12_note
set_option maxRecDepth 20000 in
theorem ggL_law_L_hunts : GoodIn wsL_law wsL_hunts := goodIn_ca (goodIn_ca (goodIn_ca (goodIn_ca (goodIn_r _ [1367, 272, 273, 1368, 1369, 1370, 2, 1371, 372, 280, 281, 282, 283, 284, 285, 117, 15, 447, 448, 449, 428, 429, 430, 119, 431, 134, 135, 286, 287, 288, 289, 290, 1034, 660, 661, 662, 232, 233, 234, 1971, 1972, 1973, 1974, 1975, 1976, 1977, 1978, 1979, 1980, 1981, 1982, 1983, 1984, 1985, 1986, 1987, 1988, 1989, 1990, 1902, 1903, 1904, 1905, 1906, 1907, 1908, 1909, 1910, 1911, 1912] (by decide +kernel) (by decide +kernel)) (goodIn_sub (fun _ h => List.mem_append_left _ (List.mem_append_left _ (List.mem_append_left _ (List.mem_append_left _ (List.mem_append_left _ (List.mem_append_left _ (List.mem_append_left _ (List.mem_append_right _ h)))))))) (by decide +kernel))) (goodIn_sub (fun _ h => List.mem_append_left _ (List.mem_append_left _ (List.mem_append_left _ (List.mem_append_left _ (List.mem_append_right _ h))))) (by decide +kernel))) (goodIn_sub (fun _ h => List.mem_append_left _ (List.mem_append_left _ (List.mem_append_left _ (List.mem_append_right _ h)))) (by decide +kernel))) (goodIn_sub (fun _ h => List.mem_append_left _ (List.mem_append_left _ (List.mem_append_right _ h))) (by decide +kernel))
set_option maxRecDepth 20000 in
theorem gL_law_L_hunts : GoodIn wsL_law (va_wsS RL 371 yL_hunts wsL_hunts) := goodIn_app (goodIn_of _ (by decide +kernel)) ggL_law_L_hunts
set_option maxRecDepth 20000 in
theorem ggL_law_X12_hunts : GoodIn wsL_law wsX12_hunts := goodIn_ca (goodIn_r _ [1375, 474, 475, 476, 5, 477, 194, 297, 298, 299, 300, 66, 195, 196, 197, 65, 198, 199, 187, 188, 189, 436, 437, 438, 439, 301, 302, 303, 304, 305, 306, 307, 308, 309, 310, 311, 312, 313, 314, 315, 316, 317, 318, 319, 320, 321, 93, 683, 684, 685, 1998, 1999, 2000, 2001, 2002, 2003, 2004, 2005, 2006, 2007, 2008, 2009, 2010, 2011, 2012, 2013, 2014, 2015, 2016, 2017, 2018, 2019, 2020, 1913, 1914, 1915, 1916, 1917, 1918, 1919, 1920, 1921, 1922, 1923, 1924, 1925, 1926, 1927, 1928, 1929, 1930, 1931, 1932, 1933, 1934, 1935, 1936, 1937, 1938, 1939, 1940, 1941, 1942, 1943, 1944, 1945, 1946, 1968, 1969, 1970] (by decide +kernel) (by decide +kernel)) (goodIn_sub (fun _ h => List.mem_append_left _ (List.mem_append_left _ (List.mem_append_right _ h))) (by decide +kernel))
set_option maxRecDepth 20000 in
theorem gL_law_X12_hunts : GoodIn wsL_law (wsV RL 373 RX12 yX12_hunts wsX12_hunts) := goodIn_app (goodIn_of _ (by decide +kernel)) ggL_law_X12_hunts
set_option maxRecDepth 20000 in
theorem ggL_law_L_bears : GoodIn wsL_law wsL_bears := goodIn_ca (goodIn_ca (goodIn_ca (goodIn_r _ [1378, 272, 1379, 1380, 1381, 2, 1382, 280, 281, 282, 283, 284, 285, 117, 15, 1383, 1384, 1385, 119, 1386, 1387, 1388, 1389, 1390, 1391, 1392, 133, 1073, 136, 134, 1393, 1085, 1394, 1395, 1396, 1397, 1398, 1399, 466, 330, 331, 332, 467, 468, 1902, 1903, 1904, 1905, 1906, 1907, 1908, 1909, 1910, 1911, 1912, 1971, 1972, 1973, 1974, 1975, 1976, 1977, 1978, 1979, 1980, 1981, 1982, 1983, 1984, 1985, 1986, 1987, 1988, 1989, 1990] (by decide +kernel) (by decide +kernel)) (goodIn_sub (fun _ h => List.mem_append_left _ (List.mem_append_left _ (List.mem_append_left _ (List.mem_append_left _ (List.mem_append_left _ (List.mem_append_left _ (List.mem_append_left _ (List.mem_append_right _ h)))))))) (by decide +kernel))) (goodIn_sub (fun _ h => List.mem_append_left _ (List.mem_append_left _ (List.mem_append_left _ (List.mem_append_left _ (List.mem_append_right _ h))))) (by decide +kernel))) (goodIn_sub (fun _ h => List.mem_append_left _ (List.mem_append_left _ (List.mem_append_right _ h))) (by decide +kernel))
set_option maxRecDepth 20000 in
theorem gL_law_L_bears : GoodIn wsL_law (va_wsS RL 374 yL_bears wsL_bears) := goodIn_app (goodIn_of _ (by decide +kernel)) ggL_law_L_bears
set_option maxRecDepth 20000 in
theorem ggL_law_X12_bears : GoodIn wsL_law wsX12_bears := goodIn_ca (goodIn_r _ [1403, 297, 298, 299, 5, 300, 66, 195, 196, 197, 65, 198, 199, 187, 188, 189, 301, 302, 303, 304, 305, 306, 307, 308, 309, 310, 311, 312, 313, 314, 315, 316, 317, 318, 319, 320, 321, 93, 1404, 1405, 1406, 186, 1407, 1408, 1409, 1410, 1411, 1412, 1413, 209, 1097, 212, 210, 1414, 1415, 364, 338, 339, 340, 496, 497, 498, 499, 1416, 1111, 1112, 1113, 1114, 1115, 1116, 1117, 232, 233, 234, 265, 266, 267, 268, 194, 190, 191, 192, 193, 1913, 1914, 1915, 1916, 1917, 1918, 1919, 1920, 1921, 1922, 1923, 1924, 1925, 1926, 1927, 1928, 1929, 1930, 1931, 1932, 1933, 1934, 1935, 1936, 1937, 1938, 1939, 1940, 1941, 1942, 1943, 1944, 1945, 1946, 1968, 1969, 1970, 1998, 1999, 2000, 2001, 2002, 2003, 2004, 2005, 2006, 2007, 2008, 2009, 2010, 2011, 2012, 2013, 2014, 2015, 2016, 2017, 2018, 2019, 2020] (by decide +kernel) (by decide +kernel)) (goodIn_sub (fun _ h => List.mem_append_left _ (List.mem_append_left _ (List.mem_append_right _ h))) (by decide +kernel))
set_option maxRecDepth 20000 in
theorem gL_law_X12_bears : GoodIn wsL_law (wsV RL 376 RX12 yX12_bears wsX12_bears) := goodIn_app (goodIn_of _ (by decide +kernel)) ggL_law_X12_bears
set_option maxRecDepth 20000 in
theorem ggL_law_L_life : GoodIn wsL_law wsL_life := goodIn_ca (goodIn_ca (goodIn_ca (goodIn_ca (goodIn_r _ [1419, 272, 108, 1420, 1421, 1422, 2, 1423, 816, 280, 281, 282, 283, 284, 285, 117, 15, 123, 124, 125, 126, 127, 1424, 1425, 1426, 119, 1427, 1428, 1073, 1429, 1384, 1385, 1386, 1387, 1388, 1389, 1390, 1391, 1392, 133, 136, 134, 1393, 1085, 1394, 1395, 1396, 1397, 1398, 1399, 466, 330, 331, 332, 467, 468, 1902, 1903, 1904, 1905, 1906, 1907, 1908, 1909, 1910, 1911, 1912, 1971, 1972, 1973, 1974, 1975, 1976, 1977, 1978, 1979, 1980, 1981, 1982, 1983, 1984, 1985, 1986, 1987, 1988, 1989, 1990] (by decide +kernel) (by decide +kernel)) (goodIn_sub (fun _ h => List.mem_append_left _ (List.mem_append_left _ (List.mem_append_left _ (List.mem_append_left _ (List.mem_append_left _ (List.mem_append_left _ (List.mem_append_left _ (List.mem_append_right _ h)))))))) (by decide +kernel))) (goodIn_sub (fun _ h => List.mem_append_left _ (List.mem_append_left _ (List.mem_append_left _ (List.mem_append_left _ (List.mem_append_right _ h))))) (by decide +kernel))) (goodIn_sub (fun _ h => List.mem_append_left _ (List.mem_append_left _ (List.mem_append_left _ (List.mem_append_left _ (List.mem_append_left _ (List.mem_append_right _ h)))))) (by decide +kernel))) (goodIn_sub (fun _ h => List.mem_append_left _ (List.mem_append_left _ (List.mem_append_right _ h))) (by decide +kernel))
set_option maxRecDepth 20000 in
theorem gL_law_L_life : GoodIn wsL_law (va_wsS RL 377 yL_life wsL_life) := goodIn_app (goodIn_of _ (by decide +kernel)) ggL_law_L_life
set_option maxRecDepth 20000 in
theorem ggL_law_X12_life : GoodIn wsL_law wsX12_life := goodIn_ca (goodIn_r _ [1433, 826, 297, 298, 299, 5, 300, 66, 195, 196, 197, 65, 198, 199, 187, 188, 189, 190, 191, 192, 193, 194, 301, 302, 303, 304, 305, 306, 307, 308, 309, 310, 311, 312, 313, 314, 315, 316, 317, 318, 319, 320, 321, 93, 1434, 1435, 1436, 186, 1437, 1438, 1097, 1439, 1405, 1406, 1407, 1408, 1409, 1410, 1411, 1412, 1413, 209, 212, 210, 1414, 1415, 364, 338, 339, 340, 496, 497, 498, 499, 1416, 1111, 1112, 1113, 1114, 1115, 1116, 1117, 232, 233, 234, 1440, 1441, 1442, 1443, 1913, 1914, 1915, 1916, 1917, 1918, 1919, 1920, 1921, 1922, 1923, 1924, 1925, 1926, 1927, 1928, 1929, 1930, 1931, 1932, 1933, 1934, 1935, 1936, 1937, 1938, 1939, 1940, 1941, 1942, 1943, 1944, 1945, 1946, 1968, 1969, 1970, 1998, 1999, 2000, 2001, 2002, 2003, 2004, 2005, 2006, 2007, 2008, 2009, 2010, 2011, 2012, 2013, 2014, 2015, 2016, 2017, 2018, 2019, 2020] (by decide +kernel) (by decide +kernel)) (goodIn_sub (fun _ h => List.mem_append_left _ (List.mem_append_left _ (List.mem_append_right _ h))) (by decide +kernel))
set_option maxRecDepth 20000 in
theorem gL_law_X12_life : GoodIn wsL_law (wsV RL 379 RX12 yX12_life wsX12_life) := goodIn_app (goodIn_of _ (by decide +kernel)) ggL_law_X12_life
set_option maxRecDepth 20000 in
theorem ggL_law_L_run : GoodIn wsL_law wsL_run := goodIn_ca (goodIn_ca (goodIn_ca (goodIn_ca (goodIn_ca (goodIn_r _ [1446, 272, 108, 273, 1447, 1448, 1449, 2, 1450, 116, 816, 372, 280, 281, 282, 283, 284, 285, 117, 15, 123, 124, 125, 126, 127, 447, 448, 449, 428, 429, 430, 119, 431, 134, 135, 286, 287, 288, 289, 290, 1062, 1063, 1064, 1065, 1066, 1067, 1068, 1069, 1070, 1071, 1072, 1073, 1451, 1452, 1453, 1454, 146, 132, 1455, 1456, 1457, 1458, 1459, 1425, 1426, 1427, 1428, 1429, 1384, 1385, 1386, 1387, 1388, 1389, 1390, 1391, 1392, 133, 136, 1393, 1085, 1394, 1395, 1396, 1397, 1398, 1399, 466, 330, 331, 332, 467, 468, 1157, 1971, 1972, 1973, 1974, 1975, 1976, 1977, 1978, 1979, 1980, 1981, 1982, 1983, 1984, 1985, 1986, 1987, 1988, 1989, 1990, 1902, 1903, 1904, 1905, 1906, 1907, 1908, 1909, 1910, 1911, 1912] (by decide +kernel) (by decide +kernel)) (goodIn_sub (fun _ h => List.mem_append_left _ (List.mem_append_left _ (List.mem_append_left _ (List.mem_append_left _ (List.mem_append_left _ (List.mem_append_left _ (List.mem_append_left _ (List.mem_append_right _ h)))))))) (by decide +kernel))) (goodIn_sub (fun _ h => List.mem_append_left _ (List.mem_append_left _ (List.mem_append_right _ h))) (by decide +kernel))) (goodIn_sub (fun _ h => List.mem_append_left _ (List.mem_append_left _ (List.mem_append_left _ (List.mem_append_left _ (List.mem_append_right _ h))))) (by decide +kernel))) (goodIn_sub (fun _ h => List.mem_append_left _ (List.mem_append_left _ (List.mem_append_left _ (List.mem_append_left _ (List.mem_append_left _ (List.mem_append_right _ h)))))) (by decide +kernel))) (goodIn_sub (fun _ h => List.mem_append_left _ (List.mem_append_left _ (List.mem_append_left _ (List.mem_append_right _ h)))) (by decide +kernel))
set_option maxRecDepth 20000 in
theorem gL_law_L_run : GoodIn wsL_law (va_wsS RL 380 yL_run wsL_run) := goodIn_app (goodIn_of _ (by decide +kernel)) ggL_law_L_run
set_option maxRecDepth 20000 in
theorem ggL_law_X12_run : GoodIn wsL_law wsX12_run := goodIn_ca (goodIn_r _ [1463, 183, 826, 297, 298, 299, 5, 300, 66, 195, 196, 197, 65, 198, 199, 187, 188, 189, 190, 191, 192, 193, 194, 436, 437, 438, 439, 301, 302, 303, 304, 305, 306, 307, 308, 309, 310, 311, 312, 313, 314, 315, 316, 317, 318, 319, 320, 321, 93, 1464, 1465, 1466, 1467, 1092, 1093, 1094, 186, 1095, 1096, 1097, 1468, 1469, 1470, 1471, 1472, 1435, 1436, 1437, 1438, 1439, 1405, 1406, 1407, 1408, 1409, 1410, 1411, 1412, 1413, 209, 212, 210, 1414, 1415, 364, 338, 339, 340, 496, 497, 498, 499, 1416, 1111, 1112, 1113, 1114, 1115, 1116, 1117, 232, 233, 234, 265, 266, 267, 268, 1998, 1999, 2000, 2001, 2002, 2003, 2004, 2005, 2006, 2007, 2008, 2009, 2010, 2011, 2012, 2013, 2014, 2015, 2016, 2017, 2018, 2019, 2020, 1913, 1914, 1915, 1916, 1917, 1918, 1919, 1920, 1921, 1922, 1923, 1924, 1925, 1926, 1927, 1928, 1929, 1930, 1931, 1932, 1933, 1934, 1935, 1936, 1937, 1938, 1939, 1940, 1941, 1942, 1943, 1944, 1945, 1946, 1968, 1969, 1970] (by decide +kernel) (by decide +kernel)) (goodIn_sub (fun _ h => List.mem_append_left _ (List.mem_append_left _ (List.mem_append_right _ h))) (by decide +kernel))
set_option maxRecDepth 20000 in
theorem gL_law_X12_run : GoodIn wsL_law (wsV RL 382 RX12 yX12_run wsX12_run) := goodIn_app (goodIn_of _ (by decide +kernel)) ggL_law_X12_run
set_option maxRecDepth 20000 in
theorem ggL_law_L_damage : GoodIn wsL_law wsL_damage := goodIn_ca (goodIn_ca (goodIn_r _ [1475, 272, 1476, 1477, 1478, 2, 1479, 1480, 280, 281, 282, 283, 284, 285, 117, 15, 1971, 1972, 1973, 1974, 1975, 1976, 1977, 1978, 1979, 1980, 1981, 1982, 1983, 1984, 1985, 1986, 1987, 1988, 1989, 1990, 1902, 1903, 1904, 1905, 1906, 1907, 1908, 1909, 1910, 1911, 1912] (by decide +kernel) (by decide +kernel)) (goodIn_sub (fun _ h => List.mem_append_left _ (List.mem_append_left _ (List.mem_append_left _ (List.mem_append_left _ (List.mem_append_left _ (List.mem_append_left _ (List.mem_append_left _ (List.mem_append_right _ h)))))))) (by decide +kernel))) (goodIn_sub (fun _ h => List.mem_append_left _ (List.mem_append_left _ (List.mem_append_left _ (List.mem_append_left _ (List.mem_append_right _ h))))) (by decide +kernel))
set_option maxRecDepth 20000 in
theorem gL_law_L_damage : GoodIn wsL_law (va_wsS RL 383 yL_damage wsL_damage) := goodIn_app (goodIn_of _ (by decide +kernel)) ggL_law_L_damage
set_option maxRecDepth 20000 in
theorem ggL_law_X12_damage : GoodIn wsL_law wsX12_damage := goodIn_r _ [1484, 194, 297, 298, 299, 5, 300, 66, 195, 196, 197, 65, 198, 199, 187, 188, 189, 301, 302, 303, 304, 305, 306, 307, 308, 309, 310, 311, 312, 313, 314, 315, 316, 317, 318, 319, 320, 321, 93, 1913, 1914, 1915, 1916, 1917, 1918, 1919, 1920, 1921, 1922, 1923, 1924, 1925, 1926, 1927, 1928, 1929, 1930, 1931, 1932, 1933, 1934, 1935, 1936, 1937, 1938, 1939, 1940, 1941, 1942, 1943, 1944, 1945, 1946, 1998, 1999, 2000, 2001, 2002, 2003, 2004, 2005, 2006, 2007, 2008, 2009, 2010, 2011, 2012, 2013, 2014, 2015, 2016, 2017, 2018, 2019, 2020, 1968, 1969, 1970] (by decide +kernel) (by decide +kernel)
set_option maxRecDepth 20000 in
theorem gL_law_X12_damage : GoodIn wsL_law (wsV RL 385 RX12 yX12_damage wsX12_damage) := goodIn_app (goodIn_of _ (by decide +kernel)) ggL_law_X12_damage
set_option maxRecDepth 20000 in
theorem ggL_law_L_match : GoodIn wsL_law wsL_match := goodIn_ca (goodIn_ca (goodIn_ca (goodIn_ca (goodIn_r _ [1487, 108, 584, 1488, 1489, 1490, 2, 1491, 126, 127, 589, 590, 31, 117, 15, 1492, 27, 123, 124, 125, 1493, 1494, 1495, 30, 1496, 1497, 1498, 1062, 1063, 1064, 119, 1065, 1066, 1067, 1068, 1069, 1070, 1071, 1072, 1073, 1499, 1500, 1501, 1502, 1503, 52, 53, 1504, 1505, 1506, 1507, 54, 1508, 1509, 429, 430, 431, 134, 135, 1510, 1297, 1298, 26, 1299, 1300, 1301, 259, 233, 260, 1302, 232, 234, 47, 43, 44, 45, 46, 660, 661, 662, 1303, 1304, 1305, 1306, 1511, 1342, 1343, 1344, 1345, 1308, 1309, 1310, 1311, 1312, 1313, 1047, 1048, 1049, 1512, 1513, 1514, 1515, 1516, 1517, 1518, 56, 57, 58, 1519, 1520, 1521, 1522, 1523, 1524, 1525, 1526, 1527, 262, 263, 264, 1528, 1529, 1530, 1531, 1532, 1533, 1902, 1903, 1904, 1905, 1906, 1907, 1908, 1909, 1910, 1911, 1912, 1971, 1972, 1973, 1974, 1975, 1976, 1977, 1978, 1979, 1980, 1981, 1982, 1983, 1984, 1985, 1986, 1987, 1988, 1989, 1990, 1959, 1960, 1961, 1962, 1963, 1964, 1965, 1966, 1967, 1991, 1992, 1993, 1954, 1955, 1956, 1957, 1958] (by decide +kernel) (by decide +kernel)) (goodIn_sub (fun _ h => List.mem_append_left _ (List.mem_append_left _ (List.mem_append_left _ (List.mem_append_left _ (List.mem_append_left _ (List.mem_append_left _ (List.mem_append_left _ (List.mem_append_right _ h)))))))) (by decide +kernel))) (goodIn_sub (fun _ h => List.mem_append_left _ (List.mem_append_left _ (List.mem_append_left _ (List.mem_append_left _ (List.mem_append_left _ (List.mem_append_right _ h)))))) (by decide +kernel))) (goodIn_sub (fun _ h => List.mem_append_left _ (List.mem_append_right _ h)) (by decide +kernel))) (goodIn_sub (fun _ h => List.mem_append_left _ (List.mem_append_left _ (List.mem_append_right _ h))) (by decide +kernel))
set_option maxRecDepth 20000 in
theorem gL_law_L_match : GoodIn wsL_law (va_wsS RL 386 yL_match wsL_match) := goodIn_app (goodIn_of _ (by decide +kernel)) ggL_law_L_match
set_option maxRecDepth 20000 in
theorem ggL_law_X12_match : GoodIn wsL_law wsX12_match := goodIn_ca (goodIn_ca (goodIn_r _ [1537, 871, 80, 1538, 81, 1539, 1540, 931, 1541, 88, 78, 79, 187, 188, 5, 189, 190, 191, 192, 193, 194, 1542, 1543, 1544, 1545, 66, 195, 196, 197, 65, 198, 199, 301, 302, 303, 304, 305, 306, 307, 308, 309, 310, 311, 312, 313, 314, 315, 316, 317, 318, 319, 320, 321, 93, 1546, 1547, 1548, 186, 1549, 1550, 1551, 207, 1552, 1093, 1094, 1095, 1096, 1097, 436, 437, 438, 439, 1350, 1351, 1352, 1353, 1322, 1323, 1324, 1325, 84, 85, 86, 87, 683, 684, 685, 1326, 1327, 1328, 1329, 209, 204, 1117, 232, 233, 234, 1205, 259, 260, 1206, 1207, 1208, 1209, 1330, 1331, 1332, 1333, 1283, 525, 1318, 1319, 1320, 1321, 1553, 1554, 1555, 1556, 76, 77, 265, 266, 267, 268, 1913, 1914, 1915, 1916, 1917, 1918, 1919, 1920, 1921, 1922, 1923, 1924, 1925, 1926, 1927, 1928, 1929, 1930, 1931, 1932, 1933, 1934, 1935, 1936, 1937, 1938, 1939, 1940, 1941, 1942, 1943, 1944, 1945, 1946, 1998, 1999, 2000, 2001, 2002, 2003, 2004, 2005, 2006, 2007, 2008, 2009, 2010, 2011, 2012, 2013, 2014, 2015, 2016, 2017, 2018, 2019, 2020, 1968, 1969, 1970] (by decide +kernel) (by decide +kernel)) (goodIn_sub (fun _ h => List.mem_append_left _ (List.mem_append_left _ (List.mem_append_left _ (List.mem_append_left _ (List.mem_append_left _ (List.mem_append_left _ (List.mem_append_left _ (List.mem_append_right _ h)))))))) (by decide +kernel))) (goodIn_sub (fun _ h => List.mem_append_left _ (List.mem_append_left _ (List.mem_append_right _ h))) (by decide +kernel))
set_option maxRecDepth 20000 in
theorem gL_law_X12_match : GoodIn wsL_law (wsV RL 388 RX12 yX12_match wsX12_match) := goodIn_app (goodIn_of _ (by decide +kernel)) ggL_law_X12_match
set_option maxRecDepth 20000 in
theorem ggL_law_L_mate : GoodIn wsL_law wsL_mate := goodIn_ca (goodIn_ca (goodIn_ca (goodIn_r _ [1559, 272, 584, 1560, 1561, 1562, 2, 1563, 589, 590, 1492, 280, 281, 282, 283, 284, 285, 117, 15, 1971, 1972, 1973, 1974, 1975, 1976, 1977, 1978, 1979, 1980, 1981, 1982, 1983, 1984, 1985, 1986, 1987, 1988, 1989, 1990, 1902, 1903, 1904, 1905, 1906, 1907, 1908, 1909, 1910, 1911, 1912] (by decide +kernel) (by decide +kernel)) (goodIn_sub (fun _ h => List.mem_append_left _ (List.mem_append_left _ (List.mem_append_left _ (List.mem_append_left _ (List.mem_append_left _ (List.mem_append_left _ (List.mem_append_left _ (List.mem_append_right _ h)))))))) (by decide +kernel))) (goodIn_sub (fun _ h => List.mem_append_left _ (List.mem_append_right _ h)) (by decide +kernel))) (goodIn_sub (fun _ h => List.mem_append_left _ (List.mem_append_left _ (List.mem_append_left _ (List.mem_append_left _ (List.mem_append_right _ h))))) (by decide +kernel))
set_option maxRecDepth 20000 in
theorem gL_law_L_mate : GoodIn wsL_law (va_wsS RL 389 yL_mate wsL_mate) := goodIn_app (goodIn_of _ (by decide +kernel)) ggL_law_L_mate
set_option maxRecDepth 20000 in
theorem ggL_law_X12_mate : GoodIn wsL_law wsX12_mate := goodIn_r _ [1567, 297, 298, 299, 5, 300, 66, 195, 196, 197, 65, 198, 199, 187, 188, 189, 190, 191, 192, 193, 194, 301, 302, 303, 304, 305, 306, 307, 308, 309, 310, 311, 312, 313, 314, 315, 316, 317, 318, 319, 320, 321, 93, 265, 266, 267, 268, 1998, 1999, 2000, 2001, 2002, 2003, 2004, 2005, 2006, 2007, 2008, 2009, 2010, 2011, 2012, 2013, 2014, 2015, 2016, 2017, 2018, 2019, 2020, 1913, 1914, 1915, 1916, 1917, 1918, 1919, 1920, 1921, 1922, 1923, 1924, 1925, 1926, 1927, 1928, 1929, 1930, 1931, 1932, 1933, 1934, 1935, 1936, 1937, 1938, 1939, 1940, 1941, 1942, 1943, 1944, 1945, 1946, 1968, 1969, 1970] (by decide +kernel) (by decide +kernel)
set_option maxRecDepth 20000 in
theorem gL_law_X12_mate : GoodIn wsL_law (wsV RL 391 RX12 yX12_mate wsX12_mate) := goodIn_app (goodIn_of _ (by decide +kernel)) ggL_law_X12_mate
set_option maxRecDepth 20000 in
theorem ggL_law_L_separate : GoodIn wsL_law wsL_separate := goodIn_ca (goodIn_ca (goodIn_ca (goodIn_r _ [1570, 272, 273, 1571, 1572, 1573, 2, 1574, 1492, 1575, 280, 281, 282, 283, 284, 285, 117, 15, 286, 287, 288, 289, 290, 1971, 1972, 1973, 1974, 1975, 1976, 1977, 1978, 1979, 1980, 1981, 1982, 1983, 1984, 1985, 1986, 1987, 1988, 1989, 1990, 1902, 1903, 1904, 1905, 1906, 1907, 1908, 1909, 1910, 1911, 1912] (by decide +kernel) (by decide +kernel)) (goodIn_sub (fun _ h => List.mem_append_left _ (List.mem_append_left _ (List.mem_append_left _ (List.mem_append_left _ (List.mem_append_left _ (List.mem_append_left _ (List.mem_append_left _ (List.mem_append_right _ h)))))))) (by decide +kernel))) (goodIn_sub (fun _ h => List.mem_append_left _ (List.mem_append_left _ (List.mem_append_left _ (List.mem_append_left _ (List.mem_append_right _ h))))) (by decide +kernel))) (goodIn_sub (fun _ h => List.mem_append_left _ (List.mem_append_left _ (List.mem_append_left _ (List.mem_append_right _ h)))) (by decide +kernel))
set_option maxRecDepth 20000 in
theorem gL_law_L_separate : GoodIn wsL_law (va_wsS RL 392 yL_separate wsL_separate) := goodIn_app (goodIn_of _ (by decide +kernel)) ggL_law_L_separate
set_option maxRecDepth 20000 in
theorem ggL_law_X12_separate : GoodIn wsL_law wsX12_separate := goodIn_r _ [1579, 297, 298, 299, 5, 300, 66, 195, 196, 197, 65, 198, 199, 187, 188, 189, 190, 191, 192, 193, 194, 301, 302, 303, 304, 305, 306, 307, 308, 309, 310, 311, 312, 313, 314, 315, 316, 317, 318, 319, 320, 321, 93, 265, 266, 267, 268, 1998, 1999, 2000, 2001, 2002, 2003, 2004, 2005, 2006, 2007, 2008, 2009, 2010, 2011, 2012, 2013, 2014, 2015, 2016, 2017, 2018, 2019, 2020, 1913, 1914, 1915, 1916, 1917, 1918, 1919, 1920, 1921, 1922, 1923, 1924, 1925, 1926, 1927, 1928, 1929, 1930, 1931, 1932, 1933, 1934, 1935, 1936, 1937, 1938, 1939, 1940, 1941, 1942, 1943, 1944, 1945, 1946, 1968, 1969, 1970] (by decide +kernel) (by decide +kernel)
set_option maxRecDepth 20000 in
theorem gL_law_X12_separate : GoodIn wsL_law (wsV RL 394 RX12 yX12_separate wsX12_separate) := goodIn_app (goodIn_of _ (by decide +kernel)) ggL_law_X12_separate
set_option maxRecDepth 20000 in
theorem ggL_law_L_machine : GoodIn wsL_law wsL_machine := goodIn_ca (goodIn_ca (goodIn_ca (goodIn_r _ [1582, 108, 109, 1583, 1584, 1585, 2, 1586, 114, 115, 1587, 19, 18, 1588, 1589, 1590, 1591, 1592, 126, 127, 123, 124, 125, 1593, 1594, 1595, 1596, 12, 13, 1597, 1598, 1902, 1903, 1904, 1905, 1906, 1907, 1908, 1909, 1910, 1911, 1912, 2039, 2040, 2041, 2042] (by decide +kernel) (by decide +kernel)) (goodIn_sub (fun _ h => List.mem_append_left _ (List.mem_append_left _ (List.mem_append_left _ (List.mem_append_left _ (List.mem_append_left _ (List.mem_append_left _ (List.mem_append_left _ (List.mem_append_right _ h)))))))) (by decide +kernel))) (goodIn_sub (fun _ h => List.mem_append_left _ (List.mem_append_left _ (List.mem_append_left _ (List.mem_append_left _ (List.mem_append_left _ (List.mem_append_left _ (List.mem_append_right _ h))))))) (by decide +kernel))) (goodIn_sub (fun _ h => List.mem_append_left _ (List.mem_append_left _ (List.mem_append_left _ (List.mem_append_left _ (List.mem_append_left _ (List.mem_append_right _ h)))))) (by decide +kernel))
set_option maxRecDepth 20000 in
theorem gL_law_L_machine : GoodIn wsL_law (va_wsS RL 395 yL_machine wsL_machine) := goodIn_app (goodIn_of _ (by decide +kernel)) ggL_law_L_machine
set_option maxRecDepth 20000 in
theorem ggL_law_X12_machine : GoodIn wsL_law wsX12_machine := goodIn_ca (goodIn_r _ [1602, 843, 1603, 72, 73, 1604, 1605, 5, 1606, 187, 188, 189, 190, 191, 192, 193, 194, 265, 266, 267, 268, 1913, 1914, 1915, 1916, 1917, 1918, 1919, 1920, 1921, 1922, 1923, 1924, 1925, 1926, 1927, 1928, 1929, 1930, 1931, 1932, 1933, 1934, 1935, 1936, 1937, 1938, 1939, 1940, 1941, 1942, 1943, 1944, 1945, 1946] (by decide +kernel) (by decide +kernel)) (goodIn_sub (fun _ h => List.mem_append_left _ (List.mem_append_left _ (List.mem_append_left _ (List.mem_append_left _ (List.mem_append_left _ (List.mem_append_left _ (List.mem_append_left _ (List.mem_append_right _ h)))))))) (by decide +kernel))
set_option maxRecDepth 20000 in
theorem gL_law_X12_machine : GoodIn wsL_law (wsV RL 398 RX12 yX12_machine wsX12_machine) := goodIn_app (goodIn_of _ (by decide +kernel)) ggL_law_X12_machine
set_option maxRecDepth 20000 in
theorem ggL_law_L_toolsAt : GoodIn wsL_law wsL_toolsAt := goodIn_ca (goodIn_ca (goodIn_ca (goodIn_r _ [1609, 272, 108, 1610, 1611, 1612, 2, 1613, 284, 285, 1587, 19, 1614, 123, 124, 125, 126, 127, 1902, 1903, 1904, 1905, 1906, 1907, 1908, 1909, 1910, 1911, 1912, 2039, 2040, 2041, 2042] (by decide +kernel) (by decide +kernel)) (goodIn_sub (fun _ h => List.mem_append_left _ (List.mem_append_left _ (List.mem_append_left _ (List.mem_append_left _ (List.mem_append_left _ (List.mem_append_left _ (List.mem_append_left _ (List.mem_append_right _ h)))))))) (by decide +kernel))) (goodIn_sub (fun _ h => List.mem_append_left _ (List.mem_append_left _ (List.mem_append_left _ (List.mem_append_left _ (List.mem_append_right _ h))))) (by decide +kernel))) (goodIn_sub (fun _ h => List.mem_append_left _ (List.mem_append_left _ (List.mem_append_left _ (List.mem_append_left _ (List.mem_append_left _ (List.mem_append_right _ h)))))) (by decide +kernel))
set_option maxRecDepth 20000 in
theorem gL_law_L_toolsAt : GoodIn wsL_law (va_wsS RL 399 yL_toolsAt wsL_toolsAt) := goodIn_app (goodIn_of _ (by decide +kernel)) ggL_law_L_toolsAt
set_option maxRecDepth 20000 in
theorem ggL_law_X12_toolsAt : GoodIn wsL_law wsX12_toolsAt := goodIn_ca (goodIn_r _ [1618, 1603, 672, 74, 187, 188, 5, 189, 190, 191, 192, 193, 194, 265, 266, 267, 268, 1913, 1914, 1915, 1916, 1917, 1918, 1919, 1920, 1921, 1922, 1923, 1924, 1925, 1926, 1927, 1928, 1929, 1930, 1931, 1932, 1933, 1934, 1935, 1936, 1937, 1938, 1939, 1940, 1941, 1942, 1943, 1944, 1945, 1946] (by decide +kernel) (by decide +kernel)) (goodIn_sub (fun _ h => List.mem_append_left _ (List.mem_append_left _ (List.mem_append_left _ (List.mem_append_left _ (List.mem_append_left _ (List.mem_append_left _ (List.mem_append_left _ (List.mem_append_right _ h)))))))) (by decide +kernel))
set_option maxRecDepth 20000 in
theorem gL_law_X12_toolsAt : GoodIn wsL_law (wsV RL 401 RX12 yX12_toolsAt wsX12_toolsAt) := goodIn_app (goodIn_of _ (by decide +kernel)) ggL_law_X12_toolsAt
set_option maxRecDepth 20000 in
theorem ggL_law_L_route : GoodIn wsL_law wsL_route := goodIn_ca (goodIn_ca (goodIn_ca (goodIn_ca (goodIn_r _ [1621, 272, 108, 109, 1622, 1623, 1624, 2, 1625, 114, 115, 1626, 280, 281, 282, 283, 284, 285, 117, 15, 1590, 1591, 1592, 126, 127, 1627, 1628, 1629, 143, 1630, 1631, 1632, 1633, 1634, 158, 1635, 1636, 1637, 1638, 1639, 1640, 1641, 1642, 1643, 1644, 163, 1645, 1646, 1647, 1648, 1649, 164, 1650, 1651, 1652, 1653, 1654, 1655, 1656, 237, 238, 239, 240, 232, 233, 234, 241, 242, 243, 244, 1657, 1658, 247, 1659, 1660, 1661, 1662, 1663, 1664, 1665, 162, 258, 259, 260, 261, 262, 263, 264, 1666, 1667, 1668, 1669, 1670, 161, 1671, 1672, 1673, 1674, 1675, 1676, 1677, 1678, 1679, 165, 166, 167, 168, 169, 170, 171, 172, 1680, 1681, 1682, 1683, 1684, 1685, 1686, 1687, 1688, 1689, 1690, 1691, 1692, 1693, 1694, 1695, 1696, 1697, 1698, 316, 1699, 1700, 1701, 1702, 1703, 1704, 1705, 1706, 1707, 1708, 1709, 1710, 1711, 1712, 1713, 1714, 1715, 315, 317, 1971, 1972, 1973, 1974, 1975, 1976, 1977, 1978, 1979, 1980, 1981, 1982, 1983, 1984, 1985, 1986, 1987, 1988, 1989, 1990, 1902, 1903, 1904, 1905, 1906, 1907, 1908, 1909, 1910, 1911, 1912, 1994, 1995, 1996, 1997] (by decide +kernel) (by decide +kernel)) (goodIn_sub (fun _ h => List.mem_append_left _ (List.mem_append_left _ (List.mem_append_left _ (List.mem_append_left _ (List.mem_append_left _ (List.mem_append_left _ (List.mem_append_left _ (List.mem_append_right _ h)))))))) (by decide +kernel))) (goodIn_sub (fun _ h => List.mem_append_left _ (List.mem_append_left _ (List.mem_append_left _ (List.mem_append_left _ (List.mem_append_left _ (List.mem_append_left _ (List.mem_append_right _ h))))))) (by decide +kernel))) (goodIn_sub (fun _ h => List.mem_append_left _ (List.mem_append_left _ (List.mem_append_left _ (List.mem_append_left _ (List.mem_append_right _ h))))) (by decide +kernel))) (goodIn_sub (fun _ h => List.mem_append_left _ (List.mem_append_left _ (List.mem_append_left _ (List.mem_append_left _ (List.mem_append_left _ (List.mem_append_right _ h)))))) (by decide +kernel))
set_option maxRecDepth 20000 in
theorem gL_law_L_route : GoodIn wsL_law (va_wsS RL 402 yL_route wsL_route) := goodIn_app (goodIn_of _ (by decide +kernel)) ggL_law_L_route
set_option maxRecDepth 20000 in
theorem ggL_law_X12_route : GoodIn wsL_law wsX12_route := goodIn_ca (goodIn_r _ [1719, 297, 298, 299, 5, 300, 66, 195, 196, 197, 65, 198, 199, 187, 188, 189, 190, 191, 192, 193, 194, 1604, 1605, 1606, 301, 302, 303, 304, 305, 306, 307, 308, 309, 310, 311, 312, 313, 314, 315, 316, 317, 318, 319, 320, 321, 93, 265, 266, 267, 268, 1998, 1999, 2000, 2001, 2002, 2003, 2004, 2005, 2006, 2007, 2008, 2009, 2010, 2011, 2012, 2013, 2014, 2015, 2016, 2017, 2018, 2019, 2020, 1913, 1914, 1915, 1916, 1917, 1918, 1919, 1920, 1921, 1922, 1923, 1924, 1925, 1926, 1927, 1928, 1929, 1930, 1931, 1932, 1933, 1934, 1935, 1936, 1937, 1938, 1939, 1940, 1941, 1942, 1943, 1944, 1945, 1946, 1968, 1969, 1970] (by decide +kernel) (by decide +kernel)) (goodIn_sub (fun _ h => List.mem_append_left _ (List.mem_append_left _ (List.mem_append_left _ (List.mem_append_left _ (List.mem_append_left _ (List.mem_append_left _ (List.mem_append_left _ (List.mem_append_right _ h)))))))) (by decide +kernel))
set_option maxRecDepth 20000 in
theorem gL_law_X12_route : GoodIn wsL_law (wsV RL 405 RX12 yX12_route wsX12_route) := goodIn_app (goodIn_of _ (by decide +kernel)) ggL_law_X12_route
set_option maxRecDepth 20000 in
theorem ggL_law_L_doneAt : GoodIn wsL_law wsL_doneAt := goodIn_ca (goodIn_ca (goodIn_ca (goodIn_r _ [1722, 272, 584, 1723, 1724, 1725, 2, 1726, 1587, 19, 1614, 1727, 1575, 117, 15, 1626, 280, 281, 282, 283, 284, 285, 1728, 1729, 1730, 1731, 589, 590, 1627, 1628, 1629, 143, 1630, 1631, 1632, 1633, 1634, 158, 1635, 1636, 1732, 1733, 1734, 1735, 1736, 1737, 1738, 1739, 164, 163, 1740, 259, 233, 260, 1741, 1713, 1694, 1714, 1696, 1715, 315, 316, 317, 1742, 1743, 167, 1744, 1703, 1704, 1705, 1689, 1690, 1691, 1745, 1746, 1747, 1748, 1030, 1749, 1750, 1751, 1752, 1589, 1753, 1754, 1755, 232, 234, 1598, 1756, 1757, 1758, 1759, 1902, 1903, 1904, 1905, 1906, 1907, 1908, 1909, 1910, 1911, 1912, 2039, 2040, 2041, 2042, 1971, 1972, 1973, 1974, 1975, 1976, 1977, 1978, 1979, 1980, 1981, 1982, 1983, 1984, 1985, 1986, 1987, 1988, 1989, 1990, 1994, 1995, 1996, 1997] (by decide +kernel) (by decide +kernel)) (goodIn_sub (fun _ h => List.mem_append_left _ (List.mem_append_left _ (List.mem_append_left _ (List.mem_append_left _ (List.mem_append_left _ (List.mem_append_left _ (List.mem_append_left _ (List.mem_append_right _ h)))))))) (by decide +kernel))) (goodIn_sub (fun _ h => List.mem_append_left _ (List.mem_append_left _ (List.mem_append_left _ (List.mem_append_left _ (List.mem_append_right _ h))))) (by decide +kernel))) (goodIn_sub (fun _ h => List.mem_append_left _ (List.mem_append_right _ h)) (by decide +kernel))
set_option maxRecDepth 20000 in
theorem gL_law_L_doneAt : GoodIn wsL_law (va_wsS RL 406 yL_doneAt wsL_doneAt) := goodIn_app (goodIn_of _ (by decide +kernel)) ggL_law_L_doneAt
set_option maxRecDepth 20000 in
theorem ggL_law_X12_doneAt : GoodIn wsL_law wsX12_doneAt := goodIn_ca (goodIn_r _ [1763, 75, 66, 297, 298, 299, 5, 300, 195, 196, 197, 65, 198, 199, 187, 188, 189, 190, 191, 192, 193, 194, 301, 302, 303, 304, 305, 306, 307, 308, 309, 310, 311, 312, 313, 314, 315, 316, 317, 318, 319, 320, 321, 93, 1764, 1765, 1766, 1767, 1603, 74, 1283, 232, 233, 234, 73, 72, 265, 266, 267, 268, 1913, 1914, 1915, 1916, 1917, 1918, 1919, 1920, 1921, 1922, 1923, 1924, 1925, 1926, 1927, 1928, 1929, 1930, 1931, 1932, 1933, 1934, 1935, 1936, 1937, 1938, 1939, 1940, 1941, 1942, 1943, 1944, 1945, 1946, 1968, 1969, 1970, 1998, 1999, 2000, 2001, 2002, 2003, 2004, 2005, 2006, 2007, 2008, 2009, 2010, 2011, 2012, 2013, 2014, 2015, 2016, 2017, 2018, 2019, 2020] (by decide +kernel) (by decide +kernel)) (goodIn_sub (fun _ h => List.mem_append_left _ (List.mem_append_left _ (List.mem_append_left _ (List.mem_append_left _ (List.mem_append_left _ (List.mem_append_left _ (List.mem_append_left _ (List.mem_append_right _ h)))))))) (by decide +kernel))
set_option maxRecDepth 20000 in
theorem gL_law_X12_doneAt : GoodIn wsL_law (wsV RL 408 RX12 yX12_doneAt wsX12_doneAt) := goodIn_app (goodIn_of _ (by decide +kernel)) ggL_law_X12_doneAt
set_option maxRecDepth 20000 in
theorem ggL_law_L_oldModule : GoodIn wsL_law wsL_oldModule := goodIn_ca (goodIn_ca (goodIn_ca (goodIn_r _ [1770, 108, 584, 1771, 1772, 1773, 2, 1774, 1775, 1776, 1777, 589, 590, 1778, 1779, 1780, 1781, 120, 121, 122, 123, 124, 125, 126, 127, 1782, 1783, 1784, 1785, 12, 13, 1786, 1787, 1788, 1789, 1790, 1791, 1792, 1793, 1794, 1795, 1796, 1797, 1798, 1799, 1800, 1801, 1802, 1803, 1804, 352, 353, 1805, 2043, 2044, 2045, 2046, 2047, 2048] (by decide +kernel) (by decide +kernel)) (goodIn_sub (fun _ h => List.mem_append_left _ (List.mem_append_left _ (List.mem_append_left _ (List.mem_append_left _ (List.mem_append_left _ (List.mem_append_left _ (List.mem_append_left _ (List.mem_append_right _ h)))))))) (by decide +kernel))) (goodIn_sub (fun _ h => List.mem_append_left _ (List.mem_append_right _ h)) (by decide +kernel))) (goodIn_sub (fun _ h => List.mem_append_left _ (List.mem_append_left _ (List.mem_append_left _ (List.mem_append_left _ (List.mem_append_left _ (List.mem_append_right _ h)))))) (by decide +kernel))
set_option maxRecDepth 20000 in
theorem gL_law_L_oldModule : GoodIn wsL_law (va_wsS RL 409 yL_oldModule wsL_oldModule) := goodIn_app (goodIn_of _ (by decide +kernel)) ggL_law_L_oldModule
set_option maxRecDepth 20000 in
theorem ggL_law_X12_oldModule : GoodIn wsL_law wsX12_oldModule := goodIn_r _ [1809, 1810, 1811, 1812, 1813, 5, 1814, 177, 178, 182, 1815, 672, 194, 187, 188, 189, 1816, 1817, 1818, 1819, 931, 499, 296, 1820, 1821, 1822, 1823, 1824, 526, 515, 233, 516, 1913, 1914, 1915, 1916, 1917, 1918, 1919, 1920, 1921, 1922, 1923, 1924, 1925, 1926, 1927, 1928, 1929, 1930, 1931, 1932, 1933, 1934, 1935, 1936, 1937, 1938, 1939, 1940, 1941, 1942, 1943, 1944, 1945, 1946] (by decide +kernel) (by decide +kernel)
set_option maxRecDepth 20000 in
theorem gL_law_X12_oldModule : GoodIn wsL_law (wsV RL 411 RX12 yX12_oldModule wsX12_oldModule) := goodIn_app (goodIn_of _ (by decide +kernel)) ggL_law_X12_oldModule
set_option maxRecDepth 20000 in
theorem ggL_law_L_oldShift : GoodIn wsL_law wsL_oldShift := goodIn_ca (goodIn_ca (goodIn_ca (goodIn_r _ [1827, 108, 584, 1828, 1829, 1830, 2, 1831, 1775, 1776, 1777, 589, 590, 1778, 1779, 1780, 1781, 120, 121, 122, 123, 124, 125, 126, 127, 1782, 1783, 1784, 1785, 12, 13, 1786, 1787, 1788, 1789, 1790, 1791, 1792, 1793, 1794, 1795, 1796, 1797, 1798, 1799, 1800, 1801, 1802, 1803, 1804, 352, 353, 1805, 2043, 2044, 2045, 2046, 2047, 2048] (by decide +kernel) (by decide +kernel)) (goodIn_sub (fun _ h => List.mem_append_left _ (List.mem_append_left _ (List.mem_append_left _ (List.mem_append_left _ (List.mem_append_left _ (List.mem_append_left _ (List.mem_append_left _ (List.mem_append_right _ h)))))))) (by decide +kernel))) (goodIn_sub (fun _ h => List.mem_append_left _ (List.mem_append_right _ h)) (by decide +kernel))) (goodIn_sub (fun _ h => List.mem_append_left _ (List.mem_append_left _ (List.mem_append_left _ (List.mem_append_left _ (List.mem_append_left _ (List.mem_append_right _ h)))))) (by decide +kernel))
set_option maxRecDepth 20000 in
theorem gL_law_L_oldShift : GoodIn wsL_law (va_wsS RL 412 yL_oldShift wsL_oldShift) := goodIn_app (goodIn_of _ (by decide +kernel)) ggL_law_L_oldShift
set_option maxRecDepth 20000 in
theorem ggL_law_X12_oldShift : GoodIn wsL_law wsX12_oldShift := goodIn_r _ [1835, 1820, 1811, 1812, 1813, 5, 1814, 177, 178, 182, 1815, 672, 194, 187, 188, 189, 1816, 1817, 1818, 1819, 931, 499, 296, 1810, 1821, 1822, 1823, 1824, 526, 515, 233, 516, 1913, 1914, 1915, 1916, 1917, 1918, 1919, 1920, 1921, 1922, 1923, 1924, 1925, 1926, 1927, 1928, 1929, 1930, 1931, 1932, 1933, 1934, 1935, 1936, 1937, 1938, 1939, 1940, 1941, 1942, 1943, 1944, 1945, 1946] (by decide +kernel) (by decide +kernel)
set_option maxRecDepth 20000 in
theorem gL_law_X12_oldShift : GoodIn wsL_law (wsV RL 414 RX12 yX12_oldShift wsX12_oldShift) := goodIn_app (goodIn_of _ (by decide +kernel)) ggL_law_X12_oldShift
set_option maxRecDepth 20000 in
theorem ggL_law_X9_allDamage : GoodIn wsL_law wsX9_allDamage := goodIn_r _ [1839, 117, 15, 1480, 1902, 1903, 1904, 1905, 1906, 1907, 1908, 1909, 1910, 1911, 1912, 1971, 1972, 1973, 1974, 1975, 1976, 1977, 1978, 1979, 1980, 1981, 1982, 1983, 1984, 1985, 1986, 1987, 1988, 1989, 1990] (by decide +kernel) (by decide +kernel)
set_option maxRecDepth 20000 in
theorem gL_law_X9_allDamage : GoodIn wsL_law (wsV RL 415 RX9 yX9_allDamage wsX9_allDamage) := goodIn_app (goodIn_of _ (by decide +kernel)) ggL_law_X9_allDamage
set_option maxRecDepth 20000 in
theorem ggL_law_X12_allDamage : GoodIn wsL_law wsX12_allDamage := goodIn_r _ [1843, 66, 195, 196, 197, 65, 198, 199, 301, 302, 303, 5, 304, 305, 306, 307, 308, 309, 310, 311, 312, 313, 314, 315, 316, 317, 318, 319, 320, 321, 93, 1440, 1441, 1442, 1443, 194, 1913, 1914, 1915, 1916, 1917, 1918, 1919, 1920, 1921, 1922, 1923, 1924, 1925, 1926, 1927, 1928, 1929, 1930, 1931, 1932, 1933, 1934, 1935, 1936, 1937, 1938, 1939, 1940, 1941, 1942, 1943, 1944, 1945, 1946, 1998, 1999, 2000, 2001, 2002, 2003, 2004, 2005, 2006, 2007, 2008, 2009, 2010, 2011, 2012, 2013, 2014, 2015, 2016, 2017, 2018, 2019, 2020, 1968, 1969, 1970] (by decide +kernel) (by decide +kernel)
set_option maxRecDepth 20000 in
theorem gL_law_X12_allDamage : GoodIn wsL_law (wsV RL 419 RX12 yX12_allDamage wsX12_allDamage) := goodIn_app (goodIn_of _ (by decide +kernel)) ggL_law_X12_allDamage
set_option maxRecDepth 20000 in
theorem ggL_law_L_cutShare : GoodIn wsL_law wsL_cutShare := goodIn_ca (goodIn_ca (goodIn_r _ [1846, 1847, 1848, 1849, 1850, 2, 1851, 117, 15, 278, 1852, 1853, 1854, 1855, 1856, 1857, 1902, 1903, 1904, 1905, 1906, 1907, 1908, 1909, 1910, 1911, 1912, 1971, 1972, 1973, 1974, 1975, 1976, 1977, 1978, 1979, 1980, 1981, 1982, 1983, 1984, 1985, 1986, 1987, 1988, 1989, 1990] (by decide +kernel) (by decide +kernel)) (goodIn_sub (fun _ h => List.mem_append_left _ (List.mem_append_left _ (List.mem_append_left _ (List.mem_append_left _ (List.mem_append_left _ (List.mem_append_left _ (List.mem_append_left _ (List.mem_append_right _ h)))))))) (by decide +kernel))) (goodIn_sub (fun _ h => List.mem_append_right _ h) (by decide +kernel))
set_option maxRecDepth 20000 in
theorem gL_law_L_cutShare : GoodIn wsL_law (va_wsS RL 420 yL_cutShare wsL_cutShare) := goodIn_app (goodIn_of _ (by decide +kernel)) ggL_law_L_cutShare
set_option maxRecDepth 20000 in
theorem ggL_law_X12_cutShare : GoodIn wsL_law wsX12_cutShare := goodIn_r _ [1861, 66, 194, 195, 196, 197, 65, 198, 199, 301, 302, 303, 5, 304, 305, 306, 307, 308, 309, 310, 311, 312, 313, 314, 315, 316, 317, 318, 319, 320, 321, 93, 1862, 1863, 1864, 1865, 1913, 1914, 1915, 1916, 1917, 1918, 1919, 1920, 1921, 1922, 1923, 1924, 1925, 1926, 1927, 1928, 1929, 1930, 1931, 1932, 1933, 1934, 1935, 1936, 1937, 1938, 1939, 1940, 1941, 1942, 1943, 1944, 1945, 1946, 1998, 1999, 2000, 2001, 2002, 2003, 2004, 2005, 2006, 2007, 2008, 2009, 2010, 2011, 2012, 2013, 2014, 2015, 2016, 2017, 2018, 2019, 2020, 1968, 1969, 1970] (by decide +kernel) (by decide +kernel)
set_option maxRecDepth 20000 in
theorem gL_law_X12_cutShare : GoodIn wsL_law (wsV RL 423 RX12 yX12_cutShare wsX12_cutShare) := goodIn_app (goodIn_of _ (by decide +kernel)) ggL_law_X12_cutShare
set_option maxRecDepth 20000 in
theorem ggL_law_L_meanGrade : GoodIn wsL_law wsL_meanGrade := goodIn_ca (goodIn_ca (goodIn_r _ [1868, 1847, 1869, 1870, 1871, 2, 1872, 117, 15, 1852, 1853, 1854, 1855, 1856, 1857, 1217, 1218, 1219, 119, 1220, 140, 1221, 1141, 232, 233, 234, 1222, 1223, 1224, 1225, 139, 1226, 151, 1227, 515, 516, 1228, 1229, 1230, 1231, 1902, 1903, 1904, 1905, 1906, 1907, 1908, 1909, 1910, 1911, 1912, 1971, 1972, 1973, 1974, 1975, 1976, 1977, 1978, 1979, 1980, 1981, 1982, 1983, 1984, 1985, 1986, 1987, 1988, 1989, 1990, 1991, 1992, 1993] (by decide +kernel) (by decide +kernel)) (goodIn_sub (fun _ h => List.mem_append_left _ (List.mem_append_left _ (List.mem_append_left _ (List.mem_append_left _ (List.mem_append_left _ (List.mem_append_left _ (List.mem_append_left _ (List.mem_append_right _ h)))))))) (by decide +kernel))) (goodIn_sub (fun _ h => List.mem_append_right _ h) (by decide +kernel))
set_option maxRecDepth 20000 in
theorem gL_law_L_meanGrade : GoodIn wsL_law (va_wsS RL 424 yL_meanGrade wsL_meanGrade) := goodIn_app (goodIn_of _ (by decide +kernel)) ggL_law_L_meanGrade
set_option maxRecDepth 20000 in
theorem ggL_law_X12_meanGrade : GoodIn wsL_law wsX12_meanGrade := goodIn_ca (goodIn_ca (goodIn_r _ [1876, 66, 194, 195, 196, 197, 65, 198, 199, 301, 302, 303, 5, 304, 305, 306, 307, 308, 309, 310, 311, 312, 313, 314, 315, 316, 317, 318, 319, 320, 321, 93, 1236, 1237, 1238, 186, 1239, 1240, 1117, 232, 233, 234, 1241, 1242, 1243, 1244, 209, 204, 1245, 515, 516, 1246, 1247, 1248, 1249, 1250, 1251, 1202, 1203, 1204, 1205, 259, 260, 1206, 1207, 1208, 1209, 1862, 1863, 1864, 1865, 1913, 1914, 1915, 1916, 1917, 1918, 1919, 1920, 1921, 1922, 1923, 1924, 1925, 1926, 1927, 1928, 1929, 1930, 1931, 1932, 1933, 1934, 1935, 1936, 1937, 1938, 1939, 1940, 1941, 1942, 1943, 1944, 1945, 1946, 1968, 1969, 1970, 1998, 1999, 2000, 2001, 2002, 2003, 2004, 2005, 2006, 2007, 2008, 2009, 2010, 2011, 2012, 2013, 2014, 2015, 2016, 2017, 2018, 2019, 2020] (by decide +kernel) (by decide +kernel)) (goodIn_sub (fun _ h => List.mem_append_left _ (List.mem_append_left _ (List.mem_append_left _ (List.mem_append_left _ (List.mem_append_left _ (List.mem_append_left _ (List.mem_append_left _ (List.mem_append_right _ h)))))))) (by decide +kernel))) (goodIn_sub (fun _ h => List.mem_append_left _ (List.mem_append_left _ (List.mem_append_right _ h))) (by decide +kernel))
set_option maxRecDepth 20000 in
theorem gL_law_X12_meanGrade : GoodIn wsL_law (wsV RL 426 RX12 yX12_meanGrade wsX12_meanGrade) := goodIn_app (goodIn_of _ (by decide +kernel)) ggL_law_X12_meanGrade
set_option maxRecDepth 20000 in
theorem ggL_law_X9_isSound : GoodIn wsL_law wsX9_isSound := goodIn_ca (goodIn_ca (goodIn_r _ [1880, 117, 15, 1169, 1881, 1882, 1883, 2, 1884, 1492, 1575, 278, 428, 429, 430, 119, 431, 134, 135, 1885, 1886, 1887, 1888, 27, 1296, 1297, 1298, 26, 1299, 1300, 1301, 259, 233, 260, 1302, 232, 234, 47, 43, 44, 45, 46, 660, 661, 662, 1303, 1304, 1305, 1306, 1341, 1342, 1343, 1344, 1345, 1308, 1309, 1310, 1311, 1312, 1313, 1047, 1048, 1049, 1889, 1890, 1891, 1892, 1196, 1307, 1893, 1894, 1895, 1896, 1897, 1030, 512, 1031, 1032, 1033, 1034, 1902, 1903, 1904, 1905, 1906, 1907, 1908, 1909, 1910, 1911, 1912, 1971, 1972, 1973, 1974, 1975, 1976, 1977, 1978, 1979, 1980, 1981, 1982, 1983, 1984, 1985, 1986, 1987, 1988, 1989, 1990, 1991, 1992, 1993, 1954, 1955, 1956, 1957, 1958] (by decide +kernel) (by decide +kernel)) (goodIn_sub (fun _ h => List.mem_append_left _ (List.mem_append_left _ (List.mem_append_right _ h))) (by decide +kernel))) (goodIn_sub (fun _ h => List.mem_append_left _ (List.mem_append_left _ (List.mem_append_left _ (List.mem_append_left _ (List.mem_append_left _ (List.mem_append_left _ (List.mem_append_left _ (List.mem_append_right _ h)))))))) (by decide +kernel))
set_option maxRecDepth 20000 in
theorem gL_law_X9_isSound : GoodIn wsL_law (wsV RL 427 RX9 yX9_isSound wsX9_isSound) := goodIn_app (goodIn_of _ (by decide +kernel)) ggL_law_X9_isSound
set_option maxRecDepth 20000 in
theorem ggL_law_X12_isSound : GoodIn wsL_law wsX12_isSound := goodIn_r _ [1901, 384, 385, 386, 5, 387, 194, 1913, 1914, 1915, 1916, 1917, 1918, 1919, 1920, 1921, 1922, 1923, 1924, 1925, 1926, 1927, 1928, 1929, 1930, 1931, 1932, 1933, 1934, 1935, 1936, 1937, 1938, 1939, 1940, 1941, 1942, 1943, 1944, 1945, 1946] (by decide +kernel) (by decide +kernel)
set_option maxRecDepth 20000 in
theorem gL_law_X12_isSound : GoodIn wsL_law (wsV RL 431 RX12 yX12_isSound wsX12_isSound) := goodIn_app (goodIn_of _ (by decide +kernel)) ggL_law_X12_isSound
theorem dL_law_0 : decode cL_law 0 = .ok (.new 8, 3) := by decide +kernel
theorem dL_law_3 : decode cL_law 3 = .ok (.dup, 1) := by decide +kernel
theorem dL_law_4 : decode cL_law 4 = .ok (.invokespecial 221, 3) := by decide +kernel
theorem dL_law_7 : decode cL_law 7 = .ok (.astore_n 1, 1) := by decide +kernel
theorem dL_law_8 : decode cL_law 8 = .ok (.new 222, 3) := by decide +kernel
theorem dL_law_11 : decode cL_law 11 = .ok (.dup, 1) := by decide +kernel
theorem dL_law_12 : decode cL_law 12 = .ok (.invokespecial 224, 3) := by decide +kernel
theorem dL_law_15 : decode cL_law 15 = .ok (.astore_n 2, 1) := by decide +kernel
theorem dL_law_16 : decode cL_law 16 = .ok (.iconst 1, 1) := by decide +kernel
theorem dL_law_17 : decode cL_law 17 = .ok (.newarray .long, 2) := by decide +kernel
theorem dL_law_19 : decode cL_law 19 = .ok (.astore_n 3, 1) := by decide +kernel
theorem dL_law_20 : decode cL_law 20 = .ok (.iconst 1, 1) := by decide +kernel
theorem dL_law_21 : decode cL_law 21 = .ok (.newarray .double, 2) := by decide +kernel
theorem dL_law_23 : decode cL_law 23 = .ok (.astore 4, 2) := by decide +kernel
theorem dL_law_25 : decode cL_law 25 = .ok (.iconst 0, 1) := by decide +kernel
theorem dL_law_26 : decode cL_law 26 = .ok (.istore 5, 2) := by decide +kernel
theorem dL_law_28 : decode cL_law 28 = .ok (.iload 5, 2) := by decide +kernel
theorem dL_law_30 : decode cL_law 30 = .ok (.aload_n 0, 1) := by decide +kernel
theorem dL_law_31 : decode cL_law 31 = .ok (.arraylength, 1) := by decide +kernel
theorem dL_law_32 : decode cL_law 32 = .ok (.iconst 5, 1) := by decide +kernel
theorem dL_law_33 : decode cL_law 33 = .ok (.isub, 1) := by decide +kernel
theorem dL_law_34 : decode cL_law 34 = .ok (.if_icmp .gt 2896, 3) := by decide +kernel
theorem dL_law_37 : decode cL_law 37 = .ok (.aload_n 0, 1) := by decide +kernel
theorem dL_law_38 : decode cL_law 38 = .ok (.iload 5, 2) := by decide +kernel
theorem dL_law_40 : decode cL_law 40 = .ok (.iaload, 1) := by decide +kernel
theorem dL_law_41 : decode cL_law 41 = .ok (.bipush 63, 2) := by decide +kernel
theorem dL_law_43 : decode cL_law 43 = .ok (.iand, 1) := by decide +kernel
theorem dL_law_44 : decode cL_law 44 = .ok (.tableswitch 2880 0 62 #[268, 332, 372, 400, 428, 456, 484, 512, 552, 592, 632, 672, 712, 752, 816, 880, 944, 996, 1060, 1088, 1140, 1192, 1260, 1324, 1376, 1428, 1468, 1496, 1548, 1588, 1616, 1680, 1732, 1800, 1828, 1856, 1908, 1936, 1988, 2016, 2044, 2084, 2112, 2164, 2204, 2256, 2296, 2324, 2364, 2428, 2456, 2508, 2536, 2564, 2606, 2646, 2688, 2716, 2768, 2820, 2833, 2850, 2867], 268) := by decide +kernel
theorem dL_law_312 : decode cL_law 312 = .ok (.aload_n 1, 1) := by decide +kernel
theorem dL_law_313 : decode cL_law 313 = .ok (.aload_n 0, 1) := by decide +kernel
theorem dL_law_314 : decode cL_law 314 = .ok (.iload 5, 2) := by decide +kernel
theorem dL_law_316 : decode cL_law 316 = .ok (.iconst 1, 1) := by decide +kernel
theorem dL_law_317 : decode cL_law 317 = .ok (.iadd, 1) := by decide +kernel
theorem dL_law_318 : decode cL_law 318 = .ok (.iaload, 1) := by decide +kernel
theorem dL_law_319 : decode cL_law 319 = .ok (.aload_n 0, 1) := by decide +kernel
theorem dL_law_320 : decode cL_law 320 = .ok (.iload 5, 2) := by decide +kernel
theorem dL_law_322 : decode cL_law 322 = .ok (.iconst 2, 1) := by decide +kernel
theorem dL_law_323 : decode cL_law 323 = .ok (.iadd, 1) := by decide +kernel
theorem dL_law_324 : decode cL_law 324 = .ok (.iaload, 1) := by decide +kernel
theorem dL_law_325 : decode cL_law 325 = .ok (.aload_n 0, 1) := by decide +kernel
theorem dL_law_326 : decode cL_law 326 = .ok (.iload 5, 2) := by decide +kernel
theorem dL_law_328 : decode cL_law 328 = .ok (.iconst 3, 1) := by decide +kernel
theorem dL_law_329 : decode cL_law 329 = .ok (.iadd, 1) := by decide +kernel
theorem dL_law_330 : decode cL_law 330 = .ok (.iaload, 1) := by decide +kernel
theorem dL_law_331 : decode cL_law 331 = .ok (.aload_n 0, 1) := by decide +kernel
theorem dL_law_332 : decode cL_law 332 = .ok (.iload 5, 2) := by decide +kernel
theorem dL_law_334 : decode cL_law 334 = .ok (.iconst 4, 1) := by decide +kernel
theorem dL_law_335 : decode cL_law 335 = .ok (.iadd, 1) := by decide +kernel
theorem dL_law_336 : decode cL_law 336 = .ok (.iaload, 1) := by decide +kernel
theorem dL_law_337 : decode cL_law 337 = .ok (.aload_n 3, 1) := by decide +kernel
theorem dL_law_338 : decode cL_law 338 = .ok (.invokestatic 225, 3) := by decide +kernel
theorem dL_law_341 : decode cL_law 341 = .ok (.istore 6, 2) := by decide +kernel
theorem dL_law_343 : decode cL_law 343 = .ok (.aload_n 2, 1) := by decide +kernel
theorem dL_law_344 : decode cL_law 344 = .ok (.aload_n 0, 1) := by decide +kernel
theorem dL_law_345 : decode cL_law 345 = .ok (.iload 5, 2) := by decide +kernel
theorem dL_law_347 : decode cL_law 347 = .ok (.iconst 1, 1) := by decide +kernel
theorem dL_law_348 : decode cL_law 348 = .ok (.iadd, 1) := by decide +kernel
theorem dL_law_349 : decode cL_law 349 = .ok (.iaload, 1) := by decide +kernel
theorem dL_law_350 : decode cL_law 350 = .ok (.aload_n 0, 1) := by decide +kernel
theorem dL_law_351 : decode cL_law 351 = .ok (.iload 5, 2) := by decide +kernel
theorem dL_law_353 : decode cL_law 353 = .ok (.iconst 2, 1) := by decide +kernel
theorem dL_law_354 : decode cL_law 354 = .ok (.iadd, 1) := by decide +kernel
theorem dL_law_355 : decode cL_law 355 = .ok (.iaload, 1) := by decide +kernel
theorem dL_law_356 : decode cL_law 356 = .ok (.aload_n 0, 1) := by decide +kernel
theorem dL_law_357 : decode cL_law 357 = .ok (.iload 5, 2) := by decide +kernel
theorem dL_law_359 : decode cL_law 359 = .ok (.iconst 3, 1) := by decide +kernel
theorem dL_law_360 : decode cL_law 360 = .ok (.iadd, 1) := by decide +kernel
theorem dL_law_361 : decode cL_law 361 = .ok (.iaload, 1) := by decide +kernel
theorem dL_law_362 : decode cL_law 362 = .ok (.aload_n 0, 1) := by decide +kernel
theorem dL_law_363 : decode cL_law 363 = .ok (.iload 5, 2) := by decide +kernel
theorem dL_law_365 : decode cL_law 365 = .ok (.iconst 4, 1) := by decide +kernel
theorem dL_law_366 : decode cL_law 366 = .ok (.iadd, 1) := by decide +kernel
theorem dL_law_367 : decode cL_law 367 = .ok (.iaload, 1) := by decide +kernel
theorem dL_law_368 : decode cL_law 368 = .ok (.invokevirtual 230, 3) := by decide +kernel
theorem dL_law_371 : decode cL_law 371 = .ok (.istore 7, 2) := by decide +kernel
theorem dL_law_373 : decode cL_law 373 = .ok (.goto 2551, 3) := by decide +kernel
theorem dL_law_376 : decode cL_law 376 = .ok (.aload_n 1, 1) := by decide +kernel
theorem dL_law_377 : decode cL_law 377 = .ok (.aload_n 0, 1) := by decide +kernel
theorem dL_law_378 : decode cL_law 378 = .ok (.iload 5, 2) := by decide +kernel
theorem dL_law_380 : decode cL_law 380 = .ok (.iconst 1, 1) := by decide +kernel
theorem dL_law_381 : decode cL_law 381 = .ok (.iadd, 1) := by decide +kernel
theorem dL_law_382 : decode cL_law 382 = .ok (.iaload, 1) := by decide +kernel
theorem dL_law_383 : decode cL_law 383 = .ok (.aload_n 0, 1) := by decide +kernel
theorem dL_law_384 : decode cL_law 384 = .ok (.iload 5, 2) := by decide +kernel
theorem dL_law_386 : decode cL_law 386 = .ok (.iconst 2, 1) := by decide +kernel
theorem dL_law_387 : decode cL_law 387 = .ok (.iadd, 1) := by decide +kernel
theorem dL_law_388 : decode cL_law 388 = .ok (.iaload, 1) := by decide +kernel
theorem dL_law_389 : decode cL_law 389 = .ok (.aload_n 3, 1) := by decide +kernel
theorem dL_law_390 : decode cL_law 390 = .ok (.invokestatic 231, 3) := by decide +kernel
theorem dL_law_393 : decode cL_law 393 = .ok (.istore 6, 2) := by decide +kernel
theorem dL_law_395 : decode cL_law 395 = .ok (.aload_n 2, 1) := by decide +kernel
theorem dL_law_396 : decode cL_law 396 = .ok (.aload_n 0, 1) := by decide +kernel
theorem dL_law_397 : decode cL_law 397 = .ok (.iload 5, 2) := by decide +kernel
theorem dL_law_399 : decode cL_law 399 = .ok (.iconst 1, 1) := by decide +kernel
theorem dL_law_400 : decode cL_law 400 = .ok (.iadd, 1) := by decide +kernel
theorem dL_law_401 : decode cL_law 401 = .ok (.iaload, 1) := by decide +kernel
theorem dL_law_402 : decode cL_law 402 = .ok (.aload_n 0, 1) := by decide +kernel
theorem dL_law_403 : decode cL_law 403 = .ok (.iload 5, 2) := by decide +kernel
theorem dL_law_405 : decode cL_law 405 = .ok (.iconst 2, 1) := by decide +kernel
theorem dL_law_406 : decode cL_law 406 = .ok (.iadd, 1) := by decide +kernel
theorem dL_law_407 : decode cL_law 407 = .ok (.iaload, 1) := by decide +kernel
theorem dL_law_408 : decode cL_law 408 = .ok (.invokevirtual 234, 3) := by decide +kernel
theorem dL_law_411 : decode cL_law 411 = .ok (.istore 7, 2) := by decide +kernel
theorem dL_law_413 : decode cL_law 413 = .ok (.goto 2511, 3) := by decide +kernel
theorem dL_law_416 : decode cL_law 416 = .ok (.aload_n 1, 1) := by decide +kernel
theorem dL_law_417 : decode cL_law 417 = .ok (.aload_n 0, 1) := by decide +kernel
theorem dL_law_418 : decode cL_law 418 = .ok (.iload 5, 2) := by decide +kernel
theorem dL_law_420 : decode cL_law 420 = .ok (.iconst 1, 1) := by decide +kernel
theorem dL_law_421 : decode cL_law 421 = .ok (.iadd, 1) := by decide +kernel
theorem dL_law_422 : decode cL_law 422 = .ok (.iaload, 1) := by decide +kernel
theorem dL_law_423 : decode cL_law 423 = .ok (.aload_n 3, 1) := by decide +kernel
theorem dL_law_424 : decode cL_law 424 = .ok (.invokestatic 235, 3) := by decide +kernel
theorem dL_law_427 : decode cL_law 427 = .ok (.istore 6, 2) := by decide +kernel
theorem dL_law_429 : decode cL_law 429 = .ok (.aload_n 2, 1) := by decide +kernel
theorem dL_law_430 : decode cL_law 430 = .ok (.aload_n 0, 1) := by decide +kernel
theorem dL_law_431 : decode cL_law 431 = .ok (.iload 5, 2) := by decide +kernel
theorem dL_law_433 : decode cL_law 433 = .ok (.iconst 1, 1) := by decide +kernel
theorem dL_law_434 : decode cL_law 434 = .ok (.iadd, 1) := by decide +kernel
theorem dL_law_435 : decode cL_law 435 = .ok (.iaload, 1) := by decide +kernel
theorem dL_law_436 : decode cL_law 436 = .ok (.invokevirtual 238, 3) := by decide +kernel
theorem dL_law_439 : decode cL_law 439 = .ok (.istore 7, 2) := by decide +kernel
theorem dL_law_441 : decode cL_law 441 = .ok (.goto 2483, 3) := by decide +kernel
theorem dL_law_444 : decode cL_law 444 = .ok (.aload_n 1, 1) := by decide +kernel
theorem dL_law_445 : decode cL_law 445 = .ok (.aload_n 0, 1) := by decide +kernel
theorem dL_law_446 : decode cL_law 446 = .ok (.iload 5, 2) := by decide +kernel
theorem dL_law_448 : decode cL_law 448 = .ok (.iconst 1, 1) := by decide +kernel
theorem dL_law_449 : decode cL_law 449 = .ok (.iadd, 1) := by decide +kernel
theorem dL_law_450 : decode cL_law 450 = .ok (.iaload, 1) := by decide +kernel
theorem dL_law_451 : decode cL_law 451 = .ok (.aload_n 3, 1) := by decide +kernel
theorem dL_law_452 : decode cL_law 452 = .ok (.invokestatic 239, 3) := by decide +kernel
theorem dL_law_455 : decode cL_law 455 = .ok (.istore 6, 2) := by decide +kernel
theorem dL_law_457 : decode cL_law 457 = .ok (.aload_n 2, 1) := by decide +kernel
theorem dL_law_458 : decode cL_law 458 = .ok (.aload_n 0, 1) := by decide +kernel
theorem dL_law_459 : decode cL_law 459 = .ok (.iload 5, 2) := by decide +kernel
theorem dL_law_461 : decode cL_law 461 = .ok (.iconst 1, 1) := by decide +kernel
theorem dL_law_462 : decode cL_law 462 = .ok (.iadd, 1) := by decide +kernel
theorem dL_law_463 : decode cL_law 463 = .ok (.iaload, 1) := by decide +kernel
theorem dL_law_464 : decode cL_law 464 = .ok (.invokevirtual 241, 3) := by decide +kernel
theorem dL_law_467 : decode cL_law 467 = .ok (.istore 7, 2) := by decide +kernel
theorem dL_law_469 : decode cL_law 469 = .ok (.goto 2455, 3) := by decide +kernel
theorem dL_law_472 : decode cL_law 472 = .ok (.aload_n 1, 1) := by decide +kernel
theorem dL_law_473 : decode cL_law 473 = .ok (.aload_n 0, 1) := by decide +kernel
theorem dL_law_474 : decode cL_law 474 = .ok (.iload 5, 2) := by decide +kernel
theorem dL_law_476 : decode cL_law 476 = .ok (.iconst 1, 1) := by decide +kernel
theorem dL_law_477 : decode cL_law 477 = .ok (.iadd, 1) := by decide +kernel
theorem dL_law_478 : decode cL_law 478 = .ok (.iaload, 1) := by decide +kernel
theorem dL_law_479 : decode cL_law 479 = .ok (.aload_n 3, 1) := by decide +kernel
theorem dL_law_480 : decode cL_law 480 = .ok (.invokestatic 242, 3) := by decide +kernel
theorem dL_law_483 : decode cL_law 483 = .ok (.istore 6, 2) := by decide +kernel
theorem dL_law_485 : decode cL_law 485 = .ok (.aload_n 2, 1) := by decide +kernel
theorem dL_law_486 : decode cL_law 486 = .ok (.aload_n 0, 1) := by decide +kernel
theorem dL_law_487 : decode cL_law 487 = .ok (.iload 5, 2) := by decide +kernel
theorem dL_law_489 : decode cL_law 489 = .ok (.iconst 1, 1) := by decide +kernel
theorem dL_law_490 : decode cL_law 490 = .ok (.iadd, 1) := by decide +kernel
theorem dL_law_491 : decode cL_law 491 = .ok (.iaload, 1) := by decide +kernel
theorem dL_law_492 : decode cL_law 492 = .ok (.invokevirtual 244, 3) := by decide +kernel
theorem dL_law_495 : decode cL_law 495 = .ok (.istore 7, 2) := by decide +kernel
theorem dL_law_497 : decode cL_law 497 = .ok (.goto 2427, 3) := by decide +kernel
theorem dL_law_500 : decode cL_law 500 = .ok (.aload_n 1, 1) := by decide +kernel
theorem dL_law_501 : decode cL_law 501 = .ok (.aload_n 0, 1) := by decide +kernel
theorem dL_law_502 : decode cL_law 502 = .ok (.iload 5, 2) := by decide +kernel
theorem dL_law_504 : decode cL_law 504 = .ok (.iconst 1, 1) := by decide +kernel
theorem dL_law_505 : decode cL_law 505 = .ok (.iadd, 1) := by decide +kernel
theorem dL_law_506 : decode cL_law 506 = .ok (.iaload, 1) := by decide +kernel
theorem dL_law_507 : decode cL_law 507 = .ok (.aload_n 3, 1) := by decide +kernel
theorem dL_law_508 : decode cL_law 508 = .ok (.invokestatic 245, 3) := by decide +kernel
theorem dL_law_511 : decode cL_law 511 = .ok (.istore 6, 2) := by decide +kernel
theorem dL_law_513 : decode cL_law 513 = .ok (.aload_n 2, 1) := by decide +kernel
theorem dL_law_514 : decode cL_law 514 = .ok (.aload_n 0, 1) := by decide +kernel
theorem dL_law_515 : decode cL_law 515 = .ok (.iload 5, 2) := by decide +kernel
theorem dL_law_517 : decode cL_law 517 = .ok (.iconst 1, 1) := by decide +kernel
theorem dL_law_518 : decode cL_law 518 = .ok (.iadd, 1) := by decide +kernel
theorem dL_law_519 : decode cL_law 519 = .ok (.iaload, 1) := by decide +kernel
theorem dL_law_520 : decode cL_law 520 = .ok (.invokevirtual 247, 3) := by decide +kernel
theorem dL_law_523 : decode cL_law 523 = .ok (.istore 7, 2) := by decide +kernel
theorem dL_law_525 : decode cL_law 525 = .ok (.goto 2399, 3) := by decide +kernel
theorem dL_law_528 : decode cL_law 528 = .ok (.aload_n 1, 1) := by decide +kernel
theorem dL_law_529 : decode cL_law 529 = .ok (.aload_n 0, 1) := by decide +kernel
theorem dL_law_530 : decode cL_law 530 = .ok (.iload 5, 2) := by decide +kernel
theorem dL_law_532 : decode cL_law 532 = .ok (.iconst 1, 1) := by decide +kernel
theorem dL_law_533 : decode cL_law 533 = .ok (.iadd, 1) := by decide +kernel
theorem dL_law_534 : decode cL_law 534 = .ok (.iaload, 1) := by decide +kernel
theorem dL_law_535 : decode cL_law 535 = .ok (.aload_n 3, 1) := by decide +kernel
theorem dL_law_536 : decode cL_law 536 = .ok (.invokestatic 248, 3) := by decide +kernel
theorem dL_law_539 : decode cL_law 539 = .ok (.istore 6, 2) := by decide +kernel
theorem dL_law_541 : decode cL_law 541 = .ok (.aload_n 2, 1) := by decide +kernel
theorem dL_law_542 : decode cL_law 542 = .ok (.aload_n 0, 1) := by decide +kernel
theorem dL_law_543 : decode cL_law 543 = .ok (.iload 5, 2) := by decide +kernel
theorem dL_law_545 : decode cL_law 545 = .ok (.iconst 1, 1) := by decide +kernel
theorem dL_law_546 : decode cL_law 546 = .ok (.iadd, 1) := by decide +kernel
theorem dL_law_547 : decode cL_law 547 = .ok (.iaload, 1) := by decide +kernel
theorem dL_law_548 : decode cL_law 548 = .ok (.invokevirtual 250, 3) := by decide +kernel
theorem dL_law_551 : decode cL_law 551 = .ok (.istore 7, 2) := by decide +kernel
theorem dL_law_553 : decode cL_law 553 = .ok (.goto 2371, 3) := by decide +kernel
theorem dL_law_556 : decode cL_law 556 = .ok (.aload_n 1, 1) := by decide +kernel
theorem dL_law_557 : decode cL_law 557 = .ok (.aload_n 0, 1) := by decide +kernel
theorem dL_law_558 : decode cL_law 558 = .ok (.iload 5, 2) := by decide +kernel
theorem dL_law_560 : decode cL_law 560 = .ok (.iconst 1, 1) := by decide +kernel
theorem dL_law_561 : decode cL_law 561 = .ok (.iadd, 1) := by decide +kernel
theorem dL_law_562 : decode cL_law 562 = .ok (.iaload, 1) := by decide +kernel
theorem dL_law_563 : decode cL_law 563 = .ok (.aload_n 0, 1) := by decide +kernel
theorem dL_law_564 : decode cL_law 564 = .ok (.iload 5, 2) := by decide +kernel
theorem dL_law_566 : decode cL_law 566 = .ok (.iconst 2, 1) := by decide +kernel
theorem dL_law_567 : decode cL_law 567 = .ok (.iadd, 1) := by decide +kernel
theorem dL_law_568 : decode cL_law 568 = .ok (.iaload, 1) := by decide +kernel
theorem dL_law_569 : decode cL_law 569 = .ok (.aload_n 3, 1) := by decide +kernel
theorem dL_law_570 : decode cL_law 570 = .ok (.invokestatic 251, 3) := by decide +kernel
theorem dL_law_573 : decode cL_law 573 = .ok (.istore 6, 2) := by decide +kernel
theorem dL_law_575 : decode cL_law 575 = .ok (.aload_n 2, 1) := by decide +kernel
theorem dL_law_576 : decode cL_law 576 = .ok (.aload_n 0, 1) := by decide +kernel
theorem dL_law_577 : decode cL_law 577 = .ok (.iload 5, 2) := by decide +kernel
theorem dL_law_579 : decode cL_law 579 = .ok (.iconst 1, 1) := by decide +kernel
theorem dL_law_580 : decode cL_law 580 = .ok (.iadd, 1) := by decide +kernel
theorem dL_law_581 : decode cL_law 581 = .ok (.iaload, 1) := by decide +kernel
theorem dL_law_582 : decode cL_law 582 = .ok (.aload_n 0, 1) := by decide +kernel
theorem dL_law_583 : decode cL_law 583 = .ok (.iload 5, 2) := by decide +kernel
theorem dL_law_585 : decode cL_law 585 = .ok (.iconst 2, 1) := by decide +kernel
theorem dL_law_586 : decode cL_law 586 = .ok (.iadd, 1) := by decide +kernel
theorem dL_law_587 : decode cL_law 587 = .ok (.iaload, 1) := by decide +kernel
theorem dL_law_588 : decode cL_law 588 = .ok (.invokevirtual 253, 3) := by decide +kernel
theorem dL_law_591 : decode cL_law 591 = .ok (.istore 7, 2) := by decide +kernel
theorem dL_law_593 : decode cL_law 593 = .ok (.goto 2331, 3) := by decide +kernel
theorem dL_law_596 : decode cL_law 596 = .ok (.aload_n 1, 1) := by decide +kernel
theorem dL_law_597 : decode cL_law 597 = .ok (.aload_n 0, 1) := by decide +kernel
theorem dL_law_598 : decode cL_law 598 = .ok (.iload 5, 2) := by decide +kernel
theorem dL_law_600 : decode cL_law 600 = .ok (.iconst 1, 1) := by decide +kernel
theorem dL_law_601 : decode cL_law 601 = .ok (.iadd, 1) := by decide +kernel
theorem dL_law_602 : decode cL_law 602 = .ok (.iaload, 1) := by decide +kernel
theorem dL_law_603 : decode cL_law 603 = .ok (.aload_n 0, 1) := by decide +kernel
theorem dL_law_604 : decode cL_law 604 = .ok (.iload 5, 2) := by decide +kernel
theorem dL_law_606 : decode cL_law 606 = .ok (.iconst 2, 1) := by decide +kernel
theorem dL_law_607 : decode cL_law 607 = .ok (.iadd, 1) := by decide +kernel
theorem dL_law_608 : decode cL_law 608 = .ok (.iaload, 1) := by decide +kernel
theorem dL_law_609 : decode cL_law 609 = .ok (.aload_n 3, 1) := by decide +kernel
theorem dL_law_610 : decode cL_law 610 = .ok (.invokestatic 254, 3) := by decide +kernel
theorem dL_law_613 : decode cL_law 613 = .ok (.istore 6, 2) := by decide +kernel
theorem dL_law_615 : decode cL_law 615 = .ok (.aload_n 2, 1) := by decide +kernel
theorem dL_law_616 : decode cL_law 616 = .ok (.aload_n 0, 1) := by decide +kernel
theorem dL_law_617 : decode cL_law 617 = .ok (.iload 5, 2) := by decide +kernel
theorem dL_law_619 : decode cL_law 619 = .ok (.iconst 1, 1) := by decide +kernel
theorem dL_law_620 : decode cL_law 620 = .ok (.iadd, 1) := by decide +kernel
theorem dL_law_621 : decode cL_law 621 = .ok (.iaload, 1) := by decide +kernel
theorem dL_law_622 : decode cL_law 622 = .ok (.aload_n 0, 1) := by decide +kernel
theorem dL_law_623 : decode cL_law 623 = .ok (.iload 5, 2) := by decide +kernel
theorem dL_law_625 : decode cL_law 625 = .ok (.iconst 2, 1) := by decide +kernel
theorem dL_law_626 : decode cL_law 626 = .ok (.iadd, 1) := by decide +kernel
theorem dL_law_627 : decode cL_law 627 = .ok (.iaload, 1) := by decide +kernel
theorem dL_law_628 : decode cL_law 628 = .ok (.invokevirtual 256, 3) := by decide +kernel
theorem dL_law_631 : decode cL_law 631 = .ok (.lstore 7, 2) := by decide +kernel
theorem dL_law_633 : decode cL_law 633 = .ok (.goto 2291, 3) := by decide +kernel
theorem dL_law_636 : decode cL_law 636 = .ok (.aload_n 1, 1) := by decide +kernel
theorem dL_law_637 : decode cL_law 637 = .ok (.aload_n 0, 1) := by decide +kernel
theorem dL_law_638 : decode cL_law 638 = .ok (.iload 5, 2) := by decide +kernel
theorem dL_law_640 : decode cL_law 640 = .ok (.iconst 1, 1) := by decide +kernel
theorem dL_law_641 : decode cL_law 641 = .ok (.iadd, 1) := by decide +kernel
theorem dL_law_642 : decode cL_law 642 = .ok (.iaload, 1) := by decide +kernel
theorem dL_law_643 : decode cL_law 643 = .ok (.aload_n 0, 1) := by decide +kernel
theorem dL_law_644 : decode cL_law 644 = .ok (.iload 5, 2) := by decide +kernel
theorem dL_law_646 : decode cL_law 646 = .ok (.iconst 2, 1) := by decide +kernel
theorem dL_law_647 : decode cL_law 647 = .ok (.iadd, 1) := by decide +kernel
theorem dL_law_648 : decode cL_law 648 = .ok (.iaload, 1) := by decide +kernel
theorem dL_law_649 : decode cL_law 649 = .ok (.aload_n 3, 1) := by decide +kernel
theorem dL_law_650 : decode cL_law 650 = .ok (.invokestatic 257, 3) := by decide +kernel
theorem dL_law_653 : decode cL_law 653 = .ok (.istore 6, 2) := by decide +kernel
theorem dL_law_655 : decode cL_law 655 = .ok (.aload_n 2, 1) := by decide +kernel
theorem dL_law_656 : decode cL_law 656 = .ok (.aload_n 0, 1) := by decide +kernel
theorem dL_law_657 : decode cL_law 657 = .ok (.iload 5, 2) := by decide +kernel
theorem dL_law_659 : decode cL_law 659 = .ok (.iconst 1, 1) := by decide +kernel
theorem dL_law_660 : decode cL_law 660 = .ok (.iadd, 1) := by decide +kernel
theorem dL_law_661 : decode cL_law 661 = .ok (.iaload, 1) := by decide +kernel
theorem dL_law_662 : decode cL_law 662 = .ok (.aload_n 0, 1) := by decide +kernel
theorem dL_law_663 : decode cL_law 663 = .ok (.iload 5, 2) := by decide +kernel
theorem dL_law_665 : decode cL_law 665 = .ok (.iconst 2, 1) := by decide +kernel
theorem dL_law_666 : decode cL_law 666 = .ok (.iadd, 1) := by decide +kernel
theorem dL_law_667 : decode cL_law 667 = .ok (.iaload, 1) := by decide +kernel
theorem dL_law_668 : decode cL_law 668 = .ok (.invokevirtual 259, 3) := by decide +kernel
theorem dL_law_671 : decode cL_law 671 = .ok (.lstore 7, 2) := by decide +kernel
theorem dL_law_673 : decode cL_law 673 = .ok (.goto 2251, 3) := by decide +kernel
theorem dL_law_676 : decode cL_law 676 = .ok (.aload_n 1, 1) := by decide +kernel
theorem dL_law_677 : decode cL_law 677 = .ok (.aload_n 0, 1) := by decide +kernel
theorem dL_law_678 : decode cL_law 678 = .ok (.iload 5, 2) := by decide +kernel
theorem dL_law_680 : decode cL_law 680 = .ok (.iconst 1, 1) := by decide +kernel
theorem dL_law_681 : decode cL_law 681 = .ok (.iadd, 1) := by decide +kernel
theorem dL_law_682 : decode cL_law 682 = .ok (.iaload, 1) := by decide +kernel
theorem dL_law_683 : decode cL_law 683 = .ok (.aload_n 0, 1) := by decide +kernel
theorem dL_law_684 : decode cL_law 684 = .ok (.iload 5, 2) := by decide +kernel
theorem dL_law_686 : decode cL_law 686 = .ok (.iconst 2, 1) := by decide +kernel
theorem dL_law_687 : decode cL_law 687 = .ok (.iadd, 1) := by decide +kernel
theorem dL_law_688 : decode cL_law 688 = .ok (.iaload, 1) := by decide +kernel
theorem dL_law_689 : decode cL_law 689 = .ok (.aload_n 3, 1) := by decide +kernel
theorem dL_law_690 : decode cL_law 690 = .ok (.invokestatic 260, 3) := by decide +kernel
theorem dL_law_693 : decode cL_law 693 = .ok (.istore 6, 2) := by decide +kernel
theorem dL_law_695 : decode cL_law 695 = .ok (.aload_n 2, 1) := by decide +kernel
theorem dL_law_696 : decode cL_law 696 = .ok (.aload_n 0, 1) := by decide +kernel
theorem dL_law_697 : decode cL_law 697 = .ok (.iload 5, 2) := by decide +kernel
theorem dL_law_699 : decode cL_law 699 = .ok (.iconst 1, 1) := by decide +kernel
theorem dL_law_700 : decode cL_law 700 = .ok (.iadd, 1) := by decide +kernel
theorem dL_law_701 : decode cL_law 701 = .ok (.iaload, 1) := by decide +kernel
theorem dL_law_702 : decode cL_law 702 = .ok (.aload_n 0, 1) := by decide +kernel
theorem dL_law_703 : decode cL_law 703 = .ok (.iload 5, 2) := by decide +kernel
theorem dL_law_705 : decode cL_law 705 = .ok (.iconst 2, 1) := by decide +kernel
theorem dL_law_706 : decode cL_law 706 = .ok (.iadd, 1) := by decide +kernel
theorem dL_law_707 : decode cL_law 707 = .ok (.iaload, 1) := by decide +kernel
theorem dL_law_708 : decode cL_law 708 = .ok (.invokevirtual 262, 3) := by decide +kernel
theorem dL_law_711 : decode cL_law 711 = .ok (.istore 7, 2) := by decide +kernel
theorem dL_law_713 : decode cL_law 713 = .ok (.goto 2211, 3) := by decide +kernel
theorem dL_law_716 : decode cL_law 716 = .ok (.aload_n 1, 1) := by decide +kernel
theorem dL_law_717 : decode cL_law 717 = .ok (.aload_n 0, 1) := by decide +kernel
theorem dL_law_718 : decode cL_law 718 = .ok (.iload 5, 2) := by decide +kernel
theorem dL_law_720 : decode cL_law 720 = .ok (.iconst 1, 1) := by decide +kernel
theorem dL_law_721 : decode cL_law 721 = .ok (.iadd, 1) := by decide +kernel
theorem dL_law_722 : decode cL_law 722 = .ok (.iaload, 1) := by decide +kernel
theorem dL_law_723 : decode cL_law 723 = .ok (.aload_n 0, 1) := by decide +kernel
theorem dL_law_724 : decode cL_law 724 = .ok (.iload 5, 2) := by decide +kernel
theorem dL_law_726 : decode cL_law 726 = .ok (.iconst 2, 1) := by decide +kernel
theorem dL_law_727 : decode cL_law 727 = .ok (.iadd, 1) := by decide +kernel
theorem dL_law_728 : decode cL_law 728 = .ok (.iaload, 1) := by decide +kernel
theorem dL_law_729 : decode cL_law 729 = .ok (.aload_n 3, 1) := by decide +kernel
theorem dL_law_730 : decode cL_law 730 = .ok (.invokestatic 263, 3) := by decide +kernel
theorem dL_law_733 : decode cL_law 733 = .ok (.istore 6, 2) := by decide +kernel
theorem dL_law_735 : decode cL_law 735 = .ok (.aload_n 2, 1) := by decide +kernel
theorem dL_law_736 : decode cL_law 736 = .ok (.aload_n 0, 1) := by decide +kernel
theorem dL_law_737 : decode cL_law 737 = .ok (.iload 5, 2) := by decide +kernel
theorem dL_law_739 : decode cL_law 739 = .ok (.iconst 1, 1) := by decide +kernel
theorem dL_law_740 : decode cL_law 740 = .ok (.iadd, 1) := by decide +kernel
theorem dL_law_741 : decode cL_law 741 = .ok (.iaload, 1) := by decide +kernel
theorem dL_law_742 : decode cL_law 742 = .ok (.aload_n 0, 1) := by decide +kernel
theorem dL_law_743 : decode cL_law 743 = .ok (.iload 5, 2) := by decide +kernel
theorem dL_law_745 : decode cL_law 745 = .ok (.iconst 2, 1) := by decide +kernel
theorem dL_law_746 : decode cL_law 746 = .ok (.iadd, 1) := by decide +kernel
theorem dL_law_747 : decode cL_law 747 = .ok (.iaload, 1) := by decide +kernel
theorem dL_law_748 : decode cL_law 748 = .ok (.invokevirtual 265, 3) := by decide +kernel
theorem dL_law_751 : decode cL_law 751 = .ok (.lstore 7, 2) := by decide +kernel
theorem dL_law_753 : decode cL_law 753 = .ok (.goto 2171, 3) := by decide +kernel
theorem dL_law_756 : decode cL_law 756 = .ok (.aload_n 1, 1) := by decide +kernel
theorem dL_law_757 : decode cL_law 757 = .ok (.aload_n 0, 1) := by decide +kernel
theorem dL_law_758 : decode cL_law 758 = .ok (.iload 5, 2) := by decide +kernel
theorem dL_law_760 : decode cL_law 760 = .ok (.iconst 1, 1) := by decide +kernel
theorem dL_law_761 : decode cL_law 761 = .ok (.iadd, 1) := by decide +kernel
theorem dL_law_762 : decode cL_law 762 = .ok (.iaload, 1) := by decide +kernel
theorem dL_law_763 : decode cL_law 763 = .ok (.aload_n 0, 1) := by decide +kernel
theorem dL_law_764 : decode cL_law 764 = .ok (.iload 5, 2) := by decide +kernel
theorem dL_law_766 : decode cL_law 766 = .ok (.iconst 2, 1) := by decide +kernel
theorem dL_law_767 : decode cL_law 767 = .ok (.iadd, 1) := by decide +kernel
theorem dL_law_768 : decode cL_law 768 = .ok (.iaload, 1) := by decide +kernel
theorem dL_law_769 : decode cL_law 769 = .ok (.aload_n 3, 1) := by decide +kernel
theorem dL_law_770 : decode cL_law 770 = .ok (.invokestatic 266, 3) := by decide +kernel
theorem dL_law_773 : decode cL_law 773 = .ok (.istore 6, 2) := by decide +kernel
theorem dL_law_775 : decode cL_law 775 = .ok (.aload_n 2, 1) := by decide +kernel
theorem dL_law_776 : decode cL_law 776 = .ok (.aload_n 0, 1) := by decide +kernel
theorem dL_law_777 : decode cL_law 777 = .ok (.iload 5, 2) := by decide +kernel
theorem dL_law_779 : decode cL_law 779 = .ok (.iconst 1, 1) := by decide +kernel
theorem dL_law_780 : decode cL_law 780 = .ok (.iadd, 1) := by decide +kernel
theorem dL_law_781 : decode cL_law 781 = .ok (.iaload, 1) := by decide +kernel
theorem dL_law_782 : decode cL_law 782 = .ok (.aload_n 0, 1) := by decide +kernel
theorem dL_law_783 : decode cL_law 783 = .ok (.iload 5, 2) := by decide +kernel
theorem dL_law_785 : decode cL_law 785 = .ok (.iconst 2, 1) := by decide +kernel
theorem dL_law_786 : decode cL_law 786 = .ok (.iadd, 1) := by decide +kernel
theorem dL_law_787 : decode cL_law 787 = .ok (.iaload, 1) := by decide +kernel
theorem dL_law_788 : decode cL_law 788 = .ok (.invokevirtual 268, 3) := by decide +kernel
theorem dL_law_791 : decode cL_law 791 = .ok (.istore 7, 2) := by decide +kernel
theorem dL_law_793 : decode cL_law 793 = .ok (.goto 2131, 3) := by decide +kernel
theorem dL_law_796 : decode cL_law 796 = .ok (.aload_n 1, 1) := by decide +kernel
theorem dL_law_797 : decode cL_law 797 = .ok (.aload_n 0, 1) := by decide +kernel
theorem dL_law_798 : decode cL_law 798 = .ok (.iload 5, 2) := by decide +kernel
theorem dL_law_800 : decode cL_law 800 = .ok (.iconst 1, 1) := by decide +kernel
theorem dL_law_801 : decode cL_law 801 = .ok (.iadd, 1) := by decide +kernel
theorem dL_law_802 : decode cL_law 802 = .ok (.iaload, 1) := by decide +kernel
theorem dL_law_803 : decode cL_law 803 = .ok (.aload_n 0, 1) := by decide +kernel
theorem dL_law_804 : decode cL_law 804 = .ok (.iload 5, 2) := by decide +kernel
theorem dL_law_806 : decode cL_law 806 = .ok (.iconst 2, 1) := by decide +kernel
theorem dL_law_807 : decode cL_law 807 = .ok (.iadd, 1) := by decide +kernel
theorem dL_law_808 : decode cL_law 808 = .ok (.iaload, 1) := by decide +kernel
theorem dL_law_809 : decode cL_law 809 = .ok (.aload_n 0, 1) := by decide +kernel
theorem dL_law_810 : decode cL_law 810 = .ok (.iload 5, 2) := by decide +kernel
theorem dL_law_812 : decode cL_law 812 = .ok (.iconst 3, 1) := by decide +kernel
theorem dL_law_813 : decode cL_law 813 = .ok (.iadd, 1) := by decide +kernel
theorem dL_law_814 : decode cL_law 814 = .ok (.iaload, 1) := by decide +kernel
theorem dL_law_815 : decode cL_law 815 = .ok (.aload_n 0, 1) := by decide +kernel
theorem dL_law_816 : decode cL_law 816 = .ok (.iload 5, 2) := by decide +kernel
theorem dL_law_818 : decode cL_law 818 = .ok (.iconst 4, 1) := by decide +kernel
theorem dL_law_819 : decode cL_law 819 = .ok (.iadd, 1) := by decide +kernel
theorem dL_law_820 : decode cL_law 820 = .ok (.iaload, 1) := by decide +kernel
theorem dL_law_821 : decode cL_law 821 = .ok (.aload_n 3, 1) := by decide +kernel
theorem dL_law_822 : decode cL_law 822 = .ok (.invokestatic 269, 3) := by decide +kernel
theorem dL_law_825 : decode cL_law 825 = .ok (.istore 6, 2) := by decide +kernel
theorem dL_law_827 : decode cL_law 827 = .ok (.aload_n 2, 1) := by decide +kernel
theorem dL_law_828 : decode cL_law 828 = .ok (.aload_n 0, 1) := by decide +kernel
theorem dL_law_829 : decode cL_law 829 = .ok (.iload 5, 2) := by decide +kernel
theorem dL_law_831 : decode cL_law 831 = .ok (.iconst 1, 1) := by decide +kernel
theorem dL_law_832 : decode cL_law 832 = .ok (.iadd, 1) := by decide +kernel
theorem dL_law_833 : decode cL_law 833 = .ok (.iaload, 1) := by decide +kernel
theorem dL_law_834 : decode cL_law 834 = .ok (.aload_n 0, 1) := by decide +kernel
theorem dL_law_835 : decode cL_law 835 = .ok (.iload 5, 2) := by decide +kernel
theorem dL_law_837 : decode cL_law 837 = .ok (.iconst 2, 1) := by decide +kernel
theorem dL_law_838 : decode cL_law 838 = .ok (.iadd, 1) := by decide +kernel
theorem dL_law_839 : decode cL_law 839 = .ok (.iaload, 1) := by decide +kernel
theorem dL_law_840 : decode cL_law 840 = .ok (.aload_n 0, 1) := by decide +kernel
theorem dL_law_841 : decode cL_law 841 = .ok (.iload 5, 2) := by decide +kernel
theorem dL_law_843 : decode cL_law 843 = .ok (.iconst 3, 1) := by decide +kernel
theorem dL_law_844 : decode cL_law 844 = .ok (.iadd, 1) := by decide +kernel
theorem dL_law_845 : decode cL_law 845 = .ok (.iaload, 1) := by decide +kernel
theorem dL_law_846 : decode cL_law 846 = .ok (.aload_n 0, 1) := by decide +kernel
theorem dL_law_847 : decode cL_law 847 = .ok (.iload 5, 2) := by decide +kernel
theorem dL_law_849 : decode cL_law 849 = .ok (.iconst 4, 1) := by decide +kernel
theorem dL_law_850 : decode cL_law 850 = .ok (.iadd, 1) := by decide +kernel
theorem dL_law_851 : decode cL_law 851 = .ok (.iaload, 1) := by decide +kernel
theorem dL_law_852 : decode cL_law 852 = .ok (.invokevirtual 271, 3) := by decide +kernel
theorem dL_law_855 : decode cL_law 855 = .ok (.istore 7, 2) := by decide +kernel
theorem dL_law_857 : decode cL_law 857 = .ok (.goto 2067, 3) := by decide +kernel
theorem dL_law_860 : decode cL_law 860 = .ok (.aload_n 1, 1) := by decide +kernel
theorem dL_law_861 : decode cL_law 861 = .ok (.aload_n 0, 1) := by decide +kernel
theorem dL_law_862 : decode cL_law 862 = .ok (.iload 5, 2) := by decide +kernel
theorem dL_law_864 : decode cL_law 864 = .ok (.iconst 1, 1) := by decide +kernel
theorem dL_law_865 : decode cL_law 865 = .ok (.iadd, 1) := by decide +kernel
theorem dL_law_866 : decode cL_law 866 = .ok (.iaload, 1) := by decide +kernel
theorem dL_law_867 : decode cL_law 867 = .ok (.aload_n 0, 1) := by decide +kernel
theorem dL_law_868 : decode cL_law 868 = .ok (.iload 5, 2) := by decide +kernel
theorem dL_law_870 : decode cL_law 870 = .ok (.iconst 2, 1) := by decide +kernel
theorem dL_law_871 : decode cL_law 871 = .ok (.iadd, 1) := by decide +kernel
theorem dL_law_872 : decode cL_law 872 = .ok (.iaload, 1) := by decide +kernel
theorem dL_law_873 : decode cL_law 873 = .ok (.aload_n 0, 1) := by decide +kernel
theorem dL_law_874 : decode cL_law 874 = .ok (.iload 5, 2) := by decide +kernel
theorem dL_law_876 : decode cL_law 876 = .ok (.iconst 3, 1) := by decide +kernel
theorem dL_law_877 : decode cL_law 877 = .ok (.iadd, 1) := by decide +kernel
theorem dL_law_878 : decode cL_law 878 = .ok (.iaload, 1) := by decide +kernel
theorem dL_law_879 : decode cL_law 879 = .ok (.aload_n 0, 1) := by decide +kernel
theorem dL_law_880 : decode cL_law 880 = .ok (.iload 5, 2) := by decide +kernel
theorem dL_law_882 : decode cL_law 882 = .ok (.iconst 4, 1) := by decide +kernel
theorem dL_law_883 : decode cL_law 883 = .ok (.iadd, 1) := by decide +kernel
theorem dL_law_884 : decode cL_law 884 = .ok (.iaload, 1) := by decide +kernel
theorem dL_law_885 : decode cL_law 885 = .ok (.aload_n 3, 1) := by decide +kernel
theorem dL_law_886 : decode cL_law 886 = .ok (.invokestatic 272, 3) := by decide +kernel
theorem dL_law_889 : decode cL_law 889 = .ok (.istore 6, 2) := by decide +kernel
theorem dL_law_891 : decode cL_law 891 = .ok (.aload_n 2, 1) := by decide +kernel
theorem dL_law_892 : decode cL_law 892 = .ok (.aload_n 0, 1) := by decide +kernel
theorem dL_law_893 : decode cL_law 893 = .ok (.iload 5, 2) := by decide +kernel
theorem dL_law_895 : decode cL_law 895 = .ok (.iconst 1, 1) := by decide +kernel
theorem dL_law_896 : decode cL_law 896 = .ok (.iadd, 1) := by decide +kernel
theorem dL_law_897 : decode cL_law 897 = .ok (.iaload, 1) := by decide +kernel
theorem dL_law_898 : decode cL_law 898 = .ok (.aload_n 0, 1) := by decide +kernel
theorem dL_law_899 : decode cL_law 899 = .ok (.iload 5, 2) := by decide +kernel
theorem dL_law_901 : decode cL_law 901 = .ok (.iconst 2, 1) := by decide +kernel
theorem dL_law_902 : decode cL_law 902 = .ok (.iadd, 1) := by decide +kernel
theorem dL_law_903 : decode cL_law 903 = .ok (.iaload, 1) := by decide +kernel
theorem dL_law_904 : decode cL_law 904 = .ok (.aload_n 0, 1) := by decide +kernel
theorem dL_law_905 : decode cL_law 905 = .ok (.iload 5, 2) := by decide +kernel
theorem dL_law_907 : decode cL_law 907 = .ok (.iconst 3, 1) := by decide +kernel
theorem dL_law_908 : decode cL_law 908 = .ok (.iadd, 1) := by decide +kernel
theorem dL_law_909 : decode cL_law 909 = .ok (.iaload, 1) := by decide +kernel
theorem dL_law_910 : decode cL_law 910 = .ok (.aload_n 0, 1) := by decide +kernel
theorem dL_law_911 : decode cL_law 911 = .ok (.iload 5, 2) := by decide +kernel
theorem dL_law_913 : decode cL_law 913 = .ok (.iconst 4, 1) := by decide +kernel
theorem dL_law_914 : decode cL_law 914 = .ok (.iadd, 1) := by decide +kernel
theorem dL_law_915 : decode cL_law 915 = .ok (.iaload, 1) := by decide +kernel
theorem dL_law_916 : decode cL_law 916 = .ok (.invokevirtual 274, 3) := by decide +kernel
theorem dL_law_919 : decode cL_law 919 = .ok (.istore 7, 2) := by decide +kernel
theorem dL_law_921 : decode cL_law 921 = .ok (.goto 2003, 3) := by decide +kernel
theorem dL_law_924 : decode cL_law 924 = .ok (.aload_n 1, 1) := by decide +kernel
theorem dL_law_925 : decode cL_law 925 = .ok (.aload_n 0, 1) := by decide +kernel
theorem dL_law_926 : decode cL_law 926 = .ok (.iload 5, 2) := by decide +kernel
theorem dL_law_928 : decode cL_law 928 = .ok (.iconst 1, 1) := by decide +kernel
theorem dL_law_929 : decode cL_law 929 = .ok (.iadd, 1) := by decide +kernel
theorem dL_law_930 : decode cL_law 930 = .ok (.iaload, 1) := by decide +kernel
theorem dL_law_931 : decode cL_law 931 = .ok (.aload_n 0, 1) := by decide +kernel
theorem dL_law_932 : decode cL_law 932 = .ok (.iload 5, 2) := by decide +kernel
theorem dL_law_934 : decode cL_law 934 = .ok (.iconst 2, 1) := by decide +kernel
theorem dL_law_935 : decode cL_law 935 = .ok (.iadd, 1) := by decide +kernel
theorem dL_law_936 : decode cL_law 936 = .ok (.iaload, 1) := by decide +kernel
theorem dL_law_937 : decode cL_law 937 = .ok (.aload_n 0, 1) := by decide +kernel
theorem dL_law_938 : decode cL_law 938 = .ok (.iload 5, 2) := by decide +kernel
theorem dL_law_940 : decode cL_law 940 = .ok (.iconst 3, 1) := by decide +kernel
theorem dL_law_941 : decode cL_law 941 = .ok (.iadd, 1) := by decide +kernel
theorem dL_law_942 : decode cL_law 942 = .ok (.iaload, 1) := by decide +kernel
theorem dL_law_943 : decode cL_law 943 = .ok (.aload_n 0, 1) := by decide +kernel
theorem dL_law_944 : decode cL_law 944 = .ok (.iload 5, 2) := by decide +kernel
theorem dL_law_946 : decode cL_law 946 = .ok (.iconst 4, 1) := by decide +kernel
theorem dL_law_947 : decode cL_law 947 = .ok (.iadd, 1) := by decide +kernel
theorem dL_law_948 : decode cL_law 948 = .ok (.iaload, 1) := by decide +kernel
theorem dL_law_949 : decode cL_law 949 = .ok (.aload_n 3, 1) := by decide +kernel
theorem dL_law_950 : decode cL_law 950 = .ok (.invokestatic 275, 3) := by decide +kernel
theorem dL_law_953 : decode cL_law 953 = .ok (.istore 6, 2) := by decide +kernel
theorem dL_law_955 : decode cL_law 955 = .ok (.aload_n 2, 1) := by decide +kernel
theorem dL_law_956 : decode cL_law 956 = .ok (.aload_n 0, 1) := by decide +kernel
theorem dL_law_957 : decode cL_law 957 = .ok (.iload 5, 2) := by decide +kernel
theorem dL_law_959 : decode cL_law 959 = .ok (.iconst 1, 1) := by decide +kernel
theorem dL_law_960 : decode cL_law 960 = .ok (.iadd, 1) := by decide +kernel
theorem dL_law_961 : decode cL_law 961 = .ok (.iaload, 1) := by decide +kernel
theorem dL_law_962 : decode cL_law 962 = .ok (.aload_n 0, 1) := by decide +kernel
theorem dL_law_963 : decode cL_law 963 = .ok (.iload 5, 2) := by decide +kernel
theorem dL_law_965 : decode cL_law 965 = .ok (.iconst 2, 1) := by decide +kernel
theorem dL_law_966 : decode cL_law 966 = .ok (.iadd, 1) := by decide +kernel
theorem dL_law_967 : decode cL_law 967 = .ok (.iaload, 1) := by decide +kernel
theorem dL_law_968 : decode cL_law 968 = .ok (.aload_n 0, 1) := by decide +kernel
theorem dL_law_969 : decode cL_law 969 = .ok (.iload 5, 2) := by decide +kernel
theorem dL_law_971 : decode cL_law 971 = .ok (.iconst 3, 1) := by decide +kernel
theorem dL_law_972 : decode cL_law 972 = .ok (.iadd, 1) := by decide +kernel
theorem dL_law_973 : decode cL_law 973 = .ok (.iaload, 1) := by decide +kernel
theorem dL_law_974 : decode cL_law 974 = .ok (.aload_n 0, 1) := by decide +kernel
theorem dL_law_975 : decode cL_law 975 = .ok (.iload 5, 2) := by decide +kernel
theorem dL_law_977 : decode cL_law 977 = .ok (.iconst 4, 1) := by decide +kernel
theorem dL_law_978 : decode cL_law 978 = .ok (.iadd, 1) := by decide +kernel
theorem dL_law_979 : decode cL_law 979 = .ok (.iaload, 1) := by decide +kernel
theorem dL_law_980 : decode cL_law 980 = .ok (.invokevirtual 277, 3) := by decide +kernel
theorem dL_law_983 : decode cL_law 983 = .ok (.istore 7, 2) := by decide +kernel
theorem dL_law_985 : decode cL_law 985 = .ok (.goto 1939, 3) := by decide +kernel
theorem dL_law_988 : decode cL_law 988 = .ok (.aload_n 1, 1) := by decide +kernel
theorem dL_law_989 : decode cL_law 989 = .ok (.aload_n 0, 1) := by decide +kernel
theorem dL_law_990 : decode cL_law 990 = .ok (.iload 5, 2) := by decide +kernel
theorem dL_law_992 : decode cL_law 992 = .ok (.iconst 1, 1) := by decide +kernel
theorem dL_law_993 : decode cL_law 993 = .ok (.iadd, 1) := by decide +kernel
theorem dL_law_994 : decode cL_law 994 = .ok (.iaload, 1) := by decide +kernel
theorem dL_law_995 : decode cL_law 995 = .ok (.aload_n 0, 1) := by decide +kernel
theorem dL_law_996 : decode cL_law 996 = .ok (.iload 5, 2) := by decide +kernel
theorem dL_law_998 : decode cL_law 998 = .ok (.iconst 2, 1) := by decide +kernel
theorem dL_law_999 : decode cL_law 999 = .ok (.iadd, 1) := by decide +kernel
theorem dL_law_1000 : decode cL_law 1000 = .ok (.iaload, 1) := by decide +kernel
theorem dL_law_1001 : decode cL_law 1001 = .ok (.aload_n 0, 1) := by decide +kernel
theorem dL_law_1002 : decode cL_law 1002 = .ok (.iload 5, 2) := by decide +kernel
theorem dL_law_1004 : decode cL_law 1004 = .ok (.iconst 3, 1) := by decide +kernel
theorem dL_law_1005 : decode cL_law 1005 = .ok (.iadd, 1) := by decide +kernel
theorem dL_law_1006 : decode cL_law 1006 = .ok (.iaload, 1) := by decide +kernel
theorem dL_law_1007 : decode cL_law 1007 = .ok (.aload_n 3, 1) := by decide +kernel
theorem dL_law_1008 : decode cL_law 1008 = .ok (.invokestatic 278, 3) := by decide +kernel
theorem dL_law_1011 : decode cL_law 1011 = .ok (.istore 6, 2) := by decide +kernel
theorem dL_law_1013 : decode cL_law 1013 = .ok (.aload_n 2, 1) := by decide +kernel
theorem dL_law_1014 : decode cL_law 1014 = .ok (.aload_n 0, 1) := by decide +kernel
theorem dL_law_1015 : decode cL_law 1015 = .ok (.iload 5, 2) := by decide +kernel
theorem dL_law_1017 : decode cL_law 1017 = .ok (.iconst 1, 1) := by decide +kernel
theorem dL_law_1018 : decode cL_law 1018 = .ok (.iadd, 1) := by decide +kernel
theorem dL_law_1019 : decode cL_law 1019 = .ok (.iaload, 1) := by decide +kernel
theorem dL_law_1020 : decode cL_law 1020 = .ok (.aload_n 0, 1) := by decide +kernel
theorem dL_law_1021 : decode cL_law 1021 = .ok (.iload 5, 2) := by decide +kernel
theorem dL_law_1023 : decode cL_law 1023 = .ok (.iconst 2, 1) := by decide +kernel
theorem dL_law_1024 : decode cL_law 1024 = .ok (.iadd, 1) := by decide +kernel
theorem dL_law_1025 : decode cL_law 1025 = .ok (.iaload, 1) := by decide +kernel
theorem dL_law_1026 : decode cL_law 1026 = .ok (.aload_n 0, 1) := by decide +kernel
theorem dL_law_1027 : decode cL_law 1027 = .ok (.iload 5, 2) := by decide +kernel
theorem dL_law_1029 : decode cL_law 1029 = .ok (.iconst 3, 1) := by decide +kernel
theorem dL_law_1030 : decode cL_law 1030 = .ok (.iadd, 1) := by decide +kernel
theorem dL_law_1031 : decode cL_law 1031 = .ok (.iaload, 1) := by decide +kernel
theorem dL_law_1032 : decode cL_law 1032 = .ok (.invokevirtual 281, 3) := by decide +kernel
theorem dL_law_1035 : decode cL_law 1035 = .ok (.istore 7, 2) := by decide +kernel
theorem dL_law_1037 : decode cL_law 1037 = .ok (.goto 1887, 3) := by decide +kernel
theorem dL_law_1040 : decode cL_law 1040 = .ok (.aload_n 1, 1) := by decide +kernel
theorem dL_law_1041 : decode cL_law 1041 = .ok (.aload_n 0, 1) := by decide +kernel
theorem dL_law_1042 : decode cL_law 1042 = .ok (.iload 5, 2) := by decide +kernel
theorem dL_law_1044 : decode cL_law 1044 = .ok (.iconst 1, 1) := by decide +kernel
theorem dL_law_1045 : decode cL_law 1045 = .ok (.iadd, 1) := by decide +kernel
theorem dL_law_1046 : decode cL_law 1046 = .ok (.iaload, 1) := by decide +kernel
theorem dL_law_1047 : decode cL_law 1047 = .ok (.aload_n 0, 1) := by decide +kernel
theorem dL_law_1048 : decode cL_law 1048 = .ok (.iload 5, 2) := by decide +kernel
theorem dL_law_1050 : decode cL_law 1050 = .ok (.iconst 2, 1) := by decide +kernel
theorem dL_law_1051 : decode cL_law 1051 = .ok (.iadd, 1) := by decide +kernel
theorem dL_law_1052 : decode cL_law 1052 = .ok (.iaload, 1) := by decide +kernel
theorem dL_law_1053 : decode cL_law 1053 = .ok (.aload_n 0, 1) := by decide +kernel
theorem dL_law_1054 : decode cL_law 1054 = .ok (.iload 5, 2) := by decide +kernel
theorem dL_law_1056 : decode cL_law 1056 = .ok (.iconst 3, 1) := by decide +kernel
theorem dL_law_1057 : decode cL_law 1057 = .ok (.iadd, 1) := by decide +kernel
theorem dL_law_1058 : decode cL_law 1058 = .ok (.iaload, 1) := by decide +kernel
theorem dL_law_1059 : decode cL_law 1059 = .ok (.aload_n 0, 1) := by decide +kernel
theorem dL_law_1060 : decode cL_law 1060 = .ok (.iload 5, 2) := by decide +kernel
theorem dL_law_1062 : decode cL_law 1062 = .ok (.iconst 4, 1) := by decide +kernel
theorem dL_law_1063 : decode cL_law 1063 = .ok (.iadd, 1) := by decide +kernel
theorem dL_law_1064 : decode cL_law 1064 = .ok (.iaload, 1) := by decide +kernel
theorem dL_law_1065 : decode cL_law 1065 = .ok (.aload_n 3, 1) := by decide +kernel
theorem dL_law_1066 : decode cL_law 1066 = .ok (.invokestatic 282, 3) := by decide +kernel
theorem dL_law_1069 : decode cL_law 1069 = .ok (.istore 6, 2) := by decide +kernel
theorem dL_law_1071 : decode cL_law 1071 = .ok (.aload_n 2, 1) := by decide +kernel
theorem dL_law_1072 : decode cL_law 1072 = .ok (.aload_n 0, 1) := by decide +kernel
theorem dL_law_1073 : decode cL_law 1073 = .ok (.iload 5, 2) := by decide +kernel
theorem dL_law_1075 : decode cL_law 1075 = .ok (.iconst 1, 1) := by decide +kernel
theorem dL_law_1076 : decode cL_law 1076 = .ok (.iadd, 1) := by decide +kernel
theorem dL_law_1077 : decode cL_law 1077 = .ok (.iaload, 1) := by decide +kernel
theorem dL_law_1078 : decode cL_law 1078 = .ok (.aload_n 0, 1) := by decide +kernel
theorem dL_law_1079 : decode cL_law 1079 = .ok (.iload 5, 2) := by decide +kernel
theorem dL_law_1081 : decode cL_law 1081 = .ok (.iconst 2, 1) := by decide +kernel
theorem dL_law_1082 : decode cL_law 1082 = .ok (.iadd, 1) := by decide +kernel
theorem dL_law_1083 : decode cL_law 1083 = .ok (.iaload, 1) := by decide +kernel
theorem dL_law_1084 : decode cL_law 1084 = .ok (.aload_n 0, 1) := by decide +kernel
theorem dL_law_1085 : decode cL_law 1085 = .ok (.iload 5, 2) := by decide +kernel
theorem dL_law_1087 : decode cL_law 1087 = .ok (.iconst 3, 1) := by decide +kernel
theorem dL_law_1088 : decode cL_law 1088 = .ok (.iadd, 1) := by decide +kernel
theorem dL_law_1089 : decode cL_law 1089 = .ok (.iaload, 1) := by decide +kernel
theorem dL_law_1090 : decode cL_law 1090 = .ok (.aload_n 0, 1) := by decide +kernel
theorem dL_law_1091 : decode cL_law 1091 = .ok (.iload 5, 2) := by decide +kernel
theorem dL_law_1093 : decode cL_law 1093 = .ok (.iconst 4, 1) := by decide +kernel
theorem dL_law_1094 : decode cL_law 1094 = .ok (.iadd, 1) := by decide +kernel
theorem dL_law_1095 : decode cL_law 1095 = .ok (.iaload, 1) := by decide +kernel
theorem dL_law_1096 : decode cL_law 1096 = .ok (.invokevirtual 284, 3) := by decide +kernel
theorem dL_law_1099 : decode cL_law 1099 = .ok (.istore 7, 2) := by decide +kernel
theorem dL_law_1101 : decode cL_law 1101 = .ok (.goto 1823, 3) := by decide +kernel
theorem dL_law_1104 : decode cL_law 1104 = .ok (.aload_n 1, 1) := by decide +kernel
theorem dL_law_1105 : decode cL_law 1105 = .ok (.aload_n 0, 1) := by decide +kernel
theorem dL_law_1106 : decode cL_law 1106 = .ok (.iload 5, 2) := by decide +kernel
theorem dL_law_1108 : decode cL_law 1108 = .ok (.iconst 1, 1) := by decide +kernel
theorem dL_law_1109 : decode cL_law 1109 = .ok (.iadd, 1) := by decide +kernel
theorem dL_law_1110 : decode cL_law 1110 = .ok (.iaload, 1) := by decide +kernel
theorem dL_law_1111 : decode cL_law 1111 = .ok (.aload_n 3, 1) := by decide +kernel
theorem dL_law_1112 : decode cL_law 1112 = .ok (.invokestatic 285, 3) := by decide +kernel
theorem dL_law_1115 : decode cL_law 1115 = .ok (.istore 6, 2) := by decide +kernel
theorem dL_law_1117 : decode cL_law 1117 = .ok (.aload_n 2, 1) := by decide +kernel
theorem dL_law_1118 : decode cL_law 1118 = .ok (.aload_n 0, 1) := by decide +kernel
theorem dL_law_1119 : decode cL_law 1119 = .ok (.iload 5, 2) := by decide +kernel
theorem dL_law_1121 : decode cL_law 1121 = .ok (.iconst 1, 1) := by decide +kernel
theorem dL_law_1122 : decode cL_law 1122 = .ok (.iadd, 1) := by decide +kernel
theorem dL_law_1123 : decode cL_law 1123 = .ok (.iaload, 1) := by decide +kernel
theorem dL_law_1124 : decode cL_law 1124 = .ok (.invokevirtual 287, 3) := by decide +kernel
theorem dL_law_1127 : decode cL_law 1127 = .ok (.istore 7, 2) := by decide +kernel
theorem dL_law_1129 : decode cL_law 1129 = .ok (.goto 1795, 3) := by decide +kernel
theorem dL_law_1132 : decode cL_law 1132 = .ok (.aload_n 1, 1) := by decide +kernel
theorem dL_law_1133 : decode cL_law 1133 = .ok (.aload_n 0, 1) := by decide +kernel
theorem dL_law_1134 : decode cL_law 1134 = .ok (.iload 5, 2) := by decide +kernel
theorem dL_law_1136 : decode cL_law 1136 = .ok (.iconst 1, 1) := by decide +kernel
theorem dL_law_1137 : decode cL_law 1137 = .ok (.iadd, 1) := by decide +kernel
theorem dL_law_1138 : decode cL_law 1138 = .ok (.iaload, 1) := by decide +kernel
theorem dL_law_1139 : decode cL_law 1139 = .ok (.aload_n 0, 1) := by decide +kernel
theorem dL_law_1140 : decode cL_law 1140 = .ok (.iload 5, 2) := by decide +kernel
theorem dL_law_1142 : decode cL_law 1142 = .ok (.iconst 2, 1) := by decide +kernel
theorem dL_law_1143 : decode cL_law 1143 = .ok (.iadd, 1) := by decide +kernel
theorem dL_law_1144 : decode cL_law 1144 = .ok (.iaload, 1) := by decide +kernel
theorem dL_law_1145 : decode cL_law 1145 = .ok (.aload_n 0, 1) := by decide +kernel
theorem dL_law_1146 : decode cL_law 1146 = .ok (.iload 5, 2) := by decide +kernel
theorem dL_law_1148 : decode cL_law 1148 = .ok (.iconst 3, 1) := by decide +kernel
theorem dL_law_1149 : decode cL_law 1149 = .ok (.iadd, 1) := by decide +kernel
theorem dL_law_1150 : decode cL_law 1150 = .ok (.iaload, 1) := by decide +kernel
theorem dL_law_1151 : decode cL_law 1151 = .ok (.aload_n 3, 1) := by decide +kernel
theorem dL_law_1152 : decode cL_law 1152 = .ok (.invokestatic 288, 3) := by decide +kernel
theorem dL_law_1155 : decode cL_law 1155 = .ok (.istore 6, 2) := by decide +kernel
theorem dL_law_1157 : decode cL_law 1157 = .ok (.aload_n 2, 1) := by decide +kernel
theorem dL_law_1158 : decode cL_law 1158 = .ok (.aload_n 0, 1) := by decide +kernel
theorem dL_law_1159 : decode cL_law 1159 = .ok (.iload 5, 2) := by decide +kernel
theorem dL_law_1161 : decode cL_law 1161 = .ok (.iconst 1, 1) := by decide +kernel
theorem dL_law_1162 : decode cL_law 1162 = .ok (.iadd, 1) := by decide +kernel
theorem dL_law_1163 : decode cL_law 1163 = .ok (.iaload, 1) := by decide +kernel
theorem dL_law_1164 : decode cL_law 1164 = .ok (.aload_n 0, 1) := by decide +kernel
theorem dL_law_1165 : decode cL_law 1165 = .ok (.iload 5, 2) := by decide +kernel
theorem dL_law_1167 : decode cL_law 1167 = .ok (.iconst 2, 1) := by decide +kernel
theorem dL_law_1168 : decode cL_law 1168 = .ok (.iadd, 1) := by decide +kernel
theorem dL_law_1169 : decode cL_law 1169 = .ok (.iaload, 1) := by decide +kernel
theorem dL_law_1170 : decode cL_law 1170 = .ok (.aload_n 0, 1) := by decide +kernel
theorem dL_law_1171 : decode cL_law 1171 = .ok (.iload 5, 2) := by decide +kernel
theorem dL_law_1173 : decode cL_law 1173 = .ok (.iconst 3, 1) := by decide +kernel
theorem dL_law_1174 : decode cL_law 1174 = .ok (.iadd, 1) := by decide +kernel
theorem dL_law_1175 : decode cL_law 1175 = .ok (.iaload, 1) := by decide +kernel
theorem dL_law_1176 : decode cL_law 1176 = .ok (.invokevirtual 290, 3) := by decide +kernel
theorem dL_law_1179 : decode cL_law 1179 = .ok (.istore 7, 2) := by decide +kernel
theorem dL_law_1181 : decode cL_law 1181 = .ok (.goto 1743, 3) := by decide +kernel
theorem dL_law_1184 : decode cL_law 1184 = .ok (.aload_n 1, 1) := by decide +kernel
theorem dL_law_1185 : decode cL_law 1185 = .ok (.aload_n 0, 1) := by decide +kernel
theorem dL_law_1186 : decode cL_law 1186 = .ok (.iload 5, 2) := by decide +kernel
theorem dL_law_1188 : decode cL_law 1188 = .ok (.iconst 1, 1) := by decide +kernel
theorem dL_law_1189 : decode cL_law 1189 = .ok (.iadd, 1) := by decide +kernel
theorem dL_law_1190 : decode cL_law 1190 = .ok (.iaload, 1) := by decide +kernel
theorem dL_law_1191 : decode cL_law 1191 = .ok (.aload_n 0, 1) := by decide +kernel
theorem dL_law_1192 : decode cL_law 1192 = .ok (.iload 5, 2) := by decide +kernel
theorem dL_law_1194 : decode cL_law 1194 = .ok (.iconst 2, 1) := by decide +kernel
theorem dL_law_1195 : decode cL_law 1195 = .ok (.iadd, 1) := by decide +kernel
theorem dL_law_1196 : decode cL_law 1196 = .ok (.iaload, 1) := by decide +kernel
theorem dL_law_1197 : decode cL_law 1197 = .ok (.aload_n 0, 1) := by decide +kernel
theorem dL_law_1198 : decode cL_law 1198 = .ok (.iload 5, 2) := by decide +kernel
theorem dL_law_1200 : decode cL_law 1200 = .ok (.iconst 3, 1) := by decide +kernel
theorem dL_law_1201 : decode cL_law 1201 = .ok (.iadd, 1) := by decide +kernel
theorem dL_law_1202 : decode cL_law 1202 = .ok (.iaload, 1) := by decide +kernel
theorem dL_law_1203 : decode cL_law 1203 = .ok (.aload_n 3, 1) := by decide +kernel
theorem dL_law_1204 : decode cL_law 1204 = .ok (.invokestatic 291, 3) := by decide +kernel
theorem dL_law_1207 : decode cL_law 1207 = .ok (.istore 6, 2) := by decide +kernel
theorem dL_law_1209 : decode cL_law 1209 = .ok (.aload_n 2, 1) := by decide +kernel
theorem dL_law_1210 : decode cL_law 1210 = .ok (.aload_n 0, 1) := by decide +kernel
theorem dL_law_1211 : decode cL_law 1211 = .ok (.iload 5, 2) := by decide +kernel
theorem dL_law_1213 : decode cL_law 1213 = .ok (.iconst 1, 1) := by decide +kernel
theorem dL_law_1214 : decode cL_law 1214 = .ok (.iadd, 1) := by decide +kernel
theorem dL_law_1215 : decode cL_law 1215 = .ok (.iaload, 1) := by decide +kernel
theorem dL_law_1216 : decode cL_law 1216 = .ok (.aload_n 0, 1) := by decide +kernel
theorem dL_law_1217 : decode cL_law 1217 = .ok (.iload 5, 2) := by decide +kernel
theorem dL_law_1219 : decode cL_law 1219 = .ok (.iconst 2, 1) := by decide +kernel
theorem dL_law_1220 : decode cL_law 1220 = .ok (.iadd, 1) := by decide +kernel
theorem dL_law_1221 : decode cL_law 1221 = .ok (.iaload, 1) := by decide +kernel
theorem dL_law_1222 : decode cL_law 1222 = .ok (.aload_n 0, 1) := by decide +kernel
theorem dL_law_1223 : decode cL_law 1223 = .ok (.iload 5, 2) := by decide +kernel
theorem dL_law_1225 : decode cL_law 1225 = .ok (.iconst 3, 1) := by decide +kernel
theorem dL_law_1226 : decode cL_law 1226 = .ok (.iadd, 1) := by decide +kernel
theorem dL_law_1227 : decode cL_law 1227 = .ok (.iaload, 1) := by decide +kernel
theorem dL_law_1228 : decode cL_law 1228 = .ok (.invokevirtual 293, 3) := by decide +kernel
theorem dL_law_1231 : decode cL_law 1231 = .ok (.istore 7, 2) := by decide +kernel
theorem dL_law_1233 : decode cL_law 1233 = .ok (.goto 1691, 3) := by decide +kernel
theorem dL_law_1236 : decode cL_law 1236 = .ok (.aload_n 1, 1) := by decide +kernel
theorem dL_law_1237 : decode cL_law 1237 = .ok (.aload_n 0, 1) := by decide +kernel
theorem dL_law_1238 : decode cL_law 1238 = .ok (.iload 5, 2) := by decide +kernel
theorem dL_law_1240 : decode cL_law 1240 = .ok (.iconst 1, 1) := by decide +kernel
theorem dL_law_1241 : decode cL_law 1241 = .ok (.iadd, 1) := by decide +kernel
theorem dL_law_1242 : decode cL_law 1242 = .ok (.iaload, 1) := by decide +kernel
theorem dL_law_1243 : decode cL_law 1243 = .ok (.aload_n 0, 1) := by decide +kernel
theorem dL_law_1244 : decode cL_law 1244 = .ok (.iload 5, 2) := by decide +kernel
theorem dL_law_1246 : decode cL_law 1246 = .ok (.iconst 2, 1) := by decide +kernel
theorem dL_law_1247 : decode cL_law 1247 = .ok (.iadd, 1) := by decide +kernel
theorem dL_law_1248 : decode cL_law 1248 = .ok (.iaload, 1) := by decide +kernel
theorem dL_law_1249 : decode cL_law 1249 = .ok (.aload_n 3, 1) := by decide +kernel
theorem dL_law_1250 : decode cL_law 1250 = .ok (.invokestatic 294, 3) := by decide +kernel
theorem dL_law_1253 : decode cL_law 1253 = .ok (.istore 6, 2) := by decide +kernel
theorem dL_law_1255 : decode cL_law 1255 = .ok (.aload_n 2, 1) := by decide +kernel
theorem dL_law_1256 : decode cL_law 1256 = .ok (.aload_n 0, 1) := by decide +kernel
theorem dL_law_1257 : decode cL_law 1257 = .ok (.iload 5, 2) := by decide +kernel
theorem dL_law_1259 : decode cL_law 1259 = .ok (.iconst 1, 1) := by decide +kernel
theorem dL_law_1260 : decode cL_law 1260 = .ok (.iadd, 1) := by decide +kernel
theorem dL_law_1261 : decode cL_law 1261 = .ok (.iaload, 1) := by decide +kernel
theorem dL_law_1262 : decode cL_law 1262 = .ok (.aload_n 0, 1) := by decide +kernel
theorem dL_law_1263 : decode cL_law 1263 = .ok (.iload 5, 2) := by decide +kernel
theorem dL_law_1265 : decode cL_law 1265 = .ok (.iconst 2, 1) := by decide +kernel
theorem dL_law_1266 : decode cL_law 1266 = .ok (.iadd, 1) := by decide +kernel
theorem dL_law_1267 : decode cL_law 1267 = .ok (.iaload, 1) := by decide +kernel
theorem dL_law_1268 : decode cL_law 1268 = .ok (.invokevirtual 296, 3) := by decide +kernel
theorem dL_law_1271 : decode cL_law 1271 = .ok (.istore 7, 2) := by decide +kernel
theorem dL_law_1273 : decode cL_law 1273 = .ok (.aload_n 2, 1) := by decide +kernel
theorem dL_law_1274 : decode cL_law 1274 = .ok (.invokevirtual 297, 3) := by decide +kernel
theorem dL_law_1277 : decode cL_law 1277 = .ok (.iload 6, 2) := by decide +kernel
theorem dL_law_1279 : decode cL_law 1279 = .ok (.if_icmp .eq 5, 3) := by decide +kernel
theorem dL_law_1282 : decode cL_law 1282 = .ok (.iconst 0, 1) := by decide +kernel
theorem dL_law_1283 : decode cL_law 1283 = .ok (.ireturn, 1) := by decide +kernel
theorem dL_law_1284 : decode cL_law 1284 = .ok (.iload 6, 2) := by decide +kernel
theorem dL_law_1286 : decode cL_law 1286 = .ok (.ifCond .ne 15, 3) := by decide +kernel
theorem dL_law_1289 : decode cL_law 1289 = .ok (.aload_n 3, 1) := by decide +kernel
theorem dL_law_1290 : decode cL_law 1290 = .ok (.iconst 0, 1) := by decide +kernel
theorem dL_law_1291 : decode cL_law 1291 = .ok (.laload, 1) := by decide +kernel
theorem dL_law_1292 : decode cL_law 1292 = .ok (.iload 7, 2) := by decide +kernel
theorem dL_law_1294 : decode cL_law 1294 = .ok (.i2l, 1) := by decide +kernel
theorem dL_law_1295 : decode cL_law 1295 = .ok (.lcmp, 1) := by decide +kernel
theorem dL_law_1296 : decode cL_law 1296 = .ok (.ifCond .eq 5, 3) := by decide +kernel
theorem dL_law_1299 : decode cL_law 1299 = .ok (.iconst 0, 1) := by decide +kernel
theorem dL_law_1300 : decode cL_law 1300 = .ok (.ireturn, 1) := by decide +kernel
theorem dL_law_1301 : decode cL_law 1301 = .ok (.goto 1623, 3) := by decide +kernel
theorem dL_law_1304 : decode cL_law 1304 = .ok (.aload_n 1, 1) := by decide +kernel
theorem dL_law_1305 : decode cL_law 1305 = .ok (.aload_n 0, 1) := by decide +kernel
theorem dL_law_1306 : decode cL_law 1306 = .ok (.iload 5, 2) := by decide +kernel
theorem dL_law_1308 : decode cL_law 1308 = .ok (.iconst 1, 1) := by decide +kernel
theorem dL_law_1309 : decode cL_law 1309 = .ok (.iadd, 1) := by decide +kernel
theorem dL_law_1310 : decode cL_law 1310 = .ok (.iaload, 1) := by decide +kernel
theorem dL_law_1311 : decode cL_law 1311 = .ok (.aload_n 0, 1) := by decide +kernel
theorem dL_law_1312 : decode cL_law 1312 = .ok (.iload 5, 2) := by decide +kernel
theorem dL_law_1314 : decode cL_law 1314 = .ok (.iconst 2, 1) := by decide +kernel
theorem dL_law_1315 : decode cL_law 1315 = .ok (.iadd, 1) := by decide +kernel
theorem dL_law_1316 : decode cL_law 1316 = .ok (.iaload, 1) := by decide +kernel
theorem dL_law_1317 : decode cL_law 1317 = .ok (.aload_n 0, 1) := by decide +kernel
theorem dL_law_1318 : decode cL_law 1318 = .ok (.iload 5, 2) := by decide +kernel
theorem dL_law_1320 : decode cL_law 1320 = .ok (.iconst 3, 1) := by decide +kernel
theorem dL_law_1321 : decode cL_law 1321 = .ok (.iadd, 1) := by decide +kernel
theorem dL_law_1322 : decode cL_law 1322 = .ok (.iaload, 1) := by decide +kernel
theorem dL_law_1323 : decode cL_law 1323 = .ok (.aload_n 0, 1) := by decide +kernel
theorem dL_law_1324 : decode cL_law 1324 = .ok (.iload 5, 2) := by decide +kernel
theorem dL_law_1326 : decode cL_law 1326 = .ok (.iconst 4, 1) := by decide +kernel
theorem dL_law_1327 : decode cL_law 1327 = .ok (.iadd, 1) := by decide +kernel
theorem dL_law_1328 : decode cL_law 1328 = .ok (.iaload, 1) := by decide +kernel
theorem dL_law_1329 : decode cL_law 1329 = .ok (.aload_n 3, 1) := by decide +kernel
theorem dL_law_1330 : decode cL_law 1330 = .ok (.invokestatic 301, 3) := by decide +kernel
theorem dL_law_1333 : decode cL_law 1333 = .ok (.istore 6, 2) := by decide +kernel
theorem dL_law_1335 : decode cL_law 1335 = .ok (.aload_n 2, 1) := by decide +kernel
theorem dL_law_1336 : decode cL_law 1336 = .ok (.aload_n 0, 1) := by decide +kernel
theorem dL_law_1337 : decode cL_law 1337 = .ok (.iload 5, 2) := by decide +kernel
theorem dL_law_1339 : decode cL_law 1339 = .ok (.iconst 1, 1) := by decide +kernel
theorem dL_law_1340 : decode cL_law 1340 = .ok (.iadd, 1) := by decide +kernel
theorem dL_law_1341 : decode cL_law 1341 = .ok (.iaload, 1) := by decide +kernel
theorem dL_law_1342 : decode cL_law 1342 = .ok (.aload_n 0, 1) := by decide +kernel
theorem dL_law_1343 : decode cL_law 1343 = .ok (.iload 5, 2) := by decide +kernel
theorem dL_law_1345 : decode cL_law 1345 = .ok (.iconst 2, 1) := by decide +kernel
theorem dL_law_1346 : decode cL_law 1346 = .ok (.iadd, 1) := by decide +kernel
theorem dL_law_1347 : decode cL_law 1347 = .ok (.iaload, 1) := by decide +kernel
theorem dL_law_1348 : decode cL_law 1348 = .ok (.aload_n 0, 1) := by decide +kernel
theorem dL_law_1349 : decode cL_law 1349 = .ok (.iload 5, 2) := by decide +kernel
theorem dL_law_1351 : decode cL_law 1351 = .ok (.iconst 3, 1) := by decide +kernel
theorem dL_law_1352 : decode cL_law 1352 = .ok (.iadd, 1) := by decide +kernel
theorem dL_law_1353 : decode cL_law 1353 = .ok (.iaload, 1) := by decide +kernel
theorem dL_law_1354 : decode cL_law 1354 = .ok (.aload_n 0, 1) := by decide +kernel
theorem dL_law_1355 : decode cL_law 1355 = .ok (.iload 5, 2) := by decide +kernel
theorem dL_law_1357 : decode cL_law 1357 = .ok (.iconst 4, 1) := by decide +kernel
theorem dL_law_1358 : decode cL_law 1358 = .ok (.iadd, 1) := by decide +kernel
theorem dL_law_1359 : decode cL_law 1359 = .ok (.iaload, 1) := by decide +kernel
theorem dL_law_1360 : decode cL_law 1360 = .ok (.invokevirtual 303, 3) := by decide +kernel
theorem dL_law_1363 : decode cL_law 1363 = .ok (.istore 7, 2) := by decide +kernel
theorem dL_law_1365 : decode cL_law 1365 = .ok (.goto 1559, 3) := by decide +kernel
theorem dL_law_1368 : decode cL_law 1368 = .ok (.aload_n 1, 1) := by decide +kernel
theorem dL_law_1369 : decode cL_law 1369 = .ok (.aload_n 0, 1) := by decide +kernel
theorem dL_law_1370 : decode cL_law 1370 = .ok (.iload 5, 2) := by decide +kernel
theorem dL_law_1372 : decode cL_law 1372 = .ok (.iconst 1, 1) := by decide +kernel
theorem dL_law_1373 : decode cL_law 1373 = .ok (.iadd, 1) := by decide +kernel
theorem dL_law_1374 : decode cL_law 1374 = .ok (.iaload, 1) := by decide +kernel
theorem dL_law_1375 : decode cL_law 1375 = .ok (.aload_n 0, 1) := by decide +kernel
theorem dL_law_1376 : decode cL_law 1376 = .ok (.iload 5, 2) := by decide +kernel
theorem dL_law_1378 : decode cL_law 1378 = .ok (.iconst 2, 1) := by decide +kernel
theorem dL_law_1379 : decode cL_law 1379 = .ok (.iadd, 1) := by decide +kernel
theorem dL_law_1380 : decode cL_law 1380 = .ok (.iaload, 1) := by decide +kernel
theorem dL_law_1381 : decode cL_law 1381 = .ok (.aload_n 0, 1) := by decide +kernel
theorem dL_law_1382 : decode cL_law 1382 = .ok (.iload 5, 2) := by decide +kernel
theorem dL_law_1384 : decode cL_law 1384 = .ok (.iconst 3, 1) := by decide +kernel
theorem dL_law_1385 : decode cL_law 1385 = .ok (.iadd, 1) := by decide +kernel
theorem dL_law_1386 : decode cL_law 1386 = .ok (.iaload, 1) := by decide +kernel
theorem dL_law_1387 : decode cL_law 1387 = .ok (.aload_n 3, 1) := by decide +kernel
theorem dL_law_1388 : decode cL_law 1388 = .ok (.invokestatic 304, 3) := by decide +kernel
theorem dL_law_1391 : decode cL_law 1391 = .ok (.istore 6, 2) := by decide +kernel
theorem dL_law_1393 : decode cL_law 1393 = .ok (.aload_n 2, 1) := by decide +kernel
theorem dL_law_1394 : decode cL_law 1394 = .ok (.aload_n 0, 1) := by decide +kernel
theorem dL_law_1395 : decode cL_law 1395 = .ok (.iload 5, 2) := by decide +kernel
theorem dL_law_1397 : decode cL_law 1397 = .ok (.iconst 1, 1) := by decide +kernel
theorem dL_law_1398 : decode cL_law 1398 = .ok (.iadd, 1) := by decide +kernel
theorem dL_law_1399 : decode cL_law 1399 = .ok (.iaload, 1) := by decide +kernel
theorem dL_law_1400 : decode cL_law 1400 = .ok (.aload_n 0, 1) := by decide +kernel
theorem dL_law_1401 : decode cL_law 1401 = .ok (.iload 5, 2) := by decide +kernel
theorem dL_law_1403 : decode cL_law 1403 = .ok (.iconst 2, 1) := by decide +kernel
theorem dL_law_1404 : decode cL_law 1404 = .ok (.iadd, 1) := by decide +kernel
theorem dL_law_1405 : decode cL_law 1405 = .ok (.iaload, 1) := by decide +kernel
theorem dL_law_1406 : decode cL_law 1406 = .ok (.aload_n 0, 1) := by decide +kernel
theorem dL_law_1407 : decode cL_law 1407 = .ok (.iload 5, 2) := by decide +kernel
theorem dL_law_1409 : decode cL_law 1409 = .ok (.iconst 3, 1) := by decide +kernel
theorem dL_law_1410 : decode cL_law 1410 = .ok (.iadd, 1) := by decide +kernel
theorem dL_law_1411 : decode cL_law 1411 = .ok (.iaload, 1) := by decide +kernel
theorem dL_law_1412 : decode cL_law 1412 = .ok (.invokevirtual 306, 3) := by decide +kernel
theorem dL_law_1415 : decode cL_law 1415 = .ok (.istore 7, 2) := by decide +kernel
theorem dL_law_1417 : decode cL_law 1417 = .ok (.goto 1507, 3) := by decide +kernel
theorem dL_law_1420 : decode cL_law 1420 = .ok (.aload_n 1, 1) := by decide +kernel
theorem dL_law_1421 : decode cL_law 1421 = .ok (.aload_n 0, 1) := by decide +kernel
theorem dL_law_1422 : decode cL_law 1422 = .ok (.iload 5, 2) := by decide +kernel
theorem dL_law_1424 : decode cL_law 1424 = .ok (.iconst 1, 1) := by decide +kernel
theorem dL_law_1425 : decode cL_law 1425 = .ok (.iadd, 1) := by decide +kernel
theorem dL_law_1426 : decode cL_law 1426 = .ok (.iaload, 1) := by decide +kernel
theorem dL_law_1427 : decode cL_law 1427 = .ok (.aload_n 0, 1) := by decide +kernel
theorem dL_law_1428 : decode cL_law 1428 = .ok (.iload 5, 2) := by decide +kernel
theorem dL_law_1430 : decode cL_law 1430 = .ok (.iconst 2, 1) := by decide +kernel
theorem dL_law_1431 : decode cL_law 1431 = .ok (.iadd, 1) := by decide +kernel
theorem dL_law_1432 : decode cL_law 1432 = .ok (.iaload, 1) := by decide +kernel
theorem dL_law_1433 : decode cL_law 1433 = .ok (.aload_n 0, 1) := by decide +kernel
theorem dL_law_1434 : decode cL_law 1434 = .ok (.iload 5, 2) := by decide +kernel
theorem dL_law_1436 : decode cL_law 1436 = .ok (.iconst 3, 1) := by decide +kernel
theorem dL_law_1437 : decode cL_law 1437 = .ok (.iadd, 1) := by decide +kernel
theorem dL_law_1438 : decode cL_law 1438 = .ok (.iaload, 1) := by decide +kernel
theorem dL_law_1439 : decode cL_law 1439 = .ok (.aload_n 3, 1) := by decide +kernel
theorem dL_law_1440 : decode cL_law 1440 = .ok (.invokestatic 307, 3) := by decide +kernel
theorem dL_law_1443 : decode cL_law 1443 = .ok (.istore 6, 2) := by decide +kernel
theorem dL_law_1445 : decode cL_law 1445 = .ok (.aload_n 2, 1) := by decide +kernel
theorem dL_law_1446 : decode cL_law 1446 = .ok (.aload_n 0, 1) := by decide +kernel
theorem dL_law_1447 : decode cL_law 1447 = .ok (.iload 5, 2) := by decide +kernel
theorem dL_law_1449 : decode cL_law 1449 = .ok (.iconst 1, 1) := by decide +kernel
theorem dL_law_1450 : decode cL_law 1450 = .ok (.iadd, 1) := by decide +kernel
theorem dL_law_1451 : decode cL_law 1451 = .ok (.iaload, 1) := by decide +kernel
theorem dL_law_1452 : decode cL_law 1452 = .ok (.aload_n 0, 1) := by decide +kernel
theorem dL_law_1453 : decode cL_law 1453 = .ok (.iload 5, 2) := by decide +kernel
theorem dL_law_1455 : decode cL_law 1455 = .ok (.iconst 2, 1) := by decide +kernel
theorem dL_law_1456 : decode cL_law 1456 = .ok (.iadd, 1) := by decide +kernel
theorem dL_law_1457 : decode cL_law 1457 = .ok (.iaload, 1) := by decide +kernel
theorem dL_law_1458 : decode cL_law 1458 = .ok (.aload_n 0, 1) := by decide +kernel
theorem dL_law_1459 : decode cL_law 1459 = .ok (.iload 5, 2) := by decide +kernel
theorem dL_law_1461 : decode cL_law 1461 = .ok (.iconst 3, 1) := by decide +kernel
theorem dL_law_1462 : decode cL_law 1462 = .ok (.iadd, 1) := by decide +kernel
theorem dL_law_1463 : decode cL_law 1463 = .ok (.iaload, 1) := by decide +kernel
theorem dL_law_1464 : decode cL_law 1464 = .ok (.invokevirtual 309, 3) := by decide +kernel
theorem dL_law_1467 : decode cL_law 1467 = .ok (.istore 7, 2) := by decide +kernel
theorem dL_law_1469 : decode cL_law 1469 = .ok (.goto 1455, 3) := by decide +kernel
theorem dL_law_1472 : decode cL_law 1472 = .ok (.aload_n 1, 1) := by decide +kernel
theorem dL_law_1473 : decode cL_law 1473 = .ok (.aload_n 0, 1) := by decide +kernel
theorem dL_law_1474 : decode cL_law 1474 = .ok (.iload 5, 2) := by decide +kernel
theorem dL_law_1476 : decode cL_law 1476 = .ok (.iconst 1, 1) := by decide +kernel
theorem dL_law_1477 : decode cL_law 1477 = .ok (.iadd, 1) := by decide +kernel
theorem dL_law_1478 : decode cL_law 1478 = .ok (.iaload, 1) := by decide +kernel
theorem dL_law_1479 : decode cL_law 1479 = .ok (.aload_n 0, 1) := by decide +kernel
theorem dL_law_1480 : decode cL_law 1480 = .ok (.iload 5, 2) := by decide +kernel
theorem dL_law_1482 : decode cL_law 1482 = .ok (.iconst 2, 1) := by decide +kernel
theorem dL_law_1483 : decode cL_law 1483 = .ok (.iadd, 1) := by decide +kernel
theorem dL_law_1484 : decode cL_law 1484 = .ok (.iaload, 1) := by decide +kernel
theorem dL_law_1485 : decode cL_law 1485 = .ok (.aload_n 3, 1) := by decide +kernel
theorem dL_law_1486 : decode cL_law 1486 = .ok (.invokestatic 310, 3) := by decide +kernel
theorem dL_law_1489 : decode cL_law 1489 = .ok (.istore 6, 2) := by decide +kernel
theorem dL_law_1491 : decode cL_law 1491 = .ok (.aload_n 2, 1) := by decide +kernel
theorem dL_law_1492 : decode cL_law 1492 = .ok (.aload_n 0, 1) := by decide +kernel
theorem dL_law_1493 : decode cL_law 1493 = .ok (.iload 5, 2) := by decide +kernel
theorem dL_law_1495 : decode cL_law 1495 = .ok (.iconst 1, 1) := by decide +kernel
theorem dL_law_1496 : decode cL_law 1496 = .ok (.iadd, 1) := by decide +kernel
theorem dL_law_1497 : decode cL_law 1497 = .ok (.iaload, 1) := by decide +kernel
theorem dL_law_1498 : decode cL_law 1498 = .ok (.aload_n 0, 1) := by decide +kernel
theorem dL_law_1499 : decode cL_law 1499 = .ok (.iload 5, 2) := by decide +kernel
theorem dL_law_1501 : decode cL_law 1501 = .ok (.iconst 2, 1) := by decide +kernel
theorem dL_law_1502 : decode cL_law 1502 = .ok (.iadd, 1) := by decide +kernel
theorem dL_law_1503 : decode cL_law 1503 = .ok (.iaload, 1) := by decide +kernel
theorem dL_law_1504 : decode cL_law 1504 = .ok (.invokevirtual 312, 3) := by decide +kernel
theorem dL_law_1507 : decode cL_law 1507 = .ok (.istore 7, 2) := by decide +kernel
theorem dL_law_1509 : decode cL_law 1509 = .ok (.goto 1415, 3) := by decide +kernel
theorem dL_law_1512 : decode cL_law 1512 = .ok (.aload_n 1, 1) := by decide +kernel
theorem dL_law_1513 : decode cL_law 1513 = .ok (.aload_n 0, 1) := by decide +kernel
theorem dL_law_1514 : decode cL_law 1514 = .ok (.iload 5, 2) := by decide +kernel
theorem dL_law_1516 : decode cL_law 1516 = .ok (.iconst 1, 1) := by decide +kernel
theorem dL_law_1517 : decode cL_law 1517 = .ok (.iadd, 1) := by decide +kernel
theorem dL_law_1518 : decode cL_law 1518 = .ok (.iaload, 1) := by decide +kernel
theorem dL_law_1519 : decode cL_law 1519 = .ok (.aload_n 3, 1) := by decide +kernel
theorem dL_law_1520 : decode cL_law 1520 = .ok (.invokestatic 313, 3) := by decide +kernel
theorem dL_law_1523 : decode cL_law 1523 = .ok (.istore 6, 2) := by decide +kernel
theorem dL_law_1525 : decode cL_law 1525 = .ok (.aload_n 2, 1) := by decide +kernel
theorem dL_law_1526 : decode cL_law 1526 = .ok (.aload_n 0, 1) := by decide +kernel
theorem dL_law_1527 : decode cL_law 1527 = .ok (.iload 5, 2) := by decide +kernel
theorem dL_law_1529 : decode cL_law 1529 = .ok (.iconst 1, 1) := by decide +kernel
theorem dL_law_1530 : decode cL_law 1530 = .ok (.iadd, 1) := by decide +kernel
theorem dL_law_1531 : decode cL_law 1531 = .ok (.iaload, 1) := by decide +kernel
theorem dL_law_1532 : decode cL_law 1532 = .ok (.invokevirtual 315, 3) := by decide +kernel
theorem dL_law_1535 : decode cL_law 1535 = .ok (.istore 7, 2) := by decide +kernel
theorem dL_law_1537 : decode cL_law 1537 = .ok (.goto 1387, 3) := by decide +kernel
theorem dL_law_1540 : decode cL_law 1540 = .ok (.aload_n 1, 1) := by decide +kernel
theorem dL_law_1541 : decode cL_law 1541 = .ok (.aload_n 0, 1) := by decide +kernel
theorem dL_law_1542 : decode cL_law 1542 = .ok (.iload 5, 2) := by decide +kernel
theorem dL_law_1544 : decode cL_law 1544 = .ok (.iconst 1, 1) := by decide +kernel
theorem dL_law_1545 : decode cL_law 1545 = .ok (.iadd, 1) := by decide +kernel
theorem dL_law_1546 : decode cL_law 1546 = .ok (.iaload, 1) := by decide +kernel
theorem dL_law_1547 : decode cL_law 1547 = .ok (.aload_n 0, 1) := by decide +kernel
theorem dL_law_1548 : decode cL_law 1548 = .ok (.iload 5, 2) := by decide +kernel
theorem dL_law_1550 : decode cL_law 1550 = .ok (.iconst 2, 1) := by decide +kernel
theorem dL_law_1551 : decode cL_law 1551 = .ok (.iadd, 1) := by decide +kernel
theorem dL_law_1552 : decode cL_law 1552 = .ok (.iaload, 1) := by decide +kernel
theorem dL_law_1553 : decode cL_law 1553 = .ok (.aload_n 0, 1) := by decide +kernel
theorem dL_law_1554 : decode cL_law 1554 = .ok (.iload 5, 2) := by decide +kernel
theorem dL_law_1556 : decode cL_law 1556 = .ok (.iconst 3, 1) := by decide +kernel
theorem dL_law_1557 : decode cL_law 1557 = .ok (.iadd, 1) := by decide +kernel
theorem dL_law_1558 : decode cL_law 1558 = .ok (.iaload, 1) := by decide +kernel
theorem dL_law_1559 : decode cL_law 1559 = .ok (.aload_n 3, 1) := by decide +kernel
theorem dL_law_1560 : decode cL_law 1560 = .ok (.invokestatic 316, 3) := by decide +kernel
theorem dL_law_1563 : decode cL_law 1563 = .ok (.istore 6, 2) := by decide +kernel
theorem dL_law_1565 : decode cL_law 1565 = .ok (.aload_n 2, 1) := by decide +kernel
theorem dL_law_1566 : decode cL_law 1566 = .ok (.aload_n 0, 1) := by decide +kernel
theorem dL_law_1567 : decode cL_law 1567 = .ok (.iload 5, 2) := by decide +kernel
theorem dL_law_1569 : decode cL_law 1569 = .ok (.iconst 1, 1) := by decide +kernel
theorem dL_law_1570 : decode cL_law 1570 = .ok (.iadd, 1) := by decide +kernel
theorem dL_law_1571 : decode cL_law 1571 = .ok (.iaload, 1) := by decide +kernel
theorem dL_law_1572 : decode cL_law 1572 = .ok (.aload_n 0, 1) := by decide +kernel
theorem dL_law_1573 : decode cL_law 1573 = .ok (.iload 5, 2) := by decide +kernel
theorem dL_law_1575 : decode cL_law 1575 = .ok (.iconst 2, 1) := by decide +kernel
theorem dL_law_1576 : decode cL_law 1576 = .ok (.iadd, 1) := by decide +kernel
theorem dL_law_1577 : decode cL_law 1577 = .ok (.iaload, 1) := by decide +kernel
theorem dL_law_1578 : decode cL_law 1578 = .ok (.aload_n 0, 1) := by decide +kernel
theorem dL_law_1579 : decode cL_law 1579 = .ok (.iload 5, 2) := by decide +kernel
theorem dL_law_1581 : decode cL_law 1581 = .ok (.iconst 3, 1) := by decide +kernel
theorem dL_law_1582 : decode cL_law 1582 = .ok (.iadd, 1) := by decide +kernel
theorem dL_law_1583 : decode cL_law 1583 = .ok (.iaload, 1) := by decide +kernel
theorem dL_law_1584 : decode cL_law 1584 = .ok (.invokevirtual 318, 3) := by decide +kernel
theorem dL_law_1587 : decode cL_law 1587 = .ok (.istore 7, 2) := by decide +kernel
theorem dL_law_1589 : decode cL_law 1589 = .ok (.goto 1335, 3) := by decide +kernel
theorem dL_law_1592 : decode cL_law 1592 = .ok (.aload_n 1, 1) := by decide +kernel
theorem dL_law_1593 : decode cL_law 1593 = .ok (.aload_n 0, 1) := by decide +kernel
theorem dL_law_1594 : decode cL_law 1594 = .ok (.iload 5, 2) := by decide +kernel
theorem dL_law_1596 : decode cL_law 1596 = .ok (.iconst 1, 1) := by decide +kernel
theorem dL_law_1597 : decode cL_law 1597 = .ok (.iadd, 1) := by decide +kernel
theorem dL_law_1598 : decode cL_law 1598 = .ok (.iaload, 1) := by decide +kernel
theorem dL_law_1599 : decode cL_law 1599 = .ok (.aload_n 0, 1) := by decide +kernel
theorem dL_law_1600 : decode cL_law 1600 = .ok (.iload 5, 2) := by decide +kernel
theorem dL_law_1602 : decode cL_law 1602 = .ok (.iconst 2, 1) := by decide +kernel
theorem dL_law_1603 : decode cL_law 1603 = .ok (.iadd, 1) := by decide +kernel
theorem dL_law_1604 : decode cL_law 1604 = .ok (.iaload, 1) := by decide +kernel
theorem dL_law_1605 : decode cL_law 1605 = .ok (.aload_n 3, 1) := by decide +kernel
theorem dL_law_1606 : decode cL_law 1606 = .ok (.invokestatic 319, 3) := by decide +kernel
theorem dL_law_1609 : decode cL_law 1609 = .ok (.istore 6, 2) := by decide +kernel
theorem dL_law_1611 : decode cL_law 1611 = .ok (.aload_n 2, 1) := by decide +kernel
theorem dL_law_1612 : decode cL_law 1612 = .ok (.aload_n 0, 1) := by decide +kernel
theorem dL_law_1613 : decode cL_law 1613 = .ok (.iload 5, 2) := by decide +kernel
theorem dL_law_1615 : decode cL_law 1615 = .ok (.iconst 1, 1) := by decide +kernel
theorem dL_law_1616 : decode cL_law 1616 = .ok (.iadd, 1) := by decide +kernel
theorem dL_law_1617 : decode cL_law 1617 = .ok (.iaload, 1) := by decide +kernel
theorem dL_law_1618 : decode cL_law 1618 = .ok (.aload_n 0, 1) := by decide +kernel
theorem dL_law_1619 : decode cL_law 1619 = .ok (.iload 5, 2) := by decide +kernel
theorem dL_law_1621 : decode cL_law 1621 = .ok (.iconst 2, 1) := by decide +kernel
theorem dL_law_1622 : decode cL_law 1622 = .ok (.iadd, 1) := by decide +kernel
theorem dL_law_1623 : decode cL_law 1623 = .ok (.iaload, 1) := by decide +kernel
theorem dL_law_1624 : decode cL_law 1624 = .ok (.invokevirtual 321, 3) := by decide +kernel
theorem dL_law_1627 : decode cL_law 1627 = .ok (.istore 7, 2) := by decide +kernel
theorem dL_law_1629 : decode cL_law 1629 = .ok (.goto 1295, 3) := by decide +kernel
theorem dL_law_1632 : decode cL_law 1632 = .ok (.aload_n 1, 1) := by decide +kernel
theorem dL_law_1633 : decode cL_law 1633 = .ok (.aload_n 0, 1) := by decide +kernel
theorem dL_law_1634 : decode cL_law 1634 = .ok (.iload 5, 2) := by decide +kernel
theorem dL_law_1636 : decode cL_law 1636 = .ok (.iconst 1, 1) := by decide +kernel
theorem dL_law_1637 : decode cL_law 1637 = .ok (.iadd, 1) := by decide +kernel
theorem dL_law_1638 : decode cL_law 1638 = .ok (.iaload, 1) := by decide +kernel
theorem dL_law_1639 : decode cL_law 1639 = .ok (.aload_n 3, 1) := by decide +kernel
theorem dL_law_1640 : decode cL_law 1640 = .ok (.invokestatic 322, 3) := by decide +kernel
theorem dL_law_1643 : decode cL_law 1643 = .ok (.istore 6, 2) := by decide +kernel
theorem dL_law_1645 : decode cL_law 1645 = .ok (.aload_n 2, 1) := by decide +kernel
theorem dL_law_1646 : decode cL_law 1646 = .ok (.aload_n 0, 1) := by decide +kernel
theorem dL_law_1647 : decode cL_law 1647 = .ok (.iload 5, 2) := by decide +kernel
theorem dL_law_1649 : decode cL_law 1649 = .ok (.iconst 1, 1) := by decide +kernel
theorem dL_law_1650 : decode cL_law 1650 = .ok (.iadd, 1) := by decide +kernel
theorem dL_law_1651 : decode cL_law 1651 = .ok (.iaload, 1) := by decide +kernel
theorem dL_law_1652 : decode cL_law 1652 = .ok (.invokevirtual 324, 3) := by decide +kernel
theorem dL_law_1655 : decode cL_law 1655 = .ok (.istore 7, 2) := by decide +kernel
theorem dL_law_1657 : decode cL_law 1657 = .ok (.goto 1267, 3) := by decide +kernel
theorem dL_law_1660 : decode cL_law 1660 = .ok (.aload_n 1, 1) := by decide +kernel
theorem dL_law_1661 : decode cL_law 1661 = .ok (.aload_n 0, 1) := by decide +kernel
theorem dL_law_1662 : decode cL_law 1662 = .ok (.iload 5, 2) := by decide +kernel
theorem dL_law_1664 : decode cL_law 1664 = .ok (.iconst 1, 1) := by decide +kernel
theorem dL_law_1665 : decode cL_law 1665 = .ok (.iadd, 1) := by decide +kernel
theorem dL_law_1666 : decode cL_law 1666 = .ok (.iaload, 1) := by decide +kernel
theorem dL_law_1667 : decode cL_law 1667 = .ok (.aload_n 0, 1) := by decide +kernel
theorem dL_law_1668 : decode cL_law 1668 = .ok (.iload 5, 2) := by decide +kernel
theorem dL_law_1670 : decode cL_law 1670 = .ok (.iconst 2, 1) := by decide +kernel
theorem dL_law_1671 : decode cL_law 1671 = .ok (.iadd, 1) := by decide +kernel
theorem dL_law_1672 : decode cL_law 1672 = .ok (.iaload, 1) := by decide +kernel
theorem dL_law_1673 : decode cL_law 1673 = .ok (.aload_n 0, 1) := by decide +kernel
theorem dL_law_1674 : decode cL_law 1674 = .ok (.iload 5, 2) := by decide +kernel
theorem dL_law_1676 : decode cL_law 1676 = .ok (.iconst 3, 1) := by decide +kernel
theorem dL_law_1677 : decode cL_law 1677 = .ok (.iadd, 1) := by decide +kernel
theorem dL_law_1678 : decode cL_law 1678 = .ok (.iaload, 1) := by decide +kernel
theorem dL_law_1679 : decode cL_law 1679 = .ok (.aload_n 0, 1) := by decide +kernel
theorem dL_law_1680 : decode cL_law 1680 = .ok (.iload 5, 2) := by decide +kernel
theorem dL_law_1682 : decode cL_law 1682 = .ok (.iconst 4, 1) := by decide +kernel
theorem dL_law_1683 : decode cL_law 1683 = .ok (.iadd, 1) := by decide +kernel
theorem dL_law_1684 : decode cL_law 1684 = .ok (.iaload, 1) := by decide +kernel
theorem dL_law_1685 : decode cL_law 1685 = .ok (.aload_n 3, 1) := by decide +kernel
theorem dL_law_1686 : decode cL_law 1686 = .ok (.invokestatic 325, 3) := by decide +kernel
theorem dL_law_1689 : decode cL_law 1689 = .ok (.istore 6, 2) := by decide +kernel
theorem dL_law_1691 : decode cL_law 1691 = .ok (.aload_n 2, 1) := by decide +kernel
theorem dL_law_1692 : decode cL_law 1692 = .ok (.aload_n 0, 1) := by decide +kernel
theorem dL_law_1693 : decode cL_law 1693 = .ok (.iload 5, 2) := by decide +kernel
theorem dL_law_1695 : decode cL_law 1695 = .ok (.iconst 1, 1) := by decide +kernel
theorem dL_law_1696 : decode cL_law 1696 = .ok (.iadd, 1) := by decide +kernel
theorem dL_law_1697 : decode cL_law 1697 = .ok (.iaload, 1) := by decide +kernel
theorem dL_law_1698 : decode cL_law 1698 = .ok (.aload_n 0, 1) := by decide +kernel
theorem dL_law_1699 : decode cL_law 1699 = .ok (.iload 5, 2) := by decide +kernel
theorem dL_law_1701 : decode cL_law 1701 = .ok (.iconst 2, 1) := by decide +kernel
theorem dL_law_1702 : decode cL_law 1702 = .ok (.iadd, 1) := by decide +kernel
theorem dL_law_1703 : decode cL_law 1703 = .ok (.iaload, 1) := by decide +kernel
theorem dL_law_1704 : decode cL_law 1704 = .ok (.aload_n 0, 1) := by decide +kernel
theorem dL_law_1705 : decode cL_law 1705 = .ok (.iload 5, 2) := by decide +kernel
theorem dL_law_1707 : decode cL_law 1707 = .ok (.iconst 3, 1) := by decide +kernel
theorem dL_law_1708 : decode cL_law 1708 = .ok (.iadd, 1) := by decide +kernel
theorem dL_law_1709 : decode cL_law 1709 = .ok (.iaload, 1) := by decide +kernel
theorem dL_law_1710 : decode cL_law 1710 = .ok (.aload_n 0, 1) := by decide +kernel
theorem dL_law_1711 : decode cL_law 1711 = .ok (.iload 5, 2) := by decide +kernel
theorem dL_law_1713 : decode cL_law 1713 = .ok (.iconst 4, 1) := by decide +kernel
theorem dL_law_1714 : decode cL_law 1714 = .ok (.iadd, 1) := by decide +kernel
theorem dL_law_1715 : decode cL_law 1715 = .ok (.iaload, 1) := by decide +kernel
theorem dL_law_1716 : decode cL_law 1716 = .ok (.invokevirtual 327, 3) := by decide +kernel
theorem dL_law_1719 : decode cL_law 1719 = .ok (.istore 7, 2) := by decide +kernel
theorem dL_law_1721 : decode cL_law 1721 = .ok (.goto 1203, 3) := by decide +kernel
theorem dL_law_1724 : decode cL_law 1724 = .ok (.aload_n 1, 1) := by decide +kernel
theorem dL_law_1725 : decode cL_law 1725 = .ok (.aload_n 0, 1) := by decide +kernel
theorem dL_law_1726 : decode cL_law 1726 = .ok (.iload 5, 2) := by decide +kernel
theorem dL_law_1728 : decode cL_law 1728 = .ok (.iconst 1, 1) := by decide +kernel
theorem dL_law_1729 : decode cL_law 1729 = .ok (.iadd, 1) := by decide +kernel
theorem dL_law_1730 : decode cL_law 1730 = .ok (.iaload, 1) := by decide +kernel
theorem dL_law_1731 : decode cL_law 1731 = .ok (.aload_n 0, 1) := by decide +kernel
theorem dL_law_1732 : decode cL_law 1732 = .ok (.iload 5, 2) := by decide +kernel
theorem dL_law_1734 : decode cL_law 1734 = .ok (.iconst 2, 1) := by decide +kernel
theorem dL_law_1735 : decode cL_law 1735 = .ok (.iadd, 1) := by decide +kernel
theorem dL_law_1736 : decode cL_law 1736 = .ok (.iaload, 1) := by decide +kernel
theorem dL_law_1737 : decode cL_law 1737 = .ok (.aload_n 0, 1) := by decide +kernel
theorem dL_law_1738 : decode cL_law 1738 = .ok (.iload 5, 2) := by decide +kernel
theorem dL_law_1740 : decode cL_law 1740 = .ok (.iconst 3, 1) := by decide +kernel
theorem dL_law_1741 : decode cL_law 1741 = .ok (.iadd, 1) := by decide +kernel
theorem dL_law_1742 : decode cL_law 1742 = .ok (.iaload, 1) := by decide +kernel
theorem dL_law_1743 : decode cL_law 1743 = .ok (.aload_n 3, 1) := by decide +kernel
theorem dL_law_1744 : decode cL_law 1744 = .ok (.invokestatic 328, 3) := by decide +kernel
theorem dL_law_1747 : decode cL_law 1747 = .ok (.istore 6, 2) := by decide +kernel
theorem dL_law_1749 : decode cL_law 1749 = .ok (.aload_n 2, 1) := by decide +kernel
theorem dL_law_1750 : decode cL_law 1750 = .ok (.aload_n 0, 1) := by decide +kernel
theorem dL_law_1751 : decode cL_law 1751 = .ok (.iload 5, 2) := by decide +kernel
theorem dL_law_1753 : decode cL_law 1753 = .ok (.iconst 1, 1) := by decide +kernel
theorem dL_law_1754 : decode cL_law 1754 = .ok (.iadd, 1) := by decide +kernel
theorem dL_law_1755 : decode cL_law 1755 = .ok (.iaload, 1) := by decide +kernel
theorem dL_law_1756 : decode cL_law 1756 = .ok (.aload_n 0, 1) := by decide +kernel
theorem dL_law_1757 : decode cL_law 1757 = .ok (.iload 5, 2) := by decide +kernel
theorem dL_law_1759 : decode cL_law 1759 = .ok (.iconst 2, 1) := by decide +kernel
theorem dL_law_1760 : decode cL_law 1760 = .ok (.iadd, 1) := by decide +kernel
theorem dL_law_1761 : decode cL_law 1761 = .ok (.iaload, 1) := by decide +kernel
theorem dL_law_1762 : decode cL_law 1762 = .ok (.aload_n 0, 1) := by decide +kernel
theorem dL_law_1763 : decode cL_law 1763 = .ok (.iload 5, 2) := by decide +kernel
theorem dL_law_1765 : decode cL_law 1765 = .ok (.iconst 3, 1) := by decide +kernel
theorem dL_law_1766 : decode cL_law 1766 = .ok (.iadd, 1) := by decide +kernel
theorem dL_law_1767 : decode cL_law 1767 = .ok (.iaload, 1) := by decide +kernel
theorem dL_law_1768 : decode cL_law 1768 = .ok (.invokevirtual 330, 3) := by decide +kernel
theorem dL_law_1771 : decode cL_law 1771 = .ok (.istore 7, 2) := by decide +kernel
theorem dL_law_1773 : decode cL_law 1773 = .ok (.goto 1151, 3) := by decide +kernel
theorem dL_law_1776 : decode cL_law 1776 = .ok (.aload_n 1, 1) := by decide +kernel
theorem dL_law_1777 : decode cL_law 1777 = .ok (.aload_n 0, 1) := by decide +kernel
theorem dL_law_1778 : decode cL_law 1778 = .ok (.iload 5, 2) := by decide +kernel
theorem dL_law_1780 : decode cL_law 1780 = .ok (.iconst 1, 1) := by decide +kernel
theorem dL_law_1781 : decode cL_law 1781 = .ok (.iadd, 1) := by decide +kernel
theorem dL_law_1782 : decode cL_law 1782 = .ok (.iaload, 1) := by decide +kernel
theorem dL_law_1783 : decode cL_law 1783 = .ok (.aload_n 0, 1) := by decide +kernel
theorem dL_law_1784 : decode cL_law 1784 = .ok (.iload 5, 2) := by decide +kernel
theorem dL_law_1786 : decode cL_law 1786 = .ok (.iconst 2, 1) := by decide +kernel
theorem dL_law_1787 : decode cL_law 1787 = .ok (.iadd, 1) := by decide +kernel
theorem dL_law_1788 : decode cL_law 1788 = .ok (.iaload, 1) := by decide +kernel
theorem dL_law_1789 : decode cL_law 1789 = .ok (.aload_n 0, 1) := by decide +kernel
theorem dL_law_1790 : decode cL_law 1790 = .ok (.iload 5, 2) := by decide +kernel
theorem dL_law_1792 : decode cL_law 1792 = .ok (.iconst 3, 1) := by decide +kernel
theorem dL_law_1793 : decode cL_law 1793 = .ok (.iadd, 1) := by decide +kernel
theorem dL_law_1794 : decode cL_law 1794 = .ok (.iaload, 1) := by decide +kernel
theorem dL_law_1795 : decode cL_law 1795 = .ok (.ifCond .eq 7, 3) := by decide +kernel
theorem dL_law_1798 : decode cL_law 1798 = .ok (.iconst 1, 1) := by decide +kernel
theorem dL_law_1799 : decode cL_law 1799 = .ok (.goto 4, 3) := by decide +kernel
theorem dL_law_1802 : decode cL_law 1802 = .ok (.iconst 0, 1) := by decide +kernel
theorem dL_law_1803 : decode cL_law 1803 = .ok (.aload_n 3, 1) := by decide +kernel
theorem dL_law_1804 : decode cL_law 1804 = .ok (.invokestatic 331, 3) := by decide +kernel
theorem dL_law_1807 : decode cL_law 1807 = .ok (.istore 6, 2) := by decide +kernel
theorem dL_law_1809 : decode cL_law 1809 = .ok (.aload_n 2, 1) := by decide +kernel
theorem dL_law_1810 : decode cL_law 1810 = .ok (.aload_n 0, 1) := by decide +kernel
theorem dL_law_1811 : decode cL_law 1811 = .ok (.iload 5, 2) := by decide +kernel
theorem dL_law_1813 : decode cL_law 1813 = .ok (.iconst 1, 1) := by decide +kernel
theorem dL_law_1814 : decode cL_law 1814 = .ok (.iadd, 1) := by decide +kernel
theorem dL_law_1815 : decode cL_law 1815 = .ok (.iaload, 1) := by decide +kernel
theorem dL_law_1816 : decode cL_law 1816 = .ok (.aload_n 0, 1) := by decide +kernel
theorem dL_law_1817 : decode cL_law 1817 = .ok (.iload 5, 2) := by decide +kernel
theorem dL_law_1819 : decode cL_law 1819 = .ok (.iconst 2, 1) := by decide +kernel
theorem dL_law_1820 : decode cL_law 1820 = .ok (.iadd, 1) := by decide +kernel
theorem dL_law_1821 : decode cL_law 1821 = .ok (.iaload, 1) := by decide +kernel
theorem dL_law_1822 : decode cL_law 1822 = .ok (.aload_n 0, 1) := by decide +kernel
theorem dL_law_1823 : decode cL_law 1823 = .ok (.iload 5, 2) := by decide +kernel
theorem dL_law_1825 : decode cL_law 1825 = .ok (.iconst 3, 1) := by decide +kernel
theorem dL_law_1826 : decode cL_law 1826 = .ok (.iadd, 1) := by decide +kernel
theorem dL_law_1827 : decode cL_law 1827 = .ok (.iaload, 1) := by decide +kernel
theorem dL_law_1828 : decode cL_law 1828 = .ok (.ifCond .eq 7, 3) := by decide +kernel
theorem dL_law_1831 : decode cL_law 1831 = .ok (.iconst 1, 1) := by decide +kernel
theorem dL_law_1832 : decode cL_law 1832 = .ok (.goto 4, 3) := by decide +kernel
theorem dL_law_1835 : decode cL_law 1835 = .ok (.iconst 0, 1) := by decide +kernel
theorem dL_law_1836 : decode cL_law 1836 = .ok (.invokevirtual 334, 3) := by decide +kernel
theorem dL_law_1839 : decode cL_law 1839 = .ok (.istore 7, 2) := by decide +kernel
theorem dL_law_1841 : decode cL_law 1841 = .ok (.goto 1083, 3) := by decide +kernel
theorem dL_law_1844 : decode cL_law 1844 = .ok (.aload_n 1, 1) := by decide +kernel
theorem dL_law_1845 : decode cL_law 1845 = .ok (.aload_n 0, 1) := by decide +kernel
theorem dL_law_1846 : decode cL_law 1846 = .ok (.iload 5, 2) := by decide +kernel
theorem dL_law_1848 : decode cL_law 1848 = .ok (.iconst 1, 1) := by decide +kernel
theorem dL_law_1849 : decode cL_law 1849 = .ok (.iadd, 1) := by decide +kernel
theorem dL_law_1850 : decode cL_law 1850 = .ok (.iaload, 1) := by decide +kernel
theorem dL_law_1851 : decode cL_law 1851 = .ok (.aload_n 3, 1) := by decide +kernel
theorem dL_law_1852 : decode cL_law 1852 = .ok (.invokestatic 335, 3) := by decide +kernel
theorem dL_law_1855 : decode cL_law 1855 = .ok (.istore 6, 2) := by decide +kernel
theorem dL_law_1857 : decode cL_law 1857 = .ok (.aload_n 2, 1) := by decide +kernel
theorem dL_law_1858 : decode cL_law 1858 = .ok (.aload_n 0, 1) := by decide +kernel
theorem dL_law_1859 : decode cL_law 1859 = .ok (.iload 5, 2) := by decide +kernel
theorem dL_law_1861 : decode cL_law 1861 = .ok (.iconst 1, 1) := by decide +kernel
theorem dL_law_1862 : decode cL_law 1862 = .ok (.iadd, 1) := by decide +kernel
theorem dL_law_1863 : decode cL_law 1863 = .ok (.iaload, 1) := by decide +kernel
theorem dL_law_1864 : decode cL_law 1864 = .ok (.invokevirtual 337, 3) := by decide +kernel
theorem dL_law_1867 : decode cL_law 1867 = .ok (.istore 7, 2) := by decide +kernel
theorem dL_law_1869 : decode cL_law 1869 = .ok (.goto 1055, 3) := by decide +kernel
theorem dL_law_1872 : decode cL_law 1872 = .ok (.aload_n 1, 1) := by decide +kernel
theorem dL_law_1873 : decode cL_law 1873 = .ok (.aload_n 0, 1) := by decide +kernel
theorem dL_law_1874 : decode cL_law 1874 = .ok (.iload 5, 2) := by decide +kernel
theorem dL_law_1876 : decode cL_law 1876 = .ok (.iconst 1, 1) := by decide +kernel
theorem dL_law_1877 : decode cL_law 1877 = .ok (.iadd, 1) := by decide +kernel
theorem dL_law_1878 : decode cL_law 1878 = .ok (.iaload, 1) := by decide +kernel
theorem dL_law_1879 : decode cL_law 1879 = .ok (.aload_n 3, 1) := by decide +kernel
theorem dL_law_1880 : decode cL_law 1880 = .ok (.invokestatic 338, 3) := by decide +kernel
theorem dL_law_1883 : decode cL_law 1883 = .ok (.istore 6, 2) := by decide +kernel
theorem dL_law_1885 : decode cL_law 1885 = .ok (.aload_n 2, 1) := by decide +kernel
theorem dL_law_1886 : decode cL_law 1886 = .ok (.aload_n 0, 1) := by decide +kernel
theorem dL_law_1887 : decode cL_law 1887 = .ok (.iload 5, 2) := by decide +kernel
theorem dL_law_1889 : decode cL_law 1889 = .ok (.iconst 1, 1) := by decide +kernel
theorem dL_law_1890 : decode cL_law 1890 = .ok (.iadd, 1) := by decide +kernel
theorem dL_law_1891 : decode cL_law 1891 = .ok (.iaload, 1) := by decide +kernel
theorem dL_law_1892 : decode cL_law 1892 = .ok (.invokevirtual 340, 3) := by decide +kernel
theorem dL_law_1895 : decode cL_law 1895 = .ok (.istore 7, 2) := by decide +kernel
theorem dL_law_1897 : decode cL_law 1897 = .ok (.goto 1027, 3) := by decide +kernel
theorem dL_law_1900 : decode cL_law 1900 = .ok (.aload_n 1, 1) := by decide +kernel
theorem dL_law_1901 : decode cL_law 1901 = .ok (.aload_n 0, 1) := by decide +kernel
theorem dL_law_1902 : decode cL_law 1902 = .ok (.iload 5, 2) := by decide +kernel
theorem dL_law_1904 : decode cL_law 1904 = .ok (.iconst 1, 1) := by decide +kernel
theorem dL_law_1905 : decode cL_law 1905 = .ok (.iadd, 1) := by decide +kernel
theorem dL_law_1906 : decode cL_law 1906 = .ok (.iaload, 1) := by decide +kernel
theorem dL_law_1907 : decode cL_law 1907 = .ok (.aload_n 0, 1) := by decide +kernel
theorem dL_law_1908 : decode cL_law 1908 = .ok (.iload 5, 2) := by decide +kernel
theorem dL_law_1910 : decode cL_law 1910 = .ok (.iconst 2, 1) := by decide +kernel
theorem dL_law_1911 : decode cL_law 1911 = .ok (.iadd, 1) := by decide +kernel
theorem dL_law_1912 : decode cL_law 1912 = .ok (.iaload, 1) := by decide +kernel
theorem dL_law_1913 : decode cL_law 1913 = .ok (.aload_n 0, 1) := by decide +kernel
theorem dL_law_1914 : decode cL_law 1914 = .ok (.iload 5, 2) := by decide +kernel
theorem dL_law_1916 : decode cL_law 1916 = .ok (.iconst 3, 1) := by decide +kernel
theorem dL_law_1917 : decode cL_law 1917 = .ok (.iadd, 1) := by decide +kernel
theorem dL_law_1918 : decode cL_law 1918 = .ok (.iaload, 1) := by decide +kernel
theorem dL_law_1919 : decode cL_law 1919 = .ok (.aload_n 3, 1) := by decide +kernel
theorem dL_law_1920 : decode cL_law 1920 = .ok (.invokestatic 341, 3) := by decide +kernel
theorem dL_law_1923 : decode cL_law 1923 = .ok (.istore 6, 2) := by decide +kernel
theorem dL_law_1925 : decode cL_law 1925 = .ok (.aload_n 2, 1) := by decide +kernel
theorem dL_law_1926 : decode cL_law 1926 = .ok (.aload_n 0, 1) := by decide +kernel
theorem dL_law_1927 : decode cL_law 1927 = .ok (.iload 5, 2) := by decide +kernel
theorem dL_law_1929 : decode cL_law 1929 = .ok (.iconst 1, 1) := by decide +kernel
theorem dL_law_1930 : decode cL_law 1930 = .ok (.iadd, 1) := by decide +kernel
theorem dL_law_1931 : decode cL_law 1931 = .ok (.iaload, 1) := by decide +kernel
theorem dL_law_1932 : decode cL_law 1932 = .ok (.aload_n 0, 1) := by decide +kernel
theorem dL_law_1933 : decode cL_law 1933 = .ok (.iload 5, 2) := by decide +kernel
theorem dL_law_1935 : decode cL_law 1935 = .ok (.iconst 2, 1) := by decide +kernel
theorem dL_law_1936 : decode cL_law 1936 = .ok (.iadd, 1) := by decide +kernel
theorem dL_law_1937 : decode cL_law 1937 = .ok (.iaload, 1) := by decide +kernel
theorem dL_law_1938 : decode cL_law 1938 = .ok (.aload_n 0, 1) := by decide +kernel
theorem dL_law_1939 : decode cL_law 1939 = .ok (.iload 5, 2) := by decide +kernel
theorem dL_law_1941 : decode cL_law 1941 = .ok (.iconst 3, 1) := by decide +kernel
theorem dL_law_1942 : decode cL_law 1942 = .ok (.iadd, 1) := by decide +kernel
theorem dL_law_1943 : decode cL_law 1943 = .ok (.iaload, 1) := by decide +kernel
theorem dL_law_1944 : decode cL_law 1944 = .ok (.invokevirtual 343, 3) := by decide +kernel
theorem dL_law_1947 : decode cL_law 1947 = .ok (.istore 7, 2) := by decide +kernel
theorem dL_law_1949 : decode cL_law 1949 = .ok (.goto 975, 3) := by decide +kernel
theorem dL_law_1952 : decode cL_law 1952 = .ok (.aload_n 1, 1) := by decide +kernel
theorem dL_law_1953 : decode cL_law 1953 = .ok (.aload_n 0, 1) := by decide +kernel
theorem dL_law_1954 : decode cL_law 1954 = .ok (.iload 5, 2) := by decide +kernel
theorem dL_law_1956 : decode cL_law 1956 = .ok (.iconst 1, 1) := by decide +kernel
theorem dL_law_1957 : decode cL_law 1957 = .ok (.iadd, 1) := by decide +kernel
theorem dL_law_1958 : decode cL_law 1958 = .ok (.iaload, 1) := by decide +kernel
theorem dL_law_1959 : decode cL_law 1959 = .ok (.aload_n 3, 1) := by decide +kernel
theorem dL_law_1960 : decode cL_law 1960 = .ok (.invokestatic 344, 3) := by decide +kernel
theorem dL_law_1963 : decode cL_law 1963 = .ok (.istore 6, 2) := by decide +kernel
theorem dL_law_1965 : decode cL_law 1965 = .ok (.aload_n 2, 1) := by decide +kernel
theorem dL_law_1966 : decode cL_law 1966 = .ok (.aload_n 0, 1) := by decide +kernel
theorem dL_law_1967 : decode cL_law 1967 = .ok (.iload 5, 2) := by decide +kernel
theorem dL_law_1969 : decode cL_law 1969 = .ok (.iconst 1, 1) := by decide +kernel
theorem dL_law_1970 : decode cL_law 1970 = .ok (.iadd, 1) := by decide +kernel
theorem dL_law_1971 : decode cL_law 1971 = .ok (.iaload, 1) := by decide +kernel
theorem dL_law_1972 : decode cL_law 1972 = .ok (.invokevirtual 346, 3) := by decide +kernel
theorem dL_law_1975 : decode cL_law 1975 = .ok (.istore 7, 2) := by decide +kernel
theorem dL_law_1977 : decode cL_law 1977 = .ok (.goto 947, 3) := by decide +kernel
theorem dL_law_1980 : decode cL_law 1980 = .ok (.aload_n 1, 1) := by decide +kernel
theorem dL_law_1981 : decode cL_law 1981 = .ok (.aload_n 0, 1) := by decide +kernel
theorem dL_law_1982 : decode cL_law 1982 = .ok (.iload 5, 2) := by decide +kernel
theorem dL_law_1984 : decode cL_law 1984 = .ok (.iconst 1, 1) := by decide +kernel
theorem dL_law_1985 : decode cL_law 1985 = .ok (.iadd, 1) := by decide +kernel
theorem dL_law_1986 : decode cL_law 1986 = .ok (.iaload, 1) := by decide +kernel
theorem dL_law_1987 : decode cL_law 1987 = .ok (.aload_n 0, 1) := by decide +kernel
theorem dL_law_1988 : decode cL_law 1988 = .ok (.iload 5, 2) := by decide +kernel
theorem dL_law_1990 : decode cL_law 1990 = .ok (.iconst 2, 1) := by decide +kernel
theorem dL_law_1991 : decode cL_law 1991 = .ok (.iadd, 1) := by decide +kernel
theorem dL_law_1992 : decode cL_law 1992 = .ok (.iaload, 1) := by decide +kernel
theorem dL_law_1993 : decode cL_law 1993 = .ok (.aload_n 0, 1) := by decide +kernel
theorem dL_law_1994 : decode cL_law 1994 = .ok (.iload 5, 2) := by decide +kernel
theorem dL_law_1996 : decode cL_law 1996 = .ok (.iconst 3, 1) := by decide +kernel
theorem dL_law_1997 : decode cL_law 1997 = .ok (.iadd, 1) := by decide +kernel
theorem dL_law_1998 : decode cL_law 1998 = .ok (.iaload, 1) := by decide +kernel
theorem dL_law_1999 : decode cL_law 1999 = .ok (.aload_n 3, 1) := by decide +kernel
theorem dL_law_2000 : decode cL_law 2000 = .ok (.invokestatic 347, 3) := by decide +kernel
theorem dL_law_2003 : decode cL_law 2003 = .ok (.istore 6, 2) := by decide +kernel
theorem dL_law_2005 : decode cL_law 2005 = .ok (.aload_n 2, 1) := by decide +kernel
theorem dL_law_2006 : decode cL_law 2006 = .ok (.aload_n 0, 1) := by decide +kernel
theorem dL_law_2007 : decode cL_law 2007 = .ok (.iload 5, 2) := by decide +kernel
theorem dL_law_2009 : decode cL_law 2009 = .ok (.iconst 1, 1) := by decide +kernel
theorem dL_law_2010 : decode cL_law 2010 = .ok (.iadd, 1) := by decide +kernel
theorem dL_law_2011 : decode cL_law 2011 = .ok (.iaload, 1) := by decide +kernel
theorem dL_law_2012 : decode cL_law 2012 = .ok (.aload_n 0, 1) := by decide +kernel
theorem dL_law_2013 : decode cL_law 2013 = .ok (.iload 5, 2) := by decide +kernel
theorem dL_law_2015 : decode cL_law 2015 = .ok (.iconst 2, 1) := by decide +kernel
theorem dL_law_2016 : decode cL_law 2016 = .ok (.iadd, 1) := by decide +kernel
theorem dL_law_2017 : decode cL_law 2017 = .ok (.iaload, 1) := by decide +kernel
theorem dL_law_2018 : decode cL_law 2018 = .ok (.aload_n 0, 1) := by decide +kernel
theorem dL_law_2019 : decode cL_law 2019 = .ok (.iload 5, 2) := by decide +kernel
theorem dL_law_2021 : decode cL_law 2021 = .ok (.iconst 3, 1) := by decide +kernel
theorem dL_law_2022 : decode cL_law 2022 = .ok (.iadd, 1) := by decide +kernel
theorem dL_law_2023 : decode cL_law 2023 = .ok (.iaload, 1) := by decide +kernel
theorem dL_law_2024 : decode cL_law 2024 = .ok (.invokevirtual 349, 3) := by decide +kernel
theorem dL_law_2027 : decode cL_law 2027 = .ok (.istore 7, 2) := by decide +kernel
theorem dL_law_2029 : decode cL_law 2029 = .ok (.goto 895, 3) := by decide +kernel
theorem dL_law_2032 : decode cL_law 2032 = .ok (.aload_n 1, 1) := by decide +kernel
theorem dL_law_2033 : decode cL_law 2033 = .ok (.aload_n 0, 1) := by decide +kernel
theorem dL_law_2034 : decode cL_law 2034 = .ok (.iload 5, 2) := by decide +kernel
theorem dL_law_2036 : decode cL_law 2036 = .ok (.iconst 1, 1) := by decide +kernel
theorem dL_law_2037 : decode cL_law 2037 = .ok (.iadd, 1) := by decide +kernel
theorem dL_law_2038 : decode cL_law 2038 = .ok (.iaload, 1) := by decide +kernel
theorem dL_law_2039 : decode cL_law 2039 = .ok (.aload_n 3, 1) := by decide +kernel
theorem dL_law_2040 : decode cL_law 2040 = .ok (.invokestatic 350, 3) := by decide +kernel
theorem dL_law_2043 : decode cL_law 2043 = .ok (.istore 6, 2) := by decide +kernel
theorem dL_law_2045 : decode cL_law 2045 = .ok (.aload_n 2, 1) := by decide +kernel
theorem dL_law_2046 : decode cL_law 2046 = .ok (.aload_n 0, 1) := by decide +kernel
theorem dL_law_2047 : decode cL_law 2047 = .ok (.iload 5, 2) := by decide +kernel
theorem dL_law_2049 : decode cL_law 2049 = .ok (.iconst 1, 1) := by decide +kernel
theorem dL_law_2050 : decode cL_law 2050 = .ok (.iadd, 1) := by decide +kernel
theorem dL_law_2051 : decode cL_law 2051 = .ok (.iaload, 1) := by decide +kernel
theorem dL_law_2052 : decode cL_law 2052 = .ok (.invokevirtual 352, 3) := by decide +kernel
theorem dL_law_2055 : decode cL_law 2055 = .ok (.istore 7, 2) := by decide +kernel
theorem dL_law_2057 : decode cL_law 2057 = .ok (.goto 867, 3) := by decide +kernel
theorem dL_law_2060 : decode cL_law 2060 = .ok (.aload_n 1, 1) := by decide +kernel
theorem dL_law_2061 : decode cL_law 2061 = .ok (.aload_n 0, 1) := by decide +kernel
theorem dL_law_2062 : decode cL_law 2062 = .ok (.iload 5, 2) := by decide +kernel
theorem dL_law_2064 : decode cL_law 2064 = .ok (.iconst 1, 1) := by decide +kernel
theorem dL_law_2065 : decode cL_law 2065 = .ok (.iadd, 1) := by decide +kernel
theorem dL_law_2066 : decode cL_law 2066 = .ok (.iaload, 1) := by decide +kernel
theorem dL_law_2067 : decode cL_law 2067 = .ok (.aload_n 3, 1) := by decide +kernel
theorem dL_law_2068 : decode cL_law 2068 = .ok (.invokestatic 353, 3) := by decide +kernel
theorem dL_law_2071 : decode cL_law 2071 = .ok (.istore 6, 2) := by decide +kernel
theorem dL_law_2073 : decode cL_law 2073 = .ok (.aload_n 2, 1) := by decide +kernel
theorem dL_law_2074 : decode cL_law 2074 = .ok (.aload_n 0, 1) := by decide +kernel
theorem dL_law_2075 : decode cL_law 2075 = .ok (.iload 5, 2) := by decide +kernel
theorem dL_law_2077 : decode cL_law 2077 = .ok (.iconst 1, 1) := by decide +kernel
theorem dL_law_2078 : decode cL_law 2078 = .ok (.iadd, 1) := by decide +kernel
theorem dL_law_2079 : decode cL_law 2079 = .ok (.iaload, 1) := by decide +kernel
theorem dL_law_2080 : decode cL_law 2080 = .ok (.invokevirtual 355, 3) := by decide +kernel
theorem dL_law_2083 : decode cL_law 2083 = .ok (.istore 7, 2) := by decide +kernel
theorem dL_law_2085 : decode cL_law 2085 = .ok (.goto 839, 3) := by decide +kernel
theorem dL_law_2088 : decode cL_law 2088 = .ok (.aload_n 1, 1) := by decide +kernel
theorem dL_law_2089 : decode cL_law 2089 = .ok (.aload_n 0, 1) := by decide +kernel
theorem dL_law_2090 : decode cL_law 2090 = .ok (.iload 5, 2) := by decide +kernel
theorem dL_law_2092 : decode cL_law 2092 = .ok (.iconst 1, 1) := by decide +kernel
theorem dL_law_2093 : decode cL_law 2093 = .ok (.iadd, 1) := by decide +kernel
theorem dL_law_2094 : decode cL_law 2094 = .ok (.iaload, 1) := by decide +kernel
theorem dL_law_2095 : decode cL_law 2095 = .ok (.aload_n 0, 1) := by decide +kernel
theorem dL_law_2096 : decode cL_law 2096 = .ok (.iload 5, 2) := by decide +kernel
theorem dL_law_2098 : decode cL_law 2098 = .ok (.iconst 2, 1) := by decide +kernel
theorem dL_law_2099 : decode cL_law 2099 = .ok (.iadd, 1) := by decide +kernel
theorem dL_law_2100 : decode cL_law 2100 = .ok (.iaload, 1) := by decide +kernel
theorem dL_law_2101 : decode cL_law 2101 = .ok (.aload_n 3, 1) := by decide +kernel
theorem dL_law_2102 : decode cL_law 2102 = .ok (.invokestatic 356, 3) := by decide +kernel
theorem dL_law_2105 : decode cL_law 2105 = .ok (.istore 6, 2) := by decide +kernel
theorem dL_law_2107 : decode cL_law 2107 = .ok (.aload_n 2, 1) := by decide +kernel
theorem dL_law_2108 : decode cL_law 2108 = .ok (.aload_n 0, 1) := by decide +kernel
theorem dL_law_2109 : decode cL_law 2109 = .ok (.iload 5, 2) := by decide +kernel
theorem dL_law_2111 : decode cL_law 2111 = .ok (.iconst 1, 1) := by decide +kernel
theorem dL_law_2112 : decode cL_law 2112 = .ok (.iadd, 1) := by decide +kernel
theorem dL_law_2113 : decode cL_law 2113 = .ok (.iaload, 1) := by decide +kernel
theorem dL_law_2114 : decode cL_law 2114 = .ok (.aload_n 0, 1) := by decide +kernel
theorem dL_law_2115 : decode cL_law 2115 = .ok (.iload 5, 2) := by decide +kernel
theorem dL_law_2117 : decode cL_law 2117 = .ok (.iconst 2, 1) := by decide +kernel
theorem dL_law_2118 : decode cL_law 2118 = .ok (.iadd, 1) := by decide +kernel
theorem dL_law_2119 : decode cL_law 2119 = .ok (.iaload, 1) := by decide +kernel
theorem dL_law_2120 : decode cL_law 2120 = .ok (.invokevirtual 358, 3) := by decide +kernel
theorem dL_law_2123 : decode cL_law 2123 = .ok (.istore 7, 2) := by decide +kernel
theorem dL_law_2125 : decode cL_law 2125 = .ok (.goto 799, 3) := by decide +kernel
theorem dL_law_2128 : decode cL_law 2128 = .ok (.aload_n 1, 1) := by decide +kernel
theorem dL_law_2129 : decode cL_law 2129 = .ok (.aload_n 0, 1) := by decide +kernel
theorem dL_law_2130 : decode cL_law 2130 = .ok (.iload 5, 2) := by decide +kernel
theorem dL_law_2132 : decode cL_law 2132 = .ok (.iconst 1, 1) := by decide +kernel
theorem dL_law_2133 : decode cL_law 2133 = .ok (.iadd, 1) := by decide +kernel
theorem dL_law_2134 : decode cL_law 2134 = .ok (.iaload, 1) := by decide +kernel
theorem dL_law_2135 : decode cL_law 2135 = .ok (.aload_n 3, 1) := by decide +kernel
theorem dL_law_2136 : decode cL_law 2136 = .ok (.invokestatic 359, 3) := by decide +kernel
theorem dL_law_2139 : decode cL_law 2139 = .ok (.istore 6, 2) := by decide +kernel
theorem dL_law_2141 : decode cL_law 2141 = .ok (.aload_n 2, 1) := by decide +kernel
theorem dL_law_2142 : decode cL_law 2142 = .ok (.aload_n 0, 1) := by decide +kernel
theorem dL_law_2143 : decode cL_law 2143 = .ok (.iload 5, 2) := by decide +kernel
theorem dL_law_2145 : decode cL_law 2145 = .ok (.iconst 1, 1) := by decide +kernel
theorem dL_law_2146 : decode cL_law 2146 = .ok (.iadd, 1) := by decide +kernel
theorem dL_law_2147 : decode cL_law 2147 = .ok (.iaload, 1) := by decide +kernel
theorem dL_law_2148 : decode cL_law 2148 = .ok (.invokevirtual 361, 3) := by decide +kernel
theorem dL_law_2151 : decode cL_law 2151 = .ok (.istore 7, 2) := by decide +kernel
theorem dL_law_2153 : decode cL_law 2153 = .ok (.goto 771, 3) := by decide +kernel
theorem dL_law_2156 : decode cL_law 2156 = .ok (.aload_n 1, 1) := by decide +kernel
theorem dL_law_2157 : decode cL_law 2157 = .ok (.aload_n 0, 1) := by decide +kernel
theorem dL_law_2158 : decode cL_law 2158 = .ok (.iload 5, 2) := by decide +kernel
theorem dL_law_2160 : decode cL_law 2160 = .ok (.iconst 1, 1) := by decide +kernel
theorem dL_law_2161 : decode cL_law 2161 = .ok (.iadd, 1) := by decide +kernel
theorem dL_law_2162 : decode cL_law 2162 = .ok (.iaload, 1) := by decide +kernel
theorem dL_law_2163 : decode cL_law 2163 = .ok (.aload_n 0, 1) := by decide +kernel
theorem dL_law_2164 : decode cL_law 2164 = .ok (.iload 5, 2) := by decide +kernel
theorem dL_law_2166 : decode cL_law 2166 = .ok (.iconst 2, 1) := by decide +kernel
theorem dL_law_2167 : decode cL_law 2167 = .ok (.iadd, 1) := by decide +kernel
theorem dL_law_2168 : decode cL_law 2168 = .ok (.iaload, 1) := by decide +kernel
theorem dL_law_2169 : decode cL_law 2169 = .ok (.aload_n 0, 1) := by decide +kernel
theorem dL_law_2170 : decode cL_law 2170 = .ok (.iload 5, 2) := by decide +kernel
theorem dL_law_2172 : decode cL_law 2172 = .ok (.iconst 3, 1) := by decide +kernel
theorem dL_law_2173 : decode cL_law 2173 = .ok (.iadd, 1) := by decide +kernel
theorem dL_law_2174 : decode cL_law 2174 = .ok (.iaload, 1) := by decide +kernel
theorem dL_law_2175 : decode cL_law 2175 = .ok (.aload_n 3, 1) := by decide +kernel
theorem dL_law_2176 : decode cL_law 2176 = .ok (.invokestatic 362, 3) := by decide +kernel
theorem dL_law_2179 : decode cL_law 2179 = .ok (.istore 6, 2) := by decide +kernel
theorem dL_law_2181 : decode cL_law 2181 = .ok (.aload_n 2, 1) := by decide +kernel
theorem dL_law_2182 : decode cL_law 2182 = .ok (.aload_n 0, 1) := by decide +kernel
theorem dL_law_2183 : decode cL_law 2183 = .ok (.iload 5, 2) := by decide +kernel
theorem dL_law_2185 : decode cL_law 2185 = .ok (.iconst 1, 1) := by decide +kernel
theorem dL_law_2186 : decode cL_law 2186 = .ok (.iadd, 1) := by decide +kernel
theorem dL_law_2187 : decode cL_law 2187 = .ok (.iaload, 1) := by decide +kernel
theorem dL_law_2188 : decode cL_law 2188 = .ok (.aload_n 0, 1) := by decide +kernel
theorem dL_law_2189 : decode cL_law 2189 = .ok (.iload 5, 2) := by decide +kernel
theorem dL_law_2191 : decode cL_law 2191 = .ok (.iconst 2, 1) := by decide +kernel
theorem dL_law_2192 : decode cL_law 2192 = .ok (.iadd, 1) := by decide +kernel
theorem dL_law_2193 : decode cL_law 2193 = .ok (.iaload, 1) := by decide +kernel
theorem dL_law_2194 : decode cL_law 2194 = .ok (.aload_n 0, 1) := by decide +kernel
theorem dL_law_2195 : decode cL_law 2195 = .ok (.iload 5, 2) := by decide +kernel
theorem dL_law_2197 : decode cL_law 2197 = .ok (.iconst 3, 1) := by decide +kernel
theorem dL_law_2198 : decode cL_law 2198 = .ok (.iadd, 1) := by decide +kernel
theorem dL_law_2199 : decode cL_law 2199 = .ok (.iaload, 1) := by decide +kernel
theorem dL_law_2200 : decode cL_law 2200 = .ok (.invokevirtual 364, 3) := by decide +kernel
theorem dL_law_2203 : decode cL_law 2203 = .ok (.istore 7, 2) := by decide +kernel
theorem dL_law_2205 : decode cL_law 2205 = .ok (.goto 719, 3) := by decide +kernel
theorem dL_law_2208 : decode cL_law 2208 = .ok (.aload_n 1, 1) := by decide +kernel
theorem dL_law_2209 : decode cL_law 2209 = .ok (.aload_n 0, 1) := by decide +kernel
theorem dL_law_2210 : decode cL_law 2210 = .ok (.iload 5, 2) := by decide +kernel
theorem dL_law_2212 : decode cL_law 2212 = .ok (.iconst 1, 1) := by decide +kernel
theorem dL_law_2213 : decode cL_law 2213 = .ok (.iadd, 1) := by decide +kernel
theorem dL_law_2214 : decode cL_law 2214 = .ok (.iaload, 1) := by decide +kernel
theorem dL_law_2215 : decode cL_law 2215 = .ok (.aload_n 0, 1) := by decide +kernel
theorem dL_law_2216 : decode cL_law 2216 = .ok (.iload 5, 2) := by decide +kernel
theorem dL_law_2218 : decode cL_law 2218 = .ok (.iconst 2, 1) := by decide +kernel
theorem dL_law_2219 : decode cL_law 2219 = .ok (.iadd, 1) := by decide +kernel
theorem dL_law_2220 : decode cL_law 2220 = .ok (.iaload, 1) := by decide +kernel
theorem dL_law_2221 : decode cL_law 2221 = .ok (.aload_n 3, 1) := by decide +kernel
theorem dL_law_2222 : decode cL_law 2222 = .ok (.invokestatic 365, 3) := by decide +kernel
theorem dL_law_2225 : decode cL_law 2225 = .ok (.istore 6, 2) := by decide +kernel
theorem dL_law_2227 : decode cL_law 2227 = .ok (.aload_n 2, 1) := by decide +kernel
theorem dL_law_2228 : decode cL_law 2228 = .ok (.aload_n 0, 1) := by decide +kernel
theorem dL_law_2229 : decode cL_law 2229 = .ok (.iload 5, 2) := by decide +kernel
theorem dL_law_2231 : decode cL_law 2231 = .ok (.iconst 1, 1) := by decide +kernel
theorem dL_law_2232 : decode cL_law 2232 = .ok (.iadd, 1) := by decide +kernel
theorem dL_law_2233 : decode cL_law 2233 = .ok (.iaload, 1) := by decide +kernel
theorem dL_law_2234 : decode cL_law 2234 = .ok (.aload_n 0, 1) := by decide +kernel
theorem dL_law_2235 : decode cL_law 2235 = .ok (.iload 5, 2) := by decide +kernel
theorem dL_law_2237 : decode cL_law 2237 = .ok (.iconst 2, 1) := by decide +kernel
theorem dL_law_2238 : decode cL_law 2238 = .ok (.iadd, 1) := by decide +kernel
theorem dL_law_2239 : decode cL_law 2239 = .ok (.iaload, 1) := by decide +kernel
theorem dL_law_2240 : decode cL_law 2240 = .ok (.invokevirtual 367, 3) := by decide +kernel
theorem dL_law_2243 : decode cL_law 2243 = .ok (.istore 7, 2) := by decide +kernel
theorem dL_law_2245 : decode cL_law 2245 = .ok (.goto 679, 3) := by decide +kernel
theorem dL_law_2248 : decode cL_law 2248 = .ok (.aload_n 1, 1) := by decide +kernel
theorem dL_law_2249 : decode cL_law 2249 = .ok (.aload_n 0, 1) := by decide +kernel
theorem dL_law_2250 : decode cL_law 2250 = .ok (.iload 5, 2) := by decide +kernel
theorem dL_law_2252 : decode cL_law 2252 = .ok (.iconst 1, 1) := by decide +kernel
theorem dL_law_2253 : decode cL_law 2253 = .ok (.iadd, 1) := by decide +kernel
theorem dL_law_2254 : decode cL_law 2254 = .ok (.iaload, 1) := by decide +kernel
theorem dL_law_2255 : decode cL_law 2255 = .ok (.aload_n 0, 1) := by decide +kernel
theorem dL_law_2256 : decode cL_law 2256 = .ok (.iload 5, 2) := by decide +kernel
theorem dL_law_2258 : decode cL_law 2258 = .ok (.iconst 2, 1) := by decide +kernel
theorem dL_law_2259 : decode cL_law 2259 = .ok (.iadd, 1) := by decide +kernel
theorem dL_law_2260 : decode cL_law 2260 = .ok (.iaload, 1) := by decide +kernel
theorem dL_law_2261 : decode cL_law 2261 = .ok (.aload_n 0, 1) := by decide +kernel
theorem dL_law_2262 : decode cL_law 2262 = .ok (.iload 5, 2) := by decide +kernel
theorem dL_law_2264 : decode cL_law 2264 = .ok (.iconst 3, 1) := by decide +kernel
theorem dL_law_2265 : decode cL_law 2265 = .ok (.iadd, 1) := by decide +kernel
theorem dL_law_2266 : decode cL_law 2266 = .ok (.iaload, 1) := by decide +kernel
theorem dL_law_2267 : decode cL_law 2267 = .ok (.aload_n 3, 1) := by decide +kernel
theorem dL_law_2268 : decode cL_law 2268 = .ok (.invokestatic 368, 3) := by decide +kernel
theorem dL_law_2271 : decode cL_law 2271 = .ok (.istore 6, 2) := by decide +kernel
theorem dL_law_2273 : decode cL_law 2273 = .ok (.aload_n 2, 1) := by decide +kernel
theorem dL_law_2274 : decode cL_law 2274 = .ok (.aload_n 0, 1) := by decide +kernel
theorem dL_law_2275 : decode cL_law 2275 = .ok (.iload 5, 2) := by decide +kernel
theorem dL_law_2277 : decode cL_law 2277 = .ok (.iconst 1, 1) := by decide +kernel
theorem dL_law_2278 : decode cL_law 2278 = .ok (.iadd, 1) := by decide +kernel
theorem dL_law_2279 : decode cL_law 2279 = .ok (.iaload, 1) := by decide +kernel
theorem dL_law_2280 : decode cL_law 2280 = .ok (.aload_n 0, 1) := by decide +kernel
theorem dL_law_2281 : decode cL_law 2281 = .ok (.iload 5, 2) := by decide +kernel
theorem dL_law_2283 : decode cL_law 2283 = .ok (.iconst 2, 1) := by decide +kernel
theorem dL_law_2284 : decode cL_law 2284 = .ok (.iadd, 1) := by decide +kernel
theorem dL_law_2285 : decode cL_law 2285 = .ok (.iaload, 1) := by decide +kernel
theorem dL_law_2286 : decode cL_law 2286 = .ok (.aload_n 0, 1) := by decide +kernel
theorem dL_law_2287 : decode cL_law 2287 = .ok (.iload 5, 2) := by decide +kernel
theorem dL_law_2289 : decode cL_law 2289 = .ok (.iconst 3, 1) := by decide +kernel
theorem dL_law_2290 : decode cL_law 2290 = .ok (.iadd, 1) := by decide +kernel
theorem dL_law_2291 : decode cL_law 2291 = .ok (.iaload, 1) := by decide +kernel
theorem dL_law_2292 : decode cL_law 2292 = .ok (.invokevirtual 370, 3) := by decide +kernel
theorem dL_law_2295 : decode cL_law 2295 = .ok (.istore 7, 2) := by decide +kernel
theorem dL_law_2297 : decode cL_law 2297 = .ok (.goto 627, 3) := by decide +kernel
theorem dL_law_2300 : decode cL_law 2300 = .ok (.aload_n 1, 1) := by decide +kernel
theorem dL_law_2301 : decode cL_law 2301 = .ok (.aload_n 0, 1) := by decide +kernel
theorem dL_law_2302 : decode cL_law 2302 = .ok (.iload 5, 2) := by decide +kernel
theorem dL_law_2304 : decode cL_law 2304 = .ok (.iconst 1, 1) := by decide +kernel
theorem dL_law_2305 : decode cL_law 2305 = .ok (.iadd, 1) := by decide +kernel
theorem dL_law_2306 : decode cL_law 2306 = .ok (.iaload, 1) := by decide +kernel
theorem dL_law_2307 : decode cL_law 2307 = .ok (.aload_n 0, 1) := by decide +kernel
theorem dL_law_2308 : decode cL_law 2308 = .ok (.iload 5, 2) := by decide +kernel
theorem dL_law_2310 : decode cL_law 2310 = .ok (.iconst 2, 1) := by decide +kernel
theorem dL_law_2311 : decode cL_law 2311 = .ok (.iadd, 1) := by decide +kernel
theorem dL_law_2312 : decode cL_law 2312 = .ok (.iaload, 1) := by decide +kernel
theorem dL_law_2313 : decode cL_law 2313 = .ok (.aload_n 3, 1) := by decide +kernel
theorem dL_law_2314 : decode cL_law 2314 = .ok (.invokestatic 371, 3) := by decide +kernel
theorem dL_law_2317 : decode cL_law 2317 = .ok (.istore 6, 2) := by decide +kernel
theorem dL_law_2319 : decode cL_law 2319 = .ok (.aload_n 2, 1) := by decide +kernel
theorem dL_law_2320 : decode cL_law 2320 = .ok (.aload_n 0, 1) := by decide +kernel
theorem dL_law_2321 : decode cL_law 2321 = .ok (.iload 5, 2) := by decide +kernel
theorem dL_law_2323 : decode cL_law 2323 = .ok (.iconst 1, 1) := by decide +kernel
theorem dL_law_2324 : decode cL_law 2324 = .ok (.iadd, 1) := by decide +kernel
theorem dL_law_2325 : decode cL_law 2325 = .ok (.iaload, 1) := by decide +kernel
theorem dL_law_2326 : decode cL_law 2326 = .ok (.aload_n 0, 1) := by decide +kernel
theorem dL_law_2327 : decode cL_law 2327 = .ok (.iload 5, 2) := by decide +kernel
theorem dL_law_2329 : decode cL_law 2329 = .ok (.iconst 2, 1) := by decide +kernel
theorem dL_law_2330 : decode cL_law 2330 = .ok (.iadd, 1) := by decide +kernel
theorem dL_law_2331 : decode cL_law 2331 = .ok (.iaload, 1) := by decide +kernel
theorem dL_law_2332 : decode cL_law 2332 = .ok (.invokevirtual 373, 3) := by decide +kernel
theorem dL_law_2335 : decode cL_law 2335 = .ok (.istore 7, 2) := by decide +kernel
theorem dL_law_2337 : decode cL_law 2337 = .ok (.goto 587, 3) := by decide +kernel
theorem dL_law_2340 : decode cL_law 2340 = .ok (.aload_n 1, 1) := by decide +kernel
theorem dL_law_2341 : decode cL_law 2341 = .ok (.aload_n 0, 1) := by decide +kernel
theorem dL_law_2342 : decode cL_law 2342 = .ok (.iload 5, 2) := by decide +kernel
theorem dL_law_2344 : decode cL_law 2344 = .ok (.iconst 1, 1) := by decide +kernel
theorem dL_law_2345 : decode cL_law 2345 = .ok (.iadd, 1) := by decide +kernel
theorem dL_law_2346 : decode cL_law 2346 = .ok (.iaload, 1) := by decide +kernel
theorem dL_law_2347 : decode cL_law 2347 = .ok (.aload_n 3, 1) := by decide +kernel
theorem dL_law_2348 : decode cL_law 2348 = .ok (.invokestatic 374, 3) := by decide +kernel
theorem dL_law_2351 : decode cL_law 2351 = .ok (.istore 6, 2) := by decide +kernel
theorem dL_law_2353 : decode cL_law 2353 = .ok (.aload_n 2, 1) := by decide +kernel
theorem dL_law_2354 : decode cL_law 2354 = .ok (.aload_n 0, 1) := by decide +kernel
theorem dL_law_2355 : decode cL_law 2355 = .ok (.iload 5, 2) := by decide +kernel
theorem dL_law_2357 : decode cL_law 2357 = .ok (.iconst 1, 1) := by decide +kernel
theorem dL_law_2358 : decode cL_law 2358 = .ok (.iadd, 1) := by decide +kernel
theorem dL_law_2359 : decode cL_law 2359 = .ok (.iaload, 1) := by decide +kernel
theorem dL_law_2360 : decode cL_law 2360 = .ok (.invokevirtual 376, 3) := by decide +kernel
theorem dL_law_2363 : decode cL_law 2363 = .ok (.istore 7, 2) := by decide +kernel
theorem dL_law_2365 : decode cL_law 2365 = .ok (.goto 559, 3) := by decide +kernel
theorem dL_law_2368 : decode cL_law 2368 = .ok (.aload_n 1, 1) := by decide +kernel
theorem dL_law_2369 : decode cL_law 2369 = .ok (.aload_n 0, 1) := by decide +kernel
theorem dL_law_2370 : decode cL_law 2370 = .ok (.iload 5, 2) := by decide +kernel
theorem dL_law_2372 : decode cL_law 2372 = .ok (.iconst 1, 1) := by decide +kernel
theorem dL_law_2373 : decode cL_law 2373 = .ok (.iadd, 1) := by decide +kernel
theorem dL_law_2374 : decode cL_law 2374 = .ok (.iaload, 1) := by decide +kernel
theorem dL_law_2375 : decode cL_law 2375 = .ok (.aload_n 0, 1) := by decide +kernel
theorem dL_law_2376 : decode cL_law 2376 = .ok (.iload 5, 2) := by decide +kernel
theorem dL_law_2378 : decode cL_law 2378 = .ok (.iconst 2, 1) := by decide +kernel
theorem dL_law_2379 : decode cL_law 2379 = .ok (.iadd, 1) := by decide +kernel
theorem dL_law_2380 : decode cL_law 2380 = .ok (.iaload, 1) := by decide +kernel
theorem dL_law_2381 : decode cL_law 2381 = .ok (.aload_n 3, 1) := by decide +kernel
theorem dL_law_2382 : decode cL_law 2382 = .ok (.invokestatic 377, 3) := by decide +kernel
theorem dL_law_2385 : decode cL_law 2385 = .ok (.istore 6, 2) := by decide +kernel
theorem dL_law_2387 : decode cL_law 2387 = .ok (.aload_n 2, 1) := by decide +kernel
theorem dL_law_2388 : decode cL_law 2388 = .ok (.aload_n 0, 1) := by decide +kernel
theorem dL_law_2389 : decode cL_law 2389 = .ok (.iload 5, 2) := by decide +kernel
theorem dL_law_2391 : decode cL_law 2391 = .ok (.iconst 1, 1) := by decide +kernel
theorem dL_law_2392 : decode cL_law 2392 = .ok (.iadd, 1) := by decide +kernel
theorem dL_law_2393 : decode cL_law 2393 = .ok (.iaload, 1) := by decide +kernel
theorem dL_law_2394 : decode cL_law 2394 = .ok (.aload_n 0, 1) := by decide +kernel
theorem dL_law_2395 : decode cL_law 2395 = .ok (.iload 5, 2) := by decide +kernel
theorem dL_law_2397 : decode cL_law 2397 = .ok (.iconst 2, 1) := by decide +kernel
theorem dL_law_2398 : decode cL_law 2398 = .ok (.iadd, 1) := by decide +kernel
theorem dL_law_2399 : decode cL_law 2399 = .ok (.iaload, 1) := by decide +kernel
theorem dL_law_2400 : decode cL_law 2400 = .ok (.invokevirtual 379, 3) := by decide +kernel
theorem dL_law_2403 : decode cL_law 2403 = .ok (.lstore 7, 2) := by decide +kernel
theorem dL_law_2405 : decode cL_law 2405 = .ok (.goto 519, 3) := by decide +kernel
theorem dL_law_2408 : decode cL_law 2408 = .ok (.aload_n 1, 1) := by decide +kernel
theorem dL_law_2409 : decode cL_law 2409 = .ok (.aload_n 0, 1) := by decide +kernel
theorem dL_law_2410 : decode cL_law 2410 = .ok (.iload 5, 2) := by decide +kernel
theorem dL_law_2412 : decode cL_law 2412 = .ok (.iconst 1, 1) := by decide +kernel
theorem dL_law_2413 : decode cL_law 2413 = .ok (.iadd, 1) := by decide +kernel
theorem dL_law_2414 : decode cL_law 2414 = .ok (.iaload, 1) := by decide +kernel
theorem dL_law_2415 : decode cL_law 2415 = .ok (.aload_n 0, 1) := by decide +kernel
theorem dL_law_2416 : decode cL_law 2416 = .ok (.iload 5, 2) := by decide +kernel
theorem dL_law_2418 : decode cL_law 2418 = .ok (.iconst 2, 1) := by decide +kernel
theorem dL_law_2419 : decode cL_law 2419 = .ok (.iadd, 1) := by decide +kernel
theorem dL_law_2420 : decode cL_law 2420 = .ok (.iaload, 1) := by decide +kernel
theorem dL_law_2421 : decode cL_law 2421 = .ok (.aload_n 0, 1) := by decide +kernel
theorem dL_law_2422 : decode cL_law 2422 = .ok (.iload 5, 2) := by decide +kernel
theorem dL_law_2424 : decode cL_law 2424 = .ok (.iconst 3, 1) := by decide +kernel
theorem dL_law_2425 : decode cL_law 2425 = .ok (.iadd, 1) := by decide +kernel
theorem dL_law_2426 : decode cL_law 2426 = .ok (.iaload, 1) := by decide +kernel
theorem dL_law_2427 : decode cL_law 2427 = .ok (.aload_n 0, 1) := by decide +kernel
theorem dL_law_2428 : decode cL_law 2428 = .ok (.iload 5, 2) := by decide +kernel
theorem dL_law_2430 : decode cL_law 2430 = .ok (.iconst 4, 1) := by decide +kernel
theorem dL_law_2431 : decode cL_law 2431 = .ok (.iadd, 1) := by decide +kernel
theorem dL_law_2432 : decode cL_law 2432 = .ok (.iaload, 1) := by decide +kernel
theorem dL_law_2433 : decode cL_law 2433 = .ok (.aload_n 3, 1) := by decide +kernel
theorem dL_law_2434 : decode cL_law 2434 = .ok (.invokestatic 380, 3) := by decide +kernel
theorem dL_law_2437 : decode cL_law 2437 = .ok (.istore 6, 2) := by decide +kernel
theorem dL_law_2439 : decode cL_law 2439 = .ok (.aload_n 2, 1) := by decide +kernel
theorem dL_law_2440 : decode cL_law 2440 = .ok (.aload_n 0, 1) := by decide +kernel
theorem dL_law_2441 : decode cL_law 2441 = .ok (.iload 5, 2) := by decide +kernel
theorem dL_law_2443 : decode cL_law 2443 = .ok (.iconst 1, 1) := by decide +kernel
theorem dL_law_2444 : decode cL_law 2444 = .ok (.iadd, 1) := by decide +kernel
theorem dL_law_2445 : decode cL_law 2445 = .ok (.iaload, 1) := by decide +kernel
theorem dL_law_2446 : decode cL_law 2446 = .ok (.aload_n 0, 1) := by decide +kernel
theorem dL_law_2447 : decode cL_law 2447 = .ok (.iload 5, 2) := by decide +kernel
theorem dL_law_2449 : decode cL_law 2449 = .ok (.iconst 2, 1) := by decide +kernel
theorem dL_law_2450 : decode cL_law 2450 = .ok (.iadd, 1) := by decide +kernel
theorem dL_law_2451 : decode cL_law 2451 = .ok (.iaload, 1) := by decide +kernel
theorem dL_law_2452 : decode cL_law 2452 = .ok (.aload_n 0, 1) := by decide +kernel
theorem dL_law_2453 : decode cL_law 2453 = .ok (.iload 5, 2) := by decide +kernel
theorem dL_law_2455 : decode cL_law 2455 = .ok (.iconst 3, 1) := by decide +kernel
theorem dL_law_2456 : decode cL_law 2456 = .ok (.iadd, 1) := by decide +kernel
theorem dL_law_2457 : decode cL_law 2457 = .ok (.iaload, 1) := by decide +kernel
theorem dL_law_2458 : decode cL_law 2458 = .ok (.aload_n 0, 1) := by decide +kernel
theorem dL_law_2459 : decode cL_law 2459 = .ok (.iload 5, 2) := by decide +kernel
theorem dL_law_2461 : decode cL_law 2461 = .ok (.iconst 4, 1) := by decide +kernel
theorem dL_law_2462 : decode cL_law 2462 = .ok (.iadd, 1) := by decide +kernel
theorem dL_law_2463 : decode cL_law 2463 = .ok (.iaload, 1) := by decide +kernel
theorem dL_law_2464 : decode cL_law 2464 = .ok (.invokevirtual 382, 3) := by decide +kernel
theorem dL_law_2467 : decode cL_law 2467 = .ok (.istore 7, 2) := by decide +kernel
theorem dL_law_2469 : decode cL_law 2469 = .ok (.goto 455, 3) := by decide +kernel
theorem dL_law_2472 : decode cL_law 2472 = .ok (.aload_n 1, 1) := by decide +kernel
theorem dL_law_2473 : decode cL_law 2473 = .ok (.aload_n 0, 1) := by decide +kernel
theorem dL_law_2474 : decode cL_law 2474 = .ok (.iload 5, 2) := by decide +kernel
theorem dL_law_2476 : decode cL_law 2476 = .ok (.iconst 1, 1) := by decide +kernel
theorem dL_law_2477 : decode cL_law 2477 = .ok (.iadd, 1) := by decide +kernel
theorem dL_law_2478 : decode cL_law 2478 = .ok (.iaload, 1) := by decide +kernel
theorem dL_law_2479 : decode cL_law 2479 = .ok (.aload_n 3, 1) := by decide +kernel
theorem dL_law_2480 : decode cL_law 2480 = .ok (.invokestatic 383, 3) := by decide +kernel
theorem dL_law_2483 : decode cL_law 2483 = .ok (.istore 6, 2) := by decide +kernel
theorem dL_law_2485 : decode cL_law 2485 = .ok (.aload_n 2, 1) := by decide +kernel
theorem dL_law_2486 : decode cL_law 2486 = .ok (.aload_n 0, 1) := by decide +kernel
theorem dL_law_2487 : decode cL_law 2487 = .ok (.iload 5, 2) := by decide +kernel
theorem dL_law_2489 : decode cL_law 2489 = .ok (.iconst 1, 1) := by decide +kernel
theorem dL_law_2490 : decode cL_law 2490 = .ok (.iadd, 1) := by decide +kernel
theorem dL_law_2491 : decode cL_law 2491 = .ok (.iaload, 1) := by decide +kernel
theorem dL_law_2492 : decode cL_law 2492 = .ok (.invokevirtual 385, 3) := by decide +kernel
theorem dL_law_2495 : decode cL_law 2495 = .ok (.lstore 7, 2) := by decide +kernel
theorem dL_law_2497 : decode cL_law 2497 = .ok (.goto 427, 3) := by decide +kernel
theorem dL_law_2500 : decode cL_law 2500 = .ok (.aload_n 1, 1) := by decide +kernel
theorem dL_law_2501 : decode cL_law 2501 = .ok (.aload_n 0, 1) := by decide +kernel
theorem dL_law_2502 : decode cL_law 2502 = .ok (.iload 5, 2) := by decide +kernel
theorem dL_law_2504 : decode cL_law 2504 = .ok (.iconst 1, 1) := by decide +kernel
theorem dL_law_2505 : decode cL_law 2505 = .ok (.iadd, 1) := by decide +kernel
theorem dL_law_2506 : decode cL_law 2506 = .ok (.iaload, 1) := by decide +kernel
theorem dL_law_2507 : decode cL_law 2507 = .ok (.aload_n 0, 1) := by decide +kernel
theorem dL_law_2508 : decode cL_law 2508 = .ok (.iload 5, 2) := by decide +kernel
theorem dL_law_2510 : decode cL_law 2510 = .ok (.iconst 2, 1) := by decide +kernel
theorem dL_law_2511 : decode cL_law 2511 = .ok (.iadd, 1) := by decide +kernel
theorem dL_law_2512 : decode cL_law 2512 = .ok (.iaload, 1) := by decide +kernel
theorem dL_law_2513 : decode cL_law 2513 = .ok (.aload_n 0, 1) := by decide +kernel
theorem dL_law_2514 : decode cL_law 2514 = .ok (.iload 5, 2) := by decide +kernel
theorem dL_law_2516 : decode cL_law 2516 = .ok (.iconst 3, 1) := by decide +kernel
theorem dL_law_2517 : decode cL_law 2517 = .ok (.iadd, 1) := by decide +kernel
theorem dL_law_2518 : decode cL_law 2518 = .ok (.iaload, 1) := by decide +kernel
theorem dL_law_2519 : decode cL_law 2519 = .ok (.aload_n 3, 1) := by decide +kernel
theorem dL_law_2520 : decode cL_law 2520 = .ok (.invokestatic 386, 3) := by decide +kernel
theorem dL_law_2523 : decode cL_law 2523 = .ok (.istore 6, 2) := by decide +kernel
theorem dL_law_2525 : decode cL_law 2525 = .ok (.aload_n 2, 1) := by decide +kernel
theorem dL_law_2526 : decode cL_law 2526 = .ok (.aload_n 0, 1) := by decide +kernel
theorem dL_law_2527 : decode cL_law 2527 = .ok (.iload 5, 2) := by decide +kernel
theorem dL_law_2529 : decode cL_law 2529 = .ok (.iconst 1, 1) := by decide +kernel
theorem dL_law_2530 : decode cL_law 2530 = .ok (.iadd, 1) := by decide +kernel
theorem dL_law_2531 : decode cL_law 2531 = .ok (.iaload, 1) := by decide +kernel
theorem dL_law_2532 : decode cL_law 2532 = .ok (.aload_n 0, 1) := by decide +kernel
theorem dL_law_2533 : decode cL_law 2533 = .ok (.iload 5, 2) := by decide +kernel
theorem dL_law_2535 : decode cL_law 2535 = .ok (.iconst 2, 1) := by decide +kernel
theorem dL_law_2536 : decode cL_law 2536 = .ok (.iadd, 1) := by decide +kernel
theorem dL_law_2537 : decode cL_law 2537 = .ok (.iaload, 1) := by decide +kernel
theorem dL_law_2538 : decode cL_law 2538 = .ok (.aload_n 0, 1) := by decide +kernel
theorem dL_law_2539 : decode cL_law 2539 = .ok (.iload 5, 2) := by decide +kernel
theorem dL_law_2541 : decode cL_law 2541 = .ok (.iconst 3, 1) := by decide +kernel
theorem dL_law_2542 : decode cL_law 2542 = .ok (.iadd, 1) := by decide +kernel
theorem dL_law_2543 : decode cL_law 2543 = .ok (.iaload, 1) := by decide +kernel
theorem dL_law_2544 : decode cL_law 2544 = .ok (.invokevirtual 388, 3) := by decide +kernel
theorem dL_law_2547 : decode cL_law 2547 = .ok (.istore 7, 2) := by decide +kernel
theorem dL_law_2549 : decode cL_law 2549 = .ok (.goto 375, 3) := by decide +kernel
theorem dL_law_2552 : decode cL_law 2552 = .ok (.aload_n 1, 1) := by decide +kernel
theorem dL_law_2553 : decode cL_law 2553 = .ok (.aload_n 0, 1) := by decide +kernel
theorem dL_law_2554 : decode cL_law 2554 = .ok (.iload 5, 2) := by decide +kernel
theorem dL_law_2556 : decode cL_law 2556 = .ok (.iconst 1, 1) := by decide +kernel
theorem dL_law_2557 : decode cL_law 2557 = .ok (.iadd, 1) := by decide +kernel
theorem dL_law_2558 : decode cL_law 2558 = .ok (.iaload, 1) := by decide +kernel
theorem dL_law_2559 : decode cL_law 2559 = .ok (.aload_n 3, 1) := by decide +kernel
theorem dL_law_2560 : decode cL_law 2560 = .ok (.invokestatic 389, 3) := by decide +kernel
theorem dL_law_2563 : decode cL_law 2563 = .ok (.istore 6, 2) := by decide +kernel
theorem dL_law_2565 : decode cL_law 2565 = .ok (.aload_n 2, 1) := by decide +kernel
theorem dL_law_2566 : decode cL_law 2566 = .ok (.aload_n 0, 1) := by decide +kernel
theorem dL_law_2567 : decode cL_law 2567 = .ok (.iload 5, 2) := by decide +kernel
theorem dL_law_2569 : decode cL_law 2569 = .ok (.iconst 1, 1) := by decide +kernel
theorem dL_law_2570 : decode cL_law 2570 = .ok (.iadd, 1) := by decide +kernel
theorem dL_law_2571 : decode cL_law 2571 = .ok (.iaload, 1) := by decide +kernel
theorem dL_law_2572 : decode cL_law 2572 = .ok (.invokevirtual 391, 3) := by decide +kernel
theorem dL_law_2575 : decode cL_law 2575 = .ok (.istore 7, 2) := by decide +kernel
theorem dL_law_2577 : decode cL_law 2577 = .ok (.goto 347, 3) := by decide +kernel
theorem dL_law_2580 : decode cL_law 2580 = .ok (.aload_n 1, 1) := by decide +kernel
theorem dL_law_2581 : decode cL_law 2581 = .ok (.aload_n 0, 1) := by decide +kernel
theorem dL_law_2582 : decode cL_law 2582 = .ok (.iload 5, 2) := by decide +kernel
theorem dL_law_2584 : decode cL_law 2584 = .ok (.iconst 1, 1) := by decide +kernel
theorem dL_law_2585 : decode cL_law 2585 = .ok (.iadd, 1) := by decide +kernel
theorem dL_law_2586 : decode cL_law 2586 = .ok (.iaload, 1) := by decide +kernel
theorem dL_law_2587 : decode cL_law 2587 = .ok (.aload_n 3, 1) := by decide +kernel
theorem dL_law_2588 : decode cL_law 2588 = .ok (.invokestatic 392, 3) := by decide +kernel
theorem dL_law_2591 : decode cL_law 2591 = .ok (.istore 6, 2) := by decide +kernel
theorem dL_law_2593 : decode cL_law 2593 = .ok (.aload_n 2, 1) := by decide +kernel
theorem dL_law_2594 : decode cL_law 2594 = .ok (.aload_n 0, 1) := by decide +kernel
theorem dL_law_2595 : decode cL_law 2595 = .ok (.iload 5, 2) := by decide +kernel
theorem dL_law_2597 : decode cL_law 2597 = .ok (.iconst 1, 1) := by decide +kernel
theorem dL_law_2598 : decode cL_law 2598 = .ok (.iadd, 1) := by decide +kernel
theorem dL_law_2599 : decode cL_law 2599 = .ok (.iaload, 1) := by decide +kernel
theorem dL_law_2600 : decode cL_law 2600 = .ok (.invokevirtual 394, 3) := by decide +kernel
theorem dL_law_2603 : decode cL_law 2603 = .ok (.istore 7, 2) := by decide +kernel
theorem dL_law_2605 : decode cL_law 2605 = .ok (.goto 319, 3) := by decide +kernel
theorem dL_law_2608 : decode cL_law 2608 = .ok (.aload_n 1, 1) := by decide +kernel
theorem dL_law_2609 : decode cL_law 2609 = .ok (.aload_n 0, 1) := by decide +kernel
theorem dL_law_2610 : decode cL_law 2610 = .ok (.iload 5, 2) := by decide +kernel
theorem dL_law_2612 : decode cL_law 2612 = .ok (.iconst 1, 1) := by decide +kernel
theorem dL_law_2613 : decode cL_law 2613 = .ok (.iadd, 1) := by decide +kernel
theorem dL_law_2614 : decode cL_law 2614 = .ok (.iaload, 1) := by decide +kernel
theorem dL_law_2615 : decode cL_law 2615 = .ok (.i2c, 1) := by decide +kernel
theorem dL_law_2616 : decode cL_law 2616 = .ok (.aload_n 0, 1) := by decide +kernel
theorem dL_law_2617 : decode cL_law 2617 = .ok (.iload 5, 2) := by decide +kernel
theorem dL_law_2619 : decode cL_law 2619 = .ok (.iconst 2, 1) := by decide +kernel
theorem dL_law_2620 : decode cL_law 2620 = .ok (.iadd, 1) := by decide +kernel
theorem dL_law_2621 : decode cL_law 2621 = .ok (.iaload, 1) := by decide +kernel
theorem dL_law_2622 : decode cL_law 2622 = .ok (.aload_n 3, 1) := by decide +kernel
theorem dL_law_2623 : decode cL_law 2623 = .ok (.invokestatic 395, 3) := by decide +kernel
theorem dL_law_2626 : decode cL_law 2626 = .ok (.istore 6, 2) := by decide +kernel
theorem dL_law_2628 : decode cL_law 2628 = .ok (.aload_n 2, 1) := by decide +kernel
theorem dL_law_2629 : decode cL_law 2629 = .ok (.aload_n 0, 1) := by decide +kernel
theorem dL_law_2630 : decode cL_law 2630 = .ok (.iload 5, 2) := by decide +kernel
theorem dL_law_2632 : decode cL_law 2632 = .ok (.iconst 1, 1) := by decide +kernel
theorem dL_law_2633 : decode cL_law 2633 = .ok (.iadd, 1) := by decide +kernel
theorem dL_law_2634 : decode cL_law 2634 = .ok (.iaload, 1) := by decide +kernel
theorem dL_law_2635 : decode cL_law 2635 = .ok (.i2c, 1) := by decide +kernel
theorem dL_law_2636 : decode cL_law 2636 = .ok (.aload_n 0, 1) := by decide +kernel
theorem dL_law_2637 : decode cL_law 2637 = .ok (.iload 5, 2) := by decide +kernel
theorem dL_law_2639 : decode cL_law 2639 = .ok (.iconst 2, 1) := by decide +kernel
theorem dL_law_2640 : decode cL_law 2640 = .ok (.iadd, 1) := by decide +kernel
theorem dL_law_2641 : decode cL_law 2641 = .ok (.iaload, 1) := by decide +kernel
theorem dL_law_2642 : decode cL_law 2642 = .ok (.invokevirtual 398, 3) := by decide +kernel
theorem dL_law_2645 : decode cL_law 2645 = .ok (.istore 7, 2) := by decide +kernel
theorem dL_law_2647 : decode cL_law 2647 = .ok (.goto 277, 3) := by decide +kernel
theorem dL_law_2650 : decode cL_law 2650 = .ok (.aload_n 1, 1) := by decide +kernel
theorem dL_law_2651 : decode cL_law 2651 = .ok (.aload_n 0, 1) := by decide +kernel
theorem dL_law_2652 : decode cL_law 2652 = .ok (.iload 5, 2) := by decide +kernel
theorem dL_law_2654 : decode cL_law 2654 = .ok (.iconst 1, 1) := by decide +kernel
theorem dL_law_2655 : decode cL_law 2655 = .ok (.iadd, 1) := by decide +kernel
theorem dL_law_2656 : decode cL_law 2656 = .ok (.iaload, 1) := by decide +kernel
theorem dL_law_2657 : decode cL_law 2657 = .ok (.aload_n 0, 1) := by decide +kernel
theorem dL_law_2658 : decode cL_law 2658 = .ok (.iload 5, 2) := by decide +kernel
theorem dL_law_2660 : decode cL_law 2660 = .ok (.iconst 2, 1) := by decide +kernel
theorem dL_law_2661 : decode cL_law 2661 = .ok (.iadd, 1) := by decide +kernel
theorem dL_law_2662 : decode cL_law 2662 = .ok (.iaload, 1) := by decide +kernel
theorem dL_law_2663 : decode cL_law 2663 = .ok (.aload_n 3, 1) := by decide +kernel
theorem dL_law_2664 : decode cL_law 2664 = .ok (.invokestatic 399, 3) := by decide +kernel
theorem dL_law_2667 : decode cL_law 2667 = .ok (.istore 6, 2) := by decide +kernel
theorem dL_law_2669 : decode cL_law 2669 = .ok (.aload_n 2, 1) := by decide +kernel
theorem dL_law_2670 : decode cL_law 2670 = .ok (.aload_n 0, 1) := by decide +kernel
theorem dL_law_2671 : decode cL_law 2671 = .ok (.iload 5, 2) := by decide +kernel
theorem dL_law_2673 : decode cL_law 2673 = .ok (.iconst 1, 1) := by decide +kernel
theorem dL_law_2674 : decode cL_law 2674 = .ok (.iadd, 1) := by decide +kernel
theorem dL_law_2675 : decode cL_law 2675 = .ok (.iaload, 1) := by decide +kernel
theorem dL_law_2676 : decode cL_law 2676 = .ok (.aload_n 0, 1) := by decide +kernel
theorem dL_law_2677 : decode cL_law 2677 = .ok (.iload 5, 2) := by decide +kernel
theorem dL_law_2679 : decode cL_law 2679 = .ok (.iconst 2, 1) := by decide +kernel
theorem dL_law_2680 : decode cL_law 2680 = .ok (.iadd, 1) := by decide +kernel
theorem dL_law_2681 : decode cL_law 2681 = .ok (.iaload, 1) := by decide +kernel
theorem dL_law_2682 : decode cL_law 2682 = .ok (.invokevirtual 401, 3) := by decide +kernel
theorem dL_law_2685 : decode cL_law 2685 = .ok (.istore 7, 2) := by decide +kernel
theorem dL_law_2687 : decode cL_law 2687 = .ok (.goto 237, 3) := by decide +kernel
theorem dL_law_2690 : decode cL_law 2690 = .ok (.aload_n 1, 1) := by decide +kernel
theorem dL_law_2691 : decode cL_law 2691 = .ok (.aload_n 0, 1) := by decide +kernel
theorem dL_law_2692 : decode cL_law 2692 = .ok (.iload 5, 2) := by decide +kernel
theorem dL_law_2694 : decode cL_law 2694 = .ok (.iconst 1, 1) := by decide +kernel
theorem dL_law_2695 : decode cL_law 2695 = .ok (.iadd, 1) := by decide +kernel
theorem dL_law_2696 : decode cL_law 2696 = .ok (.iaload, 1) := by decide +kernel
theorem dL_law_2697 : decode cL_law 2697 = .ok (.aload_n 0, 1) := by decide +kernel
theorem dL_law_2698 : decode cL_law 2698 = .ok (.iload 5, 2) := by decide +kernel
theorem dL_law_2700 : decode cL_law 2700 = .ok (.iconst 2, 1) := by decide +kernel
theorem dL_law_2701 : decode cL_law 2701 = .ok (.iadd, 1) := by decide +kernel
theorem dL_law_2702 : decode cL_law 2702 = .ok (.iaload, 1) := by decide +kernel
theorem dL_law_2703 : decode cL_law 2703 = .ok (.i2c, 1) := by decide +kernel
theorem dL_law_2704 : decode cL_law 2704 = .ok (.aload_n 3, 1) := by decide +kernel
theorem dL_law_2705 : decode cL_law 2705 = .ok (.invokestatic 402, 3) := by decide +kernel
theorem dL_law_2708 : decode cL_law 2708 = .ok (.istore 6, 2) := by decide +kernel
theorem dL_law_2710 : decode cL_law 2710 = .ok (.aload_n 2, 1) := by decide +kernel
theorem dL_law_2711 : decode cL_law 2711 = .ok (.aload_n 0, 1) := by decide +kernel
theorem dL_law_2712 : decode cL_law 2712 = .ok (.iload 5, 2) := by decide +kernel
theorem dL_law_2714 : decode cL_law 2714 = .ok (.iconst 1, 1) := by decide +kernel
theorem dL_law_2715 : decode cL_law 2715 = .ok (.iadd, 1) := by decide +kernel
theorem dL_law_2716 : decode cL_law 2716 = .ok (.iaload, 1) := by decide +kernel
theorem dL_law_2717 : decode cL_law 2717 = .ok (.aload_n 0, 1) := by decide +kernel
theorem dL_law_2718 : decode cL_law 2718 = .ok (.iload 5, 2) := by decide +kernel
theorem dL_law_2720 : decode cL_law 2720 = .ok (.iconst 2, 1) := by decide +kernel
theorem dL_law_2721 : decode cL_law 2721 = .ok (.iadd, 1) := by decide +kernel
theorem dL_law_2722 : decode cL_law 2722 = .ok (.iaload, 1) := by decide +kernel
theorem dL_law_2723 : decode cL_law 2723 = .ok (.i2c, 1) := by decide +kernel
theorem dL_law_2724 : decode cL_law 2724 = .ok (.invokevirtual 405, 3) := by decide +kernel
theorem dL_law_2727 : decode cL_law 2727 = .ok (.istore 7, 2) := by decide +kernel
theorem dL_law_2729 : decode cL_law 2729 = .ok (.goto 195, 3) := by decide +kernel
theorem dL_law_2732 : decode cL_law 2732 = .ok (.aload_n 1, 1) := by decide +kernel
theorem dL_law_2733 : decode cL_law 2733 = .ok (.aload_n 0, 1) := by decide +kernel
theorem dL_law_2734 : decode cL_law 2734 = .ok (.iload 5, 2) := by decide +kernel
theorem dL_law_2736 : decode cL_law 2736 = .ok (.iconst 1, 1) := by decide +kernel
theorem dL_law_2737 : decode cL_law 2737 = .ok (.iadd, 1) := by decide +kernel
theorem dL_law_2738 : decode cL_law 2738 = .ok (.iaload, 1) := by decide +kernel
theorem dL_law_2739 : decode cL_law 2739 = .ok (.aload_n 3, 1) := by decide +kernel
theorem dL_law_2740 : decode cL_law 2740 = .ok (.invokestatic 406, 3) := by decide +kernel
theorem dL_law_2743 : decode cL_law 2743 = .ok (.istore 6, 2) := by decide +kernel
theorem dL_law_2745 : decode cL_law 2745 = .ok (.aload_n 2, 1) := by decide +kernel
theorem dL_law_2746 : decode cL_law 2746 = .ok (.aload_n 0, 1) := by decide +kernel
theorem dL_law_2747 : decode cL_law 2747 = .ok (.iload 5, 2) := by decide +kernel
theorem dL_law_2749 : decode cL_law 2749 = .ok (.iconst 1, 1) := by decide +kernel
theorem dL_law_2750 : decode cL_law 2750 = .ok (.iadd, 1) := by decide +kernel
theorem dL_law_2751 : decode cL_law 2751 = .ok (.iaload, 1) := by decide +kernel
theorem dL_law_2752 : decode cL_law 2752 = .ok (.invokevirtual 408, 3) := by decide +kernel
theorem dL_law_2755 : decode cL_law 2755 = .ok (.istore 7, 2) := by decide +kernel
theorem dL_law_2757 : decode cL_law 2757 = .ok (.goto 167, 3) := by decide +kernel
theorem dL_law_2760 : decode cL_law 2760 = .ok (.aload_n 1, 1) := by decide +kernel
theorem dL_law_2761 : decode cL_law 2761 = .ok (.aload_n 0, 1) := by decide +kernel
theorem dL_law_2762 : decode cL_law 2762 = .ok (.iload 5, 2) := by decide +kernel
theorem dL_law_2764 : decode cL_law 2764 = .ok (.iconst 1, 1) := by decide +kernel
theorem dL_law_2765 : decode cL_law 2765 = .ok (.iadd, 1) := by decide +kernel
theorem dL_law_2766 : decode cL_law 2766 = .ok (.iaload, 1) := by decide +kernel
theorem dL_law_2767 : decode cL_law 2767 = .ok (.aload_n 0, 1) := by decide +kernel
theorem dL_law_2768 : decode cL_law 2768 = .ok (.iload 5, 2) := by decide +kernel
theorem dL_law_2770 : decode cL_law 2770 = .ok (.iconst 2, 1) := by decide +kernel
theorem dL_law_2771 : decode cL_law 2771 = .ok (.iadd, 1) := by decide +kernel
theorem dL_law_2772 : decode cL_law 2772 = .ok (.iaload, 1) := by decide +kernel
theorem dL_law_2773 : decode cL_law 2773 = .ok (.aload_n 0, 1) := by decide +kernel
theorem dL_law_2774 : decode cL_law 2774 = .ok (.iload 5, 2) := by decide +kernel
theorem dL_law_2776 : decode cL_law 2776 = .ok (.iconst 3, 1) := by decide +kernel
theorem dL_law_2777 : decode cL_law 2777 = .ok (.iadd, 1) := by decide +kernel
theorem dL_law_2778 : decode cL_law 2778 = .ok (.iaload, 1) := by decide +kernel
theorem dL_law_2779 : decode cL_law 2779 = .ok (.aload_n 3, 1) := by decide +kernel
theorem dL_law_2780 : decode cL_law 2780 = .ok (.invokestatic 409, 3) := by decide +kernel
theorem dL_law_2783 : decode cL_law 2783 = .ok (.istore 6, 2) := by decide +kernel
theorem dL_law_2785 : decode cL_law 2785 = .ok (.aload_n 2, 1) := by decide +kernel
theorem dL_law_2786 : decode cL_law 2786 = .ok (.aload_n 0, 1) := by decide +kernel
theorem dL_law_2787 : decode cL_law 2787 = .ok (.iload 5, 2) := by decide +kernel
theorem dL_law_2789 : decode cL_law 2789 = .ok (.iconst 1, 1) := by decide +kernel
theorem dL_law_2790 : decode cL_law 2790 = .ok (.iadd, 1) := by decide +kernel
theorem dL_law_2791 : decode cL_law 2791 = .ok (.iaload, 1) := by decide +kernel
theorem dL_law_2792 : decode cL_law 2792 = .ok (.aload_n 0, 1) := by decide +kernel
theorem dL_law_2793 : decode cL_law 2793 = .ok (.iload 5, 2) := by decide +kernel
theorem dL_law_2795 : decode cL_law 2795 = .ok (.iconst 2, 1) := by decide +kernel
theorem dL_law_2796 : decode cL_law 2796 = .ok (.iadd, 1) := by decide +kernel
theorem dL_law_2797 : decode cL_law 2797 = .ok (.iaload, 1) := by decide +kernel
theorem dL_law_2798 : decode cL_law 2798 = .ok (.aload_n 0, 1) := by decide +kernel
theorem dL_law_2799 : decode cL_law 2799 = .ok (.iload 5, 2) := by decide +kernel
theorem dL_law_2801 : decode cL_law 2801 = .ok (.iconst 3, 1) := by decide +kernel
theorem dL_law_2802 : decode cL_law 2802 = .ok (.iadd, 1) := by decide +kernel
theorem dL_law_2803 : decode cL_law 2803 = .ok (.iaload, 1) := by decide +kernel
theorem dL_law_2804 : decode cL_law 2804 = .ok (.invokevirtual 411, 3) := by decide +kernel
theorem dL_law_2807 : decode cL_law 2807 = .ok (.istore 7, 2) := by decide +kernel
theorem dL_law_2809 : decode cL_law 2809 = .ok (.goto 115, 3) := by decide +kernel
theorem dL_law_2812 : decode cL_law 2812 = .ok (.aload_n 1, 1) := by decide +kernel
theorem dL_law_2813 : decode cL_law 2813 = .ok (.aload_n 0, 1) := by decide +kernel
theorem dL_law_2814 : decode cL_law 2814 = .ok (.iload 5, 2) := by decide +kernel
theorem dL_law_2816 : decode cL_law 2816 = .ok (.iconst 1, 1) := by decide +kernel
theorem dL_law_2817 : decode cL_law 2817 = .ok (.iadd, 1) := by decide +kernel
theorem dL_law_2818 : decode cL_law 2818 = .ok (.iaload, 1) := by decide +kernel
theorem dL_law_2819 : decode cL_law 2819 = .ok (.aload_n 0, 1) := by decide +kernel
theorem dL_law_2820 : decode cL_law 2820 = .ok (.iload 5, 2) := by decide +kernel
theorem dL_law_2822 : decode cL_law 2822 = .ok (.iconst 2, 1) := by decide +kernel
theorem dL_law_2823 : decode cL_law 2823 = .ok (.iadd, 1) := by decide +kernel
theorem dL_law_2824 : decode cL_law 2824 = .ok (.iaload, 1) := by decide +kernel
theorem dL_law_2825 : decode cL_law 2825 = .ok (.aload_n 0, 1) := by decide +kernel
theorem dL_law_2826 : decode cL_law 2826 = .ok (.iload 5, 2) := by decide +kernel
theorem dL_law_2828 : decode cL_law 2828 = .ok (.iconst 3, 1) := by decide +kernel
theorem dL_law_2829 : decode cL_law 2829 = .ok (.iadd, 1) := by decide +kernel
theorem dL_law_2830 : decode cL_law 2830 = .ok (.iaload, 1) := by decide +kernel
theorem dL_law_2831 : decode cL_law 2831 = .ok (.aload_n 3, 1) := by decide +kernel
theorem dL_law_2832 : decode cL_law 2832 = .ok (.invokestatic 412, 3) := by decide +kernel
theorem dL_law_2835 : decode cL_law 2835 = .ok (.istore 6, 2) := by decide +kernel
theorem dL_law_2837 : decode cL_law 2837 = .ok (.aload_n 2, 1) := by decide +kernel
theorem dL_law_2838 : decode cL_law 2838 = .ok (.aload_n 0, 1) := by decide +kernel
theorem dL_law_2839 : decode cL_law 2839 = .ok (.iload 5, 2) := by decide +kernel
theorem dL_law_2841 : decode cL_law 2841 = .ok (.iconst 1, 1) := by decide +kernel
theorem dL_law_2842 : decode cL_law 2842 = .ok (.iadd, 1) := by decide +kernel
theorem dL_law_2843 : decode cL_law 2843 = .ok (.iaload, 1) := by decide +kernel
theorem dL_law_2844 : decode cL_law 2844 = .ok (.aload_n 0, 1) := by decide +kernel
theorem dL_law_2845 : decode cL_law 2845 = .ok (.iload 5, 2) := by decide +kernel
theorem dL_law_2847 : decode cL_law 2847 = .ok (.iconst 2, 1) := by decide +kernel
theorem dL_law_2848 : decode cL_law 2848 = .ok (.iadd, 1) := by decide +kernel
theorem dL_law_2849 : decode cL_law 2849 = .ok (.iaload, 1) := by decide +kernel
theorem dL_law_2850 : decode cL_law 2850 = .ok (.aload_n 0, 1) := by decide +kernel
theorem dL_law_2851 : decode cL_law 2851 = .ok (.iload 5, 2) := by decide +kernel
theorem dL_law_2853 : decode cL_law 2853 = .ok (.iconst 3, 1) := by decide +kernel
theorem dL_law_2854 : decode cL_law 2854 = .ok (.iadd, 1) := by decide +kernel
theorem dL_law_2855 : decode cL_law 2855 = .ok (.iaload, 1) := by decide +kernel
theorem dL_law_2856 : decode cL_law 2856 = .ok (.invokevirtual 414, 3) := by decide +kernel
theorem dL_law_2859 : decode cL_law 2859 = .ok (.istore 7, 2) := by decide +kernel
theorem dL_law_2861 : decode cL_law 2861 = .ok (.goto 63, 3) := by decide +kernel
theorem dL_law_2864 : decode cL_law 2864 = .ok (.aload_n 1, 1) := by decide +kernel
theorem dL_law_2865 : decode cL_law 2865 = .ok (.invokevirtual 415, 3) := by decide +kernel
theorem dL_law_2868 : decode cL_law 2868 = .ok (.pop2, 1) := by decide +kernel
theorem dL_law_2869 : decode cL_law 2869 = .ok (.aload_n 2, 1) := by decide +kernel
theorem dL_law_2870 : decode cL_law 2870 = .ok (.invokevirtual 419, 3) := by decide +kernel
theorem dL_law_2873 : decode cL_law 2873 = .ok (.pop2, 1) := by decide +kernel
theorem dL_law_2874 : decode cL_law 2874 = .ok (.goto 50, 3) := by decide +kernel
theorem dL_law_2877 : decode cL_law 2877 = .ok (.aload_n 1, 1) := by decide +kernel
theorem dL_law_2878 : decode cL_law 2878 = .ok (.aload 4, 2) := by decide +kernel
theorem dL_law_2880 : decode cL_law 2880 = .ok (.invokestatic 420, 3) := by decide +kernel
theorem dL_law_2883 : decode cL_law 2883 = .ok (.istore 6, 2) := by decide +kernel
theorem dL_law_2885 : decode cL_law 2885 = .ok (.aload_n 2, 1) := by decide +kernel
theorem dL_law_2886 : decode cL_law 2886 = .ok (.invokevirtual 423, 3) := by decide +kernel
theorem dL_law_2889 : decode cL_law 2889 = .ok (.fstore 7, 2) := by decide +kernel
theorem dL_law_2891 : decode cL_law 2891 = .ok (.goto 33, 3) := by decide +kernel
theorem dL_law_2894 : decode cL_law 2894 = .ok (.aload_n 1, 1) := by decide +kernel
theorem dL_law_2895 : decode cL_law 2895 = .ok (.aload 4, 2) := by decide +kernel
theorem dL_law_2897 : decode cL_law 2897 = .ok (.invokestatic 424, 3) := by decide +kernel
theorem dL_law_2900 : decode cL_law 2900 = .ok (.istore 6, 2) := by decide +kernel
theorem dL_law_2902 : decode cL_law 2902 = .ok (.aload_n 2, 1) := by decide +kernel
theorem dL_law_2903 : decode cL_law 2903 = .ok (.invokevirtual 426, 3) := by decide +kernel
theorem dL_law_2906 : decode cL_law 2906 = .ok (.dstore 7, 2) := by decide +kernel
theorem dL_law_2908 : decode cL_law 2908 = .ok (.goto 16, 3) := by decide +kernel
theorem dL_law_2911 : decode cL_law 2911 = .ok (.aload_n 1, 1) := by decide +kernel
theorem dL_law_2912 : decode cL_law 2912 = .ok (.invokevirtual 427, 3) := by decide +kernel
theorem dL_law_2915 : decode cL_law 2915 = .ok (.pop, 1) := by decide +kernel
theorem dL_law_2916 : decode cL_law 2916 = .ok (.aload_n 2, 1) := by decide +kernel
theorem dL_law_2917 : decode cL_law 2917 = .ok (.invokevirtual 431, 3) := by decide +kernel
theorem dL_law_2920 : decode cL_law 2920 = .ok (.pop, 1) := by decide +kernel
theorem dL_law_2921 : decode cL_law 2921 = .ok (.goto 3, 3) := by decide +kernel
theorem dL_law_2924 : decode cL_law 2924 = .ok (.iinc 5 5, 3) := by decide +kernel
theorem dL_law_2927 : decode cL_law 2927 = .ok (.goto (-2899), 3) := by decide +kernel
theorem dL_law_2930 : decode cL_law 2930 = .ok (.iconst 1, 1) := by decide +kernel
theorem dL_law_2931 : decode cL_law 2931 = .ok (.ireturn, 1) := by decide +kernel
