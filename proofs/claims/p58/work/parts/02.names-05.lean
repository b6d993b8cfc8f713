theorem dX0_init_7 : decode cX0_init 7 = .ok (.newarray .int, 2) := by decide +kernel
theorem dX0_init_14 : decode cX0_init 14 = .ok (.newarray .int, 2) := by decide +kernel
def dsX0_init_0 : ByteArray := ⟨#[42, 183, 0, 3, 42, 16, 16, 188, 10, 181, 0, 9, 42, 7, 188, 10, 181, 0, 15, 177]⟩
theorem daX0_init_0 : agB cX0_init dsX0_init_0 0 := agB_of (n := 20) (by decide +kernel)
theorem dbX0_init_0 : (decode dsX0_init_0 0 = .ok (.aload_n 0, 1) ∧ okop dsX0_init_0 0 = true) ∧ (decode dsX0_init_0 1 = .ok (.invokespecial 3, 3) ∧ okop dsX0_init_0 1 = true) ∧ (decode dsX0_init_0 4 = .ok (.aload_n 0, 1) ∧ okop dsX0_init_0 4 = true) ∧ (decode dsX0_init_0 5 = .ok (.bipush 16, 2) ∧ okop dsX0_init_0 5 = true) ∧ (decode dsX0_init_0 9 = .ok (.putfield 9, 3) ∧ okop dsX0_init_0 9 = true) ∧ (decode dsX0_init_0 12 = .ok (.aload_n 0, 1) ∧ okop dsX0_init_0 12 = true) ∧ (decode dsX0_init_0 13 = .ok (.iconst 4, 1) ∧ okop dsX0_init_0 13 = true) ∧ (decode dsX0_init_0 16 = .ok (.putfield 15, 3) ∧ okop dsX0_init_0 16 = true) ∧ (decode dsX0_init_0 19 = .ok (.return_, 1) ∧ okop dsX0_init_0 19 = true) := by decide +kernel
theorem dX0_init_0 : decode cX0_init 0 = .ok (.aload_n 0, 1) := dgq (p := 0) daX0_init_0 dbX0_init_0.1
theorem dX0_init_1 : decode cX0_init 1 = .ok (.invokespecial 3, 3) := dgq (p := 1) daX0_init_0 dbX0_init_0.2.1
theorem dX0_init_4 : decode cX0_init 4 = .ok (.aload_n 0, 1) := dgq (p := 4) daX0_init_0 dbX0_init_0.2.2.1
theorem dX0_init_5 : decode cX0_init 5 = .ok (.bipush 16, 2) := dgq (p := 5) daX0_init_0 dbX0_init_0.2.2.2.1
theorem dX0_init_9 : decode cX0_init 9 = .ok (.putfield 9, 3) := dgq (p := 9) daX0_init_0 dbX0_init_0.2.2.2.2.1
theorem dX0_init_12 : decode cX0_init 12 = .ok (.aload_n 0, 1) := dgq (p := 12) daX0_init_0 dbX0_init_0.2.2.2.2.2.1
theorem dX0_init_13 : decode cX0_init 13 = .ok (.iconst 4, 1) := dgq (p := 13) daX0_init_0 dbX0_init_0.2.2.2.2.2.2.1
theorem dX0_init_16 : decode cX0_init 16 = .ok (.putfield 15, 3) := dgq (p := 16) daX0_init_0 dbX0_init_0.2.2.2.2.2.2.2.1
theorem dX0_init_19 : decode cX0_init 19 = .ok (.return_, 1) := dgq (p := 19) daX0_init_0 dbX0_init_0.2.2.2.2.2.2.2.2
def dsX0_isFull_0 : ByteArray := ⟨#[42, 180, 0, 18, 16, 16, 161, 0, 7, 4, 167, 0, 4, 3, 172]⟩
theorem daX0_isFull_0 : agB cX0_isFull dsX0_isFull_0 0 := agB_of (n := 15) (by decide +kernel)
theorem dbX0_isFull_0 : (decode dsX0_isFull_0 0 = .ok (.aload_n 0, 1) ∧ okop dsX0_isFull_0 0 = true) ∧ (decode dsX0_isFull_0 1 = .ok (.getfield 18, 3) ∧ okop dsX0_isFull_0 1 = true) ∧ (decode dsX0_isFull_0 4 = .ok (.bipush 16, 2) ∧ okop dsX0_isFull_0 4 = true) ∧ (decode dsX0_isFull_0 6 = .ok (.if_icmp .lt 7, 3) ∧ okop dsX0_isFull_0 6 = true) ∧ (decode dsX0_isFull_0 9 = .ok (.iconst 1, 1) ∧ okop dsX0_isFull_0 9 = true) ∧ (decode dsX0_isFull_0 10 = .ok (.goto 4, 3) ∧ okop dsX0_isFull_0 10 = true) ∧ (decode dsX0_isFull_0 13 = .ok (.iconst 0, 1) ∧ okop dsX0_isFull_0 13 = true) ∧ (decode dsX0_isFull_0 14 = .ok (.ireturn, 1) ∧ okop dsX0_isFull_0 14 = true) := by decide +kernel
theorem dX0_isFull_0 : decode cX0_isFull 0 = .ok (.aload_n 0, 1) := dgq (p := 0) daX0_isFull_0 dbX0_isFull_0.1
theorem dX0_isFull_1 : decode cX0_isFull 1 = .ok (.getfield 18, 3) := dgq (p := 1) daX0_isFull_0 dbX0_isFull_0.2.1
theorem dX0_isFull_4 : decode cX0_isFull 4 = .ok (.bipush 16, 2) := dgq (p := 4) daX0_isFull_0 dbX0_isFull_0.2.2.1
theorem dX0_isFull_6 : decode cX0_isFull 6 = .ok (.if_icmp .lt 7, 3) := dgq (p := 6) daX0_isFull_0 dbX0_isFull_0.2.2.2.1
theorem dX0_isFull_9 : decode cX0_isFull 9 = .ok (.iconst 1, 1) := dgq (p := 9) daX0_isFull_0 dbX0_isFull_0.2.2.2.2.1
theorem dX0_isFull_10 : decode cX0_isFull 10 = .ok (.goto 4, 3) := dgq (p := 10) daX0_isFull_0 dbX0_isFull_0.2.2.2.2.2.1
theorem dX0_isFull_13 : decode cX0_isFull 13 = .ok (.iconst 0, 1) := dgq (p := 13) daX0_isFull_0 dbX0_isFull_0.2.2.2.2.2.2.1
theorem dX0_isFull_14 : decode cX0_isFull 14 = .ok (.ireturn, 1) := dgq (p := 14) daX0_isFull_0 dbX0_isFull_0.2.2.2.2.2.2.2
def dsX0_hasFour_0 : ByteArray := ⟨#[42, 180, 0, 18, 7, 161, 0, 7, 4, 167, 0, 4, 3, 172]⟩
theorem daX0_hasFour_0 : agB cX0_hasFour dsX0_hasFour_0 0 := agB_of (n := 14) (by decide +kernel)
theorem dbX0_hasFour_0 : (decode dsX0_hasFour_0 0 = .ok (.aload_n 0, 1) ∧ okop dsX0_hasFour_0 0 = true) ∧ (decode dsX0_hasFour_0 1 = .ok (.getfield 18, 3) ∧ okop dsX0_hasFour_0 1 = true) ∧ (decode dsX0_hasFour_0 4 = .ok (.iconst 4, 1) ∧ okop dsX0_hasFour_0 4 = true) ∧ (decode dsX0_hasFour_0 5 = .ok (.if_icmp .lt 7, 3) ∧ okop dsX0_hasFour_0 5 = true) ∧ (decode dsX0_hasFour_0 8 = .ok (.iconst 1, 1) ∧ okop dsX0_hasFour_0 8 = true) ∧ (decode dsX0_hasFour_0 9 = .ok (.goto 4, 3) ∧ okop dsX0_hasFour_0 9 = true) ∧ (decode dsX0_hasFour_0 12 = .ok (.iconst 0, 1) ∧ okop dsX0_hasFour_0 12 = true) ∧ (decode dsX0_hasFour_0 13 = .ok (.ireturn, 1) ∧ okop dsX0_hasFour_0 13 = true) := by decide +kernel
theorem dX0_hasFour_0 : decode cX0_hasFour 0 = .ok (.aload_n 0, 1) := dgq (p := 0) daX0_hasFour_0 dbX0_hasFour_0.1
theorem dX0_hasFour_1 : decode cX0_hasFour 1 = .ok (.getfield 18, 3) := dgq (p := 1) daX0_hasFour_0 dbX0_hasFour_0.2.1
theorem dX0_hasFour_4 : decode cX0_hasFour 4 = .ok (.iconst 4, 1) := dgq (p := 4) daX0_hasFour_0 dbX0_hasFour_0.2.2.1
theorem dX0_hasFour_5 : decode cX0_hasFour 5 = .ok (.if_icmp .lt 7, 3) := dgq (p := 5) daX0_hasFour_0 dbX0_hasFour_0.2.2.2.1
theorem dX0_hasFour_8 : decode cX0_hasFour 8 = .ok (.iconst 1, 1) := dgq (p := 8) daX0_hasFour_0 dbX0_hasFour_0.2.2.2.2.1
theorem dX0_hasFour_9 : decode cX0_hasFour 9 = .ok (.goto 4, 3) := dgq (p := 9) daX0_hasFour_0 dbX0_hasFour_0.2.2.2.2.2.1
theorem dX0_hasFour_12 : decode cX0_hasFour 12 = .ok (.iconst 0, 1) := dgq (p := 12) daX0_hasFour_0 dbX0_hasFour_0.2.2.2.2.2.2.1
theorem dX0_hasFour_13 : decode cX0_hasFour 13 = .ok (.ireturn, 1) := dgq (p := 13) daX0_hasFour_0 dbX0_hasFour_0.2.2.2.2.2.2.2
def dsX0_put_0 : ByteArray := ⟨#[42, 180, 0, 18, 16, 16, 162, 0, 61, 42, 180, 0, 18, 61, 28, 158, 0, 35, 42]⟩
theorem daX0_put_0 : agB cX0_put dsX0_put_0 0 := agB_of (n := 19) (by decide +kernel)
theorem dbX0_put_0 : (decode dsX0_put_0 0 = .ok (.aload_n 0, 1) ∧ okop dsX0_put_0 0 = true) ∧ (decode dsX0_put_0 1 = .ok (.getfield 18, 3) ∧ okop dsX0_put_0 1 = true) ∧ (decode dsX0_put_0 4 = .ok (.bipush 16, 2) ∧ okop dsX0_put_0 4 = true) ∧ (decode dsX0_put_0 6 = .ok (.if_icmp .ge 61, 3) ∧ okop dsX0_put_0 6 = true) ∧ (decode dsX0_put_0 9 = .ok (.aload_n 0, 1) ∧ okop dsX0_put_0 9 = true) ∧ (decode dsX0_put_0 10 = .ok (.getfield 18, 3) ∧ okop dsX0_put_0 10 = true) ∧ (decode dsX0_put_0 13 = .ok (.istore_n 2, 1) ∧ okop dsX0_put_0 13 = true) ∧ (decode dsX0_put_0 14 = .ok (.iload_n 2, 1) ∧ okop dsX0_put_0 14 = true) ∧ (decode dsX0_put_0 15 = .ok (.ifCond .le 35, 3) ∧ okop dsX0_put_0 15 = true) ∧ (decode dsX0_put_0 18 = .ok (.aload_n 0, 1) ∧ okop dsX0_put_0 18 = true) := by decide +kernel
theorem dX0_put_0 : decode cX0_put 0 = .ok (.aload_n 0, 1) := dgq (p := 0) daX0_put_0 dbX0_put_0.1
theorem dX0_put_1 : decode cX0_put 1 = .ok (.getfield 18, 3) := dgq (p := 1) daX0_put_0 dbX0_put_0.2.1
theorem dX0_put_4 : decode cX0_put 4 = .ok (.bipush 16, 2) := dgq (p := 4) daX0_put_0 dbX0_put_0.2.2.1
theorem dX0_put_6 : decode cX0_put 6 = .ok (.if_icmp .ge 61, 3) := dgq (p := 6) daX0_put_0 dbX0_put_0.2.2.2.1
theorem dX0_put_9 : decode cX0_put 9 = .ok (.aload_n 0, 1) := dgq (p := 9) daX0_put_0 dbX0_put_0.2.2.2.2.1
theorem dX0_put_10 : decode cX0_put 10 = .ok (.getfield 18, 3) := dgq (p := 10) daX0_put_0 dbX0_put_0.2.2.2.2.2.1
theorem dX0_put_13 : decode cX0_put 13 = .ok (.istore_n 2, 1) := dgq (p := 13) daX0_put_0 dbX0_put_0.2.2.2.2.2.2.1
theorem dX0_put_14 : decode cX0_put 14 = .ok (.iload_n 2, 1) := dgq (p := 14) daX0_put_0 dbX0_put_0.2.2.2.2.2.2.2.1
theorem dX0_put_15 : decode cX0_put 15 = .ok (.ifCond .le 35, 3) := dgq (p := 15) daX0_put_0 dbX0_put_0.2.2.2.2.2.2.2.2.1
theorem dX0_put_18 : decode cX0_put 18 = .ok (.aload_n 0, 1) := dgq (p := 18) daX0_put_0 dbX0_put_0.2.2.2.2.2.2.2.2.2
def dsX0_put_19 : ByteArray := ⟨#[180, 0, 9, 28, 4, 100, 46, 27, 164, 0, 23, 42, 180, 0, 9, 28]⟩
theorem daX0_put_19 : agB cX0_put dsX0_put_19 19 := agB_of (n := 16) (by decide +kernel)
theorem dbX0_put_19 : (decode dsX0_put_19 0 = .ok (.getfield 9, 3) ∧ okop dsX0_put_19 0 = true) ∧ (decode dsX0_put_19 3 = .ok (.iload_n 2, 1) ∧ okop dsX0_put_19 3 = true) ∧ (decode dsX0_put_19 4 = .ok (.iconst 1, 1) ∧ okop dsX0_put_19 4 = true) ∧ (decode dsX0_put_19 5 = .ok (.isub, 1) ∧ okop dsX0_put_19 5 = true) ∧ (decode dsX0_put_19 6 = .ok (.iaload, 1) ∧ okop dsX0_put_19 6 = true) ∧ (decode dsX0_put_19 7 = .ok (.iload_n 1, 1) ∧ okop dsX0_put_19 7 = true) ∧ (decode dsX0_put_19 8 = .ok (.if_icmp .le 23, 3) ∧ okop dsX0_put_19 8 = true) ∧ (decode dsX0_put_19 11 = .ok (.aload_n 0, 1) ∧ okop dsX0_put_19 11 = true) ∧ (decode dsX0_put_19 12 = .ok (.getfield 9, 3) ∧ okop dsX0_put_19 12 = true) ∧ (decode dsX0_put_19 15 = .ok (.iload_n 2, 1) ∧ okop dsX0_put_19 15 = true) := by decide +kernel
theorem dX0_put_19 : decode cX0_put 19 = .ok (.getfield 9, 3) := dgq (p := 0) daX0_put_19 dbX0_put_19.1
theorem dX0_put_22 : decode cX0_put 22 = .ok (.iload_n 2, 1) := dgq (p := 3) daX0_put_19 dbX0_put_19.2.1
theorem dX0_put_23 : decode cX0_put 23 = .ok (.iconst 1, 1) := dgq (p := 4) daX0_put_19 dbX0_put_19.2.2.1
theorem dX0_put_24 : decode cX0_put 24 = .ok (.isub, 1) := dgq (p := 5) daX0_put_19 dbX0_put_19.2.2.2.1
theorem dX0_put_25 : decode cX0_put 25 = .ok (.iaload, 1) := dgq (p := 6) daX0_put_19 dbX0_put_19.2.2.2.2.1
theorem dX0_put_26 : decode cX0_put 26 = .ok (.iload_n 1, 1) := dgq (p := 7) daX0_put_19 dbX0_put_19.2.2.2.2.2.1
theorem dX0_put_27 : decode cX0_put 27 = .ok (.if_icmp .le 23, 3) := dgq (p := 8) daX0_put_19 dbX0_put_19.2.2.2.2.2.2.1
theorem dX0_put_30 : decode cX0_put 30 = .ok (.aload_n 0, 1) := dgq (p := 11) daX0_put_19 dbX0_put_19.2.2.2.2.2.2.2.1
theorem dX0_put_31 : decode cX0_put 31 = .ok (.getfield 9, 3) := dgq (p := 12) daX0_put_19 dbX0_put_19.2.2.2.2.2.2.2.2.1
theorem dX0_put_34 : decode cX0_put 34 = .ok (.iload_n 2, 1) := dgq (p := 15) daX0_put_19 dbX0_put_19.2.2.2.2.2.2.2.2.2
def dsX0_put_35 : ByteArray := ⟨#[42, 180, 0, 9, 28, 4, 100, 46, 79, 132, 2, 255, 167, 255, 223, 42]⟩
theorem daX0_put_35 : agB cX0_put dsX0_put_35 35 := agB_of (n := 16) (by decide +kernel)
theorem dbX0_put_35 : (decode dsX0_put_35 0 = .ok (.aload_n 0, 1) ∧ okop dsX0_put_35 0 = true) ∧ (decode dsX0_put_35 1 = .ok (.getfield 9, 3) ∧ okop dsX0_put_35 1 = true) ∧ (decode dsX0_put_35 4 = .ok (.iload_n 2, 1) ∧ okop dsX0_put_35 4 = true) ∧ (decode dsX0_put_35 5 = .ok (.iconst 1, 1) ∧ okop dsX0_put_35 5 = true) ∧ (decode dsX0_put_35 6 = .ok (.isub, 1) ∧ okop dsX0_put_35 6 = true) ∧ (decode dsX0_put_35 7 = .ok (.iaload, 1) ∧ okop dsX0_put_35 7 = true) ∧ (decode dsX0_put_35 8 = .ok (.iastore, 1) ∧ okop dsX0_put_35 8 = true) ∧ (decode dsX0_put_35 9 = .ok (.iinc 2 (-1), 3) ∧ okop dsX0_put_35 9 = true) ∧ (decode dsX0_put_35 12 = .ok (.goto (-33), 3) ∧ okop dsX0_put_35 12 = true) ∧ (decode dsX0_put_35 15 = .ok (.aload_n 0, 1) ∧ okop dsX0_put_35 15 = true) := by decide +kernel
theorem dX0_put_35 : decode cX0_put 35 = .ok (.aload_n 0, 1) := dgq (p := 0) daX0_put_35 dbX0_put_35.1
theorem dX0_put_36 : decode cX0_put 36 = .ok (.getfield 9, 3) := dgq (p := 1) daX0_put_35 dbX0_put_35.2.1
theorem dX0_put_39 : decode cX0_put 39 = .ok (.iload_n 2, 1) := dgq (p := 4) daX0_put_35 dbX0_put_35.2.2.1
theorem dX0_put_40 : decode cX0_put 40 = .ok (.iconst 1, 1) := dgq (p := 5) daX0_put_35 dbX0_put_35.2.2.2.1
theorem dX0_put_41 : decode cX0_put 41 = .ok (.isub, 1) := dgq (p := 6) daX0_put_35 dbX0_put_35.2.2.2.2.1
theorem dX0_put_42 : decode cX0_put 42 = .ok (.iaload, 1) := dgq (p := 7) daX0_put_35 dbX0_put_35.2.2.2.2.2.1
theorem dX0_put_43 : decode cX0_put 43 = .ok (.iastore, 1) := dgq (p := 8) daX0_put_35 dbX0_put_35.2.2.2.2.2.2.1
theorem dX0_put_44 : decode cX0_put 44 = .ok (.iinc 2 (-1), 3) := dgq (p := 9) daX0_put_35 dbX0_put_35.2.2.2.2.2.2.2.1
theorem dX0_put_47 : decode cX0_put 47 = .ok (.goto (-33), 3) := dgq (p := 12) daX0_put_35 dbX0_put_35.2.2.2.2.2.2.2.2.1
theorem dX0_put_50 : decode cX0_put 50 = .ok (.aload_n 0, 1) := dgq (p := 15) daX0_put_35 dbX0_put_35.2.2.2.2.2.2.2.2.2
def dsX0_put_51 : ByteArray := ⟨#[180, 0, 9, 28, 27, 79, 42, 89, 180, 0, 18, 4, 96, 181, 0, 18]⟩
theorem daX0_put_51 : agB cX0_put dsX0_put_51 51 := agB_of (n := 16) (by decide +kernel)
theorem dbX0_put_51 : (decode dsX0_put_51 0 = .ok (.getfield 9, 3) ∧ okop dsX0_put_51 0 = true) ∧ (decode dsX0_put_51 3 = .ok (.iload_n 2, 1) ∧ okop dsX0_put_51 3 = true) ∧ (decode dsX0_put_51 4 = .ok (.iload_n 1, 1) ∧ okop dsX0_put_51 4 = true) ∧ (decode dsX0_put_51 5 = .ok (.iastore, 1) ∧ okop dsX0_put_51 5 = true) ∧ (decode dsX0_put_51 6 = .ok (.aload_n 0, 1) ∧ okop dsX0_put_51 6 = true) ∧ (decode dsX0_put_51 7 = .ok (.dup, 1) ∧ okop dsX0_put_51 7 = true) ∧ (decode dsX0_put_51 8 = .ok (.getfield 18, 3) ∧ okop dsX0_put_51 8 = true) ∧ (decode dsX0_put_51 11 = .ok (.iconst 1, 1) ∧ okop dsX0_put_51 11 = true) ∧ (decode dsX0_put_51 12 = .ok (.iadd, 1) ∧ okop dsX0_put_51 12 = true) ∧ (decode dsX0_put_51 13 = .ok (.putfield 18, 3) ∧ okop dsX0_put_51 13 = true) := by decide +kernel
theorem dX0_put_51 : decode cX0_put 51 = .ok (.getfield 9, 3) := dgq (p := 0) daX0_put_51 dbX0_put_51.1
theorem dX0_put_54 : decode cX0_put 54 = .ok (.iload_n 2, 1) := dgq (p := 3) daX0_put_51 dbX0_put_51.2.1
theorem dX0_put_55 : decode cX0_put 55 = .ok (.iload_n 1, 1) := dgq (p := 4) daX0_put_51 dbX0_put_51.2.2.1
theorem dX0_put_56 : decode cX0_put 56 = .ok (.iastore, 1) := dgq (p := 5) daX0_put_51 dbX0_put_51.2.2.2.1
theorem dX0_put_57 : decode cX0_put 57 = .ok (.aload_n 0, 1) := dgq (p := 6) daX0_put_51 dbX0_put_51.2.2.2.2.1
theorem dX0_put_58 : decode cX0_put 58 = .ok (.dup, 1) := dgq (p := 7) daX0_put_51 dbX0_put_51.2.2.2.2.2.1
theorem dX0_put_59 : decode cX0_put 59 = .ok (.getfield 18, 3) := dgq (p := 8) daX0_put_51 dbX0_put_51.2.2.2.2.2.2.1
theorem dX0_put_62 : decode cX0_put 62 = .ok (.iconst 1, 1) := dgq (p := 11) daX0_put_51 dbX0_put_51.2.2.2.2.2.2.2.1
theorem dX0_put_63 : decode cX0_put 63 = .ok (.iadd, 1) := dgq (p := 12) daX0_put_51 dbX0_put_51.2.2.2.2.2.2.2.2.1
theorem dX0_put_64 : decode cX0_put 64 = .ok (.putfield 18, 3) := dgq (p := 13) daX0_put_51 dbX0_put_51.2.2.2.2.2.2.2.2.2
def dsX0_put_67 : ByteArray := ⟨#[42, 180, 0, 18, 172]⟩
theorem daX0_put_67 : agB cX0_put dsX0_put_67 67 := agB_of (n := 5) (by decide +kernel)
theorem dbX0_put_67 : (decode dsX0_put_67 0 = .ok (.aload_n 0, 1) ∧ okop dsX0_put_67 0 = true) ∧ (decode dsX0_put_67 1 = .ok (.getfield 18, 3) ∧ okop dsX0_put_67 1 = true) ∧ (decode dsX0_put_67 4 = .ok (.ireturn, 1) ∧ okop dsX0_put_67 4 = true) := by decide +kernel
theorem dX0_put_67 : decode cX0_put 67 = .ok (.aload_n 0, 1) := dgq (p := 0) daX0_put_67 dbX0_put_67.1
theorem dX0_put_68 : decode cX0_put 68 = .ok (.getfield 18, 3) := dgq (p := 1) daX0_put_67 dbX0_put_67.2.1
theorem dX0_put_71 : decode cX0_put 71 = .ok (.ireturn, 1) := dgq (p := 4) daX0_put_67 dbX0_put_67.2.2
def dsX0_bestWheel_0 : ByteArray := ⟨#[27, 155, 0, 21, 27, 42, 180, 0, 15, 190, 162, 0, 12, 42, 180, 0, 15, 27]⟩
theorem daX0_bestWheel_0 : agB cX0_bestWheel dsX0_bestWheel_0 0 := agB_of (n := 18) (by decide +kernel)
theorem dbX0_bestWheel_0 : (decode dsX0_bestWheel_0 0 = .ok (.iload_n 1, 1) ∧ okop dsX0_bestWheel_0 0 = true) ∧ (decode dsX0_bestWheel_0 1 = .ok (.ifCond .lt 21, 3) ∧ okop dsX0_bestWheel_0 1 = true) ∧ (decode dsX0_bestWheel_0 4 = .ok (.iload_n 1, 1) ∧ okop dsX0_bestWheel_0 4 = true) ∧ (decode dsX0_bestWheel_0 5 = .ok (.aload_n 0, 1) ∧ okop dsX0_bestWheel_0 5 = true) ∧ (decode dsX0_bestWheel_0 6 = .ok (.getfield 15, 3) ∧ okop dsX0_bestWheel_0 6 = true) ∧ (decode dsX0_bestWheel_0 9 = .ok (.arraylength, 1) ∧ okop dsX0_bestWheel_0 9 = true) ∧ (decode dsX0_bestWheel_0 10 = .ok (.if_icmp .ge 12, 3) ∧ okop dsX0_bestWheel_0 10 = true) ∧ (decode dsX0_bestWheel_0 13 = .ok (.aload_n 0, 1) ∧ okop dsX0_bestWheel_0 13 = true) ∧ (decode dsX0_bestWheel_0 14 = .ok (.getfield 15, 3) ∧ okop dsX0_bestWheel_0 14 = true) ∧ (decode dsX0_bestWheel_0 17 = .ok (.iload_n 1, 1) ∧ okop dsX0_bestWheel_0 17 = true) := by decide +kernel
theorem dX0_bestWheel_0 : decode cX0_bestWheel 0 = .ok (.iload_n 1, 1) := dgq (p := 0) daX0_bestWheel_0 dbX0_bestWheel_0.1
theorem dX0_bestWheel_1 : decode cX0_bestWheel 1 = .ok (.ifCond .lt 21, 3) := dgq (p := 1) daX0_bestWheel_0 dbX0_bestWheel_0.2.1
theorem dX0_bestWheel_4 : decode cX0_bestWheel 4 = .ok (.iload_n 1, 1) := dgq (p := 4) daX0_bestWheel_0 dbX0_bestWheel_0.2.2.1
theorem dX0_bestWheel_5 : decode cX0_bestWheel 5 = .ok (.aload_n 0, 1) := dgq (p := 5) daX0_bestWheel_0 dbX0_bestWheel_0.2.2.2.1
theorem dX0_bestWheel_6 : decode cX0_bestWheel 6 = .ok (.getfield 15, 3) := dgq (p := 6) daX0_bestWheel_0 dbX0_bestWheel_0.2.2.2.2.1
theorem dX0_bestWheel_9 : decode cX0_bestWheel 9 = .ok (.arraylength, 1) := dgq (p := 9) daX0_bestWheel_0 dbX0_bestWheel_0.2.2.2.2.2.1
theorem dX0_bestWheel_10 : decode cX0_bestWheel 10 = .ok (.if_icmp .ge 12, 3) := dgq (p := 10) daX0_bestWheel_0 dbX0_bestWheel_0.2.2.2.2.2.2.1
theorem dX0_bestWheel_13 : decode cX0_bestWheel 13 = .ok (.aload_n 0, 1) := dgq (p := 13) daX0_bestWheel_0 dbX0_bestWheel_0.2.2.2.2.2.2.2.1
theorem dX0_bestWheel_14 : decode cX0_bestWheel 14 = .ok (.getfield 15, 3) := dgq (p := 14) daX0_bestWheel_0 dbX0_bestWheel_0.2.2.2.2.2.2.2.2.1
theorem dX0_bestWheel_17 : decode cX0_bestWheel 17 = .ok (.iload_n 1, 1) := dgq (p := 17) daX0_bestWheel_0 dbX0_bestWheel_0.2.2.2.2.2.2.2.2.2
def dsX0_bestWheel_18 : ByteArray := ⟨#[46, 167, 0, 4, 3, 172]⟩
theorem daX0_bestWheel_18 : agB cX0_bestWheel dsX0_bestWheel_18 18 := agB_of (n := 6) (by decide +kernel)
theorem dbX0_bestWheel_18 : (decode dsX0_bestWheel_18 0 = .ok (.iaload, 1) ∧ okop dsX0_bestWheel_18 0 = true) ∧ (decode dsX0_bestWheel_18 1 = .ok (.goto 4, 3) ∧ okop dsX0_bestWheel_18 1 = true) ∧ (decode dsX0_bestWheel_18 4 = .ok (.iconst 0, 1) ∧ okop dsX0_bestWheel_18 4 = true) ∧ (decode dsX0_bestWheel_18 5 = .ok (.ireturn, 1) ∧ okop dsX0_bestWheel_18 5 = true) := by decide +kernel
theorem dX0_bestWheel_18 : decode cX0_bestWheel 18 = .ok (.iaload, 1) := dgq (p := 0) daX0_bestWheel_18 dbX0_bestWheel_18.1
theorem dX0_bestWheel_19 : decode cX0_bestWheel 19 = .ok (.goto 4, 3) := dgq (p := 1) daX0_bestWheel_18 dbX0_bestWheel_18.2.1
theorem dX0_bestWheel_22 : decode cX0_bestWheel 22 = .ok (.iconst 0, 1) := dgq (p := 4) daX0_bestWheel_18 dbX0_bestWheel_18.2.2.1
theorem dX0_bestWheel_23 : decode cX0_bestWheel 23 = .ok (.ireturn, 1) := dgq (p := 5) daX0_bestWheel_18 dbX0_bestWheel_18.2.2.2
set_option maxRecDepth 20000 in
theorem ggX0_search_X0_searchWith : GoodIn wsX0_search wsX0_searchWith := goodIn_ca (goodIn_ca (goodIn_q _ [11, 6, 12, 13, 14, 15, 10, 16, 2, 1, 17, 18, 19, 20, 5, 4, 21] rfl (by decide +kernel)) (goodIn_sub (fun _ h => (List.mem_cons_of_mem _ (List.mem_append_left _ (List.mem_append_right _ h)))) tg_wsX00)) (goodIn_sub (fun _ h => List.mem_cons_of_mem _ (List.mem_append_right _ h)) (by decide +kernel))
set_option maxRecDepth 20000 in
theorem gX0_search_X0_searchWith : GoodIn wsX0_search (wsV RX0 37 RX0 yX0_searchWith wsX0_searchWith) := goodIn_app (goodIn_q _ [7, 8, 9, 10] rfl (by decide +kernel)) ggX0_search_X0_searchWith
def dsX0_search_0 : ByteArray := ⟨#[42, 31, 181, 0, 22, 42, 33, 181, 0, 26, 42, 20, 0, 29, 181, 0, 31, 42]⟩
theorem daX0_search_0 : agB cX0_search dsX0_search_0 0 := agB_of (n := 18) (by decide +kernel)
theorem dbX0_search_0 : (decode dsX0_search_0 0 = .ok (.aload_n 0, 1) ∧ okop dsX0_search_0 0 = true) ∧ (decode dsX0_search_0 1 = .ok (.lload_n 1, 1) ∧ okop dsX0_search_0 1 = true) ∧ (decode dsX0_search_0 2 = .ok (.putfield 22, 3) ∧ okop dsX0_search_0 2 = true) ∧ (decode dsX0_search_0 5 = .ok (.aload_n 0, 1) ∧ okop dsX0_search_0 5 = true) ∧ (decode dsX0_search_0 6 = .ok (.lload_n 3, 1) ∧ okop dsX0_search_0 6 = true) ∧ (decode dsX0_search_0 7 = .ok (.putfield 26, 3) ∧ okop dsX0_search_0 7 = true) ∧ (decode dsX0_search_0 10 = .ok (.aload_n 0, 1) ∧ okop dsX0_search_0 10 = true) ∧ (decode dsX0_search_0 11 = .ok (.ldc2_w 29, 3) ∧ okop dsX0_search_0 11 = true) ∧ (decode dsX0_search_0 14 = .ok (.putfield 31, 3) ∧ okop dsX0_search_0 14 = true) ∧ (decode dsX0_search_0 17 = .ok (.aload_n 0, 1) ∧ okop dsX0_search_0 17 = true) := by decide +kernel
theorem dX0_search_0 : decode cX0_search 0 = .ok (.aload_n 0, 1) := dgq (p := 0) daX0_search_0 dbX0_search_0.1
theorem dX0_search_1 : decode cX0_search 1 = .ok (.lload_n 1, 1) := dgq (p := 1) daX0_search_0 dbX0_search_0.2.1
theorem dX0_search_2 : decode cX0_search 2 = .ok (.putfield 22, 3) := dgq (p := 2) daX0_search_0 dbX0_search_0.2.2.1
theorem dX0_search_5 : decode cX0_search 5 = .ok (.aload_n 0, 1) := dgq (p := 5) daX0_search_0 dbX0_search_0.2.2.2.1
theorem dX0_search_6 : decode cX0_search 6 = .ok (.lload_n 3, 1) := dgq (p := 6) daX0_search_0 dbX0_search_0.2.2.2.2.1
theorem dX0_search_7 : decode cX0_search 7 = .ok (.putfield 26, 3) := dgq (p := 7) daX0_search_0 dbX0_search_0.2.2.2.2.2.1
theorem dX0_search_10 : decode cX0_search 10 = .ok (.aload_n 0, 1) := dgq (p := 10) daX0_search_0 dbX0_search_0.2.2.2.2.2.2.1
theorem dX0_search_11 : decode cX0_search 11 = .ok (.ldc2_w 29, 3) := dgq (p := 11) daX0_search_0 dbX0_search_0.2.2.2.2.2.2.2.1
theorem dX0_search_14 : decode cX0_search 14 = .ok (.putfield 31, 3) := dgq (p := 14) daX0_search_0 dbX0_search_0.2.2.2.2.2.2.2.2.1
theorem dX0_search_17 : decode cX0_search 17 = .ok (.aload_n 0, 1) := dgq (p := 17) daX0_search_0 dbX0_search_0.2.2.2.2.2.2.2.2.2
def dsX0_search_18 : ByteArray := ⟨#[9, 181, 0, 34, 3, 54, 5, 21, 5, 42, 180, 0, 18, 162, 0, 42, 3, 54, 6]⟩
theorem daX0_search_18 : agB cX0_search dsX0_search_18 18 := agB_of (n := 19) (by decide +kernel)
theorem dbX0_search_18 : (decode dsX0_search_18 0 = .ok (.lconst 0, 1) ∧ okop dsX0_search_18 0 = true) ∧ (decode dsX0_search_18 1 = .ok (.putfield 34, 3) ∧ okop dsX0_search_18 1 = true) ∧ (decode dsX0_search_18 4 = .ok (.iconst 0, 1) ∧ okop dsX0_search_18 4 = true) ∧ (decode dsX0_search_18 5 = .ok (.istore 5, 2) ∧ okop dsX0_search_18 5 = true) ∧ (decode dsX0_search_18 7 = .ok (.iload 5, 2) ∧ okop dsX0_search_18 7 = true) ∧ (decode dsX0_search_18 9 = .ok (.aload_n 0, 1) ∧ okop dsX0_search_18 9 = true) ∧ (decode dsX0_search_18 10 = .ok (.getfield 18, 3) ∧ okop dsX0_search_18 10 = true) ∧ (decode dsX0_search_18 13 = .ok (.if_icmp .ge 42, 3) ∧ okop dsX0_search_18 13 = true) ∧ (decode dsX0_search_18 16 = .ok (.iconst 0, 1) ∧ okop dsX0_search_18 16 = true) ∧ (decode dsX0_search_18 17 = .ok (.istore 6, 2) ∧ okop dsX0_search_18 17 = true) := by decide +kernel
theorem dX0_search_18 : decode cX0_search 18 = .ok (.lconst 0, 1) := dgq (p := 0) daX0_search_18 dbX0_search_18.1
theorem dX0_search_19 : decode cX0_search 19 = .ok (.putfield 34, 3) := dgq (p := 1) daX0_search_18 dbX0_search_18.2.1
theorem dX0_search_22 : decode cX0_search 22 = .ok (.iconst 0, 1) := dgq (p := 4) daX0_search_18 dbX0_search_18.2.2.1
theorem dX0_search_23 : decode cX0_search 23 = .ok (.istore 5, 2) := dgq (p := 5) daX0_search_18 dbX0_search_18.2.2.2.1
theorem dX0_search_25 : decode cX0_search 25 = .ok (.iload 5, 2) := dgq (p := 7) daX0_search_18 dbX0_search_18.2.2.2.2.1
theorem dX0_search_27 : decode cX0_search 27 = .ok (.aload_n 0, 1) := dgq (p := 9) daX0_search_18 dbX0_search_18.2.2.2.2.2.1
theorem dX0_search_28 : decode cX0_search 28 = .ok (.getfield 18, 3) := dgq (p := 10) daX0_search_18 dbX0_search_18.2.2.2.2.2.2.1
theorem dX0_search_31 : decode cX0_search 31 = .ok (.if_icmp .ge 42, 3) := dgq (p := 13) daX0_search_18 dbX0_search_18.2.2.2.2.2.2.2.1
theorem dX0_search_34 : decode cX0_search 34 = .ok (.iconst 0, 1) := dgq (p := 16) daX0_search_18 dbX0_search_18.2.2.2.2.2.2.2.2.1
theorem dX0_search_35 : decode cX0_search 35 = .ok (.istore 6, 2) := dgq (p := 17) daX0_search_18 dbX0_search_18.2.2.2.2.2.2.2.2.2
def dsX0_search_37 : ByteArray := ⟨#[21, 6, 42, 180, 0, 18, 162, 0, 24, 21, 5, 21, 6, 159, 0, 11, 42, 21, 5, 21, 6]⟩
theorem daX0_search_37 : agB cX0_search dsX0_search_37 37 := agB_of (n := 21) (by decide +kernel)
theorem dbX0_search_37 : (decode dsX0_search_37 0 = .ok (.iload 6, 2) ∧ okop dsX0_search_37 0 = true) ∧ (decode dsX0_search_37 2 = .ok (.aload_n 0, 1) ∧ okop dsX0_search_37 2 = true) ∧ (decode dsX0_search_37 3 = .ok (.getfield 18, 3) ∧ okop dsX0_search_37 3 = true) ∧ (decode dsX0_search_37 6 = .ok (.if_icmp .ge 24, 3) ∧ okop dsX0_search_37 6 = true) ∧ (decode dsX0_search_37 9 = .ok (.iload 5, 2) ∧ okop dsX0_search_37 9 = true) ∧ (decode dsX0_search_37 11 = .ok (.iload 6, 2) ∧ okop dsX0_search_37 11 = true) ∧ (decode dsX0_search_37 13 = .ok (.if_icmp .eq 11, 3) ∧ okop dsX0_search_37 13 = true) ∧ (decode dsX0_search_37 16 = .ok (.aload_n 0, 1) ∧ okop dsX0_search_37 16 = true) ∧ (decode dsX0_search_37 17 = .ok (.iload 5, 2) ∧ okop dsX0_search_37 17 = true) ∧ (decode dsX0_search_37 19 = .ok (.iload 6, 2) ∧ okop dsX0_search_37 19 = true) := by decide +kernel
theorem dX0_search_37 : decode cX0_search 37 = .ok (.iload 6, 2) := dgq (p := 0) daX0_search_37 dbX0_search_37.1
theorem dX0_search_39 : decode cX0_search 39 = .ok (.aload_n 0, 1) := dgq (p := 2) daX0_search_37 dbX0_search_37.2.1
theorem dX0_search_40 : decode cX0_search 40 = .ok (.getfield 18, 3) := dgq (p := 3) daX0_search_37 dbX0_search_37.2.2.1
theorem dX0_search_43 : decode cX0_search 43 = .ok (.if_icmp .ge 24, 3) := dgq (p := 6) daX0_search_37 dbX0_search_37.2.2.2.1
theorem dX0_search_46 : decode cX0_search 46 = .ok (.iload 5, 2) := dgq (p := 9) daX0_search_37 dbX0_search_37.2.2.2.2.1
theorem dX0_search_48 : decode cX0_search 48 = .ok (.iload 6, 2) := dgq (p := 11) daX0_search_37 dbX0_search_37.2.2.2.2.2.1
theorem dX0_search_50 : decode cX0_search 50 = .ok (.if_icmp .eq 11, 3) := dgq (p := 13) daX0_search_37 dbX0_search_37.2.2.2.2.2.2.1
theorem dX0_search_53 : decode cX0_search 53 = .ok (.aload_n 0, 1) := dgq (p := 16) daX0_search_37 dbX0_search_37.2.2.2.2.2.2.2.1
theorem dX0_search_54 : decode cX0_search 54 = .ok (.iload 5, 2) := dgq (p := 17) daX0_search_37 dbX0_search_37.2.2.2.2.2.2.2.2.1
theorem dX0_search_56 : decode cX0_search 56 = .ok (.iload 6, 2) := dgq (p := 19) daX0_search_37 dbX0_search_37.2.2.2.2.2.2.2.2.2
def dsX0_search_58 : ByteArray := ⟨#[182, 0, 37, 132, 6, 1, 167, 255, 229, 132, 5, 1, 167, 255, 211, 177]⟩
theorem daX0_search_58 : agB cX0_search dsX0_search_58 58 := agB_of (n := 16) (by decide +kernel)
theorem dbX0_search_58 : (decode dsX0_search_58 0 = .ok (.invokevirtual 37, 3) ∧ okop dsX0_search_58 0 = true) ∧ (decode dsX0_search_58 3 = .ok (.iinc 6 1, 3) ∧ okop dsX0_search_58 3 = true) ∧ (decode dsX0_search_58 6 = .ok (.goto (-27), 3) ∧ okop dsX0_search_58 6 = true) ∧ (decode dsX0_search_58 9 = .ok (.iinc 5 1, 3) ∧ okop dsX0_search_58 9 = true) ∧ (decode dsX0_search_58 12 = .ok (.goto (-45), 3) ∧ okop dsX0_search_58 12 = true) ∧ (decode dsX0_search_58 15 = .ok (.return_, 1) ∧ okop dsX0_search_58 15 = true) := by decide +kernel
theorem dX0_search_58 : decode cX0_search 58 = .ok (.invokevirtual 37, 3) := dgq (p := 0) daX0_search_58 dbX0_search_58.1
theorem dX0_search_61 : decode cX0_search 61 = .ok (.iinc 6 1, 3) := dgq (p := 3) daX0_search_58 dbX0_search_58.2.1
theorem dX0_search_64 : decode cX0_search 64 = .ok (.goto (-27), 3) := dgq (p := 6) daX0_search_58 dbX0_search_58.2.2.1
theorem dX0_search_67 : decode cX0_search 67 = .ok (.iinc 5 1, 3) := dgq (p := 9) daX0_search_58 dbX0_search_58.2.2.2.1
theorem dX0_search_70 : decode cX0_search 70 = .ok (.goto (-45), 3) := dgq (p := 12) daX0_search_58 dbX0_search_58.2.2.2.2.1
theorem dX0_search_73 : decode cX0_search 73 = .ok (.return_, 1) := dgq (p := 15) daX0_search_58 dbX0_search_58.2.2.2.2.2
set_option maxRecDepth 20000 in
theorem ggX0_searchWith_X0_compare : GoodIn wsX0_searchWith wsX0_compare := goodIn_ca (goodIn_ca (goodIn_q _ [7, 8, 9, 10, 11, 12, 13, 14, 15, 16] rfl (by decide +kernel)) (goodIn_sub (fun _ h => (List.mem_cons_of_mem _ (List.mem_append_left _ (List.mem_append_right _ h)))) tg_wsX00)) (goodIn_sub (fun _ h => List.mem_cons_of_mem _ (List.mem_append_right _ h)) (by decide +kernel))
set_option maxRecDepth 20000 in
theorem gX0_searchWith_X0_compare : GoodIn wsX0_searchWith (wsV RX0 41 RX0 yX0_compare wsX0_compare) := goodIn_app (goodIn_q _ [3, 4, 5, 6] rfl (by decide +kernel)) ggX0_searchWith_X0_compare
def dsX0_searchWith_0 : ByteArray := ⟨#[27, 4, 96, 62, 29, 42, 180, 0, 18, 162, 0, 75, 28, 4]⟩
theorem daX0_searchWith_0 : agB cX0_searchWith dsX0_searchWith_0 0 := agB_of (n := 14) (by decide +kernel)
theorem dbX0_searchWith_0 : (decode dsX0_searchWith_0 0 = .ok (.iload_n 1, 1) ∧ okop dsX0_searchWith_0 0 = true) ∧ (decode dsX0_searchWith_0 1 = .ok (.iconst 1, 1) ∧ okop dsX0_searchWith_0 1 = true) ∧ (decode dsX0_searchWith_0 2 = .ok (.iadd, 1) ∧ okop dsX0_searchWith_0 2 = true) ∧ (decode dsX0_searchWith_0 3 = .ok (.istore_n 3, 1) ∧ okop dsX0_searchWith_0 3 = true) ∧ (decode dsX0_searchWith_0 4 = .ok (.iload_n 3, 1) ∧ okop dsX0_searchWith_0 4 = true) ∧ (decode dsX0_searchWith_0 5 = .ok (.aload_n 0, 1) ∧ okop dsX0_searchWith_0 5 = true) ∧ (decode dsX0_searchWith_0 6 = .ok (.getfield 18, 3) ∧ okop dsX0_searchWith_0 6 = true) ∧ (decode dsX0_searchWith_0 9 = .ok (.if_icmp .ge 75, 3) ∧ okop dsX0_searchWith_0 9 = true) ∧ (decode dsX0_searchWith_0 12 = .ok (.iload_n 2, 1) ∧ okop dsX0_searchWith_0 12 = true) ∧ (decode dsX0_searchWith_0 13 = .ok (.iconst 1, 1) ∧ okop dsX0_searchWith_0 13 = true) := by decide +kernel
theorem dX0_searchWith_0 : decode cX0_searchWith 0 = .ok (.iload_n 1, 1) := dgq (p := 0) daX0_searchWith_0 dbX0_searchWith_0.1
theorem dX0_searchWith_1 : decode cX0_searchWith 1 = .ok (.iconst 1, 1) := dgq (p := 1) daX0_searchWith_0 dbX0_searchWith_0.2.1
theorem dX0_searchWith_2 : decode cX0_searchWith 2 = .ok (.iadd, 1) := dgq (p := 2) daX0_searchWith_0 dbX0_searchWith_0.2.2.1
theorem dX0_searchWith_3 : decode cX0_searchWith 3 = .ok (.istore_n 3, 1) := dgq (p := 3) daX0_searchWith_0 dbX0_searchWith_0.2.2.2.1
theorem dX0_searchWith_4 : decode cX0_searchWith 4 = .ok (.iload_n 3, 1) := dgq (p := 4) daX0_searchWith_0 dbX0_searchWith_0.2.2.2.2.1
theorem dX0_searchWith_5 : decode cX0_searchWith 5 = .ok (.aload_n 0, 1) := dgq (p := 5) daX0_searchWith_0 dbX0_searchWith_0.2.2.2.2.2.1
theorem dX0_searchWith_6 : decode cX0_searchWith 6 = .ok (.getfield 18, 3) := dgq (p := 6) daX0_searchWith_0 dbX0_searchWith_0.2.2.2.2.2.2.1
theorem dX0_searchWith_9 : decode cX0_searchWith 9 = .ok (.if_icmp .ge 75, 3) := dgq (p := 9) daX0_searchWith_0 dbX0_searchWith_0.2.2.2.2.2.2.2.1
theorem dX0_searchWith_12 : decode cX0_searchWith 12 = .ok (.iload_n 2, 1) := dgq (p := 12) daX0_searchWith_0 dbX0_searchWith_0.2.2.2.2.2.2.2.2.1
theorem dX0_searchWith_13 : decode cX0_searchWith 13 = .ok (.iconst 1, 1) := dgq (p := 13) daX0_searchWith_0 dbX0_searchWith_0.2.2.2.2.2.2.2.2.2
def dsX0_searchWith_14 : ByteArray := ⟨#[96, 54, 4, 21, 4, 42, 180, 0, 18, 162, 0, 55, 29, 28, 159, 0, 44, 29]⟩
theorem daX0_searchWith_14 : agB cX0_searchWith dsX0_searchWith_14 14 := agB_of (n := 18) (by decide +kernel)
theorem dbX0_searchWith_14 : (decode dsX0_searchWith_14 0 = .ok (.iadd, 1) ∧ okop dsX0_searchWith_14 0 = true) ∧ (decode dsX0_searchWith_14 1 = .ok (.istore 4, 2) ∧ okop dsX0_searchWith_14 1 = true) ∧ (decode dsX0_searchWith_14 3 = .ok (.iload 4, 2) ∧ okop dsX0_searchWith_14 3 = true) ∧ (decode dsX0_searchWith_14 5 = .ok (.aload_n 0, 1) ∧ okop dsX0_searchWith_14 5 = true) ∧ (decode dsX0_searchWith_14 6 = .ok (.getfield 18, 3) ∧ okop dsX0_searchWith_14 6 = true) ∧ (decode dsX0_searchWith_14 9 = .ok (.if_icmp .ge 55, 3) ∧ okop dsX0_searchWith_14 9 = true) ∧ (decode dsX0_searchWith_14 12 = .ok (.iload_n 3, 1) ∧ okop dsX0_searchWith_14 12 = true) ∧ (decode dsX0_searchWith_14 13 = .ok (.iload_n 2, 1) ∧ okop dsX0_searchWith_14 13 = true) ∧ (decode dsX0_searchWith_14 14 = .ok (.if_icmp .eq 44, 3) ∧ okop dsX0_searchWith_14 14 = true) ∧ (decode dsX0_searchWith_14 17 = .ok (.iload_n 3, 1) ∧ okop dsX0_searchWith_14 17 = true) := by decide +kernel
theorem dX0_searchWith_14 : decode cX0_searchWith 14 = .ok (.iadd, 1) := dgq (p := 0) daX0_searchWith_14 dbX0_searchWith_14.1
theorem dX0_searchWith_15 : decode cX0_searchWith 15 = .ok (.istore 4, 2) := dgq (p := 1) daX0_searchWith_14 dbX0_searchWith_14.2.1
theorem dX0_searchWith_17 : decode cX0_searchWith 17 = .ok (.iload 4, 2) := dgq (p := 3) daX0_searchWith_14 dbX0_searchWith_14.2.2.1
theorem dX0_searchWith_19 : decode cX0_searchWith 19 = .ok (.aload_n 0, 1) := dgq (p := 5) daX0_searchWith_14 dbX0_searchWith_14.2.2.2.1
theorem dX0_searchWith_20 : decode cX0_searchWith 20 = .ok (.getfield 18, 3) := dgq (p := 6) daX0_searchWith_14 dbX0_searchWith_14.2.2.2.2.1
theorem dX0_searchWith_23 : decode cX0_searchWith 23 = .ok (.if_icmp .ge 55, 3) := dgq (p := 9) daX0_searchWith_14 dbX0_searchWith_14.2.2.2.2.2.1
theorem dX0_searchWith_26 : decode cX0_searchWith 26 = .ok (.iload_n 3, 1) := dgq (p := 12) daX0_searchWith_14 dbX0_searchWith_14.2.2.2.2.2.2.1
theorem dX0_searchWith_27 : decode cX0_searchWith 27 = .ok (.iload_n 2, 1) := dgq (p := 13) daX0_searchWith_14 dbX0_searchWith_14.2.2.2.2.2.2.2.1
theorem dX0_searchWith_28 : decode cX0_searchWith 28 = .ok (.if_icmp .eq 44, 3) := dgq (p := 14) daX0_searchWith_14 dbX0_searchWith_14.2.2.2.2.2.2.2.2.1
theorem dX0_searchWith_31 : decode cX0_searchWith 31 = .ok (.iload_n 3, 1) := dgq (p := 17) daX0_searchWith_14 dbX0_searchWith_14.2.2.2.2.2.2.2.2.2
def dsX0_searchWith_32 : ByteArray := ⟨#[21, 4, 159, 0, 38, 21, 4, 27, 159, 0, 32, 42, 42, 180, 0, 9, 27, 46]⟩
theorem daX0_searchWith_32 : agB cX0_searchWith dsX0_searchWith_32 32 := agB_of (n := 18) (by decide +kernel)
theorem dbX0_searchWith_32 : (decode dsX0_searchWith_32 0 = .ok (.iload 4, 2) ∧ okop dsX0_searchWith_32 0 = true) ∧ (decode dsX0_searchWith_32 2 = .ok (.if_icmp .eq 38, 3) ∧ okop dsX0_searchWith_32 2 = true) ∧ (decode dsX0_searchWith_32 5 = .ok (.iload 4, 2) ∧ okop dsX0_searchWith_32 5 = true) ∧ (decode dsX0_searchWith_32 7 = .ok (.iload_n 1, 1) ∧ okop dsX0_searchWith_32 7 = true) ∧ (decode dsX0_searchWith_32 8 = .ok (.if_icmp .eq 32, 3) ∧ okop dsX0_searchWith_32 8 = true) ∧ (decode dsX0_searchWith_32 11 = .ok (.aload_n 0, 1) ∧ okop dsX0_searchWith_32 11 = true) ∧ (decode dsX0_searchWith_32 12 = .ok (.aload_n 0, 1) ∧ okop dsX0_searchWith_32 12 = true) ∧ (decode dsX0_searchWith_32 13 = .ok (.getfield 9, 3) ∧ okop dsX0_searchWith_32 13 = true) ∧ (decode dsX0_searchWith_32 16 = .ok (.iload_n 1, 1) ∧ okop dsX0_searchWith_32 16 = true) ∧ (decode dsX0_searchWith_32 17 = .ok (.iaload, 1) ∧ okop dsX0_searchWith_32 17 = true) := by decide +kernel
theorem dX0_searchWith_32 : decode cX0_searchWith 32 = .ok (.iload 4, 2) := dgq (p := 0) daX0_searchWith_32 dbX0_searchWith_32.1
theorem dX0_searchWith_34 : decode cX0_searchWith 34 = .ok (.if_icmp .eq 38, 3) := dgq (p := 2) daX0_searchWith_32 dbX0_searchWith_32.2.1
theorem dX0_searchWith_37 : decode cX0_searchWith 37 = .ok (.iload 4, 2) := dgq (p := 5) daX0_searchWith_32 dbX0_searchWith_32.2.2.1
theorem dX0_searchWith_39 : decode cX0_searchWith 39 = .ok (.iload_n 1, 1) := dgq (p := 7) daX0_searchWith_32 dbX0_searchWith_32.2.2.2.1
theorem dX0_searchWith_40 : decode cX0_searchWith 40 = .ok (.if_icmp .eq 32, 3) := dgq (p := 8) daX0_searchWith_32 dbX0_searchWith_32.2.2.2.2.1
theorem dX0_searchWith_43 : decode cX0_searchWith 43 = .ok (.aload_n 0, 1) := dgq (p := 11) daX0_searchWith_32 dbX0_searchWith_32.2.2.2.2.2.1
theorem dX0_searchWith_44 : decode cX0_searchWith 44 = .ok (.aload_n 0, 1) := dgq (p := 12) daX0_searchWith_32 dbX0_searchWith_32.2.2.2.2.2.2.1
theorem dX0_searchWith_45 : decode cX0_searchWith 45 = .ok (.getfield 9, 3) := dgq (p := 13) daX0_searchWith_32 dbX0_searchWith_32.2.2.2.2.2.2.2.1
theorem dX0_searchWith_48 : decode cX0_searchWith 48 = .ok (.iload_n 1, 1) := dgq (p := 16) daX0_searchWith_32 dbX0_searchWith_32.2.2.2.2.2.2.2.2.1
theorem dX0_searchWith_49 : decode cX0_searchWith 49 = .ok (.iaload, 1) := dgq (p := 17) daX0_searchWith_32 dbX0_searchWith_32.2.2.2.2.2.2.2.2.2
def dsX0_searchWith_50 : ByteArray := ⟨#[42, 180, 0, 9, 28, 46, 42, 180, 0, 9, 29, 46, 42, 180, 0, 9]⟩
theorem daX0_searchWith_50 : agB cX0_searchWith dsX0_searchWith_50 50 := agB_of (n := 16) (by decide +kernel)
theorem dbX0_searchWith_50 : (decode dsX0_searchWith_50 0 = .ok (.aload_n 0, 1) ∧ okop dsX0_searchWith_50 0 = true) ∧ (decode dsX0_searchWith_50 1 = .ok (.getfield 9, 3) ∧ okop dsX0_searchWith_50 1 = true) ∧ (decode dsX0_searchWith_50 4 = .ok (.iload_n 2, 1) ∧ okop dsX0_searchWith_50 4 = true) ∧ (decode dsX0_searchWith_50 5 = .ok (.iaload, 1) ∧ okop dsX0_searchWith_50 5 = true) ∧ (decode dsX0_searchWith_50 6 = .ok (.aload_n 0, 1) ∧ okop dsX0_searchWith_50 6 = true) ∧ (decode dsX0_searchWith_50 7 = .ok (.getfield 9, 3) ∧ okop dsX0_searchWith_50 7 = true) ∧ (decode dsX0_searchWith_50 10 = .ok (.iload_n 3, 1) ∧ okop dsX0_searchWith_50 10 = true) ∧ (decode dsX0_searchWith_50 11 = .ok (.iaload, 1) ∧ okop dsX0_searchWith_50 11 = true) ∧ (decode dsX0_searchWith_50 12 = .ok (.aload_n 0, 1) ∧ okop dsX0_searchWith_50 12 = true) ∧ (decode dsX0_searchWith_50 13 = .ok (.getfield 9, 3) ∧ okop dsX0_searchWith_50 13 = true) := by decide +kernel
theorem dX0_searchWith_50 : decode cX0_searchWith 50 = .ok (.aload_n 0, 1) := dgq (p := 0) daX0_searchWith_50 dbX0_searchWith_50.1
theorem dX0_searchWith_51 : decode cX0_searchWith 51 = .ok (.getfield 9, 3) := dgq (p := 1) daX0_searchWith_50 dbX0_searchWith_50.2.1
theorem dX0_searchWith_54 : decode cX0_searchWith 54 = .ok (.iload_n 2, 1) := dgq (p := 4) daX0_searchWith_50 dbX0_searchWith_50.2.2.1
theorem dX0_searchWith_55 : decode cX0_searchWith 55 = .ok (.iaload, 1) := dgq (p := 5) daX0_searchWith_50 dbX0_searchWith_50.2.2.2.1
theorem dX0_searchWith_56 : decode cX0_searchWith 56 = .ok (.aload_n 0, 1) := dgq (p := 6) daX0_searchWith_50 dbX0_searchWith_50.2.2.2.2.1
theorem dX0_searchWith_57 : decode cX0_searchWith 57 = .ok (.getfield 9, 3) := dgq (p := 7) daX0_searchWith_50 dbX0_searchWith_50.2.2.2.2.2.1
theorem dX0_searchWith_60 : decode cX0_searchWith 60 = .ok (.iload_n 3, 1) := dgq (p := 10) daX0_searchWith_50 dbX0_searchWith_50.2.2.2.2.2.2.1
theorem dX0_searchWith_61 : decode cX0_searchWith 61 = .ok (.iaload, 1) := dgq (p := 11) daX0_searchWith_50 dbX0_searchWith_50.2.2.2.2.2.2.2.1
theorem dX0_searchWith_62 : decode cX0_searchWith 62 = .ok (.aload_n 0, 1) := dgq (p := 12) daX0_searchWith_50 dbX0_searchWith_50.2.2.2.2.2.2.2.2.1
theorem dX0_searchWith_63 : decode cX0_searchWith 63 = .ok (.getfield 9, 3) := dgq (p := 13) daX0_searchWith_50 dbX0_searchWith_50.2.2.2.2.2.2.2.2.2
def dsX0_searchWith_66 : ByteArray := ⟨#[21, 4, 46, 182, 0, 41, 132, 4, 1, 167, 255, 198, 132, 3, 1, 167, 255, 179, 177]⟩
theorem daX0_searchWith_66 : agB cX0_searchWith dsX0_searchWith_66 66 := agB_of (n := 19) (by decide +kernel)
theorem dbX0_searchWith_66 : (decode dsX0_searchWith_66 0 = .ok (.iload 4, 2) ∧ okop dsX0_searchWith_66 0 = true) ∧ (decode dsX0_searchWith_66 2 = .ok (.iaload, 1) ∧ okop dsX0_searchWith_66 2 = true) ∧ (decode dsX0_searchWith_66 3 = .ok (.invokevirtual 41, 3) ∧ okop dsX0_searchWith_66 3 = true) ∧ (decode dsX0_searchWith_66 6 = .ok (.iinc 4 1, 3) ∧ okop dsX0_searchWith_66 6 = true) ∧ (decode dsX0_searchWith_66 9 = .ok (.goto (-58), 3) ∧ okop dsX0_searchWith_66 9 = true) ∧ (decode dsX0_searchWith_66 12 = .ok (.iinc 3 1, 3) ∧ okop dsX0_searchWith_66 12 = true) ∧ (decode dsX0_searchWith_66 15 = .ok (.goto (-77), 3) ∧ okop dsX0_searchWith_66 15 = true) ∧ (decode dsX0_searchWith_66 18 = .ok (.return_, 1) ∧ okop dsX0_searchWith_66 18 = true) := by decide +kernel
theorem dX0_searchWith_66 : decode cX0_searchWith 66 = .ok (.iload 4, 2) := dgq (p := 0) daX0_searchWith_66 dbX0_searchWith_66.1
theorem dX0_searchWith_68 : decode cX0_searchWith 68 = .ok (.iaload, 1) := dgq (p := 2) daX0_searchWith_66 dbX0_searchWith_66.2.1
theorem dX0_searchWith_69 : decode cX0_searchWith 69 = .ok (.invokevirtual 41, 3) := dgq (p := 3) daX0_searchWith_66 dbX0_searchWith_66.2.2.1
theorem dX0_searchWith_72 : decode cX0_searchWith 72 = .ok (.iinc 4 1, 3) := dgq (p := 6) daX0_searchWith_66 dbX0_searchWith_66.2.2.2.1
theorem dX0_searchWith_75 : decode cX0_searchWith 75 = .ok (.goto (-58), 3) := dgq (p := 9) daX0_searchWith_66 dbX0_searchWith_66.2.2.2.2.1
theorem dX0_searchWith_78 : decode cX0_searchWith 78 = .ok (.iinc 3 1, 3) := dgq (p := 12) daX0_searchWith_66 dbX0_searchWith_66.2.2.2.2.2.1
theorem dX0_searchWith_81 : decode cX0_searchWith 81 = .ok (.goto (-77), 3) := dgq (p := 15) daX0_searchWith_66 dbX0_searchWith_66.2.2.2.2.2.2.1
theorem dX0_searchWith_84 : decode cX0_searchWith 84 = .ok (.return_, 1) := dgq (p := 18) daX0_searchWith_66 dbX0_searchWith_66.2.2.2.2.2.2.2
def dsX0_compare_0 : ByteArray := ⟨#[28, 133, 21, 4, 133, 105, 55, 5, 27, 133, 29, 133]⟩
theorem daX0_compare_0 : agB cX0_compare dsX0_compare_0 0 := agB_of (n := 12) (by decide +kernel)
theorem dbX0_compare_0 : (decode dsX0_compare_0 0 = .ok (.iload_n 2, 1) ∧ okop dsX0_compare_0 0 = true) ∧ (decode dsX0_compare_0 1 = .ok (.i2l, 1) ∧ okop dsX0_compare_0 1 = true) ∧ (decode dsX0_compare_0 2 = .ok (.iload 4, 2) ∧ okop dsX0_compare_0 2 = true) ∧ (decode dsX0_compare_0 4 = .ok (.i2l, 1) ∧ okop dsX0_compare_0 4 = true) ∧ (decode dsX0_compare_0 5 = .ok (.lmul, 1) ∧ okop dsX0_compare_0 5 = true) ∧ (decode dsX0_compare_0 6 = .ok (.lstore 5, 2) ∧ okop dsX0_compare_0 6 = true) ∧ (decode dsX0_compare_0 8 = .ok (.iload_n 1, 1) ∧ okop dsX0_compare_0 8 = true) ∧ (decode dsX0_compare_0 9 = .ok (.i2l, 1) ∧ okop dsX0_compare_0 9 = true) ∧ (decode dsX0_compare_0 10 = .ok (.iload_n 3, 1) ∧ okop dsX0_compare_0 10 = true) ∧ (decode dsX0_compare_0 11 = .ok (.i2l, 1) ∧ okop dsX0_compare_0 11 = true) := by decide +kernel
theorem dX0_compare_0 : decode cX0_compare 0 = .ok (.iload_n 2, 1) := dgq (p := 0) daX0_compare_0 dbX0_compare_0.1
theorem dX0_compare_1 : decode cX0_compare 1 = .ok (.i2l, 1) := dgq (p := 1) daX0_compare_0 dbX0_compare_0.2.1
theorem dX0_compare_2 : decode cX0_compare 2 = .ok (.iload 4, 2) := dgq (p := 2) daX0_compare_0 dbX0_compare_0.2.2.1
theorem dX0_compare_4 : decode cX0_compare 4 = .ok (.i2l, 1) := dgq (p := 4) daX0_compare_0 dbX0_compare_0.2.2.2.1
theorem dX0_compare_5 : decode cX0_compare 5 = .ok (.lmul, 1) := dgq (p := 5) daX0_compare_0 dbX0_compare_0.2.2.2.2.1
theorem dX0_compare_6 : decode cX0_compare 6 = .ok (.lstore 5, 2) := dgq (p := 6) daX0_compare_0 dbX0_compare_0.2.2.2.2.2.1
theorem dX0_compare_8 : decode cX0_compare 8 = .ok (.iload_n 1, 1) := dgq (p := 8) daX0_compare_0 dbX0_compare_0.2.2.2.2.2.2.1
theorem dX0_compare_9 : decode cX0_compare 9 = .ok (.i2l, 1) := dgq (p := 9) daX0_compare_0 dbX0_compare_0.2.2.2.2.2.2.2.1
theorem dX0_compare_10 : decode cX0_compare 10 = .ok (.iload_n 3, 1) := dgq (p := 10) daX0_compare_0 dbX0_compare_0.2.2.2.2.2.2.2.2.1
theorem dX0_compare_11 : decode cX0_compare 11 = .ok (.i2l, 1) := dgq (p := 11) daX0_compare_0 dbX0_compare_0.2.2.2.2.2.2.2.2.2
def dsX0_compare_12 : ByteArray := ⟨#[105, 42, 180, 0, 26, 105, 22, 5, 42, 180, 0, 22, 105, 101, 184, 0, 45]⟩
theorem daX0_compare_12 : agB cX0_compare dsX0_compare_12 12 := agB_of (n := 17) (by decide +kernel)
theorem dbX0_compare_12 : (decode dsX0_compare_12 0 = .ok (.lmul, 1) ∧ okop dsX0_compare_12 0 = true) ∧ (decode dsX0_compare_12 1 = .ok (.aload_n 0, 1) ∧ okop dsX0_compare_12 1 = true) ∧ (decode dsX0_compare_12 2 = .ok (.getfield 26, 3) ∧ okop dsX0_compare_12 2 = true) ∧ (decode dsX0_compare_12 5 = .ok (.lmul, 1) ∧ okop dsX0_compare_12 5 = true) ∧ (decode dsX0_compare_12 6 = .ok (.lload 5, 2) ∧ okop dsX0_compare_12 6 = true) ∧ (decode dsX0_compare_12 8 = .ok (.aload_n 0, 1) ∧ okop dsX0_compare_12 8 = true) ∧ (decode dsX0_compare_12 9 = .ok (.getfield 22, 3) ∧ okop dsX0_compare_12 9 = true) ∧ (decode dsX0_compare_12 12 = .ok (.lmul, 1) ∧ okop dsX0_compare_12 12 = true) ∧ (decode dsX0_compare_12 13 = .ok (.lsub, 1) ∧ okop dsX0_compare_12 13 = true) ∧ (decode dsX0_compare_12 14 = .ok (.invokestatic 45, 3) ∧ okop dsX0_compare_12 14 = true) := by decide +kernel
theorem dX0_compare_12 : decode cX0_compare 12 = .ok (.lmul, 1) := dgq (p := 0) daX0_compare_12 dbX0_compare_12.1
theorem dX0_compare_13 : decode cX0_compare 13 = .ok (.aload_n 0, 1) := dgq (p := 1) daX0_compare_12 dbX0_compare_12.2.1
theorem dX0_compare_14 : decode cX0_compare 14 = .ok (.getfield 26, 3) := dgq (p := 2) daX0_compare_12 dbX0_compare_12.2.2.1
theorem dX0_compare_17 : decode cX0_compare 17 = .ok (.lmul, 1) := dgq (p := 5) daX0_compare_12 dbX0_compare_12.2.2.2.1
theorem dX0_compare_18 : decode cX0_compare 18 = .ok (.lload 5, 2) := dgq (p := 6) daX0_compare_12 dbX0_compare_12.2.2.2.2.1
theorem dX0_compare_20 : decode cX0_compare 20 = .ok (.aload_n 0, 1) := dgq (p := 8) daX0_compare_12 dbX0_compare_12.2.2.2.2.2.1
theorem dX0_compare_21 : decode cX0_compare 21 = .ok (.getfield 22, 3) := dgq (p := 9) daX0_compare_12 dbX0_compare_12.2.2.2.2.2.2.1
theorem dX0_compare_24 : decode cX0_compare 24 = .ok (.lmul, 1) := dgq (p := 12) daX0_compare_12 dbX0_compare_12.2.2.2.2.2.2.2.1
theorem dX0_compare_25 : decode cX0_compare 25 = .ok (.lsub, 1) := dgq (p := 13) daX0_compare_12 dbX0_compare_12.2.2.2.2.2.2.2.2.1
theorem dX0_compare_26 : decode cX0_compare 26 = .ok (.invokestatic 45, 3) := dgq (p := 14) daX0_compare_12 dbX0_compare_12.2.2.2.2.2.2.2.2.2
def dsX0_compare_29 : ByteArray := ⟨#[55, 7, 42, 180, 0, 34, 9, 148, 153, 0, 21, 22, 7, 42, 180, 0, 34, 105]⟩
theorem daX0_compare_29 : agB cX0_compare dsX0_compare_29 29 := agB_of (n := 18) (by decide +kernel)
theorem dbX0_compare_29 : (decode dsX0_compare_29 0 = .ok (.lstore 7, 2) ∧ okop dsX0_compare_29 0 = true) ∧ (decode dsX0_compare_29 2 = .ok (.aload_n 0, 1) ∧ okop dsX0_compare_29 2 = true) ∧ (decode dsX0_compare_29 3 = .ok (.getfield 34, 3) ∧ okop dsX0_compare_29 3 = true) ∧ (decode dsX0_compare_29 6 = .ok (.lconst 0, 1) ∧ okop dsX0_compare_29 6 = true) ∧ (decode dsX0_compare_29 7 = .ok (.lcmp, 1) ∧ okop dsX0_compare_29 7 = true) ∧ (decode dsX0_compare_29 8 = .ok (.ifCond .eq 21, 3) ∧ okop dsX0_compare_29 8 = true) ∧ (decode dsX0_compare_29 11 = .ok (.lload 7, 2) ∧ okop dsX0_compare_29 11 = true) ∧ (decode dsX0_compare_29 13 = .ok (.aload_n 0, 1) ∧ okop dsX0_compare_29 13 = true) ∧ (decode dsX0_compare_29 14 = .ok (.getfield 34, 3) ∧ okop dsX0_compare_29 14 = true) ∧ (decode dsX0_compare_29 17 = .ok (.lmul, 1) ∧ okop dsX0_compare_29 17 = true) := by decide +kernel
theorem dX0_compare_29 : decode cX0_compare 29 = .ok (.lstore 7, 2) := dgq (p := 0) daX0_compare_29 dbX0_compare_29.1
theorem dX0_compare_31 : decode cX0_compare 31 = .ok (.aload_n 0, 1) := dgq (p := 2) daX0_compare_29 dbX0_compare_29.2.1
theorem dX0_compare_32 : decode cX0_compare 32 = .ok (.getfield 34, 3) := dgq (p := 3) daX0_compare_29 dbX0_compare_29.2.2.1
theorem dX0_compare_35 : decode cX0_compare 35 = .ok (.lconst 0, 1) := dgq (p := 6) daX0_compare_29 dbX0_compare_29.2.2.2.1
theorem dX0_compare_36 : decode cX0_compare 36 = .ok (.lcmp, 1) := dgq (p := 7) daX0_compare_29 dbX0_compare_29.2.2.2.2.1
theorem dX0_compare_37 : decode cX0_compare 37 = .ok (.ifCond .eq 21, 3) := dgq (p := 8) daX0_compare_29 dbX0_compare_29.2.2.2.2.2.1
theorem dX0_compare_40 : decode cX0_compare 40 = .ok (.lload 7, 2) := dgq (p := 11) daX0_compare_29 dbX0_compare_29.2.2.2.2.2.2.1
theorem dX0_compare_42 : decode cX0_compare 42 = .ok (.aload_n 0, 1) := dgq (p := 13) daX0_compare_29 dbX0_compare_29.2.2.2.2.2.2.2.1
theorem dX0_compare_43 : decode cX0_compare 43 = .ok (.getfield 34, 3) := dgq (p := 14) daX0_compare_29 dbX0_compare_29.2.2.2.2.2.2.2.2.1
theorem dX0_compare_46 : decode cX0_compare 46 = .ok (.lmul, 1) := dgq (p := 17) daX0_compare_29 dbX0_compare_29.2.2.2.2.2.2.2.2.2
def dsX0_compare_47 : ByteArray := ⟨#[42, 180, 0, 31, 22, 5, 105, 148, 156, 0, 44, 42, 22, 7, 181, 0, 31, 42]⟩
theorem daX0_compare_47 : agB cX0_compare dsX0_compare_47 47 := agB_of (n := 18) (by decide +kernel)
theorem dbX0_compare_47 : (decode dsX0_compare_47 0 = .ok (.aload_n 0, 1) ∧ okop dsX0_compare_47 0 = true) ∧ (decode dsX0_compare_47 1 = .ok (.getfield 31, 3) ∧ okop dsX0_compare_47 1 = true) ∧ (decode dsX0_compare_47 4 = .ok (.lload 5, 2) ∧ okop dsX0_compare_47 4 = true) ∧ (decode dsX0_compare_47 6 = .ok (.lmul, 1) ∧ okop dsX0_compare_47 6 = true) ∧ (decode dsX0_compare_47 7 = .ok (.lcmp, 1) ∧ okop dsX0_compare_47 7 = true) ∧ (decode dsX0_compare_47 8 = .ok (.ifCond .ge 44, 3) ∧ okop dsX0_compare_47 8 = true) ∧ (decode dsX0_compare_47 11 = .ok (.aload_n 0, 1) ∧ okop dsX0_compare_47 11 = true) ∧ (decode dsX0_compare_47 12 = .ok (.lload 7, 2) ∧ okop dsX0_compare_47 12 = true) ∧ (decode dsX0_compare_47 14 = .ok (.putfield 31, 3) ∧ okop dsX0_compare_47 14 = true) ∧ (decode dsX0_compare_47 17 = .ok (.aload_n 0, 1) ∧ okop dsX0_compare_47 17 = true) := by decide +kernel
theorem dX0_compare_47 : decode cX0_compare 47 = .ok (.aload_n 0, 1) := dgq (p := 0) daX0_compare_47 dbX0_compare_47.1
theorem dX0_compare_48 : decode cX0_compare 48 = .ok (.getfield 31, 3) := dgq (p := 1) daX0_compare_47 dbX0_compare_47.2.1
theorem dX0_compare_51 : decode cX0_compare 51 = .ok (.lload 5, 2) := dgq (p := 4) daX0_compare_47 dbX0_compare_47.2.2.1
theorem dX0_compare_53 : decode cX0_compare 53 = .ok (.lmul, 1) := dgq (p := 6) daX0_compare_47 dbX0_compare_47.2.2.2.1
theorem dX0_compare_54 : decode cX0_compare 54 = .ok (.lcmp, 1) := dgq (p := 7) daX0_compare_47 dbX0_compare_47.2.2.2.2.1
theorem dX0_compare_55 : decode cX0_compare 55 = .ok (.ifCond .ge 44, 3) := dgq (p := 8) daX0_compare_47 dbX0_compare_47.2.2.2.2.2.1
theorem dX0_compare_58 : decode cX0_compare 58 = .ok (.aload_n 0, 1) := dgq (p := 11) daX0_compare_47 dbX0_compare_47.2.2.2.2.2.2.1
theorem dX0_compare_59 : decode cX0_compare 59 = .ok (.lload 7, 2) := dgq (p := 12) daX0_compare_47 dbX0_compare_47.2.2.2.2.2.2.2.1
theorem dX0_compare_61 : decode cX0_compare 61 = .ok (.putfield 31, 3) := dgq (p := 14) daX0_compare_47 dbX0_compare_47.2.2.2.2.2.2.2.2.1
theorem dX0_compare_64 : decode cX0_compare 64 = .ok (.aload_n 0, 1) := dgq (p := 17) daX0_compare_47 dbX0_compare_47.2.2.2.2.2.2.2.2.2
def dsX0_compare_65 : ByteArray := ⟨#[22, 5, 181, 0, 34, 42, 180, 0, 15, 3, 27, 79, 42, 180, 0, 15, 4]⟩
theorem daX0_compare_65 : agB cX0_compare dsX0_compare_65 65 := agB_of (n := 17) (by decide +kernel)
theorem dbX0_compare_65 : (decode dsX0_compare_65 0 = .ok (.lload 5, 2) ∧ okop dsX0_compare_65 0 = true) ∧ (decode dsX0_compare_65 2 = .ok (.putfield 34, 3) ∧ okop dsX0_compare_65 2 = true) ∧ (decode dsX0_compare_65 5 = .ok (.aload_n 0, 1) ∧ okop dsX0_compare_65 5 = true) ∧ (decode dsX0_compare_65 6 = .ok (.getfield 15, 3) ∧ okop dsX0_compare_65 6 = true) ∧ (decode dsX0_compare_65 9 = .ok (.iconst 0, 1) ∧ okop dsX0_compare_65 9 = true) ∧ (decode dsX0_compare_65 10 = .ok (.iload_n 1, 1) ∧ okop dsX0_compare_65 10 = true) ∧ (decode dsX0_compare_65 11 = .ok (.iastore, 1) ∧ okop dsX0_compare_65 11 = true) ∧ (decode dsX0_compare_65 12 = .ok (.aload_n 0, 1) ∧ okop dsX0_compare_65 12 = true) ∧ (decode dsX0_compare_65 13 = .ok (.getfield 15, 3) ∧ okop dsX0_compare_65 13 = true) ∧ (decode dsX0_compare_65 16 = .ok (.iconst 1, 1) ∧ okop dsX0_compare_65 16 = true) := by decide +kernel
theorem dX0_compare_65 : decode cX0_compare 65 = .ok (.lload 5, 2) := dgq (p := 0) daX0_compare_65 dbX0_compare_65.1
theorem dX0_compare_67 : decode cX0_compare 67 = .ok (.putfield 34, 3) := dgq (p := 2) daX0_compare_65 dbX0_compare_65.2.1
theorem dX0_compare_70 : decode cX0_compare 70 = .ok (.aload_n 0, 1) := dgq (p := 5) daX0_compare_65 dbX0_compare_65.2.2.1
theorem dX0_compare_71 : decode cX0_compare 71 = .ok (.getfield 15, 3) := dgq (p := 6) daX0_compare_65 dbX0_compare_65.2.2.2.1
theorem dX0_compare_74 : decode cX0_compare 74 = .ok (.iconst 0, 1) := dgq (p := 9) daX0_compare_65 dbX0_compare_65.2.2.2.2.1
theorem dX0_compare_75 : decode cX0_compare 75 = .ok (.iload_n 1, 1) := dgq (p := 10) daX0_compare_65 dbX0_compare_65.2.2.2.2.2.1
theorem dX0_compare_76 : decode cX0_compare 76 = .ok (.iastore, 1) := dgq (p := 11) daX0_compare_65 dbX0_compare_65.2.2.2.2.2.2.1
theorem dX0_compare_77 : decode cX0_compare 77 = .ok (.aload_n 0, 1) := dgq (p := 12) daX0_compare_65 dbX0_compare_65.2.2.2.2.2.2.2.1
theorem dX0_compare_78 : decode cX0_compare 78 = .ok (.getfield 15, 3) := dgq (p := 13) daX0_compare_65 dbX0_compare_65.2.2.2.2.2.2.2.2.1
theorem dX0_compare_81 : decode cX0_compare 81 = .ok (.iconst 1, 1) := dgq (p := 16) daX0_compare_65 dbX0_compare_65.2.2.2.2.2.2.2.2.2
def dsX0_compare_82 : ByteArray := ⟨#[28, 79, 42, 180, 0, 15, 5, 29, 79, 42, 180, 0, 15, 6]⟩
theorem daX0_compare_82 : agB cX0_compare dsX0_compare_82 82 := agB_of (n := 14) (by decide +kernel)
theorem dbX0_compare_82 : (decode dsX0_compare_82 0 = .ok (.iload_n 2, 1) ∧ okop dsX0_compare_82 0 = true) ∧ (decode dsX0_compare_82 1 = .ok (.iastore, 1) ∧ okop dsX0_compare_82 1 = true) ∧ (decode dsX0_compare_82 2 = .ok (.aload_n 0, 1) ∧ okop dsX0_compare_82 2 = true) ∧ (decode dsX0_compare_82 3 = .ok (.getfield 15, 3) ∧ okop dsX0_compare_82 3 = true) ∧ (decode dsX0_compare_82 6 = .ok (.iconst 2, 1) ∧ okop dsX0_compare_82 6 = true) ∧ (decode dsX0_compare_82 7 = .ok (.iload_n 3, 1) ∧ okop dsX0_compare_82 7 = true) ∧ (decode dsX0_compare_82 8 = .ok (.iastore, 1) ∧ okop dsX0_compare_82 8 = true) ∧ (decode dsX0_compare_82 9 = .ok (.aload_n 0, 1) ∧ okop dsX0_compare_82 9 = true) ∧ (decode dsX0_compare_82 10 = .ok (.getfield 15, 3) ∧ okop dsX0_compare_82 10 = true) ∧ (decode dsX0_compare_82 13 = .ok (.iconst 3, 1) ∧ okop dsX0_compare_82 13 = true) := by decide +kernel
theorem dX0_compare_82 : decode cX0_compare 82 = .ok (.iload_n 2, 1) := dgq (p := 0) daX0_compare_82 dbX0_compare_82.1
theorem dX0_compare_83 : decode cX0_compare 83 = .ok (.iastore, 1) := dgq (p := 1) daX0_compare_82 dbX0_compare_82.2.1
theorem dX0_compare_84 : decode cX0_compare 84 = .ok (.aload_n 0, 1) := dgq (p := 2) daX0_compare_82 dbX0_compare_82.2.2.1
theorem dX0_compare_85 : decode cX0_compare 85 = .ok (.getfield 15, 3) := dgq (p := 3) daX0_compare_82 dbX0_compare_82.2.2.2.1
theorem dX0_compare_88 : decode cX0_compare 88 = .ok (.iconst 2, 1) := dgq (p := 6) daX0_compare_82 dbX0_compare_82.2.2.2.2.1
theorem dX0_compare_89 : decode cX0_compare 89 = .ok (.iload_n 3, 1) := dgq (p := 7) daX0_compare_82 dbX0_compare_82.2.2.2.2.2.1
theorem dX0_compare_90 : decode cX0_compare 90 = .ok (.iastore, 1) := dgq (p := 8) daX0_compare_82 dbX0_compare_82.2.2.2.2.2.2.1
theorem dX0_compare_91 : decode cX0_compare 91 = .ok (.aload_n 0, 1) := dgq (p := 9) daX0_compare_82 dbX0_compare_82.2.2.2.2.2.2.2.1
theorem dX0_compare_92 : decode cX0_compare 92 = .ok (.getfield 15, 3) := dgq (p := 10) daX0_compare_82 dbX0_compare_82.2.2.2.2.2.2.2.2.1
theorem dX0_compare_95 : decode cX0_compare 95 = .ok (.iconst 3, 1) := dgq (p := 13) daX0_compare_82 dbX0_compare_82.2.2.2.2.2.2.2.2.2
def dsX0_compare_96 : ByteArray := ⟨#[21, 4, 79, 177]⟩
theorem daX0_compare_96 : agB cX0_compare dsX0_compare_96 96 := agB_of (n := 4) (by decide +kernel)
theorem dbX0_compare_96 : (decode dsX0_compare_96 0 = .ok (.iload 4, 2) ∧ okop dsX0_compare_96 0 = true) ∧ (decode dsX0_compare_96 2 = .ok (.iastore, 1) ∧ okop dsX0_compare_96 2 = true) ∧ (decode dsX0_compare_96 3 = .ok (.return_, 1) ∧ okop dsX0_compare_96 3 = true) := by decide +kernel
theorem dX0_compare_96 : decode cX0_compare 96 = .ok (.iload 4, 2) := dgq (p := 0) daX0_compare_96 dbX0_compare_96.1
theorem dX0_compare_98 : decode cX0_compare 98 = .ok (.iastore, 1) := dgq (p := 2) daX0_compare_96 dbX0_compare_96.2.1
theorem dX0_compare_99 : decode cX0_compare 99 = .ok (.return_, 1) := dgq (p := 3) daX0_compare_96 dbX0_compare_96.2.2
def dsX0_isMet_0 : ByteArray := ⟨#[20, 0, 51, 42, 180, 0, 31, 105, 27, 133, 42, 180, 0, 22, 105, 42]⟩
theorem daX0_isMet_0 : agB cX0_isMet dsX0_isMet_0 0 := agB_of (n := 16) (by decide +kernel)
theorem dbX0_isMet_0 : (decode dsX0_isMet_0 0 = .ok (.ldc2_w 51, 3) ∧ okop dsX0_isMet_0 0 = true) ∧ (decode dsX0_isMet_0 3 = .ok (.aload_n 0, 1) ∧ okop dsX0_isMet_0 3 = true) ∧ (decode dsX0_isMet_0 4 = .ok (.getfield 31, 3) ∧ okop dsX0_isMet_0 4 = true) ∧ (decode dsX0_isMet_0 7 = .ok (.lmul, 1) ∧ okop dsX0_isMet_0 7 = true) ∧ (decode dsX0_isMet_0 8 = .ok (.iload_n 1, 1) ∧ okop dsX0_isMet_0 8 = true) ∧ (decode dsX0_isMet_0 9 = .ok (.i2l, 1) ∧ okop dsX0_isMet_0 9 = true) ∧ (decode dsX0_isMet_0 10 = .ok (.aload_n 0, 1) ∧ okop dsX0_isMet_0 10 = true) ∧ (decode dsX0_isMet_0 11 = .ok (.getfield 22, 3) ∧ okop dsX0_isMet_0 11 = true) ∧ (decode dsX0_isMet_0 14 = .ok (.lmul, 1) ∧ okop dsX0_isMet_0 14 = true) ∧ (decode dsX0_isMet_0 15 = .ok (.aload_n 0, 1) ∧ okop dsX0_isMet_0 15 = true) := by decide +kernel
theorem dX0_isMet_0 : decode cX0_isMet 0 = .ok (.ldc2_w 51, 3) := dgq (p := 0) daX0_isMet_0 dbX0_isMet_0.1
theorem dX0_isMet_3 : decode cX0_isMet 3 = .ok (.aload_n 0, 1) := dgq (p := 3) daX0_isMet_0 dbX0_isMet_0.2.1
theorem dX0_isMet_4 : decode cX0_isMet 4 = .ok (.getfield 31, 3) := dgq (p := 4) daX0_isMet_0 dbX0_isMet_0.2.2.1
theorem dX0_isMet_7 : decode cX0_isMet 7 = .ok (.lmul, 1) := dgq (p := 7) daX0_isMet_0 dbX0_isMet_0.2.2.2.1
theorem dX0_isMet_8 : decode cX0_isMet 8 = .ok (.iload_n 1, 1) := dgq (p := 8) daX0_isMet_0 dbX0_isMet_0.2.2.2.2.1
theorem dX0_isMet_9 : decode cX0_isMet 9 = .ok (.i2l, 1) := dgq (p := 9) daX0_isMet_0 dbX0_isMet_0.2.2.2.2.2.1
theorem dX0_isMet_10 : decode cX0_isMet 10 = .ok (.aload_n 0, 1) := dgq (p := 10) daX0_isMet_0 dbX0_isMet_0.2.2.2.2.2.2.1
theorem dX0_isMet_11 : decode cX0_isMet 11 = .ok (.getfield 22, 3) := dgq (p := 11) daX0_isMet_0 dbX0_isMet_0.2.2.2.2.2.2.2.1
theorem dX0_isMet_14 : decode cX0_isMet 14 = .ok (.lmul, 1) := dgq (p := 14) daX0_isMet_0 dbX0_isMet_0.2.2.2.2.2.2.2.2.1
theorem dX0_isMet_15 : decode cX0_isMet 15 = .ok (.aload_n 0, 1) := dgq (p := 15) daX0_isMet_0 dbX0_isMet_0.2.2.2.2.2.2.2.2.2
def dsX0_isMet_16 : ByteArray := ⟨#[180, 0, 34, 105, 148, 157, 0, 7, 4, 167, 0, 4, 3, 172]⟩
theorem daX0_isMet_16 : agB cX0_isMet dsX0_isMet_16 16 := agB_of (n := 14) (by decide +kernel)
theorem dbX0_isMet_16 : (decode dsX0_isMet_16 0 = .ok (.getfield 34, 3) ∧ okop dsX0_isMet_16 0 = true) ∧ (decode dsX0_isMet_16 3 = .ok (.lmul, 1) ∧ okop dsX0_isMet_16 3 = true) ∧ (decode dsX0_isMet_16 4 = .ok (.lcmp, 1) ∧ okop dsX0_isMet_16 4 = true) ∧ (decode dsX0_isMet_16 5 = .ok (.ifCond .gt 7, 3) ∧ okop dsX0_isMet_16 5 = true) ∧ (decode dsX0_isMet_16 8 = .ok (.iconst 1, 1) ∧ okop dsX0_isMet_16 8 = true) ∧ (decode dsX0_isMet_16 9 = .ok (.goto 4, 3) ∧ okop dsX0_isMet_16 9 = true) ∧ (decode dsX0_isMet_16 12 = .ok (.iconst 0, 1) ∧ okop dsX0_isMet_16 12 = true) ∧ (decode dsX0_isMet_16 13 = .ok (.ireturn, 1) ∧ okop dsX0_isMet_16 13 = true) := by decide +kernel
theorem dX0_isMet_16 : decode cX0_isMet 16 = .ok (.getfield 34, 3) := dgq (p := 0) daX0_isMet_16 dbX0_isMet_16.1
theorem dX0_isMet_19 : decode cX0_isMet 19 = .ok (.lmul, 1) := dgq (p := 3) daX0_isMet_16 dbX0_isMet_16.2.1
theorem dX0_isMet_20 : decode cX0_isMet 20 = .ok (.lcmp, 1) := dgq (p := 4) daX0_isMet_16 dbX0_isMet_16.2.2.1
theorem dX0_isMet_21 : decode cX0_isMet 21 = .ok (.ifCond .gt 7, 3) := dgq (p := 5) daX0_isMet_16 dbX0_isMet_16.2.2.2.1
theorem dX0_isMet_24 : decode cX0_isMet 24 = .ok (.iconst 1, 1) := dgq (p := 8) daX0_isMet_16 dbX0_isMet_16.2.2.2.2.1
theorem dX0_isMet_25 : decode cX0_isMet 25 = .ok (.goto 4, 3) := dgq (p := 9) daX0_isMet_16 dbX0_isMet_16.2.2.2.2.2.1
theorem dX0_isMet_28 : decode cX0_isMet 28 = .ok (.iconst 0, 1) := dgq (p := 12) daX0_isMet_16 dbX0_isMet_16.2.2.2.2.2.2.1
theorem dX0_isMet_29 : decode cX0_isMet 29 = .ok (.ireturn, 1) := dgq (p := 13) daX0_isMet_16 dbX0_isMet_16.2.2.2.2.2.2.2
theorem dX1_init_6 : decode cX1_init 6 = .ok (.newarray .int, 2) := by decide +kernel
theorem dX1_init_13 : decode cX1_init 13 = .ok (.newarray .int, 2) := by decide +kernel
def dsX1_init_0 : ByteArray := ⟨#[42, 183, 0, 1, 42, 27, 188, 10, 181, 0, 7, 42, 27, 188, 10, 181, 0, 13, 177]⟩
theorem daX1_init_0 : agB cX1_init dsX1_init_0 0 := agB_of (n := 19) (by decide +kernel)
theorem dbX1_init_0 : (decode dsX1_init_0 0 = .ok (.aload_n 0, 1) ∧ okop dsX1_init_0 0 = true) ∧ (decode dsX1_init_0 1 = .ok (.invokespecial 1, 3) ∧ okop dsX1_init_0 1 = true) ∧ (decode dsX1_init_0 4 = .ok (.aload_n 0, 1) ∧ okop dsX1_init_0 4 = true) ∧ (decode dsX1_init_0 5 = .ok (.iload_n 1, 1) ∧ okop dsX1_init_0 5 = true) ∧ (decode dsX1_init_0 8 = .ok (.putfield 7, 3) ∧ okop dsX1_init_0 8 = true) ∧ (decode dsX1_init_0 11 = .ok (.aload_n 0, 1) ∧ okop dsX1_init_0 11 = true) ∧ (decode dsX1_init_0 12 = .ok (.iload_n 1, 1) ∧ okop dsX1_init_0 12 = true) ∧ (decode dsX1_init_0 15 = .ok (.putfield 13, 3) ∧ okop dsX1_init_0 15 = true) ∧ (decode dsX1_init_0 18 = .ok (.return_, 1) ∧ okop dsX1_init_0 18 = true) := by decide +kernel
theorem dX1_init_0 : decode cX1_init 0 = .ok (.aload_n 0, 1) := dgq (p := 0) daX1_init_0 dbX1_init_0.1
theorem dX1_init_1 : decode cX1_init 1 = .ok (.invokespecial 1, 3) := dgq (p := 1) daX1_init_0 dbX1_init_0.2.1
theorem dX1_init_4 : decode cX1_init 4 = .ok (.aload_n 0, 1) := dgq (p := 4) daX1_init_0 dbX1_init_0.2.2.1
theorem dX1_init_5 : decode cX1_init 5 = .ok (.iload_n 1, 1) := dgq (p := 5) daX1_init_0 dbX1_init_0.2.2.2.1
theorem dX1_init_8 : decode cX1_init 8 = .ok (.putfield 7, 3) := dgq (p := 8) daX1_init_0 dbX1_init_0.2.2.2.2.1
theorem dX1_init_11 : decode cX1_init 11 = .ok (.aload_n 0, 1) := dgq (p := 11) daX1_init_0 dbX1_init_0.2.2.2.2.2.1
theorem dX1_init_12 : decode cX1_init 12 = .ok (.iload_n 1, 1) := dgq (p := 12) daX1_init_0 dbX1_init_0.2.2.2.2.2.2.1
theorem dX1_init_15 : decode cX1_init 15 = .ok (.putfield 13, 3) := dgq (p := 15) daX1_init_0 dbX1_init_0.2.2.2.2.2.2.2.1
theorem dX1_init_18 : decode cX1_init 18 = .ok (.return_, 1) := dgq (p := 18) daX1_init_0 dbX1_init_0.2.2.2.2.2.2.2.2
set_option maxRecDepth 20000 in
theorem ggX1_tell_X1_measure : GoodIn wsX1_tell wsX1_measure := goodIn_ca (goodIn_ca (goodIn_ca (goodIn_q _ [6, 1, 7, 8, 9, 10, 11, 12, 13, 14, 15, 16, 17, 18, 5, 19] rfl (by decide +kernel)) (goodIn_sub (fun _ h => (List.mem_cons_of_mem _ (List.mem_append_left _ (List.mem_append_left _ (List.mem_append_right _ h))))) tg_wsX10)) (goodIn_sub (fun _ h => List.mem_cons_of_mem _ (List.mem_append_right _ h)) (by decide +kernel))) (goodIn_sub (fun _ h => List.mem_cons_of_mem _ (List.mem_append_left _ (List.mem_append_right _ h))) (by decide +kernel))
set_option maxRecDepth 20000 in
theorem gX1_tell_X1_measure : GoodIn wsX1_tell (wsV RX1 16 RX1 yX1_measure wsX1_measure) := goodIn_app (goodIn_q _ [2, 3, 4, 5] rfl (by decide +kernel)) ggX1_tell_X1_measure
def dsX1_tell_0 : ByteArray := ⟨#[27, 155, 0, 12, 27, 42, 180, 0, 7, 190, 161, 0, 5, 3, 172, 42]⟩
theorem daX1_tell_0 : agB cX1_tell dsX1_tell_0 0 := agB_of (n := 16) (by decide +kernel)
theorem dbX1_tell_0 : (decode dsX1_tell_0 0 = .ok (.iload_n 1, 1) ∧ okop dsX1_tell_0 0 = true) ∧ (decode dsX1_tell_0 1 = .ok (.ifCond .lt 12, 3) ∧ okop dsX1_tell_0 1 = true) ∧ (decode dsX1_tell_0 4 = .ok (.iload_n 1, 1) ∧ okop dsX1_tell_0 4 = true) ∧ (decode dsX1_tell_0 5 = .ok (.aload_n 0, 1) ∧ okop dsX1_tell_0 5 = true) ∧ (decode dsX1_tell_0 6 = .ok (.getfield 7, 3) ∧ okop dsX1_tell_0 6 = true) ∧ (decode dsX1_tell_0 9 = .ok (.arraylength, 1) ∧ okop dsX1_tell_0 9 = true) ∧ (decode dsX1_tell_0 10 = .ok (.if_icmp .lt 5, 3) ∧ okop dsX1_tell_0 10 = true) ∧ (decode dsX1_tell_0 13 = .ok (.iconst 0, 1) ∧ okop dsX1_tell_0 13 = true) ∧ (decode dsX1_tell_0 14 = .ok (.ireturn, 1) ∧ okop dsX1_tell_0 14 = true) ∧ (decode dsX1_tell_0 15 = .ok (.aload_n 0, 1) ∧ okop dsX1_tell_0 15 = true) := by decide +kernel
theorem dX1_tell_0 : decode cX1_tell 0 = .ok (.iload_n 1, 1) := dgq (p := 0) daX1_tell_0 dbX1_tell_0.1
theorem dX1_tell_1 : decode cX1_tell 1 = .ok (.ifCond .lt 12, 3) := dgq (p := 1) daX1_tell_0 dbX1_tell_0.2.1
theorem dX1_tell_4 : decode cX1_tell 4 = .ok (.iload_n 1, 1) := dgq (p := 4) daX1_tell_0 dbX1_tell_0.2.2.1
theorem dX1_tell_5 : decode cX1_tell 5 = .ok (.aload_n 0, 1) := dgq (p := 5) daX1_tell_0 dbX1_tell_0.2.2.2.1
theorem dX1_tell_6 : decode cX1_tell 6 = .ok (.getfield 7, 3) := dgq (p := 6) daX1_tell_0 dbX1_tell_0.2.2.2.2.1
theorem dX1_tell_9 : decode cX1_tell 9 = .ok (.arraylength, 1) := dgq (p := 9) daX1_tell_0 dbX1_tell_0.2.2.2.2.2.1
theorem dX1_tell_10 : decode cX1_tell 10 = .ok (.if_icmp .lt 5, 3) := dgq (p := 10) daX1_tell_0 dbX1_tell_0.2.2.2.2.2.2.1
theorem dX1_tell_13 : decode cX1_tell 13 = .ok (.iconst 0, 1) := dgq (p := 13) daX1_tell_0 dbX1_tell_0.2.2.2.2.2.2.2.1
theorem dX1_tell_14 : decode cX1_tell 14 = .ok (.ireturn, 1) := dgq (p := 14) daX1_tell_0 dbX1_tell_0.2.2.2.2.2.2.2.2.1
theorem dX1_tell_15 : decode cX1_tell 15 = .ok (.aload_n 0, 1) := dgq (p := 15) daX1_tell_0 dbX1_tell_0.2.2.2.2.2.2.2.2.2
def dsX1_tell_16 : ByteArray := ⟨#[180, 0, 7, 27, 46, 62, 42, 180, 0, 7, 27, 28, 79, 42]⟩
theorem daX1_tell_16 : agB cX1_tell dsX1_tell_16 16 := agB_of (n := 14) (by decide +kernel)
theorem dbX1_tell_16 : (decode dsX1_tell_16 0 = .ok (.getfield 7, 3) ∧ okop dsX1_tell_16 0 = true) ∧ (decode dsX1_tell_16 3 = .ok (.iload_n 1, 1) ∧ okop dsX1_tell_16 3 = true) ∧ (decode dsX1_tell_16 4 = .ok (.iaload, 1) ∧ okop dsX1_tell_16 4 = true) ∧ (decode dsX1_tell_16 5 = .ok (.istore_n 3, 1) ∧ okop dsX1_tell_16 5 = true) ∧ (decode dsX1_tell_16 6 = .ok (.aload_n 0, 1) ∧ okop dsX1_tell_16 6 = true) ∧ (decode dsX1_tell_16 7 = .ok (.getfield 7, 3) ∧ okop dsX1_tell_16 7 = true) ∧ (decode dsX1_tell_16 10 = .ok (.iload_n 1, 1) ∧ okop dsX1_tell_16 10 = true) ∧ (decode dsX1_tell_16 11 = .ok (.iload_n 2, 1) ∧ okop dsX1_tell_16 11 = true) ∧ (decode dsX1_tell_16 12 = .ok (.iastore, 1) ∧ okop dsX1_tell_16 12 = true) ∧ (decode dsX1_tell_16 13 = .ok (.aload_n 0, 1) ∧ okop dsX1_tell_16 13 = true) := by decide +kernel
theorem dX1_tell_16 : decode cX1_tell 16 = .ok (.getfield 7, 3) := dgq (p := 0) daX1_tell_16 dbX1_tell_16.1
theorem dX1_tell_19 : decode cX1_tell 19 = .ok (.iload_n 1, 1) := dgq (p := 3) daX1_tell_16 dbX1_tell_16.2.1
theorem dX1_tell_20 : decode cX1_tell 20 = .ok (.iaload, 1) := dgq (p := 4) daX1_tell_16 dbX1_tell_16.2.2.1
theorem dX1_tell_21 : decode cX1_tell 21 = .ok (.istore_n 3, 1) := dgq (p := 5) daX1_tell_16 dbX1_tell_16.2.2.2.1
theorem dX1_tell_22 : decode cX1_tell 22 = .ok (.aload_n 0, 1) := dgq (p := 6) daX1_tell_16 dbX1_tell_16.2.2.2.2.1
theorem dX1_tell_23 : decode cX1_tell 23 = .ok (.getfield 7, 3) := dgq (p := 7) daX1_tell_16 dbX1_tell_16.2.2.2.2.2.1
theorem dX1_tell_26 : decode cX1_tell 26 = .ok (.iload_n 1, 1) := dgq (p := 10) daX1_tell_16 dbX1_tell_16.2.2.2.2.2.2.1
theorem dX1_tell_27 : decode cX1_tell 27 = .ok (.iload_n 2, 1) := dgq (p := 11) daX1_tell_16 dbX1_tell_16.2.2.2.2.2.2.2.1
theorem dX1_tell_28 : decode cX1_tell 28 = .ok (.iastore, 1) := dgq (p := 12) daX1_tell_16 dbX1_tell_16.2.2.2.2.2.2.2.2.1
theorem dX1_tell_29 : decode cX1_tell 29 = .ok (.aload_n 0, 1) := dgq (p := 13) daX1_tell_16 dbX1_tell_16.2.2.2.2.2.2.2.2.2
def dsX1_tell_30 : ByteArray := ⟨#[182, 0, 16, 29, 172]⟩
theorem daX1_tell_30 : agB cX1_tell dsX1_tell_30 30 := agB_of (n := 5) (by decide +kernel)
theorem dbX1_tell_30 : (decode dsX1_tell_30 0 = .ok (.invokevirtual 16, 3) ∧ okop dsX1_tell_30 0 = true) ∧ (decode dsX1_tell_30 3 = .ok (.iload_n 3, 1) ∧ okop dsX1_tell_30 3 = true) ∧ (decode dsX1_tell_30 4 = .ok (.ireturn, 1) ∧ okop dsX1_tell_30 4 = true) := by decide +kernel
theorem dX1_tell_30 : decode cX1_tell 30 = .ok (.invokevirtual 16, 3) := dgq (p := 0) daX1_tell_30 dbX1_tell_30.1
theorem dX1_tell_33 : decode cX1_tell 33 = .ok (.iload_n 3, 1) := dgq (p := 3) daX1_tell_30 dbX1_tell_30.2.1
theorem dX1_tell_34 : decode cX1_tell 34 = .ok (.ireturn, 1) := dgq (p := 4) daX1_tell_30 dbX1_tell_30.2.2
set_option maxRecDepth 20000 in
theorem ggX1_measure_X1_sumOfClass : GoodIn wsX1_measure wsX1_sumOfClass := goodIn_ca (goodIn_ca (goodIn_q _ [15, 1] rfl (by decide +kernel)) (goodIn_sub (fun _ h => (List.mem_cons_of_mem _ (List.mem_append_left _ (List.mem_append_left _ (List.mem_append_right _ h))))) tg_wsX10)) (goodIn_sub (fun _ h => List.mem_cons_of_mem _ (List.mem_append_right _ h)) (by decide +kernel))
set_option maxRecDepth 20000 in
theorem gX1_measure_X1_sumOfClass : GoodIn wsX1_measure (wsV RX1 19 RX1 yX1_sumOfClass wsX1_sumOfClass) := goodIn_app (goodIn_q _ [11, 12, 13, 14] rfl (by decide +kernel)) ggX1_measure_X1_sumOfClass
def dsX1_measure_0 : ByteArray := ⟨#[42, 3, 4, 182, 0, 19, 133, 64, 9, 66, 9, 55, 5]⟩
theorem daX1_measure_0 : agB cX1_measure dsX1_measure_0 0 := agB_of (n := 13) (by decide +kernel)
theorem dbX1_measure_0 : (decode dsX1_measure_0 0 = .ok (.aload_n 0, 1) ∧ okop dsX1_measure_0 0 = true) ∧ (decode dsX1_measure_0 1 = .ok (.iconst 0, 1) ∧ okop dsX1_measure_0 1 = true) ∧ (decode dsX1_measure_0 2 = .ok (.iconst 1, 1) ∧ okop dsX1_measure_0 2 = true) ∧ (decode dsX1_measure_0 3 = .ok (.invokevirtual 19, 3) ∧ okop dsX1_measure_0 3 = true) ∧ (decode dsX1_measure_0 6 = .ok (.i2l, 1) ∧ okop dsX1_measure_0 6 = true) ∧ (decode dsX1_measure_0 7 = .ok (.lstore_n 1, 1) ∧ okop dsX1_measure_0 7 = true) ∧ (decode dsX1_measure_0 8 = .ok (.lconst 0, 1) ∧ okop dsX1_measure_0 8 = true) ∧ (decode dsX1_measure_0 9 = .ok (.lstore_n 3, 1) ∧ okop dsX1_measure_0 9 = true) ∧ (decode dsX1_measure_0 10 = .ok (.lconst 0, 1) ∧ okop dsX1_measure_0 10 = true) ∧ (decode dsX1_measure_0 11 = .ok (.lstore 5, 2) ∧ okop dsX1_measure_0 11 = true) := by decide +kernel
theorem dX1_measure_0 : decode cX1_measure 0 = .ok (.aload_n 0, 1) := dgq (p := 0) daX1_measure_0 dbX1_measure_0.1
theorem dX1_measure_1 : decode cX1_measure 1 = .ok (.iconst 0, 1) := dgq (p := 1) daX1_measure_0 dbX1_measure_0.2.1
theorem dX1_measure_2 : decode cX1_measure 2 = .ok (.iconst 1, 1) := dgq (p := 2) daX1_measure_0 dbX1_measure_0.2.2.1
theorem dX1_measure_3 : decode cX1_measure 3 = .ok (.invokevirtual 19, 3) := dgq (p := 3) daX1_measure_0 dbX1_measure_0.2.2.2.1
theorem dX1_measure_6 : decode cX1_measure 6 = .ok (.i2l, 1) := dgq (p := 6) daX1_measure_0 dbX1_measure_0.2.2.2.2.1
theorem dX1_measure_7 : decode cX1_measure 7 = .ok (.lstore_n 1, 1) := dgq (p := 7) daX1_measure_0 dbX1_measure_0.2.2.2.2.2.1
theorem dX1_measure_8 : decode cX1_measure 8 = .ok (.lconst 0, 1) := dgq (p := 8) daX1_measure_0 dbX1_measure_0.2.2.2.2.2.2.1
theorem dX1_measure_9 : decode cX1_measure 9 = .ok (.lstore_n 3, 1) := dgq (p := 9) daX1_measure_0 dbX1_measure_0.2.2.2.2.2.2.2.1
theorem dX1_measure_10 : decode cX1_measure 10 = .ok (.lconst 0, 1) := dgq (p := 10) daX1_measure_0 dbX1_measure_0.2.2.2.2.2.2.2.2.1
theorem dX1_measure_11 : decode cX1_measure 11 = .ok (.lstore 5, 2) := dgq (p := 11) daX1_measure_0 dbX1_measure_0.2.2.2.2.2.2.2.2.2
def dsX1_measure_13 : ByteArray := ⟨#[9, 55, 7, 3, 54, 9, 21, 9, 42, 180, 0, 7, 190, 162, 0, 88, 42]⟩
theorem daX1_measure_13 : agB cX1_measure dsX1_measure_13 13 := agB_of (n := 17) (by decide +kernel)
theorem dbX1_measure_13 : (decode dsX1_measure_13 0 = .ok (.lconst 0, 1) ∧ okop dsX1_measure_13 0 = true) ∧ (decode dsX1_measure_13 1 = .ok (.lstore 7, 2) ∧ okop dsX1_measure_13 1 = true) ∧ (decode dsX1_measure_13 3 = .ok (.iconst 0, 1) ∧ okop dsX1_measure_13 3 = true) ∧ (decode dsX1_measure_13 4 = .ok (.istore 9, 2) ∧ okop dsX1_measure_13 4 = true) ∧ (decode dsX1_measure_13 6 = .ok (.iload 9, 2) ∧ okop dsX1_measure_13 6 = true) ∧ (decode dsX1_measure_13 8 = .ok (.aload_n 0, 1) ∧ okop dsX1_measure_13 8 = true) ∧ (decode dsX1_measure_13 9 = .ok (.getfield 7, 3) ∧ okop dsX1_measure_13 9 = true) ∧ (decode dsX1_measure_13 12 = .ok (.arraylength, 1) ∧ okop dsX1_measure_13 12 = true) ∧ (decode dsX1_measure_13 13 = .ok (.if_icmp .ge 88, 3) ∧ okop dsX1_measure_13 13 = true) ∧ (decode dsX1_measure_13 16 = .ok (.aload_n 0, 1) ∧ okop dsX1_measure_13 16 = true) := by decide +kernel
theorem dX1_measure_13 : decode cX1_measure 13 = .ok (.lconst 0, 1) := dgq (p := 0) daX1_measure_13 dbX1_measure_13.1
theorem dX1_measure_14 : decode cX1_measure 14 = .ok (.lstore 7, 2) := dgq (p := 1) daX1_measure_13 dbX1_measure_13.2.1
theorem dX1_measure_16 : decode cX1_measure 16 = .ok (.iconst 0, 1) := dgq (p := 3) daX1_measure_13 dbX1_measure_13.2.2.1
theorem dX1_measure_17 : decode cX1_measure 17 = .ok (.istore 9, 2) := dgq (p := 4) daX1_measure_13 dbX1_measure_13.2.2.2.1
theorem dX1_measure_19 : decode cX1_measure 19 = .ok (.iload 9, 2) := dgq (p := 6) daX1_measure_13 dbX1_measure_13.2.2.2.2.1
theorem dX1_measure_21 : decode cX1_measure 21 = .ok (.aload_n 0, 1) := dgq (p := 8) daX1_measure_13 dbX1_measure_13.2.2.2.2.2.1
theorem dX1_measure_22 : decode cX1_measure 22 = .ok (.getfield 7, 3) := dgq (p := 9) daX1_measure_13 dbX1_measure_13.2.2.2.2.2.2.1
theorem dX1_measure_25 : decode cX1_measure 25 = .ok (.arraylength, 1) := dgq (p := 12) daX1_measure_13 dbX1_measure_13.2.2.2.2.2.2.2.1
theorem dX1_measure_26 : decode cX1_measure 26 = .ok (.if_icmp .ge 88, 3) := dgq (p := 13) daX1_measure_13 dbX1_measure_13.2.2.2.2.2.2.2.2.1
theorem dX1_measure_29 : decode cX1_measure 29 = .ok (.aload_n 0, 1) := dgq (p := 16) daX1_measure_13 dbX1_measure_13.2.2.2.2.2.2.2.2.2
def dsX1_measure_30 : ByteArray := ⟨#[180, 0, 7, 190, 133, 33, 105, 21, 9, 133, 31, 105, 101]⟩
theorem daX1_measure_30 : agB cX1_measure dsX1_measure_30 30 := agB_of (n := 13) (by decide +kernel)
theorem dbX1_measure_30 : (decode dsX1_measure_30 0 = .ok (.getfield 7, 3) ∧ okop dsX1_measure_30 0 = true) ∧ (decode dsX1_measure_30 3 = .ok (.arraylength, 1) ∧ okop dsX1_measure_30 3 = true) ∧ (decode dsX1_measure_30 4 = .ok (.i2l, 1) ∧ okop dsX1_measure_30 4 = true) ∧ (decode dsX1_measure_30 5 = .ok (.lload_n 3, 1) ∧ okop dsX1_measure_30 5 = true) ∧ (decode dsX1_measure_30 6 = .ok (.lmul, 1) ∧ okop dsX1_measure_30 6 = true) ∧ (decode dsX1_measure_30 7 = .ok (.iload 9, 2) ∧ okop dsX1_measure_30 7 = true) ∧ (decode dsX1_measure_30 9 = .ok (.i2l, 1) ∧ okop dsX1_measure_30 9 = true) ∧ (decode dsX1_measure_30 10 = .ok (.lload_n 1, 1) ∧ okop dsX1_measure_30 10 = true) ∧ (decode dsX1_measure_30 11 = .ok (.lmul, 1) ∧ okop dsX1_measure_30 11 = true) ∧ (decode dsX1_measure_30 12 = .ok (.lsub, 1) ∧ okop dsX1_measure_30 12 = true) := by decide +kernel
theorem dX1_measure_30 : decode cX1_measure 30 = .ok (.getfield 7, 3) := dgq (p := 0) daX1_measure_30 dbX1_measure_30.1
theorem dX1_measure_33 : decode cX1_measure 33 = .ok (.arraylength, 1) := dgq (p := 3) daX1_measure_30 dbX1_measure_30.2.1
theorem dX1_measure_34 : decode cX1_measure 34 = .ok (.i2l, 1) := dgq (p := 4) daX1_measure_30 dbX1_measure_30.2.2.1
theorem dX1_measure_35 : decode cX1_measure 35 = .ok (.lload_n 3, 1) := dgq (p := 5) daX1_measure_30 dbX1_measure_30.2.2.2.1
theorem dX1_measure_36 : decode cX1_measure 36 = .ok (.lmul, 1) := dgq (p := 6) daX1_measure_30 dbX1_measure_30.2.2.2.2.1
theorem dX1_measure_37 : decode cX1_measure 37 = .ok (.iload 9, 2) := dgq (p := 7) daX1_measure_30 dbX1_measure_30.2.2.2.2.2.1
theorem dX1_measure_39 : decode cX1_measure 39 = .ok (.i2l, 1) := dgq (p := 9) daX1_measure_30 dbX1_measure_30.2.2.2.2.2.2.1
theorem dX1_measure_40 : decode cX1_measure 40 = .ok (.lload_n 1, 1) := dgq (p := 10) daX1_measure_30 dbX1_measure_30.2.2.2.2.2.2.2.1
theorem dX1_measure_41 : decode cX1_measure 41 = .ok (.lmul, 1) := dgq (p := 11) daX1_measure_30 dbX1_measure_30.2.2.2.2.2.2.2.2.1
theorem dX1_measure_42 : decode cX1_measure 42 = .ok (.lsub, 1) := dgq (p := 12) daX1_measure_30 dbX1_measure_30.2.2.2.2.2.2.2.2.2
def dsX1_measure_43 : ByteArray := ⟨#[55, 10, 22, 5, 22, 10, 184, 0, 23, 55, 5, 22, 7, 22, 10, 184, 0, 29, 55, 7, 42]⟩
theorem daX1_measure_43 : agB cX1_measure dsX1_measure_43 43 := agB_of (n := 21) (by decide +kernel)
theorem dbX1_measure_43 : (decode dsX1_measure_43 0 = .ok (.lstore 10, 2) ∧ okop dsX1_measure_43 0 = true) ∧ (decode dsX1_measure_43 2 = .ok (.lload 5, 2) ∧ okop dsX1_measure_43 2 = true) ∧ (decode dsX1_measure_43 4 = .ok (.lload 10, 2) ∧ okop dsX1_measure_43 4 = true) ∧ (decode dsX1_measure_43 6 = .ok (.invokestatic 23, 3) ∧ okop dsX1_measure_43 6 = true) ∧ (decode dsX1_measure_43 9 = .ok (.lstore 5, 2) ∧ okop dsX1_measure_43 9 = true) ∧ (decode dsX1_measure_43 11 = .ok (.lload 7, 2) ∧ okop dsX1_measure_43 11 = true) ∧ (decode dsX1_measure_43 13 = .ok (.lload 10, 2) ∧ okop dsX1_measure_43 13 = true) ∧ (decode dsX1_measure_43 15 = .ok (.invokestatic 29, 3) ∧ okop dsX1_measure_43 15 = true) ∧ (decode dsX1_measure_43 18 = .ok (.lstore 7, 2) ∧ okop dsX1_measure_43 18 = true) ∧ (decode dsX1_measure_43 20 = .ok (.aload_n 0, 1) ∧ okop dsX1_measure_43 20 = true) := by decide +kernel
theorem dX1_measure_43 : decode cX1_measure 43 = .ok (.lstore 10, 2) := dgq (p := 0) daX1_measure_43 dbX1_measure_43.1
theorem dX1_measure_45 : decode cX1_measure 45 = .ok (.lload 5, 2) := dgq (p := 2) daX1_measure_43 dbX1_measure_43.2.1
theorem dX1_measure_47 : decode cX1_measure 47 = .ok (.lload 10, 2) := dgq (p := 4) daX1_measure_43 dbX1_measure_43.2.2.1
theorem dX1_measure_49 : decode cX1_measure 49 = .ok (.invokestatic 23, 3) := dgq (p := 6) daX1_measure_43 dbX1_measure_43.2.2.2.1
theorem dX1_measure_52 : decode cX1_measure 52 = .ok (.lstore 5, 2) := dgq (p := 9) daX1_measure_43 dbX1_measure_43.2.2.2.2.1
theorem dX1_measure_54 : decode cX1_measure 54 = .ok (.lload 7, 2) := dgq (p := 11) daX1_measure_43 dbX1_measure_43.2.2.2.2.2.1
theorem dX1_measure_56 : decode cX1_measure 56 = .ok (.lload 10, 2) := dgq (p := 13) daX1_measure_43 dbX1_measure_43.2.2.2.2.2.2.1
theorem dX1_measure_58 : decode cX1_measure 58 = .ok (.invokestatic 29, 3) := dgq (p := 15) daX1_measure_43 dbX1_measure_43.2.2.2.2.2.2.2.1
theorem dX1_measure_61 : decode cX1_measure 61 = .ok (.lstore 7, 2) := dgq (p := 18) daX1_measure_43 dbX1_measure_43.2.2.2.2.2.2.2.2.1
theorem dX1_measure_63 : decode cX1_measure 63 = .ok (.aload_n 0, 1) := dgq (p := 20) daX1_measure_43 dbX1_measure_43.2.2.2.2.2.2.2.2.2
def dsX1_measure_64 : ByteArray := ⟨#[180, 0, 13, 21, 9, 22, 10, 42, 180, 0, 7, 190, 133, 109, 136, 79]⟩
theorem daX1_measure_64 : agB cX1_measure dsX1_measure_64 64 := agB_of (n := 16) (by decide +kernel)
theorem dbX1_measure_64 : (decode dsX1_measure_64 0 = .ok (.getfield 13, 3) ∧ okop dsX1_measure_64 0 = true) ∧ (decode dsX1_measure_64 3 = .ok (.iload 9, 2) ∧ okop dsX1_measure_64 3 = true) ∧ (decode dsX1_measure_64 5 = .ok (.lload 10, 2) ∧ okop dsX1_measure_64 5 = true) ∧ (decode dsX1_measure_64 7 = .ok (.aload_n 0, 1) ∧ okop dsX1_measure_64 7 = true) ∧ (decode dsX1_measure_64 8 = .ok (.getfield 7, 3) ∧ okop dsX1_measure_64 8 = true) ∧ (decode dsX1_measure_64 11 = .ok (.arraylength, 1) ∧ okop dsX1_measure_64 11 = true) ∧ (decode dsX1_measure_64 12 = .ok (.i2l, 1) ∧ okop dsX1_measure_64 12 = true) ∧ (decode dsX1_measure_64 13 = .ok (.ldiv, 1) ∧ okop dsX1_measure_64 13 = true) ∧ (decode dsX1_measure_64 14 = .ok (.l2i, 1) ∧ okop dsX1_measure_64 14 = true) ∧ (decode dsX1_measure_64 15 = .ok (.iastore, 1) ∧ okop dsX1_measure_64 15 = true) := by decide +kernel
theorem dX1_measure_64 : decode cX1_measure 64 = .ok (.getfield 13, 3) := dgq (p := 0) daX1_measure_64 dbX1_measure_64.1
theorem dX1_measure_67 : decode cX1_measure 67 = .ok (.iload 9, 2) := dgq (p := 3) daX1_measure_64 dbX1_measure_64.2.1
theorem dX1_measure_69 : decode cX1_measure 69 = .ok (.lload 10, 2) := dgq (p := 5) daX1_measure_64 dbX1_measure_64.2.2.1
theorem dX1_measure_71 : decode cX1_measure 71 = .ok (.aload_n 0, 1) := dgq (p := 7) daX1_measure_64 dbX1_measure_64.2.2.2.1
theorem dX1_measure_72 : decode cX1_measure 72 = .ok (.getfield 7, 3) := dgq (p := 8) daX1_measure_64 dbX1_measure_64.2.2.2.2.1
theorem dX1_measure_75 : decode cX1_measure 75 = .ok (.arraylength, 1) := dgq (p := 11) daX1_measure_64 dbX1_measure_64.2.2.2.2.2.1
theorem dX1_measure_76 : decode cX1_measure 76 = .ok (.i2l, 1) := dgq (p := 12) daX1_measure_64 dbX1_measure_64.2.2.2.2.2.2.1
theorem dX1_measure_77 : decode cX1_measure 77 = .ok (.ldiv, 1) := dgq (p := 13) daX1_measure_64 dbX1_measure_64.2.2.2.2.2.2.2.1
theorem dX1_measure_78 : decode cX1_measure 78 = .ok (.l2i, 1) := dgq (p := 14) daX1_measure_64 dbX1_measure_64.2.2.2.2.2.2.2.2.1
theorem dX1_measure_79 : decode cX1_measure 79 = .ok (.iastore, 1) := dgq (p := 15) daX1_measure_64 dbX1_measure_64.2.2.2.2.2.2.2.2.2
def dsX1_measure_80 : ByteArray := ⟨#[42, 22, 5, 22, 7, 101, 42, 180, 0, 7, 190, 133, 109, 136]⟩
theorem daX1_measure_80 : agB cX1_measure dsX1_measure_80 80 := agB_of (n := 14) (by decide +kernel)
theorem dbX1_measure_80 : (decode dsX1_measure_80 0 = .ok (.aload_n 0, 1) ∧ okop dsX1_measure_80 0 = true) ∧ (decode dsX1_measure_80 1 = .ok (.lload 5, 2) ∧ okop dsX1_measure_80 1 = true) ∧ (decode dsX1_measure_80 3 = .ok (.lload 7, 2) ∧ okop dsX1_measure_80 3 = true) ∧ (decode dsX1_measure_80 5 = .ok (.lsub, 1) ∧ okop dsX1_measure_80 5 = true) ∧ (decode dsX1_measure_80 6 = .ok (.aload_n 0, 1) ∧ okop dsX1_measure_80 6 = true) ∧ (decode dsX1_measure_80 7 = .ok (.getfield 7, 3) ∧ okop dsX1_measure_80 7 = true) ∧ (decode dsX1_measure_80 10 = .ok (.arraylength, 1) ∧ okop dsX1_measure_80 10 = true) ∧ (decode dsX1_measure_80 11 = .ok (.i2l, 1) ∧ okop dsX1_measure_80 11 = true) ∧ (decode dsX1_measure_80 12 = .ok (.ldiv, 1) ∧ okop dsX1_measure_80 12 = true) ∧ (decode dsX1_measure_80 13 = .ok (.l2i, 1) ∧ okop dsX1_measure_80 13 = true) := by decide +kernel
theorem dX1_measure_80 : decode cX1_measure 80 = .ok (.aload_n 0, 1) := dgq (p := 0) daX1_measure_80 dbX1_measure_80.1
theorem dX1_measure_81 : decode cX1_measure 81 = .ok (.lload 5, 2) := dgq (p := 1) daX1_measure_80 dbX1_measure_80.2.1
theorem dX1_measure_83 : decode cX1_measure 83 = .ok (.lload 7, 2) := dgq (p := 3) daX1_measure_80 dbX1_measure_80.2.2.1
theorem dX1_measure_85 : decode cX1_measure 85 = .ok (.lsub, 1) := dgq (p := 5) daX1_measure_80 dbX1_measure_80.2.2.2.1
theorem dX1_measure_86 : decode cX1_measure 86 = .ok (.aload_n 0, 1) := dgq (p := 6) daX1_measure_80 dbX1_measure_80.2.2.2.2.1
theorem dX1_measure_87 : decode cX1_measure 87 = .ok (.getfield 7, 3) := dgq (p := 7) daX1_measure_80 dbX1_measure_80.2.2.2.2.2.1
theorem dX1_measure_90 : decode cX1_measure 90 = .ok (.arraylength, 1) := dgq (p := 10) daX1_measure_80 dbX1_measure_80.2.2.2.2.2.2.1
theorem dX1_measure_91 : decode cX1_measure 91 = .ok (.i2l, 1) := dgq (p := 11) daX1_measure_80 dbX1_measure_80.2.2.2.2.2.2.2.1
theorem dX1_measure_92 : decode cX1_measure 92 = .ok (.ldiv, 1) := dgq (p := 12) daX1_measure_80 dbX1_measure_80.2.2.2.2.2.2.2.2.1
theorem dX1_measure_93 : decode cX1_measure 93 = .ok (.l2i, 1) := dgq (p := 13) daX1_measure_80 dbX1_measure_80.2.2.2.2.2.2.2.2.2
def dsX1_measure_94 : ByteArray := ⟨#[181, 0, 32, 33, 42, 180, 0, 7, 21, 9, 46, 133, 97, 66, 132, 9, 1]⟩
theorem daX1_measure_94 : agB cX1_measure dsX1_measure_94 94 := agB_of (n := 17) (by decide +kernel)
theorem dbX1_measure_94 : (decode dsX1_measure_94 0 = .ok (.putfield 32, 3) ∧ okop dsX1_measure_94 0 = true) ∧ (decode dsX1_measure_94 3 = .ok (.lload_n 3, 1) ∧ okop dsX1_measure_94 3 = true) ∧ (decode dsX1_measure_94 4 = .ok (.aload_n 0, 1) ∧ okop dsX1_measure_94 4 = true) ∧ (decode dsX1_measure_94 5 = .ok (.getfield 7, 3) ∧ okop dsX1_measure_94 5 = true) ∧ (decode dsX1_measure_94 8 = .ok (.iload 9, 2) ∧ okop dsX1_measure_94 8 = true) ∧ (decode dsX1_measure_94 10 = .ok (.iaload, 1) ∧ okop dsX1_measure_94 10 = true) ∧ (decode dsX1_measure_94 11 = .ok (.i2l, 1) ∧ okop dsX1_measure_94 11 = true) ∧ (decode dsX1_measure_94 12 = .ok (.ladd, 1) ∧ okop dsX1_measure_94 12 = true) ∧ (decode dsX1_measure_94 13 = .ok (.lstore_n 3, 1) ∧ okop dsX1_measure_94 13 = true) ∧ (decode dsX1_measure_94 14 = .ok (.iinc 9 1, 3) ∧ okop dsX1_measure_94 14 = true) := by decide +kernel
theorem dX1_measure_94 : decode cX1_measure 94 = .ok (.putfield 32, 3) := dgq (p := 0) daX1_measure_94 dbX1_measure_94.1
theorem dX1_measure_97 : decode cX1_measure 97 = .ok (.lload_n 3, 1) := dgq (p := 3) daX1_measure_94 dbX1_measure_94.2.1
theorem dX1_measure_98 : decode cX1_measure 98 = .ok (.aload_n 0, 1) := dgq (p := 4) daX1_measure_94 dbX1_measure_94.2.2.1
theorem dX1_measure_99 : decode cX1_measure 99 = .ok (.getfield 7, 3) := dgq (p := 5) daX1_measure_94 dbX1_measure_94.2.2.2.1
theorem dX1_measure_102 : decode cX1_measure 102 = .ok (.iload 9, 2) := dgq (p := 8) daX1_measure_94 dbX1_measure_94.2.2.2.2.1
theorem dX1_measure_104 : decode cX1_measure 104 = .ok (.iaload, 1) := dgq (p := 10) daX1_measure_94 dbX1_measure_94.2.2.2.2.2.1
theorem dX1_measure_105 : decode cX1_measure 105 = .ok (.i2l, 1) := dgq (p := 11) daX1_measure_94 dbX1_measure_94.2.2.2.2.2.2.1
theorem dX1_measure_106 : decode cX1_measure 106 = .ok (.ladd, 1) := dgq (p := 12) daX1_measure_94 dbX1_measure_94.2.2.2.2.2.2.2.1
theorem dX1_measure_107 : decode cX1_measure 107 = .ok (.lstore_n 3, 1) := dgq (p := 13) daX1_measure_94 dbX1_measure_94.2.2.2.2.2.2.2.2.1
theorem dX1_measure_108 : decode cX1_measure 108 = .ok (.iinc 9 1, 3) := dgq (p := 14) daX1_measure_94 dbX1_measure_94.2.2.2.2.2.2.2.2.2
theorem dX1_measure_111 : decode cX1_measure 111 = .ok (.goto (-92), 3) := by decide +kernel
theorem dX1_measure_114 : decode cX1_measure 114 = .ok (.return_, 1) := by decide +kernel
def dsX1_worstPitch_0 : ByteArray := ⟨#[3, 60, 42, 180, 0, 7, 77, 44, 190, 62, 3, 54, 4]⟩
theorem daX1_worstPitch_0 : agB cX1_worstPitch dsX1_worstPitch_0 0 := agB_of (n := 13) (by decide +kernel)
theorem dbX1_worstPitch_0 : (decode dsX1_worstPitch_0 0 = .ok (.iconst 0, 1) ∧ okop dsX1_worstPitch_0 0 = true) ∧ (decode dsX1_worstPitch_0 1 = .ok (.istore_n 1, 1) ∧ okop dsX1_worstPitch_0 1 = true) ∧ (decode dsX1_worstPitch_0 2 = .ok (.aload_n 0, 1) ∧ okop dsX1_worstPitch_0 2 = true) ∧ (decode dsX1_worstPitch_0 3 = .ok (.getfield 7, 3) ∧ okop dsX1_worstPitch_0 3 = true) ∧ (decode dsX1_worstPitch_0 6 = .ok (.astore_n 2, 1) ∧ okop dsX1_worstPitch_0 6 = true) ∧ (decode dsX1_worstPitch_0 7 = .ok (.aload_n 2, 1) ∧ okop dsX1_worstPitch_0 7 = true) ∧ (decode dsX1_worstPitch_0 8 = .ok (.arraylength, 1) ∧ okop dsX1_worstPitch_0 8 = true) ∧ (decode dsX1_worstPitch_0 9 = .ok (.istore_n 3, 1) ∧ okop dsX1_worstPitch_0 9 = true) ∧ (decode dsX1_worstPitch_0 10 = .ok (.iconst 0, 1) ∧ okop dsX1_worstPitch_0 10 = true) ∧ (decode dsX1_worstPitch_0 11 = .ok (.istore 4, 2) ∧ okop dsX1_worstPitch_0 11 = true) := by decide +kernel
theorem dX1_worstPitch_0 : decode cX1_worstPitch 0 = .ok (.iconst 0, 1) := dgq (p := 0) daX1_worstPitch_0 dbX1_worstPitch_0.1
theorem dX1_worstPitch_1 : decode cX1_worstPitch 1 = .ok (.istore_n 1, 1) := dgq (p := 1) daX1_worstPitch_0 dbX1_worstPitch_0.2.1
theorem dX1_worstPitch_2 : decode cX1_worstPitch 2 = .ok (.aload_n 0, 1) := dgq (p := 2) daX1_worstPitch_0 dbX1_worstPitch_0.2.2.1
theorem dX1_worstPitch_3 : decode cX1_worstPitch 3 = .ok (.getfield 7, 3) := dgq (p := 3) daX1_worstPitch_0 dbX1_worstPitch_0.2.2.2.1
theorem dX1_worstPitch_6 : decode cX1_worstPitch 6 = .ok (.astore_n 2, 1) := dgq (p := 6) daX1_worstPitch_0 dbX1_worstPitch_0.2.2.2.2.1
theorem dX1_worstPitch_7 : decode cX1_worstPitch 7 = .ok (.aload_n 2, 1) := dgq (p := 7) daX1_worstPitch_0 dbX1_worstPitch_0.2.2.2.2.2.1
theorem dX1_worstPitch_8 : decode cX1_worstPitch 8 = .ok (.arraylength, 1) := dgq (p := 8) daX1_worstPitch_0 dbX1_worstPitch_0.2.2.2.2.2.2.1
theorem dX1_worstPitch_9 : decode cX1_worstPitch 9 = .ok (.istore_n 3, 1) := dgq (p := 9) daX1_worstPitch_0 dbX1_worstPitch_0.2.2.2.2.2.2.2.1
theorem dX1_worstPitch_10 : decode cX1_worstPitch 10 = .ok (.iconst 0, 1) := dgq (p := 10) daX1_worstPitch_0 dbX1_worstPitch_0.2.2.2.2.2.2.2.2.1
theorem dX1_worstPitch_11 : decode cX1_worstPitch 11 = .ok (.istore 4, 2) := dgq (p := 11) daX1_worstPitch_0 dbX1_worstPitch_0.2.2.2.2.2.2.2.2.2
def dsX1_worstPitch_13 : ByteArray := ⟨#[21, 4, 29, 162, 0, 25, 44, 21, 4, 46, 54, 5, 27, 21, 5, 184, 0, 36]⟩
theorem daX1_worstPitch_13 : agB cX1_worstPitch dsX1_worstPitch_13 13 := agB_of (n := 18) (by decide +kernel)
theorem dbX1_worstPitch_13 : (decode dsX1_worstPitch_13 0 = .ok (.iload 4, 2) ∧ okop dsX1_worstPitch_13 0 = true) ∧ (decode dsX1_worstPitch_13 2 = .ok (.iload_n 3, 1) ∧ okop dsX1_worstPitch_13 2 = true) ∧ (decode dsX1_worstPitch_13 3 = .ok (.if_icmp .ge 25, 3) ∧ okop dsX1_worstPitch_13 3 = true) ∧ (decode dsX1_worstPitch_13 6 = .ok (.aload_n 2, 1) ∧ okop dsX1_worstPitch_13 6 = true) ∧ (decode dsX1_worstPitch_13 7 = .ok (.iload 4, 2) ∧ okop dsX1_worstPitch_13 7 = true) ∧ (decode dsX1_worstPitch_13 9 = .ok (.iaload, 1) ∧ okop dsX1_worstPitch_13 9 = true) ∧ (decode dsX1_worstPitch_13 10 = .ok (.istore 5, 2) ∧ okop dsX1_worstPitch_13 10 = true) ∧ (decode dsX1_worstPitch_13 12 = .ok (.iload_n 1, 1) ∧ okop dsX1_worstPitch_13 12 = true) ∧ (decode dsX1_worstPitch_13 13 = .ok (.iload 5, 2) ∧ okop dsX1_worstPitch_13 13 = true) ∧ (decode dsX1_worstPitch_13 15 = .ok (.invokestatic 36, 3) ∧ okop dsX1_worstPitch_13 15 = true) := by decide +kernel
theorem dX1_worstPitch_13 : decode cX1_worstPitch 13 = .ok (.iload 4, 2) := dgq (p := 0) daX1_worstPitch_13 dbX1_worstPitch_13.1
theorem dX1_worstPitch_15 : decode cX1_worstPitch 15 = .ok (.iload_n 3, 1) := dgq (p := 2) daX1_worstPitch_13 dbX1_worstPitch_13.2.1
theorem dX1_worstPitch_16 : decode cX1_worstPitch 16 = .ok (.if_icmp .ge 25, 3) := dgq (p := 3) daX1_worstPitch_13 dbX1_worstPitch_13.2.2.1
theorem dX1_worstPitch_19 : decode cX1_worstPitch 19 = .ok (.aload_n 2, 1) := dgq (p := 6) daX1_worstPitch_13 dbX1_worstPitch_13.2.2.2.1
theorem dX1_worstPitch_20 : decode cX1_worstPitch 20 = .ok (.iload 4, 2) := dgq (p := 7) daX1_worstPitch_13 dbX1_worstPitch_13.2.2.2.2.1
theorem dX1_worstPitch_22 : decode cX1_worstPitch 22 = .ok (.iaload, 1) := dgq (p := 9) daX1_worstPitch_13 dbX1_worstPitch_13.2.2.2.2.2.1
theorem dX1_worstPitch_23 : decode cX1_worstPitch 23 = .ok (.istore 5, 2) := dgq (p := 10) daX1_worstPitch_13 dbX1_worstPitch_13.2.2.2.2.2.2.1
theorem dX1_worstPitch_25 : decode cX1_worstPitch 25 = .ok (.iload_n 1, 1) := dgq (p := 12) daX1_worstPitch_13 dbX1_worstPitch_13.2.2.2.2.2.2.2.1
theorem dX1_worstPitch_26 : decode cX1_worstPitch 26 = .ok (.iload 5, 2) := dgq (p := 13) daX1_worstPitch_13 dbX1_worstPitch_13.2.2.2.2.2.2.2.2.1
theorem dX1_worstPitch_28 : decode cX1_worstPitch 28 = .ok (.invokestatic 36, 3) := dgq (p := 15) daX1_worstPitch_13 dbX1_worstPitch_13.2.2.2.2.2.2.2.2.2
def dsX1_worstPitch_31 : ByteArray := ⟨#[184, 0, 40, 60, 132, 4, 1, 167, 255, 231, 27, 172]⟩
theorem daX1_worstPitch_31 : agB cX1_worstPitch dsX1_worstPitch_31 31 := agB_of (n := 12) (by decide +kernel)
theorem dbX1_worstPitch_31 : (decode dsX1_worstPitch_31 0 = .ok (.invokestatic 40, 3) ∧ okop dsX1_worstPitch_31 0 = true) ∧ (decode dsX1_worstPitch_31 3 = .ok (.istore_n 1, 1) ∧ okop dsX1_worstPitch_31 3 = true) ∧ (decode dsX1_worstPitch_31 4 = .ok (.iinc 4 1, 3) ∧ okop dsX1_worstPitch_31 4 = true) ∧ (decode dsX1_worstPitch_31 7 = .ok (.goto (-25), 3) ∧ okop dsX1_worstPitch_31 7 = true) ∧ (decode dsX1_worstPitch_31 10 = .ok (.iload_n 1, 1) ∧ okop dsX1_worstPitch_31 10 = true) ∧ (decode dsX1_worstPitch_31 11 = .ok (.ireturn, 1) ∧ okop dsX1_worstPitch_31 11 = true) := by decide +kernel
theorem dX1_worstPitch_31 : decode cX1_worstPitch 31 = .ok (.invokestatic 40, 3) := dgq (p := 0) daX1_worstPitch_31 dbX1_worstPitch_31.1
theorem dX1_worstPitch_34 : decode cX1_worstPitch 34 = .ok (.istore_n 1, 1) := dgq (p := 3) daX1_worstPitch_31 dbX1_worstPitch_31.2.1
theorem dX1_worstPitch_35 : decode cX1_worstPitch 35 = .ok (.iinc 4 1, 3) := dgq (p := 4) daX1_worstPitch_31 dbX1_worstPitch_31.2.2.1
theorem dX1_worstPitch_38 : decode cX1_worstPitch 38 = .ok (.goto (-25), 3) := dgq (p := 7) daX1_worstPitch_31 dbX1_worstPitch_31.2.2.2.1
theorem dX1_worstPitch_41 : decode cX1_worstPitch 41 = .ok (.iload_n 1, 1) := dgq (p := 10) daX1_worstPitch_31 dbX1_worstPitch_31.2.2.2.2.1
theorem dX1_worstPitch_42 : decode cX1_worstPitch 42 = .ok (.ireturn, 1) := dgq (p := 11) daX1_worstPitch_31 dbX1_worstPitch_31.2.2.2.2.2
set_option maxRecDepth 20000 in
theorem ggX1_partOf_X1_sumOfClass : GoodIn wsX1_partOf wsX1_sumOfClass := goodIn_ca (goodIn_ca (goodIn_q _ [13, 1] rfl (by decide +kernel)) (goodIn_sub (fun _ h => (List.mem_cons_of_mem _ (List.mem_append_left _ (List.mem_append_left _ (List.mem_append_right _ h))))) tg_wsX10)) (goodIn_sub (fun _ h => List.mem_cons_of_mem _ (List.mem_append_right _ h)) (by decide +kernel))
set_option maxRecDepth 20000 in
theorem gX1_partOf_X1_sumOfClass : GoodIn wsX1_partOf (wsV RX1 19 RX1 yX1_sumOfClass wsX1_sumOfClass) := goodIn_app (goodIn_q _ [9, 10, 11, 12] rfl (by decide +kernel)) ggX1_partOf_X1_sumOfClass
def dsX1_partOf_0 : ByteArray := ⟨#[27, 4, 161, 0, 21, 42, 180, 0, 7, 190, 153, 0, 13, 42, 180, 0, 7, 190]⟩
theorem daX1_partOf_0 : agB cX1_partOf dsX1_partOf_0 0 := agB_of (n := 18) (by decide +kernel)
theorem dbX1_partOf_0 : (decode dsX1_partOf_0 0 = .ok (.iload_n 1, 1) ∧ okop dsX1_partOf_0 0 = true) ∧ (decode dsX1_partOf_0 1 = .ok (.iconst 1, 1) ∧ okop dsX1_partOf_0 1 = true) ∧ (decode dsX1_partOf_0 2 = .ok (.if_icmp .lt 21, 3) ∧ okop dsX1_partOf_0 2 = true) ∧ (decode dsX1_partOf_0 5 = .ok (.aload_n 0, 1) ∧ okop dsX1_partOf_0 5 = true) ∧ (decode dsX1_partOf_0 6 = .ok (.getfield 7, 3) ∧ okop dsX1_partOf_0 6 = true) ∧ (decode dsX1_partOf_0 9 = .ok (.arraylength, 1) ∧ okop dsX1_partOf_0 9 = true) ∧ (decode dsX1_partOf_0 10 = .ok (.ifCond .eq 13, 3) ∧ okop dsX1_partOf_0 10 = true) ∧ (decode dsX1_partOf_0 13 = .ok (.aload_n 0, 1) ∧ okop dsX1_partOf_0 13 = true) ∧ (decode dsX1_partOf_0 14 = .ok (.getfield 7, 3) ∧ okop dsX1_partOf_0 14 = true) ∧ (decode dsX1_partOf_0 17 = .ok (.arraylength, 1) ∧ okop dsX1_partOf_0 17 = true) := by decide +kernel
theorem dX1_partOf_0 : decode cX1_partOf 0 = .ok (.iload_n 1, 1) := dgq (p := 0) daX1_partOf_0 dbX1_partOf_0.1
theorem dX1_partOf_1 : decode cX1_partOf 1 = .ok (.iconst 1, 1) := dgq (p := 1) daX1_partOf_0 dbX1_partOf_0.2.1
theorem dX1_partOf_2 : decode cX1_partOf 2 = .ok (.if_icmp .lt 21, 3) := dgq (p := 2) daX1_partOf_0 dbX1_partOf_0.2.2.1
theorem dX1_partOf_5 : decode cX1_partOf 5 = .ok (.aload_n 0, 1) := dgq (p := 5) daX1_partOf_0 dbX1_partOf_0.2.2.2.1
theorem dX1_partOf_6 : decode cX1_partOf 6 = .ok (.getfield 7, 3) := dgq (p := 6) daX1_partOf_0 dbX1_partOf_0.2.2.2.2.1
theorem dX1_partOf_9 : decode cX1_partOf 9 = .ok (.arraylength, 1) := dgq (p := 9) daX1_partOf_0 dbX1_partOf_0.2.2.2.2.2.1
theorem dX1_partOf_10 : decode cX1_partOf 10 = .ok (.ifCond .eq 13, 3) := dgq (p := 10) daX1_partOf_0 dbX1_partOf_0.2.2.2.2.2.2.1
theorem dX1_partOf_13 : decode cX1_partOf 13 = .ok (.aload_n 0, 1) := dgq (p := 13) daX1_partOf_0 dbX1_partOf_0.2.2.2.2.2.2.2.1
theorem dX1_partOf_14 : decode cX1_partOf 14 = .ok (.getfield 7, 3) := dgq (p := 14) daX1_partOf_0 dbX1_partOf_0.2.2.2.2.2.2.2.2.1
theorem dX1_partOf_17 : decode cX1_partOf 17 = .ok (.arraylength, 1) := dgq (p := 17) daX1_partOf_0 dbX1_partOf_0.2.2.2.2.2.2.2.2.2
def dsX1_partOf_18 : ByteArray := ⟨#[27, 112, 153, 0, 5, 3, 172, 42, 3, 27, 182, 0, 19, 61]⟩
theorem daX1_partOf_18 : agB cX1_partOf dsX1_partOf_18 18 := agB_of (n := 14) (by decide +kernel)
theorem dbX1_partOf_18 : (decode dsX1_partOf_18 0 = .ok (.iload_n 1, 1) ∧ okop dsX1_partOf_18 0 = true) ∧ (decode dsX1_partOf_18 1 = .ok (.irem, 1) ∧ okop dsX1_partOf_18 1 = true) ∧ (decode dsX1_partOf_18 2 = .ok (.ifCond .eq 5, 3) ∧ okop dsX1_partOf_18 2 = true) ∧ (decode dsX1_partOf_18 5 = .ok (.iconst 0, 1) ∧ okop dsX1_partOf_18 5 = true) ∧ (decode dsX1_partOf_18 6 = .ok (.ireturn, 1) ∧ okop dsX1_partOf_18 6 = true) ∧ (decode dsX1_partOf_18 7 = .ok (.aload_n 0, 1) ∧ okop dsX1_partOf_18 7 = true) ∧ (decode dsX1_partOf_18 8 = .ok (.iconst 0, 1) ∧ okop dsX1_partOf_18 8 = true) ∧ (decode dsX1_partOf_18 9 = .ok (.iload_n 1, 1) ∧ okop dsX1_partOf_18 9 = true) ∧ (decode dsX1_partOf_18 10 = .ok (.invokevirtual 19, 3) ∧ okop dsX1_partOf_18 10 = true) ∧ (decode dsX1_partOf_18 13 = .ok (.istore_n 2, 1) ∧ okop dsX1_partOf_18 13 = true) := by decide +kernel
theorem dX1_partOf_18 : decode cX1_partOf 18 = .ok (.iload_n 1, 1) := dgq (p := 0) daX1_partOf_18 dbX1_partOf_18.1
theorem dX1_partOf_19 : decode cX1_partOf 19 = .ok (.irem, 1) := dgq (p := 1) daX1_partOf_18 dbX1_partOf_18.2.1
theorem dX1_partOf_20 : decode cX1_partOf 20 = .ok (.ifCond .eq 5, 3) := dgq (p := 2) daX1_partOf_18 dbX1_partOf_18.2.2.1
theorem dX1_partOf_23 : decode cX1_partOf 23 = .ok (.iconst 0, 1) := dgq (p := 5) daX1_partOf_18 dbX1_partOf_18.2.2.2.1
theorem dX1_partOf_24 : decode cX1_partOf 24 = .ok (.ireturn, 1) := dgq (p := 6) daX1_partOf_18 dbX1_partOf_18.2.2.2.2.1
theorem dX1_partOf_25 : decode cX1_partOf 25 = .ok (.aload_n 0, 1) := dgq (p := 7) daX1_partOf_18 dbX1_partOf_18.2.2.2.2.2.1
theorem dX1_partOf_26 : decode cX1_partOf 26 = .ok (.iconst 0, 1) := dgq (p := 8) daX1_partOf_18 dbX1_partOf_18.2.2.2.2.2.2.1
theorem dX1_partOf_27 : decode cX1_partOf 27 = .ok (.iload_n 1, 1) := dgq (p := 9) daX1_partOf_18 dbX1_partOf_18.2.2.2.2.2.2.2.1
theorem dX1_partOf_28 : decode cX1_partOf 28 = .ok (.invokevirtual 19, 3) := dgq (p := 10) daX1_partOf_18 dbX1_partOf_18.2.2.2.2.2.2.2.2.1
theorem dX1_partOf_31 : decode cX1_partOf 31 = .ok (.istore_n 2, 1) := dgq (p := 13) daX1_partOf_18 dbX1_partOf_18.2.2.2.2.2.2.2.2.2
def dsX1_partOf_32 : ByteArray := ⟨#[28, 62, 4, 54, 4, 21, 4, 27, 162, 0, 32, 42, 21, 4, 27]⟩
theorem daX1_partOf_32 : agB cX1_partOf dsX1_partOf_32 32 := agB_of (n := 15) (by decide +kernel)
theorem dbX1_partOf_32 : (decode dsX1_partOf_32 0 = .ok (.iload_n 2, 1) ∧ okop dsX1_partOf_32 0 = true) ∧ (decode dsX1_partOf_32 1 = .ok (.istore_n 3, 1) ∧ okop dsX1_partOf_32 1 = true) ∧ (decode dsX1_partOf_32 2 = .ok (.iconst 1, 1) ∧ okop dsX1_partOf_32 2 = true) ∧ (decode dsX1_partOf_32 3 = .ok (.istore 4, 2) ∧ okop dsX1_partOf_32 3 = true) ∧ (decode dsX1_partOf_32 5 = .ok (.iload 4, 2) ∧ okop dsX1_partOf_32 5 = true) ∧ (decode dsX1_partOf_32 7 = .ok (.iload_n 1, 1) ∧ okop dsX1_partOf_32 7 = true) ∧ (decode dsX1_partOf_32 8 = .ok (.if_icmp .ge 32, 3) ∧ okop dsX1_partOf_32 8 = true) ∧ (decode dsX1_partOf_32 11 = .ok (.aload_n 0, 1) ∧ okop dsX1_partOf_32 11 = true) ∧ (decode dsX1_partOf_32 12 = .ok (.iload 4, 2) ∧ okop dsX1_partOf_32 12 = true) ∧ (decode dsX1_partOf_32 14 = .ok (.iload_n 1, 1) ∧ okop dsX1_partOf_32 14 = true) := by decide +kernel
theorem dX1_partOf_32 : decode cX1_partOf 32 = .ok (.iload_n 2, 1) := dgq (p := 0) daX1_partOf_32 dbX1_partOf_32.1
theorem dX1_partOf_33 : decode cX1_partOf 33 = .ok (.istore_n 3, 1) := dgq (p := 1) daX1_partOf_32 dbX1_partOf_32.2.1
theorem dX1_partOf_34 : decode cX1_partOf 34 = .ok (.iconst 1, 1) := dgq (p := 2) daX1_partOf_32 dbX1_partOf_32.2.2.1
theorem dX1_partOf_35 : decode cX1_partOf 35 = .ok (.istore 4, 2) := dgq (p := 3) daX1_partOf_32 dbX1_partOf_32.2.2.2.1
theorem dX1_partOf_37 : decode cX1_partOf 37 = .ok (.iload 4, 2) := dgq (p := 5) daX1_partOf_32 dbX1_partOf_32.2.2.2.2.1
theorem dX1_partOf_39 : decode cX1_partOf 39 = .ok (.iload_n 1, 1) := dgq (p := 7) daX1_partOf_32 dbX1_partOf_32.2.2.2.2.2.1
theorem dX1_partOf_40 : decode cX1_partOf 40 = .ok (.if_icmp .ge 32, 3) := dgq (p := 8) daX1_partOf_32 dbX1_partOf_32.2.2.2.2.2.2.1
theorem dX1_partOf_43 : decode cX1_partOf 43 = .ok (.aload_n 0, 1) := dgq (p := 11) daX1_partOf_32 dbX1_partOf_32.2.2.2.2.2.2.2.1
theorem dX1_partOf_44 : decode cX1_partOf 44 = .ok (.iload 4, 2) := dgq (p := 12) daX1_partOf_32 dbX1_partOf_32.2.2.2.2.2.2.2.2.1
theorem dX1_partOf_46 : decode cX1_partOf 46 = .ok (.iload_n 1, 1) := dgq (p := 14) daX1_partOf_32 dbX1_partOf_32.2.2.2.2.2.2.2.2.2
def dsX1_partOf_47 : ByteArray := ⟨#[182, 0, 19, 54, 5, 28, 21, 5, 184, 0, 40, 61, 29, 21, 5, 184, 0, 42, 62]⟩
theorem daX1_partOf_47 : agB cX1_partOf dsX1_partOf_47 47 := agB_of (n := 19) (by decide +kernel)
theorem dbX1_partOf_47 : (decode dsX1_partOf_47 0 = .ok (.invokevirtual 19, 3) ∧ okop dsX1_partOf_47 0 = true) ∧ (decode dsX1_partOf_47 3 = .ok (.istore 5, 2) ∧ okop dsX1_partOf_47 3 = true) ∧ (decode dsX1_partOf_47 5 = .ok (.iload_n 2, 1) ∧ okop dsX1_partOf_47 5 = true) ∧ (decode dsX1_partOf_47 6 = .ok (.iload 5, 2) ∧ okop dsX1_partOf_47 6 = true) ∧ (decode dsX1_partOf_47 8 = .ok (.invokestatic 40, 3) ∧ okop dsX1_partOf_47 8 = true) ∧ (decode dsX1_partOf_47 11 = .ok (.istore_n 2, 1) ∧ okop dsX1_partOf_47 11 = true) ∧ (decode dsX1_partOf_47 12 = .ok (.iload_n 3, 1) ∧ okop dsX1_partOf_47 12 = true) ∧ (decode dsX1_partOf_47 13 = .ok (.iload 5, 2) ∧ okop dsX1_partOf_47 13 = true) ∧ (decode dsX1_partOf_47 15 = .ok (.invokestatic 42, 3) ∧ okop dsX1_partOf_47 15 = true) ∧ (decode dsX1_partOf_47 18 = .ok (.istore_n 3, 1) ∧ okop dsX1_partOf_47 18 = true) := by decide +kernel
theorem dX1_partOf_47 : decode cX1_partOf 47 = .ok (.invokevirtual 19, 3) := dgq (p := 0) daX1_partOf_47 dbX1_partOf_47.1
theorem dX1_partOf_50 : decode cX1_partOf 50 = .ok (.istore 5, 2) := dgq (p := 3) daX1_partOf_47 dbX1_partOf_47.2.1
theorem dX1_partOf_52 : decode cX1_partOf 52 = .ok (.iload_n 2, 1) := dgq (p := 5) daX1_partOf_47 dbX1_partOf_47.2.2.1
theorem dX1_partOf_53 : decode cX1_partOf 53 = .ok (.iload 5, 2) := dgq (p := 6) daX1_partOf_47 dbX1_partOf_47.2.2.2.1
theorem dX1_partOf_55 : decode cX1_partOf 55 = .ok (.invokestatic 40, 3) := dgq (p := 8) daX1_partOf_47 dbX1_partOf_47.2.2.2.2.1
theorem dX1_partOf_58 : decode cX1_partOf 58 = .ok (.istore_n 2, 1) := dgq (p := 11) daX1_partOf_47 dbX1_partOf_47.2.2.2.2.2.1
theorem dX1_partOf_59 : decode cX1_partOf 59 = .ok (.iload_n 3, 1) := dgq (p := 12) daX1_partOf_47 dbX1_partOf_47.2.2.2.2.2.2.1
theorem dX1_partOf_60 : decode cX1_partOf 60 = .ok (.iload 5, 2) := dgq (p := 13) daX1_partOf_47 dbX1_partOf_47.2.2.2.2.2.2.2.1
theorem dX1_partOf_62 : decode cX1_partOf 62 = .ok (.invokestatic 42, 3) := dgq (p := 15) daX1_partOf_47 dbX1_partOf_47.2.2.2.2.2.2.2.2.1
theorem dX1_partOf_65 : decode cX1_partOf 65 = .ok (.istore_n 3, 1) := dgq (p := 18) daX1_partOf_47 dbX1_partOf_47.2.2.2.2.2.2.2.2.2
def dsX1_partOf_66 : ByteArray := ⟨#[132, 4, 1, 167, 255, 224, 28, 29, 100, 133, 27, 133, 105, 42]⟩
theorem daX1_partOf_66 : agB cX1_partOf dsX1_partOf_66 66 := agB_of (n := 14) (by decide +kernel)
theorem dbX1_partOf_66 : (decode dsX1_partOf_66 0 = .ok (.iinc 4 1, 3) ∧ okop dsX1_partOf_66 0 = true) ∧ (decode dsX1_partOf_66 3 = .ok (.goto (-32), 3) ∧ okop dsX1_partOf_66 3 = true) ∧ (decode dsX1_partOf_66 6 = .ok (.iload_n 2, 1) ∧ okop dsX1_partOf_66 6 = true) ∧ (decode dsX1_partOf_66 7 = .ok (.iload_n 3, 1) ∧ okop dsX1_partOf_66 7 = true) ∧ (decode dsX1_partOf_66 8 = .ok (.isub, 1) ∧ okop dsX1_partOf_66 8 = true) ∧ (decode dsX1_partOf_66 9 = .ok (.i2l, 1) ∧ okop dsX1_partOf_66 9 = true) ∧ (decode dsX1_partOf_66 10 = .ok (.iload_n 1, 1) ∧ okop dsX1_partOf_66 10 = true) ∧ (decode dsX1_partOf_66 11 = .ok (.i2l, 1) ∧ okop dsX1_partOf_66 11 = true) ∧ (decode dsX1_partOf_66 12 = .ok (.lmul, 1) ∧ okop dsX1_partOf_66 12 = true) ∧ (decode dsX1_partOf_66 13 = .ok (.aload_n 0, 1) ∧ okop dsX1_partOf_66 13 = true) := by decide +kernel
theorem dX1_partOf_66 : decode cX1_partOf 66 = .ok (.iinc 4 1, 3) := dgq (p := 0) daX1_partOf_66 dbX1_partOf_66.1
theorem dX1_partOf_69 : decode cX1_partOf 69 = .ok (.goto (-32), 3) := dgq (p := 3) daX1_partOf_66 dbX1_partOf_66.2.1
theorem dX1_partOf_72 : decode cX1_partOf 72 = .ok (.iload_n 2, 1) := dgq (p := 6) daX1_partOf_66 dbX1_partOf_66.2.2.1
theorem dX1_partOf_73 : decode cX1_partOf 73 = .ok (.iload_n 3, 1) := dgq (p := 7) daX1_partOf_66 dbX1_partOf_66.2.2.2.1
theorem dX1_partOf_74 : decode cX1_partOf 74 = .ok (.isub, 1) := dgq (p := 8) daX1_partOf_66 dbX1_partOf_66.2.2.2.2.1
theorem dX1_partOf_75 : decode cX1_partOf 75 = .ok (.i2l, 1) := dgq (p := 9) daX1_partOf_66 dbX1_partOf_66.2.2.2.2.2.1
theorem dX1_partOf_76 : decode cX1_partOf 76 = .ok (.iload_n 1, 1) := dgq (p := 10) daX1_partOf_66 dbX1_partOf_66.2.2.2.2.2.2.1
theorem dX1_partOf_77 : decode cX1_partOf 77 = .ok (.i2l, 1) := dgq (p := 11) daX1_partOf_66 dbX1_partOf_66.2.2.2.2.2.2.2.1
theorem dX1_partOf_78 : decode cX1_partOf 78 = .ok (.lmul, 1) := dgq (p := 12) daX1_partOf_66 dbX1_partOf_66.2.2.2.2.2.2.2.2.1
theorem dX1_partOf_79 : decode cX1_partOf 79 = .ok (.aload_n 0, 1) := dgq (p := 13) daX1_partOf_66 dbX1_partOf_66.2.2.2.2.2.2.2.2.2
def dsX1_partOf_80 : ByteArray := ⟨#[180, 0, 7, 190, 133, 109, 136, 172]⟩
theorem daX1_partOf_80 : agB cX1_partOf dsX1_partOf_80 80 := agB_of (n := 8) (by decide +kernel)
theorem dbX1_partOf_80 : (decode dsX1_partOf_80 0 = .ok (.getfield 7, 3) ∧ okop dsX1_partOf_80 0 = true) ∧ (decode dsX1_partOf_80 3 = .ok (.arraylength, 1) ∧ okop dsX1_partOf_80 3 = true) ∧ (decode dsX1_partOf_80 4 = .ok (.i2l, 1) ∧ okop dsX1_partOf_80 4 = true) ∧ (decode dsX1_partOf_80 5 = .ok (.ldiv, 1) ∧ okop dsX1_partOf_80 5 = true) ∧ (decode dsX1_partOf_80 6 = .ok (.l2i, 1) ∧ okop dsX1_partOf_80 6 = true) ∧ (decode dsX1_partOf_80 7 = .ok (.ireturn, 1) ∧ okop dsX1_partOf_80 7 = true) := by decide +kernel
theorem dX1_partOf_80 : decode cX1_partOf 80 = .ok (.getfield 7, 3) := dgq (p := 0) daX1_partOf_80 dbX1_partOf_80.1
theorem dX1_partOf_83 : decode cX1_partOf 83 = .ok (.arraylength, 1) := dgq (p := 3) daX1_partOf_80 dbX1_partOf_80.2.1
theorem dX1_partOf_84 : decode cX1_partOf 84 = .ok (.i2l, 1) := dgq (p := 4) daX1_partOf_80 dbX1_partOf_80.2.2.1
theorem dX1_partOf_85 : decode cX1_partOf 85 = .ok (.ldiv, 1) := dgq (p := 5) daX1_partOf_80 dbX1_partOf_80.2.2.2.1
theorem dX1_partOf_86 : decode cX1_partOf 86 = .ok (.l2i, 1) := dgq (p := 6) daX1_partOf_80 dbX1_partOf_80.2.2.2.2.1
theorem dX1_partOf_87 : decode cX1_partOf 87 = .ok (.ireturn, 1) := dgq (p := 7) daX1_partOf_80 dbX1_partOf_80.2.2.2.2.2
def dsX1_sumOfClass_0 : ByteArray := ⟨#[3, 62, 27, 54, 4, 28, 158, 0, 32, 21, 4, 42, 180, 0, 7, 190]⟩
theorem daX1_sumOfClass_0 : agB cX1_sumOfClass dsX1_sumOfClass_0 0 := agB_of (n := 16) (by decide +kernel)
theorem dbX1_sumOfClass_0 : (decode dsX1_sumOfClass_0 0 = .ok (.iconst 0, 1) ∧ okop dsX1_sumOfClass_0 0 = true) ∧ (decode dsX1_sumOfClass_0 1 = .ok (.istore_n 3, 1) ∧ okop dsX1_sumOfClass_0 1 = true) ∧ (decode dsX1_sumOfClass_0 2 = .ok (.iload_n 1, 1) ∧ okop dsX1_sumOfClass_0 2 = true) ∧ (decode dsX1_sumOfClass_0 3 = .ok (.istore 4, 2) ∧ okop dsX1_sumOfClass_0 3 = true) ∧ (decode dsX1_sumOfClass_0 5 = .ok (.iload_n 2, 1) ∧ okop dsX1_sumOfClass_0 5 = true) ∧ (decode dsX1_sumOfClass_0 6 = .ok (.ifCond .le 32, 3) ∧ okop dsX1_sumOfClass_0 6 = true) ∧ (decode dsX1_sumOfClass_0 9 = .ok (.iload 4, 2) ∧ okop dsX1_sumOfClass_0 9 = true) ∧ (decode dsX1_sumOfClass_0 11 = .ok (.aload_n 0, 1) ∧ okop dsX1_sumOfClass_0 11 = true) ∧ (decode dsX1_sumOfClass_0 12 = .ok (.getfield 7, 3) ∧ okop dsX1_sumOfClass_0 12 = true) ∧ (decode dsX1_sumOfClass_0 15 = .ok (.arraylength, 1) ∧ okop dsX1_sumOfClass_0 15 = true) := by decide +kernel
theorem dX1_sumOfClass_0 : decode cX1_sumOfClass 0 = .ok (.iconst 0, 1) := dgq (p := 0) daX1_sumOfClass_0 dbX1_sumOfClass_0.1
theorem dX1_sumOfClass_1 : decode cX1_sumOfClass 1 = .ok (.istore_n 3, 1) := dgq (p := 1) daX1_sumOfClass_0 dbX1_sumOfClass_0.2.1
theorem dX1_sumOfClass_2 : decode cX1_sumOfClass 2 = .ok (.iload_n 1, 1) := dgq (p := 2) daX1_sumOfClass_0 dbX1_sumOfClass_0.2.2.1
theorem dX1_sumOfClass_3 : decode cX1_sumOfClass 3 = .ok (.istore 4, 2) := dgq (p := 3) daX1_sumOfClass_0 dbX1_sumOfClass_0.2.2.2.1
theorem dX1_sumOfClass_5 : decode cX1_sumOfClass 5 = .ok (.iload_n 2, 1) := dgq (p := 5) daX1_sumOfClass_0 dbX1_sumOfClass_0.2.2.2.2.1
theorem dX1_sumOfClass_6 : decode cX1_sumOfClass 6 = .ok (.ifCond .le 32, 3) := dgq (p := 6) daX1_sumOfClass_0 dbX1_sumOfClass_0.2.2.2.2.2.1
theorem dX1_sumOfClass_9 : decode cX1_sumOfClass 9 = .ok (.iload 4, 2) := dgq (p := 9) daX1_sumOfClass_0 dbX1_sumOfClass_0.2.2.2.2.2.2.1
theorem dX1_sumOfClass_11 : decode cX1_sumOfClass 11 = .ok (.aload_n 0, 1) := dgq (p := 11) daX1_sumOfClass_0 dbX1_sumOfClass_0.2.2.2.2.2.2.2.1
theorem dX1_sumOfClass_12 : decode cX1_sumOfClass 12 = .ok (.getfield 7, 3) := dgq (p := 12) daX1_sumOfClass_0 dbX1_sumOfClass_0.2.2.2.2.2.2.2.2.1
theorem dX1_sumOfClass_15 : decode cX1_sumOfClass 15 = .ok (.arraylength, 1) := dgq (p := 15) daX1_sumOfClass_0 dbX1_sumOfClass_0.2.2.2.2.2.2.2.2.2
def dsX1_sumOfClass_16 : ByteArray := ⟨#[162, 0, 22, 29, 42, 180, 0, 7, 21, 4, 46, 96, 62, 21, 4, 28]⟩
theorem daX1_sumOfClass_16 : agB cX1_sumOfClass dsX1_sumOfClass_16 16 := agB_of (n := 16) (by decide +kernel)
theorem dbX1_sumOfClass_16 : (decode dsX1_sumOfClass_16 0 = .ok (.if_icmp .ge 22, 3) ∧ okop dsX1_sumOfClass_16 0 = true) ∧ (decode dsX1_sumOfClass_16 3 = .ok (.iload_n 3, 1) ∧ okop dsX1_sumOfClass_16 3 = true) ∧ (decode dsX1_sumOfClass_16 4 = .ok (.aload_n 0, 1) ∧ okop dsX1_sumOfClass_16 4 = true) ∧ (decode dsX1_sumOfClass_16 5 = .ok (.getfield 7, 3) ∧ okop dsX1_sumOfClass_16 5 = true) ∧ (decode dsX1_sumOfClass_16 8 = .ok (.iload 4, 2) ∧ okop dsX1_sumOfClass_16 8 = true) ∧ (decode dsX1_sumOfClass_16 10 = .ok (.iaload, 1) ∧ okop dsX1_sumOfClass_16 10 = true) ∧ (decode dsX1_sumOfClass_16 11 = .ok (.iadd, 1) ∧ okop dsX1_sumOfClass_16 11 = true) ∧ (decode dsX1_sumOfClass_16 12 = .ok (.istore_n 3, 1) ∧ okop dsX1_sumOfClass_16 12 = true) ∧ (decode dsX1_sumOfClass_16 13 = .ok (.iload 4, 2) ∧ okop dsX1_sumOfClass_16 13 = true) ∧ (decode dsX1_sumOfClass_16 15 = .ok (.iload_n 2, 1) ∧ okop dsX1_sumOfClass_16 15 = true) := by decide +kernel
theorem dX1_sumOfClass_16 : decode cX1_sumOfClass 16 = .ok (.if_icmp .ge 22, 3) := dgq (p := 0) daX1_sumOfClass_16 dbX1_sumOfClass_16.1
theorem dX1_sumOfClass_19 : decode cX1_sumOfClass 19 = .ok (.iload_n 3, 1) := dgq (p := 3) daX1_sumOfClass_16 dbX1_sumOfClass_16.2.1
theorem dX1_sumOfClass_20 : decode cX1_sumOfClass 20 = .ok (.aload_n 0, 1) := dgq (p := 4) daX1_sumOfClass_16 dbX1_sumOfClass_16.2.2.1
theorem dX1_sumOfClass_21 : decode cX1_sumOfClass 21 = .ok (.getfield 7, 3) := dgq (p := 5) daX1_sumOfClass_16 dbX1_sumOfClass_16.2.2.2.1
theorem dX1_sumOfClass_24 : decode cX1_sumOfClass 24 = .ok (.iload 4, 2) := dgq (p := 8) daX1_sumOfClass_16 dbX1_sumOfClass_16.2.2.2.2.1
theorem dX1_sumOfClass_26 : decode cX1_sumOfClass 26 = .ok (.iaload, 1) := dgq (p := 10) daX1_sumOfClass_16 dbX1_sumOfClass_16.2.2.2.2.2.1
theorem dX1_sumOfClass_27 : decode cX1_sumOfClass 27 = .ok (.iadd, 1) := dgq (p := 11) daX1_sumOfClass_16 dbX1_sumOfClass_16.2.2.2.2.2.2.1
theorem dX1_sumOfClass_28 : decode cX1_sumOfClass 28 = .ok (.istore_n 3, 1) := dgq (p := 12) daX1_sumOfClass_16 dbX1_sumOfClass_16.2.2.2.2.2.2.2.1
theorem dX1_sumOfClass_29 : decode cX1_sumOfClass 29 = .ok (.iload 4, 2) := dgq (p := 13) daX1_sumOfClass_16 dbX1_sumOfClass_16.2.2.2.2.2.2.2.2.1
theorem dX1_sumOfClass_31 : decode cX1_sumOfClass 31 = .ok (.iload_n 2, 1) := dgq (p := 15) daX1_sumOfClass_16 dbX1_sumOfClass_16.2.2.2.2.2.2.2.2.2
def dsX1_sumOfClass_32 : ByteArray := ⟨#[96, 54, 4, 167, 255, 226, 29, 172]⟩
theorem daX1_sumOfClass_32 : agB cX1_sumOfClass dsX1_sumOfClass_32 32 := agB_of (n := 8) (by decide +kernel)
theorem dbX1_sumOfClass_32 : (decode dsX1_sumOfClass_32 0 = .ok (.iadd, 1) ∧ okop dsX1_sumOfClass_32 0 = true) ∧ (decode dsX1_sumOfClass_32 1 = .ok (.istore 4, 2) ∧ okop dsX1_sumOfClass_32 1 = true) ∧ (decode dsX1_sumOfClass_32 3 = .ok (.goto (-30), 3) ∧ okop dsX1_sumOfClass_32 3 = true) ∧ (decode dsX1_sumOfClass_32 6 = .ok (.iload_n 3, 1) ∧ okop dsX1_sumOfClass_32 6 = true) ∧ (decode dsX1_sumOfClass_32 7 = .ok (.ireturn, 1) ∧ okop dsX1_sumOfClass_32 7 = true) := by decide +kernel
theorem dX1_sumOfClass_32 : decode cX1_sumOfClass 32 = .ok (.iadd, 1) := dgq (p := 0) daX1_sumOfClass_32 dbX1_sumOfClass_32.1
theorem dX1_sumOfClass_33 : decode cX1_sumOfClass 33 = .ok (.istore 4, 2) := dgq (p := 1) daX1_sumOfClass_32 dbX1_sumOfClass_32.2.1
theorem dX1_sumOfClass_35 : decode cX1_sumOfClass 35 = .ok (.goto (-30), 3) := dgq (p := 3) daX1_sumOfClass_32 dbX1_sumOfClass_32.2.2.1
theorem dX1_sumOfClass_38 : decode cX1_sumOfClass 38 = .ok (.iload_n 3, 1) := dgq (p := 6) daX1_sumOfClass_32 dbX1_sumOfClass_32.2.2.2.1
theorem dX1_sumOfClass_39 : decode cX1_sumOfClass 39 = .ok (.ireturn, 1) := dgq (p := 7) daX1_sumOfClass_32 dbX1_sumOfClass_32.2.2.2.2
set_option maxRecDepth 20000 in
theorem ggX2_init_X1_init : GoodIn wsX2_init wsX1_init := goodIn_ca (goodIn_q _ [21, 22, 2, 3, 23, 24, 25] rfl (by decide +kernel)) (goodIn_sub (fun _ h => (List.mem_cons_of_mem _ (List.mem_append_left _ (List.mem_append_right _ h)))) tg_wsX10)
set_option maxRecDepth 20000 in
theorem gX2_init_X1_init : GoodIn wsX2_init (wsX1_init) := ggX2_init_X1_init
set_option maxRecDepth 20000 in
theorem ggX2_init_J4_init_da8c8 : GoodIn wsX2_init wsJ4_init_da8c8 := goodIn_ca (goodIn_q _ [28, 29, 30, 31, 32, 33, 2, 3, 34, 35, 36, 37, 38, 39, 40, 41, 42, 43, 44, 45] rfl (by decide +kernel)) (goodIn_sub (fun _ h => (List.mem_cons_of_mem _ (List.mem_append_right _ h))) tg_wsJ40)
set_option maxRecDepth 20000 in
theorem gX2_init_J4_init_da8c8 : GoodIn wsX2_init (wsJ4_init_da8c8) := ggX2_init_J4_init_da8c8
def dsX2_init_0 : ByteArray := ⟨#[42, 183, 0, 3, 42, 27, 181, 0, 9, 42, 28, 181, 0, 15, 42, 29]⟩
theorem daX2_init_0 : agB cX2_init dsX2_init_0 0 := agB_of (n := 16) (by decide +kernel)
theorem dbX2_init_0 : (decode dsX2_init_0 0 = .ok (.aload_n 0, 1) ∧ okop dsX2_init_0 0 = true) ∧ (decode dsX2_init_0 1 = .ok (.invokespecial 3, 3) ∧ okop dsX2_init_0 1 = true) ∧ (decode dsX2_init_0 4 = .ok (.aload_n 0, 1) ∧ okop dsX2_init_0 4 = true) ∧ (decode dsX2_init_0 5 = .ok (.iload_n 1, 1) ∧ okop dsX2_init_0 5 = true) ∧ (decode dsX2_init_0 6 = .ok (.putfield 9, 3) ∧ okop dsX2_init_0 6 = true) ∧ (decode dsX2_init_0 9 = .ok (.aload_n 0, 1) ∧ okop dsX2_init_0 9 = true) ∧ (decode dsX2_init_0 10 = .ok (.iload_n 2, 1) ∧ okop dsX2_init_0 10 = true) ∧ (decode dsX2_init_0 11 = .ok (.putfield 15, 3) ∧ okop dsX2_init_0 11 = true) ∧ (decode dsX2_init_0 14 = .ok (.aload_n 0, 1) ∧ okop dsX2_init_0 14 = true) ∧ (decode dsX2_init_0 15 = .ok (.iload_n 3, 1) ∧ okop dsX2_init_0 15 = true) := by decide +kernel
theorem dX2_init_0 : decode cX2_init 0 = .ok (.aload_n 0, 1) := dgq (p := 0) daX2_init_0 dbX2_init_0.1
theorem dX2_init_1 : decode cX2_init 1 = .ok (.invokespecial 3, 3) := dgq (p := 1) daX2_init_0 dbX2_init_0.2.1
theorem dX2_init_4 : decode cX2_init 4 = .ok (.aload_n 0, 1) := dgq (p := 4) daX2_init_0 dbX2_init_0.2.2.1
theorem dX2_init_5 : decode cX2_init 5 = .ok (.iload_n 1, 1) := dgq (p := 5) daX2_init_0 dbX2_init_0.2.2.2.1
theorem dX2_init_6 : decode cX2_init 6 = .ok (.putfield 9, 3) := dgq (p := 6) daX2_init_0 dbX2_init_0.2.2.2.2.1
theorem dX2_init_9 : decode cX2_init 9 = .ok (.aload_n 0, 1) := dgq (p := 9) daX2_init_0 dbX2_init_0.2.2.2.2.2.1
theorem dX2_init_10 : decode cX2_init 10 = .ok (.iload_n 2, 1) := dgq (p := 10) daX2_init_0 dbX2_init_0.2.2.2.2.2.2.1
theorem dX2_init_11 : decode cX2_init 11 = .ok (.putfield 15, 3) := dgq (p := 11) daX2_init_0 dbX2_init_0.2.2.2.2.2.2.2.1
theorem dX2_init_14 : decode cX2_init 14 = .ok (.aload_n 0, 1) := dgq (p := 14) daX2_init_0 dbX2_init_0.2.2.2.2.2.2.2.2.1
theorem dX2_init_15 : decode cX2_init 15 = .ok (.iload_n 3, 1) := dgq (p := 15) daX2_init_0 dbX2_init_0.2.2.2.2.2.2.2.2.2
def dsX2_init_16 : ByteArray := ⟨#[181, 0, 18, 42, 21, 4, 181, 0, 21, 42, 21, 5, 181, 0, 24, 42, 187, 0, 27, 89]⟩
theorem daX2_init_16 : agB cX2_init dsX2_init_16 16 := agB_of (n := 20) (by decide +kernel)
theorem dbX2_init_16 : (decode dsX2_init_16 0 = .ok (.putfield 18, 3) ∧ okop dsX2_init_16 0 = true) ∧ (decode dsX2_init_16 3 = .ok (.aload_n 0, 1) ∧ okop dsX2_init_16 3 = true) ∧ (decode dsX2_init_16 4 = .ok (.iload 4, 2) ∧ okop dsX2_init_16 4 = true) ∧ (decode dsX2_init_16 6 = .ok (.putfield 21, 3) ∧ okop dsX2_init_16 6 = true) ∧ (decode dsX2_init_16 9 = .ok (.aload_n 0, 1) ∧ okop dsX2_init_16 9 = true) ∧ (decode dsX2_init_16 10 = .ok (.iload 5, 2) ∧ okop dsX2_init_16 10 = true) ∧ (decode dsX2_init_16 12 = .ok (.putfield 24, 3) ∧ okop dsX2_init_16 12 = true) ∧ (decode dsX2_init_16 15 = .ok (.aload_n 0, 1) ∧ okop dsX2_init_16 15 = true) ∧ (decode dsX2_init_16 16 = .ok (.new 27, 3) ∧ okop dsX2_init_16 16 = true) ∧ (decode dsX2_init_16 19 = .ok (.dup, 1) ∧ okop dsX2_init_16 19 = true) := by decide +kernel
theorem dX2_init_16 : decode cX2_init 16 = .ok (.putfield 18, 3) := dgq (p := 0) daX2_init_16 dbX2_init_16.1
theorem dX2_init_19 : decode cX2_init 19 = .ok (.aload_n 0, 1) := dgq (p := 3) daX2_init_16 dbX2_init_16.2.1
theorem dX2_init_20 : decode cX2_init 20 = .ok (.iload 4, 2) := dgq (p := 4) daX2_init_16 dbX2_init_16.2.2.1
theorem dX2_init_22 : decode cX2_init 22 = .ok (.putfield 21, 3) := dgq (p := 6) daX2_init_16 dbX2_init_16.2.2.2.1
theorem dX2_init_25 : decode cX2_init 25 = .ok (.aload_n 0, 1) := dgq (p := 9) daX2_init_16 dbX2_init_16.2.2.2.2.1
theorem dX2_init_26 : decode cX2_init 26 = .ok (.iload 5, 2) := dgq (p := 10) daX2_init_16 dbX2_init_16.2.2.2.2.2.1
theorem dX2_init_28 : decode cX2_init 28 = .ok (.putfield 24, 3) := dgq (p := 12) daX2_init_16 dbX2_init_16.2.2.2.2.2.2.1
theorem dX2_init_31 : decode cX2_init 31 = .ok (.aload_n 0, 1) := dgq (p := 15) daX2_init_16 dbX2_init_16.2.2.2.2.2.2.2.1
theorem dX2_init_32 : decode cX2_init 32 = .ok (.new 27, 3) := dgq (p := 16) daX2_init_16 dbX2_init_16.2.2.2.2.2.2.2.2.1
theorem dX2_init_35 : decode cX2_init 35 = .ok (.dup, 1) := dgq (p := 19) daX2_init_16 dbX2_init_16.2.2.2.2.2.2.2.2.2
def dsX2_init_36 : ByteArray := ⟨#[28, 183, 0, 29, 181, 0, 32, 42, 187, 0, 36, 89, 183, 0, 38, 181, 0, 39, 42, 2]⟩
theorem daX2_init_36 : agB cX2_init dsX2_init_36 36 := agB_of (n := 20) (by decide +kernel)
theorem dbX2_init_36 : (decode dsX2_init_36 0 = .ok (.iload_n 2, 1) ∧ okop dsX2_init_36 0 = true) ∧ (decode dsX2_init_36 1 = .ok (.invokespecial 29, 3) ∧ okop dsX2_init_36 1 = true) ∧ (decode dsX2_init_36 4 = .ok (.putfield 32, 3) ∧ okop dsX2_init_36 4 = true) ∧ (decode dsX2_init_36 7 = .ok (.aload_n 0, 1) ∧ okop dsX2_init_36 7 = true) ∧ (decode dsX2_init_36 8 = .ok (.new 36, 3) ∧ okop dsX2_init_36 8 = true) ∧ (decode dsX2_init_36 11 = .ok (.dup, 1) ∧ okop dsX2_init_36 11 = true) ∧ (decode dsX2_init_36 12 = .ok (.invokespecial 38, 3) ∧ okop dsX2_init_36 12 = true) ∧ (decode dsX2_init_36 15 = .ok (.putfield 39, 3) ∧ okop dsX2_init_36 15 = true) ∧ (decode dsX2_init_36 18 = .ok (.aload_n 0, 1) ∧ okop dsX2_init_36 18 = true) ∧ (decode dsX2_init_36 19 = .ok (.iconst (-1), 1) ∧ okop dsX2_init_36 19 = true) := by decide +kernel
theorem dX2_init_36 : decode cX2_init 36 = .ok (.iload_n 2, 1) := dgq (p := 0) daX2_init_36 dbX2_init_36.1
theorem dX2_init_37 : decode cX2_init 37 = .ok (.invokespecial 29, 3) := dgq (p := 1) daX2_init_36 dbX2_init_36.2.1
theorem dX2_init_40 : decode cX2_init 40 = .ok (.putfield 32, 3) := dgq (p := 4) daX2_init_36 dbX2_init_36.2.2.1
theorem dX2_init_43 : decode cX2_init 43 = .ok (.aload_n 0, 1) := dgq (p := 7) daX2_init_36 dbX2_init_36.2.2.2.1
theorem dX2_init_44 : decode cX2_init 44 = .ok (.new 36, 3) := dgq (p := 8) daX2_init_36 dbX2_init_36.2.2.2.2.1
theorem dX2_init_47 : decode cX2_init 47 = .ok (.dup, 1) := dgq (p := 11) daX2_init_36 dbX2_init_36.2.2.2.2.2.1
theorem dX2_init_48 : decode cX2_init 48 = .ok (.invokespecial 38, 3) := dgq (p := 12) daX2_init_36 dbX2_init_36.2.2.2.2.2.2.1
theorem dX2_init_51 : decode cX2_init 51 = .ok (.putfield 39, 3) := dgq (p := 15) daX2_init_36 dbX2_init_36.2.2.2.2.2.2.2.1
theorem dX2_init_54 : decode cX2_init 54 = .ok (.aload_n 0, 1) := dgq (p := 18) daX2_init_36 dbX2_init_36.2.2.2.2.2.2.2.2.1
theorem dX2_init_55 : decode cX2_init 55 = .ok (.iconst (-1), 1) := dgq (p := 19) daX2_init_36 dbX2_init_36.2.2.2.2.2.2.2.2.2
def dsX2_init_56 : ByteArray := ⟨#[181, 0, 43, 42, 2, 181, 0, 46, 177]⟩
theorem daX2_init_56 : agB cX2_init dsX2_init_56 56 := agB_of (n := 9) (by decide +kernel)
theorem dbX2_init_56 : (decode dsX2_init_56 0 = .ok (.putfield 43, 3) ∧ okop dsX2_init_56 0 = true) ∧ (decode dsX2_init_56 3 = .ok (.aload_n 0, 1) ∧ okop dsX2_init_56 3 = true) ∧ (decode dsX2_init_56 4 = .ok (.iconst (-1), 1) ∧ okop dsX2_init_56 4 = true) ∧ (decode dsX2_init_56 5 = .ok (.putfield 46, 3) ∧ okop dsX2_init_56 5 = true) ∧ (decode dsX2_init_56 8 = .ok (.return_, 1) ∧ okop dsX2_init_56 8 = true) := by decide +kernel
theorem dX2_init_56 : decode cX2_init 56 = .ok (.putfield 43, 3) := dgq (p := 0) daX2_init_56 dbX2_init_56.1
theorem dX2_init_59 : decode cX2_init 59 = .ok (.aload_n 0, 1) := dgq (p := 3) daX2_init_56 dbX2_init_56.2.1
theorem dX2_init_60 : decode cX2_init 60 = .ok (.iconst (-1), 1) := dgq (p := 4) daX2_init_56 dbX2_init_56.2.2.1
theorem dX2_init_61 : decode cX2_init 61 = .ok (.putfield 46, 3) := dgq (p := 5) daX2_init_56 dbX2_init_56.2.2.2.1
theorem dX2_init_64 : decode cX2_init 64 = .ok (.return_, 1) := dgq (p := 8) daX2_init_56 dbX2_init_56.2.2.2.2
def dsX2_pitchDiameter_0 : ByteArray := ⟨#[42, 180, 0, 15, 42, 180, 0, 18, 104, 172]⟩
theorem daX2_pitchDiameter_0 : agB cX2_pitchDiameter dsX2_pitchDiameter_0 0 := agB_of (n := 10) (by decide +kernel)
theorem dbX2_pitchDiameter_0 : (decode dsX2_pitchDiameter_0 0 = .ok (.aload_n 0, 1) ∧ okop dsX2_pitchDiameter_0 0 = true) ∧ (decode dsX2_pitchDiameter_0 1 = .ok (.getfield 15, 3) ∧ okop dsX2_pitchDiameter_0 1 = true) ∧ (decode dsX2_pitchDiameter_0 4 = .ok (.aload_n 0, 1) ∧ okop dsX2_pitchDiameter_0 4 = true) ∧ (decode dsX2_pitchDiameter_0 5 = .ok (.getfield 18, 3) ∧ okop dsX2_pitchDiameter_0 5 = true) ∧ (decode dsX2_pitchDiameter_0 8 = .ok (.imul, 1) ∧ okop dsX2_pitchDiameter_0 8 = true) ∧ (decode dsX2_pitchDiameter_0 9 = .ok (.ireturn, 1) ∧ okop dsX2_pitchDiameter_0 9 = true) := by decide +kernel
theorem dX2_pitchDiameter_0 : decode cX2_pitchDiameter 0 = .ok (.aload_n 0, 1) := dgq (p := 0) daX2_pitchDiameter_0 dbX2_pitchDiameter_0.1
theorem dX2_pitchDiameter_1 : decode cX2_pitchDiameter 1 = .ok (.getfield 15, 3) := dgq (p := 1) daX2_pitchDiameter_0 dbX2_pitchDiameter_0.2.1
theorem dX2_pitchDiameter_4 : decode cX2_pitchDiameter 4 = .ok (.aload_n 0, 1) := dgq (p := 4) daX2_pitchDiameter_0 dbX2_pitchDiameter_0.2.2.1
theorem dX2_pitchDiameter_5 : decode cX2_pitchDiameter 5 = .ok (.getfield 18, 3) := dgq (p := 5) daX2_pitchDiameter_0 dbX2_pitchDiameter_0.2.2.2.1
theorem dX2_pitchDiameter_8 : decode cX2_pitchDiameter 8 = .ok (.imul, 1) := dgq (p := 8) daX2_pitchDiameter_0 dbX2_pitchDiameter_0.2.2.2.2.1
theorem dX2_pitchDiameter_9 : decode cX2_pitchDiameter 9 = .ok (.ireturn, 1) := dgq (p := 9) daX2_pitchDiameter_0 dbX2_pitchDiameter_0.2.2.2.2.2
set_option maxRecDepth 20000 in
theorem ggX2_tipAt_X9_tipOf : GoodIn wsX2_tipAt wsX9_tipOf := goodIn_q _ [5] rfl (by decide +kernel)
set_option maxRecDepth 20000 in
theorem gX2_tipAt_X9_tipOf_n49 : GoodIn wsX2_tipAt (wsX9_tipOf) := ggX2_tipAt_X9_tipOf
def dsX2_tipAt_0 : ByteArray := ⟨#[42, 180, 0, 15, 42, 180, 0, 18, 27, 184, 0, 49, 172]⟩
theorem daX2_tipAt_0 : agB cX2_tipAt dsX2_tipAt_0 0 := agB_of (n := 13) (by decide +kernel)
theorem dbX2_tipAt_0 : (decode dsX2_tipAt_0 0 = .ok (.aload_n 0, 1) ∧ okop dsX2_tipAt_0 0 = true) ∧ (decode dsX2_tipAt_0 1 = .ok (.getfield 15, 3) ∧ okop dsX2_tipAt_0 1 = true) ∧ (decode dsX2_tipAt_0 4 = .ok (.aload_n 0, 1) ∧ okop dsX2_tipAt_0 4 = true) ∧ (decode dsX2_tipAt_0 5 = .ok (.getfield 18, 3) ∧ okop dsX2_tipAt_0 5 = true) ∧ (decode dsX2_tipAt_0 8 = .ok (.iload_n 1, 1) ∧ okop dsX2_tipAt_0 8 = true) ∧ (decode dsX2_tipAt_0 9 = .ok (.invokestatic 49, 3) ∧ okop dsX2_tipAt_0 9 = true) ∧ (decode dsX2_tipAt_0 12 = .ok (.ireturn, 1) ∧ okop dsX2_tipAt_0 12 = true) := by decide +kernel
theorem dX2_tipAt_0 : decode cX2_tipAt 0 = .ok (.aload_n 0, 1) := dgq (p := 0) daX2_tipAt_0 dbX2_tipAt_0.1
theorem dX2_tipAt_1 : decode cX2_tipAt 1 = .ok (.getfield 15, 3) := dgq (p := 1) daX2_tipAt_0 dbX2_tipAt_0.2.1
theorem dX2_tipAt_4 : decode cX2_tipAt 4 = .ok (.aload_n 0, 1) := dgq (p := 4) daX2_tipAt_0 dbX2_tipAt_0.2.2.1
theorem dX2_tipAt_5 : decode cX2_tipAt 5 = .ok (.getfield 18, 3) := dgq (p := 5) daX2_tipAt_0 dbX2_tipAt_0.2.2.2.1
theorem dX2_tipAt_8 : decode cX2_tipAt 8 = .ok (.iload_n 1, 1) := dgq (p := 8) daX2_tipAt_0 dbX2_tipAt_0.2.2.2.2.1
theorem dX2_tipAt_9 : decode cX2_tipAt 9 = .ok (.invokestatic 49, 3) := dgq (p := 9) daX2_tipAt_0 dbX2_tipAt_0.2.2.2.2.2.1
theorem dX2_tipAt_12 : decode cX2_tipAt 12 = .ok (.ireturn, 1) := dgq (p := 12) daX2_tipAt_0 dbX2_tipAt_0.2.2.2.2.2.2
set_option maxRecDepth 20000 in
theorem ggX2_isGoodAt_X9_undercuts : GoodIn wsX2_isGoodAt wsX9_undercuts := goodIn_q _ [4] rfl (by decide +kernel)
set_option maxRecDepth 20000 in
theorem gX2_isGoodAt_X9_undercuts_n53 : GoodIn wsX2_isGoodAt (wsX9_undercuts) := ggX2_isGoodAt_X9_undercuts
set_option maxRecDepth 20000 in
theorem ggX2_isGoodAt_X9_sharpens : GoodIn wsX2_isGoodAt wsX9_sharpens := goodIn_q _ [6] rfl (by decide +kernel)
set_option maxRecDepth 20000 in
theorem gX2_isGoodAt_X9_sharpens_n57 : GoodIn wsX2_isGoodAt (wsX9_sharpens) := ggX2_isGoodAt_X9_sharpens
def dsX2_isGoodAt_0 : ByteArray := ⟨#[42, 180, 0, 15, 27, 184, 0, 53, 154, 0, 18, 42, 180, 0, 15, 27, 184, 0, 57, 154, 0, 7]⟩
theorem daX2_isGoodAt_0 : agB cX2_isGoodAt dsX2_isGoodAt_0 0 := agB_of (n := 22) (by decide +kernel)
theorem dbX2_isGoodAt_0 : (decode dsX2_isGoodAt_0 0 = .ok (.aload_n 0, 1) ∧ okop dsX2_isGoodAt_0 0 = true) ∧ (decode dsX2_isGoodAt_0 1 = .ok (.getfield 15, 3) ∧ okop dsX2_isGoodAt_0 1 = true) ∧ (decode dsX2_isGoodAt_0 4 = .ok (.iload_n 1, 1) ∧ okop dsX2_isGoodAt_0 4 = true) ∧ (decode dsX2_isGoodAt_0 5 = .ok (.invokestatic 53, 3) ∧ okop dsX2_isGoodAt_0 5 = true) ∧ (decode dsX2_isGoodAt_0 8 = .ok (.ifCond .ne 18, 3) ∧ okop dsX2_isGoodAt_0 8 = true) ∧ (decode dsX2_isGoodAt_0 11 = .ok (.aload_n 0, 1) ∧ okop dsX2_isGoodAt_0 11 = true) ∧ (decode dsX2_isGoodAt_0 12 = .ok (.getfield 15, 3) ∧ okop dsX2_isGoodAt_0 12 = true) ∧ (decode dsX2_isGoodAt_0 15 = .ok (.iload_n 1, 1) ∧ okop dsX2_isGoodAt_0 15 = true) ∧ (decode dsX2_isGoodAt_0 16 = .ok (.invokestatic 57, 3) ∧ okop dsX2_isGoodAt_0 16 = true) ∧ (decode dsX2_isGoodAt_0 19 = .ok (.ifCond .ne 7, 3) ∧ okop dsX2_isGoodAt_0 19 = true) := by decide +kernel
theorem dX2_isGoodAt_0 : decode cX2_isGoodAt 0 = .ok (.aload_n 0, 1) := dgq (p := 0) daX2_isGoodAt_0 dbX2_isGoodAt_0.1
theorem dX2_isGoodAt_1 : decode cX2_isGoodAt 1 = .ok (.getfield 15, 3) := dgq (p := 1) daX2_isGoodAt_0 dbX2_isGoodAt_0.2.1
theorem dX2_isGoodAt_4 : decode cX2_isGoodAt 4 = .ok (.iload_n 1, 1) := dgq (p := 4) daX2_isGoodAt_0 dbX2_isGoodAt_0.2.2.1
theorem dX2_isGoodAt_5 : decode cX2_isGoodAt 5 = .ok (.invokestatic 53, 3) := dgq (p := 5) daX2_isGoodAt_0 dbX2_isGoodAt_0.2.2.2.1
theorem dX2_isGoodAt_8 : decode cX2_isGoodAt 8 = .ok (.ifCond .ne 18, 3) := dgq (p := 8) daX2_isGoodAt_0 dbX2_isGoodAt_0.2.2.2.2.1
theorem dX2_isGoodAt_11 : decode cX2_isGoodAt 11 = .ok (.aload_n 0, 1) := dgq (p := 11) daX2_isGoodAt_0 dbX2_isGoodAt_0.2.2.2.2.2.1
theorem dX2_isGoodAt_12 : decode cX2_isGoodAt 12 = .ok (.getfield 15, 3) := dgq (p := 12) daX2_isGoodAt_0 dbX2_isGoodAt_0.2.2.2.2.2.2.1
theorem dX2_isGoodAt_15 : decode cX2_isGoodAt 15 = .ok (.iload_n 1, 1) := dgq (p := 15) daX2_isGoodAt_0 dbX2_isGoodAt_0.2.2.2.2.2.2.2.1
theorem dX2_isGoodAt_16 : decode cX2_isGoodAt 16 = .ok (.invokestatic 57, 3) := dgq (p := 16) daX2_isGoodAt_0 dbX2_isGoodAt_0.2.2.2.2.2.2.2.2.1
theorem dX2_isGoodAt_19 : decode cX2_isGoodAt 19 = .ok (.ifCond .ne 7, 3) := dgq (p := 19) daX2_isGoodAt_0 dbX2_isGoodAt_0.2.2.2.2.2.2.2.2.2
def dsX2_isGoodAt_22 : ByteArray := ⟨#[4, 167, 0, 4, 3, 172]⟩
theorem daX2_isGoodAt_22 : agB cX2_isGoodAt dsX2_isGoodAt_22 22 := agB_of (n := 6) (by decide +kernel)
theorem dbX2_isGoodAt_22 : (decode dsX2_isGoodAt_22 0 = .ok (.iconst 1, 1) ∧ okop dsX2_isGoodAt_22 0 = true) ∧ (decode dsX2_isGoodAt_22 1 = .ok (.goto 4, 3) ∧ okop dsX2_isGoodAt_22 1 = true) ∧ (decode dsX2_isGoodAt_22 4 = .ok (.iconst 0, 1) ∧ okop dsX2_isGoodAt_22 4 = true) ∧ (decode dsX2_isGoodAt_22 5 = .ok (.ireturn, 1) ∧ okop dsX2_isGoodAt_22 5 = true) := by decide +kernel
theorem dX2_isGoodAt_22 : decode cX2_isGoodAt 22 = .ok (.iconst 1, 1) := dgq (p := 0) daX2_isGoodAt_22 dbX2_isGoodAt_22.1
theorem dX2_isGoodAt_23 : decode cX2_isGoodAt 23 = .ok (.goto 4, 3) := dgq (p := 1) daX2_isGoodAt_22 dbX2_isGoodAt_22.2.1
theorem dX2_isGoodAt_26 : decode cX2_isGoodAt 26 = .ok (.iconst 0, 1) := dgq (p := 4) daX2_isGoodAt_22 dbX2_isGoodAt_22.2.2.1
theorem dX2_isGoodAt_27 : decode cX2_isGoodAt 27 = .ok (.ireturn, 1) := dgq (p := 5) daX2_isGoodAt_22 dbX2_isGoodAt_22.2.2.2
set_option maxRecDepth 20000 in
theorem ggX2_lineAt_X2_tipAt : GoodIn wsX2_lineAt wsX2_tipAt := goodIn_ca (goodIn_q _ [7, 8, 9, 10, 11, 12] rfl (by decide +kernel)) (goodIn_sub (fun _ h => (List.mem_cons_of_mem _ (List.mem_append_right _ h))) tg_wsX20)
set_option maxRecDepth 20000 in
theorem gX2_lineAt_X2_tipAt : GoodIn wsX2_lineAt (wsV RX2 60 RX2 yX2_tipAt wsX2_tipAt) := goodIn_app (goodIn_q _ [3, 4, 5, 6] rfl (by decide +kernel)) ggX2_lineAt_X2_tipAt
set_option maxRecDepth 20000 in
theorem ggX2_lineAt_X2_pitchDiameter : GoodIn wsX2_lineAt wsX2_pitchDiameter := goodIn_ca (goodIn_q _ [16, 8, 9] rfl (by decide +kernel)) (goodIn_sub (fun _ h => (List.mem_cons_of_mem _ (List.mem_append_right _ h))) tg_wsX20)
set_option maxRecDepth 20000 in
theorem gX2_lineAt_X2_pitchDiameter : GoodIn wsX2_lineAt (wsV RX2 64 RX2 yX2_pitchDiameter wsX2_pitchDiameter) := goodIn_app (goodIn_q _ [13, 14, 15, 6] rfl (by decide +kernel)) ggX2_lineAt_X2_pitchDiameter
set_option maxRecDepth 20000 in
theorem ggX2_lineAt_X9_root : GoodIn wsX2_lineAt wsX9_root := goodIn_q _ [18] rfl (by decide +kernel)
set_option maxRecDepth 20000 in
theorem gX2_lineAt_X9_root_n72 : GoodIn wsX2_lineAt (wsX9_root) := ggX2_lineAt_X9_root
def dsX2_lineAt_0 : ByteArray := ⟨#[42, 27, 182, 0, 60, 133, 65, 42, 182, 0, 64, 133, 55, 4, 20, 0, 68]⟩
theorem daX2_lineAt_0 : agB cX2_lineAt dsX2_lineAt_0 0 := agB_of (n := 17) (by decide +kernel)
theorem dbX2_lineAt_0 : (decode dsX2_lineAt_0 0 = .ok (.aload_n 0, 1) ∧ okop dsX2_lineAt_0 0 = true) ∧ (decode dsX2_lineAt_0 1 = .ok (.iload_n 1, 1) ∧ okop dsX2_lineAt_0 1 = true) ∧ (decode dsX2_lineAt_0 2 = .ok (.invokevirtual 60, 3) ∧ okop dsX2_lineAt_0 2 = true) ∧ (decode dsX2_lineAt_0 5 = .ok (.i2l, 1) ∧ okop dsX2_lineAt_0 5 = true) ∧ (decode dsX2_lineAt_0 6 = .ok (.lstore_n 2, 1) ∧ okop dsX2_lineAt_0 6 = true) ∧ (decode dsX2_lineAt_0 7 = .ok (.aload_n 0, 1) ∧ okop dsX2_lineAt_0 7 = true) ∧ (decode dsX2_lineAt_0 8 = .ok (.invokevirtual 64, 3) ∧ okop dsX2_lineAt_0 8 = true) ∧ (decode dsX2_lineAt_0 11 = .ok (.i2l, 1) ∧ okop dsX2_lineAt_0 11 = true) ∧ (decode dsX2_lineAt_0 12 = .ok (.lstore 4, 2) ∧ okop dsX2_lineAt_0 12 = true) ∧ (decode dsX2_lineAt_0 14 = .ok (.ldc2_w 68, 3) ∧ okop dsX2_lineAt_0 14 = true) := by decide +kernel
theorem dX2_lineAt_0 : decode cX2_lineAt 0 = .ok (.aload_n 0, 1) := dgq (p := 0) daX2_lineAt_0 dbX2_lineAt_0.1
theorem dX2_lineAt_1 : decode cX2_lineAt 1 = .ok (.iload_n 1, 1) := dgq (p := 1) daX2_lineAt_0 dbX2_lineAt_0.2.1
theorem dX2_lineAt_2 : decode cX2_lineAt 2 = .ok (.invokevirtual 60, 3) := dgq (p := 2) daX2_lineAt_0 dbX2_lineAt_0.2.2.1
theorem dX2_lineAt_5 : decode cX2_lineAt 5 = .ok (.i2l, 1) := dgq (p := 5) daX2_lineAt_0 dbX2_lineAt_0.2.2.2.1
theorem dX2_lineAt_6 : decode cX2_lineAt 6 = .ok (.lstore_n 2, 1) := dgq (p := 6) daX2_lineAt_0 dbX2_lineAt_0.2.2.2.2.1
theorem dX2_lineAt_7 : decode cX2_lineAt 7 = .ok (.aload_n 0, 1) := dgq (p := 7) daX2_lineAt_0 dbX2_lineAt_0.2.2.2.2.2.1
theorem dX2_lineAt_8 : decode cX2_lineAt 8 = .ok (.invokevirtual 64, 3) := dgq (p := 8) daX2_lineAt_0 dbX2_lineAt_0.2.2.2.2.2.2.1
theorem dX2_lineAt_11 : decode cX2_lineAt 11 = .ok (.i2l, 1) := dgq (p := 11) daX2_lineAt_0 dbX2_lineAt_0.2.2.2.2.2.2.2.1
theorem dX2_lineAt_12 : decode cX2_lineAt 12 = .ok (.lstore 4, 2) := dgq (p := 12) daX2_lineAt_0 dbX2_lineAt_0.2.2.2.2.2.2.2.2.1
theorem dX2_lineAt_14 : decode cX2_lineAt 14 = .ok (.ldc2_w 68, 3) := dgq (p := 14) daX2_lineAt_0 dbX2_lineAt_0.2.2.2.2.2.2.2.2.2
def dsX2_lineAt_17 : ByteArray := ⟨#[32, 105, 32, 105, 20, 0, 70, 22, 4, 105, 22, 4, 105, 101]⟩
theorem daX2_lineAt_17 : agB cX2_lineAt dsX2_lineAt_17 17 := agB_of (n := 14) (by decide +kernel)
theorem dbX2_lineAt_17 : (decode dsX2_lineAt_17 0 = .ok (.lload_n 2, 1) ∧ okop dsX2_lineAt_17 0 = true) ∧ (decode dsX2_lineAt_17 1 = .ok (.lmul, 1) ∧ okop dsX2_lineAt_17 1 = true) ∧ (decode dsX2_lineAt_17 2 = .ok (.lload_n 2, 1) ∧ okop dsX2_lineAt_17 2 = true) ∧ (decode dsX2_lineAt_17 3 = .ok (.lmul, 1) ∧ okop dsX2_lineAt_17 3 = true) ∧ (decode dsX2_lineAt_17 4 = .ok (.ldc2_w 70, 3) ∧ okop dsX2_lineAt_17 4 = true) ∧ (decode dsX2_lineAt_17 7 = .ok (.lload 4, 2) ∧ okop dsX2_lineAt_17 7 = true) ∧ (decode dsX2_lineAt_17 9 = .ok (.lmul, 1) ∧ okop dsX2_lineAt_17 9 = true) ∧ (decode dsX2_lineAt_17 10 = .ok (.lload 4, 2) ∧ okop dsX2_lineAt_17 10 = true) ∧ (decode dsX2_lineAt_17 12 = .ok (.lmul, 1) ∧ okop dsX2_lineAt_17 12 = true) ∧ (decode dsX2_lineAt_17 13 = .ok (.lsub, 1) ∧ okop dsX2_lineAt_17 13 = true) := by decide +kernel
theorem dX2_lineAt_17 : decode cX2_lineAt 17 = .ok (.lload_n 2, 1) := dgq (p := 0) daX2_lineAt_17 dbX2_lineAt_17.1
theorem dX2_lineAt_18 : decode cX2_lineAt 18 = .ok (.lmul, 1) := dgq (p := 1) daX2_lineAt_17 dbX2_lineAt_17.2.1
theorem dX2_lineAt_19 : decode cX2_lineAt 19 = .ok (.lload_n 2, 1) := dgq (p := 2) daX2_lineAt_17 dbX2_lineAt_17.2.2.1
theorem dX2_lineAt_20 : decode cX2_lineAt 20 = .ok (.lmul, 1) := dgq (p := 3) daX2_lineAt_17 dbX2_lineAt_17.2.2.2.1
theorem dX2_lineAt_21 : decode cX2_lineAt 21 = .ok (.ldc2_w 70, 3) := dgq (p := 4) daX2_lineAt_17 dbX2_lineAt_17.2.2.2.2.1
theorem dX2_lineAt_24 : decode cX2_lineAt 24 = .ok (.lload 4, 2) := dgq (p := 7) daX2_lineAt_17 dbX2_lineAt_17.2.2.2.2.2.1
theorem dX2_lineAt_26 : decode cX2_lineAt 26 = .ok (.lmul, 1) := dgq (p := 9) daX2_lineAt_17 dbX2_lineAt_17.2.2.2.2.2.2.1
theorem dX2_lineAt_27 : decode cX2_lineAt 27 = .ok (.lload 4, 2) := dgq (p := 10) daX2_lineAt_17 dbX2_lineAt_17.2.2.2.2.2.2.2.1
theorem dX2_lineAt_29 : decode cX2_lineAt 29 = .ok (.lmul, 1) := dgq (p := 12) daX2_lineAt_17 dbX2_lineAt_17.2.2.2.2.2.2.2.2.1
theorem dX2_lineAt_30 : decode cX2_lineAt 30 = .ok (.lsub, 1) := dgq (p := 13) daX2_lineAt_17 dbX2_lineAt_17.2.2.2.2.2.2.2.2.2
def dsX2_lineAt_31 : ByteArray := ⟨#[20, 0, 68, 109, 184, 0, 72, 173]⟩
theorem daX2_lineAt_31 : agB cX2_lineAt dsX2_lineAt_31 31 := agB_of (n := 8) (by decide +kernel)
theorem dbX2_lineAt_31 : (decode dsX2_lineAt_31 0 = .ok (.ldc2_w 68, 3) ∧ okop dsX2_lineAt_31 0 = true) ∧ (decode dsX2_lineAt_31 3 = .ok (.ldiv, 1) ∧ okop dsX2_lineAt_31 3 = true) ∧ (decode dsX2_lineAt_31 4 = .ok (.invokestatic 72, 3) ∧ okop dsX2_lineAt_31 4 = true) ∧ (decode dsX2_lineAt_31 7 = .ok (.lreturn, 1) ∧ okop dsX2_lineAt_31 7 = true) := by decide +kernel
theorem dX2_lineAt_31 : decode cX2_lineAt 31 = .ok (.ldc2_w 68, 3) := dgq (p := 0) daX2_lineAt_31 dbX2_lineAt_31.1
theorem dX2_lineAt_34 : decode cX2_lineAt 34 = .ok (.ldiv, 1) := dgq (p := 3) daX2_lineAt_31 dbX2_lineAt_31.2.1
theorem dX2_lineAt_35 : decode cX2_lineAt 35 = .ok (.invokestatic 72, 3) := dgq (p := 4) daX2_lineAt_31 dbX2_lineAt_31.2.2.1
theorem dX2_lineAt_38 : decode cX2_lineAt 38 = .ok (.lreturn, 1) := dgq (p := 7) daX2_lineAt_31 dbX2_lineAt_31.2.2.2
set_option maxRecDepth 20000 in
theorem ggX2_wayAt_X2_pitchDiameter : GoodIn wsX2_wayAt wsX2_pitchDiameter := goodIn_ca (goodIn_q _ [7, 8, 9] rfl (by decide +kernel)) (goodIn_sub (fun _ h => (List.mem_cons_of_mem _ (List.mem_append_right _ h))) tg_wsX20)
set_option maxRecDepth 20000 in
theorem gX2_wayAt_X2_pitchDiameter : GoodIn wsX2_wayAt (wsV RX2 64 RX2 yX2_pitchDiameter wsX2_pitchDiameter) := goodIn_app (goodIn_q _ [3, 4, 5, 6] rfl (by decide +kernel)) ggX2_wayAt_X2_pitchDiameter
set_option maxRecDepth 20000 in
theorem ggX2_wayAt_X2_lineAt : GoodIn wsX2_wayAt wsX2_lineAt := goodIn_ca (goodIn_q _ [13, 2, 14, 15, 16, 17, 6, 18, 8, 9, 19, 20, 21, 3, 4, 5, 7, 22, 23] rfl (by decide +kernel)) (goodIn_sub (fun _ h => (List.mem_cons_of_mem _ (List.mem_append_right _ h))) tg_wsX20)
set_option maxRecDepth 20000 in
theorem gX2_wayAt_X2_lineAt : GoodIn wsX2_wayAt (wsV RX2 76 RX2 yX2_lineAt wsX2_lineAt) := goodIn_app (goodIn_q _ [10, 11, 12, 6] rfl (by decide +kernel)) ggX2_wayAt_X2_lineAt
set_option maxRecDepth 20000 in
theorem ggX2_wayAt_X9_root : GoodIn wsX2_wayAt wsX9_root := goodIn_q _ [23] rfl (by decide +kernel)
set_option maxRecDepth 20000 in
theorem gX2_wayAt_X9_root_n72 : GoodIn wsX2_wayAt (wsX9_root) := ggX2_wayAt_X9_root
def dsX2_wayAt_0 : ByteArray := ⟨#[42, 182, 0, 64, 133, 65, 42, 27, 182, 0, 76, 20, 0, 80, 32, 105]⟩
theorem daX2_wayAt_0 : agB cX2_wayAt dsX2_wayAt_0 0 := agB_of (n := 16) (by decide +kernel)
theorem dbX2_wayAt_0 : (decode dsX2_wayAt_0 0 = .ok (.aload_n 0, 1) ∧ okop dsX2_wayAt_0 0 = true) ∧ (decode dsX2_wayAt_0 1 = .ok (.invokevirtual 64, 3) ∧ okop dsX2_wayAt_0 1 = true) ∧ (decode dsX2_wayAt_0 4 = .ok (.i2l, 1) ∧ okop dsX2_wayAt_0 4 = true) ∧ (decode dsX2_wayAt_0 5 = .ok (.lstore_n 2, 1) ∧ okop dsX2_wayAt_0 5 = true) ∧ (decode dsX2_wayAt_0 6 = .ok (.aload_n 0, 1) ∧ okop dsX2_wayAt_0 6 = true) ∧ (decode dsX2_wayAt_0 7 = .ok (.iload_n 1, 1) ∧ okop dsX2_wayAt_0 7 = true) ∧ (decode dsX2_wayAt_0 8 = .ok (.invokevirtual 76, 3) ∧ okop dsX2_wayAt_0 8 = true) ∧ (decode dsX2_wayAt_0 11 = .ok (.ldc2_w 80, 3) ∧ okop dsX2_wayAt_0 11 = true) ∧ (decode dsX2_wayAt_0 14 = .ok (.lload_n 2, 1) ∧ okop dsX2_wayAt_0 14 = true) ∧ (decode dsX2_wayAt_0 15 = .ok (.lmul, 1) ∧ okop dsX2_wayAt_0 15 = true) := by decide +kernel
theorem dX2_wayAt_0 : decode cX2_wayAt 0 = .ok (.aload_n 0, 1) := dgq (p := 0) daX2_wayAt_0 dbX2_wayAt_0.1
theorem dX2_wayAt_1 : decode cX2_wayAt 1 = .ok (.invokevirtual 64, 3) := dgq (p := 1) daX2_wayAt_0 dbX2_wayAt_0.2.1
theorem dX2_wayAt_4 : decode cX2_wayAt 4 = .ok (.i2l, 1) := dgq (p := 4) daX2_wayAt_0 dbX2_wayAt_0.2.2.1
theorem dX2_wayAt_5 : decode cX2_wayAt 5 = .ok (.lstore_n 2, 1) := dgq (p := 5) daX2_wayAt_0 dbX2_wayAt_0.2.2.2.1
theorem dX2_wayAt_6 : decode cX2_wayAt 6 = .ok (.aload_n 0, 1) := dgq (p := 6) daX2_wayAt_0 dbX2_wayAt_0.2.2.2.2.1
theorem dX2_wayAt_7 : decode cX2_wayAt 7 = .ok (.iload_n 1, 1) := dgq (p := 7) daX2_wayAt_0 dbX2_wayAt_0.2.2.2.2.2.1
theorem dX2_wayAt_8 : decode cX2_wayAt 8 = .ok (.invokevirtual 76, 3) := dgq (p := 8) daX2_wayAt_0 dbX2_wayAt_0.2.2.2.2.2.2.1
theorem dX2_wayAt_11 : decode cX2_wayAt 11 = .ok (.ldc2_w 80, 3) := dgq (p := 11) daX2_wayAt_0 dbX2_wayAt_0.2.2.2.2.2.2.2.1
theorem dX2_wayAt_14 : decode cX2_wayAt 14 = .ok (.lload_n 2, 1) := dgq (p := 14) daX2_wayAt_0 dbX2_wayAt_0.2.2.2.2.2.2.2.2.1
theorem dX2_wayAt_15 : decode cX2_wayAt 15 = .ok (.lmul, 1) := dgq (p := 15) daX2_wayAt_0 dbX2_wayAt_0.2.2.2.2.2.2.2.2.2
def dsX2_wayAt_16 : ByteArray := ⟨#[32, 105, 20, 0, 68, 109, 184, 0, 72, 101, 173]⟩
theorem daX2_wayAt_16 : agB cX2_wayAt dsX2_wayAt_16 16 := agB_of (n := 11) (by decide +kernel)
theorem dbX2_wayAt_16 : (decode dsX2_wayAt_16 0 = .ok (.lload_n 2, 1) ∧ okop dsX2_wayAt_16 0 = true) ∧ (decode dsX2_wayAt_16 1 = .ok (.lmul, 1) ∧ okop dsX2_wayAt_16 1 = true) ∧ (decode dsX2_wayAt_16 2 = .ok (.ldc2_w 68, 3) ∧ okop dsX2_wayAt_16 2 = true) ∧ (decode dsX2_wayAt_16 5 = .ok (.ldiv, 1) ∧ okop dsX2_wayAt_16 5 = true) ∧ (decode dsX2_wayAt_16 6 = .ok (.invokestatic 72, 3) ∧ okop dsX2_wayAt_16 6 = true) ∧ (decode dsX2_wayAt_16 9 = .ok (.lsub, 1) ∧ okop dsX2_wayAt_16 9 = true) ∧ (decode dsX2_wayAt_16 10 = .ok (.lreturn, 1) ∧ okop dsX2_wayAt_16 10 = true) := by decide +kernel
theorem dX2_wayAt_16 : decode cX2_wayAt 16 = .ok (.lload_n 2, 1) := dgq (p := 0) daX2_wayAt_16 dbX2_wayAt_16.1
theorem dX2_wayAt_17 : decode cX2_wayAt 17 = .ok (.lmul, 1) := dgq (p := 1) daX2_wayAt_16 dbX2_wayAt_16.2.1
theorem dX2_wayAt_18 : decode cX2_wayAt 18 = .ok (.ldc2_w 68, 3) := dgq (p := 2) daX2_wayAt_16 dbX2_wayAt_16.2.2.1
theorem dX2_wayAt_21 : decode cX2_wayAt 21 = .ok (.ldiv, 1) := dgq (p := 5) daX2_wayAt_16 dbX2_wayAt_16.2.2.2.1
theorem dX2_wayAt_22 : decode cX2_wayAt 22 = .ok (.invokestatic 72, 3) := dgq (p := 6) daX2_wayAt_16 dbX2_wayAt_16.2.2.2.2.1
theorem dX2_wayAt_25 : decode cX2_wayAt 25 = .ok (.lsub, 1) := dgq (p := 9) daX2_wayAt_16 dbX2_wayAt_16.2.2.2.2.2.1
theorem dX2_wayAt_26 : decode cX2_wayAt 26 = .ok (.lreturn, 1) := dgq (p := 10) daX2_wayAt_16 dbX2_wayAt_16.2.2.2.2.2.2
def dsX2_pairsWith_0 : ByteArray := ⟨#[42, 180, 0, 18, 43, 180, 0, 18, 160, 0, 19, 42, 180, 0, 21, 43, 180, 0, 21, 116]⟩
theorem daX2_pairsWith_0 : agB cX2_pairsWith dsX2_pairsWith_0 0 := agB_of (n := 20) (by decide +kernel)
theorem dbX2_pairsWith_0 : (decode dsX2_pairsWith_0 0 = .ok (.aload_n 0, 1) ∧ okop dsX2_pairsWith_0 0 = true) ∧ (decode dsX2_pairsWith_0 1 = .ok (.getfield 18, 3) ∧ okop dsX2_pairsWith_0 1 = true) ∧ (decode dsX2_pairsWith_0 4 = .ok (.aload_n 1, 1) ∧ okop dsX2_pairsWith_0 4 = true) ∧ (decode dsX2_pairsWith_0 5 = .ok (.getfield 18, 3) ∧ okop dsX2_pairsWith_0 5 = true) ∧ (decode dsX2_pairsWith_0 8 = .ok (.if_icmp .ne 19, 3) ∧ okop dsX2_pairsWith_0 8 = true) ∧ (decode dsX2_pairsWith_0 11 = .ok (.aload_n 0, 1) ∧ okop dsX2_pairsWith_0 11 = true) ∧ (decode dsX2_pairsWith_0 12 = .ok (.getfield 21, 3) ∧ okop dsX2_pairsWith_0 12 = true) ∧ (decode dsX2_pairsWith_0 15 = .ok (.aload_n 1, 1) ∧ okop dsX2_pairsWith_0 15 = true) ∧ (decode dsX2_pairsWith_0 16 = .ok (.getfield 21, 3) ∧ okop dsX2_pairsWith_0 16 = true) ∧ (decode dsX2_pairsWith_0 19 = .ok (.ineg, 1) ∧ okop dsX2_pairsWith_0 19 = true) := by decide +kernel
theorem dX2_pairsWith_0 : decode cX2_pairsWith 0 = .ok (.aload_n 0, 1) := dgq (p := 0) daX2_pairsWith_0 dbX2_pairsWith_0.1
theorem dX2_pairsWith_1 : decode cX2_pairsWith 1 = .ok (.getfield 18, 3) := dgq (p := 1) daX2_pairsWith_0 dbX2_pairsWith_0.2.1
theorem dX2_pairsWith_4 : decode cX2_pairsWith 4 = .ok (.aload_n 1, 1) := dgq (p := 4) daX2_pairsWith_0 dbX2_pairsWith_0.2.2.1
theorem dX2_pairsWith_5 : decode cX2_pairsWith 5 = .ok (.getfield 18, 3) := dgq (p := 5) daX2_pairsWith_0 dbX2_pairsWith_0.2.2.2.1
theorem dX2_pairsWith_8 : decode cX2_pairsWith 8 = .ok (.if_icmp .ne 19, 3) := dgq (p := 8) daX2_pairsWith_0 dbX2_pairsWith_0.2.2.2.2.1
theorem dX2_pairsWith_11 : decode cX2_pairsWith 11 = .ok (.aload_n 0, 1) := dgq (p := 11) daX2_pairsWith_0 dbX2_pairsWith_0.2.2.2.2.2.1
theorem dX2_pairsWith_12 : decode cX2_pairsWith 12 = .ok (.getfield 21, 3) := dgq (p := 12) daX2_pairsWith_0 dbX2_pairsWith_0.2.2.2.2.2.2.1
theorem dX2_pairsWith_15 : decode cX2_pairsWith 15 = .ok (.aload_n 1, 1) := dgq (p := 15) daX2_pairsWith_0 dbX2_pairsWith_0.2.2.2.2.2.2.2.1
theorem dX2_pairsWith_16 : decode cX2_pairsWith 16 = .ok (.getfield 21, 3) := dgq (p := 16) daX2_pairsWith_0 dbX2_pairsWith_0.2.2.2.2.2.2.2.2.1
theorem dX2_pairsWith_19 : decode cX2_pairsWith 19 = .ok (.ineg, 1) := dgq (p := 19) daX2_pairsWith_0 dbX2_pairsWith_0.2.2.2.2.2.2.2.2.2
def dsX2_pairsWith_20 : ByteArray := ⟨#[160, 0, 7, 4, 167, 0, 4, 3, 172]⟩
theorem daX2_pairsWith_20 : agB cX2_pairsWith dsX2_pairsWith_20 20 := agB_of (n := 9) (by decide +kernel)
theorem dbX2_pairsWith_20 : (decode dsX2_pairsWith_20 0 = .ok (.if_icmp .ne 7, 3) ∧ okop dsX2_pairsWith_20 0 = true) ∧ (decode dsX2_pairsWith_20 3 = .ok (.iconst 1, 1) ∧ okop dsX2_pairsWith_20 3 = true) ∧ (decode dsX2_pairsWith_20 4 = .ok (.goto 4, 3) ∧ okop dsX2_pairsWith_20 4 = true) ∧ (decode dsX2_pairsWith_20 7 = .ok (.iconst 0, 1) ∧ okop dsX2_pairsWith_20 7 = true) ∧ (decode dsX2_pairsWith_20 8 = .ok (.ireturn, 1) ∧ okop dsX2_pairsWith_20 8 = true) := by decide +kernel
theorem dX2_pairsWith_20 : decode cX2_pairsWith 20 = .ok (.if_icmp .ne 7, 3) := dgq (p := 0) daX2_pairsWith_20 dbX2_pairsWith_20.1
theorem dX2_pairsWith_23 : decode cX2_pairsWith 23 = .ok (.iconst 1, 1) := dgq (p := 3) daX2_pairsWith_20 dbX2_pairsWith_20.2.1
theorem dX2_pairsWith_24 : decode cX2_pairsWith 24 = .ok (.goto 4, 3) := dgq (p := 4) daX2_pairsWith_20 dbX2_pairsWith_20.2.2.1
theorem dX2_pairsWith_27 : decode cX2_pairsWith 27 = .ok (.iconst 0, 1) := dgq (p := 7) daX2_pairsWith_20 dbX2_pairsWith_20.2.2.2.1
theorem dX2_pairsWith_28 : decode cX2_pairsWith 28 = .ok (.ireturn, 1) := dgq (p := 8) daX2_pairsWith_20 dbX2_pairsWith_20.2.2.2.2
def dsX2_isFreeFor_0 : ByteArray := ⟨#[42, 180, 0, 46, 2, 159, 0, 14, 42, 180, 0, 46, 43, 180, 0, 9, 160, 0, 7, 4]⟩
theorem daX2_isFreeFor_0 : agB cX2_isFreeFor dsX2_isFreeFor_0 0 := agB_of (n := 20) (by decide +kernel)
theorem dbX2_isFreeFor_0 : (decode dsX2_isFreeFor_0 0 = .ok (.aload_n 0, 1) ∧ okop dsX2_isFreeFor_0 0 = true) ∧ (decode dsX2_isFreeFor_0 1 = .ok (.getfield 46, 3) ∧ okop dsX2_isFreeFor_0 1 = true) ∧ (decode dsX2_isFreeFor_0 4 = .ok (.iconst (-1), 1) ∧ okop dsX2_isFreeFor_0 4 = true) ∧ (decode dsX2_isFreeFor_0 5 = .ok (.if_icmp .eq 14, 3) ∧ okop dsX2_isFreeFor_0 5 = true) ∧ (decode dsX2_isFreeFor_0 8 = .ok (.aload_n 0, 1) ∧ okop dsX2_isFreeFor_0 8 = true) ∧ (decode dsX2_isFreeFor_0 9 = .ok (.getfield 46, 3) ∧ okop dsX2_isFreeFor_0 9 = true) ∧ (decode dsX2_isFreeFor_0 12 = .ok (.aload_n 1, 1) ∧ okop dsX2_isFreeFor_0 12 = true) ∧ (decode dsX2_isFreeFor_0 13 = .ok (.getfield 9, 3) ∧ okop dsX2_isFreeFor_0 13 = true) ∧ (decode dsX2_isFreeFor_0 16 = .ok (.if_icmp .ne 7, 3) ∧ okop dsX2_isFreeFor_0 16 = true) ∧ (decode dsX2_isFreeFor_0 19 = .ok (.iconst 1, 1) ∧ okop dsX2_isFreeFor_0 19 = true) := by decide +kernel
theorem dX2_isFreeFor_0 : decode cX2_isFreeFor 0 = .ok (.aload_n 0, 1) := dgq (p := 0) daX2_isFreeFor_0 dbX2_isFreeFor_0.1
theorem dX2_isFreeFor_1 : decode cX2_isFreeFor 1 = .ok (.getfield 46, 3) := dgq (p := 1) daX2_isFreeFor_0 dbX2_isFreeFor_0.2.1
theorem dX2_isFreeFor_4 : decode cX2_isFreeFor 4 = .ok (.iconst (-1), 1) := dgq (p := 4) daX2_isFreeFor_0 dbX2_isFreeFor_0.2.2.1
theorem dX2_isFreeFor_5 : decode cX2_isFreeFor 5 = .ok (.if_icmp .eq 14, 3) := dgq (p := 5) daX2_isFreeFor_0 dbX2_isFreeFor_0.2.2.2.1
theorem dX2_isFreeFor_8 : decode cX2_isFreeFor 8 = .ok (.aload_n 0, 1) := dgq (p := 8) daX2_isFreeFor_0 dbX2_isFreeFor_0.2.2.2.2.1
theorem dX2_isFreeFor_9 : decode cX2_isFreeFor 9 = .ok (.getfield 46, 3) := dgq (p := 9) daX2_isFreeFor_0 dbX2_isFreeFor_0.2.2.2.2.2.1
theorem dX2_isFreeFor_12 : decode cX2_isFreeFor 12 = .ok (.aload_n 1, 1) := dgq (p := 12) daX2_isFreeFor_0 dbX2_isFreeFor_0.2.2.2.2.2.2.1
theorem dX2_isFreeFor_13 : decode cX2_isFreeFor 13 = .ok (.getfield 9, 3) := dgq (p := 13) daX2_isFreeFor_0 dbX2_isFreeFor_0.2.2.2.2.2.2.2.1
theorem dX2_isFreeFor_16 : decode cX2_isFreeFor 16 = .ok (.if_icmp .ne 7, 3) := dgq (p := 16) daX2_isFreeFor_0 dbX2_isFreeFor_0.2.2.2.2.2.2.2.2.1
theorem dX2_isFreeFor_19 : decode cX2_isFreeFor 19 = .ok (.iconst 1, 1) := dgq (p := 19) daX2_isFreeFor_0 dbX2_isFreeFor_0.2.2.2.2.2.2.2.2.2
def dsX2_isFreeFor_20 : ByteArray := ⟨#[167, 0, 4, 3, 172]⟩
theorem daX2_isFreeFor_20 : agB cX2_isFreeFor dsX2_isFreeFor_20 20 := agB_of (n := 5) (by decide +kernel)
theorem dbX2_isFreeFor_20 : (decode dsX2_isFreeFor_20 0 = .ok (.goto 4, 3) ∧ okop dsX2_isFreeFor_20 0 = true) ∧ (decode dsX2_isFreeFor_20 3 = .ok (.iconst 0, 1) ∧ okop dsX2_isFreeFor_20 3 = true) ∧ (decode dsX2_isFreeFor_20 4 = .ok (.ireturn, 1) ∧ okop dsX2_isFreeFor_20 4 = true) := by decide +kernel
theorem dX2_isFreeFor_20 : decode cX2_isFreeFor 20 = .ok (.goto 4, 3) := dgq (p := 0) daX2_isFreeFor_20 dbX2_isFreeFor_20.1
theorem dX2_isFreeFor_23 : decode cX2_isFreeFor 23 = .ok (.iconst 0, 1) := dgq (p := 3) daX2_isFreeFor_20 dbX2_isFreeFor_20.2.1
theorem dX2_isFreeFor_24 : decode cX2_isFreeFor 24 = .ok (.ireturn, 1) := dgq (p := 4) daX2_isFreeFor_20 dbX2_isFreeFor_20.2.2
def dsX2_isBroken_0 : ByteArray := ⟨#[42, 180, 0, 82, 20, 0, 86, 148, 155, 0, 7, 4, 167, 0, 4, 3, 172]⟩
theorem daX2_isBroken_0 : agB cX2_isBroken dsX2_isBroken_0 0 := agB_of (n := 17) (by decide +kernel)
theorem dbX2_isBroken_0 : (decode dsX2_isBroken_0 0 = .ok (.aload_n 0, 1) ∧ okop dsX2_isBroken_0 0 = true) ∧ (decode dsX2_isBroken_0 1 = .ok (.getfield 82, 3) ∧ okop dsX2_isBroken_0 1 = true) ∧ (decode dsX2_isBroken_0 4 = .ok (.ldc2_w 86, 3) ∧ okop dsX2_isBroken_0 4 = true) ∧ (decode dsX2_isBroken_0 7 = .ok (.lcmp, 1) ∧ okop dsX2_isBroken_0 7 = true) ∧ (decode dsX2_isBroken_0 8 = .ok (.ifCond .lt 7, 3) ∧ okop dsX2_isBroken_0 8 = true) ∧ (decode dsX2_isBroken_0 11 = .ok (.iconst 1, 1) ∧ okop dsX2_isBroken_0 11 = true) ∧ (decode dsX2_isBroken_0 12 = .ok (.goto 4, 3) ∧ okop dsX2_isBroken_0 12 = true) ∧ (decode dsX2_isBroken_0 15 = .ok (.iconst 0, 1) ∧ okop dsX2_isBroken_0 15 = true) ∧ (decode dsX2_isBroken_0 16 = .ok (.ireturn, 1) ∧ okop dsX2_isBroken_0 16 = true) := by decide +kernel
theorem dX2_isBroken_0 : decode cX2_isBroken 0 = .ok (.aload_n 0, 1) := dgq (p := 0) daX2_isBroken_0 dbX2_isBroken_0.1
theorem dX2_isBroken_1 : decode cX2_isBroken 1 = .ok (.getfield 82, 3) := dgq (p := 1) daX2_isBroken_0 dbX2_isBroken_0.2.1
theorem dX2_isBroken_4 : decode cX2_isBroken 4 = .ok (.ldc2_w 86, 3) := dgq (p := 4) daX2_isBroken_0 dbX2_isBroken_0.2.2.1
theorem dX2_isBroken_7 : decode cX2_isBroken 7 = .ok (.lcmp, 1) := dgq (p := 7) daX2_isBroken_0 dbX2_isBroken_0.2.2.2.1
theorem dX2_isBroken_8 : decode cX2_isBroken 8 = .ok (.ifCond .lt 7, 3) := dgq (p := 8) daX2_isBroken_0 dbX2_isBroken_0.2.2.2.2.1
theorem dX2_isBroken_11 : decode cX2_isBroken 11 = .ok (.iconst 1, 1) := dgq (p := 11) daX2_isBroken_0 dbX2_isBroken_0.2.2.2.2.2.1
theorem dX2_isBroken_12 : decode cX2_isBroken 12 = .ok (.goto 4, 3) := dgq (p := 12) daX2_isBroken_0 dbX2_isBroken_0.2.2.2.2.2.2.1
theorem dX2_isBroken_15 : decode cX2_isBroken 15 = .ok (.iconst 0, 1) := dgq (p := 15) daX2_isBroken_0 dbX2_isBroken_0.2.2.2.2.2.2.2.1
theorem dX2_isBroken_16 : decode cX2_isBroken 16 = .ok (.ireturn, 1) := dgq (p := 16) daX2_isBroken_0 dbX2_isBroken_0.2.2.2.2.2.2.2.2
set_option maxRecDepth 20000 in
theorem ggX2_isWhole_X2_isBroken : GoodIn wsX2_isWhole wsX2_isBroken := goodIn_ca (goodIn_q _ [7, 8, 9] rfl (by decide +kernel)) (goodIn_sub (fun _ h => (List.mem_cons_of_mem _ (List.mem_append_right _ h))) tg_wsX20)
set_option maxRecDepth 20000 in
theorem gX2_isWhole_X2_isBroken : GoodIn wsX2_isWhole (wsV RX2 95 RX2 yX2_isBroken wsX2_isBroken) := goodIn_app (goodIn_q _ [3, 4, 5, 6] rfl (by decide +kernel)) ggX2_isWhole_X2_isBroken
def dsX2_isWhole_0 : ByteArray := ⟨#[42, 180, 0, 88, 153, 0, 21, 42, 180, 0, 92, 154, 0, 14, 42, 182, 0, 95, 154, 0, 7, 4]⟩
theorem daX2_isWhole_0 : agB cX2_isWhole dsX2_isWhole_0 0 := agB_of (n := 22) (by decide +kernel)
theorem dbX2_isWhole_0 : (decode dsX2_isWhole_0 0 = .ok (.aload_n 0, 1) ∧ okop dsX2_isWhole_0 0 = true) ∧ (decode dsX2_isWhole_0 1 = .ok (.getfield 88, 3) ∧ okop dsX2_isWhole_0 1 = true) ∧ (decode dsX2_isWhole_0 4 = .ok (.ifCond .eq 21, 3) ∧ okop dsX2_isWhole_0 4 = true) ∧ (decode dsX2_isWhole_0 7 = .ok (.aload_n 0, 1) ∧ okop dsX2_isWhole_0 7 = true) ∧ (decode dsX2_isWhole_0 8 = .ok (.getfield 92, 3) ∧ okop dsX2_isWhole_0 8 = true) ∧ (decode dsX2_isWhole_0 11 = .ok (.ifCond .ne 14, 3) ∧ okop dsX2_isWhole_0 11 = true) ∧ (decode dsX2_isWhole_0 14 = .ok (.aload_n 0, 1) ∧ okop dsX2_isWhole_0 14 = true) ∧ (decode dsX2_isWhole_0 15 = .ok (.invokevirtual 95, 3) ∧ okop dsX2_isWhole_0 15 = true) ∧ (decode dsX2_isWhole_0 18 = .ok (.ifCond .ne 7, 3) ∧ okop dsX2_isWhole_0 18 = true) ∧ (decode dsX2_isWhole_0 21 = .ok (.iconst 1, 1) ∧ okop dsX2_isWhole_0 21 = true) := by decide +kernel
theorem dX2_isWhole_0 : decode cX2_isWhole 0 = .ok (.aload_n 0, 1) := dgq (p := 0) daX2_isWhole_0 dbX2_isWhole_0.1
theorem dX2_isWhole_1 : decode cX2_isWhole 1 = .ok (.getfield 88, 3) := dgq (p := 1) daX2_isWhole_0 dbX2_isWhole_0.2.1
theorem dX2_isWhole_4 : decode cX2_isWhole 4 = .ok (.ifCond .eq 21, 3) := dgq (p := 4) daX2_isWhole_0 dbX2_isWhole_0.2.2.1
theorem dX2_isWhole_7 : decode cX2_isWhole 7 = .ok (.aload_n 0, 1) := dgq (p := 7) daX2_isWhole_0 dbX2_isWhole_0.2.2.2.1
theorem dX2_isWhole_8 : decode cX2_isWhole 8 = .ok (.getfield 92, 3) := dgq (p := 8) daX2_isWhole_0 dbX2_isWhole_0.2.2.2.2.1
theorem dX2_isWhole_11 : decode cX2_isWhole 11 = .ok (.ifCond .ne 14, 3) := dgq (p := 11) daX2_isWhole_0 dbX2_isWhole_0.2.2.2.2.2.1
theorem dX2_isWhole_14 : decode cX2_isWhole 14 = .ok (.aload_n 0, 1) := dgq (p := 14) daX2_isWhole_0 dbX2_isWhole_0.2.2.2.2.2.2.1
theorem dX2_isWhole_15 : decode cX2_isWhole 15 = .ok (.invokevirtual 95, 3) := dgq (p := 15) daX2_isWhole_0 dbX2_isWhole_0.2.2.2.2.2.2.2.1
theorem dX2_isWhole_18 : decode cX2_isWhole 18 = .ok (.ifCond .ne 7, 3) := dgq (p := 18) daX2_isWhole_0 dbX2_isWhole_0.2.2.2.2.2.2.2.2.1
theorem dX2_isWhole_21 : decode cX2_isWhole 21 = .ok (.iconst 1, 1) := dgq (p := 21) daX2_isWhole_0 dbX2_isWhole_0.2.2.2.2.2.2.2.2.2
def dsX2_isWhole_22 : ByteArray := ⟨#[167, 0, 4, 3, 172]⟩
theorem daX2_isWhole_22 : agB cX2_isWhole dsX2_isWhole_22 22 := agB_of (n := 5) (by decide +kernel)
theorem dbX2_isWhole_22 : (decode dsX2_isWhole_22 0 = .ok (.goto 4, 3) ∧ okop dsX2_isWhole_22 0 = true) ∧ (decode dsX2_isWhole_22 3 = .ok (.iconst 0, 1) ∧ okop dsX2_isWhole_22 3 = true) ∧ (decode dsX2_isWhole_22 4 = .ok (.ireturn, 1) ∧ okop dsX2_isWhole_22 4 = true) := by decide +kernel
theorem dX2_isWhole_22 : decode cX2_isWhole 22 = .ok (.goto 4, 3) := dgq (p := 0) daX2_isWhole_22 dbX2_isWhole_22.1
theorem dX2_isWhole_25 : decode cX2_isWhole 25 = .ok (.iconst 0, 1) := dgq (p := 3) daX2_isWhole_22 dbX2_isWhole_22.2.1
theorem dX2_isWhole_26 : decode cX2_isWhole 26 = .ok (.ireturn, 1) := dgq (p := 4) daX2_isWhole_22 dbX2_isWhole_22.2.2
set_option maxRecDepth 20000 in
theorem ggX2_heat_X2_pitchDiameter : GoodIn wsX2_heat wsX2_pitchDiameter := goodIn_ca (goodIn_q _ [14, 15, 16] rfl (by decide +kernel)) (goodIn_sub (fun _ h => (List.mem_cons_of_mem _ (List.mem_append_left _ (List.mem_append_right _ h)))) tg_wsX20)
set_option maxRecDepth 20000 in
theorem gX2_heat_X2_pitchDiameter : GoodIn wsX2_heat (wsV RX2 64 RX2 yX2_pitchDiameter wsX2_pitchDiameter) := goodIn_app (goodIn_q _ [10, 11, 12, 13] rfl (by decide +kernel)) ggX2_heat_X2_pitchDiameter
set_option maxRecDepth 20000 in
theorem ggX2_heat_X9_root : GoodIn wsX2_heat wsX9_root := goodIn_q _ [19] rfl (by decide +kernel)
set_option maxRecDepth 20000 in
theorem gX2_heat_X9_root_n72 : GoodIn wsX2_heat (wsX9_root) := ggX2_heat_X9_root
def dsX2_heat_0 : ByteArray := ⟨#[42, 182, 0, 64, 133, 66, 33, 20, 0, 99, 105, 20, 0, 101, 109, 136]⟩
theorem daX2_heat_0 : agB cX2_heat dsX2_heat_0 0 := agB_of (n := 16) (by decide +kernel)
theorem dbX2_heat_0 : (decode dsX2_heat_0 0 = .ok (.aload_n 0, 1) ∧ okop dsX2_heat_0 0 = true) ∧ (decode dsX2_heat_0 1 = .ok (.invokevirtual 64, 3) ∧ okop dsX2_heat_0 1 = true) ∧ (decode dsX2_heat_0 4 = .ok (.i2l, 1) ∧ okop dsX2_heat_0 4 = true) ∧ (decode dsX2_heat_0 5 = .ok (.lstore_n 3, 1) ∧ okop dsX2_heat_0 5 = true) ∧ (decode dsX2_heat_0 6 = .ok (.lload_n 3, 1) ∧ okop dsX2_heat_0 6 = true) ∧ (decode dsX2_heat_0 7 = .ok (.ldc2_w 99, 3) ∧ okop dsX2_heat_0 7 = true) ∧ (decode dsX2_heat_0 10 = .ok (.lmul, 1) ∧ okop dsX2_heat_0 10 = true) ∧ (decode dsX2_heat_0 11 = .ok (.ldc2_w 101, 3) ∧ okop dsX2_heat_0 11 = true) ∧ (decode dsX2_heat_0 14 = .ok (.ldiv, 1) ∧ okop dsX2_heat_0 14 = true) ∧ (decode dsX2_heat_0 15 = .ok (.l2i, 1) ∧ okop dsX2_heat_0 15 = true) := by decide +kernel
theorem dX2_heat_0 : decode cX2_heat 0 = .ok (.aload_n 0, 1) := dgq (p := 0) daX2_heat_0 dbX2_heat_0.1
theorem dX2_heat_1 : decode cX2_heat 1 = .ok (.invokevirtual 64, 3) := dgq (p := 1) daX2_heat_0 dbX2_heat_0.2.1
theorem dX2_heat_4 : decode cX2_heat 4 = .ok (.i2l, 1) := dgq (p := 4) daX2_heat_0 dbX2_heat_0.2.2.1
theorem dX2_heat_5 : decode cX2_heat 5 = .ok (.lstore_n 3, 1) := dgq (p := 5) daX2_heat_0 dbX2_heat_0.2.2.2.1
theorem dX2_heat_6 : decode cX2_heat 6 = .ok (.lload_n 3, 1) := dgq (p := 6) daX2_heat_0 dbX2_heat_0.2.2.2.2.1
theorem dX2_heat_7 : decode cX2_heat 7 = .ok (.ldc2_w 99, 3) := dgq (p := 7) daX2_heat_0 dbX2_heat_0.2.2.2.2.2.1
theorem dX2_heat_10 : decode cX2_heat 10 = .ok (.lmul, 1) := dgq (p := 10) daX2_heat_0 dbX2_heat_0.2.2.2.2.2.2.1
theorem dX2_heat_11 : decode cX2_heat 11 = .ok (.ldc2_w 101, 3) := dgq (p := 11) daX2_heat_0 dbX2_heat_0.2.2.2.2.2.2.2.1
theorem dX2_heat_14 : decode cX2_heat 14 = .ok (.ldiv, 1) := dgq (p := 14) daX2_heat_0 dbX2_heat_0.2.2.2.2.2.2.2.2.1
theorem dX2_heat_15 : decode cX2_heat 15 = .ok (.l2i, 1) := dgq (p := 15) daX2_heat_0 dbX2_heat_0.2.2.2.2.2.2.2.2.2
def dsX2_heat_16 : ByteArray := ⟨#[54, 5, 33, 33, 105, 42, 180, 0, 24, 133, 109, 20, 0, 103, 109]⟩
theorem daX2_heat_16 : agB cX2_heat dsX2_heat_16 16 := agB_of (n := 15) (by decide +kernel)
theorem dbX2_heat_16 : (decode dsX2_heat_16 0 = .ok (.istore 5, 2) ∧ okop dsX2_heat_16 0 = true) ∧ (decode dsX2_heat_16 2 = .ok (.lload_n 3, 1) ∧ okop dsX2_heat_16 2 = true) ∧ (decode dsX2_heat_16 3 = .ok (.lload_n 3, 1) ∧ okop dsX2_heat_16 3 = true) ∧ (decode dsX2_heat_16 4 = .ok (.lmul, 1) ∧ okop dsX2_heat_16 4 = true) ∧ (decode dsX2_heat_16 5 = .ok (.aload_n 0, 1) ∧ okop dsX2_heat_16 5 = true) ∧ (decode dsX2_heat_16 6 = .ok (.getfield 24, 3) ∧ okop dsX2_heat_16 6 = true) ∧ (decode dsX2_heat_16 9 = .ok (.i2l, 1) ∧ okop dsX2_heat_16 9 = true) ∧ (decode dsX2_heat_16 10 = .ok (.ldiv, 1) ∧ okop dsX2_heat_16 10 = true) ∧ (decode dsX2_heat_16 11 = .ok (.ldc2_w 103, 3) ∧ okop dsX2_heat_16 11 = true) ∧ (decode dsX2_heat_16 14 = .ok (.ldiv, 1) ∧ okop dsX2_heat_16 14 = true) := by decide +kernel
theorem dX2_heat_16 : decode cX2_heat 16 = .ok (.istore 5, 2) := dgq (p := 0) daX2_heat_16 dbX2_heat_16.1
theorem dX2_heat_18 : decode cX2_heat 18 = .ok (.lload_n 3, 1) := dgq (p := 2) daX2_heat_16 dbX2_heat_16.2.1
theorem dX2_heat_19 : decode cX2_heat 19 = .ok (.lload_n 3, 1) := dgq (p := 3) daX2_heat_16 dbX2_heat_16.2.2.1
theorem dX2_heat_20 : decode cX2_heat 20 = .ok (.lmul, 1) := dgq (p := 4) daX2_heat_16 dbX2_heat_16.2.2.2.1
theorem dX2_heat_21 : decode cX2_heat 21 = .ok (.aload_n 0, 1) := dgq (p := 5) daX2_heat_16 dbX2_heat_16.2.2.2.2.1
theorem dX2_heat_22 : decode cX2_heat 22 = .ok (.getfield 24, 3) := dgq (p := 6) daX2_heat_16 dbX2_heat_16.2.2.2.2.2.1
theorem dX2_heat_25 : decode cX2_heat 25 = .ok (.i2l, 1) := dgq (p := 9) daX2_heat_16 dbX2_heat_16.2.2.2.2.2.2.1
theorem dX2_heat_26 : decode cX2_heat 26 = .ok (.ldiv, 1) := dgq (p := 10) daX2_heat_16 dbX2_heat_16.2.2.2.2.2.2.2.1
theorem dX2_heat_27 : decode cX2_heat 27 = .ok (.ldc2_w 103, 3) := dgq (p := 11) daX2_heat_16 dbX2_heat_16.2.2.2.2.2.2.2.2.1
theorem dX2_heat_30 : decode cX2_heat 30 = .ok (.ldiv, 1) := dgq (p := 14) daX2_heat_16 dbX2_heat_16.2.2.2.2.2.2.2.2.2
def dsX2_heat_31 : ByteArray := ⟨#[136, 54, 6, 21, 5, 28, 153, 0, 10, 21, 6, 5, 108, 167, 0, 5, 21, 6]⟩
theorem daX2_heat_31 : agB cX2_heat dsX2_heat_31 31 := agB_of (n := 18) (by decide +kernel)
theorem dbX2_heat_31 : (decode dsX2_heat_31 0 = .ok (.l2i, 1) ∧ okop dsX2_heat_31 0 = true) ∧ (decode dsX2_heat_31 1 = .ok (.istore 6, 2) ∧ okop dsX2_heat_31 1 = true) ∧ (decode dsX2_heat_31 3 = .ok (.iload 5, 2) ∧ okop dsX2_heat_31 3 = true) ∧ (decode dsX2_heat_31 5 = .ok (.iload_n 2, 1) ∧ okop dsX2_heat_31 5 = true) ∧ (decode dsX2_heat_31 6 = .ok (.ifCond .eq 10, 3) ∧ okop dsX2_heat_31 6 = true) ∧ (decode dsX2_heat_31 9 = .ok (.iload 6, 2) ∧ okop dsX2_heat_31 9 = true) ∧ (decode dsX2_heat_31 11 = .ok (.iconst 2, 1) ∧ okop dsX2_heat_31 11 = true) ∧ (decode dsX2_heat_31 12 = .ok (.idiv, 1) ∧ okop dsX2_heat_31 12 = true) ∧ (decode dsX2_heat_31 13 = .ok (.goto 5, 3) ∧ okop dsX2_heat_31 13 = true) ∧ (decode dsX2_heat_31 16 = .ok (.iload 6, 2) ∧ okop dsX2_heat_31 16 = true) := by decide +kernel
theorem dX2_heat_31 : decode cX2_heat 31 = .ok (.l2i, 1) := dgq (p := 0) daX2_heat_31 dbX2_heat_31.1
theorem dX2_heat_32 : decode cX2_heat 32 = .ok (.istore 6, 2) := dgq (p := 1) daX2_heat_31 dbX2_heat_31.2.1
theorem dX2_heat_34 : decode cX2_heat 34 = .ok (.iload 5, 2) := dgq (p := 3) daX2_heat_31 dbX2_heat_31.2.2.1
theorem dX2_heat_36 : decode cX2_heat 36 = .ok (.iload_n 2, 1) := dgq (p := 5) daX2_heat_31 dbX2_heat_31.2.2.2.1
theorem dX2_heat_37 : decode cX2_heat 37 = .ok (.ifCond .eq 10, 3) := dgq (p := 6) daX2_heat_31 dbX2_heat_31.2.2.2.2.1
theorem dX2_heat_40 : decode cX2_heat 40 = .ok (.iload 6, 2) := dgq (p := 9) daX2_heat_31 dbX2_heat_31.2.2.2.2.2.1
theorem dX2_heat_42 : decode cX2_heat 42 = .ok (.iconst 2, 1) := dgq (p := 11) daX2_heat_31 dbX2_heat_31.2.2.2.2.2.2.1
theorem dX2_heat_43 : decode cX2_heat 43 = .ok (.idiv, 1) := dgq (p := 12) daX2_heat_31 dbX2_heat_31.2.2.2.2.2.2.2.1
theorem dX2_heat_44 : decode cX2_heat 44 = .ok (.goto 5, 3) := dgq (p := 13) daX2_heat_31 dbX2_heat_31.2.2.2.2.2.2.2.2.1
theorem dX2_heat_47 : decode cX2_heat 47 = .ok (.iload 6, 2) := dgq (p := 16) daX2_heat_31 dbX2_heat_31.2.2.2.2.2.2.2.2.2
def dsX2_heat_49 : ByteArray := ⟨#[96, 54, 7, 42, 4, 181, 0, 105, 42, 42, 180, 0, 108, 21, 7, 161, 0, 7]⟩
theorem daX2_heat_49 : agB cX2_heat dsX2_heat_49 49 := agB_of (n := 18) (by decide +kernel)
theorem dbX2_heat_49 : (decode dsX2_heat_49 0 = .ok (.iadd, 1) ∧ okop dsX2_heat_49 0 = true) ∧ (decode dsX2_heat_49 1 = .ok (.istore 7, 2) ∧ okop dsX2_heat_49 1 = true) ∧ (decode dsX2_heat_49 3 = .ok (.aload_n 0, 1) ∧ okop dsX2_heat_49 3 = true) ∧ (decode dsX2_heat_49 4 = .ok (.iconst 1, 1) ∧ okop dsX2_heat_49 4 = true) ∧ (decode dsX2_heat_49 5 = .ok (.putfield 105, 3) ∧ okop dsX2_heat_49 5 = true) ∧ (decode dsX2_heat_49 8 = .ok (.aload_n 0, 1) ∧ okop dsX2_heat_49 8 = true) ∧ (decode dsX2_heat_49 9 = .ok (.aload_n 0, 1) ∧ okop dsX2_heat_49 9 = true) ∧ (decode dsX2_heat_49 10 = .ok (.getfield 108, 3) ∧ okop dsX2_heat_49 10 = true) ∧ (decode dsX2_heat_49 13 = .ok (.iload 7, 2) ∧ okop dsX2_heat_49 13 = true) ∧ (decode dsX2_heat_49 15 = .ok (.if_icmp .lt 7, 3) ∧ okop dsX2_heat_49 15 = true) := by decide +kernel
theorem dX2_heat_49 : decode cX2_heat 49 = .ok (.iadd, 1) := dgq (p := 0) daX2_heat_49 dbX2_heat_49.1
theorem dX2_heat_50 : decode cX2_heat 50 = .ok (.istore 7, 2) := dgq (p := 1) daX2_heat_49 dbX2_heat_49.2.1
theorem dX2_heat_52 : decode cX2_heat 52 = .ok (.aload_n 0, 1) := dgq (p := 3) daX2_heat_49 dbX2_heat_49.2.2.1
theorem dX2_heat_53 : decode cX2_heat 53 = .ok (.iconst 1, 1) := dgq (p := 4) daX2_heat_49 dbX2_heat_49.2.2.2.1
theorem dX2_heat_54 : decode cX2_heat 54 = .ok (.putfield 105, 3) := dgq (p := 5) daX2_heat_49 dbX2_heat_49.2.2.2.2.1
theorem dX2_heat_57 : decode cX2_heat 57 = .ok (.aload_n 0, 1) := dgq (p := 8) daX2_heat_49 dbX2_heat_49.2.2.2.2.2.1
theorem dX2_heat_58 : decode cX2_heat 58 = .ok (.aload_n 0, 1) := dgq (p := 9) daX2_heat_49 dbX2_heat_49.2.2.2.2.2.2.1
theorem dX2_heat_59 : decode cX2_heat 59 = .ok (.getfield 108, 3) := dgq (p := 10) daX2_heat_49 dbX2_heat_49.2.2.2.2.2.2.2.1
theorem dX2_heat_62 : decode cX2_heat 62 = .ok (.iload 7, 2) := dgq (p := 13) daX2_heat_49 dbX2_heat_49.2.2.2.2.2.2.2.2.1
theorem dX2_heat_64 : decode cX2_heat 64 = .ok (.if_icmp .lt 7, 3) := dgq (p := 15) daX2_heat_49 dbX2_heat_49.2.2.2.2.2.2.2.2.2
def dsX2_heat_67 : ByteArray := ⟨#[4, 167, 0, 4, 3, 181, 0, 111, 42, 27, 133, 20, 0, 114, 105, 184, 0, 72]⟩
theorem daX2_heat_67 : agB cX2_heat dsX2_heat_67 67 := agB_of (n := 18) (by decide +kernel)
theorem dbX2_heat_67 : (decode dsX2_heat_67 0 = .ok (.iconst 1, 1) ∧ okop dsX2_heat_67 0 = true) ∧ (decode dsX2_heat_67 1 = .ok (.goto 4, 3) ∧ okop dsX2_heat_67 1 = true) ∧ (decode dsX2_heat_67 4 = .ok (.iconst 0, 1) ∧ okop dsX2_heat_67 4 = true) ∧ (decode dsX2_heat_67 5 = .ok (.putfield 111, 3) ∧ okop dsX2_heat_67 5 = true) ∧ (decode dsX2_heat_67 8 = .ok (.aload_n 0, 1) ∧ okop dsX2_heat_67 8 = true) ∧ (decode dsX2_heat_67 9 = .ok (.iload_n 1, 1) ∧ okop dsX2_heat_67 9 = true) ∧ (decode dsX2_heat_67 10 = .ok (.i2l, 1) ∧ okop dsX2_heat_67 10 = true) ∧ (decode dsX2_heat_67 11 = .ok (.ldc2_w 114, 3) ∧ okop dsX2_heat_67 11 = true) ∧ (decode dsX2_heat_67 14 = .ok (.lmul, 1) ∧ okop dsX2_heat_67 14 = true) ∧ (decode dsX2_heat_67 15 = .ok (.invokestatic 72, 3) ∧ okop dsX2_heat_67 15 = true) := by decide +kernel
theorem dX2_heat_67 : decode cX2_heat 67 = .ok (.iconst 1, 1) := dgq (p := 0) daX2_heat_67 dbX2_heat_67.1
theorem dX2_heat_68 : decode cX2_heat 68 = .ok (.goto 4, 3) := dgq (p := 1) daX2_heat_67 dbX2_heat_67.2.1
theorem dX2_heat_71 : decode cX2_heat 71 = .ok (.iconst 0, 1) := dgq (p := 4) daX2_heat_67 dbX2_heat_67.2.2.1
theorem dX2_heat_72 : decode cX2_heat 72 = .ok (.putfield 111, 3) := dgq (p := 5) daX2_heat_67 dbX2_heat_67.2.2.2.1
theorem dX2_heat_75 : decode cX2_heat 75 = .ok (.aload_n 0, 1) := dgq (p := 8) daX2_heat_67 dbX2_heat_67.2.2.2.2.1
theorem dX2_heat_76 : decode cX2_heat 76 = .ok (.iload_n 1, 1) := dgq (p := 9) daX2_heat_67 dbX2_heat_67.2.2.2.2.2.1
theorem dX2_heat_77 : decode cX2_heat 77 = .ok (.i2l, 1) := dgq (p := 10) daX2_heat_67 dbX2_heat_67.2.2.2.2.2.2.1
theorem dX2_heat_78 : decode cX2_heat 78 = .ok (.ldc2_w 114, 3) := dgq (p := 11) daX2_heat_67 dbX2_heat_67.2.2.2.2.2.2.2.1
theorem dX2_heat_81 : decode cX2_heat 81 = .ok (.lmul, 1) := dgq (p := 14) daX2_heat_67 dbX2_heat_67.2.2.2.2.2.2.2.2.1
theorem dX2_heat_82 : decode cX2_heat 82 = .ok (.invokestatic 72, 3) := dgq (p := 15) daX2_heat_67 dbX2_heat_67.2.2.2.2.2.2.2.2.2
def dsX2_heat_85 : ByteArray := ⟨#[136, 181, 0, 116, 21, 7, 172]⟩
theorem daX2_heat_85 : agB cX2_heat dsX2_heat_85 85 := agB_of (n := 7) (by decide +kernel)
theorem dbX2_heat_85 : (decode dsX2_heat_85 0 = .ok (.l2i, 1) ∧ okop dsX2_heat_85 0 = true) ∧ (decode dsX2_heat_85 1 = .ok (.putfield 116, 3) ∧ okop dsX2_heat_85 1 = true) ∧ (decode dsX2_heat_85 4 = .ok (.iload 7, 2) ∧ okop dsX2_heat_85 4 = true) ∧ (decode dsX2_heat_85 6 = .ok (.ireturn, 1) ∧ okop dsX2_heat_85 6 = true) := by decide +kernel
theorem dX2_heat_85 : decode cX2_heat 85 = .ok (.l2i, 1) := dgq (p := 0) daX2_heat_85 dbX2_heat_85.1
theorem dX2_heat_86 : decode cX2_heat 86 = .ok (.putfield 116, 3) := dgq (p := 1) daX2_heat_85 dbX2_heat_85.2.1
theorem dX2_heat_89 : decode cX2_heat 89 = .ok (.iload 7, 2) := dgq (p := 4) daX2_heat_85 dbX2_heat_85.2.2.1
theorem dX2_heat_91 : decode cX2_heat 91 = .ok (.ireturn, 1) := dgq (p := 6) daX2_heat_85 dbX2_heat_85.2.2.2
def dsX2_takeOff_0 : ByteArray := ⟨#[42, 89, 180, 0, 108, 27, 100, 181, 0, 108, 42, 3, 42, 180, 0, 116]⟩
theorem daX2_takeOff_0 : agB cX2_takeOff dsX2_takeOff_0 0 := agB_of (n := 16) (by decide +kernel)
theorem dbX2_takeOff_0 : (decode dsX2_takeOff_0 0 = .ok (.aload_n 0, 1) ∧ okop dsX2_takeOff_0 0 = true) ∧ (decode dsX2_takeOff_0 1 = .ok (.dup, 1) ∧ okop dsX2_takeOff_0 1 = true) ∧ (decode dsX2_takeOff_0 2 = .ok (.getfield 108, 3) ∧ okop dsX2_takeOff_0 2 = true) ∧ (decode dsX2_takeOff_0 5 = .ok (.iload_n 1, 1) ∧ okop dsX2_takeOff_0 5 = true) ∧ (decode dsX2_takeOff_0 6 = .ok (.isub, 1) ∧ okop dsX2_takeOff_0 6 = true) ∧ (decode dsX2_takeOff_0 7 = .ok (.putfield 108, 3) ∧ okop dsX2_takeOff_0 7 = true) ∧ (decode dsX2_takeOff_0 10 = .ok (.aload_n 0, 1) ∧ okop dsX2_takeOff_0 10 = true) ∧ (decode dsX2_takeOff_0 11 = .ok (.iconst 0, 1) ∧ okop dsX2_takeOff_0 11 = true) ∧ (decode dsX2_takeOff_0 12 = .ok (.aload_n 0, 1) ∧ okop dsX2_takeOff_0 12 = true) ∧ (decode dsX2_takeOff_0 13 = .ok (.getfield 116, 3) ∧ okop dsX2_takeOff_0 13 = true) := by decide +kernel
theorem dX2_takeOff_0 : decode cX2_takeOff 0 = .ok (.aload_n 0, 1) := dgq (p := 0) daX2_takeOff_0 dbX2_takeOff_0.1
theorem dX2_takeOff_1 : decode cX2_takeOff 1 = .ok (.dup, 1) := dgq (p := 1) daX2_takeOff_0 dbX2_takeOff_0.2.1
theorem dX2_takeOff_2 : decode cX2_takeOff 2 = .ok (.getfield 108, 3) := dgq (p := 2) daX2_takeOff_0 dbX2_takeOff_0.2.2.1
theorem dX2_takeOff_5 : decode cX2_takeOff 5 = .ok (.iload_n 1, 1) := dgq (p := 5) daX2_takeOff_0 dbX2_takeOff_0.2.2.2.1
theorem dX2_takeOff_6 : decode cX2_takeOff 6 = .ok (.isub, 1) := dgq (p := 6) daX2_takeOff_0 dbX2_takeOff_0.2.2.2.2.1
theorem dX2_takeOff_7 : decode cX2_takeOff 7 = .ok (.putfield 108, 3) := dgq (p := 7) daX2_takeOff_0 dbX2_takeOff_0.2.2.2.2.2.1
theorem dX2_takeOff_10 : decode cX2_takeOff 10 = .ok (.aload_n 0, 1) := dgq (p := 10) daX2_takeOff_0 dbX2_takeOff_0.2.2.2.2.2.2.1
theorem dX2_takeOff_11 : decode cX2_takeOff 11 = .ok (.iconst 0, 1) := dgq (p := 11) daX2_takeOff_0 dbX2_takeOff_0.2.2.2.2.2.2.2.1
theorem dX2_takeOff_12 : decode cX2_takeOff 12 = .ok (.aload_n 0, 1) := dgq (p := 12) daX2_takeOff_0 dbX2_takeOff_0.2.2.2.2.2.2.2.2.1
theorem dX2_takeOff_13 : decode cX2_takeOff 13 = .ok (.getfield 116, 3) := dgq (p := 13) daX2_takeOff_0 dbX2_takeOff_0.2.2.2.2.2.2.2.2.2
def dsX2_takeOff_16 : ByteArray := ⟨#[27, 100, 184, 0, 119, 181, 0, 116, 42, 42, 180, 0, 108, 154, 0, 7, 4, 167, 0, 4]⟩
theorem daX2_takeOff_16 : agB cX2_takeOff dsX2_takeOff_16 16 := agB_of (n := 20) (by decide +kernel)
theorem dbX2_takeOff_16 : (decode dsX2_takeOff_16 0 = .ok (.iload_n 1, 1) ∧ okop dsX2_takeOff_16 0 = true) ∧ (decode dsX2_takeOff_16 1 = .ok (.isub, 1) ∧ okop dsX2_takeOff_16 1 = true) ∧ (decode dsX2_takeOff_16 2 = .ok (.invokestatic 119, 3) ∧ okop dsX2_takeOff_16 2 = true) ∧ (decode dsX2_takeOff_16 5 = .ok (.putfield 116, 3) ∧ okop dsX2_takeOff_16 5 = true) ∧ (decode dsX2_takeOff_16 8 = .ok (.aload_n 0, 1) ∧ okop dsX2_takeOff_16 8 = true) ∧ (decode dsX2_takeOff_16 9 = .ok (.aload_n 0, 1) ∧ okop dsX2_takeOff_16 9 = true) ∧ (decode dsX2_takeOff_16 10 = .ok (.getfield 108, 3) ∧ okop dsX2_takeOff_16 10 = true) ∧ (decode dsX2_takeOff_16 13 = .ok (.ifCond .ne 7, 3) ∧ okop dsX2_takeOff_16 13 = true) ∧ (decode dsX2_takeOff_16 16 = .ok (.iconst 1, 1) ∧ okop dsX2_takeOff_16 16 = true) ∧ (decode dsX2_takeOff_16 17 = .ok (.goto 4, 3) ∧ okop dsX2_takeOff_16 17 = true) := by decide +kernel
theorem dX2_takeOff_16 : decode cX2_takeOff 16 = .ok (.iload_n 1, 1) := dgq (p := 0) daX2_takeOff_16 dbX2_takeOff_16.1
theorem dX2_takeOff_17 : decode cX2_takeOff 17 = .ok (.isub, 1) := dgq (p := 1) daX2_takeOff_16 dbX2_takeOff_16.2.1
theorem dX2_takeOff_18 : decode cX2_takeOff 18 = .ok (.invokestatic 119, 3) := dgq (p := 2) daX2_takeOff_16 dbX2_takeOff_16.2.2.1
theorem dX2_takeOff_21 : decode cX2_takeOff 21 = .ok (.putfield 116, 3) := dgq (p := 5) daX2_takeOff_16 dbX2_takeOff_16.2.2.2.1
theorem dX2_takeOff_24 : decode cX2_takeOff 24 = .ok (.aload_n 0, 1) := dgq (p := 8) daX2_takeOff_16 dbX2_takeOff_16.2.2.2.2.1
theorem dX2_takeOff_25 : decode cX2_takeOff 25 = .ok (.aload_n 0, 1) := dgq (p := 9) daX2_takeOff_16 dbX2_takeOff_16.2.2.2.2.2.1
theorem dX2_takeOff_26 : decode cX2_takeOff 26 = .ok (.getfield 108, 3) := dgq (p := 10) daX2_takeOff_16 dbX2_takeOff_16.2.2.2.2.2.2.1
theorem dX2_takeOff_29 : decode cX2_takeOff 29 = .ok (.ifCond .ne 7, 3) := dgq (p := 13) daX2_takeOff_16 dbX2_takeOff_16.2.2.2.2.2.2.2.1
theorem dX2_takeOff_32 : decode cX2_takeOff 32 = .ok (.iconst 1, 1) := dgq (p := 16) daX2_takeOff_16 dbX2_takeOff_16.2.2.2.2.2.2.2.2.1
theorem dX2_takeOff_33 : decode cX2_takeOff 33 = .ok (.goto 4, 3) := dgq (p := 17) daX2_takeOff_16 dbX2_takeOff_16.2.2.2.2.2.2.2.2.2
def dsX2_takeOff_36 : ByteArray := ⟨#[3, 181, 0, 125, 42, 27, 16, 30, 163, 0, 15, 27, 16, 20, 164, 0, 13, 28]⟩
theorem daX2_takeOff_36 : agB cX2_takeOff dsX2_takeOff_36 36 := agB_of (n := 18) (by decide +kernel)
theorem dbX2_takeOff_36 : (decode dsX2_takeOff_36 0 = .ok (.iconst 0, 1) ∧ okop dsX2_takeOff_36 0 = true) ∧ (decode dsX2_takeOff_36 1 = .ok (.putfield 125, 3) ∧ okop dsX2_takeOff_36 1 = true) ∧ (decode dsX2_takeOff_36 4 = .ok (.aload_n 0, 1) ∧ okop dsX2_takeOff_36 4 = true) ∧ (decode dsX2_takeOff_36 5 = .ok (.iload_n 1, 1) ∧ okop dsX2_takeOff_36 5 = true) ∧ (decode dsX2_takeOff_36 6 = .ok (.bipush 30, 2) ∧ okop dsX2_takeOff_36 6 = true) ∧ (decode dsX2_takeOff_36 8 = .ok (.if_icmp .gt 15, 3) ∧ okop dsX2_takeOff_36 8 = true) ∧ (decode dsX2_takeOff_36 11 = .ok (.iload_n 1, 1) ∧ okop dsX2_takeOff_36 11 = true) ∧ (decode dsX2_takeOff_36 12 = .ok (.bipush 20, 2) ∧ okop dsX2_takeOff_36 12 = true) ∧ (decode dsX2_takeOff_36 14 = .ok (.if_icmp .le 13, 3) ∧ okop dsX2_takeOff_36 14 = true) ∧ (decode dsX2_takeOff_36 17 = .ok (.iload_n 2, 1) ∧ okop dsX2_takeOff_36 17 = true) := by decide +kernel
theorem dX2_takeOff_36 : decode cX2_takeOff 36 = .ok (.iconst 0, 1) := dgq (p := 0) daX2_takeOff_36 dbX2_takeOff_36.1
theorem dX2_takeOff_37 : decode cX2_takeOff 37 = .ok (.putfield 125, 3) := dgq (p := 1) daX2_takeOff_36 dbX2_takeOff_36.2.1
theorem dX2_takeOff_40 : decode cX2_takeOff 40 = .ok (.aload_n 0, 1) := dgq (p := 4) daX2_takeOff_36 dbX2_takeOff_36.2.2.1
theorem dX2_takeOff_41 : decode cX2_takeOff 41 = .ok (.iload_n 1, 1) := dgq (p := 5) daX2_takeOff_36 dbX2_takeOff_36.2.2.2.1
theorem dX2_takeOff_42 : decode cX2_takeOff 42 = .ok (.bipush 30, 2) := dgq (p := 6) daX2_takeOff_36 dbX2_takeOff_36.2.2.2.2.1
theorem dX2_takeOff_44 : decode cX2_takeOff 44 = .ok (.if_icmp .gt 15, 3) := dgq (p := 8) daX2_takeOff_36 dbX2_takeOff_36.2.2.2.2.2.1
theorem dX2_takeOff_47 : decode cX2_takeOff 47 = .ok (.iload_n 1, 1) := dgq (p := 11) daX2_takeOff_36 dbX2_takeOff_36.2.2.2.2.2.2.1
theorem dX2_takeOff_48 : decode cX2_takeOff 48 = .ok (.bipush 20, 2) := dgq (p := 12) daX2_takeOff_36 dbX2_takeOff_36.2.2.2.2.2.2.2.1
theorem dX2_takeOff_50 : decode cX2_takeOff 50 = .ok (.if_icmp .le 13, 3) := dgq (p := 14) daX2_takeOff_36 dbX2_takeOff_36.2.2.2.2.2.2.2.2.1
theorem dX2_takeOff_53 : decode cX2_takeOff 53 = .ok (.iload_n 2, 1) := dgq (p := 17) daX2_takeOff_36 dbX2_takeOff_36.2.2.2.2.2.2.2.2.2
def dsX2_takeOff_54 : ByteArray := ⟨#[16, 100, 164, 0, 7, 4, 167, 0, 4, 3, 181, 0, 92, 177]⟩
theorem daX2_takeOff_54 : agB cX2_takeOff dsX2_takeOff_54 54 := agB_of (n := 14) (by decide +kernel)
theorem dbX2_takeOff_54 : (decode dsX2_takeOff_54 0 = .ok (.bipush 100, 2) ∧ okop dsX2_takeOff_54 0 = true) ∧ (decode dsX2_takeOff_54 2 = .ok (.if_icmp .le 7, 3) ∧ okop dsX2_takeOff_54 2 = true) ∧ (decode dsX2_takeOff_54 5 = .ok (.iconst 1, 1) ∧ okop dsX2_takeOff_54 5 = true) ∧ (decode dsX2_takeOff_54 6 = .ok (.goto 4, 3) ∧ okop dsX2_takeOff_54 6 = true) ∧ (decode dsX2_takeOff_54 9 = .ok (.iconst 0, 1) ∧ okop dsX2_takeOff_54 9 = true) ∧ (decode dsX2_takeOff_54 10 = .ok (.putfield 92, 3) ∧ okop dsX2_takeOff_54 10 = true) ∧ (decode dsX2_takeOff_54 13 = .ok (.return_, 1) ∧ okop dsX2_takeOff_54 13 = true) := by decide +kernel
theorem dX2_takeOff_54 : decode cX2_takeOff 54 = .ok (.bipush 100, 2) := dgq (p := 0) daX2_takeOff_54 dbX2_takeOff_54.1
theorem dX2_takeOff_56 : decode cX2_takeOff 56 = .ok (.if_icmp .le 7, 3) := dgq (p := 2) daX2_takeOff_54 dbX2_takeOff_54.2.1
theorem dX2_takeOff_59 : decode cX2_takeOff 59 = .ok (.iconst 1, 1) := dgq (p := 5) daX2_takeOff_54 dbX2_takeOff_54.2.2.1
theorem dX2_takeOff_60 : decode cX2_takeOff 60 = .ok (.goto 4, 3) := dgq (p := 6) daX2_takeOff_54 dbX2_takeOff_54.2.2.2.1
theorem dX2_takeOff_63 : decode cX2_takeOff 63 = .ok (.iconst 0, 1) := dgq (p := 9) daX2_takeOff_54 dbX2_takeOff_54.2.2.2.2.1
theorem dX2_takeOff_64 : decode cX2_takeOff 64 = .ok (.putfield 92, 3) := dgq (p := 10) daX2_takeOff_54 dbX2_takeOff_54.2.2.2.2.2.1
theorem dX2_takeOff_67 : decode cX2_takeOff 67 = .ok (.return_, 1) := dgq (p := 13) daX2_takeOff_54 dbX2_takeOff_54.2.2.2.2.2.2
set_option maxRecDepth 20000 in
theorem ggX2_worstGrade_X1_worstPitch : GoodIn wsX2_worstGrade wsX1_worstPitch := goodIn_ca (goodIn_ca (goodIn_q _ [12, 13, 14, 15, 5, 16, 17, 4, 6] rfl (by decide +kernel)) (goodIn_sub (fun _ h => (List.mem_cons_of_mem _ (List.mem_append_left _ (List.mem_append_right _ h)))) tg_wsX10)) (goodIn_sub (fun _ h => List.mem_cons_of_mem _ (List.mem_append_right _ h)) (by decide +kernel))
set_option maxRecDepth 20000 in
theorem gX2_worstGrade_X1_worstPitch : GoodIn wsX2_worstGrade (wsV RX2 128 RX1 yX1_worstPitch wsX1_worstPitch) := goodIn_app (goodIn_q _ [8, 9, 10, 11] rfl (by decide +kernel)) ggX2_worstGrade_X1_worstPitch
set_option maxRecDepth 20000 in
theorem ggX2_worstGrade_X9_gradeOf : GoodIn wsX2_worstGrade wsX9_gradeOf := goodIn_ca (goodIn_q _ [20, 21] rfl (by decide +kernel)) (goodIn_sub (fun _ h => List.mem_cons_of_mem _ (List.mem_append_right _ h)) (by decide +kernel))
set_option maxRecDepth 20000 in
theorem gX2_worstGrade_X9_gradeOf_n131 : GoodIn wsX2_worstGrade (wsX9_gradeOf) := ggX2_worstGrade_X9_gradeOf
def dsX2_worstGrade_0 : ByteArray := ⟨#[42, 180, 0, 32, 182, 0, 128, 184, 0, 131, 42, 180, 0, 32, 180, 0, 134, 7, 108, 184, 0, 131]⟩
theorem daX2_worstGrade_0 : agB cX2_worstGrade dsX2_worstGrade_0 0 := agB_of (n := 22) (by decide +kernel)
theorem dbX2_worstGrade_0 : (decode dsX2_worstGrade_0 0 = .ok (.aload_n 0, 1) ∧ okop dsX2_worstGrade_0 0 = true) ∧ (decode dsX2_worstGrade_0 1 = .ok (.getfield 32, 3) ∧ okop dsX2_worstGrade_0 1 = true) ∧ (decode dsX2_worstGrade_0 4 = .ok (.invokevirtual 128, 3) ∧ okop dsX2_worstGrade_0 4 = true) ∧ (decode dsX2_worstGrade_0 7 = .ok (.invokestatic 131, 3) ∧ okop dsX2_worstGrade_0 7 = true) ∧ (decode dsX2_worstGrade_0 10 = .ok (.aload_n 0, 1) ∧ okop dsX2_worstGrade_0 10 = true) ∧ (decode dsX2_worstGrade_0 11 = .ok (.getfield 32, 3) ∧ okop dsX2_worstGrade_0 11 = true) ∧ (decode dsX2_worstGrade_0 14 = .ok (.getfield 134, 3) ∧ okop dsX2_worstGrade_0 14 = true) ∧ (decode dsX2_worstGrade_0 17 = .ok (.iconst 4, 1) ∧ okop dsX2_worstGrade_0 17 = true) ∧ (decode dsX2_worstGrade_0 18 = .ok (.idiv, 1) ∧ okop dsX2_worstGrade_0 18 = true) ∧ (decode dsX2_worstGrade_0 19 = .ok (.invokestatic 131, 3) ∧ okop dsX2_worstGrade_0 19 = true) := by decide +kernel
theorem dX2_worstGrade_0 : decode cX2_worstGrade 0 = .ok (.aload_n 0, 1) := dgq (p := 0) daX2_worstGrade_0 dbX2_worstGrade_0.1
theorem dX2_worstGrade_1 : decode cX2_worstGrade 1 = .ok (.getfield 32, 3) := dgq (p := 1) daX2_worstGrade_0 dbX2_worstGrade_0.2.1
theorem dX2_worstGrade_4 : decode cX2_worstGrade 4 = .ok (.invokevirtual 128, 3) := dgq (p := 4) daX2_worstGrade_0 dbX2_worstGrade_0.2.2.1
theorem dX2_worstGrade_7 : decode cX2_worstGrade 7 = .ok (.invokestatic 131, 3) := dgq (p := 7) daX2_worstGrade_0 dbX2_worstGrade_0.2.2.2.1
theorem dX2_worstGrade_10 : decode cX2_worstGrade 10 = .ok (.aload_n 0, 1) := dgq (p := 10) daX2_worstGrade_0 dbX2_worstGrade_0.2.2.2.2.1
theorem dX2_worstGrade_11 : decode cX2_worstGrade 11 = .ok (.getfield 32, 3) := dgq (p := 11) daX2_worstGrade_0 dbX2_worstGrade_0.2.2.2.2.2.1
theorem dX2_worstGrade_14 : decode cX2_worstGrade 14 = .ok (.getfield 134, 3) := dgq (p := 14) daX2_worstGrade_0 dbX2_worstGrade_0.2.2.2.2.2.2.1
theorem dX2_worstGrade_17 : decode cX2_worstGrade 17 = .ok (.iconst 4, 1) := dgq (p := 17) daX2_worstGrade_0 dbX2_worstGrade_0.2.2.2.2.2.2.2.1
theorem dX2_worstGrade_18 : decode cX2_worstGrade 18 = .ok (.idiv, 1) := dgq (p := 18) daX2_worstGrade_0 dbX2_worstGrade_0.2.2.2.2.2.2.2.2.1
theorem dX2_worstGrade_19 : decode cX2_worstGrade 19 = .ok (.invokestatic 131, 3) := dgq (p := 19) daX2_worstGrade_0 dbX2_worstGrade_0.2.2.2.2.2.2.2.2.2
def dsX2_worstGrade_22 : ByteArray := ⟨#[184, 0, 119, 60, 27, 5, 42, 180, 0, 137, 104, 184, 0, 131, 184, 0, 119, 172]⟩
theorem daX2_worstGrade_22 : agB cX2_worstGrade dsX2_worstGrade_22 22 := agB_of (n := 18) (by decide +kernel)
theorem dbX2_worstGrade_22 : (decode dsX2_worstGrade_22 0 = .ok (.invokestatic 119, 3) ∧ okop dsX2_worstGrade_22 0 = true) ∧ (decode dsX2_worstGrade_22 3 = .ok (.istore_n 1, 1) ∧ okop dsX2_worstGrade_22 3 = true) ∧ (decode dsX2_worstGrade_22 4 = .ok (.iload_n 1, 1) ∧ okop dsX2_worstGrade_22 4 = true) ∧ (decode dsX2_worstGrade_22 5 = .ok (.iconst 2, 1) ∧ okop dsX2_worstGrade_22 5 = true) ∧ (decode dsX2_worstGrade_22 6 = .ok (.aload_n 0, 1) ∧ okop dsX2_worstGrade_22 6 = true) ∧ (decode dsX2_worstGrade_22 7 = .ok (.getfield 137, 3) ∧ okop dsX2_worstGrade_22 7 = true) ∧ (decode dsX2_worstGrade_22 10 = .ok (.imul, 1) ∧ okop dsX2_worstGrade_22 10 = true) ∧ (decode dsX2_worstGrade_22 11 = .ok (.invokestatic 131, 3) ∧ okop dsX2_worstGrade_22 11 = true) ∧ (decode dsX2_worstGrade_22 14 = .ok (.invokestatic 119, 3) ∧ okop dsX2_worstGrade_22 14 = true) ∧ (decode dsX2_worstGrade_22 17 = .ok (.ireturn, 1) ∧ okop dsX2_worstGrade_22 17 = true) := by decide +kernel
theorem dX2_worstGrade_22 : decode cX2_worstGrade 22 = .ok (.invokestatic 119, 3) := dgq (p := 0) daX2_worstGrade_22 dbX2_worstGrade_22.1
theorem dX2_worstGrade_25 : decode cX2_worstGrade 25 = .ok (.istore_n 1, 1) := dgq (p := 3) daX2_worstGrade_22 dbX2_worstGrade_22.2.1
theorem dX2_worstGrade_26 : decode cX2_worstGrade 26 = .ok (.iload_n 1, 1) := dgq (p := 4) daX2_worstGrade_22 dbX2_worstGrade_22.2.2.1
theorem dX2_worstGrade_27 : decode cX2_worstGrade 27 = .ok (.iconst 2, 1) := dgq (p := 5) daX2_worstGrade_22 dbX2_worstGrade_22.2.2.2.1
theorem dX2_worstGrade_28 : decode cX2_worstGrade 28 = .ok (.aload_n 0, 1) := dgq (p := 6) daX2_worstGrade_22 dbX2_worstGrade_22.2.2.2.2.1
theorem dX2_worstGrade_29 : decode cX2_worstGrade 29 = .ok (.getfield 137, 3) := dgq (p := 7) daX2_worstGrade_22 dbX2_worstGrade_22.2.2.2.2.2.1
theorem dX2_worstGrade_32 : decode cX2_worstGrade 32 = .ok (.imul, 1) := dgq (p := 10) daX2_worstGrade_22 dbX2_worstGrade_22.2.2.2.2.2.2.1
theorem dX2_worstGrade_33 : decode cX2_worstGrade 33 = .ok (.invokestatic 131, 3) := dgq (p := 11) daX2_worstGrade_22 dbX2_worstGrade_22.2.2.2.2.2.2.2.1
theorem dX2_worstGrade_36 : decode cX2_worstGrade 36 = .ok (.invokestatic 119, 3) := dgq (p := 14) daX2_worstGrade_22 dbX2_worstGrade_22.2.2.2.2.2.2.2.2.1
theorem dX2_worstGrade_39 : decode cX2_worstGrade 39 = .ok (.ireturn, 1) := dgq (p := 17) daX2_worstGrade_22 dbX2_worstGrade_22.2.2.2.2.2.2.2.2.2
set_option maxRecDepth 20000 in
theorem ggX2_borneTorque_X2_bearsTorque : GoodIn wsX2_borneTorque wsX2_bearsTorque := goodIn_ca (goodIn_ca (goodIn_q _ [6, 7, 8, 9, 10, 11, 12, 13, 14, 15, 16, 17, 18, 19, 20, 21, 22, 5, 23, 24, 25, 26] rfl (by decide +kernel)) (goodIn_sub (fun _ h => (List.mem_cons_of_mem _ (List.mem_append_left _ (List.mem_append_right _ h)))) tg_wsX20)) (goodIn_sub (fun _ h => List.mem_cons_of_mem _ (List.mem_append_right _ h)) (by decide +kernel))
set_option maxRecDepth 20000 in
theorem gX2_borneTorque_X2_bearsTorque : GoodIn wsX2_borneTorque (wsV RX2 141 RX2 yX2_bearsTorque wsX2_bearsTorque) := goodIn_app (goodIn_q _ [2, 3, 4, 5] rfl (by decide +kernel)) ggX2_borneTorque_X2_bearsTorque
def dsX2_borneTorque_0 : ByteArray := ⟨#[3, 60, 18, 140, 61, 3, 62, 29, 16, 32, 162, 0, 43, 27]⟩
theorem daX2_borneTorque_0 : agB cX2_borneTorque dsX2_borneTorque_0 0 := agB_of (n := 14) (by decide +kernel)
theorem dbX2_borneTorque_0 : (decode dsX2_borneTorque_0 0 = .ok (.iconst 0, 1) ∧ okop dsX2_borneTorque_0 0 = true) ∧ (decode dsX2_borneTorque_0 1 = .ok (.istore_n 1, 1) ∧ okop dsX2_borneTorque_0 1 = true) ∧ (decode dsX2_borneTorque_0 2 = .ok (.ldc 140, 2) ∧ okop dsX2_borneTorque_0 2 = true) ∧ (decode dsX2_borneTorque_0 4 = .ok (.istore_n 2, 1) ∧ okop dsX2_borneTorque_0 4 = true) ∧ (decode dsX2_borneTorque_0 5 = .ok (.iconst 0, 1) ∧ okop dsX2_borneTorque_0 5 = true) ∧ (decode dsX2_borneTorque_0 6 = .ok (.istore_n 3, 1) ∧ okop dsX2_borneTorque_0 6 = true) ∧ (decode dsX2_borneTorque_0 7 = .ok (.iload_n 3, 1) ∧ okop dsX2_borneTorque_0 7 = true) ∧ (decode dsX2_borneTorque_0 8 = .ok (.bipush 32, 2) ∧ okop dsX2_borneTorque_0 8 = true) ∧ (decode dsX2_borneTorque_0 10 = .ok (.if_icmp .ge 43, 3) ∧ okop dsX2_borneTorque_0 10 = true) ∧ (decode dsX2_borneTorque_0 13 = .ok (.iload_n 1, 1) ∧ okop dsX2_borneTorque_0 13 = true) := by decide +kernel
theorem dX2_borneTorque_0 : decode cX2_borneTorque 0 = .ok (.iconst 0, 1) := dgq (p := 0) daX2_borneTorque_0 dbX2_borneTorque_0.1
theorem dX2_borneTorque_1 : decode cX2_borneTorque 1 = .ok (.istore_n 1, 1) := dgq (p := 1) daX2_borneTorque_0 dbX2_borneTorque_0.2.1
theorem dX2_borneTorque_2 : decode cX2_borneTorque 2 = .ok (.ldc 140, 2) := dgq (p := 2) daX2_borneTorque_0 dbX2_borneTorque_0.2.2.1
theorem dX2_borneTorque_4 : decode cX2_borneTorque 4 = .ok (.istore_n 2, 1) := dgq (p := 4) daX2_borneTorque_0 dbX2_borneTorque_0.2.2.2.1
theorem dX2_borneTorque_5 : decode cX2_borneTorque 5 = .ok (.iconst 0, 1) := dgq (p := 5) daX2_borneTorque_0 dbX2_borneTorque_0.2.2.2.2.1
theorem dX2_borneTorque_6 : decode cX2_borneTorque 6 = .ok (.istore_n 3, 1) := dgq (p := 6) daX2_borneTorque_0 dbX2_borneTorque_0.2.2.2.2.2.1
theorem dX2_borneTorque_7 : decode cX2_borneTorque 7 = .ok (.iload_n 3, 1) := dgq (p := 7) daX2_borneTorque_0 dbX2_borneTorque_0.2.2.2.2.2.2.1
theorem dX2_borneTorque_8 : decode cX2_borneTorque 8 = .ok (.bipush 32, 2) := dgq (p := 8) daX2_borneTorque_0 dbX2_borneTorque_0.2.2.2.2.2.2.2.1
theorem dX2_borneTorque_10 : decode cX2_borneTorque 10 = .ok (.if_icmp .ge 43, 3) := dgq (p := 10) daX2_borneTorque_0 dbX2_borneTorque_0.2.2.2.2.2.2.2.2.1
theorem dX2_borneTorque_13 : decode cX2_borneTorque 13 = .ok (.iload_n 1, 1) := dgq (p := 13) daX2_borneTorque_0 dbX2_borneTorque_0.2.2.2.2.2.2.2.2.2
def dsX2_borneTorque_14 : ByteArray := ⟨#[28, 162, 0, 38, 27, 28, 96, 4, 96, 5, 108, 54, 4]⟩
theorem daX2_borneTorque_14 : agB cX2_borneTorque dsX2_borneTorque_14 14 := agB_of (n := 13) (by decide +kernel)
theorem dbX2_borneTorque_14 : (decode dsX2_borneTorque_14 0 = .ok (.iload_n 2, 1) ∧ okop dsX2_borneTorque_14 0 = true) ∧ (decode dsX2_borneTorque_14 1 = .ok (.if_icmp .ge 38, 3) ∧ okop dsX2_borneTorque_14 1 = true) ∧ (decode dsX2_borneTorque_14 4 = .ok (.iload_n 1, 1) ∧ okop dsX2_borneTorque_14 4 = true) ∧ (decode dsX2_borneTorque_14 5 = .ok (.iload_n 2, 1) ∧ okop dsX2_borneTorque_14 5 = true) ∧ (decode dsX2_borneTorque_14 6 = .ok (.iadd, 1) ∧ okop dsX2_borneTorque_14 6 = true) ∧ (decode dsX2_borneTorque_14 7 = .ok (.iconst 1, 1) ∧ okop dsX2_borneTorque_14 7 = true) ∧ (decode dsX2_borneTorque_14 8 = .ok (.iadd, 1) ∧ okop dsX2_borneTorque_14 8 = true) ∧ (decode dsX2_borneTorque_14 9 = .ok (.iconst 2, 1) ∧ okop dsX2_borneTorque_14 9 = true) ∧ (decode dsX2_borneTorque_14 10 = .ok (.idiv, 1) ∧ okop dsX2_borneTorque_14 10 = true) ∧ (decode dsX2_borneTorque_14 11 = .ok (.istore 4, 2) ∧ okop dsX2_borneTorque_14 11 = true) := by decide +kernel
theorem dX2_borneTorque_14 : decode cX2_borneTorque 14 = .ok (.iload_n 2, 1) := dgq (p := 0) daX2_borneTorque_14 dbX2_borneTorque_14.1
theorem dX2_borneTorque_15 : decode cX2_borneTorque 15 = .ok (.if_icmp .ge 38, 3) := dgq (p := 1) daX2_borneTorque_14 dbX2_borneTorque_14.2.1
theorem dX2_borneTorque_18 : decode cX2_borneTorque 18 = .ok (.iload_n 1, 1) := dgq (p := 4) daX2_borneTorque_14 dbX2_borneTorque_14.2.2.1
theorem dX2_borneTorque_19 : decode cX2_borneTorque 19 = .ok (.iload_n 2, 1) := dgq (p := 5) daX2_borneTorque_14 dbX2_borneTorque_14.2.2.2.1
theorem dX2_borneTorque_20 : decode cX2_borneTorque 20 = .ok (.iadd, 1) := dgq (p := 6) daX2_borneTorque_14 dbX2_borneTorque_14.2.2.2.2.1
theorem dX2_borneTorque_21 : decode cX2_borneTorque 21 = .ok (.iconst 1, 1) := dgq (p := 7) daX2_borneTorque_14 dbX2_borneTorque_14.2.2.2.2.2.1
theorem dX2_borneTorque_22 : decode cX2_borneTorque 22 = .ok (.iadd, 1) := dgq (p := 8) daX2_borneTorque_14 dbX2_borneTorque_14.2.2.2.2.2.2.1
theorem dX2_borneTorque_23 : decode cX2_borneTorque 23 = .ok (.iconst 2, 1) := dgq (p := 9) daX2_borneTorque_14 dbX2_borneTorque_14.2.2.2.2.2.2.2.1
theorem dX2_borneTorque_24 : decode cX2_borneTorque 24 = .ok (.idiv, 1) := dgq (p := 10) daX2_borneTorque_14 dbX2_borneTorque_14.2.2.2.2.2.2.2.2.1
theorem dX2_borneTorque_25 : decode cX2_borneTorque 25 = .ok (.istore 4, 2) := dgq (p := 11) daX2_borneTorque_14 dbX2_borneTorque_14.2.2.2.2.2.2.2.2.2
def dsX2_borneTorque_27 : ByteArray := ⟨#[42, 21, 4, 182, 0, 141, 153, 0, 9, 21, 4, 60, 167, 0, 8, 21, 4, 4, 100]⟩
theorem daX2_borneTorque_27 : agB cX2_borneTorque dsX2_borneTorque_27 27 := agB_of (n := 19) (by decide +kernel)
theorem dbX2_borneTorque_27 : (decode dsX2_borneTorque_27 0 = .ok (.aload_n 0, 1) ∧ okop dsX2_borneTorque_27 0 = true) ∧ (decode dsX2_borneTorque_27 1 = .ok (.iload 4, 2) ∧ okop dsX2_borneTorque_27 1 = true) ∧ (decode dsX2_borneTorque_27 3 = .ok (.invokevirtual 141, 3) ∧ okop dsX2_borneTorque_27 3 = true) ∧ (decode dsX2_borneTorque_27 6 = .ok (.ifCond .eq 9, 3) ∧ okop dsX2_borneTorque_27 6 = true) ∧ (decode dsX2_borneTorque_27 9 = .ok (.iload 4, 2) ∧ okop dsX2_borneTorque_27 9 = true) ∧ (decode dsX2_borneTorque_27 11 = .ok (.istore_n 1, 1) ∧ okop dsX2_borneTorque_27 11 = true) ∧ (decode dsX2_borneTorque_27 12 = .ok (.goto 8, 3) ∧ okop dsX2_borneTorque_27 12 = true) ∧ (decode dsX2_borneTorque_27 15 = .ok (.iload 4, 2) ∧ okop dsX2_borneTorque_27 15 = true) ∧ (decode dsX2_borneTorque_27 17 = .ok (.iconst 1, 1) ∧ okop dsX2_borneTorque_27 17 = true) ∧ (decode dsX2_borneTorque_27 18 = .ok (.isub, 1) ∧ okop dsX2_borneTorque_27 18 = true) := by decide +kernel
theorem dX2_borneTorque_27 : decode cX2_borneTorque 27 = .ok (.aload_n 0, 1) := dgq (p := 0) daX2_borneTorque_27 dbX2_borneTorque_27.1
theorem dX2_borneTorque_28 : decode cX2_borneTorque 28 = .ok (.iload 4, 2) := dgq (p := 1) daX2_borneTorque_27 dbX2_borneTorque_27.2.1
theorem dX2_borneTorque_30 : decode cX2_borneTorque 30 = .ok (.invokevirtual 141, 3) := dgq (p := 3) daX2_borneTorque_27 dbX2_borneTorque_27.2.2.1
theorem dX2_borneTorque_33 : decode cX2_borneTorque 33 = .ok (.ifCond .eq 9, 3) := dgq (p := 6) daX2_borneTorque_27 dbX2_borneTorque_27.2.2.2.1
theorem dX2_borneTorque_36 : decode cX2_borneTorque 36 = .ok (.iload 4, 2) := dgq (p := 9) daX2_borneTorque_27 dbX2_borneTorque_27.2.2.2.2.1
theorem dX2_borneTorque_38 : decode cX2_borneTorque 38 = .ok (.istore_n 1, 1) := dgq (p := 11) daX2_borneTorque_27 dbX2_borneTorque_27.2.2.2.2.2.1
theorem dX2_borneTorque_39 : decode cX2_borneTorque 39 = .ok (.goto 8, 3) := dgq (p := 12) daX2_borneTorque_27 dbX2_borneTorque_27.2.2.2.2.2.2.1
theorem dX2_borneTorque_42 : decode cX2_borneTorque 42 = .ok (.iload 4, 2) := dgq (p := 15) daX2_borneTorque_27 dbX2_borneTorque_27.2.2.2.2.2.2.2.1
theorem dX2_borneTorque_44 : decode cX2_borneTorque 44 = .ok (.iconst 1, 1) := dgq (p := 17) daX2_borneTorque_27 dbX2_borneTorque_27.2.2.2.2.2.2.2.2.1
theorem dX2_borneTorque_45 : decode cX2_borneTorque 45 = .ok (.isub, 1) := dgq (p := 18) daX2_borneTorque_27 dbX2_borneTorque_27.2.2.2.2.2.2.2.2.2
def dsX2_borneTorque_46 : ByteArray := ⟨#[61, 132, 3, 1, 167, 255, 213, 27, 172]⟩
theorem daX2_borneTorque_46 : agB cX2_borneTorque dsX2_borneTorque_46 46 := agB_of (n := 9) (by decide +kernel)
theorem dbX2_borneTorque_46 : (decode dsX2_borneTorque_46 0 = .ok (.istore_n 2, 1) ∧ okop dsX2_borneTorque_46 0 = true) ∧ (decode dsX2_borneTorque_46 1 = .ok (.iinc 3 1, 3) ∧ okop dsX2_borneTorque_46 1 = true) ∧ (decode dsX2_borneTorque_46 4 = .ok (.goto (-43), 3) ∧ okop dsX2_borneTorque_46 4 = true) ∧ (decode dsX2_borneTorque_46 7 = .ok (.iload_n 1, 1) ∧ okop dsX2_borneTorque_46 7 = true) ∧ (decode dsX2_borneTorque_46 8 = .ok (.ireturn, 1) ∧ okop dsX2_borneTorque_46 8 = true) := by decide +kernel
theorem dX2_borneTorque_46 : decode cX2_borneTorque 46 = .ok (.istore_n 2, 1) := dgq (p := 0) daX2_borneTorque_46 dbX2_borneTorque_46.1
theorem dX2_borneTorque_47 : decode cX2_borneTorque 47 = .ok (.iinc 3 1, 3) := dgq (p := 1) daX2_borneTorque_46 dbX2_borneTorque_46.2.1
theorem dX2_borneTorque_50 : decode cX2_borneTorque 50 = .ok (.goto (-43), 3) := dgq (p := 4) daX2_borneTorque_46 dbX2_borneTorque_46.2.2.1
theorem dX2_borneTorque_53 : decode cX2_borneTorque 53 = .ok (.iload_n 1, 1) := dgq (p := 7) daX2_borneTorque_46 dbX2_borneTorque_46.2.2.2.1
theorem dX2_borneTorque_54 : decode cX2_borneTorque 54 = .ok (.ireturn, 1) := dgq (p := 8) daX2_borneTorque_46 dbX2_borneTorque_46.2.2.2.2
set_option maxRecDepth 20000 in
theorem ggX2_bearsTorque_X2_pitchDiameter : GoodIn wsX2_bearsTorque wsX2_pitchDiameter := goodIn_ca (goodIn_q _ [18, 2, 5] rfl (by decide +kernel)) (goodIn_sub (fun _ h => (List.mem_cons_of_mem _ (List.mem_append_left _ (List.mem_append_right _ h)))) tg_wsX20)
set_option maxRecDepth 20000 in
theorem gX2_bearsTorque_X2_pitchDiameter : GoodIn wsX2_bearsTorque (wsV RX2 64 RX2 yX2_pitchDiameter wsX2_pitchDiameter) := goodIn_app (goodIn_q _ [14, 15, 16, 17] rfl (by decide +kernel)) ggX2_bearsTorque_X2_pitchDiameter
set_option maxRecDepth 20000 in
theorem ggX2_bearsTorque_X9_root : GoodIn wsX2_bearsTorque wsX9_root := goodIn_q _ [21] rfl (by decide +kernel)
set_option maxRecDepth 20000 in
theorem gX2_bearsTorque_X9_root_n72 : GoodIn wsX2_bearsTorque (wsX9_root) := ggX2_bearsTorque_X9_root
def dsX2_bearsTorque_0 : ByteArray := ⟨#[42, 182, 0, 64, 133, 65, 20, 0, 145, 27, 133, 105, 32, 109]⟩
theorem daX2_bearsTorque_0 : agB cX2_bearsTorque dsX2_bearsTorque_0 0 := agB_of (n := 14) (by decide +kernel)
theorem dbX2_bearsTorque_0 : (decode dsX2_bearsTorque_0 0 = .ok (.aload_n 0, 1) ∧ okop dsX2_bearsTorque_0 0 = true) ∧ (decode dsX2_bearsTorque_0 1 = .ok (.invokevirtual 64, 3) ∧ okop dsX2_bearsTorque_0 1 = true) ∧ (decode dsX2_bearsTorque_0 4 = .ok (.i2l, 1) ∧ okop dsX2_bearsTorque_0 4 = true) ∧ (decode dsX2_bearsTorque_0 5 = .ok (.lstore_n 2, 1) ∧ okop dsX2_bearsTorque_0 5 = true) ∧ (decode dsX2_bearsTorque_0 6 = .ok (.ldc2_w 145, 3) ∧ okop dsX2_bearsTorque_0 6 = true) ∧ (decode dsX2_bearsTorque_0 9 = .ok (.iload_n 1, 1) ∧ okop dsX2_bearsTorque_0 9 = true) ∧ (decode dsX2_bearsTorque_0 10 = .ok (.i2l, 1) ∧ okop dsX2_bearsTorque_0 10 = true) ∧ (decode dsX2_bearsTorque_0 11 = .ok (.lmul, 1) ∧ okop dsX2_bearsTorque_0 11 = true) ∧ (decode dsX2_bearsTorque_0 12 = .ok (.lload_n 2, 1) ∧ okop dsX2_bearsTorque_0 12 = true) ∧ (decode dsX2_bearsTorque_0 13 = .ok (.ldiv, 1) ∧ okop dsX2_bearsTorque_0 13 = true) := by decide +kernel
theorem dX2_bearsTorque_0 : decode cX2_bearsTorque 0 = .ok (.aload_n 0, 1) := dgq (p := 0) daX2_bearsTorque_0 dbX2_bearsTorque_0.1
theorem dX2_bearsTorque_1 : decode cX2_bearsTorque 1 = .ok (.invokevirtual 64, 3) := dgq (p := 1) daX2_bearsTorque_0 dbX2_bearsTorque_0.2.1
theorem dX2_bearsTorque_4 : decode cX2_bearsTorque 4 = .ok (.i2l, 1) := dgq (p := 4) daX2_bearsTorque_0 dbX2_bearsTorque_0.2.2.1
theorem dX2_bearsTorque_5 : decode cX2_bearsTorque 5 = .ok (.lstore_n 2, 1) := dgq (p := 5) daX2_bearsTorque_0 dbX2_bearsTorque_0.2.2.2.1
theorem dX2_bearsTorque_6 : decode cX2_bearsTorque 6 = .ok (.ldc2_w 145, 3) := dgq (p := 6) daX2_bearsTorque_0 dbX2_bearsTorque_0.2.2.2.2.1
theorem dX2_bearsTorque_9 : decode cX2_bearsTorque 9 = .ok (.iload_n 1, 1) := dgq (p := 9) daX2_bearsTorque_0 dbX2_bearsTorque_0.2.2.2.2.2.1
theorem dX2_bearsTorque_10 : decode cX2_bearsTorque 10 = .ok (.i2l, 1) := dgq (p := 10) daX2_bearsTorque_0 dbX2_bearsTorque_0.2.2.2.2.2.2.1
theorem dX2_bearsTorque_11 : decode cX2_bearsTorque 11 = .ok (.lmul, 1) := dgq (p := 11) daX2_bearsTorque_0 dbX2_bearsTorque_0.2.2.2.2.2.2.2.1
theorem dX2_bearsTorque_12 : decode cX2_bearsTorque 12 = .ok (.lload_n 2, 1) := dgq (p := 12) daX2_bearsTorque_0 dbX2_bearsTorque_0.2.2.2.2.2.2.2.2.1
theorem dX2_bearsTorque_13 : decode cX2_bearsTorque 13 = .ok (.ldiv, 1) := dgq (p := 13) daX2_bearsTorque_0 dbX2_bearsTorque_0.2.2.2.2.2.2.2.2.2
def dsX2_bearsTorque_14 : ByteArray := ⟨#[55, 4, 22, 4, 42, 180, 0, 15, 16, 20, 96, 133, 105, 42, 180, 0, 15]⟩
theorem daX2_bearsTorque_14 : agB cX2_bearsTorque dsX2_bearsTorque_14 14 := agB_of (n := 17) (by decide +kernel)
theorem dbX2_bearsTorque_14 : (decode dsX2_bearsTorque_14 0 = .ok (.lstore 4, 2) ∧ okop dsX2_bearsTorque_14 0 = true) ∧ (decode dsX2_bearsTorque_14 2 = .ok (.lload 4, 2) ∧ okop dsX2_bearsTorque_14 2 = true) ∧ (decode dsX2_bearsTorque_14 4 = .ok (.aload_n 0, 1) ∧ okop dsX2_bearsTorque_14 4 = true) ∧ (decode dsX2_bearsTorque_14 5 = .ok (.getfield 15, 3) ∧ okop dsX2_bearsTorque_14 5 = true) ∧ (decode dsX2_bearsTorque_14 8 = .ok (.bipush 20, 2) ∧ okop dsX2_bearsTorque_14 8 = true) ∧ (decode dsX2_bearsTorque_14 10 = .ok (.iadd, 1) ∧ okop dsX2_bearsTorque_14 10 = true) ∧ (decode dsX2_bearsTorque_14 11 = .ok (.i2l, 1) ∧ okop dsX2_bearsTorque_14 11 = true) ∧ (decode dsX2_bearsTorque_14 12 = .ok (.lmul, 1) ∧ okop dsX2_bearsTorque_14 12 = true) ∧ (decode dsX2_bearsTorque_14 13 = .ok (.aload_n 0, 1) ∧ okop dsX2_bearsTorque_14 13 = true) ∧ (decode dsX2_bearsTorque_14 14 = .ok (.getfield 15, 3) ∧ okop dsX2_bearsTorque_14 14 = true) := by decide +kernel
theorem dX2_bearsTorque_14 : decode cX2_bearsTorque 14 = .ok (.lstore 4, 2) := dgq (p := 0) daX2_bearsTorque_14 dbX2_bearsTorque_14.1
theorem dX2_bearsTorque_16 : decode cX2_bearsTorque 16 = .ok (.lload 4, 2) := dgq (p := 2) daX2_bearsTorque_14 dbX2_bearsTorque_14.2.1
theorem dX2_bearsTorque_18 : decode cX2_bearsTorque 18 = .ok (.aload_n 0, 1) := dgq (p := 4) daX2_bearsTorque_14 dbX2_bearsTorque_14.2.2.1
theorem dX2_bearsTorque_19 : decode cX2_bearsTorque 19 = .ok (.getfield 15, 3) := dgq (p := 5) daX2_bearsTorque_14 dbX2_bearsTorque_14.2.2.2.1
theorem dX2_bearsTorque_22 : decode cX2_bearsTorque 22 = .ok (.bipush 20, 2) := dgq (p := 8) daX2_bearsTorque_14 dbX2_bearsTorque_14.2.2.2.2.1
theorem dX2_bearsTorque_24 : decode cX2_bearsTorque 24 = .ok (.iadd, 1) := dgq (p := 10) daX2_bearsTorque_14 dbX2_bearsTorque_14.2.2.2.2.2.1
theorem dX2_bearsTorque_25 : decode cX2_bearsTorque 25 = .ok (.i2l, 1) := dgq (p := 11) daX2_bearsTorque_14 dbX2_bearsTorque_14.2.2.2.2.2.2.1
theorem dX2_bearsTorque_26 : decode cX2_bearsTorque 26 = .ok (.lmul, 1) := dgq (p := 12) daX2_bearsTorque_14 dbX2_bearsTorque_14.2.2.2.2.2.2.2.1
theorem dX2_bearsTorque_27 : decode cX2_bearsTorque 27 = .ok (.aload_n 0, 1) := dgq (p := 13) daX2_bearsTorque_14 dbX2_bearsTorque_14.2.2.2.2.2.2.2.2.1
theorem dX2_bearsTorque_28 : decode cX2_bearsTorque 28 = .ok (.getfield 15, 3) := dgq (p := 14) daX2_bearsTorque_14 dbX2_bearsTorque_14.2.2.2.2.2.2.2.2.2
def dsX2_bearsTorque_31 : ByteArray := ⟨#[133, 109, 20, 0, 86, 105, 42, 180, 0, 24, 133, 42, 180, 0, 18, 133]⟩
theorem daX2_bearsTorque_31 : agB cX2_bearsTorque dsX2_bearsTorque_31 31 := agB_of (n := 16) (by decide +kernel)
theorem dbX2_bearsTorque_31 : (decode dsX2_bearsTorque_31 0 = .ok (.i2l, 1) ∧ okop dsX2_bearsTorque_31 0 = true) ∧ (decode dsX2_bearsTorque_31 1 = .ok (.ldiv, 1) ∧ okop dsX2_bearsTorque_31 1 = true) ∧ (decode dsX2_bearsTorque_31 2 = .ok (.ldc2_w 86, 3) ∧ okop dsX2_bearsTorque_31 2 = true) ∧ (decode dsX2_bearsTorque_31 5 = .ok (.lmul, 1) ∧ okop dsX2_bearsTorque_31 5 = true) ∧ (decode dsX2_bearsTorque_31 6 = .ok (.aload_n 0, 1) ∧ okop dsX2_bearsTorque_31 6 = true) ∧ (decode dsX2_bearsTorque_31 7 = .ok (.getfield 24, 3) ∧ okop dsX2_bearsTorque_31 7 = true) ∧ (decode dsX2_bearsTorque_31 10 = .ok (.i2l, 1) ∧ okop dsX2_bearsTorque_31 10 = true) ∧ (decode dsX2_bearsTorque_31 11 = .ok (.aload_n 0, 1) ∧ okop dsX2_bearsTorque_31 11 = true) ∧ (decode dsX2_bearsTorque_31 12 = .ok (.getfield 18, 3) ∧ okop dsX2_bearsTorque_31 12 = true) ∧ (decode dsX2_bearsTorque_31 15 = .ok (.i2l, 1) ∧ okop dsX2_bearsTorque_31 15 = true) := by decide +kernel
theorem dX2_bearsTorque_31 : decode cX2_bearsTorque 31 = .ok (.i2l, 1) := dgq (p := 0) daX2_bearsTorque_31 dbX2_bearsTorque_31.1
theorem dX2_bearsTorque_32 : decode cX2_bearsTorque 32 = .ok (.ldiv, 1) := dgq (p := 1) daX2_bearsTorque_31 dbX2_bearsTorque_31.2.1
theorem dX2_bearsTorque_33 : decode cX2_bearsTorque 33 = .ok (.ldc2_w 86, 3) := dgq (p := 2) daX2_bearsTorque_31 dbX2_bearsTorque_31.2.2.1
theorem dX2_bearsTorque_36 : decode cX2_bearsTorque 36 = .ok (.lmul, 1) := dgq (p := 5) daX2_bearsTorque_31 dbX2_bearsTorque_31.2.2.2.1
theorem dX2_bearsTorque_37 : decode cX2_bearsTorque 37 = .ok (.aload_n 0, 1) := dgq (p := 6) daX2_bearsTorque_31 dbX2_bearsTorque_31.2.2.2.2.1
theorem dX2_bearsTorque_38 : decode cX2_bearsTorque 38 = .ok (.getfield 24, 3) := dgq (p := 7) daX2_bearsTorque_31 dbX2_bearsTorque_31.2.2.2.2.2.1
theorem dX2_bearsTorque_41 : decode cX2_bearsTorque 41 = .ok (.i2l, 1) := dgq (p := 10) daX2_bearsTorque_31 dbX2_bearsTorque_31.2.2.2.2.2.2.1
theorem dX2_bearsTorque_42 : decode cX2_bearsTorque 42 = .ok (.aload_n 0, 1) := dgq (p := 11) daX2_bearsTorque_31 dbX2_bearsTorque_31.2.2.2.2.2.2.2.1
theorem dX2_bearsTorque_43 : decode cX2_bearsTorque 43 = .ok (.getfield 18, 3) := dgq (p := 12) daX2_bearsTorque_31 dbX2_bearsTorque_31.2.2.2.2.2.2.2.2.1
theorem dX2_bearsTorque_46 : decode cX2_bearsTorque 46 = .ok (.i2l, 1) := dgq (p := 15) daX2_bearsTorque_31 dbX2_bearsTorque_31.2.2.2.2.2.2.2.2.2
def dsX2_bearsTorque_47 : ByteArray := ⟨#[105, 109, 55, 6, 22, 4, 20, 0, 86, 105, 32, 109, 20, 0, 147, 105]⟩
theorem daX2_bearsTorque_47 : agB cX2_bearsTorque dsX2_bearsTorque_47 47 := agB_of (n := 16) (by decide +kernel)
theorem dbX2_bearsTorque_47 : (decode dsX2_bearsTorque_47 0 = .ok (.lmul, 1) ∧ okop dsX2_bearsTorque_47 0 = true) ∧ (decode dsX2_bearsTorque_47 1 = .ok (.ldiv, 1) ∧ okop dsX2_bearsTorque_47 1 = true) ∧ (decode dsX2_bearsTorque_47 2 = .ok (.lstore 6, 2) ∧ okop dsX2_bearsTorque_47 2 = true) ∧ (decode dsX2_bearsTorque_47 4 = .ok (.lload 4, 2) ∧ okop dsX2_bearsTorque_47 4 = true) ∧ (decode dsX2_bearsTorque_47 6 = .ok (.ldc2_w 86, 3) ∧ okop dsX2_bearsTorque_47 6 = true) ∧ (decode dsX2_bearsTorque_47 9 = .ok (.lmul, 1) ∧ okop dsX2_bearsTorque_47 9 = true) ∧ (decode dsX2_bearsTorque_47 10 = .ok (.lload_n 2, 1) ∧ okop dsX2_bearsTorque_47 10 = true) ∧ (decode dsX2_bearsTorque_47 11 = .ok (.ldiv, 1) ∧ okop dsX2_bearsTorque_47 11 = true) ∧ (decode dsX2_bearsTorque_47 12 = .ok (.ldc2_w 147, 3) ∧ okop dsX2_bearsTorque_47 12 = true) ∧ (decode dsX2_bearsTorque_47 15 = .ok (.lmul, 1) ∧ okop dsX2_bearsTorque_47 15 = true) := by decide +kernel
theorem dX2_bearsTorque_47 : decode cX2_bearsTorque 47 = .ok (.lmul, 1) := dgq (p := 0) daX2_bearsTorque_47 dbX2_bearsTorque_47.1
theorem dX2_bearsTorque_48 : decode cX2_bearsTorque 48 = .ok (.ldiv, 1) := dgq (p := 1) daX2_bearsTorque_47 dbX2_bearsTorque_47.2.1
theorem dX2_bearsTorque_49 : decode cX2_bearsTorque 49 = .ok (.lstore 6, 2) := dgq (p := 2) daX2_bearsTorque_47 dbX2_bearsTorque_47.2.2.1
theorem dX2_bearsTorque_51 : decode cX2_bearsTorque 51 = .ok (.lload 4, 2) := dgq (p := 4) daX2_bearsTorque_47 dbX2_bearsTorque_47.2.2.2.1
theorem dX2_bearsTorque_53 : decode cX2_bearsTorque 53 = .ok (.ldc2_w 86, 3) := dgq (p := 6) daX2_bearsTorque_47 dbX2_bearsTorque_47.2.2.2.2.1
theorem dX2_bearsTorque_56 : decode cX2_bearsTorque 56 = .ok (.lmul, 1) := dgq (p := 9) daX2_bearsTorque_47 dbX2_bearsTorque_47.2.2.2.2.2.1
theorem dX2_bearsTorque_57 : decode cX2_bearsTorque 57 = .ok (.lload_n 2, 1) := dgq (p := 10) daX2_bearsTorque_47 dbX2_bearsTorque_47.2.2.2.2.2.2.1
theorem dX2_bearsTorque_58 : decode cX2_bearsTorque 58 = .ok (.ldiv, 1) := dgq (p := 11) daX2_bearsTorque_47 dbX2_bearsTorque_47.2.2.2.2.2.2.2.1
theorem dX2_bearsTorque_59 : decode cX2_bearsTorque 59 = .ok (.ldc2_w 147, 3) := dgq (p := 12) daX2_bearsTorque_47 dbX2_bearsTorque_47.2.2.2.2.2.2.2.2.1
theorem dX2_bearsTorque_62 : decode cX2_bearsTorque 62 = .ok (.lmul, 1) := dgq (p := 15) daX2_bearsTorque_47 dbX2_bearsTorque_47.2.2.2.2.2.2.2.2.2
def dsX2_bearsTorque_63 : ByteArray := ⟨#[42, 180, 0, 24, 133]⟩
theorem daX2_bearsTorque_63 : agB cX2_bearsTorque dsX2_bearsTorque_63 63 := agB_of (n := 5) (by decide +kernel)
theorem dbX2_bearsTorque_63 : (decode dsX2_bearsTorque_63 0 = .ok (.aload_n 0, 1) ∧ okop dsX2_bearsTorque_63 0 = true) ∧ (decode dsX2_bearsTorque_63 1 = .ok (.getfield 24, 3) ∧ okop dsX2_bearsTorque_63 1 = true) ∧ (decode dsX2_bearsTorque_63 4 = .ok (.i2l, 1) ∧ okop dsX2_bearsTorque_63 4 = true) := by decide +kernel
theorem dX2_bearsTorque_63 : decode cX2_bearsTorque 63 = .ok (.aload_n 0, 1) := dgq (p := 0) daX2_bearsTorque_63 dbX2_bearsTorque_63.1
theorem dX2_bearsTorque_64 : decode cX2_bearsTorque 64 = .ok (.getfield 24, 3) := dgq (p := 1) daX2_bearsTorque_63 dbX2_bearsTorque_63.2.1
theorem dX2_bearsTorque_67 : decode cX2_bearsTorque 67 = .ok (.i2l, 1) := dgq (p := 4) daX2_bearsTorque_63 dbX2_bearsTorque_63.2.2
