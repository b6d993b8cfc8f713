def dsJ9_floorMod_7cf53_3 : ByteArray := ⟨#[61, 26, 27, 130, 156, 0, 11, 28, 153, 0, 7, 28, 27, 96]⟩
theorem daJ9_floorMod_7cf53_3 : agB cJ9_floorMod_7cf53 dsJ9_floorMod_7cf53_3 3 := agB_of (n := 14) (by decide +kernel)
theorem dbJ9_floorMod_7cf53_3 : (decode dsJ9_floorMod_7cf53_3 0 = .ok (.istore_n 2, 1) ∧ okop dsJ9_floorMod_7cf53_3 0 = true) ∧ (decode dsJ9_floorMod_7cf53_3 1 = .ok (.iload_n 0, 1) ∧ okop dsJ9_floorMod_7cf53_3 1 = true) ∧ (decode dsJ9_floorMod_7cf53_3 2 = .ok (.iload_n 1, 1) ∧ okop dsJ9_floorMod_7cf53_3 2 = true) ∧ (decode dsJ9_floorMod_7cf53_3 3 = .ok (.ixor, 1) ∧ okop dsJ9_floorMod_7cf53_3 3 = true) ∧ (decode dsJ9_floorMod_7cf53_3 4 = .ok (.ifCond .ge 11, 3) ∧ okop dsJ9_floorMod_7cf53_3 4 = true) ∧ (decode dsJ9_floorMod_7cf53_3 7 = .ok (.iload_n 2, 1) ∧ okop dsJ9_floorMod_7cf53_3 7 = true) ∧ (decode dsJ9_floorMod_7cf53_3 8 = .ok (.ifCond .eq 7, 3) ∧ okop dsJ9_floorMod_7cf53_3 8 = true) ∧ (decode dsJ9_floorMod_7cf53_3 11 = .ok (.iload_n 2, 1) ∧ okop dsJ9_floorMod_7cf53_3 11 = true) ∧ (decode dsJ9_floorMod_7cf53_3 12 = .ok (.iload_n 1, 1) ∧ okop dsJ9_floorMod_7cf53_3 12 = true) ∧ (decode dsJ9_floorMod_7cf53_3 13 = .ok (.iadd, 1) ∧ okop dsJ9_floorMod_7cf53_3 13 = true) := by decide +kernel
theorem dJ9_floorMod_7cf53_3 : decode cJ9_floorMod_7cf53 3 = .ok (.istore_n 2, 1) := dgq (p := 0) daJ9_floorMod_7cf53_3 dbJ9_floorMod_7cf53_3.1
theorem dJ9_floorMod_7cf53_4 : decode cJ9_floorMod_7cf53 4 = .ok (.iload_n 0, 1) := dgq (p := 1) daJ9_floorMod_7cf53_3 dbJ9_floorMod_7cf53_3.2.1
theorem dJ9_floorMod_7cf53_5 : decode cJ9_floorMod_7cf53 5 = .ok (.iload_n 1, 1) := dgq (p := 2) daJ9_floorMod_7cf53_3 dbJ9_floorMod_7cf53_3.2.2.1
theorem dJ9_floorMod_7cf53_6 : decode cJ9_floorMod_7cf53 6 = .ok (.ixor, 1) := dgq (p := 3) daJ9_floorMod_7cf53_3 dbJ9_floorMod_7cf53_3.2.2.2.1
theorem dJ9_floorMod_7cf53_7 : decode cJ9_floorMod_7cf53 7 = .ok (.ifCond .ge 11, 3) := dgq (p := 4) daJ9_floorMod_7cf53_3 dbJ9_floorMod_7cf53_3.2.2.2.2.1
theorem dJ9_floorMod_7cf53_10 : decode cJ9_floorMod_7cf53 10 = .ok (.iload_n 2, 1) := dgq (p := 7) daJ9_floorMod_7cf53_3 dbJ9_floorMod_7cf53_3.2.2.2.2.2.1
theorem dJ9_floorMod_7cf53_11 : decode cJ9_floorMod_7cf53 11 = .ok (.ifCond .eq 7, 3) := dgq (p := 8) daJ9_floorMod_7cf53_3 dbJ9_floorMod_7cf53_3.2.2.2.2.2.2.1
theorem dJ9_floorMod_7cf53_14 : decode cJ9_floorMod_7cf53 14 = .ok (.iload_n 2, 1) := dgq (p := 11) daJ9_floorMod_7cf53_3 dbJ9_floorMod_7cf53_3.2.2.2.2.2.2.2.1
theorem dJ9_floorMod_7cf53_15 : decode cJ9_floorMod_7cf53 15 = .ok (.iload_n 1, 1) := dgq (p := 12) daJ9_floorMod_7cf53_3 dbJ9_floorMod_7cf53_3.2.2.2.2.2.2.2.2.1
theorem dJ9_floorMod_7cf53_16 : decode cJ9_floorMod_7cf53 16 = .ok (.iadd, 1) := dgq (p := 13) daJ9_floorMod_7cf53_3 dbJ9_floorMod_7cf53_3.2.2.2.2.2.2.2.2.2
def dsJ9_floorMod_7cf53_17 : ByteArray := ⟨#[172, 28, 172]⟩
theorem daJ9_floorMod_7cf53_17 : agB cJ9_floorMod_7cf53 dsJ9_floorMod_7cf53_17 17 := agB_of (n := 3) (by decide +kernel)
theorem dbJ9_floorMod_7cf53_17 : (decode dsJ9_floorMod_7cf53_17 0 = .ok (.ireturn, 1) ∧ okop dsJ9_floorMod_7cf53_17 0 = true) ∧ (decode dsJ9_floorMod_7cf53_17 1 = .ok (.iload_n 2, 1) ∧ okop dsJ9_floorMod_7cf53_17 1 = true) ∧ (decode dsJ9_floorMod_7cf53_17 2 = .ok (.ireturn, 1) ∧ okop dsJ9_floorMod_7cf53_17 2 = true) := by decide +kernel
theorem dJ9_floorMod_7cf53_17 : decode cJ9_floorMod_7cf53 17 = .ok (.ireturn, 1) := dgq (p := 0) daJ9_floorMod_7cf53_17 dbJ9_floorMod_7cf53_17.1
theorem dJ9_floorMod_7cf53_18 : decode cJ9_floorMod_7cf53 18 = .ok (.iload_n 2, 1) := dgq (p := 1) daJ9_floorMod_7cf53_17 dbJ9_floorMod_7cf53_17.2.1
theorem dJ9_floorMod_7cf53_19 : decode cJ9_floorMod_7cf53 19 = .ok (.ireturn, 1) := dgq (p := 2) daJ9_floorMod_7cf53_17 dbJ9_floorMod_7cf53_17.2.2
def dsJ9_abs_0f7a4_0 : ByteArray := ⟨#[26, 156, 0, 8, 26, 116, 167, 0, 4, 26, 172]⟩
theorem daJ9_abs_0f7a4_0 : agB cJ9_abs_0f7a4 dsJ9_abs_0f7a4_0 0 := agB_of (n := 11) (by decide +kernel)
theorem dbJ9_abs_0f7a4_0 : (decode dsJ9_abs_0f7a4_0 0 = .ok (.iload_n 0, 1) ∧ okop dsJ9_abs_0f7a4_0 0 = true) ∧ (decode dsJ9_abs_0f7a4_0 1 = .ok (.ifCond .ge 8, 3) ∧ okop dsJ9_abs_0f7a4_0 1 = true) ∧ (decode dsJ9_abs_0f7a4_0 4 = .ok (.iload_n 0, 1) ∧ okop dsJ9_abs_0f7a4_0 4 = true) ∧ (decode dsJ9_abs_0f7a4_0 5 = .ok (.ineg, 1) ∧ okop dsJ9_abs_0f7a4_0 5 = true) ∧ (decode dsJ9_abs_0f7a4_0 6 = .ok (.goto 4, 3) ∧ okop dsJ9_abs_0f7a4_0 6 = true) ∧ (decode dsJ9_abs_0f7a4_0 9 = .ok (.iload_n 0, 1) ∧ okop dsJ9_abs_0f7a4_0 9 = true) ∧ (decode dsJ9_abs_0f7a4_0 10 = .ok (.ireturn, 1) ∧ okop dsJ9_abs_0f7a4_0 10 = true) := by decide +kernel
theorem dJ9_abs_0f7a4_0 : decode cJ9_abs_0f7a4 0 = .ok (.iload_n 0, 1) := dgq (p := 0) daJ9_abs_0f7a4_0 dbJ9_abs_0f7a4_0.1
theorem dJ9_abs_0f7a4_1 : decode cJ9_abs_0f7a4 1 = .ok (.ifCond .ge 8, 3) := dgq (p := 1) daJ9_abs_0f7a4_0 dbJ9_abs_0f7a4_0.2.1
theorem dJ9_abs_0f7a4_4 : decode cJ9_abs_0f7a4 4 = .ok (.iload_n 0, 1) := dgq (p := 4) daJ9_abs_0f7a4_0 dbJ9_abs_0f7a4_0.2.2.1
theorem dJ9_abs_0f7a4_5 : decode cJ9_abs_0f7a4 5 = .ok (.ineg, 1) := dgq (p := 5) daJ9_abs_0f7a4_0 dbJ9_abs_0f7a4_0.2.2.2.1
theorem dJ9_abs_0f7a4_6 : decode cJ9_abs_0f7a4 6 = .ok (.goto 4, 3) := dgq (p := 6) daJ9_abs_0f7a4_0 dbJ9_abs_0f7a4_0.2.2.2.2.1
theorem dJ9_abs_0f7a4_9 : decode cJ9_abs_0f7a4 9 = .ok (.iload_n 0, 1) := dgq (p := 9) daJ9_abs_0f7a4_0 dbJ9_abs_0f7a4_0.2.2.2.2.2.1
theorem dJ9_abs_0f7a4_10 : decode cJ9_abs_0f7a4 10 = .ok (.ireturn, 1) := dgq (p := 10) daJ9_abs_0f7a4_0 dbJ9_abs_0f7a4_0.2.2.2.2.2.2
def dsJ9_abs_067f4_0 : ByteArray := ⟨#[30, 9, 148, 156, 0, 8, 30, 117, 167, 0, 4, 30, 173]⟩
theorem daJ9_abs_067f4_0 : agB cJ9_abs_067f4 dsJ9_abs_067f4_0 0 := agB_of (n := 13) (by decide +kernel)
theorem dbJ9_abs_067f4_0 : (decode dsJ9_abs_067f4_0 0 = .ok (.lload_n 0, 1) ∧ okop dsJ9_abs_067f4_0 0 = true) ∧ (decode dsJ9_abs_067f4_0 1 = .ok (.lconst 0, 1) ∧ okop dsJ9_abs_067f4_0 1 = true) ∧ (decode dsJ9_abs_067f4_0 2 = .ok (.lcmp, 1) ∧ okop dsJ9_abs_067f4_0 2 = true) ∧ (decode dsJ9_abs_067f4_0 3 = .ok (.ifCond .ge 8, 3) ∧ okop dsJ9_abs_067f4_0 3 = true) ∧ (decode dsJ9_abs_067f4_0 6 = .ok (.lload_n 0, 1) ∧ okop dsJ9_abs_067f4_0 6 = true) ∧ (decode dsJ9_abs_067f4_0 7 = .ok (.lneg, 1) ∧ okop dsJ9_abs_067f4_0 7 = true) ∧ (decode dsJ9_abs_067f4_0 8 = .ok (.goto 4, 3) ∧ okop dsJ9_abs_067f4_0 8 = true) ∧ (decode dsJ9_abs_067f4_0 11 = .ok (.lload_n 0, 1) ∧ okop dsJ9_abs_067f4_0 11 = true) ∧ (decode dsJ9_abs_067f4_0 12 = .ok (.lreturn, 1) ∧ okop dsJ9_abs_067f4_0 12 = true) := by decide +kernel
theorem dJ9_abs_067f4_0 : decode cJ9_abs_067f4 0 = .ok (.lload_n 0, 1) := dgq (p := 0) daJ9_abs_067f4_0 dbJ9_abs_067f4_0.1
theorem dJ9_abs_067f4_1 : decode cJ9_abs_067f4 1 = .ok (.lconst 0, 1) := dgq (p := 1) daJ9_abs_067f4_0 dbJ9_abs_067f4_0.2.1
theorem dJ9_abs_067f4_2 : decode cJ9_abs_067f4 2 = .ok (.lcmp, 1) := dgq (p := 2) daJ9_abs_067f4_0 dbJ9_abs_067f4_0.2.2.1
theorem dJ9_abs_067f4_3 : decode cJ9_abs_067f4 3 = .ok (.ifCond .ge 8, 3) := dgq (p := 3) daJ9_abs_067f4_0 dbJ9_abs_067f4_0.2.2.2.1
theorem dJ9_abs_067f4_6 : decode cJ9_abs_067f4 6 = .ok (.lload_n 0, 1) := dgq (p := 6) daJ9_abs_067f4_0 dbJ9_abs_067f4_0.2.2.2.2.1
theorem dJ9_abs_067f4_7 : decode cJ9_abs_067f4 7 = .ok (.lneg, 1) := dgq (p := 7) daJ9_abs_067f4_0 dbJ9_abs_067f4_0.2.2.2.2.2.1
theorem dJ9_abs_067f4_8 : decode cJ9_abs_067f4 8 = .ok (.goto 4, 3) := dgq (p := 8) daJ9_abs_067f4_0 dbJ9_abs_067f4_0.2.2.2.2.2.2.1
theorem dJ9_abs_067f4_11 : decode cJ9_abs_067f4 11 = .ok (.lload_n 0, 1) := dgq (p := 11) daJ9_abs_067f4_0 dbJ9_abs_067f4_0.2.2.2.2.2.2.2.1
theorem dJ9_abs_067f4_12 : decode cJ9_abs_067f4 12 = .ok (.lreturn, 1) := dgq (p := 12) daJ9_abs_067f4_0 dbJ9_abs_067f4_0.2.2.2.2.2.2.2.2
def dsJ9_max_7cf53_0 : ByteArray := ⟨#[26, 27, 161, 0, 7, 26, 167, 0, 4, 27, 172]⟩
theorem daJ9_max_7cf53_0 : agB cJ9_max_7cf53 dsJ9_max_7cf53_0 0 := agB_of (n := 11) (by decide +kernel)
theorem dbJ9_max_7cf53_0 : (decode dsJ9_max_7cf53_0 0 = .ok (.iload_n 0, 1) ∧ okop dsJ9_max_7cf53_0 0 = true) ∧ (decode dsJ9_max_7cf53_0 1 = .ok (.iload_n 1, 1) ∧ okop dsJ9_max_7cf53_0 1 = true) ∧ (decode dsJ9_max_7cf53_0 2 = .ok (.if_icmp .lt 7, 3) ∧ okop dsJ9_max_7cf53_0 2 = true) ∧ (decode dsJ9_max_7cf53_0 5 = .ok (.iload_n 0, 1) ∧ okop dsJ9_max_7cf53_0 5 = true) ∧ (decode dsJ9_max_7cf53_0 6 = .ok (.goto 4, 3) ∧ okop dsJ9_max_7cf53_0 6 = true) ∧ (decode dsJ9_max_7cf53_0 9 = .ok (.iload_n 1, 1) ∧ okop dsJ9_max_7cf53_0 9 = true) ∧ (decode dsJ9_max_7cf53_0 10 = .ok (.ireturn, 1) ∧ okop dsJ9_max_7cf53_0 10 = true) := by decide +kernel
theorem dJ9_max_7cf53_0 : decode cJ9_max_7cf53 0 = .ok (.iload_n 0, 1) := dgq (p := 0) daJ9_max_7cf53_0 dbJ9_max_7cf53_0.1
theorem dJ9_max_7cf53_1 : decode cJ9_max_7cf53 1 = .ok (.iload_n 1, 1) := dgq (p := 1) daJ9_max_7cf53_0 dbJ9_max_7cf53_0.2.1
theorem dJ9_max_7cf53_2 : decode cJ9_max_7cf53 2 = .ok (.if_icmp .lt 7, 3) := dgq (p := 2) daJ9_max_7cf53_0 dbJ9_max_7cf53_0.2.2.1
theorem dJ9_max_7cf53_5 : decode cJ9_max_7cf53 5 = .ok (.iload_n 0, 1) := dgq (p := 5) daJ9_max_7cf53_0 dbJ9_max_7cf53_0.2.2.2.1
theorem dJ9_max_7cf53_6 : decode cJ9_max_7cf53 6 = .ok (.goto 4, 3) := dgq (p := 6) daJ9_max_7cf53_0 dbJ9_max_7cf53_0.2.2.2.2.1
theorem dJ9_max_7cf53_9 : decode cJ9_max_7cf53 9 = .ok (.iload_n 1, 1) := dgq (p := 9) daJ9_max_7cf53_0 dbJ9_max_7cf53_0.2.2.2.2.2.1
theorem dJ9_max_7cf53_10 : decode cJ9_max_7cf53 10 = .ok (.ireturn, 1) := dgq (p := 10) daJ9_max_7cf53_0 dbJ9_max_7cf53_0.2.2.2.2.2.2
def dsJ9_max_f86c9_0 : ByteArray := ⟨#[30, 32, 148, 155, 0, 7, 30, 167, 0, 4, 32, 173]⟩
theorem daJ9_max_f86c9_0 : agB cJ9_max_f86c9 dsJ9_max_f86c9_0 0 := agB_of (n := 12) (by decide +kernel)
theorem dbJ9_max_f86c9_0 : (decode dsJ9_max_f86c9_0 0 = .ok (.lload_n 0, 1) ∧ okop dsJ9_max_f86c9_0 0 = true) ∧ (decode dsJ9_max_f86c9_0 1 = .ok (.lload_n 2, 1) ∧ okop dsJ9_max_f86c9_0 1 = true) ∧ (decode dsJ9_max_f86c9_0 2 = .ok (.lcmp, 1) ∧ okop dsJ9_max_f86c9_0 2 = true) ∧ (decode dsJ9_max_f86c9_0 3 = .ok (.ifCond .lt 7, 3) ∧ okop dsJ9_max_f86c9_0 3 = true) ∧ (decode dsJ9_max_f86c9_0 6 = .ok (.lload_n 0, 1) ∧ okop dsJ9_max_f86c9_0 6 = true) ∧ (decode dsJ9_max_f86c9_0 7 = .ok (.goto 4, 3) ∧ okop dsJ9_max_f86c9_0 7 = true) ∧ (decode dsJ9_max_f86c9_0 10 = .ok (.lload_n 2, 1) ∧ okop dsJ9_max_f86c9_0 10 = true) ∧ (decode dsJ9_max_f86c9_0 11 = .ok (.lreturn, 1) ∧ okop dsJ9_max_f86c9_0 11 = true) := by decide +kernel
theorem dJ9_max_f86c9_0 : decode cJ9_max_f86c9 0 = .ok (.lload_n 0, 1) := dgq (p := 0) daJ9_max_f86c9_0 dbJ9_max_f86c9_0.1
theorem dJ9_max_f86c9_1 : decode cJ9_max_f86c9 1 = .ok (.lload_n 2, 1) := dgq (p := 1) daJ9_max_f86c9_0 dbJ9_max_f86c9_0.2.1
theorem dJ9_max_f86c9_2 : decode cJ9_max_f86c9 2 = .ok (.lcmp, 1) := dgq (p := 2) daJ9_max_f86c9_0 dbJ9_max_f86c9_0.2.2.1
theorem dJ9_max_f86c9_3 : decode cJ9_max_f86c9 3 = .ok (.ifCond .lt 7, 3) := dgq (p := 3) daJ9_max_f86c9_0 dbJ9_max_f86c9_0.2.2.2.1
theorem dJ9_max_f86c9_6 : decode cJ9_max_f86c9 6 = .ok (.lload_n 0, 1) := dgq (p := 6) daJ9_max_f86c9_0 dbJ9_max_f86c9_0.2.2.2.2.1
theorem dJ9_max_f86c9_7 : decode cJ9_max_f86c9 7 = .ok (.goto 4, 3) := dgq (p := 7) daJ9_max_f86c9_0 dbJ9_max_f86c9_0.2.2.2.2.2.1
theorem dJ9_max_f86c9_10 : decode cJ9_max_f86c9 10 = .ok (.lload_n 2, 1) := dgq (p := 10) daJ9_max_f86c9_0 dbJ9_max_f86c9_0.2.2.2.2.2.2.1
theorem dJ9_max_f86c9_11 : decode cJ9_max_f86c9 11 = .ok (.lreturn, 1) := dgq (p := 11) daJ9_max_f86c9_0 dbJ9_max_f86c9_0.2.2.2.2.2.2.2
def dsJ9_min_7cf53_0 : ByteArray := ⟨#[26, 27, 163, 0, 7, 26, 167, 0, 4, 27, 172]⟩
theorem daJ9_min_7cf53_0 : agB cJ9_min_7cf53 dsJ9_min_7cf53_0 0 := agB_of (n := 11) (by decide +kernel)
theorem dbJ9_min_7cf53_0 : (decode dsJ9_min_7cf53_0 0 = .ok (.iload_n 0, 1) ∧ okop dsJ9_min_7cf53_0 0 = true) ∧ (decode dsJ9_min_7cf53_0 1 = .ok (.iload_n 1, 1) ∧ okop dsJ9_min_7cf53_0 1 = true) ∧ (decode dsJ9_min_7cf53_0 2 = .ok (.if_icmp .gt 7, 3) ∧ okop dsJ9_min_7cf53_0 2 = true) ∧ (decode dsJ9_min_7cf53_0 5 = .ok (.iload_n 0, 1) ∧ okop dsJ9_min_7cf53_0 5 = true) ∧ (decode dsJ9_min_7cf53_0 6 = .ok (.goto 4, 3) ∧ okop dsJ9_min_7cf53_0 6 = true) ∧ (decode dsJ9_min_7cf53_0 9 = .ok (.iload_n 1, 1) ∧ okop dsJ9_min_7cf53_0 9 = true) ∧ (decode dsJ9_min_7cf53_0 10 = .ok (.ireturn, 1) ∧ okop dsJ9_min_7cf53_0 10 = true) := by decide +kernel
theorem dJ9_min_7cf53_0 : decode cJ9_min_7cf53 0 = .ok (.iload_n 0, 1) := dgq (p := 0) daJ9_min_7cf53_0 dbJ9_min_7cf53_0.1
theorem dJ9_min_7cf53_1 : decode cJ9_min_7cf53 1 = .ok (.iload_n 1, 1) := dgq (p := 1) daJ9_min_7cf53_0 dbJ9_min_7cf53_0.2.1
theorem dJ9_min_7cf53_2 : decode cJ9_min_7cf53 2 = .ok (.if_icmp .gt 7, 3) := dgq (p := 2) daJ9_min_7cf53_0 dbJ9_min_7cf53_0.2.2.1
theorem dJ9_min_7cf53_5 : decode cJ9_min_7cf53 5 = .ok (.iload_n 0, 1) := dgq (p := 5) daJ9_min_7cf53_0 dbJ9_min_7cf53_0.2.2.2.1
theorem dJ9_min_7cf53_6 : decode cJ9_min_7cf53 6 = .ok (.goto 4, 3) := dgq (p := 6) daJ9_min_7cf53_0 dbJ9_min_7cf53_0.2.2.2.2.1
theorem dJ9_min_7cf53_9 : decode cJ9_min_7cf53 9 = .ok (.iload_n 1, 1) := dgq (p := 9) daJ9_min_7cf53_0 dbJ9_min_7cf53_0.2.2.2.2.2.1
theorem dJ9_min_7cf53_10 : decode cJ9_min_7cf53 10 = .ok (.ireturn, 1) := dgq (p := 10) daJ9_min_7cf53_0 dbJ9_min_7cf53_0.2.2.2.2.2.2
def dsJ9_min_f86c9_0 : ByteArray := ⟨#[30, 32, 148, 157, 0, 7, 30, 167, 0, 4, 32, 173]⟩
theorem daJ9_min_f86c9_0 : agB cJ9_min_f86c9 dsJ9_min_f86c9_0 0 := agB_of (n := 12) (by decide +kernel)
theorem dbJ9_min_f86c9_0 : (decode dsJ9_min_f86c9_0 0 = .ok (.lload_n 0, 1) ∧ okop dsJ9_min_f86c9_0 0 = true) ∧ (decode dsJ9_min_f86c9_0 1 = .ok (.lload_n 2, 1) ∧ okop dsJ9_min_f86c9_0 1 = true) ∧ (decode dsJ9_min_f86c9_0 2 = .ok (.lcmp, 1) ∧ okop dsJ9_min_f86c9_0 2 = true) ∧ (decode dsJ9_min_f86c9_0 3 = .ok (.ifCond .gt 7, 3) ∧ okop dsJ9_min_f86c9_0 3 = true) ∧ (decode dsJ9_min_f86c9_0 6 = .ok (.lload_n 0, 1) ∧ okop dsJ9_min_f86c9_0 6 = true) ∧ (decode dsJ9_min_f86c9_0 7 = .ok (.goto 4, 3) ∧ okop dsJ9_min_f86c9_0 7 = true) ∧ (decode dsJ9_min_f86c9_0 10 = .ok (.lload_n 2, 1) ∧ okop dsJ9_min_f86c9_0 10 = true) ∧ (decode dsJ9_min_f86c9_0 11 = .ok (.lreturn, 1) ∧ okop dsJ9_min_f86c9_0 11 = true) := by decide +kernel
theorem dJ9_min_f86c9_0 : decode cJ9_min_f86c9 0 = .ok (.lload_n 0, 1) := dgq (p := 0) daJ9_min_f86c9_0 dbJ9_min_f86c9_0.1
theorem dJ9_min_f86c9_1 : decode cJ9_min_f86c9 1 = .ok (.lload_n 2, 1) := dgq (p := 1) daJ9_min_f86c9_0 dbJ9_min_f86c9_0.2.1
theorem dJ9_min_f86c9_2 : decode cJ9_min_f86c9 2 = .ok (.lcmp, 1) := dgq (p := 2) daJ9_min_f86c9_0 dbJ9_min_f86c9_0.2.2.1
theorem dJ9_min_f86c9_3 : decode cJ9_min_f86c9 3 = .ok (.ifCond .gt 7, 3) := dgq (p := 3) daJ9_min_f86c9_0 dbJ9_min_f86c9_0.2.2.2.1
theorem dJ9_min_f86c9_6 : decode cJ9_min_f86c9 6 = .ok (.lload_n 0, 1) := dgq (p := 6) daJ9_min_f86c9_0 dbJ9_min_f86c9_0.2.2.2.2.1
theorem dJ9_min_f86c9_7 : decode cJ9_min_f86c9 7 = .ok (.goto 4, 3) := dgq (p := 7) daJ9_min_f86c9_0 dbJ9_min_f86c9_0.2.2.2.2.2.1
theorem dJ9_min_f86c9_10 : decode cJ9_min_f86c9 10 = .ok (.lload_n 2, 1) := dgq (p := 10) daJ9_min_f86c9_0 dbJ9_min_f86c9_0.2.2.2.2.2.2.1
theorem dJ9_min_f86c9_11 : decode cJ9_min_f86c9 11 = .ok (.lreturn, 1) := dgq (p := 11) daJ9_min_f86c9_0 dbJ9_min_f86c9_0.2.2.2.2.2.2.2
set_option maxRecDepth 20000 in
theorem ggJ0_checkIndex_df160_J3_checkIndex_8e157 : GoodIn wsJ0_checkIndex_df160 wsJ3_checkIndex_8e157 := goodIn_q _ [5] rfl (by decide +kernel)
set_option maxRecDepth 20000 in
theorem gJ0_checkIndex_df160_J3_checkIndex_8e157 : GoodIn wsJ0_checkIndex_df160 (va_wsS RJ0 1059 yJ3_checkIndex_8e157 wsJ3_checkIndex_8e157) := goodIn_app (goodIn_q _ [2, 3, 4] rfl (by decide +kernel)) ggJ0_checkIndex_df160_J3_checkIndex_8e157
def dsJ0_checkIndex_df160_0 : ByteArray := ⟨#[26, 27, 178, 4, 29, 184, 4, 35, 87, 177]⟩
theorem daJ0_checkIndex_df160_0 : agB cJ0_checkIndex_df160 dsJ0_checkIndex_df160_0 0 := agB_of (n := 10) (by decide +kernel)
theorem dbJ0_checkIndex_df160_0 : (decode dsJ0_checkIndex_df160_0 0 = .ok (.iload_n 0, 1) ∧ okop dsJ0_checkIndex_df160_0 0 = true) ∧ (decode dsJ0_checkIndex_df160_0 1 = .ok (.iload_n 1, 1) ∧ okop dsJ0_checkIndex_df160_0 1 = true) ∧ (decode dsJ0_checkIndex_df160_0 2 = .ok (.getstatic 1053, 3) ∧ okop dsJ0_checkIndex_df160_0 2 = true) ∧ (decode dsJ0_checkIndex_df160_0 5 = .ok (.invokestatic 1059, 3) ∧ okop dsJ0_checkIndex_df160_0 5 = true) ∧ (decode dsJ0_checkIndex_df160_0 8 = .ok (.pop, 1) ∧ okop dsJ0_checkIndex_df160_0 8 = true) ∧ (decode dsJ0_checkIndex_df160_0 9 = .ok (.return_, 1) ∧ okop dsJ0_checkIndex_df160_0 9 = true) := by decide +kernel
theorem dJ0_checkIndex_df160_0 : decode cJ0_checkIndex_df160 0 = .ok (.iload_n 0, 1) := dgq (p := 0) daJ0_checkIndex_df160_0 dbJ0_checkIndex_df160_0.1
theorem dJ0_checkIndex_df160_1 : decode cJ0_checkIndex_df160 1 = .ok (.iload_n 1, 1) := dgq (p := 1) daJ0_checkIndex_df160_0 dbJ0_checkIndex_df160_0.2.1
theorem dJ0_checkIndex_df160_2 : decode cJ0_checkIndex_df160 2 = .ok (.getstatic 1053, 3) := dgq (p := 2) daJ0_checkIndex_df160_0 dbJ0_checkIndex_df160_0.2.2.1
theorem dJ0_checkIndex_df160_5 : decode cJ0_checkIndex_df160 5 = .ok (.invokestatic 1059, 3) := dgq (p := 5) daJ0_checkIndex_df160_0 dbJ0_checkIndex_df160_0.2.2.2.1
theorem dJ0_checkIndex_df160_8 : decode cJ0_checkIndex_df160 8 = .ok (.pop, 1) := dgq (p := 8) daJ0_checkIndex_df160_0 dbJ0_checkIndex_df160_0.2.2.2.2.1
theorem dJ0_checkIndex_df160_9 : decode cJ0_checkIndex_df160 9 = .ok (.return_, 1) := dgq (p := 9) daJ0_checkIndex_df160_0 dbJ0_checkIndex_df160_0.2.2.2.2.2
set_option maxRecDepth 20000 in
theorem ggJ0_checkBoundsOffCount_cabcc_J3_checkFromIndexSize_8c36e : GoodIn wsJ0_checkBoundsOffCount_cabcc wsJ3_checkFromIndexSize_8c36e := goodIn_q _ [5] rfl (by decide +kernel)
set_option maxRecDepth 20000 in
theorem gJ0_checkBoundsOffCount_cabcc_J3_checkFromIndexSize_8c36e : GoodIn wsJ0_checkBoundsOffCount_cabcc (va_wsS RJ0 1065 yJ3_checkFromIndexSize_8c36e wsJ3_checkFromIndexSize_8c36e) := goodIn_app (goodIn_q _ [2, 3, 4] rfl (by decide +kernel)) ggJ0_checkBoundsOffCount_cabcc_J3_checkFromIndexSize_8c36e
def dsJ0_checkBoundsOffCount_cabcc_0 : ByteArray := ⟨#[26, 27, 28, 178, 4, 29, 184, 4, 41, 172]⟩
theorem daJ0_checkBoundsOffCount_cabcc_0 : agB cJ0_checkBoundsOffCount_cabcc dsJ0_checkBoundsOffCount_cabcc_0 0 := agB_of (n := 10) (by decide +kernel)
theorem dbJ0_checkBoundsOffCount_cabcc_0 : (decode dsJ0_checkBoundsOffCount_cabcc_0 0 = .ok (.iload_n 0, 1) ∧ okop dsJ0_checkBoundsOffCount_cabcc_0 0 = true) ∧ (decode dsJ0_checkBoundsOffCount_cabcc_0 1 = .ok (.iload_n 1, 1) ∧ okop dsJ0_checkBoundsOffCount_cabcc_0 1 = true) ∧ (decode dsJ0_checkBoundsOffCount_cabcc_0 2 = .ok (.iload_n 2, 1) ∧ okop dsJ0_checkBoundsOffCount_cabcc_0 2 = true) ∧ (decode dsJ0_checkBoundsOffCount_cabcc_0 3 = .ok (.getstatic 1053, 3) ∧ okop dsJ0_checkBoundsOffCount_cabcc_0 3 = true) ∧ (decode dsJ0_checkBoundsOffCount_cabcc_0 6 = .ok (.invokestatic 1065, 3) ∧ okop dsJ0_checkBoundsOffCount_cabcc_0 6 = true) ∧ (decode dsJ0_checkBoundsOffCount_cabcc_0 9 = .ok (.ireturn, 1) ∧ okop dsJ0_checkBoundsOffCount_cabcc_0 9 = true) := by decide +kernel
theorem dJ0_checkBoundsOffCount_cabcc_0 : decode cJ0_checkBoundsOffCount_cabcc 0 = .ok (.iload_n 0, 1) := dgq (p := 0) daJ0_checkBoundsOffCount_cabcc_0 dbJ0_checkBoundsOffCount_cabcc_0.1
theorem dJ0_checkBoundsOffCount_cabcc_1 : decode cJ0_checkBoundsOffCount_cabcc 1 = .ok (.iload_n 1, 1) := dgq (p := 1) daJ0_checkBoundsOffCount_cabcc_0 dbJ0_checkBoundsOffCount_cabcc_0.2.1
theorem dJ0_checkBoundsOffCount_cabcc_2 : decode cJ0_checkBoundsOffCount_cabcc 2 = .ok (.iload_n 2, 1) := dgq (p := 2) daJ0_checkBoundsOffCount_cabcc_0 dbJ0_checkBoundsOffCount_cabcc_0.2.2.1
theorem dJ0_checkBoundsOffCount_cabcc_3 : decode cJ0_checkBoundsOffCount_cabcc 3 = .ok (.getstatic 1053, 3) := dgq (p := 3) daJ0_checkBoundsOffCount_cabcc_0 dbJ0_checkBoundsOffCount_cabcc_0.2.2.2.1
theorem dJ0_checkBoundsOffCount_cabcc_6 : decode cJ0_checkBoundsOffCount_cabcc 6 = .ok (.invokestatic 1065, 3) := dgq (p := 6) daJ0_checkBoundsOffCount_cabcc_0 dbJ0_checkBoundsOffCount_cabcc_0.2.2.2.2.1
theorem dJ0_checkBoundsOffCount_cabcc_9 : decode cJ0_checkBoundsOffCount_cabcc 9 = .ok (.ireturn, 1) := dgq (p := 9) daJ0_checkBoundsOffCount_cabcc_0 dbJ0_checkBoundsOffCount_cabcc_0.2.2.2.2.2
set_option maxRecDepth 20000 in
theorem ggJ4_init_da8c8_J5_init_d00df : GoodIn wsJ4_init_da8c8 wsJ5_init_d00df := goodIn_ca (goodIn_q _ [4, 5, 6, 7, 8, 9, 10, 11, 12, 13, 14, 15, 16, 17, 18, 19] rfl (by decide +kernel)) (goodIn_sub (fun _ h => (List.mem_cons_of_mem _ (List.mem_append_right _ h))) tg_wsJ40)
set_option maxRecDepth 20000 in
theorem gJ4_init_da8c8_J5_init_d00df : GoodIn wsJ4_init_da8c8 (wsJ5_init_d00df) := ggJ4_init_da8c8_J5_init_d00df
def dsJ4_init_da8c8_0 : ByteArray := ⟨#[42, 16, 16, 183, 0, 1, 177]⟩
theorem daJ4_init_da8c8_0 : agB cJ4_init_da8c8 dsJ4_init_da8c8_0 0 := agB_of (n := 7) (by decide +kernel)
theorem dbJ4_init_da8c8_0 : (decode dsJ4_init_da8c8_0 0 = .ok (.aload_n 0, 1) ∧ okop dsJ4_init_da8c8_0 0 = true) ∧ (decode dsJ4_init_da8c8_0 1 = .ok (.bipush 16, 2) ∧ okop dsJ4_init_da8c8_0 1 = true) ∧ (decode dsJ4_init_da8c8_0 3 = .ok (.invokespecial 1, 3) ∧ okop dsJ4_init_da8c8_0 3 = true) ∧ (decode dsJ4_init_da8c8_0 6 = .ok (.return_, 1) ∧ okop dsJ4_init_da8c8_0 6 = true) := by decide +kernel
theorem dJ4_init_da8c8_0 : decode cJ4_init_da8c8 0 = .ok (.aload_n 0, 1) := dgq (p := 0) daJ4_init_da8c8_0 dbJ4_init_da8c8_0.1
theorem dJ4_init_da8c8_1 : decode cJ4_init_da8c8 1 = .ok (.bipush 16, 2) := dgq (p := 1) daJ4_init_da8c8_0 dbJ4_init_da8c8_0.2.1
theorem dJ4_init_da8c8_3 : decode cJ4_init_da8c8 3 = .ok (.invokespecial 1, 3) := dgq (p := 3) daJ4_init_da8c8_0 dbJ4_init_da8c8_0.2.2.1
theorem dJ4_init_da8c8_6 : decode cJ4_init_da8c8 6 = .ok (.return_, 1) := dgq (p := 6) daJ4_init_da8c8_0 dbJ4_init_da8c8_0.2.2.2
set_option maxRecDepth 20000 in
theorem ggJ4_append_cf468_J5_append_3fe6f : GoodIn wsJ4_append_cf468 wsJ5_append_3fe6f := goodIn_ca (goodIn_q _ [6, 7, 8, 9, 10, 11, 12, 5, 13, 14, 15, 16, 17, 18, 19, 20, 21, 22, 23, 24, 25, 26, 27, 28, 29, 30, 31, 32, 33, 34, 35, 36, 37, 38, 39, 40, 41, 42, 43, 44, 45, 46, 47, 48, 49, 50, 51, 52, 53, 54, 55, 56, 57, 58, 59, 60, 61, 62, 63, 64, 65, 66, 67, 68, 69, 70, 71, 72, 73, 74, 75, 76, 77, 78, 79, 80, 81, 82, 83, 84, 85, 86, 87, 88, 89, 90, 91, 92, 93, 94, 95, 96, 97, 98, 99, 100, 101, 102, 103, 104, 105, 106, 107, 108, 109, 110, 111, 112] rfl (by decide +kernel)) (goodIn_sub (fun _ h => (List.mem_cons_of_mem _ (List.mem_append_right _ h))) tg_wsJ40)
set_option maxRecDepth 20000 in
theorem gJ4_append_cf468_J5_append_3fe6f_s50 : GoodIn wsJ4_append_cf468 (va_wsSU RJ4 50 yJ5_append_3fe6f wsJ5_append_3fe6f) := goodIn_app (goodIn_of _ (by decide +kernel)) ggJ4_append_cf468_J5_append_3fe6f
def dsJ4_append_cf468_0 : ByteArray := ⟨#[42, 27, 183, 0, 50, 87, 42, 176]⟩
theorem daJ4_append_cf468_0 : agB cJ4_append_cf468 dsJ4_append_cf468_0 0 := agB_of (n := 8) (by decide +kernel)
theorem dbJ4_append_cf468_0 : (decode dsJ4_append_cf468_0 0 = .ok (.aload_n 0, 1) ∧ okop dsJ4_append_cf468_0 0 = true) ∧ (decode dsJ4_append_cf468_0 1 = .ok (.iload_n 1, 1) ∧ okop dsJ4_append_cf468_0 1 = true) ∧ (decode dsJ4_append_cf468_0 2 = .ok (.invokespecial 50, 3) ∧ okop dsJ4_append_cf468_0 2 = true) ∧ (decode dsJ4_append_cf468_0 5 = .ok (.pop, 1) ∧ okop dsJ4_append_cf468_0 5 = true) ∧ (decode dsJ4_append_cf468_0 6 = .ok (.aload_n 0, 1) ∧ okop dsJ4_append_cf468_0 6 = true) ∧ (decode dsJ4_append_cf468_0 7 = .ok (.areturn, 1) ∧ okop dsJ4_append_cf468_0 7 = true) := by decide +kernel
theorem dJ4_append_cf468_0 : decode cJ4_append_cf468 0 = .ok (.aload_n 0, 1) := dgq (p := 0) daJ4_append_cf468_0 dbJ4_append_cf468_0.1
theorem dJ4_append_cf468_1 : decode cJ4_append_cf468 1 = .ok (.iload_n 1, 1) := dgq (p := 1) daJ4_append_cf468_0 dbJ4_append_cf468_0.2.1
theorem dJ4_append_cf468_2 : decode cJ4_append_cf468 2 = .ok (.invokespecial 50, 3) := dgq (p := 2) daJ4_append_cf468_0 dbJ4_append_cf468_0.2.2.1
theorem dJ4_append_cf468_5 : decode cJ4_append_cf468 5 = .ok (.pop, 1) := dgq (p := 5) daJ4_append_cf468_0 dbJ4_append_cf468_0.2.2.2.1
theorem dJ4_append_cf468_6 : decode cJ4_append_cf468 6 = .ok (.aload_n 0, 1) := dgq (p := 6) daJ4_append_cf468_0 dbJ4_append_cf468_0.2.2.2.2.1
theorem dJ4_append_cf468_7 : decode cJ4_append_cf468 7 = .ok (.areturn, 1) := dgq (p := 7) daJ4_append_cf468_0 dbJ4_append_cf468_0.2.2.2.2.2
set_option maxRecDepth 20000 in
theorem ggJ4_charAt_5068e_J5_charAt_5068e : GoodIn wsJ4_charAt_5068e wsJ5_charAt_5068e := goodIn_ca (goodIn_q _ [6, 7, 8, 9, 10, 11, 12, 13, 14, 15, 16, 17, 18, 19, 20, 21, 22, 23, 24, 25, 26, 27, 28, 29, 30, 31, 32] rfl (by decide +kernel)) (goodIn_sub (fun _ h => (List.mem_cons_of_mem _ (List.mem_append_right _ h))) tg_wsJ40)
set_option maxRecDepth 20000 in
theorem gJ4_charAt_5068e_J5_charAt_5068e_s329 : GoodIn wsJ4_charAt_5068e (va_wsSU RJ4 329 yJ5_charAt_5068e wsJ5_charAt_5068e) := goodIn_app (goodIn_of _ (by decide +kernel)) ggJ4_charAt_5068e_J5_charAt_5068e
def dsJ4_charAt_5068e_0 : ByteArray := ⟨#[42, 27, 183, 1, 73, 172]⟩
theorem daJ4_charAt_5068e_0 : agB cJ4_charAt_5068e dsJ4_charAt_5068e_0 0 := agB_of (n := 6) (by decide +kernel)
theorem dbJ4_charAt_5068e_0 : (decode dsJ4_charAt_5068e_0 0 = .ok (.aload_n 0, 1) ∧ okop dsJ4_charAt_5068e_0 0 = true) ∧ (decode dsJ4_charAt_5068e_0 1 = .ok (.iload_n 1, 1) ∧ okop dsJ4_charAt_5068e_0 1 = true) ∧ (decode dsJ4_charAt_5068e_0 2 = .ok (.invokespecial 329, 3) ∧ okop dsJ4_charAt_5068e_0 2 = true) ∧ (decode dsJ4_charAt_5068e_0 5 = .ok (.ireturn, 1) ∧ okop dsJ4_charAt_5068e_0 5 = true) := by decide +kernel
theorem dJ4_charAt_5068e_0 : decode cJ4_charAt_5068e 0 = .ok (.aload_n 0, 1) := dgq (p := 0) daJ4_charAt_5068e_0 dbJ4_charAt_5068e_0.1
theorem dJ4_charAt_5068e_1 : decode cJ4_charAt_5068e 1 = .ok (.iload_n 1, 1) := dgq (p := 1) daJ4_charAt_5068e_0 dbJ4_charAt_5068e_0.2.1
theorem dJ4_charAt_5068e_2 : decode cJ4_charAt_5068e 2 = .ok (.invokespecial 329, 3) := dgq (p := 2) daJ4_charAt_5068e_0 dbJ4_charAt_5068e_0.2.2.1
theorem dJ4_charAt_5068e_5 : decode cJ4_charAt_5068e 5 = .ok (.ireturn, 1) := dgq (p := 5) daJ4_charAt_5068e_0 dbJ4_charAt_5068e_0.2.2.2
set_option maxRecDepth 20000 in
theorem ggJ4_length_8abf5_J5_length_8abf5 : GoodIn wsJ4_length_8abf5 wsJ5_length_8abf5 := goodIn_ca (goodIn_q _ [6, 7] rfl (by decide +kernel)) (goodIn_sub (fun _ h => (List.mem_cons_of_mem _ (List.mem_append_right _ h))) tg_wsJ40)
set_option maxRecDepth 20000 in
theorem gJ4_length_8abf5_J5_length_8abf5_s343 : GoodIn wsJ4_length_8abf5 (va_wsSU RJ4 343 yJ5_length_8abf5 wsJ5_length_8abf5) := goodIn_app (goodIn_of _ (by decide +kernel)) ggJ4_length_8abf5_J5_length_8abf5
def dsJ4_length_8abf5_0 : ByteArray := ⟨#[42, 183, 1, 87, 172]⟩
theorem daJ4_length_8abf5_0 : agB cJ4_length_8abf5 dsJ4_length_8abf5_0 0 := agB_of (n := 5) (by decide +kernel)
theorem dbJ4_length_8abf5_0 : (decode dsJ4_length_8abf5_0 0 = .ok (.aload_n 0, 1) ∧ okop dsJ4_length_8abf5_0 0 = true) ∧ (decode dsJ4_length_8abf5_0 1 = .ok (.invokespecial 343, 3) ∧ okop dsJ4_length_8abf5_0 1 = true) ∧ (decode dsJ4_length_8abf5_0 4 = .ok (.ireturn, 1) ∧ okop dsJ4_length_8abf5_0 4 = true) := by decide +kernel
theorem dJ4_length_8abf5_0 : decode cJ4_length_8abf5 0 = .ok (.aload_n 0, 1) := dgq (p := 0) daJ4_length_8abf5_0 dbJ4_length_8abf5_0.1
theorem dJ4_length_8abf5_1 : decode cJ4_length_8abf5 1 = .ok (.invokespecial 343, 3) := dgq (p := 1) daJ4_length_8abf5_0 dbJ4_length_8abf5_0.2.1
theorem dJ4_length_8abf5_4 : decode cJ4_length_8abf5 4 = .ok (.ireturn, 1) := dgq (p := 4) daJ4_length_8abf5_0 dbJ4_length_8abf5_0.2.2
def dsJ1_canEncode_fc78d_0 : ByteArray := ⟨#[26, 17, 0, 255, 163, 0, 7, 4, 167, 0, 4, 3, 172]⟩
theorem daJ1_canEncode_fc78d_0 : agB cJ1_canEncode_fc78d dsJ1_canEncode_fc78d_0 0 := agB_of (n := 13) (by decide +kernel)
theorem dbJ1_canEncode_fc78d_0 : (decode dsJ1_canEncode_fc78d_0 0 = .ok (.iload_n 0, 1) ∧ okop dsJ1_canEncode_fc78d_0 0 = true) ∧ (decode dsJ1_canEncode_fc78d_0 1 = .ok (.sipush 255, 3) ∧ okop dsJ1_canEncode_fc78d_0 1 = true) ∧ (decode dsJ1_canEncode_fc78d_0 4 = .ok (.if_icmp .gt 7, 3) ∧ okop dsJ1_canEncode_fc78d_0 4 = true) ∧ (decode dsJ1_canEncode_fc78d_0 7 = .ok (.iconst 1, 1) ∧ okop dsJ1_canEncode_fc78d_0 7 = true) ∧ (decode dsJ1_canEncode_fc78d_0 8 = .ok (.goto 4, 3) ∧ okop dsJ1_canEncode_fc78d_0 8 = true) ∧ (decode dsJ1_canEncode_fc78d_0 11 = .ok (.iconst 0, 1) ∧ okop dsJ1_canEncode_fc78d_0 11 = true) ∧ (decode dsJ1_canEncode_fc78d_0 12 = .ok (.ireturn, 1) ∧ okop dsJ1_canEncode_fc78d_0 12 = true) := by decide +kernel
theorem dJ1_canEncode_fc78d_0 : decode cJ1_canEncode_fc78d 0 = .ok (.iload_n 0, 1) := dgq (p := 0) daJ1_canEncode_fc78d_0 dbJ1_canEncode_fc78d_0.1
theorem dJ1_canEncode_fc78d_1 : decode cJ1_canEncode_fc78d 1 = .ok (.sipush 255, 3) := dgq (p := 1) daJ1_canEncode_fc78d_0 dbJ1_canEncode_fc78d_0.2.1
theorem dJ1_canEncode_fc78d_4 : decode cJ1_canEncode_fc78d 4 = .ok (.if_icmp .gt 7, 3) := dgq (p := 4) daJ1_canEncode_fc78d_0 dbJ1_canEncode_fc78d_0.2.2.1
theorem dJ1_canEncode_fc78d_7 : decode cJ1_canEncode_fc78d 7 = .ok (.iconst 1, 1) := dgq (p := 7) daJ1_canEncode_fc78d_0 dbJ1_canEncode_fc78d_0.2.2.2.1
theorem dJ1_canEncode_fc78d_8 : decode cJ1_canEncode_fc78d 8 = .ok (.goto 4, 3) := dgq (p := 8) daJ1_canEncode_fc78d_0 dbJ1_canEncode_fc78d_0.2.2.2.2.1
theorem dJ1_canEncode_fc78d_11 : decode cJ1_canEncode_fc78d 11 = .ok (.iconst 0, 1) := dgq (p := 11) daJ1_canEncode_fc78d_0 dbJ1_canEncode_fc78d_0.2.2.2.2.2.1
theorem dJ1_canEncode_fc78d_12 : decode cJ1_canEncode_fc78d 12 = .ok (.ireturn, 1) := dgq (p := 12) daJ1_canEncode_fc78d_0 dbJ1_canEncode_fc78d_0.2.2.2.2.2.2
set_option maxRecDepth 20000 in
theorem ggJ1_inflate_0e8fd_J2_inflate_0e8fd : GoodIn wsJ1_inflate_0e8fd wsJ2_inflate_0e8fd := goodIn_q _ [4, 5, 6, 3, 7, 8, 9, 10, 11, 12, 13, 14, 15, 16, 17, 18, 19, 20, 21, 22, 23, 24, 25] rfl (by decide +kernel)
set_option maxRecDepth 20000 in
theorem gJ1_inflate_0e8fd_J2_inflate_0e8fd : GoodIn wsJ1_inflate_0e8fd (va_wsS RJ1 240 yJ2_inflate_0e8fd wsJ2_inflate_0e8fd) := goodIn_app (goodIn_q _ [1, 2, 3] rfl (by decide +kernel)) ggJ1_inflate_0e8fd_J2_inflate_0e8fd
def dsJ1_inflate_0e8fd_0 : ByteArray := ⟨#[42, 27, 44, 29, 21, 4, 184, 0, 240, 177]⟩
theorem daJ1_inflate_0e8fd_0 : agB cJ1_inflate_0e8fd dsJ1_inflate_0e8fd_0 0 := agB_of (n := 10) (by decide +kernel)
theorem dbJ1_inflate_0e8fd_0 : (decode dsJ1_inflate_0e8fd_0 0 = .ok (.aload_n 0, 1) ∧ okop dsJ1_inflate_0e8fd_0 0 = true) ∧ (decode dsJ1_inflate_0e8fd_0 1 = .ok (.iload_n 1, 1) ∧ okop dsJ1_inflate_0e8fd_0 1 = true) ∧ (decode dsJ1_inflate_0e8fd_0 2 = .ok (.aload_n 2, 1) ∧ okop dsJ1_inflate_0e8fd_0 2 = true) ∧ (decode dsJ1_inflate_0e8fd_0 3 = .ok (.iload_n 3, 1) ∧ okop dsJ1_inflate_0e8fd_0 3 = true) ∧ (decode dsJ1_inflate_0e8fd_0 4 = .ok (.iload 4, 2) ∧ okop dsJ1_inflate_0e8fd_0 4 = true) ∧ (decode dsJ1_inflate_0e8fd_0 6 = .ok (.invokestatic 240, 3) ∧ okop dsJ1_inflate_0e8fd_0 6 = true) ∧ (decode dsJ1_inflate_0e8fd_0 9 = .ok (.return_, 1) ∧ okop dsJ1_inflate_0e8fd_0 9 = true) := by decide +kernel
theorem dJ1_inflate_0e8fd_0 : decode cJ1_inflate_0e8fd 0 = .ok (.aload_n 0, 1) := dgq (p := 0) daJ1_inflate_0e8fd_0 dbJ1_inflate_0e8fd_0.1
theorem dJ1_inflate_0e8fd_1 : decode cJ1_inflate_0e8fd 1 = .ok (.iload_n 1, 1) := dgq (p := 1) daJ1_inflate_0e8fd_0 dbJ1_inflate_0e8fd_0.2.1
theorem dJ1_inflate_0e8fd_2 : decode cJ1_inflate_0e8fd 2 = .ok (.aload_n 2, 1) := dgq (p := 2) daJ1_inflate_0e8fd_0 dbJ1_inflate_0e8fd_0.2.2.1
theorem dJ1_inflate_0e8fd_3 : decode cJ1_inflate_0e8fd 3 = .ok (.iload_n 3, 1) := dgq (p := 3) daJ1_inflate_0e8fd_0 dbJ1_inflate_0e8fd_0.2.2.2.1
theorem dJ1_inflate_0e8fd_4 : decode cJ1_inflate_0e8fd 4 = .ok (.iload 4, 2) := dgq (p := 4) daJ1_inflate_0e8fd_0 dbJ1_inflate_0e8fd_0.2.2.2.2.1
theorem dJ1_inflate_0e8fd_6 : decode cJ1_inflate_0e8fd 6 = .ok (.invokestatic 240, 3) := dgq (p := 6) daJ1_inflate_0e8fd_0 dbJ1_inflate_0e8fd_0.2.2.2.2.2.1
theorem dJ1_inflate_0e8fd_9 : decode cJ1_inflate_0e8fd 9 = .ok (.return_, 1) := dgq (p := 9) daJ1_inflate_0e8fd_0 dbJ1_inflate_0e8fd_0.2.2.2.2.2.2
set_option maxRecDepth 20000 in
theorem ggJ2_newBytesFor_77867_J2_newBytesLength_0f7a4 : GoodIn wsJ2_newBytesFor_77867 wsJ2_newBytesLength_0f7a4 := goodIn_q _ [5, 6] rfl (by decide +kernel)
set_option maxRecDepth 20000 in
theorem gJ2_newBytesFor_77867_J2_newBytesLength_0f7a4 : GoodIn wsJ2_newBytesFor_77867 (va_wsS RJ2 11 yJ2_newBytesLength_0f7a4 wsJ2_newBytesLength_0f7a4) := goodIn_app (goodIn_q _ [2, 3, 4] rfl (by decide +kernel)) ggJ2_newBytesFor_77867_J2_newBytesLength_0f7a4
theorem dJ2_newBytesFor_77867_4 : decode cJ2_newBytesFor_77867 4 = .ok (.newarray .byte, 2) := by decide +kernel
def dsJ2_newBytesFor_77867_0 : ByteArray := ⟨#[26, 184, 0, 11, 188, 8, 176]⟩
theorem daJ2_newBytesFor_77867_0 : agB cJ2_newBytesFor_77867 dsJ2_newBytesFor_77867_0 0 := agB_of (n := 7) (by decide +kernel)
theorem dbJ2_newBytesFor_77867_0 : (decode dsJ2_newBytesFor_77867_0 0 = .ok (.iload_n 0, 1) ∧ okop dsJ2_newBytesFor_77867_0 0 = true) ∧ (decode dsJ2_newBytesFor_77867_0 1 = .ok (.invokestatic 11, 3) ∧ okop dsJ2_newBytesFor_77867_0 1 = true) ∧ (decode dsJ2_newBytesFor_77867_0 6 = .ok (.areturn, 1) ∧ okop dsJ2_newBytesFor_77867_0 6 = true) := by decide +kernel
theorem dJ2_newBytesFor_77867_0 : decode cJ2_newBytesFor_77867 0 = .ok (.iload_n 0, 1) := dgq (p := 0) daJ2_newBytesFor_77867_0 dbJ2_newBytesFor_77867_0.1
theorem dJ2_newBytesFor_77867_1 : decode cJ2_newBytesFor_77867 1 = .ok (.invokestatic 11, 3) := dgq (p := 1) daJ2_newBytesFor_77867_0 dbJ2_newBytesFor_77867_0.2.1
theorem dJ2_newBytesFor_77867_6 : decode cJ2_newBytesFor_77867 6 = .ok (.areturn, 1) := dgq (p := 6) daJ2_newBytesFor_77867_0 dbJ2_newBytesFor_77867_0.2.2
def dsJ2_newBytesLength_0f7a4_0 : ByteArray := ⟨#[26, 156, 0, 11, 187, 0, 17, 89, 183, 0, 19, 191, 26, 18, 20, 161, 0, 40, 187, 0, 21]⟩
theorem daJ2_newBytesLength_0f7a4_0 : agB cJ2_newBytesLength_0f7a4 dsJ2_newBytesLength_0f7a4_0 0 := agB_of (n := 21) (by decide +kernel)
theorem dbJ2_newBytesLength_0f7a4_0 : (decode dsJ2_newBytesLength_0f7a4_0 0 = .ok (.iload_n 0, 1) ∧ okop dsJ2_newBytesLength_0f7a4_0 0 = true) ∧ (decode dsJ2_newBytesLength_0f7a4_0 1 = .ok (.ifCond .ge 11, 3) ∧ okop dsJ2_newBytesLength_0f7a4_0 1 = true) ∧ (decode dsJ2_newBytesLength_0f7a4_0 4 = .ok (.new 17, 3) ∧ okop dsJ2_newBytesLength_0f7a4_0 4 = true) ∧ (decode dsJ2_newBytesLength_0f7a4_0 7 = .ok (.dup, 1) ∧ okop dsJ2_newBytesLength_0f7a4_0 7 = true) ∧ (decode dsJ2_newBytesLength_0f7a4_0 8 = .ok (.invokespecial 19, 3) ∧ okop dsJ2_newBytesLength_0f7a4_0 8 = true) ∧ (decode dsJ2_newBytesLength_0f7a4_0 11 = .ok (.athrow, 1) ∧ okop dsJ2_newBytesLength_0f7a4_0 11 = true) ∧ (decode dsJ2_newBytesLength_0f7a4_0 12 = .ok (.iload_n 0, 1) ∧ okop dsJ2_newBytesLength_0f7a4_0 12 = true) ∧ (decode dsJ2_newBytesLength_0f7a4_0 13 = .ok (.ldc 20, 2) ∧ okop dsJ2_newBytesLength_0f7a4_0 13 = true) ∧ (decode dsJ2_newBytesLength_0f7a4_0 15 = .ok (.if_icmp .lt 40, 3) ∧ okop dsJ2_newBytesLength_0f7a4_0 15 = true) ∧ (decode dsJ2_newBytesLength_0f7a4_0 18 = .ok (.new 21, 3) ∧ okop dsJ2_newBytesLength_0f7a4_0 18 = true) := by decide +kernel
theorem dJ2_newBytesLength_0f7a4_0 : decode cJ2_newBytesLength_0f7a4 0 = .ok (.iload_n 0, 1) := dgq (p := 0) daJ2_newBytesLength_0f7a4_0 dbJ2_newBytesLength_0f7a4_0.1
theorem dJ2_newBytesLength_0f7a4_1 : decode cJ2_newBytesLength_0f7a4 1 = .ok (.ifCond .ge 11, 3) := dgq (p := 1) daJ2_newBytesLength_0f7a4_0 dbJ2_newBytesLength_0f7a4_0.2.1
theorem dJ2_newBytesLength_0f7a4_4 : decode cJ2_newBytesLength_0f7a4 4 = .ok (.new 17, 3) := dgq (p := 4) daJ2_newBytesLength_0f7a4_0 dbJ2_newBytesLength_0f7a4_0.2.2.1
theorem dJ2_newBytesLength_0f7a4_7 : decode cJ2_newBytesLength_0f7a4 7 = .ok (.dup, 1) := dgq (p := 7) daJ2_newBytesLength_0f7a4_0 dbJ2_newBytesLength_0f7a4_0.2.2.2.1
theorem dJ2_newBytesLength_0f7a4_8 : decode cJ2_newBytesLength_0f7a4 8 = .ok (.invokespecial 19, 3) := dgq (p := 8) daJ2_newBytesLength_0f7a4_0 dbJ2_newBytesLength_0f7a4_0.2.2.2.2.1
theorem dJ2_newBytesLength_0f7a4_11 : decode cJ2_newBytesLength_0f7a4 11 = .ok (.athrow, 1) := dgq (p := 11) daJ2_newBytesLength_0f7a4_0 dbJ2_newBytesLength_0f7a4_0.2.2.2.2.2.1
theorem dJ2_newBytesLength_0f7a4_12 : decode cJ2_newBytesLength_0f7a4 12 = .ok (.iload_n 0, 1) := dgq (p := 12) daJ2_newBytesLength_0f7a4_0 dbJ2_newBytesLength_0f7a4_0.2.2.2.2.2.2.1
theorem dJ2_newBytesLength_0f7a4_13 : decode cJ2_newBytesLength_0f7a4 13 = .ok (.ldc 20, 2) := dgq (p := 13) daJ2_newBytesLength_0f7a4_0 dbJ2_newBytesLength_0f7a4_0.2.2.2.2.2.2.2.1
theorem dJ2_newBytesLength_0f7a4_15 : decode cJ2_newBytesLength_0f7a4 15 = .ok (.if_icmp .lt 40, 3) := dgq (p := 15) daJ2_newBytesLength_0f7a4_0 dbJ2_newBytesLength_0f7a4_0.2.2.2.2.2.2.2.2.1
theorem dJ2_newBytesLength_0f7a4_18 : decode cJ2_newBytesLength_0f7a4 18 = .ok (.new 21, 3) := dgq (p := 18) daJ2_newBytesLength_0f7a4_0 dbJ2_newBytesLength_0f7a4_0.2.2.2.2.2.2.2.2.2
def dsJ2_newBytesLength_0f7a4_21 : ByteArray := ⟨#[89, 187, 0, 23, 89, 183, 0, 25, 18, 26, 182, 0, 28, 26, 182, 0, 32, 18, 35, 182, 0, 28]⟩
theorem daJ2_newBytesLength_0f7a4_21 : agB cJ2_newBytesLength_0f7a4 dsJ2_newBytesLength_0f7a4_21 21 := agB_of (n := 22) (by decide +kernel)
theorem dbJ2_newBytesLength_0f7a4_21 : (decode dsJ2_newBytesLength_0f7a4_21 0 = .ok (.dup, 1) ∧ okop dsJ2_newBytesLength_0f7a4_21 0 = true) ∧ (decode dsJ2_newBytesLength_0f7a4_21 1 = .ok (.new 23, 3) ∧ okop dsJ2_newBytesLength_0f7a4_21 1 = true) ∧ (decode dsJ2_newBytesLength_0f7a4_21 4 = .ok (.dup, 1) ∧ okop dsJ2_newBytesLength_0f7a4_21 4 = true) ∧ (decode dsJ2_newBytesLength_0f7a4_21 5 = .ok (.invokespecial 25, 3) ∧ okop dsJ2_newBytesLength_0f7a4_21 5 = true) ∧ (decode dsJ2_newBytesLength_0f7a4_21 8 = .ok (.ldc 26, 2) ∧ okop dsJ2_newBytesLength_0f7a4_21 8 = true) ∧ (decode dsJ2_newBytesLength_0f7a4_21 10 = .ok (.invokevirtual 28, 3) ∧ okop dsJ2_newBytesLength_0f7a4_21 10 = true) ∧ (decode dsJ2_newBytesLength_0f7a4_21 13 = .ok (.iload_n 0, 1) ∧ okop dsJ2_newBytesLength_0f7a4_21 13 = true) ∧ (decode dsJ2_newBytesLength_0f7a4_21 14 = .ok (.invokevirtual 32, 3) ∧ okop dsJ2_newBytesLength_0f7a4_21 14 = true) ∧ (decode dsJ2_newBytesLength_0f7a4_21 17 = .ok (.ldc 35, 2) ∧ okop dsJ2_newBytesLength_0f7a4_21 17 = true) ∧ (decode dsJ2_newBytesLength_0f7a4_21 19 = .ok (.invokevirtual 28, 3) ∧ okop dsJ2_newBytesLength_0f7a4_21 19 = true) := by decide +kernel
theorem dJ2_newBytesLength_0f7a4_21 : decode cJ2_newBytesLength_0f7a4 21 = .ok (.dup, 1) := dgq (p := 0) daJ2_newBytesLength_0f7a4_21 dbJ2_newBytesLength_0f7a4_21.1
theorem dJ2_newBytesLength_0f7a4_22 : decode cJ2_newBytesLength_0f7a4 22 = .ok (.new 23, 3) := dgq (p := 1) daJ2_newBytesLength_0f7a4_21 dbJ2_newBytesLength_0f7a4_21.2.1
theorem dJ2_newBytesLength_0f7a4_25 : decode cJ2_newBytesLength_0f7a4 25 = .ok (.dup, 1) := dgq (p := 4) daJ2_newBytesLength_0f7a4_21 dbJ2_newBytesLength_0f7a4_21.2.2.1
theorem dJ2_newBytesLength_0f7a4_26 : decode cJ2_newBytesLength_0f7a4 26 = .ok (.invokespecial 25, 3) := dgq (p := 5) daJ2_newBytesLength_0f7a4_21 dbJ2_newBytesLength_0f7a4_21.2.2.2.1
theorem dJ2_newBytesLength_0f7a4_29 : decode cJ2_newBytesLength_0f7a4 29 = .ok (.ldc 26, 2) := dgq (p := 8) daJ2_newBytesLength_0f7a4_21 dbJ2_newBytesLength_0f7a4_21.2.2.2.2.1
theorem dJ2_newBytesLength_0f7a4_31 : decode cJ2_newBytesLength_0f7a4 31 = .ok (.invokevirtual 28, 3) := dgq (p := 10) daJ2_newBytesLength_0f7a4_21 dbJ2_newBytesLength_0f7a4_21.2.2.2.2.2.1
theorem dJ2_newBytesLength_0f7a4_34 : decode cJ2_newBytesLength_0f7a4 34 = .ok (.iload_n 0, 1) := dgq (p := 13) daJ2_newBytesLength_0f7a4_21 dbJ2_newBytesLength_0f7a4_21.2.2.2.2.2.2.1
theorem dJ2_newBytesLength_0f7a4_35 : decode cJ2_newBytesLength_0f7a4 35 = .ok (.invokevirtual 32, 3) := dgq (p := 14) daJ2_newBytesLength_0f7a4_21 dbJ2_newBytesLength_0f7a4_21.2.2.2.2.2.2.2.1
theorem dJ2_newBytesLength_0f7a4_38 : decode cJ2_newBytesLength_0f7a4 38 = .ok (.ldc 35, 2) := dgq (p := 17) daJ2_newBytesLength_0f7a4_21 dbJ2_newBytesLength_0f7a4_21.2.2.2.2.2.2.2.2.1
theorem dJ2_newBytesLength_0f7a4_40 : decode cJ2_newBytesLength_0f7a4 40 = .ok (.invokevirtual 28, 3) := dgq (p := 19) daJ2_newBytesLength_0f7a4_21 dbJ2_newBytesLength_0f7a4_21.2.2.2.2.2.2.2.2.2
def dsJ2_newBytesLength_0f7a4_43 : ByteArray := ⟨#[18, 20, 182, 0, 32, 182, 0, 37, 183, 0, 41, 191, 26, 4, 120, 172]⟩
theorem daJ2_newBytesLength_0f7a4_43 : agB cJ2_newBytesLength_0f7a4 dsJ2_newBytesLength_0f7a4_43 43 := agB_of (n := 16) (by decide +kernel)
theorem dbJ2_newBytesLength_0f7a4_43 : (decode dsJ2_newBytesLength_0f7a4_43 0 = .ok (.ldc 20, 2) ∧ okop dsJ2_newBytesLength_0f7a4_43 0 = true) ∧ (decode dsJ2_newBytesLength_0f7a4_43 2 = .ok (.invokevirtual 32, 3) ∧ okop dsJ2_newBytesLength_0f7a4_43 2 = true) ∧ (decode dsJ2_newBytesLength_0f7a4_43 5 = .ok (.invokevirtual 37, 3) ∧ okop dsJ2_newBytesLength_0f7a4_43 5 = true) ∧ (decode dsJ2_newBytesLength_0f7a4_43 8 = .ok (.invokespecial 41, 3) ∧ okop dsJ2_newBytesLength_0f7a4_43 8 = true) ∧ (decode dsJ2_newBytesLength_0f7a4_43 11 = .ok (.athrow, 1) ∧ okop dsJ2_newBytesLength_0f7a4_43 11 = true) ∧ (decode dsJ2_newBytesLength_0f7a4_43 12 = .ok (.iload_n 0, 1) ∧ okop dsJ2_newBytesLength_0f7a4_43 12 = true) ∧ (decode dsJ2_newBytesLength_0f7a4_43 13 = .ok (.iconst 1, 1) ∧ okop dsJ2_newBytesLength_0f7a4_43 13 = true) ∧ (decode dsJ2_newBytesLength_0f7a4_43 14 = .ok (.ishl, 1) ∧ okop dsJ2_newBytesLength_0f7a4_43 14 = true) ∧ (decode dsJ2_newBytesLength_0f7a4_43 15 = .ok (.ireturn, 1) ∧ okop dsJ2_newBytesLength_0f7a4_43 15 = true) := by decide +kernel
theorem dJ2_newBytesLength_0f7a4_43 : decode cJ2_newBytesLength_0f7a4 43 = .ok (.ldc 20, 2) := dgq (p := 0) daJ2_newBytesLength_0f7a4_43 dbJ2_newBytesLength_0f7a4_43.1
theorem dJ2_newBytesLength_0f7a4_45 : decode cJ2_newBytesLength_0f7a4 45 = .ok (.invokevirtual 32, 3) := dgq (p := 2) daJ2_newBytesLength_0f7a4_43 dbJ2_newBytesLength_0f7a4_43.2.1
theorem dJ2_newBytesLength_0f7a4_48 : decode cJ2_newBytesLength_0f7a4 48 = .ok (.invokevirtual 37, 3) := dgq (p := 5) daJ2_newBytesLength_0f7a4_43 dbJ2_newBytesLength_0f7a4_43.2.2.1
theorem dJ2_newBytesLength_0f7a4_51 : decode cJ2_newBytesLength_0f7a4 51 = .ok (.invokespecial 41, 3) := dgq (p := 8) daJ2_newBytesLength_0f7a4_43 dbJ2_newBytesLength_0f7a4_43.2.2.2.1
theorem dJ2_newBytesLength_0f7a4_54 : decode cJ2_newBytesLength_0f7a4 54 = .ok (.athrow, 1) := dgq (p := 11) daJ2_newBytesLength_0f7a4_43 dbJ2_newBytesLength_0f7a4_43.2.2.2.2.1
theorem dJ2_newBytesLength_0f7a4_55 : decode cJ2_newBytesLength_0f7a4 55 = .ok (.iload_n 0, 1) := dgq (p := 12) daJ2_newBytesLength_0f7a4_43 dbJ2_newBytesLength_0f7a4_43.2.2.2.2.2.1
theorem dJ2_newBytesLength_0f7a4_56 : decode cJ2_newBytesLength_0f7a4 56 = .ok (.iconst 1, 1) := dgq (p := 13) daJ2_newBytesLength_0f7a4_43 dbJ2_newBytesLength_0f7a4_43.2.2.2.2.2.2.1
theorem dJ2_newBytesLength_0f7a4_57 : decode cJ2_newBytesLength_0f7a4 57 = .ok (.ishl, 1) := dgq (p := 14) daJ2_newBytesLength_0f7a4_43 dbJ2_newBytesLength_0f7a4_43.2.2.2.2.2.2.2.1
theorem dJ2_newBytesLength_0f7a4_58 : decode cJ2_newBytesLength_0f7a4 58 = .ok (.ireturn, 1) := dgq (p := 15) daJ2_newBytesLength_0f7a4_43 dbJ2_newBytesLength_0f7a4_43.2.2.2.2.2.2.2.2
set_option maxRecDepth 20000 in
theorem ggJ2_putChar_b72d1_J2_length_9d52b : GoodIn wsJ2_putChar_b72d1 wsJ2_length_9d52b := goodIn_q _ [7] rfl (by decide +kernel)
set_option maxRecDepth 20000 in
theorem gJ2_putChar_b72d1_J2_length_9d52b : GoodIn wsJ2_putChar_b72d1 (va_wsS RJ2 48 yJ2_length_9d52b wsJ2_length_9d52b) := goodIn_app (goodIn_q _ [4, 5, 6] rfl (by decide +kernel)) ggJ2_putChar_b72d1_J2_length_9d52b
def dsJ2_putChar_b72d1_0 : ByteArray := ⟨#[178, 0, 44, 154, 0, 25, 27, 155, 0, 11, 27, 42, 184, 0, 48, 161, 0, 13, 187, 0, 52, 89]⟩
theorem daJ2_putChar_b72d1_0 : agB cJ2_putChar_b72d1 dsJ2_putChar_b72d1_0 0 := agB_of (n := 22) (by decide +kernel)
theorem dbJ2_putChar_b72d1_0 : (decode dsJ2_putChar_b72d1_0 0 = .ok (.getstatic 44, 3) ∧ okop dsJ2_putChar_b72d1_0 0 = true) ∧ (decode dsJ2_putChar_b72d1_0 3 = .ok (.ifCond .ne 25, 3) ∧ okop dsJ2_putChar_b72d1_0 3 = true) ∧ (decode dsJ2_putChar_b72d1_0 6 = .ok (.iload_n 1, 1) ∧ okop dsJ2_putChar_b72d1_0 6 = true) ∧ (decode dsJ2_putChar_b72d1_0 7 = .ok (.ifCond .lt 11, 3) ∧ okop dsJ2_putChar_b72d1_0 7 = true) ∧ (decode dsJ2_putChar_b72d1_0 10 = .ok (.iload_n 1, 1) ∧ okop dsJ2_putChar_b72d1_0 10 = true) ∧ (decode dsJ2_putChar_b72d1_0 11 = .ok (.aload_n 0, 1) ∧ okop dsJ2_putChar_b72d1_0 11 = true) ∧ (decode dsJ2_putChar_b72d1_0 12 = .ok (.invokestatic 48, 3) ∧ okop dsJ2_putChar_b72d1_0 12 = true) ∧ (decode dsJ2_putChar_b72d1_0 15 = .ok (.if_icmp .lt 13, 3) ∧ okop dsJ2_putChar_b72d1_0 15 = true) ∧ (decode dsJ2_putChar_b72d1_0 18 = .ok (.new 52, 3) ∧ okop dsJ2_putChar_b72d1_0 18 = true) ∧ (decode dsJ2_putChar_b72d1_0 21 = .ok (.dup, 1) ∧ okop dsJ2_putChar_b72d1_0 21 = true) := by decide +kernel
theorem dJ2_putChar_b72d1_0 : decode cJ2_putChar_b72d1 0 = .ok (.getstatic 44, 3) := dgq (p := 0) daJ2_putChar_b72d1_0 dbJ2_putChar_b72d1_0.1
theorem dJ2_putChar_b72d1_3 : decode cJ2_putChar_b72d1 3 = .ok (.ifCond .ne 25, 3) := dgq (p := 3) daJ2_putChar_b72d1_0 dbJ2_putChar_b72d1_0.2.1
theorem dJ2_putChar_b72d1_6 : decode cJ2_putChar_b72d1 6 = .ok (.iload_n 1, 1) := dgq (p := 6) daJ2_putChar_b72d1_0 dbJ2_putChar_b72d1_0.2.2.1
theorem dJ2_putChar_b72d1_7 : decode cJ2_putChar_b72d1 7 = .ok (.ifCond .lt 11, 3) := dgq (p := 7) daJ2_putChar_b72d1_0 dbJ2_putChar_b72d1_0.2.2.2.1
theorem dJ2_putChar_b72d1_10 : decode cJ2_putChar_b72d1 10 = .ok (.iload_n 1, 1) := dgq (p := 10) daJ2_putChar_b72d1_0 dbJ2_putChar_b72d1_0.2.2.2.2.1
theorem dJ2_putChar_b72d1_11 : decode cJ2_putChar_b72d1 11 = .ok (.aload_n 0, 1) := dgq (p := 11) daJ2_putChar_b72d1_0 dbJ2_putChar_b72d1_0.2.2.2.2.2.1
theorem dJ2_putChar_b72d1_12 : decode cJ2_putChar_b72d1 12 = .ok (.invokestatic 48, 3) := dgq (p := 12) daJ2_putChar_b72d1_0 dbJ2_putChar_b72d1_0.2.2.2.2.2.2.1
theorem dJ2_putChar_b72d1_15 : decode cJ2_putChar_b72d1 15 = .ok (.if_icmp .lt 13, 3) := dgq (p := 15) daJ2_putChar_b72d1_0 dbJ2_putChar_b72d1_0.2.2.2.2.2.2.2.1
theorem dJ2_putChar_b72d1_18 : decode cJ2_putChar_b72d1 18 = .ok (.new 52, 3) := dgq (p := 18) daJ2_putChar_b72d1_0 dbJ2_putChar_b72d1_0.2.2.2.2.2.2.2.2.1
theorem dJ2_putChar_b72d1_21 : decode cJ2_putChar_b72d1 21 = .ok (.dup, 1) := dgq (p := 21) daJ2_putChar_b72d1_0 dbJ2_putChar_b72d1_0.2.2.2.2.2.2.2.2.2
def dsJ2_putChar_b72d1_22 : ByteArray := ⟨#[18, 54, 183, 0, 56, 191, 27, 4, 120, 60, 42, 27, 132, 1, 1]⟩
theorem daJ2_putChar_b72d1_22 : agB cJ2_putChar_b72d1 dsJ2_putChar_b72d1_22 22 := agB_of (n := 15) (by decide +kernel)
theorem dbJ2_putChar_b72d1_22 : (decode dsJ2_putChar_b72d1_22 0 = .ok (.ldc 54, 2) ∧ okop dsJ2_putChar_b72d1_22 0 = true) ∧ (decode dsJ2_putChar_b72d1_22 2 = .ok (.invokespecial 56, 3) ∧ okop dsJ2_putChar_b72d1_22 2 = true) ∧ (decode dsJ2_putChar_b72d1_22 5 = .ok (.athrow, 1) ∧ okop dsJ2_putChar_b72d1_22 5 = true) ∧ (decode dsJ2_putChar_b72d1_22 6 = .ok (.iload_n 1, 1) ∧ okop dsJ2_putChar_b72d1_22 6 = true) ∧ (decode dsJ2_putChar_b72d1_22 7 = .ok (.iconst 1, 1) ∧ okop dsJ2_putChar_b72d1_22 7 = true) ∧ (decode dsJ2_putChar_b72d1_22 8 = .ok (.ishl, 1) ∧ okop dsJ2_putChar_b72d1_22 8 = true) ∧ (decode dsJ2_putChar_b72d1_22 9 = .ok (.istore_n 1, 1) ∧ okop dsJ2_putChar_b72d1_22 9 = true) ∧ (decode dsJ2_putChar_b72d1_22 10 = .ok (.aload_n 0, 1) ∧ okop dsJ2_putChar_b72d1_22 10 = true) ∧ (decode dsJ2_putChar_b72d1_22 11 = .ok (.iload_n 1, 1) ∧ okop dsJ2_putChar_b72d1_22 11 = true) ∧ (decode dsJ2_putChar_b72d1_22 12 = .ok (.iinc 1 1, 3) ∧ okop dsJ2_putChar_b72d1_22 12 = true) := by decide +kernel
theorem dJ2_putChar_b72d1_22 : decode cJ2_putChar_b72d1 22 = .ok (.ldc 54, 2) := dgq (p := 0) daJ2_putChar_b72d1_22 dbJ2_putChar_b72d1_22.1
theorem dJ2_putChar_b72d1_24 : decode cJ2_putChar_b72d1 24 = .ok (.invokespecial 56, 3) := dgq (p := 2) daJ2_putChar_b72d1_22 dbJ2_putChar_b72d1_22.2.1
theorem dJ2_putChar_b72d1_27 : decode cJ2_putChar_b72d1 27 = .ok (.athrow, 1) := dgq (p := 5) daJ2_putChar_b72d1_22 dbJ2_putChar_b72d1_22.2.2.1
theorem dJ2_putChar_b72d1_28 : decode cJ2_putChar_b72d1 28 = .ok (.iload_n 1, 1) := dgq (p := 6) daJ2_putChar_b72d1_22 dbJ2_putChar_b72d1_22.2.2.2.1
theorem dJ2_putChar_b72d1_29 : decode cJ2_putChar_b72d1 29 = .ok (.iconst 1, 1) := dgq (p := 7) daJ2_putChar_b72d1_22 dbJ2_putChar_b72d1_22.2.2.2.2.1
theorem dJ2_putChar_b72d1_30 : decode cJ2_putChar_b72d1 30 = .ok (.ishl, 1) := dgq (p := 8) daJ2_putChar_b72d1_22 dbJ2_putChar_b72d1_22.2.2.2.2.2.1
theorem dJ2_putChar_b72d1_31 : decode cJ2_putChar_b72d1 31 = .ok (.istore_n 1, 1) := dgq (p := 9) daJ2_putChar_b72d1_22 dbJ2_putChar_b72d1_22.2.2.2.2.2.2.1
theorem dJ2_putChar_b72d1_32 : decode cJ2_putChar_b72d1 32 = .ok (.aload_n 0, 1) := dgq (p := 10) daJ2_putChar_b72d1_22 dbJ2_putChar_b72d1_22.2.2.2.2.2.2.2.1
theorem dJ2_putChar_b72d1_33 : decode cJ2_putChar_b72d1 33 = .ok (.iload_n 1, 1) := dgq (p := 11) daJ2_putChar_b72d1_22 dbJ2_putChar_b72d1_22.2.2.2.2.2.2.2.2.1
theorem dJ2_putChar_b72d1_34 : decode cJ2_putChar_b72d1 34 = .ok (.iinc 1 1, 3) := dgq (p := 12) daJ2_putChar_b72d1_22 dbJ2_putChar_b72d1_22.2.2.2.2.2.2.2.2.2
def dsJ2_putChar_b72d1_37 : ByteArray := ⟨#[28, 178, 0, 59, 122, 145, 84, 42, 27, 28, 178, 0, 63, 122]⟩
theorem daJ2_putChar_b72d1_37 : agB cJ2_putChar_b72d1 dsJ2_putChar_b72d1_37 37 := agB_of (n := 14) (by decide +kernel)
theorem dbJ2_putChar_b72d1_37 : (decode dsJ2_putChar_b72d1_37 0 = .ok (.iload_n 2, 1) ∧ okop dsJ2_putChar_b72d1_37 0 = true) ∧ (decode dsJ2_putChar_b72d1_37 1 = .ok (.getstatic 59, 3) ∧ okop dsJ2_putChar_b72d1_37 1 = true) ∧ (decode dsJ2_putChar_b72d1_37 4 = .ok (.ishr, 1) ∧ okop dsJ2_putChar_b72d1_37 4 = true) ∧ (decode dsJ2_putChar_b72d1_37 5 = .ok (.i2b, 1) ∧ okop dsJ2_putChar_b72d1_37 5 = true) ∧ (decode dsJ2_putChar_b72d1_37 6 = .ok (.bastore, 1) ∧ okop dsJ2_putChar_b72d1_37 6 = true) ∧ (decode dsJ2_putChar_b72d1_37 7 = .ok (.aload_n 0, 1) ∧ okop dsJ2_putChar_b72d1_37 7 = true) ∧ (decode dsJ2_putChar_b72d1_37 8 = .ok (.iload_n 1, 1) ∧ okop dsJ2_putChar_b72d1_37 8 = true) ∧ (decode dsJ2_putChar_b72d1_37 9 = .ok (.iload_n 2, 1) ∧ okop dsJ2_putChar_b72d1_37 9 = true) ∧ (decode dsJ2_putChar_b72d1_37 10 = .ok (.getstatic 63, 3) ∧ okop dsJ2_putChar_b72d1_37 10 = true) ∧ (decode dsJ2_putChar_b72d1_37 13 = .ok (.ishr, 1) ∧ okop dsJ2_putChar_b72d1_37 13 = true) := by decide +kernel
theorem dJ2_putChar_b72d1_37 : decode cJ2_putChar_b72d1 37 = .ok (.iload_n 2, 1) := dgq (p := 0) daJ2_putChar_b72d1_37 dbJ2_putChar_b72d1_37.1
theorem dJ2_putChar_b72d1_38 : decode cJ2_putChar_b72d1 38 = .ok (.getstatic 59, 3) := dgq (p := 1) daJ2_putChar_b72d1_37 dbJ2_putChar_b72d1_37.2.1
theorem dJ2_putChar_b72d1_41 : decode cJ2_putChar_b72d1 41 = .ok (.ishr, 1) := dgq (p := 4) daJ2_putChar_b72d1_37 dbJ2_putChar_b72d1_37.2.2.1
theorem dJ2_putChar_b72d1_42 : decode cJ2_putChar_b72d1 42 = .ok (.i2b, 1) := dgq (p := 5) daJ2_putChar_b72d1_37 dbJ2_putChar_b72d1_37.2.2.2.1
theorem dJ2_putChar_b72d1_43 : decode cJ2_putChar_b72d1 43 = .ok (.bastore, 1) := dgq (p := 6) daJ2_putChar_b72d1_37 dbJ2_putChar_b72d1_37.2.2.2.2.1
theorem dJ2_putChar_b72d1_44 : decode cJ2_putChar_b72d1 44 = .ok (.aload_n 0, 1) := dgq (p := 7) daJ2_putChar_b72d1_37 dbJ2_putChar_b72d1_37.2.2.2.2.2.1
theorem dJ2_putChar_b72d1_45 : decode cJ2_putChar_b72d1 45 = .ok (.iload_n 1, 1) := dgq (p := 8) daJ2_putChar_b72d1_37 dbJ2_putChar_b72d1_37.2.2.2.2.2.2.1
theorem dJ2_putChar_b72d1_46 : decode cJ2_putChar_b72d1 46 = .ok (.iload_n 2, 1) := dgq (p := 9) daJ2_putChar_b72d1_37 dbJ2_putChar_b72d1_37.2.2.2.2.2.2.2.1
theorem dJ2_putChar_b72d1_47 : decode cJ2_putChar_b72d1 47 = .ok (.getstatic 63, 3) := dgq (p := 10) daJ2_putChar_b72d1_37 dbJ2_putChar_b72d1_37.2.2.2.2.2.2.2.2.1
theorem dJ2_putChar_b72d1_50 : decode cJ2_putChar_b72d1 50 = .ok (.ishr, 1) := dgq (p := 13) daJ2_putChar_b72d1_37 dbJ2_putChar_b72d1_37.2.2.2.2.2.2.2.2.2
def dsJ2_putChar_b72d1_51 : ByteArray := ⟨#[145, 84, 177]⟩
theorem daJ2_putChar_b72d1_51 : agB cJ2_putChar_b72d1 dsJ2_putChar_b72d1_51 51 := agB_of (n := 3) (by decide +kernel)
theorem dbJ2_putChar_b72d1_51 : (decode dsJ2_putChar_b72d1_51 0 = .ok (.i2b, 1) ∧ okop dsJ2_putChar_b72d1_51 0 = true) ∧ (decode dsJ2_putChar_b72d1_51 1 = .ok (.bastore, 1) ∧ okop dsJ2_putChar_b72d1_51 1 = true) ∧ (decode dsJ2_putChar_b72d1_51 2 = .ok (.return_, 1) ∧ okop dsJ2_putChar_b72d1_51 2 = true) := by decide +kernel
theorem dJ2_putChar_b72d1_51 : decode cJ2_putChar_b72d1 51 = .ok (.i2b, 1) := dgq (p := 0) daJ2_putChar_b72d1_51 dbJ2_putChar_b72d1_51.1
theorem dJ2_putChar_b72d1_52 : decode cJ2_putChar_b72d1 52 = .ok (.bastore, 1) := dgq (p := 1) daJ2_putChar_b72d1_51 dbJ2_putChar_b72d1_51.2.1
theorem dJ2_putChar_b72d1_53 : decode cJ2_putChar_b72d1 53 = .ok (.return_, 1) := dgq (p := 2) daJ2_putChar_b72d1_51 dbJ2_putChar_b72d1_51.2.2
set_option maxRecDepth 20000 in
theorem ggJ2_getChar_3b067_J2_length_9d52b : GoodIn wsJ2_getChar_3b067 wsJ2_length_9d52b := goodIn_q _ [7] rfl (by decide +kernel)
set_option maxRecDepth 20000 in
theorem gJ2_getChar_3b067_J2_length_9d52b : GoodIn wsJ2_getChar_3b067 (va_wsS RJ2 48 yJ2_length_9d52b wsJ2_length_9d52b) := goodIn_app (goodIn_q _ [4, 5, 6] rfl (by decide +kernel)) ggJ2_getChar_3b067_J2_length_9d52b
def dsJ2_getChar_3b067_0 : ByteArray := ⟨#[178, 0, 44, 154, 0, 25, 27, 155, 0, 11, 27, 42, 184, 0, 48, 161, 0, 13, 187, 0, 52, 89]⟩
theorem daJ2_getChar_3b067_0 : agB cJ2_getChar_3b067 dsJ2_getChar_3b067_0 0 := agB_of (n := 22) (by decide +kernel)
theorem dbJ2_getChar_3b067_0 : (decode dsJ2_getChar_3b067_0 0 = .ok (.getstatic 44, 3) ∧ okop dsJ2_getChar_3b067_0 0 = true) ∧ (decode dsJ2_getChar_3b067_0 3 = .ok (.ifCond .ne 25, 3) ∧ okop dsJ2_getChar_3b067_0 3 = true) ∧ (decode dsJ2_getChar_3b067_0 6 = .ok (.iload_n 1, 1) ∧ okop dsJ2_getChar_3b067_0 6 = true) ∧ (decode dsJ2_getChar_3b067_0 7 = .ok (.ifCond .lt 11, 3) ∧ okop dsJ2_getChar_3b067_0 7 = true) ∧ (decode dsJ2_getChar_3b067_0 10 = .ok (.iload_n 1, 1) ∧ okop dsJ2_getChar_3b067_0 10 = true) ∧ (decode dsJ2_getChar_3b067_0 11 = .ok (.aload_n 0, 1) ∧ okop dsJ2_getChar_3b067_0 11 = true) ∧ (decode dsJ2_getChar_3b067_0 12 = .ok (.invokestatic 48, 3) ∧ okop dsJ2_getChar_3b067_0 12 = true) ∧ (decode dsJ2_getChar_3b067_0 15 = .ok (.if_icmp .lt 13, 3) ∧ okop dsJ2_getChar_3b067_0 15 = true) ∧ (decode dsJ2_getChar_3b067_0 18 = .ok (.new 52, 3) ∧ okop dsJ2_getChar_3b067_0 18 = true) ∧ (decode dsJ2_getChar_3b067_0 21 = .ok (.dup, 1) ∧ okop dsJ2_getChar_3b067_0 21 = true) := by decide +kernel
theorem dJ2_getChar_3b067_0 : decode cJ2_getChar_3b067 0 = .ok (.getstatic 44, 3) := dgq (p := 0) daJ2_getChar_3b067_0 dbJ2_getChar_3b067_0.1
theorem dJ2_getChar_3b067_3 : decode cJ2_getChar_3b067 3 = .ok (.ifCond .ne 25, 3) := dgq (p := 3) daJ2_getChar_3b067_0 dbJ2_getChar_3b067_0.2.1
theorem dJ2_getChar_3b067_6 : decode cJ2_getChar_3b067 6 = .ok (.iload_n 1, 1) := dgq (p := 6) daJ2_getChar_3b067_0 dbJ2_getChar_3b067_0.2.2.1
theorem dJ2_getChar_3b067_7 : decode cJ2_getChar_3b067 7 = .ok (.ifCond .lt 11, 3) := dgq (p := 7) daJ2_getChar_3b067_0 dbJ2_getChar_3b067_0.2.2.2.1
theorem dJ2_getChar_3b067_10 : decode cJ2_getChar_3b067 10 = .ok (.iload_n 1, 1) := dgq (p := 10) daJ2_getChar_3b067_0 dbJ2_getChar_3b067_0.2.2.2.2.1
theorem dJ2_getChar_3b067_11 : decode cJ2_getChar_3b067 11 = .ok (.aload_n 0, 1) := dgq (p := 11) daJ2_getChar_3b067_0 dbJ2_getChar_3b067_0.2.2.2.2.2.1
theorem dJ2_getChar_3b067_12 : decode cJ2_getChar_3b067 12 = .ok (.invokestatic 48, 3) := dgq (p := 12) daJ2_getChar_3b067_0 dbJ2_getChar_3b067_0.2.2.2.2.2.2.1
theorem dJ2_getChar_3b067_15 : decode cJ2_getChar_3b067 15 = .ok (.if_icmp .lt 13, 3) := dgq (p := 15) daJ2_getChar_3b067_0 dbJ2_getChar_3b067_0.2.2.2.2.2.2.2.1
theorem dJ2_getChar_3b067_18 : decode cJ2_getChar_3b067 18 = .ok (.new 52, 3) := dgq (p := 18) daJ2_getChar_3b067_0 dbJ2_getChar_3b067_0.2.2.2.2.2.2.2.2.1
theorem dJ2_getChar_3b067_21 : decode cJ2_getChar_3b067 21 = .ok (.dup, 1) := dgq (p := 21) daJ2_getChar_3b067_0 dbJ2_getChar_3b067_0.2.2.2.2.2.2.2.2.2
def dsJ2_getChar_3b067_22 : ByteArray := ⟨#[18, 54, 183, 0, 56, 191, 27, 4, 120, 60, 42, 27, 132, 1, 1]⟩
theorem daJ2_getChar_3b067_22 : agB cJ2_getChar_3b067 dsJ2_getChar_3b067_22 22 := agB_of (n := 15) (by decide +kernel)
theorem dbJ2_getChar_3b067_22 : (decode dsJ2_getChar_3b067_22 0 = .ok (.ldc 54, 2) ∧ okop dsJ2_getChar_3b067_22 0 = true) ∧ (decode dsJ2_getChar_3b067_22 2 = .ok (.invokespecial 56, 3) ∧ okop dsJ2_getChar_3b067_22 2 = true) ∧ (decode dsJ2_getChar_3b067_22 5 = .ok (.athrow, 1) ∧ okop dsJ2_getChar_3b067_22 5 = true) ∧ (decode dsJ2_getChar_3b067_22 6 = .ok (.iload_n 1, 1) ∧ okop dsJ2_getChar_3b067_22 6 = true) ∧ (decode dsJ2_getChar_3b067_22 7 = .ok (.iconst 1, 1) ∧ okop dsJ2_getChar_3b067_22 7 = true) ∧ (decode dsJ2_getChar_3b067_22 8 = .ok (.ishl, 1) ∧ okop dsJ2_getChar_3b067_22 8 = true) ∧ (decode dsJ2_getChar_3b067_22 9 = .ok (.istore_n 1, 1) ∧ okop dsJ2_getChar_3b067_22 9 = true) ∧ (decode dsJ2_getChar_3b067_22 10 = .ok (.aload_n 0, 1) ∧ okop dsJ2_getChar_3b067_22 10 = true) ∧ (decode dsJ2_getChar_3b067_22 11 = .ok (.iload_n 1, 1) ∧ okop dsJ2_getChar_3b067_22 11 = true) ∧ (decode dsJ2_getChar_3b067_22 12 = .ok (.iinc 1 1, 3) ∧ okop dsJ2_getChar_3b067_22 12 = true) := by decide +kernel
theorem dJ2_getChar_3b067_22 : decode cJ2_getChar_3b067 22 = .ok (.ldc 54, 2) := dgq (p := 0) daJ2_getChar_3b067_22 dbJ2_getChar_3b067_22.1
theorem dJ2_getChar_3b067_24 : decode cJ2_getChar_3b067 24 = .ok (.invokespecial 56, 3) := dgq (p := 2) daJ2_getChar_3b067_22 dbJ2_getChar_3b067_22.2.1
theorem dJ2_getChar_3b067_27 : decode cJ2_getChar_3b067 27 = .ok (.athrow, 1) := dgq (p := 5) daJ2_getChar_3b067_22 dbJ2_getChar_3b067_22.2.2.1
theorem dJ2_getChar_3b067_28 : decode cJ2_getChar_3b067 28 = .ok (.iload_n 1, 1) := dgq (p := 6) daJ2_getChar_3b067_22 dbJ2_getChar_3b067_22.2.2.2.1
theorem dJ2_getChar_3b067_29 : decode cJ2_getChar_3b067 29 = .ok (.iconst 1, 1) := dgq (p := 7) daJ2_getChar_3b067_22 dbJ2_getChar_3b067_22.2.2.2.2.1
theorem dJ2_getChar_3b067_30 : decode cJ2_getChar_3b067 30 = .ok (.ishl, 1) := dgq (p := 8) daJ2_getChar_3b067_22 dbJ2_getChar_3b067_22.2.2.2.2.2.1
theorem dJ2_getChar_3b067_31 : decode cJ2_getChar_3b067 31 = .ok (.istore_n 1, 1) := dgq (p := 9) daJ2_getChar_3b067_22 dbJ2_getChar_3b067_22.2.2.2.2.2.2.1
theorem dJ2_getChar_3b067_32 : decode cJ2_getChar_3b067 32 = .ok (.aload_n 0, 1) := dgq (p := 10) daJ2_getChar_3b067_22 dbJ2_getChar_3b067_22.2.2.2.2.2.2.2.1
theorem dJ2_getChar_3b067_33 : decode cJ2_getChar_3b067 33 = .ok (.iload_n 1, 1) := dgq (p := 11) daJ2_getChar_3b067_22 dbJ2_getChar_3b067_22.2.2.2.2.2.2.2.2.1
theorem dJ2_getChar_3b067_34 : decode cJ2_getChar_3b067 34 = .ok (.iinc 1 1, 3) := dgq (p := 12) daJ2_getChar_3b067_22 dbJ2_getChar_3b067_22.2.2.2.2.2.2.2.2.2
def dsJ2_getChar_3b067_37 : ByteArray := ⟨#[51, 17, 0, 255, 126, 178, 0, 59, 120, 42, 27, 51, 17, 0, 255, 126]⟩
theorem daJ2_getChar_3b067_37 : agB cJ2_getChar_3b067 dsJ2_getChar_3b067_37 37 := agB_of (n := 16) (by decide +kernel)
theorem dbJ2_getChar_3b067_37 : (decode dsJ2_getChar_3b067_37 0 = .ok (.baload, 1) ∧ okop dsJ2_getChar_3b067_37 0 = true) ∧ (decode dsJ2_getChar_3b067_37 1 = .ok (.sipush 255, 3) ∧ okop dsJ2_getChar_3b067_37 1 = true) ∧ (decode dsJ2_getChar_3b067_37 4 = .ok (.iand, 1) ∧ okop dsJ2_getChar_3b067_37 4 = true) ∧ (decode dsJ2_getChar_3b067_37 5 = .ok (.getstatic 59, 3) ∧ okop dsJ2_getChar_3b067_37 5 = true) ∧ (decode dsJ2_getChar_3b067_37 8 = .ok (.ishl, 1) ∧ okop dsJ2_getChar_3b067_37 8 = true) ∧ (decode dsJ2_getChar_3b067_37 9 = .ok (.aload_n 0, 1) ∧ okop dsJ2_getChar_3b067_37 9 = true) ∧ (decode dsJ2_getChar_3b067_37 10 = .ok (.iload_n 1, 1) ∧ okop dsJ2_getChar_3b067_37 10 = true) ∧ (decode dsJ2_getChar_3b067_37 11 = .ok (.baload, 1) ∧ okop dsJ2_getChar_3b067_37 11 = true) ∧ (decode dsJ2_getChar_3b067_37 12 = .ok (.sipush 255, 3) ∧ okop dsJ2_getChar_3b067_37 12 = true) ∧ (decode dsJ2_getChar_3b067_37 15 = .ok (.iand, 1) ∧ okop dsJ2_getChar_3b067_37 15 = true) := by decide +kernel
theorem dJ2_getChar_3b067_37 : decode cJ2_getChar_3b067 37 = .ok (.baload, 1) := dgq (p := 0) daJ2_getChar_3b067_37 dbJ2_getChar_3b067_37.1
theorem dJ2_getChar_3b067_38 : decode cJ2_getChar_3b067 38 = .ok (.sipush 255, 3) := dgq (p := 1) daJ2_getChar_3b067_37 dbJ2_getChar_3b067_37.2.1
theorem dJ2_getChar_3b067_41 : decode cJ2_getChar_3b067 41 = .ok (.iand, 1) := dgq (p := 4) daJ2_getChar_3b067_37 dbJ2_getChar_3b067_37.2.2.1
theorem dJ2_getChar_3b067_42 : decode cJ2_getChar_3b067 42 = .ok (.getstatic 59, 3) := dgq (p := 5) daJ2_getChar_3b067_37 dbJ2_getChar_3b067_37.2.2.2.1
theorem dJ2_getChar_3b067_45 : decode cJ2_getChar_3b067 45 = .ok (.ishl, 1) := dgq (p := 8) daJ2_getChar_3b067_37 dbJ2_getChar_3b067_37.2.2.2.2.1
theorem dJ2_getChar_3b067_46 : decode cJ2_getChar_3b067 46 = .ok (.aload_n 0, 1) := dgq (p := 9) daJ2_getChar_3b067_37 dbJ2_getChar_3b067_37.2.2.2.2.2.1
theorem dJ2_getChar_3b067_47 : decode cJ2_getChar_3b067 47 = .ok (.iload_n 1, 1) := dgq (p := 10) daJ2_getChar_3b067_37 dbJ2_getChar_3b067_37.2.2.2.2.2.2.1
theorem dJ2_getChar_3b067_48 : decode cJ2_getChar_3b067 48 = .ok (.baload, 1) := dgq (p := 11) daJ2_getChar_3b067_37 dbJ2_getChar_3b067_37.2.2.2.2.2.2.2.1
theorem dJ2_getChar_3b067_49 : decode cJ2_getChar_3b067 49 = .ok (.sipush 255, 3) := dgq (p := 12) daJ2_getChar_3b067_37 dbJ2_getChar_3b067_37.2.2.2.2.2.2.2.2.1
theorem dJ2_getChar_3b067_52 : decode cJ2_getChar_3b067 52 = .ok (.iand, 1) := dgq (p := 15) daJ2_getChar_3b067_37 dbJ2_getChar_3b067_37.2.2.2.2.2.2.2.2.2
def dsJ2_getChar_3b067_53 : ByteArray := ⟨#[178, 0, 63, 120, 128, 146, 172]⟩
theorem daJ2_getChar_3b067_53 : agB cJ2_getChar_3b067 dsJ2_getChar_3b067_53 53 := agB_of (n := 7) (by decide +kernel)
theorem dbJ2_getChar_3b067_53 : (decode dsJ2_getChar_3b067_53 0 = .ok (.getstatic 63, 3) ∧ okop dsJ2_getChar_3b067_53 0 = true) ∧ (decode dsJ2_getChar_3b067_53 3 = .ok (.ishl, 1) ∧ okop dsJ2_getChar_3b067_53 3 = true) ∧ (decode dsJ2_getChar_3b067_53 4 = .ok (.ior, 1) ∧ okop dsJ2_getChar_3b067_53 4 = true) ∧ (decode dsJ2_getChar_3b067_53 5 = .ok (.i2c, 1) ∧ okop dsJ2_getChar_3b067_53 5 = true) ∧ (decode dsJ2_getChar_3b067_53 6 = .ok (.ireturn, 1) ∧ okop dsJ2_getChar_3b067_53 6 = true) := by decide +kernel
theorem dJ2_getChar_3b067_53 : decode cJ2_getChar_3b067 53 = .ok (.getstatic 63, 3) := dgq (p := 0) daJ2_getChar_3b067_53 dbJ2_getChar_3b067_53.1
theorem dJ2_getChar_3b067_56 : decode cJ2_getChar_3b067 56 = .ok (.ishl, 1) := dgq (p := 3) daJ2_getChar_3b067_53 dbJ2_getChar_3b067_53.2.1
theorem dJ2_getChar_3b067_57 : decode cJ2_getChar_3b067 57 = .ok (.ior, 1) := dgq (p := 4) daJ2_getChar_3b067_53 dbJ2_getChar_3b067_53.2.2.1
theorem dJ2_getChar_3b067_58 : decode cJ2_getChar_3b067 58 = .ok (.i2c, 1) := dgq (p := 5) daJ2_getChar_3b067_53 dbJ2_getChar_3b067_53.2.2.2.1
theorem dJ2_getChar_3b067_59 : decode cJ2_getChar_3b067 59 = .ok (.ireturn, 1) := dgq (p := 6) daJ2_getChar_3b067_53 dbJ2_getChar_3b067_53.2.2.2.2
def dsJ2_length_9d52b_0 : ByteArray := ⟨#[42, 190, 4, 122, 172]⟩
theorem daJ2_length_9d52b_0 : agB cJ2_length_9d52b dsJ2_length_9d52b_0 0 := agB_of (n := 5) (by decide +kernel)
theorem dbJ2_length_9d52b_0 : (decode dsJ2_length_9d52b_0 0 = .ok (.aload_n 0, 1) ∧ okop dsJ2_length_9d52b_0 0 = true) ∧ (decode dsJ2_length_9d52b_0 1 = .ok (.arraylength, 1) ∧ okop dsJ2_length_9d52b_0 1 = true) ∧ (decode dsJ2_length_9d52b_0 2 = .ok (.iconst 1, 1) ∧ okop dsJ2_length_9d52b_0 2 = true) ∧ (decode dsJ2_length_9d52b_0 3 = .ok (.ishr, 1) ∧ okop dsJ2_length_9d52b_0 3 = true) ∧ (decode dsJ2_length_9d52b_0 4 = .ok (.ireturn, 1) ∧ okop dsJ2_length_9d52b_0 4 = true) := by decide +kernel
theorem dJ2_length_9d52b_0 : decode cJ2_length_9d52b 0 = .ok (.aload_n 0, 1) := dgq (p := 0) daJ2_length_9d52b_0 dbJ2_length_9d52b_0.1
theorem dJ2_length_9d52b_1 : decode cJ2_length_9d52b 1 = .ok (.arraylength, 1) := dgq (p := 1) daJ2_length_9d52b_0 dbJ2_length_9d52b_0.2.1
theorem dJ2_length_9d52b_2 : decode cJ2_length_9d52b 2 = .ok (.iconst 1, 1) := dgq (p := 2) daJ2_length_9d52b_0 dbJ2_length_9d52b_0.2.2.1
theorem dJ2_length_9d52b_3 : decode cJ2_length_9d52b 3 = .ok (.ishr, 1) := dgq (p := 3) daJ2_length_9d52b_0 dbJ2_length_9d52b_0.2.2.2.1
theorem dJ2_length_9d52b_4 : decode cJ2_length_9d52b 4 = .ok (.ireturn, 1) := dgq (p := 4) daJ2_length_9d52b_0 dbJ2_length_9d52b_0.2.2.2.2
set_option maxRecDepth 20000 in
theorem ggJ2_putCharSB_b72d1_J2_checkIndex_2214a : GoodIn wsJ2_putCharSB_b72d1 wsJ2_checkIndex_2214a := goodIn_q _ [4, 5, 6, 3, 7, 8, 9, 10, 11, 12, 13, 14, 15, 16] rfl (by decide +kernel)
set_option maxRecDepth 20000 in
theorem gJ2_putCharSB_b72d1_J2_checkIndex_2214a : GoodIn wsJ2_putCharSB_b72d1 (va_wsS RJ2 67 yJ2_checkIndex_2214a wsJ2_checkIndex_2214a) := goodIn_app (goodIn_q _ [1, 2, 3] rfl (by decide +kernel)) ggJ2_putCharSB_b72d1_J2_checkIndex_2214a
set_option maxRecDepth 20000 in
theorem ggJ2_putCharSB_b72d1_J2_putChar_b72d1 : GoodIn wsJ2_putCharSB_b72d1 wsJ2_putChar_b72d1 := goodIn_q _ [19, 20, 21, 22, 5, 6, 3, 7] rfl (by decide +kernel)
set_option maxRecDepth 20000 in
theorem gJ2_putCharSB_b72d1_J2_putChar_b72d1 : GoodIn wsJ2_putCharSB_b72d1 (va_wsS RJ2 111 yJ2_putChar_b72d1 wsJ2_putChar_b72d1) := goodIn_app (goodIn_q _ [17, 18, 3] rfl (by decide +kernel)) ggJ2_putCharSB_b72d1_J2_putChar_b72d1
def dsJ2_putCharSB_b72d1_0 : ByteArray := ⟨#[27, 42, 184, 0, 67, 42, 27, 28, 184, 0, 111, 177]⟩
theorem daJ2_putCharSB_b72d1_0 : agB cJ2_putCharSB_b72d1 dsJ2_putCharSB_b72d1_0 0 := agB_of (n := 12) (by decide +kernel)
theorem dbJ2_putCharSB_b72d1_0 : (decode dsJ2_putCharSB_b72d1_0 0 = .ok (.iload_n 1, 1) ∧ okop dsJ2_putCharSB_b72d1_0 0 = true) ∧ (decode dsJ2_putCharSB_b72d1_0 1 = .ok (.aload_n 0, 1) ∧ okop dsJ2_putCharSB_b72d1_0 1 = true) ∧ (decode dsJ2_putCharSB_b72d1_0 2 = .ok (.invokestatic 67, 3) ∧ okop dsJ2_putCharSB_b72d1_0 2 = true) ∧ (decode dsJ2_putCharSB_b72d1_0 5 = .ok (.aload_n 0, 1) ∧ okop dsJ2_putCharSB_b72d1_0 5 = true) ∧ (decode dsJ2_putCharSB_b72d1_0 6 = .ok (.iload_n 1, 1) ∧ okop dsJ2_putCharSB_b72d1_0 6 = true) ∧ (decode dsJ2_putCharSB_b72d1_0 7 = .ok (.iload_n 2, 1) ∧ okop dsJ2_putCharSB_b72d1_0 7 = true) ∧ (decode dsJ2_putCharSB_b72d1_0 8 = .ok (.invokestatic 111, 3) ∧ okop dsJ2_putCharSB_b72d1_0 8 = true) ∧ (decode dsJ2_putCharSB_b72d1_0 11 = .ok (.return_, 1) ∧ okop dsJ2_putCharSB_b72d1_0 11 = true) := by decide +kernel
theorem dJ2_putCharSB_b72d1_0 : decode cJ2_putCharSB_b72d1 0 = .ok (.iload_n 1, 1) := dgq (p := 0) daJ2_putCharSB_b72d1_0 dbJ2_putCharSB_b72d1_0.1
theorem dJ2_putCharSB_b72d1_1 : decode cJ2_putCharSB_b72d1 1 = .ok (.aload_n 0, 1) := dgq (p := 1) daJ2_putCharSB_b72d1_0 dbJ2_putCharSB_b72d1_0.2.1
theorem dJ2_putCharSB_b72d1_2 : decode cJ2_putCharSB_b72d1 2 = .ok (.invokestatic 67, 3) := dgq (p := 2) daJ2_putCharSB_b72d1_0 dbJ2_putCharSB_b72d1_0.2.2.1
theorem dJ2_putCharSB_b72d1_5 : decode cJ2_putCharSB_b72d1 5 = .ok (.aload_n 0, 1) := dgq (p := 5) daJ2_putCharSB_b72d1_0 dbJ2_putCharSB_b72d1_0.2.2.2.1
theorem dJ2_putCharSB_b72d1_6 : decode cJ2_putCharSB_b72d1 6 = .ok (.iload_n 1, 1) := dgq (p := 6) daJ2_putCharSB_b72d1_0 dbJ2_putCharSB_b72d1_0.2.2.2.2.1
theorem dJ2_putCharSB_b72d1_7 : decode cJ2_putCharSB_b72d1 7 = .ok (.iload_n 2, 1) := dgq (p := 7) daJ2_putCharSB_b72d1_0 dbJ2_putCharSB_b72d1_0.2.2.2.2.2.1
theorem dJ2_putCharSB_b72d1_8 : decode cJ2_putCharSB_b72d1 8 = .ok (.invokestatic 111, 3) := dgq (p := 8) daJ2_putCharSB_b72d1_0 dbJ2_putCharSB_b72d1_0.2.2.2.2.2.2.1
theorem dJ2_putCharSB_b72d1_11 : decode cJ2_putCharSB_b72d1 11 = .ok (.return_, 1) := dgq (p := 11) daJ2_putCharSB_b72d1_0 dbJ2_putCharSB_b72d1_0.2.2.2.2.2.2.2
set_option maxRecDepth 20000 in
theorem ggJ2_inflate_0e8fd_J2_checkBoundsOffCount_d044e : GoodIn wsJ2_inflate_0e8fd wsJ2_checkBoundsOffCount_d044e := goodIn_q _ [4, 5, 6, 3, 7, 8, 9, 10, 11, 12, 13, 14, 15, 16] rfl (by decide +kernel)
set_option maxRecDepth 20000 in
theorem gJ2_inflate_0e8fd_J2_checkBoundsOffCount_d044e : GoodIn wsJ2_inflate_0e8fd (va_wsS RJ2 173 yJ2_checkBoundsOffCount_d044e wsJ2_checkBoundsOffCount_d044e) := goodIn_app (goodIn_q _ [1, 2, 3] rfl (by decide +kernel)) ggJ2_inflate_0e8fd_J2_checkBoundsOffCount_d044e
set_option maxRecDepth 20000 in
theorem ggJ2_inflate_0e8fd_J2_putChar_b72d1 : GoodIn wsJ2_inflate_0e8fd wsJ2_putChar_b72d1 := goodIn_q _ [19, 20, 21, 22, 5, 6, 3, 7] rfl (by decide +kernel)
set_option maxRecDepth 20000 in
theorem gJ2_inflate_0e8fd_J2_putChar_b72d1 : GoodIn wsJ2_inflate_0e8fd (va_wsS RJ2 111 yJ2_putChar_b72d1 wsJ2_putChar_b72d1) := goodIn_app (goodIn_q _ [17, 18, 3] rfl (by decide +kernel)) ggJ2_inflate_0e8fd_J2_putChar_b72d1
def dsJ2_inflate_0e8fd_0 : ByteArray := ⟨#[29, 21, 4, 44, 184, 0, 173, 3, 54, 5, 21, 5, 21, 4, 162, 0, 27, 44]⟩
theorem daJ2_inflate_0e8fd_0 : agB cJ2_inflate_0e8fd dsJ2_inflate_0e8fd_0 0 := agB_of (n := 18) (by decide +kernel)
theorem dbJ2_inflate_0e8fd_0 : (decode dsJ2_inflate_0e8fd_0 0 = .ok (.iload_n 3, 1) ∧ okop dsJ2_inflate_0e8fd_0 0 = true) ∧ (decode dsJ2_inflate_0e8fd_0 1 = .ok (.iload 4, 2) ∧ okop dsJ2_inflate_0e8fd_0 1 = true) ∧ (decode dsJ2_inflate_0e8fd_0 3 = .ok (.aload_n 2, 1) ∧ okop dsJ2_inflate_0e8fd_0 3 = true) ∧ (decode dsJ2_inflate_0e8fd_0 4 = .ok (.invokestatic 173, 3) ∧ okop dsJ2_inflate_0e8fd_0 4 = true) ∧ (decode dsJ2_inflate_0e8fd_0 7 = .ok (.iconst 0, 1) ∧ okop dsJ2_inflate_0e8fd_0 7 = true) ∧ (decode dsJ2_inflate_0e8fd_0 8 = .ok (.istore 5, 2) ∧ okop dsJ2_inflate_0e8fd_0 8 = true) ∧ (decode dsJ2_inflate_0e8fd_0 10 = .ok (.iload 5, 2) ∧ okop dsJ2_inflate_0e8fd_0 10 = true) ∧ (decode dsJ2_inflate_0e8fd_0 12 = .ok (.iload 4, 2) ∧ okop dsJ2_inflate_0e8fd_0 12 = true) ∧ (decode dsJ2_inflate_0e8fd_0 14 = .ok (.if_icmp .ge 27, 3) ∧ okop dsJ2_inflate_0e8fd_0 14 = true) ∧ (decode dsJ2_inflate_0e8fd_0 17 = .ok (.aload_n 2, 1) ∧ okop dsJ2_inflate_0e8fd_0 17 = true) := by decide +kernel
theorem dJ2_inflate_0e8fd_0 : decode cJ2_inflate_0e8fd 0 = .ok (.iload_n 3, 1) := dgq (p := 0) daJ2_inflate_0e8fd_0 dbJ2_inflate_0e8fd_0.1
theorem dJ2_inflate_0e8fd_1 : decode cJ2_inflate_0e8fd 1 = .ok (.iload 4, 2) := dgq (p := 1) daJ2_inflate_0e8fd_0 dbJ2_inflate_0e8fd_0.2.1
theorem dJ2_inflate_0e8fd_3 : decode cJ2_inflate_0e8fd 3 = .ok (.aload_n 2, 1) := dgq (p := 3) daJ2_inflate_0e8fd_0 dbJ2_inflate_0e8fd_0.2.2.1
theorem dJ2_inflate_0e8fd_4 : decode cJ2_inflate_0e8fd 4 = .ok (.invokestatic 173, 3) := dgq (p := 4) daJ2_inflate_0e8fd_0 dbJ2_inflate_0e8fd_0.2.2.2.1
theorem dJ2_inflate_0e8fd_7 : decode cJ2_inflate_0e8fd 7 = .ok (.iconst 0, 1) := dgq (p := 7) daJ2_inflate_0e8fd_0 dbJ2_inflate_0e8fd_0.2.2.2.2.1
theorem dJ2_inflate_0e8fd_8 : decode cJ2_inflate_0e8fd 8 = .ok (.istore 5, 2) := dgq (p := 8) daJ2_inflate_0e8fd_0 dbJ2_inflate_0e8fd_0.2.2.2.2.2.1
theorem dJ2_inflate_0e8fd_10 : decode cJ2_inflate_0e8fd 10 = .ok (.iload 5, 2) := dgq (p := 10) daJ2_inflate_0e8fd_0 dbJ2_inflate_0e8fd_0.2.2.2.2.2.2.1
theorem dJ2_inflate_0e8fd_12 : decode cJ2_inflate_0e8fd 12 = .ok (.iload 4, 2) := dgq (p := 12) daJ2_inflate_0e8fd_0 dbJ2_inflate_0e8fd_0.2.2.2.2.2.2.2.1
theorem dJ2_inflate_0e8fd_14 : decode cJ2_inflate_0e8fd 14 = .ok (.if_icmp .ge 27, 3) := dgq (p := 14) daJ2_inflate_0e8fd_0 dbJ2_inflate_0e8fd_0.2.2.2.2.2.2.2.2.1
theorem dJ2_inflate_0e8fd_17 : decode cJ2_inflate_0e8fd 17 = .ok (.aload_n 2, 1) := dgq (p := 17) daJ2_inflate_0e8fd_0 dbJ2_inflate_0e8fd_0.2.2.2.2.2.2.2.2.2
def dsJ2_inflate_0e8fd_18 : ByteArray := ⟨#[29, 132, 3, 1, 42, 27, 132, 1, 1, 51, 17, 0, 255, 126, 184, 0, 111, 132, 5, 1]⟩
theorem daJ2_inflate_0e8fd_18 : agB cJ2_inflate_0e8fd dsJ2_inflate_0e8fd_18 18 := agB_of (n := 20) (by decide +kernel)
theorem dbJ2_inflate_0e8fd_18 : (decode dsJ2_inflate_0e8fd_18 0 = .ok (.iload_n 3, 1) ∧ okop dsJ2_inflate_0e8fd_18 0 = true) ∧ (decode dsJ2_inflate_0e8fd_18 1 = .ok (.iinc 3 1, 3) ∧ okop dsJ2_inflate_0e8fd_18 1 = true) ∧ (decode dsJ2_inflate_0e8fd_18 4 = .ok (.aload_n 0, 1) ∧ okop dsJ2_inflate_0e8fd_18 4 = true) ∧ (decode dsJ2_inflate_0e8fd_18 5 = .ok (.iload_n 1, 1) ∧ okop dsJ2_inflate_0e8fd_18 5 = true) ∧ (decode dsJ2_inflate_0e8fd_18 6 = .ok (.iinc 1 1, 3) ∧ okop dsJ2_inflate_0e8fd_18 6 = true) ∧ (decode dsJ2_inflate_0e8fd_18 9 = .ok (.baload, 1) ∧ okop dsJ2_inflate_0e8fd_18 9 = true) ∧ (decode dsJ2_inflate_0e8fd_18 10 = .ok (.sipush 255, 3) ∧ okop dsJ2_inflate_0e8fd_18 10 = true) ∧ (decode dsJ2_inflate_0e8fd_18 13 = .ok (.iand, 1) ∧ okop dsJ2_inflate_0e8fd_18 13 = true) ∧ (decode dsJ2_inflate_0e8fd_18 14 = .ok (.invokestatic 111, 3) ∧ okop dsJ2_inflate_0e8fd_18 14 = true) ∧ (decode dsJ2_inflate_0e8fd_18 17 = .ok (.iinc 5 1, 3) ∧ okop dsJ2_inflate_0e8fd_18 17 = true) := by decide +kernel
theorem dJ2_inflate_0e8fd_18 : decode cJ2_inflate_0e8fd 18 = .ok (.iload_n 3, 1) := dgq (p := 0) daJ2_inflate_0e8fd_18 dbJ2_inflate_0e8fd_18.1
theorem dJ2_inflate_0e8fd_19 : decode cJ2_inflate_0e8fd 19 = .ok (.iinc 3 1, 3) := dgq (p := 1) daJ2_inflate_0e8fd_18 dbJ2_inflate_0e8fd_18.2.1
theorem dJ2_inflate_0e8fd_22 : decode cJ2_inflate_0e8fd 22 = .ok (.aload_n 0, 1) := dgq (p := 4) daJ2_inflate_0e8fd_18 dbJ2_inflate_0e8fd_18.2.2.1
theorem dJ2_inflate_0e8fd_23 : decode cJ2_inflate_0e8fd 23 = .ok (.iload_n 1, 1) := dgq (p := 5) daJ2_inflate_0e8fd_18 dbJ2_inflate_0e8fd_18.2.2.2.1
theorem dJ2_inflate_0e8fd_24 : decode cJ2_inflate_0e8fd 24 = .ok (.iinc 1 1, 3) := dgq (p := 6) daJ2_inflate_0e8fd_18 dbJ2_inflate_0e8fd_18.2.2.2.2.1
theorem dJ2_inflate_0e8fd_27 : decode cJ2_inflate_0e8fd 27 = .ok (.baload, 1) := dgq (p := 9) daJ2_inflate_0e8fd_18 dbJ2_inflate_0e8fd_18.2.2.2.2.2.1
theorem dJ2_inflate_0e8fd_28 : decode cJ2_inflate_0e8fd 28 = .ok (.sipush 255, 3) := dgq (p := 10) daJ2_inflate_0e8fd_18 dbJ2_inflate_0e8fd_18.2.2.2.2.2.2.1
theorem dJ2_inflate_0e8fd_31 : decode cJ2_inflate_0e8fd 31 = .ok (.iand, 1) := dgq (p := 13) daJ2_inflate_0e8fd_18 dbJ2_inflate_0e8fd_18.2.2.2.2.2.2.2.1
theorem dJ2_inflate_0e8fd_32 : decode cJ2_inflate_0e8fd 32 = .ok (.invokestatic 111, 3) := dgq (p := 14) daJ2_inflate_0e8fd_18 dbJ2_inflate_0e8fd_18.2.2.2.2.2.2.2.2.1
theorem dJ2_inflate_0e8fd_35 : decode cJ2_inflate_0e8fd 35 = .ok (.iinc 5 1, 3) := dgq (p := 17) daJ2_inflate_0e8fd_18 dbJ2_inflate_0e8fd_18.2.2.2.2.2.2.2.2.2
theorem dJ2_inflate_0e8fd_38 : decode cJ2_inflate_0e8fd 38 = .ok (.goto (-28), 3) := by decide +kernel
theorem dJ2_inflate_0e8fd_41 : decode cJ2_inflate_0e8fd 41 = .ok (.return_, 1) := by decide +kernel
set_option maxRecDepth 20000 in
theorem ggJ2_checkIndex_2214a_J2_length_9d52b : GoodIn wsJ2_checkIndex_2214a wsJ2_length_9d52b := goodIn_q _ [4] rfl (by decide +kernel)
set_option maxRecDepth 20000 in
theorem gJ2_checkIndex_2214a_J2_length_9d52b : GoodIn wsJ2_checkIndex_2214a (va_wsS RJ2 48 yJ2_length_9d52b wsJ2_length_9d52b) := goodIn_app (goodIn_q _ [1, 2, 3] rfl (by decide +kernel)) ggJ2_checkIndex_2214a_J2_length_9d52b
set_option maxRecDepth 20000 in
theorem ggJ2_checkIndex_2214a_J0_checkIndex_df160 : GoodIn wsJ2_checkIndex_2214a wsJ0_checkIndex_df160 := goodIn_q _ [8, 9, 10, 11, 12, 13] rfl (by decide +kernel)
set_option maxRecDepth 20000 in
theorem gJ2_checkIndex_2214a_J0_checkIndex_df160 : GoodIn wsJ2_checkIndex_2214a (va_wsS RJ2 414 yJ0_checkIndex_df160 wsJ0_checkIndex_df160) := goodIn_app (goodIn_q _ [5, 6, 7] rfl (by decide +kernel)) ggJ2_checkIndex_2214a_J0_checkIndex_df160
def dsJ2_checkIndex_2214a_0 : ByteArray := ⟨#[26, 43, 184, 0, 48, 184, 1, 158, 177]⟩
theorem daJ2_checkIndex_2214a_0 : agB cJ2_checkIndex_2214a dsJ2_checkIndex_2214a_0 0 := agB_of (n := 9) (by decide +kernel)
theorem dbJ2_checkIndex_2214a_0 : (decode dsJ2_checkIndex_2214a_0 0 = .ok (.iload_n 0, 1) ∧ okop dsJ2_checkIndex_2214a_0 0 = true) ∧ (decode dsJ2_checkIndex_2214a_0 1 = .ok (.aload_n 1, 1) ∧ okop dsJ2_checkIndex_2214a_0 1 = true) ∧ (decode dsJ2_checkIndex_2214a_0 2 = .ok (.invokestatic 48, 3) ∧ okop dsJ2_checkIndex_2214a_0 2 = true) ∧ (decode dsJ2_checkIndex_2214a_0 5 = .ok (.invokestatic 414, 3) ∧ okop dsJ2_checkIndex_2214a_0 5 = true) ∧ (decode dsJ2_checkIndex_2214a_0 8 = .ok (.return_, 1) ∧ okop dsJ2_checkIndex_2214a_0 8 = true) := by decide +kernel
theorem dJ2_checkIndex_2214a_0 : decode cJ2_checkIndex_2214a 0 = .ok (.iload_n 0, 1) := dgq (p := 0) daJ2_checkIndex_2214a_0 dbJ2_checkIndex_2214a_0.1
theorem dJ2_checkIndex_2214a_1 : decode cJ2_checkIndex_2214a 1 = .ok (.aload_n 1, 1) := dgq (p := 1) daJ2_checkIndex_2214a_0 dbJ2_checkIndex_2214a_0.2.1
theorem dJ2_checkIndex_2214a_2 : decode cJ2_checkIndex_2214a 2 = .ok (.invokestatic 48, 3) := dgq (p := 2) daJ2_checkIndex_2214a_0 dbJ2_checkIndex_2214a_0.2.2.1
theorem dJ2_checkIndex_2214a_5 : decode cJ2_checkIndex_2214a 5 = .ok (.invokestatic 414, 3) := dgq (p := 5) daJ2_checkIndex_2214a_0 dbJ2_checkIndex_2214a_0.2.2.2.1
theorem dJ2_checkIndex_2214a_8 : decode cJ2_checkIndex_2214a 8 = .ok (.return_, 1) := dgq (p := 8) daJ2_checkIndex_2214a_0 dbJ2_checkIndex_2214a_0.2.2.2.2
set_option maxRecDepth 20000 in
theorem ggJ2_checkBoundsOffCount_d044e_J2_length_9d52b : GoodIn wsJ2_checkBoundsOffCount_d044e wsJ2_length_9d52b := goodIn_q _ [4] rfl (by decide +kernel)
set_option maxRecDepth 20000 in
theorem gJ2_checkBoundsOffCount_d044e_J2_length_9d52b : GoodIn wsJ2_checkBoundsOffCount_d044e (va_wsS RJ2 48 yJ2_length_9d52b wsJ2_length_9d52b) := goodIn_app (goodIn_q _ [1, 2, 3] rfl (by decide +kernel)) ggJ2_checkBoundsOffCount_d044e_J2_length_9d52b
set_option maxRecDepth 20000 in
theorem ggJ2_checkBoundsOffCount_d044e_J0_checkBoundsOffCount_cabcc : GoodIn wsJ2_checkBoundsOffCount_d044e wsJ0_checkBoundsOffCount_cabcc := goodIn_q _ [8, 9, 10, 11, 12, 13] rfl (by decide +kernel)
set_option maxRecDepth 20000 in
theorem gJ2_checkBoundsOffCount_d044e_J0_checkBoundsOffCount_cabcc : GoodIn wsJ2_checkBoundsOffCount_d044e (va_wsS RJ2 419 yJ0_checkBoundsOffCount_cabcc wsJ0_checkBoundsOffCount_cabcc) := goodIn_app (goodIn_q _ [5, 6, 7] rfl (by decide +kernel)) ggJ2_checkBoundsOffCount_d044e_J0_checkBoundsOffCount_cabcc
def dsJ2_checkBoundsOffCount_d044e_0 : ByteArray := ⟨#[26, 27, 44, 184, 0, 48, 184, 1, 163, 87, 177]⟩
theorem daJ2_checkBoundsOffCount_d044e_0 : agB cJ2_checkBoundsOffCount_d044e dsJ2_checkBoundsOffCount_d044e_0 0 := agB_of (n := 11) (by decide +kernel)
theorem dbJ2_checkBoundsOffCount_d044e_0 : (decode dsJ2_checkBoundsOffCount_d044e_0 0 = .ok (.iload_n 0, 1) ∧ okop dsJ2_checkBoundsOffCount_d044e_0 0 = true) ∧ (decode dsJ2_checkBoundsOffCount_d044e_0 1 = .ok (.iload_n 1, 1) ∧ okop dsJ2_checkBoundsOffCount_d044e_0 1 = true) ∧ (decode dsJ2_checkBoundsOffCount_d044e_0 2 = .ok (.aload_n 2, 1) ∧ okop dsJ2_checkBoundsOffCount_d044e_0 2 = true) ∧ (decode dsJ2_checkBoundsOffCount_d044e_0 3 = .ok (.invokestatic 48, 3) ∧ okop dsJ2_checkBoundsOffCount_d044e_0 3 = true) ∧ (decode dsJ2_checkBoundsOffCount_d044e_0 6 = .ok (.invokestatic 419, 3) ∧ okop dsJ2_checkBoundsOffCount_d044e_0 6 = true) ∧ (decode dsJ2_checkBoundsOffCount_d044e_0 9 = .ok (.pop, 1) ∧ okop dsJ2_checkBoundsOffCount_d044e_0 9 = true) ∧ (decode dsJ2_checkBoundsOffCount_d044e_0 10 = .ok (.return_, 1) ∧ okop dsJ2_checkBoundsOffCount_d044e_0 10 = true) := by decide +kernel
theorem dJ2_checkBoundsOffCount_d044e_0 : decode cJ2_checkBoundsOffCount_d044e 0 = .ok (.iload_n 0, 1) := dgq (p := 0) daJ2_checkBoundsOffCount_d044e_0 dbJ2_checkBoundsOffCount_d044e_0.1
theorem dJ2_checkBoundsOffCount_d044e_1 : decode cJ2_checkBoundsOffCount_d044e 1 = .ok (.iload_n 1, 1) := dgq (p := 1) daJ2_checkBoundsOffCount_d044e_0 dbJ2_checkBoundsOffCount_d044e_0.2.1
theorem dJ2_checkBoundsOffCount_d044e_2 : decode cJ2_checkBoundsOffCount_d044e 2 = .ok (.aload_n 2, 1) := dgq (p := 2) daJ2_checkBoundsOffCount_d044e_0 dbJ2_checkBoundsOffCount_d044e_0.2.2.1
theorem dJ2_checkBoundsOffCount_d044e_3 : decode cJ2_checkBoundsOffCount_d044e 3 = .ok (.invokestatic 48, 3) := dgq (p := 3) daJ2_checkBoundsOffCount_d044e_0 dbJ2_checkBoundsOffCount_d044e_0.2.2.2.1
theorem dJ2_checkBoundsOffCount_d044e_6 : decode cJ2_checkBoundsOffCount_d044e 6 = .ok (.invokestatic 419, 3) := dgq (p := 6) daJ2_checkBoundsOffCount_d044e_0 dbJ2_checkBoundsOffCount_d044e_0.2.2.2.2.1
theorem dJ2_checkBoundsOffCount_d044e_9 : decode cJ2_checkBoundsOffCount_d044e 9 = .ok (.pop, 1) := dgq (p := 9) daJ2_checkBoundsOffCount_d044e_0 dbJ2_checkBoundsOffCount_d044e_0.2.2.2.2.2.1
theorem dJ2_checkBoundsOffCount_d044e_10 : decode cJ2_checkBoundsOffCount_d044e 10 = .ok (.return_, 1) := dgq (p := 10) daJ2_checkBoundsOffCount_d044e_0 dbJ2_checkBoundsOffCount_d044e_0.2.2.2.2.2.2
def dsJxa1e45_init_da8c8_0 : ByteArray := ⟨#[42, 183, 0, 1, 177]⟩
theorem daJxa1e45_init_da8c8_0 : agB cJxa1e45_init_da8c8 dsJxa1e45_init_da8c8_0 0 := agB_of (n := 5) (by decide +kernel)
theorem dbJxa1e45_init_da8c8_0 : (decode dsJxa1e45_init_da8c8_0 0 = .ok (.aload_n 0, 1) ∧ okop dsJxa1e45_init_da8c8_0 0 = true) ∧ (decode dsJxa1e45_init_da8c8_0 1 = .ok (.invokespecial 1, 3) ∧ okop dsJxa1e45_init_da8c8_0 1 = true) ∧ (decode dsJxa1e45_init_da8c8_0 4 = .ok (.return_, 1) ∧ okop dsJxa1e45_init_da8c8_0 4 = true) := by decide +kernel
theorem dJxa1e45_init_da8c8_0 : decode cJxa1e45_init_da8c8 0 = .ok (.aload_n 0, 1) := dgq (p := 0) daJxa1e45_init_da8c8_0 dbJxa1e45_init_da8c8_0.1
theorem dJxa1e45_init_da8c8_1 : decode cJxa1e45_init_da8c8 1 = .ok (.invokespecial 1, 3) := dgq (p := 1) daJxa1e45_init_da8c8_0 dbJxa1e45_init_da8c8_0.2.1
theorem dJxa1e45_init_da8c8_4 : decode cJxa1e45_init_da8c8 4 = .ok (.return_, 1) := dgq (p := 4) daJxa1e45_init_da8c8_0 dbJxa1e45_init_da8c8_0.2.2
set_option maxRecDepth 20000 in
theorem ggJxc12de_init_da8c8_Jxa1e45_init_da8c8 : GoodIn wsJxc12de_init_da8c8 wsJxa1e45_init_da8c8 := goodIn_q _ [5, 6, 7, 8] rfl (by decide +kernel)
set_option maxRecDepth 20000 in
theorem gJxc12de_init_da8c8_Jxa1e45_init_da8c8 : GoodIn wsJxc12de_init_da8c8 (wsJxa1e45_init_da8c8) := ggJxc12de_init_da8c8_Jxa1e45_init_da8c8
def dsJxc12de_init_da8c8_0 : ByteArray := ⟨#[42, 183, 0, 1, 42, 3, 181, 0, 7, 177]⟩
theorem daJxc12de_init_da8c8_0 : agB cJxc12de_init_da8c8 dsJxc12de_init_da8c8_0 0 := agB_of (n := 10) (by decide +kernel)
theorem dbJxc12de_init_da8c8_0 : (decode dsJxc12de_init_da8c8_0 0 = .ok (.aload_n 0, 1) ∧ okop dsJxc12de_init_da8c8_0 0 = true) ∧ (decode dsJxc12de_init_da8c8_0 1 = .ok (.invokespecial 1, 3) ∧ okop dsJxc12de_init_da8c8_0 1 = true) ∧ (decode dsJxc12de_init_da8c8_0 4 = .ok (.aload_n 0, 1) ∧ okop dsJxc12de_init_da8c8_0 4 = true) ∧ (decode dsJxc12de_init_da8c8_0 5 = .ok (.iconst 0, 1) ∧ okop dsJxc12de_init_da8c8_0 5 = true) ∧ (decode dsJxc12de_init_da8c8_0 6 = .ok (.putfield 7, 3) ∧ okop dsJxc12de_init_da8c8_0 6 = true) ∧ (decode dsJxc12de_init_da8c8_0 9 = .ok (.return_, 1) ∧ okop dsJxc12de_init_da8c8_0 9 = true) := by decide +kernel
theorem dJxc12de_init_da8c8_0 : decode cJxc12de_init_da8c8 0 = .ok (.aload_n 0, 1) := dgq (p := 0) daJxc12de_init_da8c8_0 dbJxc12de_init_da8c8_0.1
theorem dJxc12de_init_da8c8_1 : decode cJxc12de_init_da8c8 1 = .ok (.invokespecial 1, 3) := dgq (p := 1) daJxc12de_init_da8c8_0 dbJxc12de_init_da8c8_0.2.1
theorem dJxc12de_init_da8c8_4 : decode cJxc12de_init_da8c8 4 = .ok (.aload_n 0, 1) := dgq (p := 4) daJxc12de_init_da8c8_0 dbJxc12de_init_da8c8_0.2.2.1
theorem dJxc12de_init_da8c8_5 : decode cJxc12de_init_da8c8 5 = .ok (.iconst 0, 1) := dgq (p := 5) daJxc12de_init_da8c8_0 dbJxc12de_init_da8c8_0.2.2.2.1
theorem dJxc12de_init_da8c8_6 : decode cJxc12de_init_da8c8 6 = .ok (.putfield 7, 3) := dgq (p := 6) daJxc12de_init_da8c8_0 dbJxc12de_init_da8c8_0.2.2.2.2.1
theorem dJxc12de_init_da8c8_9 : decode cJxc12de_init_da8c8 9 = .ok (.return_, 1) := dgq (p := 9) daJxc12de_init_da8c8_0 dbJxc12de_init_da8c8_0.2.2.2.2.2
set_option maxRecDepth 20000 in
theorem ggJx4a65c_init_da8c8_Jxc12de_init_da8c8 : GoodIn wsJx4a65c_init_da8c8 wsJxc12de_init_da8c8 := goodIn_ca (goodIn_q _ [6, 7, 8, 9, 10, 11, 12, 13, 14] rfl (by decide +kernel)) (goodIn_sub (fun _ h => (List.mem_cons_of_mem _ (List.mem_append_right _ h))) tg_wsJx4a65c0)
set_option maxRecDepth 20000 in
theorem gJx4a65c_init_da8c8_Jxc12de_init_da8c8 : GoodIn wsJx4a65c_init_da8c8 (wsJxc12de_init_da8c8) := ggJx4a65c_init_da8c8_Jxc12de_init_da8c8
def dsJx4a65c_init_da8c8_0 : ByteArray := ⟨#[42, 183, 0, 1, 42, 178, 0, 39, 181, 0, 9, 177]⟩
theorem daJx4a65c_init_da8c8_0 : agB cJx4a65c_init_da8c8 dsJx4a65c_init_da8c8_0 0 := agB_of (n := 12) (by decide +kernel)
theorem dbJx4a65c_init_da8c8_0 : (decode dsJx4a65c_init_da8c8_0 0 = .ok (.aload_n 0, 1) ∧ okop dsJx4a65c_init_da8c8_0 0 = true) ∧ (decode dsJx4a65c_init_da8c8_0 1 = .ok (.invokespecial 1, 3) ∧ okop dsJx4a65c_init_da8c8_0 1 = true) ∧ (decode dsJx4a65c_init_da8c8_0 4 = .ok (.aload_n 0, 1) ∧ okop dsJx4a65c_init_da8c8_0 4 = true) ∧ (decode dsJx4a65c_init_da8c8_0 5 = .ok (.getstatic 39, 3) ∧ okop dsJx4a65c_init_da8c8_0 5 = true) ∧ (decode dsJx4a65c_init_da8c8_0 8 = .ok (.putfield 9, 3) ∧ okop dsJx4a65c_init_da8c8_0 8 = true) ∧ (decode dsJx4a65c_init_da8c8_0 11 = .ok (.return_, 1) ∧ okop dsJx4a65c_init_da8c8_0 11 = true) := by decide +kernel
theorem dJx4a65c_init_da8c8_0 : decode cJx4a65c_init_da8c8 0 = .ok (.aload_n 0, 1) := dgq (p := 0) daJx4a65c_init_da8c8_0 dbJx4a65c_init_da8c8_0.1
theorem dJx4a65c_init_da8c8_1 : decode cJx4a65c_init_da8c8 1 = .ok (.invokespecial 1, 3) := dgq (p := 1) daJx4a65c_init_da8c8_0 dbJx4a65c_init_da8c8_0.2.1
theorem dJx4a65c_init_da8c8_4 : decode cJx4a65c_init_da8c8 4 = .ok (.aload_n 0, 1) := dgq (p := 4) daJx4a65c_init_da8c8_0 dbJx4a65c_init_da8c8_0.2.2.1
theorem dJx4a65c_init_da8c8_5 : decode cJx4a65c_init_da8c8 5 = .ok (.getstatic 39, 3) := dgq (p := 5) daJx4a65c_init_da8c8_0 dbJx4a65c_init_da8c8_0.2.2.2.1
theorem dJx4a65c_init_da8c8_8 : decode cJx4a65c_init_da8c8 8 = .ok (.putfield 9, 3) := dgq (p := 8) daJx4a65c_init_da8c8_0 dbJx4a65c_init_da8c8_0.2.2.2.2.1
theorem dJx4a65c_init_da8c8_11 : decode cJx4a65c_init_da8c8 11 = .ok (.return_, 1) := dgq (p := 11) daJx4a65c_init_da8c8_0 dbJx4a65c_init_da8c8_0.2.2.2.2.2
set_option maxRecDepth 20000 in
theorem ggJx4a65c_grow_92f84_J8_newLength_cabcc : GoodIn wsJx4a65c_grow_92f84 wsJ8_newLength_cabcc := goodIn_q _ [11, 12, 4, 5, 6, 13, 14, 15, 10, 16] rfl (by decide +kernel)
set_option maxRecDepth 20000 in
theorem gJx4a65c_grow_92f84_J8_newLength_cabcc : GoodIn wsJx4a65c_grow_92f84 (va_wsS RJx4a65c 73 yJ8_newLength_cabcc wsJ8_newLength_cabcc) := goodIn_app (goodIn_q _ [8, 9, 10] rfl (by decide +kernel)) ggJx4a65c_grow_92f84_J8_newLength_cabcc
set_option maxRecDepth 20000 in
theorem ggJx4a65c_grow_92f84_J7_copyOf_1904c : GoodIn wsJx4a65c_grow_92f84 wsJ7_copyOf_1904c := goodIn_q _ [20, 21, 22, 23, 24, 25, 26, 19, 27, 28, 29, 30, 31, 5, 32, 33, 34, 35, 36] rfl (by decide +kernel)
set_option maxRecDepth 20000 in
theorem gJx4a65c_grow_92f84_J7_copyOf_1904c : GoodIn wsJx4a65c_grow_92f84 (va_wsS RJx4a65c 66 yJ7_copyOf_1904c wsJ7_copyOf_1904c) := goodIn_app (goodIn_q _ [17, 18, 19] rfl (by decide +kernel)) ggJx4a65c_grow_92f84_J7_copyOf_1904c
def dsJx4a65c_grow_92f84_0 : ByteArray := ⟨#[42, 180, 0, 9, 190, 61, 28, 157, 0, 13, 42, 180, 0, 9, 178, 0, 39, 165, 0, 28]⟩
theorem daJx4a65c_grow_92f84_0 : agB cJx4a65c_grow_92f84 dsJx4a65c_grow_92f84_0 0 := agB_of (n := 20) (by decide +kernel)
theorem dbJx4a65c_grow_92f84_0 : (decode dsJx4a65c_grow_92f84_0 0 = .ok (.aload_n 0, 1) ∧ okop dsJx4a65c_grow_92f84_0 0 = true) ∧ (decode dsJx4a65c_grow_92f84_0 1 = .ok (.getfield 9, 3) ∧ okop dsJx4a65c_grow_92f84_0 1 = true) ∧ (decode dsJx4a65c_grow_92f84_0 4 = .ok (.arraylength, 1) ∧ okop dsJx4a65c_grow_92f84_0 4 = true) ∧ (decode dsJx4a65c_grow_92f84_0 5 = .ok (.istore_n 2, 1) ∧ okop dsJx4a65c_grow_92f84_0 5 = true) ∧ (decode dsJx4a65c_grow_92f84_0 6 = .ok (.iload_n 2, 1) ∧ okop dsJx4a65c_grow_92f84_0 6 = true) ∧ (decode dsJx4a65c_grow_92f84_0 7 = .ok (.ifCond .gt 13, 3) ∧ okop dsJx4a65c_grow_92f84_0 7 = true) ∧ (decode dsJx4a65c_grow_92f84_0 10 = .ok (.aload_n 0, 1) ∧ okop dsJx4a65c_grow_92f84_0 10 = true) ∧ (decode dsJx4a65c_grow_92f84_0 11 = .ok (.getfield 9, 3) ∧ okop dsJx4a65c_grow_92f84_0 11 = true) ∧ (decode dsJx4a65c_grow_92f84_0 14 = .ok (.getstatic 39, 3) ∧ okop dsJx4a65c_grow_92f84_0 14 = true) ∧ (decode dsJx4a65c_grow_92f84_0 17 = .ok (.if_acmp .eq 28, 3) ∧ okop dsJx4a65c_grow_92f84_0 17 = true) := by decide +kernel
theorem dJx4a65c_grow_92f84_0 : decode cJx4a65c_grow_92f84 0 = .ok (.aload_n 0, 1) := dgq (p := 0) daJx4a65c_grow_92f84_0 dbJx4a65c_grow_92f84_0.1
theorem dJx4a65c_grow_92f84_1 : decode cJx4a65c_grow_92f84 1 = .ok (.getfield 9, 3) := dgq (p := 1) daJx4a65c_grow_92f84_0 dbJx4a65c_grow_92f84_0.2.1
theorem dJx4a65c_grow_92f84_4 : decode cJx4a65c_grow_92f84 4 = .ok (.arraylength, 1) := dgq (p := 4) daJx4a65c_grow_92f84_0 dbJx4a65c_grow_92f84_0.2.2.1
theorem dJx4a65c_grow_92f84_5 : decode cJx4a65c_grow_92f84 5 = .ok (.istore_n 2, 1) := dgq (p := 5) daJx4a65c_grow_92f84_0 dbJx4a65c_grow_92f84_0.2.2.2.1
theorem dJx4a65c_grow_92f84_6 : decode cJx4a65c_grow_92f84 6 = .ok (.iload_n 2, 1) := dgq (p := 6) daJx4a65c_grow_92f84_0 dbJx4a65c_grow_92f84_0.2.2.2.2.1
theorem dJx4a65c_grow_92f84_7 : decode cJx4a65c_grow_92f84 7 = .ok (.ifCond .gt 13, 3) := dgq (p := 7) daJx4a65c_grow_92f84_0 dbJx4a65c_grow_92f84_0.2.2.2.2.2.1
theorem dJx4a65c_grow_92f84_10 : decode cJx4a65c_grow_92f84 10 = .ok (.aload_n 0, 1) := dgq (p := 10) daJx4a65c_grow_92f84_0 dbJx4a65c_grow_92f84_0.2.2.2.2.2.2.1
theorem dJx4a65c_grow_92f84_11 : decode cJx4a65c_grow_92f84 11 = .ok (.getfield 9, 3) := dgq (p := 11) daJx4a65c_grow_92f84_0 dbJx4a65c_grow_92f84_0.2.2.2.2.2.2.2.1
theorem dJx4a65c_grow_92f84_14 : decode cJx4a65c_grow_92f84 14 = .ok (.getstatic 39, 3) := dgq (p := 14) daJx4a65c_grow_92f84_0 dbJx4a65c_grow_92f84_0.2.2.2.2.2.2.2.2.1
theorem dJx4a65c_grow_92f84_17 : decode cJx4a65c_grow_92f84 17 = .ok (.if_acmp .eq 28, 3) := dgq (p := 17) daJx4a65c_grow_92f84_0 dbJx4a65c_grow_92f84_0.2.2.2.2.2.2.2.2.2
def dsJx4a65c_grow_92f84_20 : ByteArray := ⟨#[28, 27, 28, 100, 28, 4, 122, 184, 0, 73, 62, 42]⟩
theorem daJx4a65c_grow_92f84_20 : agB cJx4a65c_grow_92f84 dsJx4a65c_grow_92f84_20 20 := agB_of (n := 12) (by decide +kernel)
theorem dbJx4a65c_grow_92f84_20 : (decode dsJx4a65c_grow_92f84_20 0 = .ok (.iload_n 2, 1) ∧ okop dsJx4a65c_grow_92f84_20 0 = true) ∧ (decode dsJx4a65c_grow_92f84_20 1 = .ok (.iload_n 1, 1) ∧ okop dsJx4a65c_grow_92f84_20 1 = true) ∧ (decode dsJx4a65c_grow_92f84_20 2 = .ok (.iload_n 2, 1) ∧ okop dsJx4a65c_grow_92f84_20 2 = true) ∧ (decode dsJx4a65c_grow_92f84_20 3 = .ok (.isub, 1) ∧ okop dsJx4a65c_grow_92f84_20 3 = true) ∧ (decode dsJx4a65c_grow_92f84_20 4 = .ok (.iload_n 2, 1) ∧ okop dsJx4a65c_grow_92f84_20 4 = true) ∧ (decode dsJx4a65c_grow_92f84_20 5 = .ok (.iconst 1, 1) ∧ okop dsJx4a65c_grow_92f84_20 5 = true) ∧ (decode dsJx4a65c_grow_92f84_20 6 = .ok (.ishr, 1) ∧ okop dsJx4a65c_grow_92f84_20 6 = true) ∧ (decode dsJx4a65c_grow_92f84_20 7 = .ok (.invokestatic 73, 3) ∧ okop dsJx4a65c_grow_92f84_20 7 = true) ∧ (decode dsJx4a65c_grow_92f84_20 10 = .ok (.istore_n 3, 1) ∧ okop dsJx4a65c_grow_92f84_20 10 = true) ∧ (decode dsJx4a65c_grow_92f84_20 11 = .ok (.aload_n 0, 1) ∧ okop dsJx4a65c_grow_92f84_20 11 = true) := by decide +kernel
theorem dJx4a65c_grow_92f84_20 : decode cJx4a65c_grow_92f84 20 = .ok (.iload_n 2, 1) := dgq (p := 0) daJx4a65c_grow_92f84_20 dbJx4a65c_grow_92f84_20.1
theorem dJx4a65c_grow_92f84_21 : decode cJx4a65c_grow_92f84 21 = .ok (.iload_n 1, 1) := dgq (p := 1) daJx4a65c_grow_92f84_20 dbJx4a65c_grow_92f84_20.2.1
theorem dJx4a65c_grow_92f84_22 : decode cJx4a65c_grow_92f84 22 = .ok (.iload_n 2, 1) := dgq (p := 2) daJx4a65c_grow_92f84_20 dbJx4a65c_grow_92f84_20.2.2.1
theorem dJx4a65c_grow_92f84_23 : decode cJx4a65c_grow_92f84 23 = .ok (.isub, 1) := dgq (p := 3) daJx4a65c_grow_92f84_20 dbJx4a65c_grow_92f84_20.2.2.2.1
theorem dJx4a65c_grow_92f84_24 : decode cJx4a65c_grow_92f84 24 = .ok (.iload_n 2, 1) := dgq (p := 4) daJx4a65c_grow_92f84_20 dbJx4a65c_grow_92f84_20.2.2.2.2.1
theorem dJx4a65c_grow_92f84_25 : decode cJx4a65c_grow_92f84 25 = .ok (.iconst 1, 1) := dgq (p := 5) daJx4a65c_grow_92f84_20 dbJx4a65c_grow_92f84_20.2.2.2.2.2.1
theorem dJx4a65c_grow_92f84_26 : decode cJx4a65c_grow_92f84 26 = .ok (.ishr, 1) := dgq (p := 6) daJx4a65c_grow_92f84_20 dbJx4a65c_grow_92f84_20.2.2.2.2.2.2.1
theorem dJx4a65c_grow_92f84_27 : decode cJx4a65c_grow_92f84 27 = .ok (.invokestatic 73, 3) := dgq (p := 7) daJx4a65c_grow_92f84_20 dbJx4a65c_grow_92f84_20.2.2.2.2.2.2.2.1
theorem dJx4a65c_grow_92f84_30 : decode cJx4a65c_grow_92f84 30 = .ok (.istore_n 3, 1) := dgq (p := 10) daJx4a65c_grow_92f84_20 dbJx4a65c_grow_92f84_20.2.2.2.2.2.2.2.2.1
theorem dJx4a65c_grow_92f84_31 : decode cJx4a65c_grow_92f84 31 = .ok (.aload_n 0, 1) := dgq (p := 11) daJx4a65c_grow_92f84_20 dbJx4a65c_grow_92f84_20.2.2.2.2.2.2.2.2.2
def dsJx4a65c_grow_92f84_32 : ByteArray := ⟨#[42, 180, 0, 9, 29, 184, 0, 66, 90, 181, 0, 9, 176, 42, 16, 10, 27]⟩
theorem daJx4a65c_grow_92f84_32 : agB cJx4a65c_grow_92f84 dsJx4a65c_grow_92f84_32 32 := agB_of (n := 17) (by decide +kernel)
theorem dbJx4a65c_grow_92f84_32 : (decode dsJx4a65c_grow_92f84_32 0 = .ok (.aload_n 0, 1) ∧ okop dsJx4a65c_grow_92f84_32 0 = true) ∧ (decode dsJx4a65c_grow_92f84_32 1 = .ok (.getfield 9, 3) ∧ okop dsJx4a65c_grow_92f84_32 1 = true) ∧ (decode dsJx4a65c_grow_92f84_32 4 = .ok (.iload_n 3, 1) ∧ okop dsJx4a65c_grow_92f84_32 4 = true) ∧ (decode dsJx4a65c_grow_92f84_32 5 = .ok (.invokestatic 66, 3) ∧ okop dsJx4a65c_grow_92f84_32 5 = true) ∧ (decode dsJx4a65c_grow_92f84_32 8 = .ok (.dup_x1, 1) ∧ okop dsJx4a65c_grow_92f84_32 8 = true) ∧ (decode dsJx4a65c_grow_92f84_32 9 = .ok (.putfield 9, 3) ∧ okop dsJx4a65c_grow_92f84_32 9 = true) ∧ (decode dsJx4a65c_grow_92f84_32 12 = .ok (.areturn, 1) ∧ okop dsJx4a65c_grow_92f84_32 12 = true) ∧ (decode dsJx4a65c_grow_92f84_32 13 = .ok (.aload_n 0, 1) ∧ okop dsJx4a65c_grow_92f84_32 13 = true) ∧ (decode dsJx4a65c_grow_92f84_32 14 = .ok (.bipush 10, 2) ∧ okop dsJx4a65c_grow_92f84_32 14 = true) ∧ (decode dsJx4a65c_grow_92f84_32 16 = .ok (.iload_n 1, 1) ∧ okop dsJx4a65c_grow_92f84_32 16 = true) := by decide +kernel
theorem dJx4a65c_grow_92f84_32 : decode cJx4a65c_grow_92f84 32 = .ok (.aload_n 0, 1) := dgq (p := 0) daJx4a65c_grow_92f84_32 dbJx4a65c_grow_92f84_32.1
theorem dJx4a65c_grow_92f84_33 : decode cJx4a65c_grow_92f84 33 = .ok (.getfield 9, 3) := dgq (p := 1) daJx4a65c_grow_92f84_32 dbJx4a65c_grow_92f84_32.2.1
theorem dJx4a65c_grow_92f84_36 : decode cJx4a65c_grow_92f84 36 = .ok (.iload_n 3, 1) := dgq (p := 4) daJx4a65c_grow_92f84_32 dbJx4a65c_grow_92f84_32.2.2.1
theorem dJx4a65c_grow_92f84_37 : decode cJx4a65c_grow_92f84 37 = .ok (.invokestatic 66, 3) := dgq (p := 5) daJx4a65c_grow_92f84_32 dbJx4a65c_grow_92f84_32.2.2.2.1
theorem dJx4a65c_grow_92f84_40 : decode cJx4a65c_grow_92f84 40 = .ok (.dup_x1, 1) := dgq (p := 8) daJx4a65c_grow_92f84_32 dbJx4a65c_grow_92f84_32.2.2.2.2.1
theorem dJx4a65c_grow_92f84_41 : decode cJx4a65c_grow_92f84 41 = .ok (.putfield 9, 3) := dgq (p := 9) daJx4a65c_grow_92f84_32 dbJx4a65c_grow_92f84_32.2.2.2.2.2.1
theorem dJx4a65c_grow_92f84_44 : decode cJx4a65c_grow_92f84 44 = .ok (.areturn, 1) := dgq (p := 12) daJx4a65c_grow_92f84_32 dbJx4a65c_grow_92f84_32.2.2.2.2.2.2.1
theorem dJx4a65c_grow_92f84_45 : decode cJx4a65c_grow_92f84 45 = .ok (.aload_n 0, 1) := dgq (p := 13) daJx4a65c_grow_92f84_32 dbJx4a65c_grow_92f84_32.2.2.2.2.2.2.2.1
theorem dJx4a65c_grow_92f84_46 : decode cJx4a65c_grow_92f84 46 = .ok (.bipush 10, 2) := dgq (p := 14) daJx4a65c_grow_92f84_32 dbJx4a65c_grow_92f84_32.2.2.2.2.2.2.2.2.1
theorem dJx4a65c_grow_92f84_48 : decode cJx4a65c_grow_92f84 48 = .ok (.iload_n 1, 1) := dgq (p := 16) daJx4a65c_grow_92f84_32 dbJx4a65c_grow_92f84_32.2.2.2.2.2.2.2.2.2
def dsJx4a65c_grow_92f84_49 : ByteArray := ⟨#[184, 0, 79, 189, 0, 7, 90, 181, 0, 9, 176]⟩
theorem daJx4a65c_grow_92f84_49 : agB cJx4a65c_grow_92f84 dsJx4a65c_grow_92f84_49 49 := agB_of (n := 11) (by decide +kernel)
theorem dbJx4a65c_grow_92f84_49 : (decode dsJx4a65c_grow_92f84_49 0 = .ok (.invokestatic 79, 3) ∧ okop dsJx4a65c_grow_92f84_49 0 = true) ∧ (decode dsJx4a65c_grow_92f84_49 3 = .ok (.anewarray 7, 3) ∧ okop dsJx4a65c_grow_92f84_49 3 = true) ∧ (decode dsJx4a65c_grow_92f84_49 6 = .ok (.dup_x1, 1) ∧ okop dsJx4a65c_grow_92f84_49 6 = true) ∧ (decode dsJx4a65c_grow_92f84_49 7 = .ok (.putfield 9, 3) ∧ okop dsJx4a65c_grow_92f84_49 7 = true) ∧ (decode dsJx4a65c_grow_92f84_49 10 = .ok (.areturn, 1) ∧ okop dsJx4a65c_grow_92f84_49 10 = true) := by decide +kernel
theorem dJx4a65c_grow_92f84_49 : decode cJx4a65c_grow_92f84 49 = .ok (.invokestatic 79, 3) := dgq (p := 0) daJx4a65c_grow_92f84_49 dbJx4a65c_grow_92f84_49.1
theorem dJx4a65c_grow_92f84_52 : decode cJx4a65c_grow_92f84 52 = .ok (.anewarray 7, 3) := dgq (p := 3) daJx4a65c_grow_92f84_49 dbJx4a65c_grow_92f84_49.2.1
theorem dJx4a65c_grow_92f84_55 : decode cJx4a65c_grow_92f84 55 = .ok (.dup_x1, 1) := dgq (p := 6) daJx4a65c_grow_92f84_49 dbJx4a65c_grow_92f84_49.2.2.1
theorem dJx4a65c_grow_92f84_56 : decode cJx4a65c_grow_92f84 56 = .ok (.putfield 9, 3) := dgq (p := 7) daJx4a65c_grow_92f84_49 dbJx4a65c_grow_92f84_49.2.2.2.1
theorem dJx4a65c_grow_92f84_59 : decode cJx4a65c_grow_92f84 59 = .ok (.areturn, 1) := dgq (p := 10) daJx4a65c_grow_92f84_49 dbJx4a65c_grow_92f84_49.2.2.2.2
set_option maxRecDepth 20000 in
theorem ggJx4a65c_grow_d5877_Jx4a65c_grow_92f84 : GoodIn wsJx4a65c_grow_d5877 wsJx4a65c_grow_92f84 := goodIn_ca (goodIn_q _ [6, 7, 8, 9, 10, 11, 12, 13, 14, 15, 16, 17, 18, 19, 20, 21, 22, 23, 24, 25, 26, 27, 28, 29, 30, 31, 32, 33, 34, 35, 36, 37, 38, 39, 40, 41, 42] rfl (by decide +kernel)) (goodIn_sub (fun _ h => (List.mem_cons_of_mem _ (List.mem_append_right _ h))) tg_wsJx4a65c0)
set_option maxRecDepth 20000 in
theorem gJx4a65c_grow_d5877_Jx4a65c_grow_92f84 : GoodIn wsJx4a65c_grow_d5877 (wsV RJx4a65c 69 RJx4a65c yJx4a65c_grow_92f84 wsJx4a65c_grow_92f84) := goodIn_app (goodIn_q _ [2, 3, 4, 5] rfl (by decide +kernel)) ggJx4a65c_grow_d5877_Jx4a65c_grow_92f84
def dsJx4a65c_grow_d5877_0 : ByteArray := ⟨#[42, 42, 180, 0, 48, 4, 96, 182, 0, 69, 176]⟩
theorem daJx4a65c_grow_d5877_0 : agB cJx4a65c_grow_d5877 dsJx4a65c_grow_d5877_0 0 := agB_of (n := 11) (by decide +kernel)
theorem dbJx4a65c_grow_d5877_0 : (decode dsJx4a65c_grow_d5877_0 0 = .ok (.aload_n 0, 1) ∧ okop dsJx4a65c_grow_d5877_0 0 = true) ∧ (decode dsJx4a65c_grow_d5877_0 1 = .ok (.aload_n 0, 1) ∧ okop dsJx4a65c_grow_d5877_0 1 = true) ∧ (decode dsJx4a65c_grow_d5877_0 2 = .ok (.getfield 48, 3) ∧ okop dsJx4a65c_grow_d5877_0 2 = true) ∧ (decode dsJx4a65c_grow_d5877_0 5 = .ok (.iconst 1, 1) ∧ okop dsJx4a65c_grow_d5877_0 5 = true) ∧ (decode dsJx4a65c_grow_d5877_0 6 = .ok (.iadd, 1) ∧ okop dsJx4a65c_grow_d5877_0 6 = true) ∧ (decode dsJx4a65c_grow_d5877_0 7 = .ok (.invokevirtual 69, 3) ∧ okop dsJx4a65c_grow_d5877_0 7 = true) ∧ (decode dsJx4a65c_grow_d5877_0 10 = .ok (.areturn, 1) ∧ okop dsJx4a65c_grow_d5877_0 10 = true) := by decide +kernel
theorem dJx4a65c_grow_d5877_0 : decode cJx4a65c_grow_d5877 0 = .ok (.aload_n 0, 1) := dgq (p := 0) daJx4a65c_grow_d5877_0 dbJx4a65c_grow_d5877_0.1
theorem dJx4a65c_grow_d5877_1 : decode cJx4a65c_grow_d5877 1 = .ok (.aload_n 0, 1) := dgq (p := 1) daJx4a65c_grow_d5877_0 dbJx4a65c_grow_d5877_0.2.1
theorem dJx4a65c_grow_d5877_2 : decode cJx4a65c_grow_d5877 2 = .ok (.getfield 48, 3) := dgq (p := 2) daJx4a65c_grow_d5877_0 dbJx4a65c_grow_d5877_0.2.2.1
theorem dJx4a65c_grow_d5877_5 : decode cJx4a65c_grow_d5877 5 = .ok (.iconst 1, 1) := dgq (p := 5) daJx4a65c_grow_d5877_0 dbJx4a65c_grow_d5877_0.2.2.2.1
theorem dJx4a65c_grow_d5877_6 : decode cJx4a65c_grow_d5877 6 = .ok (.iadd, 1) := dgq (p := 6) daJx4a65c_grow_d5877_0 dbJx4a65c_grow_d5877_0.2.2.2.2.1
theorem dJx4a65c_grow_d5877_7 : decode cJx4a65c_grow_d5877 7 = .ok (.invokevirtual 69, 3) := dgq (p := 7) daJx4a65c_grow_d5877_0 dbJx4a65c_grow_d5877_0.2.2.2.2.2.1
theorem dJx4a65c_grow_d5877_10 : decode cJx4a65c_grow_d5877 10 = .ok (.areturn, 1) := dgq (p := 10) daJx4a65c_grow_d5877_0 dbJx4a65c_grow_d5877_0.2.2.2.2.2.2
def dsJx4a65c_size_8abf5_0 : ByteArray := ⟨#[42, 180, 0, 48, 172]⟩
theorem daJx4a65c_size_8abf5_0 : agB cJx4a65c_size_8abf5 dsJx4a65c_size_8abf5_0 0 := agB_of (n := 5) (by decide +kernel)
theorem dbJx4a65c_size_8abf5_0 : (decode dsJx4a65c_size_8abf5_0 0 = .ok (.aload_n 0, 1) ∧ okop dsJx4a65c_size_8abf5_0 0 = true) ∧ (decode dsJx4a65c_size_8abf5_0 1 = .ok (.getfield 48, 3) ∧ okop dsJx4a65c_size_8abf5_0 1 = true) ∧ (decode dsJx4a65c_size_8abf5_0 4 = .ok (.ireturn, 1) ∧ okop dsJx4a65c_size_8abf5_0 4 = true) := by decide +kernel
theorem dJx4a65c_size_8abf5_0 : decode cJx4a65c_size_8abf5 0 = .ok (.aload_n 0, 1) := dgq (p := 0) daJx4a65c_size_8abf5_0 dbJx4a65c_size_8abf5_0.1
theorem dJx4a65c_size_8abf5_1 : decode cJx4a65c_size_8abf5 1 = .ok (.getfield 48, 3) := dgq (p := 1) daJx4a65c_size_8abf5_0 dbJx4a65c_size_8abf5_0.2.1
theorem dJx4a65c_size_8abf5_4 : decode cJx4a65c_size_8abf5 4 = .ok (.ireturn, 1) := dgq (p := 4) daJx4a65c_size_8abf5_0 dbJx4a65c_size_8abf5_0.2.2
def dsJx4a65c_isEmpty_aae02_0 : ByteArray := ⟨#[42, 180, 0, 48, 154, 0, 7, 4, 167, 0, 4, 3, 172]⟩
theorem daJx4a65c_isEmpty_aae02_0 : agB cJx4a65c_isEmpty_aae02 dsJx4a65c_isEmpty_aae02_0 0 := agB_of (n := 13) (by decide +kernel)
theorem dbJx4a65c_isEmpty_aae02_0 : (decode dsJx4a65c_isEmpty_aae02_0 0 = .ok (.aload_n 0, 1) ∧ okop dsJx4a65c_isEmpty_aae02_0 0 = true) ∧ (decode dsJx4a65c_isEmpty_aae02_0 1 = .ok (.getfield 48, 3) ∧ okop dsJx4a65c_isEmpty_aae02_0 1 = true) ∧ (decode dsJx4a65c_isEmpty_aae02_0 4 = .ok (.ifCond .ne 7, 3) ∧ okop dsJx4a65c_isEmpty_aae02_0 4 = true) ∧ (decode dsJx4a65c_isEmpty_aae02_0 7 = .ok (.iconst 1, 1) ∧ okop dsJx4a65c_isEmpty_aae02_0 7 = true) ∧ (decode dsJx4a65c_isEmpty_aae02_0 8 = .ok (.goto 4, 3) ∧ okop dsJx4a65c_isEmpty_aae02_0 8 = true) ∧ (decode dsJx4a65c_isEmpty_aae02_0 11 = .ok (.iconst 0, 1) ∧ okop dsJx4a65c_isEmpty_aae02_0 11 = true) ∧ (decode dsJx4a65c_isEmpty_aae02_0 12 = .ok (.ireturn, 1) ∧ okop dsJx4a65c_isEmpty_aae02_0 12 = true) := by decide +kernel
theorem dJx4a65c_isEmpty_aae02_0 : decode cJx4a65c_isEmpty_aae02 0 = .ok (.aload_n 0, 1) := dgq (p := 0) daJx4a65c_isEmpty_aae02_0 dbJx4a65c_isEmpty_aae02_0.1
theorem dJx4a65c_isEmpty_aae02_1 : decode cJx4a65c_isEmpty_aae02 1 = .ok (.getfield 48, 3) := dgq (p := 1) daJx4a65c_isEmpty_aae02_0 dbJx4a65c_isEmpty_aae02_0.2.1
theorem dJx4a65c_isEmpty_aae02_4 : decode cJx4a65c_isEmpty_aae02 4 = .ok (.ifCond .ne 7, 3) := dgq (p := 4) daJx4a65c_isEmpty_aae02_0 dbJx4a65c_isEmpty_aae02_0.2.2.1
theorem dJx4a65c_isEmpty_aae02_7 : decode cJx4a65c_isEmpty_aae02 7 = .ok (.iconst 1, 1) := dgq (p := 7) daJx4a65c_isEmpty_aae02_0 dbJx4a65c_isEmpty_aae02_0.2.2.2.1
theorem dJx4a65c_isEmpty_aae02_8 : decode cJx4a65c_isEmpty_aae02 8 = .ok (.goto 4, 3) := dgq (p := 8) daJx4a65c_isEmpty_aae02_0 dbJx4a65c_isEmpty_aae02_0.2.2.2.2.1
theorem dJx4a65c_isEmpty_aae02_11 : decode cJx4a65c_isEmpty_aae02 11 = .ok (.iconst 0, 1) := dgq (p := 11) daJx4a65c_isEmpty_aae02_0 dbJx4a65c_isEmpty_aae02_0.2.2.2.2.2.1
theorem dJx4a65c_isEmpty_aae02_12 : decode cJx4a65c_isEmpty_aae02 12 = .ok (.ireturn, 1) := dgq (p := 12) daJx4a65c_isEmpty_aae02_0 dbJx4a65c_isEmpty_aae02_0.2.2.2.2.2.2
def dsJx4a65c_elementData_915e3_0 : ByteArray := ⟨#[42, 180, 0, 9, 27, 50, 176]⟩
theorem daJx4a65c_elementData_915e3_0 : agB cJx4a65c_elementData_915e3 dsJx4a65c_elementData_915e3_0 0 := agB_of (n := 7) (by decide +kernel)
theorem dbJx4a65c_elementData_915e3_0 : (decode dsJx4a65c_elementData_915e3_0 0 = .ok (.aload_n 0, 1) ∧ okop dsJx4a65c_elementData_915e3_0 0 = true) ∧ (decode dsJx4a65c_elementData_915e3_0 1 = .ok (.getfield 9, 3) ∧ okop dsJx4a65c_elementData_915e3_0 1 = true) ∧ (decode dsJx4a65c_elementData_915e3_0 4 = .ok (.iload_n 1, 1) ∧ okop dsJx4a65c_elementData_915e3_0 4 = true) ∧ (decode dsJx4a65c_elementData_915e3_0 5 = .ok (.aaload, 1) ∧ okop dsJx4a65c_elementData_915e3_0 5 = true) ∧ (decode dsJx4a65c_elementData_915e3_0 6 = .ok (.areturn, 1) ∧ okop dsJx4a65c_elementData_915e3_0 6 = true) := by decide +kernel
theorem dJx4a65c_elementData_915e3_0 : decode cJx4a65c_elementData_915e3 0 = .ok (.aload_n 0, 1) := dgq (p := 0) daJx4a65c_elementData_915e3_0 dbJx4a65c_elementData_915e3_0.1
theorem dJx4a65c_elementData_915e3_1 : decode cJx4a65c_elementData_915e3 1 = .ok (.getfield 9, 3) := dgq (p := 1) daJx4a65c_elementData_915e3_0 dbJx4a65c_elementData_915e3_0.2.1
theorem dJx4a65c_elementData_915e3_4 : decode cJx4a65c_elementData_915e3 4 = .ok (.iload_n 1, 1) := dgq (p := 4) daJx4a65c_elementData_915e3_0 dbJx4a65c_elementData_915e3_0.2.2.1
theorem dJx4a65c_elementData_915e3_5 : decode cJx4a65c_elementData_915e3 5 = .ok (.aaload, 1) := dgq (p := 5) daJx4a65c_elementData_915e3_0 dbJx4a65c_elementData_915e3_0.2.2.2.1
theorem dJx4a65c_elementData_915e3_6 : decode cJx4a65c_elementData_915e3 6 = .ok (.areturn, 1) := dgq (p := 6) daJx4a65c_elementData_915e3_0 dbJx4a65c_elementData_915e3_0.2.2.2.2
set_option maxRecDepth 20000 in
theorem ggJx4a65c_get_915e3_J15_checkIndex_7cf53 : GoodIn wsJx4a65c_get_915e3 wsJ15_checkIndex_7cf53 := goodIn_q _ [5, 6, 7, 8, 9] rfl (by decide +kernel)
set_option maxRecDepth 20000 in
theorem gJx4a65c_get_915e3_J15_checkIndex_7cf53 : GoodIn wsJx4a65c_get_915e3 (va_wsS RJx4a65c 118 yJ15_checkIndex_7cf53 wsJ15_checkIndex_7cf53) := goodIn_app (goodIn_q _ [2, 3, 4] rfl (by decide +kernel)) ggJx4a65c_get_915e3_J15_checkIndex_7cf53
set_option maxRecDepth 20000 in
theorem ggJx4a65c_get_915e3_Jx4a65c_elementData_915e3 : GoodIn wsJx4a65c_get_915e3 wsJx4a65c_elementData_915e3 := goodIn_ca (goodIn_q _ [14, 15] rfl (by decide +kernel)) (goodIn_sub (fun _ h => (List.mem_cons_of_mem _ (List.mem_append_right _ h))) tg_wsJx4a65c0)
set_option maxRecDepth 20000 in
theorem gJx4a65c_get_915e3_Jx4a65c_elementData_915e3 : GoodIn wsJx4a65c_get_915e3 (wsV RJx4a65c 123 RJx4a65c yJx4a65c_elementData_915e3 wsJx4a65c_elementData_915e3) := goodIn_app (goodIn_q _ [10, 11, 12, 13] rfl (by decide +kernel)) ggJx4a65c_get_915e3_Jx4a65c_elementData_915e3
def dsJx4a65c_get_915e3_0 : ByteArray := ⟨#[27, 42, 180, 0, 48, 184, 0, 118, 87, 42, 27, 182, 0, 123, 176]⟩
theorem daJx4a65c_get_915e3_0 : agB cJx4a65c_get_915e3 dsJx4a65c_get_915e3_0 0 := agB_of (n := 15) (by decide +kernel)
theorem dbJx4a65c_get_915e3_0 : (decode dsJx4a65c_get_915e3_0 0 = .ok (.iload_n 1, 1) ∧ okop dsJx4a65c_get_915e3_0 0 = true) ∧ (decode dsJx4a65c_get_915e3_0 1 = .ok (.aload_n 0, 1) ∧ okop dsJx4a65c_get_915e3_0 1 = true) ∧ (decode dsJx4a65c_get_915e3_0 2 = .ok (.getfield 48, 3) ∧ okop dsJx4a65c_get_915e3_0 2 = true) ∧ (decode dsJx4a65c_get_915e3_0 5 = .ok (.invokestatic 118, 3) ∧ okop dsJx4a65c_get_915e3_0 5 = true) ∧ (decode dsJx4a65c_get_915e3_0 8 = .ok (.pop, 1) ∧ okop dsJx4a65c_get_915e3_0 8 = true) ∧ (decode dsJx4a65c_get_915e3_0 9 = .ok (.aload_n 0, 1) ∧ okop dsJx4a65c_get_915e3_0 9 = true) ∧ (decode dsJx4a65c_get_915e3_0 10 = .ok (.iload_n 1, 1) ∧ okop dsJx4a65c_get_915e3_0 10 = true) ∧ (decode dsJx4a65c_get_915e3_0 11 = .ok (.invokevirtual 123, 3) ∧ okop dsJx4a65c_get_915e3_0 11 = true) ∧ (decode dsJx4a65c_get_915e3_0 14 = .ok (.areturn, 1) ∧ okop dsJx4a65c_get_915e3_0 14 = true) := by decide +kernel
theorem dJx4a65c_get_915e3_0 : decode cJx4a65c_get_915e3 0 = .ok (.iload_n 1, 1) := dgq (p := 0) daJx4a65c_get_915e3_0 dbJx4a65c_get_915e3_0.1
theorem dJx4a65c_get_915e3_1 : decode cJx4a65c_get_915e3 1 = .ok (.aload_n 0, 1) := dgq (p := 1) daJx4a65c_get_915e3_0 dbJx4a65c_get_915e3_0.2.1
theorem dJx4a65c_get_915e3_2 : decode cJx4a65c_get_915e3 2 = .ok (.getfield 48, 3) := dgq (p := 2) daJx4a65c_get_915e3_0 dbJx4a65c_get_915e3_0.2.2.1
theorem dJx4a65c_get_915e3_5 : decode cJx4a65c_get_915e3 5 = .ok (.invokestatic 118, 3) := dgq (p := 5) daJx4a65c_get_915e3_0 dbJx4a65c_get_915e3_0.2.2.2.1
theorem dJx4a65c_get_915e3_8 : decode cJx4a65c_get_915e3 8 = .ok (.pop, 1) := dgq (p := 8) daJx4a65c_get_915e3_0 dbJx4a65c_get_915e3_0.2.2.2.2.1
theorem dJx4a65c_get_915e3_9 : decode cJx4a65c_get_915e3 9 = .ok (.aload_n 0, 1) := dgq (p := 9) daJx4a65c_get_915e3_0 dbJx4a65c_get_915e3_0.2.2.2.2.2.1
theorem dJx4a65c_get_915e3_10 : decode cJx4a65c_get_915e3 10 = .ok (.iload_n 1, 1) := dgq (p := 10) daJx4a65c_get_915e3_0 dbJx4a65c_get_915e3_0.2.2.2.2.2.2.1
theorem dJx4a65c_get_915e3_11 : decode cJx4a65c_get_915e3 11 = .ok (.invokevirtual 123, 3) := dgq (p := 11) daJx4a65c_get_915e3_0 dbJx4a65c_get_915e3_0.2.2.2.2.2.2.2.1
theorem dJx4a65c_get_915e3_14 : decode cJx4a65c_get_915e3 14 = .ok (.areturn, 1) := dgq (p := 14) daJx4a65c_get_915e3_0 dbJx4a65c_get_915e3_0.2.2.2.2.2.2.2.2
set_option maxRecDepth 20000 in
theorem ggJx4a65c_add_72be8_Jx4a65c_grow_d5877 : GoodIn wsJx4a65c_add_72be8 wsJx4a65c_grow_d5877 := goodIn_ca (goodIn_q _ [6, 1, 7, 8, 9, 5, 10, 11, 12, 13, 14, 15, 16, 17, 18, 19, 20, 21, 22, 23, 24, 25, 26, 27, 28, 29, 30, 31, 32, 33, 34, 35, 36, 37, 38, 39, 40, 41, 42, 43, 44, 45, 46] rfl (by decide +kernel)) (goodIn_sub (fun _ h => (List.mem_cons_of_mem _ (List.mem_append_right _ h))) tg_wsJx4a65c0)
set_option maxRecDepth 20000 in
theorem gJx4a65c_add_72be8_Jx4a65c_grow_d5877 : GoodIn wsJx4a65c_add_72be8 (wsV RJx4a65c 129 RJx4a65c yJx4a65c_grow_d5877 wsJx4a65c_grow_d5877) := goodIn_app (goodIn_q _ [2, 3, 4, 5] rfl (by decide +kernel)) ggJx4a65c_add_72be8_Jx4a65c_grow_d5877
def dsJx4a65c_add_72be8_0 : ByteArray := ⟨#[29, 44, 190, 160, 0, 8, 42, 182, 0, 129, 77, 44, 29, 43]⟩
theorem daJx4a65c_add_72be8_0 : agB cJx4a65c_add_72be8 dsJx4a65c_add_72be8_0 0 := agB_of (n := 14) (by decide +kernel)
theorem dbJx4a65c_add_72be8_0 : (decode dsJx4a65c_add_72be8_0 0 = .ok (.iload_n 3, 1) ∧ okop dsJx4a65c_add_72be8_0 0 = true) ∧ (decode dsJx4a65c_add_72be8_0 1 = .ok (.aload_n 2, 1) ∧ okop dsJx4a65c_add_72be8_0 1 = true) ∧ (decode dsJx4a65c_add_72be8_0 2 = .ok (.arraylength, 1) ∧ okop dsJx4a65c_add_72be8_0 2 = true) ∧ (decode dsJx4a65c_add_72be8_0 3 = .ok (.if_icmp .ne 8, 3) ∧ okop dsJx4a65c_add_72be8_0 3 = true) ∧ (decode dsJx4a65c_add_72be8_0 6 = .ok (.aload_n 0, 1) ∧ okop dsJx4a65c_add_72be8_0 6 = true) ∧ (decode dsJx4a65c_add_72be8_0 7 = .ok (.invokevirtual 129, 3) ∧ okop dsJx4a65c_add_72be8_0 7 = true) ∧ (decode dsJx4a65c_add_72be8_0 10 = .ok (.astore_n 2, 1) ∧ okop dsJx4a65c_add_72be8_0 10 = true) ∧ (decode dsJx4a65c_add_72be8_0 11 = .ok (.aload_n 2, 1) ∧ okop dsJx4a65c_add_72be8_0 11 = true) ∧ (decode dsJx4a65c_add_72be8_0 12 = .ok (.iload_n 3, 1) ∧ okop dsJx4a65c_add_72be8_0 12 = true) ∧ (decode dsJx4a65c_add_72be8_0 13 = .ok (.aload_n 1, 1) ∧ okop dsJx4a65c_add_72be8_0 13 = true) := by decide +kernel
theorem dJx4a65c_add_72be8_0 : decode cJx4a65c_add_72be8 0 = .ok (.iload_n 3, 1) := dgq (p := 0) daJx4a65c_add_72be8_0 dbJx4a65c_add_72be8_0.1
theorem dJx4a65c_add_72be8_1 : decode cJx4a65c_add_72be8 1 = .ok (.aload_n 2, 1) := dgq (p := 1) daJx4a65c_add_72be8_0 dbJx4a65c_add_72be8_0.2.1
theorem dJx4a65c_add_72be8_2 : decode cJx4a65c_add_72be8 2 = .ok (.arraylength, 1) := dgq (p := 2) daJx4a65c_add_72be8_0 dbJx4a65c_add_72be8_0.2.2.1
theorem dJx4a65c_add_72be8_3 : decode cJx4a65c_add_72be8 3 = .ok (.if_icmp .ne 8, 3) := dgq (p := 3) daJx4a65c_add_72be8_0 dbJx4a65c_add_72be8_0.2.2.2.1
theorem dJx4a65c_add_72be8_6 : decode cJx4a65c_add_72be8 6 = .ok (.aload_n 0, 1) := dgq (p := 6) daJx4a65c_add_72be8_0 dbJx4a65c_add_72be8_0.2.2.2.2.1
theorem dJx4a65c_add_72be8_7 : decode cJx4a65c_add_72be8 7 = .ok (.invokevirtual 129, 3) := dgq (p := 7) daJx4a65c_add_72be8_0 dbJx4a65c_add_72be8_0.2.2.2.2.2.1
theorem dJx4a65c_add_72be8_10 : decode cJx4a65c_add_72be8 10 = .ok (.astore_n 2, 1) := dgq (p := 10) daJx4a65c_add_72be8_0 dbJx4a65c_add_72be8_0.2.2.2.2.2.2.1
theorem dJx4a65c_add_72be8_11 : decode cJx4a65c_add_72be8 11 = .ok (.aload_n 2, 1) := dgq (p := 11) daJx4a65c_add_72be8_0 dbJx4a65c_add_72be8_0.2.2.2.2.2.2.2.1
theorem dJx4a65c_add_72be8_12 : decode cJx4a65c_add_72be8 12 = .ok (.iload_n 3, 1) := dgq (p := 12) daJx4a65c_add_72be8_0 dbJx4a65c_add_72be8_0.2.2.2.2.2.2.2.2.1
theorem dJx4a65c_add_72be8_13 : decode cJx4a65c_add_72be8 13 = .ok (.aload_n 1, 1) := dgq (p := 13) daJx4a65c_add_72be8_0 dbJx4a65c_add_72be8_0.2.2.2.2.2.2.2.2.2
def dsJx4a65c_add_72be8_14 : ByteArray := ⟨#[83, 42, 29, 4, 96, 181, 0, 48, 177]⟩
theorem daJx4a65c_add_72be8_14 : agB cJx4a65c_add_72be8 dsJx4a65c_add_72be8_14 14 := agB_of (n := 9) (by decide +kernel)
theorem dbJx4a65c_add_72be8_14 : (decode dsJx4a65c_add_72be8_14 0 = .ok (.aastore, 1) ∧ okop dsJx4a65c_add_72be8_14 0 = true) ∧ (decode dsJx4a65c_add_72be8_14 1 = .ok (.aload_n 0, 1) ∧ okop dsJx4a65c_add_72be8_14 1 = true) ∧ (decode dsJx4a65c_add_72be8_14 2 = .ok (.iload_n 3, 1) ∧ okop dsJx4a65c_add_72be8_14 2 = true) ∧ (decode dsJx4a65c_add_72be8_14 3 = .ok (.iconst 1, 1) ∧ okop dsJx4a65c_add_72be8_14 3 = true) ∧ (decode dsJx4a65c_add_72be8_14 4 = .ok (.iadd, 1) ∧ okop dsJx4a65c_add_72be8_14 4 = true) ∧ (decode dsJx4a65c_add_72be8_14 5 = .ok (.putfield 48, 3) ∧ okop dsJx4a65c_add_72be8_14 5 = true) ∧ (decode dsJx4a65c_add_72be8_14 8 = .ok (.return_, 1) ∧ okop dsJx4a65c_add_72be8_14 8 = true) := by decide +kernel
theorem dJx4a65c_add_72be8_14 : decode cJx4a65c_add_72be8 14 = .ok (.aastore, 1) := dgq (p := 0) daJx4a65c_add_72be8_14 dbJx4a65c_add_72be8_14.1
theorem dJx4a65c_add_72be8_15 : decode cJx4a65c_add_72be8 15 = .ok (.aload_n 0, 1) := dgq (p := 1) daJx4a65c_add_72be8_14 dbJx4a65c_add_72be8_14.2.1
theorem dJx4a65c_add_72be8_16 : decode cJx4a65c_add_72be8 16 = .ok (.iload_n 3, 1) := dgq (p := 2) daJx4a65c_add_72be8_14 dbJx4a65c_add_72be8_14.2.2.1
theorem dJx4a65c_add_72be8_17 : decode cJx4a65c_add_72be8 17 = .ok (.iconst 1, 1) := dgq (p := 3) daJx4a65c_add_72be8_14 dbJx4a65c_add_72be8_14.2.2.2.1
theorem dJx4a65c_add_72be8_18 : decode cJx4a65c_add_72be8 18 = .ok (.iadd, 1) := dgq (p := 4) daJx4a65c_add_72be8_14 dbJx4a65c_add_72be8_14.2.2.2.2.1
theorem dJx4a65c_add_72be8_19 : decode cJx4a65c_add_72be8 19 = .ok (.putfield 48, 3) := dgq (p := 5) daJx4a65c_add_72be8_14 dbJx4a65c_add_72be8_14.2.2.2.2.2.1
theorem dJx4a65c_add_72be8_22 : decode cJx4a65c_add_72be8 22 = .ok (.return_, 1) := dgq (p := 8) daJx4a65c_add_72be8_14 dbJx4a65c_add_72be8_14.2.2.2.2.2.2
set_option maxRecDepth 20000 in
theorem ggJx4a65c_add_9ea2d_Jx4a65c_add_72be8 : GoodIn wsJx4a65c_add_9ea2d wsJx4a65c_add_72be8 := goodIn_ca (goodIn_q _ [9, 4, 10, 11, 12, 8, 13, 14, 15, 16, 17, 3, 18, 19, 20, 21, 22, 23, 24, 25, 26, 27, 28, 29, 30, 31, 32, 33, 34, 35, 36, 37, 38, 39, 40, 41, 42, 43, 44, 45, 46, 47, 48, 49, 50, 51, 52] rfl (by decide +kernel)) (goodIn_sub (fun _ h => (List.mem_cons_of_mem _ (List.mem_append_right _ h))) tg_wsJx4a65c0)
set_option maxRecDepth 20000 in
theorem gJx4a65c_add_9ea2d_Jx4a65c_add_72be8 : GoodIn wsJx4a65c_add_9ea2d (wsV RJx4a65c 131 RJx4a65c yJx4a65c_add_72be8 wsJx4a65c_add_72be8) := goodIn_app (goodIn_q _ [5, 6, 7, 8] rfl (by decide +kernel)) ggJx4a65c_add_9ea2d_Jx4a65c_add_72be8
def dsJx4a65c_add_9ea2d_0 : ByteArray := ⟨#[42, 89, 180, 0, 63, 4, 96, 181, 0, 63, 42, 43, 42, 180, 0, 9]⟩
theorem daJx4a65c_add_9ea2d_0 : agB cJx4a65c_add_9ea2d dsJx4a65c_add_9ea2d_0 0 := agB_of (n := 16) (by decide +kernel)
theorem dbJx4a65c_add_9ea2d_0 : (decode dsJx4a65c_add_9ea2d_0 0 = .ok (.aload_n 0, 1) ∧ okop dsJx4a65c_add_9ea2d_0 0 = true) ∧ (decode dsJx4a65c_add_9ea2d_0 1 = .ok (.dup, 1) ∧ okop dsJx4a65c_add_9ea2d_0 1 = true) ∧ (decode dsJx4a65c_add_9ea2d_0 2 = .ok (.getfield 63, 3) ∧ okop dsJx4a65c_add_9ea2d_0 2 = true) ∧ (decode dsJx4a65c_add_9ea2d_0 5 = .ok (.iconst 1, 1) ∧ okop dsJx4a65c_add_9ea2d_0 5 = true) ∧ (decode dsJx4a65c_add_9ea2d_0 6 = .ok (.iadd, 1) ∧ okop dsJx4a65c_add_9ea2d_0 6 = true) ∧ (decode dsJx4a65c_add_9ea2d_0 7 = .ok (.putfield 63, 3) ∧ okop dsJx4a65c_add_9ea2d_0 7 = true) ∧ (decode dsJx4a65c_add_9ea2d_0 10 = .ok (.aload_n 0, 1) ∧ okop dsJx4a65c_add_9ea2d_0 10 = true) ∧ (decode dsJx4a65c_add_9ea2d_0 11 = .ok (.aload_n 1, 1) ∧ okop dsJx4a65c_add_9ea2d_0 11 = true) ∧ (decode dsJx4a65c_add_9ea2d_0 12 = .ok (.aload_n 0, 1) ∧ okop dsJx4a65c_add_9ea2d_0 12 = true) ∧ (decode dsJx4a65c_add_9ea2d_0 13 = .ok (.getfield 9, 3) ∧ okop dsJx4a65c_add_9ea2d_0 13 = true) := by decide +kernel
theorem dJx4a65c_add_9ea2d_0 : decode cJx4a65c_add_9ea2d 0 = .ok (.aload_n 0, 1) := dgq (p := 0) daJx4a65c_add_9ea2d_0 dbJx4a65c_add_9ea2d_0.1
theorem dJx4a65c_add_9ea2d_1 : decode cJx4a65c_add_9ea2d 1 = .ok (.dup, 1) := dgq (p := 1) daJx4a65c_add_9ea2d_0 dbJx4a65c_add_9ea2d_0.2.1
theorem dJx4a65c_add_9ea2d_2 : decode cJx4a65c_add_9ea2d 2 = .ok (.getfield 63, 3) := dgq (p := 2) daJx4a65c_add_9ea2d_0 dbJx4a65c_add_9ea2d_0.2.2.1
theorem dJx4a65c_add_9ea2d_5 : decode cJx4a65c_add_9ea2d 5 = .ok (.iconst 1, 1) := dgq (p := 5) daJx4a65c_add_9ea2d_0 dbJx4a65c_add_9ea2d_0.2.2.2.1
theorem dJx4a65c_add_9ea2d_6 : decode cJx4a65c_add_9ea2d 6 = .ok (.iadd, 1) := dgq (p := 6) daJx4a65c_add_9ea2d_0 dbJx4a65c_add_9ea2d_0.2.2.2.2.1
theorem dJx4a65c_add_9ea2d_7 : decode cJx4a65c_add_9ea2d 7 = .ok (.putfield 63, 3) := dgq (p := 7) daJx4a65c_add_9ea2d_0 dbJx4a65c_add_9ea2d_0.2.2.2.2.2.1
theorem dJx4a65c_add_9ea2d_10 : decode cJx4a65c_add_9ea2d 10 = .ok (.aload_n 0, 1) := dgq (p := 10) daJx4a65c_add_9ea2d_0 dbJx4a65c_add_9ea2d_0.2.2.2.2.2.2.1
theorem dJx4a65c_add_9ea2d_11 : decode cJx4a65c_add_9ea2d 11 = .ok (.aload_n 1, 1) := dgq (p := 11) daJx4a65c_add_9ea2d_0 dbJx4a65c_add_9ea2d_0.2.2.2.2.2.2.2.1
theorem dJx4a65c_add_9ea2d_12 : decode cJx4a65c_add_9ea2d 12 = .ok (.aload_n 0, 1) := dgq (p := 12) daJx4a65c_add_9ea2d_0 dbJx4a65c_add_9ea2d_0.2.2.2.2.2.2.2.2.1
theorem dJx4a65c_add_9ea2d_13 : decode cJx4a65c_add_9ea2d 13 = .ok (.getfield 9, 3) := dgq (p := 13) daJx4a65c_add_9ea2d_0 dbJx4a65c_add_9ea2d_0.2.2.2.2.2.2.2.2.2
def dsJx4a65c_add_9ea2d_16 : ByteArray := ⟨#[42, 180, 0, 48, 182, 0, 131, 4, 172]⟩
theorem daJx4a65c_add_9ea2d_16 : agB cJx4a65c_add_9ea2d dsJx4a65c_add_9ea2d_16 16 := agB_of (n := 9) (by decide +kernel)
theorem dbJx4a65c_add_9ea2d_16 : (decode dsJx4a65c_add_9ea2d_16 0 = .ok (.aload_n 0, 1) ∧ okop dsJx4a65c_add_9ea2d_16 0 = true) ∧ (decode dsJx4a65c_add_9ea2d_16 1 = .ok (.getfield 48, 3) ∧ okop dsJx4a65c_add_9ea2d_16 1 = true) ∧ (decode dsJx4a65c_add_9ea2d_16 4 = .ok (.invokevirtual 131, 3) ∧ okop dsJx4a65c_add_9ea2d_16 4 = true) ∧ (decode dsJx4a65c_add_9ea2d_16 7 = .ok (.iconst 1, 1) ∧ okop dsJx4a65c_add_9ea2d_16 7 = true) ∧ (decode dsJx4a65c_add_9ea2d_16 8 = .ok (.ireturn, 1) ∧ okop dsJx4a65c_add_9ea2d_16 8 = true) := by decide +kernel
theorem dJx4a65c_add_9ea2d_16 : decode cJx4a65c_add_9ea2d 16 = .ok (.aload_n 0, 1) := dgq (p := 0) daJx4a65c_add_9ea2d_16 dbJx4a65c_add_9ea2d_16.1
theorem dJx4a65c_add_9ea2d_17 : decode cJx4a65c_add_9ea2d 17 = .ok (.getfield 48, 3) := dgq (p := 1) daJx4a65c_add_9ea2d_16 dbJx4a65c_add_9ea2d_16.2.1
theorem dJx4a65c_add_9ea2d_20 : decode cJx4a65c_add_9ea2d 20 = .ok (.invokevirtual 131, 3) := dgq (p := 4) daJx4a65c_add_9ea2d_16 dbJx4a65c_add_9ea2d_16.2.2.1
theorem dJx4a65c_add_9ea2d_23 : decode cJx4a65c_add_9ea2d 23 = .ok (.iconst 1, 1) := dgq (p := 7) daJx4a65c_add_9ea2d_16 dbJx4a65c_add_9ea2d_16.2.2.2.1
theorem dJx4a65c_add_9ea2d_24 : decode cJx4a65c_add_9ea2d 24 = .ok (.ireturn, 1) := dgq (p := 8) daJx4a65c_add_9ea2d_16 dbJx4a65c_add_9ea2d_16.2.2.2.2
set_option maxRecDepth 20000 in
theorem ggJ7_copyOf_1904c_J7_copyOf_6403c : GoodIn wsJ7_copyOf_1904c wsJ7_copyOf_6403c := goodIn_q _ [8, 9, 10, 11, 12, 13, 14, 15, 16, 17, 18] rfl (by decide +kernel)
set_option maxRecDepth 20000 in
theorem gJ7_copyOf_1904c_J7_copyOf_6403c : GoodIn wsJ7_copyOf_1904c (va_wsS RJ7 300 yJ7_copyOf_6403c wsJ7_copyOf_6403c) := goodIn_app (goodIn_q _ [5, 6, 7] rfl (by decide +kernel)) ggJ7_copyOf_1904c_J7_copyOf_6403c
def dsJ7_copyOf_1904c_0 : ByteArray := ⟨#[42, 27, 42, 182, 0, 86, 184, 1, 44, 176]⟩
theorem daJ7_copyOf_1904c_0 : agB cJ7_copyOf_1904c dsJ7_copyOf_1904c_0 0 := agB_of (n := 10) (by decide +kernel)
theorem dbJ7_copyOf_1904c_0 : (decode dsJ7_copyOf_1904c_0 0 = .ok (.aload_n 0, 1) ∧ okop dsJ7_copyOf_1904c_0 0 = true) ∧ (decode dsJ7_copyOf_1904c_0 1 = .ok (.iload_n 1, 1) ∧ okop dsJ7_copyOf_1904c_0 1 = true) ∧ (decode dsJ7_copyOf_1904c_0 2 = .ok (.aload_n 0, 1) ∧ okop dsJ7_copyOf_1904c_0 2 = true) ∧ (decode dsJ7_copyOf_1904c_0 3 = .ok (.invokevirtual 86, 3) ∧ okop dsJ7_copyOf_1904c_0 3 = true) ∧ (decode dsJ7_copyOf_1904c_0 6 = .ok (.invokestatic 300, 3) ∧ okop dsJ7_copyOf_1904c_0 6 = true) ∧ (decode dsJ7_copyOf_1904c_0 9 = .ok (.areturn, 1) ∧ okop dsJ7_copyOf_1904c_0 9 = true) := by decide +kernel
theorem dJ7_copyOf_1904c_0 : decode cJ7_copyOf_1904c 0 = .ok (.aload_n 0, 1) := dgq (p := 0) daJ7_copyOf_1904c_0 dbJ7_copyOf_1904c_0.1
theorem dJ7_copyOf_1904c_1 : decode cJ7_copyOf_1904c 1 = .ok (.iload_n 1, 1) := dgq (p := 1) daJ7_copyOf_1904c_0 dbJ7_copyOf_1904c_0.2.1
theorem dJ7_copyOf_1904c_2 : decode cJ7_copyOf_1904c 2 = .ok (.aload_n 0, 1) := dgq (p := 2) daJ7_copyOf_1904c_0 dbJ7_copyOf_1904c_0.2.2.1
theorem dJ7_copyOf_1904c_3 : decode cJ7_copyOf_1904c 3 = .ok (.invokevirtual 86, 3) := dgq (p := 3) daJ7_copyOf_1904c_0 dbJ7_copyOf_1904c_0.2.2.2.1
theorem dJ7_copyOf_1904c_6 : decode cJ7_copyOf_1904c 6 = .ok (.invokestatic 300, 3) := dgq (p := 6) daJ7_copyOf_1904c_0 dbJ7_copyOf_1904c_0.2.2.2.2.1
theorem dJ7_copyOf_1904c_9 : decode cJ7_copyOf_1904c 9 = .ok (.areturn, 1) := dgq (p := 9) daJ7_copyOf_1904c_0 dbJ7_copyOf_1904c_0.2.2.2.2.2
def dsJ7_copyOf_6403c_0 : ByteArray := ⟨#[44, 18, 110, 166, 0, 10, 27, 189, 0, 2, 167, 0, 14, 44, 182, 0, 90, 27, 184, 0, 95]⟩
theorem daJ7_copyOf_6403c_0 : agB cJ7_copyOf_6403c dsJ7_copyOf_6403c_0 0 := agB_of (n := 21) (by decide +kernel)
theorem dbJ7_copyOf_6403c_0 : (decode dsJ7_copyOf_6403c_0 0 = .ok (.aload_n 2, 1) ∧ okop dsJ7_copyOf_6403c_0 0 = true) ∧ (decode dsJ7_copyOf_6403c_0 1 = .ok (.ldc 110, 2) ∧ okop dsJ7_copyOf_6403c_0 1 = true) ∧ (decode dsJ7_copyOf_6403c_0 3 = .ok (.if_acmp .ne 10, 3) ∧ okop dsJ7_copyOf_6403c_0 3 = true) ∧ (decode dsJ7_copyOf_6403c_0 6 = .ok (.iload_n 1, 1) ∧ okop dsJ7_copyOf_6403c_0 6 = true) ∧ (decode dsJ7_copyOf_6403c_0 7 = .ok (.anewarray 2, 3) ∧ okop dsJ7_copyOf_6403c_0 7 = true) ∧ (decode dsJ7_copyOf_6403c_0 10 = .ok (.goto 14, 3) ∧ okop dsJ7_copyOf_6403c_0 10 = true) ∧ (decode dsJ7_copyOf_6403c_0 13 = .ok (.aload_n 2, 1) ∧ okop dsJ7_copyOf_6403c_0 13 = true) ∧ (decode dsJ7_copyOf_6403c_0 14 = .ok (.invokevirtual 90, 3) ∧ okop dsJ7_copyOf_6403c_0 14 = true) ∧ (decode dsJ7_copyOf_6403c_0 17 = .ok (.iload_n 1, 1) ∧ okop dsJ7_copyOf_6403c_0 17 = true) ∧ (decode dsJ7_copyOf_6403c_0 18 = .ok (.invokestatic 95, 3) ∧ okop dsJ7_copyOf_6403c_0 18 = true) := by decide +kernel
theorem dJ7_copyOf_6403c_0 : decode cJ7_copyOf_6403c 0 = .ok (.aload_n 2, 1) := dgq (p := 0) daJ7_copyOf_6403c_0 dbJ7_copyOf_6403c_0.1
theorem dJ7_copyOf_6403c_1 : decode cJ7_copyOf_6403c 1 = .ok (.ldc 110, 2) := dgq (p := 1) daJ7_copyOf_6403c_0 dbJ7_copyOf_6403c_0.2.1
theorem dJ7_copyOf_6403c_3 : decode cJ7_copyOf_6403c 3 = .ok (.if_acmp .ne 10, 3) := dgq (p := 3) daJ7_copyOf_6403c_0 dbJ7_copyOf_6403c_0.2.2.1
theorem dJ7_copyOf_6403c_6 : decode cJ7_copyOf_6403c 6 = .ok (.iload_n 1, 1) := dgq (p := 6) daJ7_copyOf_6403c_0 dbJ7_copyOf_6403c_0.2.2.2.1
theorem dJ7_copyOf_6403c_7 : decode cJ7_copyOf_6403c 7 = .ok (.anewarray 2, 3) := dgq (p := 7) daJ7_copyOf_6403c_0 dbJ7_copyOf_6403c_0.2.2.2.2.1
theorem dJ7_copyOf_6403c_10 : decode cJ7_copyOf_6403c 10 = .ok (.goto 14, 3) := dgq (p := 10) daJ7_copyOf_6403c_0 dbJ7_copyOf_6403c_0.2.2.2.2.2.1
theorem dJ7_copyOf_6403c_13 : decode cJ7_copyOf_6403c 13 = .ok (.aload_n 2, 1) := dgq (p := 13) daJ7_copyOf_6403c_0 dbJ7_copyOf_6403c_0.2.2.2.2.2.2.1
theorem dJ7_copyOf_6403c_14 : decode cJ7_copyOf_6403c 14 = .ok (.invokevirtual 90, 3) := dgq (p := 14) daJ7_copyOf_6403c_0 dbJ7_copyOf_6403c_0.2.2.2.2.2.2.2.1
theorem dJ7_copyOf_6403c_17 : decode cJ7_copyOf_6403c 17 = .ok (.iload_n 1, 1) := dgq (p := 17) daJ7_copyOf_6403c_0 dbJ7_copyOf_6403c_0.2.2.2.2.2.2.2.2.1
theorem dJ7_copyOf_6403c_18 : decode cJ7_copyOf_6403c 18 = .ok (.invokestatic 95, 3) := dgq (p := 18) daJ7_copyOf_6403c_0 dbJ7_copyOf_6403c_0.2.2.2.2.2.2.2.2.2
def dsJ7_copyOf_6403c_21 : ByteArray := ⟨#[192, 0, 110, 78, 42, 3, 45, 3, 42, 190, 27, 184, 1, 48]⟩
theorem daJ7_copyOf_6403c_21 : agB cJ7_copyOf_6403c dsJ7_copyOf_6403c_21 21 := agB_of (n := 14) (by decide +kernel)
theorem dbJ7_copyOf_6403c_21 : (decode dsJ7_copyOf_6403c_21 0 = .ok (.checkcast 110, 3) ∧ okop dsJ7_copyOf_6403c_21 0 = true) ∧ (decode dsJ7_copyOf_6403c_21 3 = .ok (.astore_n 3, 1) ∧ okop dsJ7_copyOf_6403c_21 3 = true) ∧ (decode dsJ7_copyOf_6403c_21 4 = .ok (.aload_n 0, 1) ∧ okop dsJ7_copyOf_6403c_21 4 = true) ∧ (decode dsJ7_copyOf_6403c_21 5 = .ok (.iconst 0, 1) ∧ okop dsJ7_copyOf_6403c_21 5 = true) ∧ (decode dsJ7_copyOf_6403c_21 6 = .ok (.aload_n 3, 1) ∧ okop dsJ7_copyOf_6403c_21 6 = true) ∧ (decode dsJ7_copyOf_6403c_21 7 = .ok (.iconst 0, 1) ∧ okop dsJ7_copyOf_6403c_21 7 = true) ∧ (decode dsJ7_copyOf_6403c_21 8 = .ok (.aload_n 0, 1) ∧ okop dsJ7_copyOf_6403c_21 8 = true) ∧ (decode dsJ7_copyOf_6403c_21 9 = .ok (.arraylength, 1) ∧ okop dsJ7_copyOf_6403c_21 9 = true) ∧ (decode dsJ7_copyOf_6403c_21 10 = .ok (.iload_n 1, 1) ∧ okop dsJ7_copyOf_6403c_21 10 = true) ∧ (decode dsJ7_copyOf_6403c_21 11 = .ok (.invokestatic 304, 3) ∧ okop dsJ7_copyOf_6403c_21 11 = true) := by decide +kernel
theorem dJ7_copyOf_6403c_21 : decode cJ7_copyOf_6403c 21 = .ok (.checkcast 110, 3) := dgq (p := 0) daJ7_copyOf_6403c_21 dbJ7_copyOf_6403c_21.1
theorem dJ7_copyOf_6403c_24 : decode cJ7_copyOf_6403c 24 = .ok (.astore_n 3, 1) := dgq (p := 3) daJ7_copyOf_6403c_21 dbJ7_copyOf_6403c_21.2.1
theorem dJ7_copyOf_6403c_25 : decode cJ7_copyOf_6403c 25 = .ok (.aload_n 0, 1) := dgq (p := 4) daJ7_copyOf_6403c_21 dbJ7_copyOf_6403c_21.2.2.1
theorem dJ7_copyOf_6403c_26 : decode cJ7_copyOf_6403c 26 = .ok (.iconst 0, 1) := dgq (p := 5) daJ7_copyOf_6403c_21 dbJ7_copyOf_6403c_21.2.2.2.1
theorem dJ7_copyOf_6403c_27 : decode cJ7_copyOf_6403c 27 = .ok (.aload_n 3, 1) := dgq (p := 6) daJ7_copyOf_6403c_21 dbJ7_copyOf_6403c_21.2.2.2.2.1
theorem dJ7_copyOf_6403c_28 : decode cJ7_copyOf_6403c 28 = .ok (.iconst 0, 1) := dgq (p := 7) daJ7_copyOf_6403c_21 dbJ7_copyOf_6403c_21.2.2.2.2.2.1
theorem dJ7_copyOf_6403c_29 : decode cJ7_copyOf_6403c 29 = .ok (.aload_n 0, 1) := dgq (p := 8) daJ7_copyOf_6403c_21 dbJ7_copyOf_6403c_21.2.2.2.2.2.2.1
theorem dJ7_copyOf_6403c_30 : decode cJ7_copyOf_6403c 30 = .ok (.arraylength, 1) := dgq (p := 9) daJ7_copyOf_6403c_21 dbJ7_copyOf_6403c_21.2.2.2.2.2.2.2.1
theorem dJ7_copyOf_6403c_31 : decode cJ7_copyOf_6403c 31 = .ok (.iload_n 1, 1) := dgq (p := 10) daJ7_copyOf_6403c_21 dbJ7_copyOf_6403c_21.2.2.2.2.2.2.2.2.1
theorem dJ7_copyOf_6403c_32 : decode cJ7_copyOf_6403c 32 = .ok (.invokestatic 304, 3) := dgq (p := 11) daJ7_copyOf_6403c_21 dbJ7_copyOf_6403c_21.2.2.2.2.2.2.2.2.2
def dsJ7_copyOf_6403c_35 : ByteArray := ⟨#[184, 0, 150, 45, 176]⟩
theorem daJ7_copyOf_6403c_35 : agB cJ7_copyOf_6403c dsJ7_copyOf_6403c_35 35 := agB_of (n := 5) (by decide +kernel)
theorem dbJ7_copyOf_6403c_35 : (decode dsJ7_copyOf_6403c_35 0 = .ok (.invokestatic 150, 3) ∧ okop dsJ7_copyOf_6403c_35 0 = true) ∧ (decode dsJ7_copyOf_6403c_35 3 = .ok (.aload_n 3, 1) ∧ okop dsJ7_copyOf_6403c_35 3 = true) ∧ (decode dsJ7_copyOf_6403c_35 4 = .ok (.areturn, 1) ∧ okop dsJ7_copyOf_6403c_35 4 = true) := by decide +kernel
theorem dJ7_copyOf_6403c_35 : decode cJ7_copyOf_6403c 35 = .ok (.invokestatic 150, 3) := dgq (p := 0) daJ7_copyOf_6403c_35 dbJ7_copyOf_6403c_35.1
theorem dJ7_copyOf_6403c_38 : decode cJ7_copyOf_6403c 38 = .ok (.aload_n 3, 1) := dgq (p := 3) daJ7_copyOf_6403c_35 dbJ7_copyOf_6403c_35.2.1
theorem dJ7_copyOf_6403c_39 : decode cJ7_copyOf_6403c 39 = .ok (.areturn, 1) := dgq (p := 4) daJ7_copyOf_6403c_35 dbJ7_copyOf_6403c_35.2.2
theorem dJ7_copyOf_9075b_15 : decode cJ7_copyOf_9075b 15 = .ok (.newarray .byte, 2) := by decide +kernel
def dsJ7_copyOf_9075b_0 : ByteArray := ⟨#[27, 42, 190, 160, 0, 11, 42, 182, 1, 54, 192, 1, 55, 176, 27, 188, 8, 77]⟩
theorem daJ7_copyOf_9075b_0 : agB cJ7_copyOf_9075b dsJ7_copyOf_9075b_0 0 := agB_of (n := 18) (by decide +kernel)
theorem dbJ7_copyOf_9075b_0 : (decode dsJ7_copyOf_9075b_0 0 = .ok (.iload_n 1, 1) ∧ okop dsJ7_copyOf_9075b_0 0 = true) ∧ (decode dsJ7_copyOf_9075b_0 1 = .ok (.aload_n 0, 1) ∧ okop dsJ7_copyOf_9075b_0 1 = true) ∧ (decode dsJ7_copyOf_9075b_0 2 = .ok (.arraylength, 1) ∧ okop dsJ7_copyOf_9075b_0 2 = true) ∧ (decode dsJ7_copyOf_9075b_0 3 = .ok (.if_icmp .ne 11, 3) ∧ okop dsJ7_copyOf_9075b_0 3 = true) ∧ (decode dsJ7_copyOf_9075b_0 6 = .ok (.aload_n 0, 1) ∧ okop dsJ7_copyOf_9075b_0 6 = true) ∧ (decode dsJ7_copyOf_9075b_0 7 = .ok (.invokevirtual 310, 3) ∧ okop dsJ7_copyOf_9075b_0 7 = true) ∧ (decode dsJ7_copyOf_9075b_0 10 = .ok (.checkcast 311, 3) ∧ okop dsJ7_copyOf_9075b_0 10 = true) ∧ (decode dsJ7_copyOf_9075b_0 13 = .ok (.areturn, 1) ∧ okop dsJ7_copyOf_9075b_0 13 = true) ∧ (decode dsJ7_copyOf_9075b_0 14 = .ok (.iload_n 1, 1) ∧ okop dsJ7_copyOf_9075b_0 14 = true) ∧ (decode dsJ7_copyOf_9075b_0 17 = .ok (.astore_n 2, 1) ∧ okop dsJ7_copyOf_9075b_0 17 = true) := by decide +kernel
theorem dJ7_copyOf_9075b_0 : decode cJ7_copyOf_9075b 0 = .ok (.iload_n 1, 1) := dgq (p := 0) daJ7_copyOf_9075b_0 dbJ7_copyOf_9075b_0.1
theorem dJ7_copyOf_9075b_1 : decode cJ7_copyOf_9075b 1 = .ok (.aload_n 0, 1) := dgq (p := 1) daJ7_copyOf_9075b_0 dbJ7_copyOf_9075b_0.2.1
theorem dJ7_copyOf_9075b_2 : decode cJ7_copyOf_9075b 2 = .ok (.arraylength, 1) := dgq (p := 2) daJ7_copyOf_9075b_0 dbJ7_copyOf_9075b_0.2.2.1
theorem dJ7_copyOf_9075b_3 : decode cJ7_copyOf_9075b 3 = .ok (.if_icmp .ne 11, 3) := dgq (p := 3) daJ7_copyOf_9075b_0 dbJ7_copyOf_9075b_0.2.2.2.1
theorem dJ7_copyOf_9075b_6 : decode cJ7_copyOf_9075b 6 = .ok (.aload_n 0, 1) := dgq (p := 6) daJ7_copyOf_9075b_0 dbJ7_copyOf_9075b_0.2.2.2.2.1
theorem dJ7_copyOf_9075b_7 : decode cJ7_copyOf_9075b 7 = .ok (.invokevirtual 310, 3) := dgq (p := 7) daJ7_copyOf_9075b_0 dbJ7_copyOf_9075b_0.2.2.2.2.2.1
theorem dJ7_copyOf_9075b_10 : decode cJ7_copyOf_9075b 10 = .ok (.checkcast 311, 3) := dgq (p := 10) daJ7_copyOf_9075b_0 dbJ7_copyOf_9075b_0.2.2.2.2.2.2.1
theorem dJ7_copyOf_9075b_13 : decode cJ7_copyOf_9075b 13 = .ok (.areturn, 1) := dgq (p := 13) daJ7_copyOf_9075b_0 dbJ7_copyOf_9075b_0.2.2.2.2.2.2.2.1
theorem dJ7_copyOf_9075b_14 : decode cJ7_copyOf_9075b 14 = .ok (.iload_n 1, 1) := dgq (p := 14) daJ7_copyOf_9075b_0 dbJ7_copyOf_9075b_0.2.2.2.2.2.2.2.2.1
theorem dJ7_copyOf_9075b_17 : decode cJ7_copyOf_9075b 17 = .ok (.astore_n 2, 1) := dgq (p := 17) daJ7_copyOf_9075b_0 dbJ7_copyOf_9075b_0.2.2.2.2.2.2.2.2.2
def dsJ7_copyOf_9075b_18 : ByteArray := ⟨#[42, 3, 44, 3, 42, 190, 27, 184, 1, 48, 184, 0, 150, 44]⟩
theorem daJ7_copyOf_9075b_18 : agB cJ7_copyOf_9075b dsJ7_copyOf_9075b_18 18 := agB_of (n := 14) (by decide +kernel)
theorem dbJ7_copyOf_9075b_18 : (decode dsJ7_copyOf_9075b_18 0 = .ok (.aload_n 0, 1) ∧ okop dsJ7_copyOf_9075b_18 0 = true) ∧ (decode dsJ7_copyOf_9075b_18 1 = .ok (.iconst 0, 1) ∧ okop dsJ7_copyOf_9075b_18 1 = true) ∧ (decode dsJ7_copyOf_9075b_18 2 = .ok (.aload_n 2, 1) ∧ okop dsJ7_copyOf_9075b_18 2 = true) ∧ (decode dsJ7_copyOf_9075b_18 3 = .ok (.iconst 0, 1) ∧ okop dsJ7_copyOf_9075b_18 3 = true) ∧ (decode dsJ7_copyOf_9075b_18 4 = .ok (.aload_n 0, 1) ∧ okop dsJ7_copyOf_9075b_18 4 = true) ∧ (decode dsJ7_copyOf_9075b_18 5 = .ok (.arraylength, 1) ∧ okop dsJ7_copyOf_9075b_18 5 = true) ∧ (decode dsJ7_copyOf_9075b_18 6 = .ok (.iload_n 1, 1) ∧ okop dsJ7_copyOf_9075b_18 6 = true) ∧ (decode dsJ7_copyOf_9075b_18 7 = .ok (.invokestatic 304, 3) ∧ okop dsJ7_copyOf_9075b_18 7 = true) ∧ (decode dsJ7_copyOf_9075b_18 10 = .ok (.invokestatic 150, 3) ∧ okop dsJ7_copyOf_9075b_18 10 = true) ∧ (decode dsJ7_copyOf_9075b_18 13 = .ok (.aload_n 2, 1) ∧ okop dsJ7_copyOf_9075b_18 13 = true) := by decide +kernel
theorem dJ7_copyOf_9075b_18 : decode cJ7_copyOf_9075b 18 = .ok (.aload_n 0, 1) := dgq (p := 0) daJ7_copyOf_9075b_18 dbJ7_copyOf_9075b_18.1
theorem dJ7_copyOf_9075b_19 : decode cJ7_copyOf_9075b 19 = .ok (.iconst 0, 1) := dgq (p := 1) daJ7_copyOf_9075b_18 dbJ7_copyOf_9075b_18.2.1
theorem dJ7_copyOf_9075b_20 : decode cJ7_copyOf_9075b 20 = .ok (.aload_n 2, 1) := dgq (p := 2) daJ7_copyOf_9075b_18 dbJ7_copyOf_9075b_18.2.2.1
theorem dJ7_copyOf_9075b_21 : decode cJ7_copyOf_9075b 21 = .ok (.iconst 0, 1) := dgq (p := 3) daJ7_copyOf_9075b_18 dbJ7_copyOf_9075b_18.2.2.2.1
theorem dJ7_copyOf_9075b_22 : decode cJ7_copyOf_9075b 22 = .ok (.aload_n 0, 1) := dgq (p := 4) daJ7_copyOf_9075b_18 dbJ7_copyOf_9075b_18.2.2.2.2.1
theorem dJ7_copyOf_9075b_23 : decode cJ7_copyOf_9075b 23 = .ok (.arraylength, 1) := dgq (p := 5) daJ7_copyOf_9075b_18 dbJ7_copyOf_9075b_18.2.2.2.2.2.1
theorem dJ7_copyOf_9075b_24 : decode cJ7_copyOf_9075b 24 = .ok (.iload_n 1, 1) := dgq (p := 6) daJ7_copyOf_9075b_18 dbJ7_copyOf_9075b_18.2.2.2.2.2.2.1
theorem dJ7_copyOf_9075b_25 : decode cJ7_copyOf_9075b 25 = .ok (.invokestatic 304, 3) := dgq (p := 7) daJ7_copyOf_9075b_18 dbJ7_copyOf_9075b_18.2.2.2.2.2.2.2.1
theorem dJ7_copyOf_9075b_28 : decode cJ7_copyOf_9075b 28 = .ok (.invokestatic 150, 3) := dgq (p := 10) daJ7_copyOf_9075b_18 dbJ7_copyOf_9075b_18.2.2.2.2.2.2.2.2.1
theorem dJ7_copyOf_9075b_31 : decode cJ7_copyOf_9075b 31 = .ok (.aload_n 2, 1) := dgq (p := 13) daJ7_copyOf_9075b_18 dbJ7_copyOf_9075b_18.2.2.2.2.2.2.2.2.2
theorem dJ7_copyOf_9075b_32 : decode cJ7_copyOf_9075b 32 = .ok (.areturn, 1) := by decide +kernel
set_option maxRecDepth 20000 in
theorem ggJ15_checkIndex_7cf53_J3_checkIndex_8e157 : GoodIn wsJ15_checkIndex_7cf53 wsJ3_checkIndex_8e157 := goodIn_q _ [4] rfl (by decide +kernel)
set_option maxRecDepth 20000 in
theorem gJ15_checkIndex_7cf53_J3_checkIndex_8e157 : GoodIn wsJ15_checkIndex_7cf53 (va_wsS RJ15 105 yJ3_checkIndex_8e157 wsJ3_checkIndex_8e157) := goodIn_app (goodIn_q _ [1, 2, 3] rfl (by decide +kernel)) ggJ15_checkIndex_7cf53_J3_checkIndex_8e157
def dsJ15_checkIndex_7cf53_0 : ByteArray := ⟨#[26, 27, 1, 184, 0, 105, 172]⟩
theorem daJ15_checkIndex_7cf53_0 : agB cJ15_checkIndex_7cf53 dsJ15_checkIndex_7cf53_0 0 := agB_of (n := 7) (by decide +kernel)
theorem dbJ15_checkIndex_7cf53_0 : (decode dsJ15_checkIndex_7cf53_0 0 = .ok (.iload_n 0, 1) ∧ okop dsJ15_checkIndex_7cf53_0 0 = true) ∧ (decode dsJ15_checkIndex_7cf53_0 1 = .ok (.iload_n 1, 1) ∧ okop dsJ15_checkIndex_7cf53_0 1 = true) ∧ (decode dsJ15_checkIndex_7cf53_0 2 = .ok (.aconst_null, 1) ∧ okop dsJ15_checkIndex_7cf53_0 2 = true) ∧ (decode dsJ15_checkIndex_7cf53_0 3 = .ok (.invokestatic 105, 3) ∧ okop dsJ15_checkIndex_7cf53_0 3 = true) ∧ (decode dsJ15_checkIndex_7cf53_0 6 = .ok (.ireturn, 1) ∧ okop dsJ15_checkIndex_7cf53_0 6 = true) := by decide +kernel
theorem dJ15_checkIndex_7cf53_0 : decode cJ15_checkIndex_7cf53 0 = .ok (.iload_n 0, 1) := dgq (p := 0) daJ15_checkIndex_7cf53_0 dbJ15_checkIndex_7cf53_0.1
theorem dJ15_checkIndex_7cf53_1 : decode cJ15_checkIndex_7cf53 1 = .ok (.iload_n 1, 1) := dgq (p := 1) daJ15_checkIndex_7cf53_0 dbJ15_checkIndex_7cf53_0.2.1
theorem dJ15_checkIndex_7cf53_2 : decode cJ15_checkIndex_7cf53 2 = .ok (.aconst_null, 1) := dgq (p := 2) daJ15_checkIndex_7cf53_0 dbJ15_checkIndex_7cf53_0.2.2.1
theorem dJ15_checkIndex_7cf53_3 : decode cJ15_checkIndex_7cf53 3 = .ok (.invokestatic 105, 3) := dgq (p := 3) daJ15_checkIndex_7cf53_0 dbJ15_checkIndex_7cf53_0.2.2.2.1
theorem dJ15_checkIndex_7cf53_6 : decode cJ15_checkIndex_7cf53 6 = .ok (.ireturn, 1) := dgq (p := 6) daJ15_checkIndex_7cf53_0 dbJ15_checkIndex_7cf53_0.2.2.2.2
set_option maxRecDepth 20000 in
theorem ggJ8_newLength_cabcc_J8_hugeLength_7cf53 : GoodIn wsJ8_newLength_cabcc wsJ8_hugeLength_7cf53 := goodIn_q _ [9, 5] rfl (by decide +kernel)
set_option maxRecDepth 20000 in
theorem gJ8_newLength_cabcc_J8_hugeLength_7cf53 : GoodIn wsJ8_newLength_cabcc (va_wsS RJ8 201 yJ8_hugeLength_7cf53 wsJ8_hugeLength_7cf53) := goodIn_app (goodIn_q _ [6, 7, 8] rfl (by decide +kernel)) ggJ8_newLength_cabcc_J8_hugeLength_7cf53
def dsJ8_newLength_cabcc_0 : ByteArray := ⟨#[26, 27, 28, 184, 0, 194, 96, 62, 3, 29, 162, 0, 11, 29]⟩
theorem daJ8_newLength_cabcc_0 : agB cJ8_newLength_cabcc dsJ8_newLength_cabcc_0 0 := agB_of (n := 14) (by decide +kernel)
theorem dbJ8_newLength_cabcc_0 : (decode dsJ8_newLength_cabcc_0 0 = .ok (.iload_n 0, 1) ∧ okop dsJ8_newLength_cabcc_0 0 = true) ∧ (decode dsJ8_newLength_cabcc_0 1 = .ok (.iload_n 1, 1) ∧ okop dsJ8_newLength_cabcc_0 1 = true) ∧ (decode dsJ8_newLength_cabcc_0 2 = .ok (.iload_n 2, 1) ∧ okop dsJ8_newLength_cabcc_0 2 = true) ∧ (decode dsJ8_newLength_cabcc_0 3 = .ok (.invokestatic 194, 3) ∧ okop dsJ8_newLength_cabcc_0 3 = true) ∧ (decode dsJ8_newLength_cabcc_0 6 = .ok (.iadd, 1) ∧ okop dsJ8_newLength_cabcc_0 6 = true) ∧ (decode dsJ8_newLength_cabcc_0 7 = .ok (.istore_n 3, 1) ∧ okop dsJ8_newLength_cabcc_0 7 = true) ∧ (decode dsJ8_newLength_cabcc_0 8 = .ok (.iconst 0, 1) ∧ okop dsJ8_newLength_cabcc_0 8 = true) ∧ (decode dsJ8_newLength_cabcc_0 9 = .ok (.iload_n 3, 1) ∧ okop dsJ8_newLength_cabcc_0 9 = true) ∧ (decode dsJ8_newLength_cabcc_0 10 = .ok (.if_icmp .ge 11, 3) ∧ okop dsJ8_newLength_cabcc_0 10 = true) ∧ (decode dsJ8_newLength_cabcc_0 13 = .ok (.iload_n 3, 1) ∧ okop dsJ8_newLength_cabcc_0 13 = true) := by decide +kernel
theorem dJ8_newLength_cabcc_0 : decode cJ8_newLength_cabcc 0 = .ok (.iload_n 0, 1) := dgq (p := 0) daJ8_newLength_cabcc_0 dbJ8_newLength_cabcc_0.1
theorem dJ8_newLength_cabcc_1 : decode cJ8_newLength_cabcc 1 = .ok (.iload_n 1, 1) := dgq (p := 1) daJ8_newLength_cabcc_0 dbJ8_newLength_cabcc_0.2.1
theorem dJ8_newLength_cabcc_2 : decode cJ8_newLength_cabcc 2 = .ok (.iload_n 2, 1) := dgq (p := 2) daJ8_newLength_cabcc_0 dbJ8_newLength_cabcc_0.2.2.1
theorem dJ8_newLength_cabcc_3 : decode cJ8_newLength_cabcc 3 = .ok (.invokestatic 194, 3) := dgq (p := 3) daJ8_newLength_cabcc_0 dbJ8_newLength_cabcc_0.2.2.2.1
theorem dJ8_newLength_cabcc_6 : decode cJ8_newLength_cabcc 6 = .ok (.iadd, 1) := dgq (p := 6) daJ8_newLength_cabcc_0 dbJ8_newLength_cabcc_0.2.2.2.2.1
theorem dJ8_newLength_cabcc_7 : decode cJ8_newLength_cabcc 7 = .ok (.istore_n 3, 1) := dgq (p := 7) daJ8_newLength_cabcc_0 dbJ8_newLength_cabcc_0.2.2.2.2.2.1
theorem dJ8_newLength_cabcc_8 : decode cJ8_newLength_cabcc 8 = .ok (.iconst 0, 1) := dgq (p := 8) daJ8_newLength_cabcc_0 dbJ8_newLength_cabcc_0.2.2.2.2.2.2.1
theorem dJ8_newLength_cabcc_9 : decode cJ8_newLength_cabcc 9 = .ok (.iload_n 3, 1) := dgq (p := 9) daJ8_newLength_cabcc_0 dbJ8_newLength_cabcc_0.2.2.2.2.2.2.2.1
theorem dJ8_newLength_cabcc_10 : decode cJ8_newLength_cabcc 10 = .ok (.if_icmp .ge 11, 3) := dgq (p := 10) daJ8_newLength_cabcc_0 dbJ8_newLength_cabcc_0.2.2.2.2.2.2.2.2.1
theorem dJ8_newLength_cabcc_13 : decode cJ8_newLength_cabcc 13 = .ok (.iload_n 3, 1) := dgq (p := 13) daJ8_newLength_cabcc_0 dbJ8_newLength_cabcc_0.2.2.2.2.2.2.2.2.2
def dsJ8_newLength_cabcc_14 : ByteArray := ⟨#[18, 200, 163, 0, 5, 29, 172, 26, 27, 184, 0, 201, 172]⟩
theorem daJ8_newLength_cabcc_14 : agB cJ8_newLength_cabcc dsJ8_newLength_cabcc_14 14 := agB_of (n := 13) (by decide +kernel)
theorem dbJ8_newLength_cabcc_14 : (decode dsJ8_newLength_cabcc_14 0 = .ok (.ldc 200, 2) ∧ okop dsJ8_newLength_cabcc_14 0 = true) ∧ (decode dsJ8_newLength_cabcc_14 2 = .ok (.if_icmp .gt 5, 3) ∧ okop dsJ8_newLength_cabcc_14 2 = true) ∧ (decode dsJ8_newLength_cabcc_14 5 = .ok (.iload_n 3, 1) ∧ okop dsJ8_newLength_cabcc_14 5 = true) ∧ (decode dsJ8_newLength_cabcc_14 6 = .ok (.ireturn, 1) ∧ okop dsJ8_newLength_cabcc_14 6 = true) ∧ (decode dsJ8_newLength_cabcc_14 7 = .ok (.iload_n 0, 1) ∧ okop dsJ8_newLength_cabcc_14 7 = true) ∧ (decode dsJ8_newLength_cabcc_14 8 = .ok (.iload_n 1, 1) ∧ okop dsJ8_newLength_cabcc_14 8 = true) ∧ (decode dsJ8_newLength_cabcc_14 9 = .ok (.invokestatic 201, 3) ∧ okop dsJ8_newLength_cabcc_14 9 = true) ∧ (decode dsJ8_newLength_cabcc_14 12 = .ok (.ireturn, 1) ∧ okop dsJ8_newLength_cabcc_14 12 = true) := by decide +kernel
theorem dJ8_newLength_cabcc_14 : decode cJ8_newLength_cabcc 14 = .ok (.ldc 200, 2) := dgq (p := 0) daJ8_newLength_cabcc_14 dbJ8_newLength_cabcc_14.1
theorem dJ8_newLength_cabcc_16 : decode cJ8_newLength_cabcc 16 = .ok (.if_icmp .gt 5, 3) := dgq (p := 2) daJ8_newLength_cabcc_14 dbJ8_newLength_cabcc_14.2.1
theorem dJ8_newLength_cabcc_19 : decode cJ8_newLength_cabcc 19 = .ok (.iload_n 3, 1) := dgq (p := 5) daJ8_newLength_cabcc_14 dbJ8_newLength_cabcc_14.2.2.1
theorem dJ8_newLength_cabcc_20 : decode cJ8_newLength_cabcc 20 = .ok (.ireturn, 1) := dgq (p := 6) daJ8_newLength_cabcc_14 dbJ8_newLength_cabcc_14.2.2.2.1
theorem dJ8_newLength_cabcc_21 : decode cJ8_newLength_cabcc 21 = .ok (.iload_n 0, 1) := dgq (p := 7) daJ8_newLength_cabcc_14 dbJ8_newLength_cabcc_14.2.2.2.2.1
theorem dJ8_newLength_cabcc_22 : decode cJ8_newLength_cabcc 22 = .ok (.iload_n 1, 1) := dgq (p := 8) daJ8_newLength_cabcc_14 dbJ8_newLength_cabcc_14.2.2.2.2.2.1
theorem dJ8_newLength_cabcc_23 : decode cJ8_newLength_cabcc 23 = .ok (.invokestatic 201, 3) := dgq (p := 9) daJ8_newLength_cabcc_14 dbJ8_newLength_cabcc_14.2.2.2.2.2.2.1
theorem dJ8_newLength_cabcc_26 : decode cJ8_newLength_cabcc 26 = .ok (.ireturn, 1) := dgq (p := 12) daJ8_newLength_cabcc_14 dbJ8_newLength_cabcc_14.2.2.2.2.2.2.2
def dsJ8_hugeLength_7cf53_0 : ByteArray := ⟨#[26, 27, 96, 61, 28, 156, 0, 44, 187, 0, 204, 89, 187, 0, 89, 89]⟩
theorem daJ8_hugeLength_7cf53_0 : agB cJ8_hugeLength_7cf53 dsJ8_hugeLength_7cf53_0 0 := agB_of (n := 16) (by decide +kernel)
theorem dbJ8_hugeLength_7cf53_0 : (decode dsJ8_hugeLength_7cf53_0 0 = .ok (.iload_n 0, 1) ∧ okop dsJ8_hugeLength_7cf53_0 0 = true) ∧ (decode dsJ8_hugeLength_7cf53_0 1 = .ok (.iload_n 1, 1) ∧ okop dsJ8_hugeLength_7cf53_0 1 = true) ∧ (decode dsJ8_hugeLength_7cf53_0 2 = .ok (.iadd, 1) ∧ okop dsJ8_hugeLength_7cf53_0 2 = true) ∧ (decode dsJ8_hugeLength_7cf53_0 3 = .ok (.istore_n 2, 1) ∧ okop dsJ8_hugeLength_7cf53_0 3 = true) ∧ (decode dsJ8_hugeLength_7cf53_0 4 = .ok (.iload_n 2, 1) ∧ okop dsJ8_hugeLength_7cf53_0 4 = true) ∧ (decode dsJ8_hugeLength_7cf53_0 5 = .ok (.ifCond .ge 44, 3) ∧ okop dsJ8_hugeLength_7cf53_0 5 = true) ∧ (decode dsJ8_hugeLength_7cf53_0 8 = .ok (.new 204, 3) ∧ okop dsJ8_hugeLength_7cf53_0 8 = true) ∧ (decode dsJ8_hugeLength_7cf53_0 11 = .ok (.dup, 1) ∧ okop dsJ8_hugeLength_7cf53_0 11 = true) ∧ (decode dsJ8_hugeLength_7cf53_0 12 = .ok (.new 89, 3) ∧ okop dsJ8_hugeLength_7cf53_0 12 = true) ∧ (decode dsJ8_hugeLength_7cf53_0 15 = .ok (.dup, 1) ∧ okop dsJ8_hugeLength_7cf53_0 15 = true) := by decide +kernel
theorem dJ8_hugeLength_7cf53_0 : decode cJ8_hugeLength_7cf53 0 = .ok (.iload_n 0, 1) := dgq (p := 0) daJ8_hugeLength_7cf53_0 dbJ8_hugeLength_7cf53_0.1
theorem dJ8_hugeLength_7cf53_1 : decode cJ8_hugeLength_7cf53 1 = .ok (.iload_n 1, 1) := dgq (p := 1) daJ8_hugeLength_7cf53_0 dbJ8_hugeLength_7cf53_0.2.1
theorem dJ8_hugeLength_7cf53_2 : decode cJ8_hugeLength_7cf53 2 = .ok (.iadd, 1) := dgq (p := 2) daJ8_hugeLength_7cf53_0 dbJ8_hugeLength_7cf53_0.2.2.1
theorem dJ8_hugeLength_7cf53_3 : decode cJ8_hugeLength_7cf53 3 = .ok (.istore_n 2, 1) := dgq (p := 3) daJ8_hugeLength_7cf53_0 dbJ8_hugeLength_7cf53_0.2.2.2.1
theorem dJ8_hugeLength_7cf53_4 : decode cJ8_hugeLength_7cf53 4 = .ok (.iload_n 2, 1) := dgq (p := 4) daJ8_hugeLength_7cf53_0 dbJ8_hugeLength_7cf53_0.2.2.2.2.1
theorem dJ8_hugeLength_7cf53_5 : decode cJ8_hugeLength_7cf53 5 = .ok (.ifCond .ge 44, 3) := dgq (p := 5) daJ8_hugeLength_7cf53_0 dbJ8_hugeLength_7cf53_0.2.2.2.2.2.1
theorem dJ8_hugeLength_7cf53_8 : decode cJ8_hugeLength_7cf53 8 = .ok (.new 204, 3) := dgq (p := 8) daJ8_hugeLength_7cf53_0 dbJ8_hugeLength_7cf53_0.2.2.2.2.2.2.1
theorem dJ8_hugeLength_7cf53_11 : decode cJ8_hugeLength_7cf53 11 = .ok (.dup, 1) := dgq (p := 11) daJ8_hugeLength_7cf53_0 dbJ8_hugeLength_7cf53_0.2.2.2.2.2.2.2.1
theorem dJ8_hugeLength_7cf53_12 : decode cJ8_hugeLength_7cf53 12 = .ok (.new 89, 3) := dgq (p := 12) daJ8_hugeLength_7cf53_0 dbJ8_hugeLength_7cf53_0.2.2.2.2.2.2.2.2.1
theorem dJ8_hugeLength_7cf53_15 : decode cJ8_hugeLength_7cf53 15 = .ok (.dup, 1) := dgq (p := 15) daJ8_hugeLength_7cf53_0 dbJ8_hugeLength_7cf53_0.2.2.2.2.2.2.2.2.2
def dsJ8_hugeLength_7cf53_16 : ByteArray := ⟨#[183, 0, 91, 18, 206, 182, 0, 94, 26, 182, 0, 98, 18, 208, 182, 0, 94, 27, 182, 0, 98, 18, 210]⟩
theorem daJ8_hugeLength_7cf53_16 : agB cJ8_hugeLength_7cf53 dsJ8_hugeLength_7cf53_16 16 := agB_of (n := 23) (by decide +kernel)
theorem dbJ8_hugeLength_7cf53_16 : (decode dsJ8_hugeLength_7cf53_16 0 = .ok (.invokespecial 91, 3) ∧ okop dsJ8_hugeLength_7cf53_16 0 = true) ∧ (decode dsJ8_hugeLength_7cf53_16 3 = .ok (.ldc 206, 2) ∧ okop dsJ8_hugeLength_7cf53_16 3 = true) ∧ (decode dsJ8_hugeLength_7cf53_16 5 = .ok (.invokevirtual 94, 3) ∧ okop dsJ8_hugeLength_7cf53_16 5 = true) ∧ (decode dsJ8_hugeLength_7cf53_16 8 = .ok (.iload_n 0, 1) ∧ okop dsJ8_hugeLength_7cf53_16 8 = true) ∧ (decode dsJ8_hugeLength_7cf53_16 9 = .ok (.invokevirtual 98, 3) ∧ okop dsJ8_hugeLength_7cf53_16 9 = true) ∧ (decode dsJ8_hugeLength_7cf53_16 12 = .ok (.ldc 208, 2) ∧ okop dsJ8_hugeLength_7cf53_16 12 = true) ∧ (decode dsJ8_hugeLength_7cf53_16 14 = .ok (.invokevirtual 94, 3) ∧ okop dsJ8_hugeLength_7cf53_16 14 = true) ∧ (decode dsJ8_hugeLength_7cf53_16 17 = .ok (.iload_n 1, 1) ∧ okop dsJ8_hugeLength_7cf53_16 17 = true) ∧ (decode dsJ8_hugeLength_7cf53_16 18 = .ok (.invokevirtual 98, 3) ∧ okop dsJ8_hugeLength_7cf53_16 18 = true) ∧ (decode dsJ8_hugeLength_7cf53_16 21 = .ok (.ldc 210, 2) ∧ okop dsJ8_hugeLength_7cf53_16 21 = true) := by decide +kernel
theorem dJ8_hugeLength_7cf53_16 : decode cJ8_hugeLength_7cf53 16 = .ok (.invokespecial 91, 3) := dgq (p := 0) daJ8_hugeLength_7cf53_16 dbJ8_hugeLength_7cf53_16.1
theorem dJ8_hugeLength_7cf53_19 : decode cJ8_hugeLength_7cf53 19 = .ok (.ldc 206, 2) := dgq (p := 3) daJ8_hugeLength_7cf53_16 dbJ8_hugeLength_7cf53_16.2.1
theorem dJ8_hugeLength_7cf53_21 : decode cJ8_hugeLength_7cf53 21 = .ok (.invokevirtual 94, 3) := dgq (p := 5) daJ8_hugeLength_7cf53_16 dbJ8_hugeLength_7cf53_16.2.2.1
theorem dJ8_hugeLength_7cf53_24 : decode cJ8_hugeLength_7cf53 24 = .ok (.iload_n 0, 1) := dgq (p := 8) daJ8_hugeLength_7cf53_16 dbJ8_hugeLength_7cf53_16.2.2.2.1
theorem dJ8_hugeLength_7cf53_25 : decode cJ8_hugeLength_7cf53 25 = .ok (.invokevirtual 98, 3) := dgq (p := 9) daJ8_hugeLength_7cf53_16 dbJ8_hugeLength_7cf53_16.2.2.2.2.1
theorem dJ8_hugeLength_7cf53_28 : decode cJ8_hugeLength_7cf53 28 = .ok (.ldc 208, 2) := dgq (p := 12) daJ8_hugeLength_7cf53_16 dbJ8_hugeLength_7cf53_16.2.2.2.2.2.1
theorem dJ8_hugeLength_7cf53_30 : decode cJ8_hugeLength_7cf53 30 = .ok (.invokevirtual 94, 3) := dgq (p := 14) daJ8_hugeLength_7cf53_16 dbJ8_hugeLength_7cf53_16.2.2.2.2.2.2.1
theorem dJ8_hugeLength_7cf53_33 : decode cJ8_hugeLength_7cf53 33 = .ok (.iload_n 1, 1) := dgq (p := 17) daJ8_hugeLength_7cf53_16 dbJ8_hugeLength_7cf53_16.2.2.2.2.2.2.2.1
theorem dJ8_hugeLength_7cf53_34 : decode cJ8_hugeLength_7cf53 34 = .ok (.invokevirtual 98, 3) := dgq (p := 18) daJ8_hugeLength_7cf53_16 dbJ8_hugeLength_7cf53_16.2.2.2.2.2.2.2.2.1
theorem dJ8_hugeLength_7cf53_37 : decode cJ8_hugeLength_7cf53 37 = .ok (.ldc 210, 2) := dgq (p := 21) daJ8_hugeLength_7cf53_16 dbJ8_hugeLength_7cf53_16.2.2.2.2.2.2.2.2.2
def dsJ8_hugeLength_7cf53_39 : ByteArray := ⟨#[182, 0, 94, 182, 0, 101, 183, 0, 212, 191, 28, 18, 200, 163, 0, 6, 18, 200, 172, 28]⟩
theorem daJ8_hugeLength_7cf53_39 : agB cJ8_hugeLength_7cf53 dsJ8_hugeLength_7cf53_39 39 := agB_of (n := 20) (by decide +kernel)
theorem dbJ8_hugeLength_7cf53_39 : (decode dsJ8_hugeLength_7cf53_39 0 = .ok (.invokevirtual 94, 3) ∧ okop dsJ8_hugeLength_7cf53_39 0 = true) ∧ (decode dsJ8_hugeLength_7cf53_39 3 = .ok (.invokevirtual 101, 3) ∧ okop dsJ8_hugeLength_7cf53_39 3 = true) ∧ (decode dsJ8_hugeLength_7cf53_39 6 = .ok (.invokespecial 212, 3) ∧ okop dsJ8_hugeLength_7cf53_39 6 = true) ∧ (decode dsJ8_hugeLength_7cf53_39 9 = .ok (.athrow, 1) ∧ okop dsJ8_hugeLength_7cf53_39 9 = true) ∧ (decode dsJ8_hugeLength_7cf53_39 10 = .ok (.iload_n 2, 1) ∧ okop dsJ8_hugeLength_7cf53_39 10 = true) ∧ (decode dsJ8_hugeLength_7cf53_39 11 = .ok (.ldc 200, 2) ∧ okop dsJ8_hugeLength_7cf53_39 11 = true) ∧ (decode dsJ8_hugeLength_7cf53_39 13 = .ok (.if_icmp .gt 6, 3) ∧ okop dsJ8_hugeLength_7cf53_39 13 = true) ∧ (decode dsJ8_hugeLength_7cf53_39 16 = .ok (.ldc 200, 2) ∧ okop dsJ8_hugeLength_7cf53_39 16 = true) ∧ (decode dsJ8_hugeLength_7cf53_39 18 = .ok (.ireturn, 1) ∧ okop dsJ8_hugeLength_7cf53_39 18 = true) ∧ (decode dsJ8_hugeLength_7cf53_39 19 = .ok (.iload_n 2, 1) ∧ okop dsJ8_hugeLength_7cf53_39 19 = true) := by decide +kernel
theorem dJ8_hugeLength_7cf53_39 : decode cJ8_hugeLength_7cf53 39 = .ok (.invokevirtual 94, 3) := dgq (p := 0) daJ8_hugeLength_7cf53_39 dbJ8_hugeLength_7cf53_39.1
theorem dJ8_hugeLength_7cf53_42 : decode cJ8_hugeLength_7cf53 42 = .ok (.invokevirtual 101, 3) := dgq (p := 3) daJ8_hugeLength_7cf53_39 dbJ8_hugeLength_7cf53_39.2.1
theorem dJ8_hugeLength_7cf53_45 : decode cJ8_hugeLength_7cf53 45 = .ok (.invokespecial 212, 3) := dgq (p := 6) daJ8_hugeLength_7cf53_39 dbJ8_hugeLength_7cf53_39.2.2.1
theorem dJ8_hugeLength_7cf53_48 : decode cJ8_hugeLength_7cf53 48 = .ok (.athrow, 1) := dgq (p := 9) daJ8_hugeLength_7cf53_39 dbJ8_hugeLength_7cf53_39.2.2.2.1
theorem dJ8_hugeLength_7cf53_49 : decode cJ8_hugeLength_7cf53 49 = .ok (.iload_n 2, 1) := dgq (p := 10) daJ8_hugeLength_7cf53_39 dbJ8_hugeLength_7cf53_39.2.2.2.2.1
theorem dJ8_hugeLength_7cf53_50 : decode cJ8_hugeLength_7cf53 50 = .ok (.ldc 200, 2) := dgq (p := 11) daJ8_hugeLength_7cf53_39 dbJ8_hugeLength_7cf53_39.2.2.2.2.2.1
theorem dJ8_hugeLength_7cf53_52 : decode cJ8_hugeLength_7cf53 52 = .ok (.if_icmp .gt 6, 3) := dgq (p := 13) daJ8_hugeLength_7cf53_39 dbJ8_hugeLength_7cf53_39.2.2.2.2.2.2.1
theorem dJ8_hugeLength_7cf53_55 : decode cJ8_hugeLength_7cf53 55 = .ok (.ldc 200, 2) := dgq (p := 16) daJ8_hugeLength_7cf53_39 dbJ8_hugeLength_7cf53_39.2.2.2.2.2.2.2.1
theorem dJ8_hugeLength_7cf53_57 : decode cJ8_hugeLength_7cf53 57 = .ok (.ireturn, 1) := dgq (p := 18) daJ8_hugeLength_7cf53_39 dbJ8_hugeLength_7cf53_39.2.2.2.2.2.2.2.2.1
theorem dJ8_hugeLength_7cf53_58 : decode cJ8_hugeLength_7cf53 58 = .ok (.iload_n 2, 1) := dgq (p := 19) daJ8_hugeLength_7cf53_39 dbJ8_hugeLength_7cf53_39.2.2.2.2.2.2.2.2.2
theorem dJ8_hugeLength_7cf53_59 : decode cJ8_hugeLength_7cf53 59 = .ok (.ireturn, 1) := by decide +kernel
def dsJ3_checkIndex_8e157_0 : ByteArray := ⟨#[26, 155, 0, 8, 26, 27, 161, 0, 10, 44, 26, 27, 184, 0, 95, 191]⟩
theorem daJ3_checkIndex_8e157_0 : agB cJ3_checkIndex_8e157 dsJ3_checkIndex_8e157_0 0 := agB_of (n := 16) (by decide +kernel)
theorem dbJ3_checkIndex_8e157_0 : (decode dsJ3_checkIndex_8e157_0 0 = .ok (.iload_n 0, 1) ∧ okop dsJ3_checkIndex_8e157_0 0 = true) ∧ (decode dsJ3_checkIndex_8e157_0 1 = .ok (.ifCond .lt 8, 3) ∧ okop dsJ3_checkIndex_8e157_0 1 = true) ∧ (decode dsJ3_checkIndex_8e157_0 4 = .ok (.iload_n 0, 1) ∧ okop dsJ3_checkIndex_8e157_0 4 = true) ∧ (decode dsJ3_checkIndex_8e157_0 5 = .ok (.iload_n 1, 1) ∧ okop dsJ3_checkIndex_8e157_0 5 = true) ∧ (decode dsJ3_checkIndex_8e157_0 6 = .ok (.if_icmp .lt 10, 3) ∧ okop dsJ3_checkIndex_8e157_0 6 = true) ∧ (decode dsJ3_checkIndex_8e157_0 9 = .ok (.aload_n 2, 1) ∧ okop dsJ3_checkIndex_8e157_0 9 = true) ∧ (decode dsJ3_checkIndex_8e157_0 10 = .ok (.iload_n 0, 1) ∧ okop dsJ3_checkIndex_8e157_0 10 = true) ∧ (decode dsJ3_checkIndex_8e157_0 11 = .ok (.iload_n 1, 1) ∧ okop dsJ3_checkIndex_8e157_0 11 = true) ∧ (decode dsJ3_checkIndex_8e157_0 12 = .ok (.invokestatic 95, 3) ∧ okop dsJ3_checkIndex_8e157_0 12 = true) ∧ (decode dsJ3_checkIndex_8e157_0 15 = .ok (.athrow, 1) ∧ okop dsJ3_checkIndex_8e157_0 15 = true) := by decide +kernel
theorem dJ3_checkIndex_8e157_0 : decode cJ3_checkIndex_8e157 0 = .ok (.iload_n 0, 1) := dgq (p := 0) daJ3_checkIndex_8e157_0 dbJ3_checkIndex_8e157_0.1
theorem dJ3_checkIndex_8e157_1 : decode cJ3_checkIndex_8e157 1 = .ok (.ifCond .lt 8, 3) := dgq (p := 1) daJ3_checkIndex_8e157_0 dbJ3_checkIndex_8e157_0.2.1
theorem dJ3_checkIndex_8e157_4 : decode cJ3_checkIndex_8e157 4 = .ok (.iload_n 0, 1) := dgq (p := 4) daJ3_checkIndex_8e157_0 dbJ3_checkIndex_8e157_0.2.2.1
theorem dJ3_checkIndex_8e157_5 : decode cJ3_checkIndex_8e157 5 = .ok (.iload_n 1, 1) := dgq (p := 5) daJ3_checkIndex_8e157_0 dbJ3_checkIndex_8e157_0.2.2.2.1
theorem dJ3_checkIndex_8e157_6 : decode cJ3_checkIndex_8e157 6 = .ok (.if_icmp .lt 10, 3) := dgq (p := 6) daJ3_checkIndex_8e157_0 dbJ3_checkIndex_8e157_0.2.2.2.2.1
theorem dJ3_checkIndex_8e157_9 : decode cJ3_checkIndex_8e157 9 = .ok (.aload_n 2, 1) := dgq (p := 9) daJ3_checkIndex_8e157_0 dbJ3_checkIndex_8e157_0.2.2.2.2.2.1
theorem dJ3_checkIndex_8e157_10 : decode cJ3_checkIndex_8e157 10 = .ok (.iload_n 0, 1) := dgq (p := 10) daJ3_checkIndex_8e157_0 dbJ3_checkIndex_8e157_0.2.2.2.2.2.2.1
theorem dJ3_checkIndex_8e157_11 : decode cJ3_checkIndex_8e157 11 = .ok (.iload_n 1, 1) := dgq (p := 11) daJ3_checkIndex_8e157_0 dbJ3_checkIndex_8e157_0.2.2.2.2.2.2.2.1
theorem dJ3_checkIndex_8e157_12 : decode cJ3_checkIndex_8e157 12 = .ok (.invokestatic 95, 3) := dgq (p := 12) daJ3_checkIndex_8e157_0 dbJ3_checkIndex_8e157_0.2.2.2.2.2.2.2.2.1
theorem dJ3_checkIndex_8e157_15 : decode cJ3_checkIndex_8e157 15 = .ok (.athrow, 1) := dgq (p := 15) daJ3_checkIndex_8e157_0 dbJ3_checkIndex_8e157_0.2.2.2.2.2.2.2.2.2
theorem dJ3_checkIndex_8e157_16 : decode cJ3_checkIndex_8e157 16 = .ok (.iload_n 0, 1) := by decide +kernel
theorem dJ3_checkIndex_8e157_17 : decode cJ3_checkIndex_8e157 17 = .ok (.ireturn, 1) := by decide +kernel
def dsJ3_checkFromIndexSize_8c36e_0 : ByteArray := ⟨#[28, 26, 128, 27, 128, 155, 0, 10, 27, 28, 26, 100]⟩
theorem daJ3_checkFromIndexSize_8c36e_0 : agB cJ3_checkFromIndexSize_8c36e dsJ3_checkFromIndexSize_8c36e_0 0 := agB_of (n := 12) (by decide +kernel)
theorem dbJ3_checkFromIndexSize_8c36e_0 : (decode dsJ3_checkFromIndexSize_8c36e_0 0 = .ok (.iload_n 2, 1) ∧ okop dsJ3_checkFromIndexSize_8c36e_0 0 = true) ∧ (decode dsJ3_checkFromIndexSize_8c36e_0 1 = .ok (.iload_n 0, 1) ∧ okop dsJ3_checkFromIndexSize_8c36e_0 1 = true) ∧ (decode dsJ3_checkFromIndexSize_8c36e_0 2 = .ok (.ior, 1) ∧ okop dsJ3_checkFromIndexSize_8c36e_0 2 = true) ∧ (decode dsJ3_checkFromIndexSize_8c36e_0 3 = .ok (.iload_n 1, 1) ∧ okop dsJ3_checkFromIndexSize_8c36e_0 3 = true) ∧ (decode dsJ3_checkFromIndexSize_8c36e_0 4 = .ok (.ior, 1) ∧ okop dsJ3_checkFromIndexSize_8c36e_0 4 = true) ∧ (decode dsJ3_checkFromIndexSize_8c36e_0 5 = .ok (.ifCond .lt 10, 3) ∧ okop dsJ3_checkFromIndexSize_8c36e_0 5 = true) ∧ (decode dsJ3_checkFromIndexSize_8c36e_0 8 = .ok (.iload_n 1, 1) ∧ okop dsJ3_checkFromIndexSize_8c36e_0 8 = true) ∧ (decode dsJ3_checkFromIndexSize_8c36e_0 9 = .ok (.iload_n 2, 1) ∧ okop dsJ3_checkFromIndexSize_8c36e_0 9 = true) ∧ (decode dsJ3_checkFromIndexSize_8c36e_0 10 = .ok (.iload_n 0, 1) ∧ okop dsJ3_checkFromIndexSize_8c36e_0 10 = true) ∧ (decode dsJ3_checkFromIndexSize_8c36e_0 11 = .ok (.isub, 1) ∧ okop dsJ3_checkFromIndexSize_8c36e_0 11 = true) := by decide +kernel
theorem dJ3_checkFromIndexSize_8c36e_0 : decode cJ3_checkFromIndexSize_8c36e 0 = .ok (.iload_n 2, 1) := dgq (p := 0) daJ3_checkFromIndexSize_8c36e_0 dbJ3_checkFromIndexSize_8c36e_0.1
theorem dJ3_checkFromIndexSize_8c36e_1 : decode cJ3_checkFromIndexSize_8c36e 1 = .ok (.iload_n 0, 1) := dgq (p := 1) daJ3_checkFromIndexSize_8c36e_0 dbJ3_checkFromIndexSize_8c36e_0.2.1
theorem dJ3_checkFromIndexSize_8c36e_2 : decode cJ3_checkFromIndexSize_8c36e 2 = .ok (.ior, 1) := dgq (p := 2) daJ3_checkFromIndexSize_8c36e_0 dbJ3_checkFromIndexSize_8c36e_0.2.2.1
theorem dJ3_checkFromIndexSize_8c36e_3 : decode cJ3_checkFromIndexSize_8c36e 3 = .ok (.iload_n 1, 1) := dgq (p := 3) daJ3_checkFromIndexSize_8c36e_0 dbJ3_checkFromIndexSize_8c36e_0.2.2.2.1
theorem dJ3_checkFromIndexSize_8c36e_4 : decode cJ3_checkFromIndexSize_8c36e 4 = .ok (.ior, 1) := dgq (p := 4) daJ3_checkFromIndexSize_8c36e_0 dbJ3_checkFromIndexSize_8c36e_0.2.2.2.2.1
theorem dJ3_checkFromIndexSize_8c36e_5 : decode cJ3_checkFromIndexSize_8c36e 5 = .ok (.ifCond .lt 10, 3) := dgq (p := 5) daJ3_checkFromIndexSize_8c36e_0 dbJ3_checkFromIndexSize_8c36e_0.2.2.2.2.2.1
theorem dJ3_checkFromIndexSize_8c36e_8 : decode cJ3_checkFromIndexSize_8c36e 8 = .ok (.iload_n 1, 1) := dgq (p := 8) daJ3_checkFromIndexSize_8c36e_0 dbJ3_checkFromIndexSize_8c36e_0.2.2.2.2.2.2.1
theorem dJ3_checkFromIndexSize_8c36e_9 : decode cJ3_checkFromIndexSize_8c36e 9 = .ok (.iload_n 2, 1) := dgq (p := 9) daJ3_checkFromIndexSize_8c36e_0 dbJ3_checkFromIndexSize_8c36e_0.2.2.2.2.2.2.2.1
theorem dJ3_checkFromIndexSize_8c36e_10 : decode cJ3_checkFromIndexSize_8c36e 10 = .ok (.iload_n 0, 1) := dgq (p := 10) daJ3_checkFromIndexSize_8c36e_0 dbJ3_checkFromIndexSize_8c36e_0.2.2.2.2.2.2.2.2.1
theorem dJ3_checkFromIndexSize_8c36e_11 : decode cJ3_checkFromIndexSize_8c36e 11 = .ok (.isub, 1) := dgq (p := 11) daJ3_checkFromIndexSize_8c36e_0 dbJ3_checkFromIndexSize_8c36e_0.2.2.2.2.2.2.2.2.2
def dsJ3_checkFromIndexSize_8c36e_12 : ByteArray := ⟨#[164, 0, 11, 45, 26, 27, 28, 184, 0, 103, 191, 26, 172]⟩
theorem daJ3_checkFromIndexSize_8c36e_12 : agB cJ3_checkFromIndexSize_8c36e dsJ3_checkFromIndexSize_8c36e_12 12 := agB_of (n := 13) (by decide +kernel)
theorem dbJ3_checkFromIndexSize_8c36e_12 : (decode dsJ3_checkFromIndexSize_8c36e_12 0 = .ok (.if_icmp .le 11, 3) ∧ okop dsJ3_checkFromIndexSize_8c36e_12 0 = true) ∧ (decode dsJ3_checkFromIndexSize_8c36e_12 3 = .ok (.aload_n 3, 1) ∧ okop dsJ3_checkFromIndexSize_8c36e_12 3 = true) ∧ (decode dsJ3_checkFromIndexSize_8c36e_12 4 = .ok (.iload_n 0, 1) ∧ okop dsJ3_checkFromIndexSize_8c36e_12 4 = true) ∧ (decode dsJ3_checkFromIndexSize_8c36e_12 5 = .ok (.iload_n 1, 1) ∧ okop dsJ3_checkFromIndexSize_8c36e_12 5 = true) ∧ (decode dsJ3_checkFromIndexSize_8c36e_12 6 = .ok (.iload_n 2, 1) ∧ okop dsJ3_checkFromIndexSize_8c36e_12 6 = true) ∧ (decode dsJ3_checkFromIndexSize_8c36e_12 7 = .ok (.invokestatic 103, 3) ∧ okop dsJ3_checkFromIndexSize_8c36e_12 7 = true) ∧ (decode dsJ3_checkFromIndexSize_8c36e_12 10 = .ok (.athrow, 1) ∧ okop dsJ3_checkFromIndexSize_8c36e_12 10 = true) ∧ (decode dsJ3_checkFromIndexSize_8c36e_12 11 = .ok (.iload_n 0, 1) ∧ okop dsJ3_checkFromIndexSize_8c36e_12 11 = true) ∧ (decode dsJ3_checkFromIndexSize_8c36e_12 12 = .ok (.ireturn, 1) ∧ okop dsJ3_checkFromIndexSize_8c36e_12 12 = true) := by decide +kernel
theorem dJ3_checkFromIndexSize_8c36e_12 : decode cJ3_checkFromIndexSize_8c36e 12 = .ok (.if_icmp .le 11, 3) := dgq (p := 0) daJ3_checkFromIndexSize_8c36e_12 dbJ3_checkFromIndexSize_8c36e_12.1
theorem dJ3_checkFromIndexSize_8c36e_15 : decode cJ3_checkFromIndexSize_8c36e 15 = .ok (.aload_n 3, 1) := dgq (p := 3) daJ3_checkFromIndexSize_8c36e_12 dbJ3_checkFromIndexSize_8c36e_12.2.1
theorem dJ3_checkFromIndexSize_8c36e_16 : decode cJ3_checkFromIndexSize_8c36e 16 = .ok (.iload_n 0, 1) := dgq (p := 4) daJ3_checkFromIndexSize_8c36e_12 dbJ3_checkFromIndexSize_8c36e_12.2.2.1
theorem dJ3_checkFromIndexSize_8c36e_17 : decode cJ3_checkFromIndexSize_8c36e 17 = .ok (.iload_n 1, 1) := dgq (p := 5) daJ3_checkFromIndexSize_8c36e_12 dbJ3_checkFromIndexSize_8c36e_12.2.2.2.1
theorem dJ3_checkFromIndexSize_8c36e_18 : decode cJ3_checkFromIndexSize_8c36e 18 = .ok (.iload_n 2, 1) := dgq (p := 6) daJ3_checkFromIndexSize_8c36e_12 dbJ3_checkFromIndexSize_8c36e_12.2.2.2.2.1
theorem dJ3_checkFromIndexSize_8c36e_19 : decode cJ3_checkFromIndexSize_8c36e 19 = .ok (.invokestatic 103, 3) := dgq (p := 7) daJ3_checkFromIndexSize_8c36e_12 dbJ3_checkFromIndexSize_8c36e_12.2.2.2.2.2.1
theorem dJ3_checkFromIndexSize_8c36e_22 : decode cJ3_checkFromIndexSize_8c36e 22 = .ok (.athrow, 1) := dgq (p := 10) daJ3_checkFromIndexSize_8c36e_12 dbJ3_checkFromIndexSize_8c36e_12.2.2.2.2.2.2.1
theorem dJ3_checkFromIndexSize_8c36e_23 : decode cJ3_checkFromIndexSize_8c36e 23 = .ok (.iload_n 0, 1) := dgq (p := 11) daJ3_checkFromIndexSize_8c36e_12 dbJ3_checkFromIndexSize_8c36e_12.2.2.2.2.2.2.2.1
theorem dJ3_checkFromIndexSize_8c36e_24 : decode cJ3_checkFromIndexSize_8c36e 24 = .ok (.ireturn, 1) := dgq (p := 12) daJ3_checkFromIndexSize_8c36e_12 dbJ3_checkFromIndexSize_8c36e_12.2.2.2.2.2.2.2.2
