def dsL_law_683 : ByteArray := ⟨#[172, 21, 6, 154, 0, 14, 45, 3, 47, 22, 7, 148, 153, 0, 5, 3]⟩
theorem daL_law_683 : agB cL_law dsL_law_683 683 := agB_of (n := 16) (by decide +kernel)
theorem dbL_law_683 : (decode dsL_law_683 0 = .ok (.ireturn, 1) ∧ okop dsL_law_683 0 = true) ∧ (decode dsL_law_683 1 = .ok (.iload 6, 2) ∧ okop dsL_law_683 1 = true) ∧ (decode dsL_law_683 3 = .ok (.ifCond .ne 14, 3) ∧ okop dsL_law_683 3 = true) ∧ (decode dsL_law_683 6 = .ok (.aload_n 3, 1) ∧ okop dsL_law_683 6 = true) ∧ (decode dsL_law_683 7 = .ok (.iconst 0, 1) ∧ okop dsL_law_683 7 = true) ∧ (decode dsL_law_683 8 = .ok (.laload, 1) ∧ okop dsL_law_683 8 = true) ∧ (decode dsL_law_683 9 = .ok (.lload 7, 2) ∧ okop dsL_law_683 9 = true) ∧ (decode dsL_law_683 11 = .ok (.lcmp, 1) ∧ okop dsL_law_683 11 = true) ∧ (decode dsL_law_683 12 = .ok (.ifCond .eq 5, 3) ∧ okop dsL_law_683 12 = true) ∧ (decode dsL_law_683 15 = .ok (.iconst 0, 1) ∧ okop dsL_law_683 15 = true) := by decide +kernel
theorem dL_law_683 : decode cL_law 683 = .ok (.ireturn, 1) := dgq (p := 0) daL_law_683 dbL_law_683.1
theorem dL_law_684 : decode cL_law 684 = .ok (.iload 6, 2) := dgq (p := 1) daL_law_683 dbL_law_683.2.1
theorem dL_law_686 : decode cL_law 686 = .ok (.ifCond .ne 14, 3) := dgq (p := 3) daL_law_683 dbL_law_683.2.2.1
theorem dL_law_689 : decode cL_law 689 = .ok (.aload_n 3, 1) := dgq (p := 6) daL_law_683 dbL_law_683.2.2.2.1
theorem dL_law_690 : decode cL_law 690 = .ok (.iconst 0, 1) := dgq (p := 7) daL_law_683 dbL_law_683.2.2.2.2.1
theorem dL_law_691 : decode cL_law 691 = .ok (.laload, 1) := dgq (p := 8) daL_law_683 dbL_law_683.2.2.2.2.2.1
theorem dL_law_692 : decode cL_law 692 = .ok (.lload 7, 2) := dgq (p := 9) daL_law_683 dbL_law_683.2.2.2.2.2.2.1
theorem dL_law_694 : decode cL_law 694 = .ok (.lcmp, 1) := dgq (p := 11) daL_law_683 dbL_law_683.2.2.2.2.2.2.2.1
theorem dL_law_695 : decode cL_law 695 = .ok (.ifCond .eq 5, 3) := dgq (p := 12) daL_law_683 dbL_law_683.2.2.2.2.2.2.2.2.1
theorem dL_law_698 : decode cL_law 698 = .ok (.iconst 0, 1) := dgq (p := 15) daL_law_683 dbL_law_683.2.2.2.2.2.2.2.2.2
def dsL_law_699 : ByteArray := ⟨#[172, 167, 8, 175, 43, 42, 21, 5, 4, 96, 46, 42, 21, 5]⟩
theorem daL_law_699 : agB cL_law dsL_law_699 699 := agB_of (n := 14) (by decide +kernel)
theorem dbL_law_699 : (decode dsL_law_699 0 = .ok (.ireturn, 1) ∧ okop dsL_law_699 0 = true) ∧ (decode dsL_law_699 1 = .ok (.goto 2223, 3) ∧ okop dsL_law_699 1 = true) ∧ (decode dsL_law_699 4 = .ok (.aload_n 1, 1) ∧ okop dsL_law_699 4 = true) ∧ (decode dsL_law_699 5 = .ok (.aload_n 0, 1) ∧ okop dsL_law_699 5 = true) ∧ (decode dsL_law_699 6 = .ok (.iload 5, 2) ∧ okop dsL_law_699 6 = true) ∧ (decode dsL_law_699 8 = .ok (.iconst 1, 1) ∧ okop dsL_law_699 8 = true) ∧ (decode dsL_law_699 9 = .ok (.iadd, 1) ∧ okop dsL_law_699 9 = true) ∧ (decode dsL_law_699 10 = .ok (.iaload, 1) ∧ okop dsL_law_699 10 = true) ∧ (decode dsL_law_699 11 = .ok (.aload_n 0, 1) ∧ okop dsL_law_699 11 = true) ∧ (decode dsL_law_699 12 = .ok (.iload 5, 2) ∧ okop dsL_law_699 12 = true) := by decide +kernel
theorem dL_law_699 : decode cL_law 699 = .ok (.ireturn, 1) := dgq (p := 0) daL_law_699 dbL_law_699.1
theorem dL_law_700 : decode cL_law 700 = .ok (.goto 2223, 3) := dgq (p := 1) daL_law_699 dbL_law_699.2.1
theorem dL_law_703 : decode cL_law 703 = .ok (.aload_n 1, 1) := dgq (p := 4) daL_law_699 dbL_law_699.2.2.1
theorem dL_law_704 : decode cL_law 704 = .ok (.aload_n 0, 1) := dgq (p := 5) daL_law_699 dbL_law_699.2.2.2.1
theorem dL_law_705 : decode cL_law 705 = .ok (.iload 5, 2) := dgq (p := 6) daL_law_699 dbL_law_699.2.2.2.2.1
theorem dL_law_707 : decode cL_law 707 = .ok (.iconst 1, 1) := dgq (p := 8) daL_law_699 dbL_law_699.2.2.2.2.2.1
theorem dL_law_708 : decode cL_law 708 = .ok (.iadd, 1) := dgq (p := 9) daL_law_699 dbL_law_699.2.2.2.2.2.2.1
theorem dL_law_709 : decode cL_law 709 = .ok (.iaload, 1) := dgq (p := 10) daL_law_699 dbL_law_699.2.2.2.2.2.2.2.1
theorem dL_law_710 : decode cL_law 710 = .ok (.aload_n 0, 1) := dgq (p := 11) daL_law_699 dbL_law_699.2.2.2.2.2.2.2.2.1
theorem dL_law_711 : decode cL_law 711 = .ok (.iload 5, 2) := dgq (p := 12) daL_law_699 dbL_law_699.2.2.2.2.2.2.2.2.2
def dsL_law_713 : ByteArray := ⟨#[5, 96, 46, 45, 184, 1, 8, 54, 6, 44, 42, 21, 5, 4]⟩
theorem daL_law_713 : agB cL_law dsL_law_713 713 := agB_of (n := 14) (by decide +kernel)
theorem dbL_law_713 : (decode dsL_law_713 0 = .ok (.iconst 2, 1) ∧ okop dsL_law_713 0 = true) ∧ (decode dsL_law_713 1 = .ok (.iadd, 1) ∧ okop dsL_law_713 1 = true) ∧ (decode dsL_law_713 2 = .ok (.iaload, 1) ∧ okop dsL_law_713 2 = true) ∧ (decode dsL_law_713 3 = .ok (.aload_n 3, 1) ∧ okop dsL_law_713 3 = true) ∧ (decode dsL_law_713 4 = .ok (.invokestatic 264, 3) ∧ okop dsL_law_713 4 = true) ∧ (decode dsL_law_713 7 = .ok (.istore 6, 2) ∧ okop dsL_law_713 7 = true) ∧ (decode dsL_law_713 9 = .ok (.aload_n 2, 1) ∧ okop dsL_law_713 9 = true) ∧ (decode dsL_law_713 10 = .ok (.aload_n 0, 1) ∧ okop dsL_law_713 10 = true) ∧ (decode dsL_law_713 11 = .ok (.iload 5, 2) ∧ okop dsL_law_713 11 = true) ∧ (decode dsL_law_713 13 = .ok (.iconst 1, 1) ∧ okop dsL_law_713 13 = true) := by decide +kernel
theorem dL_law_713 : decode cL_law 713 = .ok (.iconst 2, 1) := dgq (p := 0) daL_law_713 dbL_law_713.1
theorem dL_law_714 : decode cL_law 714 = .ok (.iadd, 1) := dgq (p := 1) daL_law_713 dbL_law_713.2.1
theorem dL_law_715 : decode cL_law 715 = .ok (.iaload, 1) := dgq (p := 2) daL_law_713 dbL_law_713.2.2.1
theorem dL_law_716 : decode cL_law 716 = .ok (.aload_n 3, 1) := dgq (p := 3) daL_law_713 dbL_law_713.2.2.2.1
theorem dL_law_717 : decode cL_law 717 = .ok (.invokestatic 264, 3) := dgq (p := 4) daL_law_713 dbL_law_713.2.2.2.2.1
theorem dL_law_720 : decode cL_law 720 = .ok (.istore 6, 2) := dgq (p := 7) daL_law_713 dbL_law_713.2.2.2.2.2.1
theorem dL_law_722 : decode cL_law 722 = .ok (.aload_n 2, 1) := dgq (p := 9) daL_law_713 dbL_law_713.2.2.2.2.2.2.1
theorem dL_law_723 : decode cL_law 723 = .ok (.aload_n 0, 1) := dgq (p := 10) daL_law_713 dbL_law_713.2.2.2.2.2.2.2.1
theorem dL_law_724 : decode cL_law 724 = .ok (.iload 5, 2) := dgq (p := 11) daL_law_713 dbL_law_713.2.2.2.2.2.2.2.2.1
theorem dL_law_726 : decode cL_law 726 = .ok (.iconst 1, 1) := dgq (p := 13) daL_law_713 dbL_law_713.2.2.2.2.2.2.2.2.2
def dsL_law_727 : ByteArray := ⟨#[96, 46, 42, 21, 5, 5, 96, 46, 182, 1, 10, 54, 7, 167, 8, 135]⟩
theorem daL_law_727 : agB cL_law dsL_law_727 727 := agB_of (n := 16) (by decide +kernel)
theorem dbL_law_727 : (decode dsL_law_727 0 = .ok (.iadd, 1) ∧ okop dsL_law_727 0 = true) ∧ (decode dsL_law_727 1 = .ok (.iaload, 1) ∧ okop dsL_law_727 1 = true) ∧ (decode dsL_law_727 2 = .ok (.aload_n 0, 1) ∧ okop dsL_law_727 2 = true) ∧ (decode dsL_law_727 3 = .ok (.iload 5, 2) ∧ okop dsL_law_727 3 = true) ∧ (decode dsL_law_727 5 = .ok (.iconst 2, 1) ∧ okop dsL_law_727 5 = true) ∧ (decode dsL_law_727 6 = .ok (.iadd, 1) ∧ okop dsL_law_727 6 = true) ∧ (decode dsL_law_727 7 = .ok (.iaload, 1) ∧ okop dsL_law_727 7 = true) ∧ (decode dsL_law_727 8 = .ok (.invokevirtual 266, 3) ∧ okop dsL_law_727 8 = true) ∧ (decode dsL_law_727 11 = .ok (.istore 7, 2) ∧ okop dsL_law_727 11 = true) ∧ (decode dsL_law_727 13 = .ok (.goto 2183, 3) ∧ okop dsL_law_727 13 = true) := by decide +kernel
theorem dL_law_727 : decode cL_law 727 = .ok (.iadd, 1) := dgq (p := 0) daL_law_727 dbL_law_727.1
theorem dL_law_728 : decode cL_law 728 = .ok (.iaload, 1) := dgq (p := 1) daL_law_727 dbL_law_727.2.1
theorem dL_law_729 : decode cL_law 729 = .ok (.aload_n 0, 1) := dgq (p := 2) daL_law_727 dbL_law_727.2.2.1
theorem dL_law_730 : decode cL_law 730 = .ok (.iload 5, 2) := dgq (p := 3) daL_law_727 dbL_law_727.2.2.2.1
theorem dL_law_732 : decode cL_law 732 = .ok (.iconst 2, 1) := dgq (p := 5) daL_law_727 dbL_law_727.2.2.2.2.1
theorem dL_law_733 : decode cL_law 733 = .ok (.iadd, 1) := dgq (p := 6) daL_law_727 dbL_law_727.2.2.2.2.2.1
theorem dL_law_734 : decode cL_law 734 = .ok (.iaload, 1) := dgq (p := 7) daL_law_727 dbL_law_727.2.2.2.2.2.2.1
theorem dL_law_735 : decode cL_law 735 = .ok (.invokevirtual 266, 3) := dgq (p := 8) daL_law_727 dbL_law_727.2.2.2.2.2.2.2.1
theorem dL_law_738 : decode cL_law 738 = .ok (.istore 7, 2) := dgq (p := 11) daL_law_727 dbL_law_727.2.2.2.2.2.2.2.2.1
theorem dL_law_740 : decode cL_law 740 = .ok (.goto 2183, 3) := dgq (p := 13) daL_law_727 dbL_law_727.2.2.2.2.2.2.2.2.2
def dsL_law_743 : ByteArray := ⟨#[43, 42, 21, 5, 4, 96, 46, 42, 21, 5, 5, 96]⟩
theorem daL_law_743 : agB cL_law dsL_law_743 743 := agB_of (n := 12) (by decide +kernel)
theorem dbL_law_743 : (decode dsL_law_743 0 = .ok (.aload_n 1, 1) ∧ okop dsL_law_743 0 = true) ∧ (decode dsL_law_743 1 = .ok (.aload_n 0, 1) ∧ okop dsL_law_743 1 = true) ∧ (decode dsL_law_743 2 = .ok (.iload 5, 2) ∧ okop dsL_law_743 2 = true) ∧ (decode dsL_law_743 4 = .ok (.iconst 1, 1) ∧ okop dsL_law_743 4 = true) ∧ (decode dsL_law_743 5 = .ok (.iadd, 1) ∧ okop dsL_law_743 5 = true) ∧ (decode dsL_law_743 6 = .ok (.iaload, 1) ∧ okop dsL_law_743 6 = true) ∧ (decode dsL_law_743 7 = .ok (.aload_n 0, 1) ∧ okop dsL_law_743 7 = true) ∧ (decode dsL_law_743 8 = .ok (.iload 5, 2) ∧ okop dsL_law_743 8 = true) ∧ (decode dsL_law_743 10 = .ok (.iconst 2, 1) ∧ okop dsL_law_743 10 = true) ∧ (decode dsL_law_743 11 = .ok (.iadd, 1) ∧ okop dsL_law_743 11 = true) := by decide +kernel
theorem dL_law_743 : decode cL_law 743 = .ok (.aload_n 1, 1) := dgq (p := 0) daL_law_743 dbL_law_743.1
theorem dL_law_744 : decode cL_law 744 = .ok (.aload_n 0, 1) := dgq (p := 1) daL_law_743 dbL_law_743.2.1
theorem dL_law_745 : decode cL_law 745 = .ok (.iload 5, 2) := dgq (p := 2) daL_law_743 dbL_law_743.2.2.1
theorem dL_law_747 : decode cL_law 747 = .ok (.iconst 1, 1) := dgq (p := 4) daL_law_743 dbL_law_743.2.2.2.1
theorem dL_law_748 : decode cL_law 748 = .ok (.iadd, 1) := dgq (p := 5) daL_law_743 dbL_law_743.2.2.2.2.1
theorem dL_law_749 : decode cL_law 749 = .ok (.iaload, 1) := dgq (p := 6) daL_law_743 dbL_law_743.2.2.2.2.2.1
theorem dL_law_750 : decode cL_law 750 = .ok (.aload_n 0, 1) := dgq (p := 7) daL_law_743 dbL_law_743.2.2.2.2.2.2.1
theorem dL_law_751 : decode cL_law 751 = .ok (.iload 5, 2) := dgq (p := 8) daL_law_743 dbL_law_743.2.2.2.2.2.2.2.1
theorem dL_law_753 : decode cL_law 753 = .ok (.iconst 2, 1) := dgq (p := 10) daL_law_743 dbL_law_743.2.2.2.2.2.2.2.2.1
theorem dL_law_754 : decode cL_law 754 = .ok (.iadd, 1) := dgq (p := 11) daL_law_743 dbL_law_743.2.2.2.2.2.2.2.2.2
def dsL_law_755 : ByteArray := ⟨#[46, 45, 184, 1, 11, 54, 6, 44, 42, 21, 5, 4, 96, 46]⟩
theorem daL_law_755 : agB cL_law dsL_law_755 755 := agB_of (n := 14) (by decide +kernel)
theorem dbL_law_755 : (decode dsL_law_755 0 = .ok (.iaload, 1) ∧ okop dsL_law_755 0 = true) ∧ (decode dsL_law_755 1 = .ok (.aload_n 3, 1) ∧ okop dsL_law_755 1 = true) ∧ (decode dsL_law_755 2 = .ok (.invokestatic 267, 3) ∧ okop dsL_law_755 2 = true) ∧ (decode dsL_law_755 5 = .ok (.istore 6, 2) ∧ okop dsL_law_755 5 = true) ∧ (decode dsL_law_755 7 = .ok (.aload_n 2, 1) ∧ okop dsL_law_755 7 = true) ∧ (decode dsL_law_755 8 = .ok (.aload_n 0, 1) ∧ okop dsL_law_755 8 = true) ∧ (decode dsL_law_755 9 = .ok (.iload 5, 2) ∧ okop dsL_law_755 9 = true) ∧ (decode dsL_law_755 11 = .ok (.iconst 1, 1) ∧ okop dsL_law_755 11 = true) ∧ (decode dsL_law_755 12 = .ok (.iadd, 1) ∧ okop dsL_law_755 12 = true) ∧ (decode dsL_law_755 13 = .ok (.iaload, 1) ∧ okop dsL_law_755 13 = true) := by decide +kernel
theorem dL_law_755 : decode cL_law 755 = .ok (.iaload, 1) := dgq (p := 0) daL_law_755 dbL_law_755.1
theorem dL_law_756 : decode cL_law 756 = .ok (.aload_n 3, 1) := dgq (p := 1) daL_law_755 dbL_law_755.2.1
theorem dL_law_757 : decode cL_law 757 = .ok (.invokestatic 267, 3) := dgq (p := 2) daL_law_755 dbL_law_755.2.2.1
theorem dL_law_760 : decode cL_law 760 = .ok (.istore 6, 2) := dgq (p := 5) daL_law_755 dbL_law_755.2.2.2.1
theorem dL_law_762 : decode cL_law 762 = .ok (.aload_n 2, 1) := dgq (p := 7) daL_law_755 dbL_law_755.2.2.2.2.1
theorem dL_law_763 : decode cL_law 763 = .ok (.aload_n 0, 1) := dgq (p := 8) daL_law_755 dbL_law_755.2.2.2.2.2.1
theorem dL_law_764 : decode cL_law 764 = .ok (.iload 5, 2) := dgq (p := 9) daL_law_755 dbL_law_755.2.2.2.2.2.2.1
theorem dL_law_766 : decode cL_law 766 = .ok (.iconst 1, 1) := dgq (p := 11) daL_law_755 dbL_law_755.2.2.2.2.2.2.2.1
theorem dL_law_767 : decode cL_law 767 = .ok (.iadd, 1) := dgq (p := 12) daL_law_755 dbL_law_755.2.2.2.2.2.2.2.2.1
theorem dL_law_768 : decode cL_law 768 = .ok (.iaload, 1) := dgq (p := 13) daL_law_755 dbL_law_755.2.2.2.2.2.2.2.2.2
def dsL_law_769 : ByteArray := ⟨#[42, 21, 5, 5, 96, 46, 182, 1, 13, 55, 7, 167, 8, 95, 43, 42]⟩
theorem daL_law_769 : agB cL_law dsL_law_769 769 := agB_of (n := 16) (by decide +kernel)
theorem dbL_law_769 : (decode dsL_law_769 0 = .ok (.aload_n 0, 1) ∧ okop dsL_law_769 0 = true) ∧ (decode dsL_law_769 1 = .ok (.iload 5, 2) ∧ okop dsL_law_769 1 = true) ∧ (decode dsL_law_769 3 = .ok (.iconst 2, 1) ∧ okop dsL_law_769 3 = true) ∧ (decode dsL_law_769 4 = .ok (.iadd, 1) ∧ okop dsL_law_769 4 = true) ∧ (decode dsL_law_769 5 = .ok (.iaload, 1) ∧ okop dsL_law_769 5 = true) ∧ (decode dsL_law_769 6 = .ok (.invokevirtual 269, 3) ∧ okop dsL_law_769 6 = true) ∧ (decode dsL_law_769 9 = .ok (.lstore 7, 2) ∧ okop dsL_law_769 9 = true) ∧ (decode dsL_law_769 11 = .ok (.goto 2143, 3) ∧ okop dsL_law_769 11 = true) ∧ (decode dsL_law_769 14 = .ok (.aload_n 1, 1) ∧ okop dsL_law_769 14 = true) ∧ (decode dsL_law_769 15 = .ok (.aload_n 0, 1) ∧ okop dsL_law_769 15 = true) := by decide +kernel
theorem dL_law_769 : decode cL_law 769 = .ok (.aload_n 0, 1) := dgq (p := 0) daL_law_769 dbL_law_769.1
theorem dL_law_770 : decode cL_law 770 = .ok (.iload 5, 2) := dgq (p := 1) daL_law_769 dbL_law_769.2.1
theorem dL_law_772 : decode cL_law 772 = .ok (.iconst 2, 1) := dgq (p := 3) daL_law_769 dbL_law_769.2.2.1
theorem dL_law_773 : decode cL_law 773 = .ok (.iadd, 1) := dgq (p := 4) daL_law_769 dbL_law_769.2.2.2.1
theorem dL_law_774 : decode cL_law 774 = .ok (.iaload, 1) := dgq (p := 5) daL_law_769 dbL_law_769.2.2.2.2.1
theorem dL_law_775 : decode cL_law 775 = .ok (.invokevirtual 269, 3) := dgq (p := 6) daL_law_769 dbL_law_769.2.2.2.2.2.1
theorem dL_law_778 : decode cL_law 778 = .ok (.lstore 7, 2) := dgq (p := 9) daL_law_769 dbL_law_769.2.2.2.2.2.2.1
theorem dL_law_780 : decode cL_law 780 = .ok (.goto 2143, 3) := dgq (p := 11) daL_law_769 dbL_law_769.2.2.2.2.2.2.2.1
theorem dL_law_783 : decode cL_law 783 = .ok (.aload_n 1, 1) := dgq (p := 14) daL_law_769 dbL_law_769.2.2.2.2.2.2.2.2.1
theorem dL_law_784 : decode cL_law 784 = .ok (.aload_n 0, 1) := dgq (p := 15) daL_law_769 dbL_law_769.2.2.2.2.2.2.2.2.2
def dsL_law_785 : ByteArray := ⟨#[21, 5, 4, 96, 46, 42, 21, 5, 5, 96, 46, 45]⟩
theorem daL_law_785 : agB cL_law dsL_law_785 785 := agB_of (n := 12) (by decide +kernel)
theorem dbL_law_785 : (decode dsL_law_785 0 = .ok (.iload 5, 2) ∧ okop dsL_law_785 0 = true) ∧ (decode dsL_law_785 2 = .ok (.iconst 1, 1) ∧ okop dsL_law_785 2 = true) ∧ (decode dsL_law_785 3 = .ok (.iadd, 1) ∧ okop dsL_law_785 3 = true) ∧ (decode dsL_law_785 4 = .ok (.iaload, 1) ∧ okop dsL_law_785 4 = true) ∧ (decode dsL_law_785 5 = .ok (.aload_n 0, 1) ∧ okop dsL_law_785 5 = true) ∧ (decode dsL_law_785 6 = .ok (.iload 5, 2) ∧ okop dsL_law_785 6 = true) ∧ (decode dsL_law_785 8 = .ok (.iconst 2, 1) ∧ okop dsL_law_785 8 = true) ∧ (decode dsL_law_785 9 = .ok (.iadd, 1) ∧ okop dsL_law_785 9 = true) ∧ (decode dsL_law_785 10 = .ok (.iaload, 1) ∧ okop dsL_law_785 10 = true) ∧ (decode dsL_law_785 11 = .ok (.aload_n 3, 1) ∧ okop dsL_law_785 11 = true) := by decide +kernel
theorem dL_law_785 : decode cL_law 785 = .ok (.iload 5, 2) := dgq (p := 0) daL_law_785 dbL_law_785.1
theorem dL_law_787 : decode cL_law 787 = .ok (.iconst 1, 1) := dgq (p := 2) daL_law_785 dbL_law_785.2.1
theorem dL_law_788 : decode cL_law 788 = .ok (.iadd, 1) := dgq (p := 3) daL_law_785 dbL_law_785.2.2.1
theorem dL_law_789 : decode cL_law 789 = .ok (.iaload, 1) := dgq (p := 4) daL_law_785 dbL_law_785.2.2.2.1
theorem dL_law_790 : decode cL_law 790 = .ok (.aload_n 0, 1) := dgq (p := 5) daL_law_785 dbL_law_785.2.2.2.2.1
theorem dL_law_791 : decode cL_law 791 = .ok (.iload 5, 2) := dgq (p := 6) daL_law_785 dbL_law_785.2.2.2.2.2.1
theorem dL_law_793 : decode cL_law 793 = .ok (.iconst 2, 1) := dgq (p := 8) daL_law_785 dbL_law_785.2.2.2.2.2.2.1
theorem dL_law_794 : decode cL_law 794 = .ok (.iadd, 1) := dgq (p := 9) daL_law_785 dbL_law_785.2.2.2.2.2.2.2.1
theorem dL_law_795 : decode cL_law 795 = .ok (.iaload, 1) := dgq (p := 10) daL_law_785 dbL_law_785.2.2.2.2.2.2.2.2.1
theorem dL_law_796 : decode cL_law 796 = .ok (.aload_n 3, 1) := dgq (p := 11) daL_law_785 dbL_law_785.2.2.2.2.2.2.2.2.2
def dsL_law_797 : ByteArray := ⟨#[184, 1, 14, 54, 6, 44, 42, 21, 5, 4, 96, 46, 42, 21, 5]⟩
theorem daL_law_797 : agB cL_law dsL_law_797 797 := agB_of (n := 15) (by decide +kernel)
theorem dbL_law_797 : (decode dsL_law_797 0 = .ok (.invokestatic 270, 3) ∧ okop dsL_law_797 0 = true) ∧ (decode dsL_law_797 3 = .ok (.istore 6, 2) ∧ okop dsL_law_797 3 = true) ∧ (decode dsL_law_797 5 = .ok (.aload_n 2, 1) ∧ okop dsL_law_797 5 = true) ∧ (decode dsL_law_797 6 = .ok (.aload_n 0, 1) ∧ okop dsL_law_797 6 = true) ∧ (decode dsL_law_797 7 = .ok (.iload 5, 2) ∧ okop dsL_law_797 7 = true) ∧ (decode dsL_law_797 9 = .ok (.iconst 1, 1) ∧ okop dsL_law_797 9 = true) ∧ (decode dsL_law_797 10 = .ok (.iadd, 1) ∧ okop dsL_law_797 10 = true) ∧ (decode dsL_law_797 11 = .ok (.iaload, 1) ∧ okop dsL_law_797 11 = true) ∧ (decode dsL_law_797 12 = .ok (.aload_n 0, 1) ∧ okop dsL_law_797 12 = true) ∧ (decode dsL_law_797 13 = .ok (.iload 5, 2) ∧ okop dsL_law_797 13 = true) := by decide +kernel
theorem dL_law_797 : decode cL_law 797 = .ok (.invokestatic 270, 3) := dgq (p := 0) daL_law_797 dbL_law_797.1
theorem dL_law_800 : decode cL_law 800 = .ok (.istore 6, 2) := dgq (p := 3) daL_law_797 dbL_law_797.2.1
theorem dL_law_802 : decode cL_law 802 = .ok (.aload_n 2, 1) := dgq (p := 5) daL_law_797 dbL_law_797.2.2.1
theorem dL_law_803 : decode cL_law 803 = .ok (.aload_n 0, 1) := dgq (p := 6) daL_law_797 dbL_law_797.2.2.2.1
theorem dL_law_804 : decode cL_law 804 = .ok (.iload 5, 2) := dgq (p := 7) daL_law_797 dbL_law_797.2.2.2.2.1
theorem dL_law_806 : decode cL_law 806 = .ok (.iconst 1, 1) := dgq (p := 9) daL_law_797 dbL_law_797.2.2.2.2.2.1
theorem dL_law_807 : decode cL_law 807 = .ok (.iadd, 1) := dgq (p := 10) daL_law_797 dbL_law_797.2.2.2.2.2.2.1
theorem dL_law_808 : decode cL_law 808 = .ok (.iaload, 1) := dgq (p := 11) daL_law_797 dbL_law_797.2.2.2.2.2.2.2.1
theorem dL_law_809 : decode cL_law 809 = .ok (.aload_n 0, 1) := dgq (p := 12) daL_law_797 dbL_law_797.2.2.2.2.2.2.2.2.1
theorem dL_law_810 : decode cL_law 810 = .ok (.iload 5, 2) := dgq (p := 13) daL_law_797 dbL_law_797.2.2.2.2.2.2.2.2.2
def dsL_law_812 : ByteArray := ⟨#[5, 96, 46, 182, 1, 16, 54, 7, 167, 8, 55, 43, 42, 21, 5, 4]⟩
theorem daL_law_812 : agB cL_law dsL_law_812 812 := agB_of (n := 16) (by decide +kernel)
theorem dbL_law_812 : (decode dsL_law_812 0 = .ok (.iconst 2, 1) ∧ okop dsL_law_812 0 = true) ∧ (decode dsL_law_812 1 = .ok (.iadd, 1) ∧ okop dsL_law_812 1 = true) ∧ (decode dsL_law_812 2 = .ok (.iaload, 1) ∧ okop dsL_law_812 2 = true) ∧ (decode dsL_law_812 3 = .ok (.invokevirtual 272, 3) ∧ okop dsL_law_812 3 = true) ∧ (decode dsL_law_812 6 = .ok (.istore 7, 2) ∧ okop dsL_law_812 6 = true) ∧ (decode dsL_law_812 8 = .ok (.goto 2103, 3) ∧ okop dsL_law_812 8 = true) ∧ (decode dsL_law_812 11 = .ok (.aload_n 1, 1) ∧ okop dsL_law_812 11 = true) ∧ (decode dsL_law_812 12 = .ok (.aload_n 0, 1) ∧ okop dsL_law_812 12 = true) ∧ (decode dsL_law_812 13 = .ok (.iload 5, 2) ∧ okop dsL_law_812 13 = true) ∧ (decode dsL_law_812 15 = .ok (.iconst 1, 1) ∧ okop dsL_law_812 15 = true) := by decide +kernel
theorem dL_law_812 : decode cL_law 812 = .ok (.iconst 2, 1) := dgq (p := 0) daL_law_812 dbL_law_812.1
theorem dL_law_813 : decode cL_law 813 = .ok (.iadd, 1) := dgq (p := 1) daL_law_812 dbL_law_812.2.1
theorem dL_law_814 : decode cL_law 814 = .ok (.iaload, 1) := dgq (p := 2) daL_law_812 dbL_law_812.2.2.1
theorem dL_law_815 : decode cL_law 815 = .ok (.invokevirtual 272, 3) := dgq (p := 3) daL_law_812 dbL_law_812.2.2.2.1
theorem dL_law_818 : decode cL_law 818 = .ok (.istore 7, 2) := dgq (p := 6) daL_law_812 dbL_law_812.2.2.2.2.1
theorem dL_law_820 : decode cL_law 820 = .ok (.goto 2103, 3) := dgq (p := 8) daL_law_812 dbL_law_812.2.2.2.2.2.1
theorem dL_law_823 : decode cL_law 823 = .ok (.aload_n 1, 1) := dgq (p := 11) daL_law_812 dbL_law_812.2.2.2.2.2.2.1
theorem dL_law_824 : decode cL_law 824 = .ok (.aload_n 0, 1) := dgq (p := 12) daL_law_812 dbL_law_812.2.2.2.2.2.2.2.1
theorem dL_law_825 : decode cL_law 825 = .ok (.iload 5, 2) := dgq (p := 13) daL_law_812 dbL_law_812.2.2.2.2.2.2.2.2.1
theorem dL_law_827 : decode cL_law 827 = .ok (.iconst 1, 1) := dgq (p := 15) daL_law_812 dbL_law_812.2.2.2.2.2.2.2.2.2
def dsL_law_828 : ByteArray := ⟨#[96, 46, 42, 21, 5, 5, 96, 46, 42, 21, 5, 6]⟩
theorem daL_law_828 : agB cL_law dsL_law_828 828 := agB_of (n := 12) (by decide +kernel)
theorem dbL_law_828 : (decode dsL_law_828 0 = .ok (.iadd, 1) ∧ okop dsL_law_828 0 = true) ∧ (decode dsL_law_828 1 = .ok (.iaload, 1) ∧ okop dsL_law_828 1 = true) ∧ (decode dsL_law_828 2 = .ok (.aload_n 0, 1) ∧ okop dsL_law_828 2 = true) ∧ (decode dsL_law_828 3 = .ok (.iload 5, 2) ∧ okop dsL_law_828 3 = true) ∧ (decode dsL_law_828 5 = .ok (.iconst 2, 1) ∧ okop dsL_law_828 5 = true) ∧ (decode dsL_law_828 6 = .ok (.iadd, 1) ∧ okop dsL_law_828 6 = true) ∧ (decode dsL_law_828 7 = .ok (.iaload, 1) ∧ okop dsL_law_828 7 = true) ∧ (decode dsL_law_828 8 = .ok (.aload_n 0, 1) ∧ okop dsL_law_828 8 = true) ∧ (decode dsL_law_828 9 = .ok (.iload 5, 2) ∧ okop dsL_law_828 9 = true) ∧ (decode dsL_law_828 11 = .ok (.iconst 3, 1) ∧ okop dsL_law_828 11 = true) := by decide +kernel
theorem dL_law_828 : decode cL_law 828 = .ok (.iadd, 1) := dgq (p := 0) daL_law_828 dbL_law_828.1
theorem dL_law_829 : decode cL_law 829 = .ok (.iaload, 1) := dgq (p := 1) daL_law_828 dbL_law_828.2.1
theorem dL_law_830 : decode cL_law 830 = .ok (.aload_n 0, 1) := dgq (p := 2) daL_law_828 dbL_law_828.2.2.1
theorem dL_law_831 : decode cL_law 831 = .ok (.iload 5, 2) := dgq (p := 3) daL_law_828 dbL_law_828.2.2.2.1
theorem dL_law_833 : decode cL_law 833 = .ok (.iconst 2, 1) := dgq (p := 5) daL_law_828 dbL_law_828.2.2.2.2.1
theorem dL_law_834 : decode cL_law 834 = .ok (.iadd, 1) := dgq (p := 6) daL_law_828 dbL_law_828.2.2.2.2.2.1
theorem dL_law_835 : decode cL_law 835 = .ok (.iaload, 1) := dgq (p := 7) daL_law_828 dbL_law_828.2.2.2.2.2.2.1
theorem dL_law_836 : decode cL_law 836 = .ok (.aload_n 0, 1) := dgq (p := 8) daL_law_828 dbL_law_828.2.2.2.2.2.2.2.1
theorem dL_law_837 : decode cL_law 837 = .ok (.iload 5, 2) := dgq (p := 9) daL_law_828 dbL_law_828.2.2.2.2.2.2.2.2.1
theorem dL_law_839 : decode cL_law 839 = .ok (.iconst 3, 1) := dgq (p := 11) daL_law_828 dbL_law_828.2.2.2.2.2.2.2.2.2
def dsL_law_840 : ByteArray := ⟨#[96, 46, 42, 21, 5, 7, 96, 46, 45, 184, 1, 17, 54, 6]⟩
theorem daL_law_840 : agB cL_law dsL_law_840 840 := agB_of (n := 14) (by decide +kernel)
theorem dbL_law_840 : (decode dsL_law_840 0 = .ok (.iadd, 1) ∧ okop dsL_law_840 0 = true) ∧ (decode dsL_law_840 1 = .ok (.iaload, 1) ∧ okop dsL_law_840 1 = true) ∧ (decode dsL_law_840 2 = .ok (.aload_n 0, 1) ∧ okop dsL_law_840 2 = true) ∧ (decode dsL_law_840 3 = .ok (.iload 5, 2) ∧ okop dsL_law_840 3 = true) ∧ (decode dsL_law_840 5 = .ok (.iconst 4, 1) ∧ okop dsL_law_840 5 = true) ∧ (decode dsL_law_840 6 = .ok (.iadd, 1) ∧ okop dsL_law_840 6 = true) ∧ (decode dsL_law_840 7 = .ok (.iaload, 1) ∧ okop dsL_law_840 7 = true) ∧ (decode dsL_law_840 8 = .ok (.aload_n 3, 1) ∧ okop dsL_law_840 8 = true) ∧ (decode dsL_law_840 9 = .ok (.invokestatic 273, 3) ∧ okop dsL_law_840 9 = true) ∧ (decode dsL_law_840 12 = .ok (.istore 6, 2) ∧ okop dsL_law_840 12 = true) := by decide +kernel
theorem dL_law_840 : decode cL_law 840 = .ok (.iadd, 1) := dgq (p := 0) daL_law_840 dbL_law_840.1
theorem dL_law_841 : decode cL_law 841 = .ok (.iaload, 1) := dgq (p := 1) daL_law_840 dbL_law_840.2.1
theorem dL_law_842 : decode cL_law 842 = .ok (.aload_n 0, 1) := dgq (p := 2) daL_law_840 dbL_law_840.2.2.1
theorem dL_law_843 : decode cL_law 843 = .ok (.iload 5, 2) := dgq (p := 3) daL_law_840 dbL_law_840.2.2.2.1
theorem dL_law_845 : decode cL_law 845 = .ok (.iconst 4, 1) := dgq (p := 5) daL_law_840 dbL_law_840.2.2.2.2.1
theorem dL_law_846 : decode cL_law 846 = .ok (.iadd, 1) := dgq (p := 6) daL_law_840 dbL_law_840.2.2.2.2.2.1
theorem dL_law_847 : decode cL_law 847 = .ok (.iaload, 1) := dgq (p := 7) daL_law_840 dbL_law_840.2.2.2.2.2.2.1
theorem dL_law_848 : decode cL_law 848 = .ok (.aload_n 3, 1) := dgq (p := 8) daL_law_840 dbL_law_840.2.2.2.2.2.2.2.1
theorem dL_law_849 : decode cL_law 849 = .ok (.invokestatic 273, 3) := dgq (p := 9) daL_law_840 dbL_law_840.2.2.2.2.2.2.2.2.1
theorem dL_law_852 : decode cL_law 852 = .ok (.istore 6, 2) := dgq (p := 12) daL_law_840 dbL_law_840.2.2.2.2.2.2.2.2.2
def dsL_law_854 : ByteArray := ⟨#[44, 42, 21, 5, 4, 96, 46, 42, 21, 5, 5, 96]⟩
theorem daL_law_854 : agB cL_law dsL_law_854 854 := agB_of (n := 12) (by decide +kernel)
theorem dbL_law_854 : (decode dsL_law_854 0 = .ok (.aload_n 2, 1) ∧ okop dsL_law_854 0 = true) ∧ (decode dsL_law_854 1 = .ok (.aload_n 0, 1) ∧ okop dsL_law_854 1 = true) ∧ (decode dsL_law_854 2 = .ok (.iload 5, 2) ∧ okop dsL_law_854 2 = true) ∧ (decode dsL_law_854 4 = .ok (.iconst 1, 1) ∧ okop dsL_law_854 4 = true) ∧ (decode dsL_law_854 5 = .ok (.iadd, 1) ∧ okop dsL_law_854 5 = true) ∧ (decode dsL_law_854 6 = .ok (.iaload, 1) ∧ okop dsL_law_854 6 = true) ∧ (decode dsL_law_854 7 = .ok (.aload_n 0, 1) ∧ okop dsL_law_854 7 = true) ∧ (decode dsL_law_854 8 = .ok (.iload 5, 2) ∧ okop dsL_law_854 8 = true) ∧ (decode dsL_law_854 10 = .ok (.iconst 2, 1) ∧ okop dsL_law_854 10 = true) ∧ (decode dsL_law_854 11 = .ok (.iadd, 1) ∧ okop dsL_law_854 11 = true) := by decide +kernel
theorem dL_law_854 : decode cL_law 854 = .ok (.aload_n 2, 1) := dgq (p := 0) daL_law_854 dbL_law_854.1
theorem dL_law_855 : decode cL_law 855 = .ok (.aload_n 0, 1) := dgq (p := 1) daL_law_854 dbL_law_854.2.1
theorem dL_law_856 : decode cL_law 856 = .ok (.iload 5, 2) := dgq (p := 2) daL_law_854 dbL_law_854.2.2.1
theorem dL_law_858 : decode cL_law 858 = .ok (.iconst 1, 1) := dgq (p := 4) daL_law_854 dbL_law_854.2.2.2.1
theorem dL_law_859 : decode cL_law 859 = .ok (.iadd, 1) := dgq (p := 5) daL_law_854 dbL_law_854.2.2.2.2.1
theorem dL_law_860 : decode cL_law 860 = .ok (.iaload, 1) := dgq (p := 6) daL_law_854 dbL_law_854.2.2.2.2.2.1
theorem dL_law_861 : decode cL_law 861 = .ok (.aload_n 0, 1) := dgq (p := 7) daL_law_854 dbL_law_854.2.2.2.2.2.2.1
theorem dL_law_862 : decode cL_law 862 = .ok (.iload 5, 2) := dgq (p := 8) daL_law_854 dbL_law_854.2.2.2.2.2.2.2.1
theorem dL_law_864 : decode cL_law 864 = .ok (.iconst 2, 1) := dgq (p := 10) daL_law_854 dbL_law_854.2.2.2.2.2.2.2.2.1
theorem dL_law_865 : decode cL_law 865 = .ok (.iadd, 1) := dgq (p := 11) daL_law_854 dbL_law_854.2.2.2.2.2.2.2.2.2
def dsL_law_866 : ByteArray := ⟨#[46, 42, 21, 5, 6, 96, 46, 42, 21, 5, 7, 96]⟩
theorem daL_law_866 : agB cL_law dsL_law_866 866 := agB_of (n := 12) (by decide +kernel)
theorem dbL_law_866 : (decode dsL_law_866 0 = .ok (.iaload, 1) ∧ okop dsL_law_866 0 = true) ∧ (decode dsL_law_866 1 = .ok (.aload_n 0, 1) ∧ okop dsL_law_866 1 = true) ∧ (decode dsL_law_866 2 = .ok (.iload 5, 2) ∧ okop dsL_law_866 2 = true) ∧ (decode dsL_law_866 4 = .ok (.iconst 3, 1) ∧ okop dsL_law_866 4 = true) ∧ (decode dsL_law_866 5 = .ok (.iadd, 1) ∧ okop dsL_law_866 5 = true) ∧ (decode dsL_law_866 6 = .ok (.iaload, 1) ∧ okop dsL_law_866 6 = true) ∧ (decode dsL_law_866 7 = .ok (.aload_n 0, 1) ∧ okop dsL_law_866 7 = true) ∧ (decode dsL_law_866 8 = .ok (.iload 5, 2) ∧ okop dsL_law_866 8 = true) ∧ (decode dsL_law_866 10 = .ok (.iconst 4, 1) ∧ okop dsL_law_866 10 = true) ∧ (decode dsL_law_866 11 = .ok (.iadd, 1) ∧ okop dsL_law_866 11 = true) := by decide +kernel
theorem dL_law_866 : decode cL_law 866 = .ok (.iaload, 1) := dgq (p := 0) daL_law_866 dbL_law_866.1
theorem dL_law_867 : decode cL_law 867 = .ok (.aload_n 0, 1) := dgq (p := 1) daL_law_866 dbL_law_866.2.1
theorem dL_law_868 : decode cL_law 868 = .ok (.iload 5, 2) := dgq (p := 2) daL_law_866 dbL_law_866.2.2.1
theorem dL_law_870 : decode cL_law 870 = .ok (.iconst 3, 1) := dgq (p := 4) daL_law_866 dbL_law_866.2.2.2.1
theorem dL_law_871 : decode cL_law 871 = .ok (.iadd, 1) := dgq (p := 5) daL_law_866 dbL_law_866.2.2.2.2.1
theorem dL_law_872 : decode cL_law 872 = .ok (.iaload, 1) := dgq (p := 6) daL_law_866 dbL_law_866.2.2.2.2.2.1
theorem dL_law_873 : decode cL_law 873 = .ok (.aload_n 0, 1) := dgq (p := 7) daL_law_866 dbL_law_866.2.2.2.2.2.2.1
theorem dL_law_874 : decode cL_law 874 = .ok (.iload 5, 2) := dgq (p := 8) daL_law_866 dbL_law_866.2.2.2.2.2.2.2.1
theorem dL_law_876 : decode cL_law 876 = .ok (.iconst 4, 1) := dgq (p := 10) daL_law_866 dbL_law_866.2.2.2.2.2.2.2.2.1
theorem dL_law_877 : decode cL_law 877 = .ok (.iadd, 1) := dgq (p := 11) daL_law_866 dbL_law_866.2.2.2.2.2.2.2.2.2
def dsL_law_878 : ByteArray := ⟨#[46, 182, 1, 19, 54, 7, 167, 7, 247, 43, 42, 21, 5, 4, 96, 46]⟩
theorem daL_law_878 : agB cL_law dsL_law_878 878 := agB_of (n := 16) (by decide +kernel)
theorem dbL_law_878 : (decode dsL_law_878 0 = .ok (.iaload, 1) ∧ okop dsL_law_878 0 = true) ∧ (decode dsL_law_878 1 = .ok (.invokevirtual 275, 3) ∧ okop dsL_law_878 1 = true) ∧ (decode dsL_law_878 4 = .ok (.istore 7, 2) ∧ okop dsL_law_878 4 = true) ∧ (decode dsL_law_878 6 = .ok (.goto 2039, 3) ∧ okop dsL_law_878 6 = true) ∧ (decode dsL_law_878 9 = .ok (.aload_n 1, 1) ∧ okop dsL_law_878 9 = true) ∧ (decode dsL_law_878 10 = .ok (.aload_n 0, 1) ∧ okop dsL_law_878 10 = true) ∧ (decode dsL_law_878 11 = .ok (.iload 5, 2) ∧ okop dsL_law_878 11 = true) ∧ (decode dsL_law_878 13 = .ok (.iconst 1, 1) ∧ okop dsL_law_878 13 = true) ∧ (decode dsL_law_878 14 = .ok (.iadd, 1) ∧ okop dsL_law_878 14 = true) ∧ (decode dsL_law_878 15 = .ok (.iaload, 1) ∧ okop dsL_law_878 15 = true) := by decide +kernel
theorem dL_law_878 : decode cL_law 878 = .ok (.iaload, 1) := dgq (p := 0) daL_law_878 dbL_law_878.1
theorem dL_law_879 : decode cL_law 879 = .ok (.invokevirtual 275, 3) := dgq (p := 1) daL_law_878 dbL_law_878.2.1
theorem dL_law_882 : decode cL_law 882 = .ok (.istore 7, 2) := dgq (p := 4) daL_law_878 dbL_law_878.2.2.1
theorem dL_law_884 : decode cL_law 884 = .ok (.goto 2039, 3) := dgq (p := 6) daL_law_878 dbL_law_878.2.2.2.1
theorem dL_law_887 : decode cL_law 887 = .ok (.aload_n 1, 1) := dgq (p := 9) daL_law_878 dbL_law_878.2.2.2.2.1
theorem dL_law_888 : decode cL_law 888 = .ok (.aload_n 0, 1) := dgq (p := 10) daL_law_878 dbL_law_878.2.2.2.2.2.1
theorem dL_law_889 : decode cL_law 889 = .ok (.iload 5, 2) := dgq (p := 11) daL_law_878 dbL_law_878.2.2.2.2.2.2.1
theorem dL_law_891 : decode cL_law 891 = .ok (.iconst 1, 1) := dgq (p := 13) daL_law_878 dbL_law_878.2.2.2.2.2.2.2.1
theorem dL_law_892 : decode cL_law 892 = .ok (.iadd, 1) := dgq (p := 14) daL_law_878 dbL_law_878.2.2.2.2.2.2.2.2.1
theorem dL_law_893 : decode cL_law 893 = .ok (.iaload, 1) := dgq (p := 15) daL_law_878 dbL_law_878.2.2.2.2.2.2.2.2.2
def dsL_law_894 : ByteArray := ⟨#[42, 21, 5, 5, 96, 46, 42, 21, 5, 6, 96, 46]⟩
theorem daL_law_894 : agB cL_law dsL_law_894 894 := agB_of (n := 12) (by decide +kernel)
theorem dbL_law_894 : (decode dsL_law_894 0 = .ok (.aload_n 0, 1) ∧ okop dsL_law_894 0 = true) ∧ (decode dsL_law_894 1 = .ok (.iload 5, 2) ∧ okop dsL_law_894 1 = true) ∧ (decode dsL_law_894 3 = .ok (.iconst 2, 1) ∧ okop dsL_law_894 3 = true) ∧ (decode dsL_law_894 4 = .ok (.iadd, 1) ∧ okop dsL_law_894 4 = true) ∧ (decode dsL_law_894 5 = .ok (.iaload, 1) ∧ okop dsL_law_894 5 = true) ∧ (decode dsL_law_894 6 = .ok (.aload_n 0, 1) ∧ okop dsL_law_894 6 = true) ∧ (decode dsL_law_894 7 = .ok (.iload 5, 2) ∧ okop dsL_law_894 7 = true) ∧ (decode dsL_law_894 9 = .ok (.iconst 3, 1) ∧ okop dsL_law_894 9 = true) ∧ (decode dsL_law_894 10 = .ok (.iadd, 1) ∧ okop dsL_law_894 10 = true) ∧ (decode dsL_law_894 11 = .ok (.iaload, 1) ∧ okop dsL_law_894 11 = true) := by decide +kernel
theorem dL_law_894 : decode cL_law 894 = .ok (.aload_n 0, 1) := dgq (p := 0) daL_law_894 dbL_law_894.1
theorem dL_law_895 : decode cL_law 895 = .ok (.iload 5, 2) := dgq (p := 1) daL_law_894 dbL_law_894.2.1
theorem dL_law_897 : decode cL_law 897 = .ok (.iconst 2, 1) := dgq (p := 3) daL_law_894 dbL_law_894.2.2.1
theorem dL_law_898 : decode cL_law 898 = .ok (.iadd, 1) := dgq (p := 4) daL_law_894 dbL_law_894.2.2.2.1
theorem dL_law_899 : decode cL_law 899 = .ok (.iaload, 1) := dgq (p := 5) daL_law_894 dbL_law_894.2.2.2.2.1
theorem dL_law_900 : decode cL_law 900 = .ok (.aload_n 0, 1) := dgq (p := 6) daL_law_894 dbL_law_894.2.2.2.2.2.1
theorem dL_law_901 : decode cL_law 901 = .ok (.iload 5, 2) := dgq (p := 7) daL_law_894 dbL_law_894.2.2.2.2.2.2.1
theorem dL_law_903 : decode cL_law 903 = .ok (.iconst 3, 1) := dgq (p := 9) daL_law_894 dbL_law_894.2.2.2.2.2.2.2.1
theorem dL_law_904 : decode cL_law 904 = .ok (.iadd, 1) := dgq (p := 10) daL_law_894 dbL_law_894.2.2.2.2.2.2.2.2.1
theorem dL_law_905 : decode cL_law 905 = .ok (.iaload, 1) := dgq (p := 11) daL_law_894 dbL_law_894.2.2.2.2.2.2.2.2.2
def dsL_law_906 : ByteArray := ⟨#[42, 21, 5, 7, 96, 46, 45, 184, 1, 20, 54, 6, 44, 42]⟩
theorem daL_law_906 : agB cL_law dsL_law_906 906 := agB_of (n := 14) (by decide +kernel)
theorem dbL_law_906 : (decode dsL_law_906 0 = .ok (.aload_n 0, 1) ∧ okop dsL_law_906 0 = true) ∧ (decode dsL_law_906 1 = .ok (.iload 5, 2) ∧ okop dsL_law_906 1 = true) ∧ (decode dsL_law_906 3 = .ok (.iconst 4, 1) ∧ okop dsL_law_906 3 = true) ∧ (decode dsL_law_906 4 = .ok (.iadd, 1) ∧ okop dsL_law_906 4 = true) ∧ (decode dsL_law_906 5 = .ok (.iaload, 1) ∧ okop dsL_law_906 5 = true) ∧ (decode dsL_law_906 6 = .ok (.aload_n 3, 1) ∧ okop dsL_law_906 6 = true) ∧ (decode dsL_law_906 7 = .ok (.invokestatic 276, 3) ∧ okop dsL_law_906 7 = true) ∧ (decode dsL_law_906 10 = .ok (.istore 6, 2) ∧ okop dsL_law_906 10 = true) ∧ (decode dsL_law_906 12 = .ok (.aload_n 2, 1) ∧ okop dsL_law_906 12 = true) ∧ (decode dsL_law_906 13 = .ok (.aload_n 0, 1) ∧ okop dsL_law_906 13 = true) := by decide +kernel
theorem dL_law_906 : decode cL_law 906 = .ok (.aload_n 0, 1) := dgq (p := 0) daL_law_906 dbL_law_906.1
theorem dL_law_907 : decode cL_law 907 = .ok (.iload 5, 2) := dgq (p := 1) daL_law_906 dbL_law_906.2.1
theorem dL_law_909 : decode cL_law 909 = .ok (.iconst 4, 1) := dgq (p := 3) daL_law_906 dbL_law_906.2.2.1
theorem dL_law_910 : decode cL_law 910 = .ok (.iadd, 1) := dgq (p := 4) daL_law_906 dbL_law_906.2.2.2.1
theorem dL_law_911 : decode cL_law 911 = .ok (.iaload, 1) := dgq (p := 5) daL_law_906 dbL_law_906.2.2.2.2.1
theorem dL_law_912 : decode cL_law 912 = .ok (.aload_n 3, 1) := dgq (p := 6) daL_law_906 dbL_law_906.2.2.2.2.2.1
theorem dL_law_913 : decode cL_law 913 = .ok (.invokestatic 276, 3) := dgq (p := 7) daL_law_906 dbL_law_906.2.2.2.2.2.2.1
theorem dL_law_916 : decode cL_law 916 = .ok (.istore 6, 2) := dgq (p := 10) daL_law_906 dbL_law_906.2.2.2.2.2.2.2.1
theorem dL_law_918 : decode cL_law 918 = .ok (.aload_n 2, 1) := dgq (p := 12) daL_law_906 dbL_law_906.2.2.2.2.2.2.2.2.1
theorem dL_law_919 : decode cL_law 919 = .ok (.aload_n 0, 1) := dgq (p := 13) daL_law_906 dbL_law_906.2.2.2.2.2.2.2.2.2
def dsL_law_920 : ByteArray := ⟨#[21, 5, 4, 96, 46, 42, 21, 5, 5, 96, 46, 42]⟩
theorem daL_law_920 : agB cL_law dsL_law_920 920 := agB_of (n := 12) (by decide +kernel)
theorem dbL_law_920 : (decode dsL_law_920 0 = .ok (.iload 5, 2) ∧ okop dsL_law_920 0 = true) ∧ (decode dsL_law_920 2 = .ok (.iconst 1, 1) ∧ okop dsL_law_920 2 = true) ∧ (decode dsL_law_920 3 = .ok (.iadd, 1) ∧ okop dsL_law_920 3 = true) ∧ (decode dsL_law_920 4 = .ok (.iaload, 1) ∧ okop dsL_law_920 4 = true) ∧ (decode dsL_law_920 5 = .ok (.aload_n 0, 1) ∧ okop dsL_law_920 5 = true) ∧ (decode dsL_law_920 6 = .ok (.iload 5, 2) ∧ okop dsL_law_920 6 = true) ∧ (decode dsL_law_920 8 = .ok (.iconst 2, 1) ∧ okop dsL_law_920 8 = true) ∧ (decode dsL_law_920 9 = .ok (.iadd, 1) ∧ okop dsL_law_920 9 = true) ∧ (decode dsL_law_920 10 = .ok (.iaload, 1) ∧ okop dsL_law_920 10 = true) ∧ (decode dsL_law_920 11 = .ok (.aload_n 0, 1) ∧ okop dsL_law_920 11 = true) := by decide +kernel
theorem dL_law_920 : decode cL_law 920 = .ok (.iload 5, 2) := dgq (p := 0) daL_law_920 dbL_law_920.1
theorem dL_law_922 : decode cL_law 922 = .ok (.iconst 1, 1) := dgq (p := 2) daL_law_920 dbL_law_920.2.1
theorem dL_law_923 : decode cL_law 923 = .ok (.iadd, 1) := dgq (p := 3) daL_law_920 dbL_law_920.2.2.1
theorem dL_law_924 : decode cL_law 924 = .ok (.iaload, 1) := dgq (p := 4) daL_law_920 dbL_law_920.2.2.2.1
theorem dL_law_925 : decode cL_law 925 = .ok (.aload_n 0, 1) := dgq (p := 5) daL_law_920 dbL_law_920.2.2.2.2.1
theorem dL_law_926 : decode cL_law 926 = .ok (.iload 5, 2) := dgq (p := 6) daL_law_920 dbL_law_920.2.2.2.2.2.1
theorem dL_law_928 : decode cL_law 928 = .ok (.iconst 2, 1) := dgq (p := 8) daL_law_920 dbL_law_920.2.2.2.2.2.2.1
theorem dL_law_929 : decode cL_law 929 = .ok (.iadd, 1) := dgq (p := 9) daL_law_920 dbL_law_920.2.2.2.2.2.2.2.1
theorem dL_law_930 : decode cL_law 930 = .ok (.iaload, 1) := dgq (p := 10) daL_law_920 dbL_law_920.2.2.2.2.2.2.2.2.1
theorem dL_law_931 : decode cL_law 931 = .ok (.aload_n 0, 1) := dgq (p := 11) daL_law_920 dbL_law_920.2.2.2.2.2.2.2.2.2
def dsL_law_932 : ByteArray := ⟨#[21, 5, 6, 96, 46, 42, 21, 5, 7, 96, 46, 182, 1, 22]⟩
theorem daL_law_932 : agB cL_law dsL_law_932 932 := agB_of (n := 14) (by decide +kernel)
theorem dbL_law_932 : (decode dsL_law_932 0 = .ok (.iload 5, 2) ∧ okop dsL_law_932 0 = true) ∧ (decode dsL_law_932 2 = .ok (.iconst 3, 1) ∧ okop dsL_law_932 2 = true) ∧ (decode dsL_law_932 3 = .ok (.iadd, 1) ∧ okop dsL_law_932 3 = true) ∧ (decode dsL_law_932 4 = .ok (.iaload, 1) ∧ okop dsL_law_932 4 = true) ∧ (decode dsL_law_932 5 = .ok (.aload_n 0, 1) ∧ okop dsL_law_932 5 = true) ∧ (decode dsL_law_932 6 = .ok (.iload 5, 2) ∧ okop dsL_law_932 6 = true) ∧ (decode dsL_law_932 8 = .ok (.iconst 4, 1) ∧ okop dsL_law_932 8 = true) ∧ (decode dsL_law_932 9 = .ok (.iadd, 1) ∧ okop dsL_law_932 9 = true) ∧ (decode dsL_law_932 10 = .ok (.iaload, 1) ∧ okop dsL_law_932 10 = true) ∧ (decode dsL_law_932 11 = .ok (.invokevirtual 278, 3) ∧ okop dsL_law_932 11 = true) := by decide +kernel
theorem dL_law_932 : decode cL_law 932 = .ok (.iload 5, 2) := dgq (p := 0) daL_law_932 dbL_law_932.1
theorem dL_law_934 : decode cL_law 934 = .ok (.iconst 3, 1) := dgq (p := 2) daL_law_932 dbL_law_932.2.1
theorem dL_law_935 : decode cL_law 935 = .ok (.iadd, 1) := dgq (p := 3) daL_law_932 dbL_law_932.2.2.1
theorem dL_law_936 : decode cL_law 936 = .ok (.iaload, 1) := dgq (p := 4) daL_law_932 dbL_law_932.2.2.2.1
theorem dL_law_937 : decode cL_law 937 = .ok (.aload_n 0, 1) := dgq (p := 5) daL_law_932 dbL_law_932.2.2.2.2.1
theorem dL_law_938 : decode cL_law 938 = .ok (.iload 5, 2) := dgq (p := 6) daL_law_932 dbL_law_932.2.2.2.2.2.1
theorem dL_law_940 : decode cL_law 940 = .ok (.iconst 4, 1) := dgq (p := 8) daL_law_932 dbL_law_932.2.2.2.2.2.2.1
theorem dL_law_941 : decode cL_law 941 = .ok (.iadd, 1) := dgq (p := 9) daL_law_932 dbL_law_932.2.2.2.2.2.2.2.1
theorem dL_law_942 : decode cL_law 942 = .ok (.iaload, 1) := dgq (p := 10) daL_law_932 dbL_law_932.2.2.2.2.2.2.2.2.1
theorem dL_law_943 : decode cL_law 943 = .ok (.invokevirtual 278, 3) := dgq (p := 11) daL_law_932 dbL_law_932.2.2.2.2.2.2.2.2.2
def dsL_law_946 : ByteArray := ⟨#[54, 7, 167, 7, 183, 43, 42, 21, 5, 4, 96, 46, 42, 21, 5]⟩
theorem daL_law_946 : agB cL_law dsL_law_946 946 := agB_of (n := 15) (by decide +kernel)
theorem dbL_law_946 : (decode dsL_law_946 0 = .ok (.istore 7, 2) ∧ okop dsL_law_946 0 = true) ∧ (decode dsL_law_946 2 = .ok (.goto 1975, 3) ∧ okop dsL_law_946 2 = true) ∧ (decode dsL_law_946 5 = .ok (.aload_n 1, 1) ∧ okop dsL_law_946 5 = true) ∧ (decode dsL_law_946 6 = .ok (.aload_n 0, 1) ∧ okop dsL_law_946 6 = true) ∧ (decode dsL_law_946 7 = .ok (.iload 5, 2) ∧ okop dsL_law_946 7 = true) ∧ (decode dsL_law_946 9 = .ok (.iconst 1, 1) ∧ okop dsL_law_946 9 = true) ∧ (decode dsL_law_946 10 = .ok (.iadd, 1) ∧ okop dsL_law_946 10 = true) ∧ (decode dsL_law_946 11 = .ok (.iaload, 1) ∧ okop dsL_law_946 11 = true) ∧ (decode dsL_law_946 12 = .ok (.aload_n 0, 1) ∧ okop dsL_law_946 12 = true) ∧ (decode dsL_law_946 13 = .ok (.iload 5, 2) ∧ okop dsL_law_946 13 = true) := by decide +kernel
theorem dL_law_946 : decode cL_law 946 = .ok (.istore 7, 2) := dgq (p := 0) daL_law_946 dbL_law_946.1
theorem dL_law_948 : decode cL_law 948 = .ok (.goto 1975, 3) := dgq (p := 2) daL_law_946 dbL_law_946.2.1
theorem dL_law_951 : decode cL_law 951 = .ok (.aload_n 1, 1) := dgq (p := 5) daL_law_946 dbL_law_946.2.2.1
theorem dL_law_952 : decode cL_law 952 = .ok (.aload_n 0, 1) := dgq (p := 6) daL_law_946 dbL_law_946.2.2.2.1
theorem dL_law_953 : decode cL_law 953 = .ok (.iload 5, 2) := dgq (p := 7) daL_law_946 dbL_law_946.2.2.2.2.1
theorem dL_law_955 : decode cL_law 955 = .ok (.iconst 1, 1) := dgq (p := 9) daL_law_946 dbL_law_946.2.2.2.2.2.1
theorem dL_law_956 : decode cL_law 956 = .ok (.iadd, 1) := dgq (p := 10) daL_law_946 dbL_law_946.2.2.2.2.2.2.1
theorem dL_law_957 : decode cL_law 957 = .ok (.iaload, 1) := dgq (p := 11) daL_law_946 dbL_law_946.2.2.2.2.2.2.2.1
theorem dL_law_958 : decode cL_law 958 = .ok (.aload_n 0, 1) := dgq (p := 12) daL_law_946 dbL_law_946.2.2.2.2.2.2.2.2.1
theorem dL_law_959 : decode cL_law 959 = .ok (.iload 5, 2) := dgq (p := 13) daL_law_946 dbL_law_946.2.2.2.2.2.2.2.2.2
def dsL_law_961 : ByteArray := ⟨#[5, 96, 46, 42, 21, 5, 6, 96, 46, 42, 21, 5]⟩
theorem daL_law_961 : agB cL_law dsL_law_961 961 := agB_of (n := 12) (by decide +kernel)
theorem dbL_law_961 : (decode dsL_law_961 0 = .ok (.iconst 2, 1) ∧ okop dsL_law_961 0 = true) ∧ (decode dsL_law_961 1 = .ok (.iadd, 1) ∧ okop dsL_law_961 1 = true) ∧ (decode dsL_law_961 2 = .ok (.iaload, 1) ∧ okop dsL_law_961 2 = true) ∧ (decode dsL_law_961 3 = .ok (.aload_n 0, 1) ∧ okop dsL_law_961 3 = true) ∧ (decode dsL_law_961 4 = .ok (.iload 5, 2) ∧ okop dsL_law_961 4 = true) ∧ (decode dsL_law_961 6 = .ok (.iconst 3, 1) ∧ okop dsL_law_961 6 = true) ∧ (decode dsL_law_961 7 = .ok (.iadd, 1) ∧ okop dsL_law_961 7 = true) ∧ (decode dsL_law_961 8 = .ok (.iaload, 1) ∧ okop dsL_law_961 8 = true) ∧ (decode dsL_law_961 9 = .ok (.aload_n 0, 1) ∧ okop dsL_law_961 9 = true) ∧ (decode dsL_law_961 10 = .ok (.iload 5, 2) ∧ okop dsL_law_961 10 = true) := by decide +kernel
theorem dL_law_961 : decode cL_law 961 = .ok (.iconst 2, 1) := dgq (p := 0) daL_law_961 dbL_law_961.1
theorem dL_law_962 : decode cL_law 962 = .ok (.iadd, 1) := dgq (p := 1) daL_law_961 dbL_law_961.2.1
theorem dL_law_963 : decode cL_law 963 = .ok (.iaload, 1) := dgq (p := 2) daL_law_961 dbL_law_961.2.2.1
theorem dL_law_964 : decode cL_law 964 = .ok (.aload_n 0, 1) := dgq (p := 3) daL_law_961 dbL_law_961.2.2.2.1
theorem dL_law_965 : decode cL_law 965 = .ok (.iload 5, 2) := dgq (p := 4) daL_law_961 dbL_law_961.2.2.2.2.1
theorem dL_law_967 : decode cL_law 967 = .ok (.iconst 3, 1) := dgq (p := 6) daL_law_961 dbL_law_961.2.2.2.2.2.1
theorem dL_law_968 : decode cL_law 968 = .ok (.iadd, 1) := dgq (p := 7) daL_law_961 dbL_law_961.2.2.2.2.2.2.1
theorem dL_law_969 : decode cL_law 969 = .ok (.iaload, 1) := dgq (p := 8) daL_law_961 dbL_law_961.2.2.2.2.2.2.2.1
theorem dL_law_970 : decode cL_law 970 = .ok (.aload_n 0, 1) := dgq (p := 9) daL_law_961 dbL_law_961.2.2.2.2.2.2.2.2.1
theorem dL_law_971 : decode cL_law 971 = .ok (.iload 5, 2) := dgq (p := 10) daL_law_961 dbL_law_961.2.2.2.2.2.2.2.2.2
def dsL_law_973 : ByteArray := ⟨#[7, 96, 46, 45, 184, 1, 23, 54, 6, 44, 42, 21, 5, 4]⟩
theorem daL_law_973 : agB cL_law dsL_law_973 973 := agB_of (n := 14) (by decide +kernel)
theorem dbL_law_973 : (decode dsL_law_973 0 = .ok (.iconst 4, 1) ∧ okop dsL_law_973 0 = true) ∧ (decode dsL_law_973 1 = .ok (.iadd, 1) ∧ okop dsL_law_973 1 = true) ∧ (decode dsL_law_973 2 = .ok (.iaload, 1) ∧ okop dsL_law_973 2 = true) ∧ (decode dsL_law_973 3 = .ok (.aload_n 3, 1) ∧ okop dsL_law_973 3 = true) ∧ (decode dsL_law_973 4 = .ok (.invokestatic 279, 3) ∧ okop dsL_law_973 4 = true) ∧ (decode dsL_law_973 7 = .ok (.istore 6, 2) ∧ okop dsL_law_973 7 = true) ∧ (decode dsL_law_973 9 = .ok (.aload_n 2, 1) ∧ okop dsL_law_973 9 = true) ∧ (decode dsL_law_973 10 = .ok (.aload_n 0, 1) ∧ okop dsL_law_973 10 = true) ∧ (decode dsL_law_973 11 = .ok (.iload 5, 2) ∧ okop dsL_law_973 11 = true) ∧ (decode dsL_law_973 13 = .ok (.iconst 1, 1) ∧ okop dsL_law_973 13 = true) := by decide +kernel
theorem dL_law_973 : decode cL_law 973 = .ok (.iconst 4, 1) := dgq (p := 0) daL_law_973 dbL_law_973.1
theorem dL_law_974 : decode cL_law 974 = .ok (.iadd, 1) := dgq (p := 1) daL_law_973 dbL_law_973.2.1
theorem dL_law_975 : decode cL_law 975 = .ok (.iaload, 1) := dgq (p := 2) daL_law_973 dbL_law_973.2.2.1
theorem dL_law_976 : decode cL_law 976 = .ok (.aload_n 3, 1) := dgq (p := 3) daL_law_973 dbL_law_973.2.2.2.1
theorem dL_law_977 : decode cL_law 977 = .ok (.invokestatic 279, 3) := dgq (p := 4) daL_law_973 dbL_law_973.2.2.2.2.1
theorem dL_law_980 : decode cL_law 980 = .ok (.istore 6, 2) := dgq (p := 7) daL_law_973 dbL_law_973.2.2.2.2.2.1
theorem dL_law_982 : decode cL_law 982 = .ok (.aload_n 2, 1) := dgq (p := 9) daL_law_973 dbL_law_973.2.2.2.2.2.2.1
theorem dL_law_983 : decode cL_law 983 = .ok (.aload_n 0, 1) := dgq (p := 10) daL_law_973 dbL_law_973.2.2.2.2.2.2.2.1
theorem dL_law_984 : decode cL_law 984 = .ok (.iload 5, 2) := dgq (p := 11) daL_law_973 dbL_law_973.2.2.2.2.2.2.2.2.1
theorem dL_law_986 : decode cL_law 986 = .ok (.iconst 1, 1) := dgq (p := 13) daL_law_973 dbL_law_973.2.2.2.2.2.2.2.2.2
def dsL_law_987 : ByteArray := ⟨#[96, 46, 42, 21, 5, 5, 96, 46, 42, 21, 5, 6]⟩
theorem daL_law_987 : agB cL_law dsL_law_987 987 := agB_of (n := 12) (by decide +kernel)
theorem dbL_law_987 : (decode dsL_law_987 0 = .ok (.iadd, 1) ∧ okop dsL_law_987 0 = true) ∧ (decode dsL_law_987 1 = .ok (.iaload, 1) ∧ okop dsL_law_987 1 = true) ∧ (decode dsL_law_987 2 = .ok (.aload_n 0, 1) ∧ okop dsL_law_987 2 = true) ∧ (decode dsL_law_987 3 = .ok (.iload 5, 2) ∧ okop dsL_law_987 3 = true) ∧ (decode dsL_law_987 5 = .ok (.iconst 2, 1) ∧ okop dsL_law_987 5 = true) ∧ (decode dsL_law_987 6 = .ok (.iadd, 1) ∧ okop dsL_law_987 6 = true) ∧ (decode dsL_law_987 7 = .ok (.iaload, 1) ∧ okop dsL_law_987 7 = true) ∧ (decode dsL_law_987 8 = .ok (.aload_n 0, 1) ∧ okop dsL_law_987 8 = true) ∧ (decode dsL_law_987 9 = .ok (.iload 5, 2) ∧ okop dsL_law_987 9 = true) ∧ (decode dsL_law_987 11 = .ok (.iconst 3, 1) ∧ okop dsL_law_987 11 = true) := by decide +kernel
theorem dL_law_987 : decode cL_law 987 = .ok (.iadd, 1) := dgq (p := 0) daL_law_987 dbL_law_987.1
theorem dL_law_988 : decode cL_law 988 = .ok (.iaload, 1) := dgq (p := 1) daL_law_987 dbL_law_987.2.1
theorem dL_law_989 : decode cL_law 989 = .ok (.aload_n 0, 1) := dgq (p := 2) daL_law_987 dbL_law_987.2.2.1
theorem dL_law_990 : decode cL_law 990 = .ok (.iload 5, 2) := dgq (p := 3) daL_law_987 dbL_law_987.2.2.2.1
theorem dL_law_992 : decode cL_law 992 = .ok (.iconst 2, 1) := dgq (p := 5) daL_law_987 dbL_law_987.2.2.2.2.1
theorem dL_law_993 : decode cL_law 993 = .ok (.iadd, 1) := dgq (p := 6) daL_law_987 dbL_law_987.2.2.2.2.2.1
theorem dL_law_994 : decode cL_law 994 = .ok (.iaload, 1) := dgq (p := 7) daL_law_987 dbL_law_987.2.2.2.2.2.2.1
theorem dL_law_995 : decode cL_law 995 = .ok (.aload_n 0, 1) := dgq (p := 8) daL_law_987 dbL_law_987.2.2.2.2.2.2.2.1
theorem dL_law_996 : decode cL_law 996 = .ok (.iload 5, 2) := dgq (p := 9) daL_law_987 dbL_law_987.2.2.2.2.2.2.2.2.1
theorem dL_law_998 : decode cL_law 998 = .ok (.iconst 3, 1) := dgq (p := 11) daL_law_987 dbL_law_987.2.2.2.2.2.2.2.2.2
def dsL_law_999 : ByteArray := ⟨#[96, 46, 42, 21, 5, 7, 96, 46, 182, 1, 25, 54, 7, 167, 7, 119]⟩
theorem daL_law_999 : agB cL_law dsL_law_999 999 := agB_of (n := 16) (by decide +kernel)
theorem dbL_law_999 : (decode dsL_law_999 0 = .ok (.iadd, 1) ∧ okop dsL_law_999 0 = true) ∧ (decode dsL_law_999 1 = .ok (.iaload, 1) ∧ okop dsL_law_999 1 = true) ∧ (decode dsL_law_999 2 = .ok (.aload_n 0, 1) ∧ okop dsL_law_999 2 = true) ∧ (decode dsL_law_999 3 = .ok (.iload 5, 2) ∧ okop dsL_law_999 3 = true) ∧ (decode dsL_law_999 5 = .ok (.iconst 4, 1) ∧ okop dsL_law_999 5 = true) ∧ (decode dsL_law_999 6 = .ok (.iadd, 1) ∧ okop dsL_law_999 6 = true) ∧ (decode dsL_law_999 7 = .ok (.iaload, 1) ∧ okop dsL_law_999 7 = true) ∧ (decode dsL_law_999 8 = .ok (.invokevirtual 281, 3) ∧ okop dsL_law_999 8 = true) ∧ (decode dsL_law_999 11 = .ok (.istore 7, 2) ∧ okop dsL_law_999 11 = true) ∧ (decode dsL_law_999 13 = .ok (.goto 1911, 3) ∧ okop dsL_law_999 13 = true) := by decide +kernel
theorem dL_law_999 : decode cL_law 999 = .ok (.iadd, 1) := dgq (p := 0) daL_law_999 dbL_law_999.1
theorem dL_law_1000 : decode cL_law 1000 = .ok (.iaload, 1) := dgq (p := 1) daL_law_999 dbL_law_999.2.1
theorem dL_law_1001 : decode cL_law 1001 = .ok (.aload_n 0, 1) := dgq (p := 2) daL_law_999 dbL_law_999.2.2.1
theorem dL_law_1002 : decode cL_law 1002 = .ok (.iload 5, 2) := dgq (p := 3) daL_law_999 dbL_law_999.2.2.2.1
theorem dL_law_1004 : decode cL_law 1004 = .ok (.iconst 4, 1) := dgq (p := 5) daL_law_999 dbL_law_999.2.2.2.2.1
theorem dL_law_1005 : decode cL_law 1005 = .ok (.iadd, 1) := dgq (p := 6) daL_law_999 dbL_law_999.2.2.2.2.2.1
theorem dL_law_1006 : decode cL_law 1006 = .ok (.iaload, 1) := dgq (p := 7) daL_law_999 dbL_law_999.2.2.2.2.2.2.1
theorem dL_law_1007 : decode cL_law 1007 = .ok (.invokevirtual 281, 3) := dgq (p := 8) daL_law_999 dbL_law_999.2.2.2.2.2.2.2.1
theorem dL_law_1010 : decode cL_law 1010 = .ok (.istore 7, 2) := dgq (p := 11) daL_law_999 dbL_law_999.2.2.2.2.2.2.2.2.1
theorem dL_law_1012 : decode cL_law 1012 = .ok (.goto 1911, 3) := dgq (p := 13) daL_law_999 dbL_law_999.2.2.2.2.2.2.2.2.2
def dsL_law_1015 : ByteArray := ⟨#[43, 42, 21, 5, 4, 96, 46, 42, 21, 5, 5, 96]⟩
theorem daL_law_1015 : agB cL_law dsL_law_1015 1015 := agB_of (n := 12) (by decide +kernel)
theorem dbL_law_1015 : (decode dsL_law_1015 0 = .ok (.aload_n 1, 1) ∧ okop dsL_law_1015 0 = true) ∧ (decode dsL_law_1015 1 = .ok (.aload_n 0, 1) ∧ okop dsL_law_1015 1 = true) ∧ (decode dsL_law_1015 2 = .ok (.iload 5, 2) ∧ okop dsL_law_1015 2 = true) ∧ (decode dsL_law_1015 4 = .ok (.iconst 1, 1) ∧ okop dsL_law_1015 4 = true) ∧ (decode dsL_law_1015 5 = .ok (.iadd, 1) ∧ okop dsL_law_1015 5 = true) ∧ (decode dsL_law_1015 6 = .ok (.iaload, 1) ∧ okop dsL_law_1015 6 = true) ∧ (decode dsL_law_1015 7 = .ok (.aload_n 0, 1) ∧ okop dsL_law_1015 7 = true) ∧ (decode dsL_law_1015 8 = .ok (.iload 5, 2) ∧ okop dsL_law_1015 8 = true) ∧ (decode dsL_law_1015 10 = .ok (.iconst 2, 1) ∧ okop dsL_law_1015 10 = true) ∧ (decode dsL_law_1015 11 = .ok (.iadd, 1) ∧ okop dsL_law_1015 11 = true) := by decide +kernel
theorem dL_law_1015 : decode cL_law 1015 = .ok (.aload_n 1, 1) := dgq (p := 0) daL_law_1015 dbL_law_1015.1
theorem dL_law_1016 : decode cL_law 1016 = .ok (.aload_n 0, 1) := dgq (p := 1) daL_law_1015 dbL_law_1015.2.1
theorem dL_law_1017 : decode cL_law 1017 = .ok (.iload 5, 2) := dgq (p := 2) daL_law_1015 dbL_law_1015.2.2.1
theorem dL_law_1019 : decode cL_law 1019 = .ok (.iconst 1, 1) := dgq (p := 4) daL_law_1015 dbL_law_1015.2.2.2.1
theorem dL_law_1020 : decode cL_law 1020 = .ok (.iadd, 1) := dgq (p := 5) daL_law_1015 dbL_law_1015.2.2.2.2.1
theorem dL_law_1021 : decode cL_law 1021 = .ok (.iaload, 1) := dgq (p := 6) daL_law_1015 dbL_law_1015.2.2.2.2.2.1
theorem dL_law_1022 : decode cL_law 1022 = .ok (.aload_n 0, 1) := dgq (p := 7) daL_law_1015 dbL_law_1015.2.2.2.2.2.2.1
theorem dL_law_1023 : decode cL_law 1023 = .ok (.iload 5, 2) := dgq (p := 8) daL_law_1015 dbL_law_1015.2.2.2.2.2.2.2.1
theorem dL_law_1025 : decode cL_law 1025 = .ok (.iconst 2, 1) := dgq (p := 10) daL_law_1015 dbL_law_1015.2.2.2.2.2.2.2.2.1
theorem dL_law_1026 : decode cL_law 1026 = .ok (.iadd, 1) := dgq (p := 11) daL_law_1015 dbL_law_1015.2.2.2.2.2.2.2.2.2
def dsL_law_1027 : ByteArray := ⟨#[46, 42, 21, 5, 6, 96, 46, 45, 184, 1, 26, 54, 6, 44]⟩
theorem daL_law_1027 : agB cL_law dsL_law_1027 1027 := agB_of (n := 14) (by decide +kernel)
theorem dbL_law_1027 : (decode dsL_law_1027 0 = .ok (.iaload, 1) ∧ okop dsL_law_1027 0 = true) ∧ (decode dsL_law_1027 1 = .ok (.aload_n 0, 1) ∧ okop dsL_law_1027 1 = true) ∧ (decode dsL_law_1027 2 = .ok (.iload 5, 2) ∧ okop dsL_law_1027 2 = true) ∧ (decode dsL_law_1027 4 = .ok (.iconst 3, 1) ∧ okop dsL_law_1027 4 = true) ∧ (decode dsL_law_1027 5 = .ok (.iadd, 1) ∧ okop dsL_law_1027 5 = true) ∧ (decode dsL_law_1027 6 = .ok (.iaload, 1) ∧ okop dsL_law_1027 6 = true) ∧ (decode dsL_law_1027 7 = .ok (.aload_n 3, 1) ∧ okop dsL_law_1027 7 = true) ∧ (decode dsL_law_1027 8 = .ok (.invokestatic 282, 3) ∧ okop dsL_law_1027 8 = true) ∧ (decode dsL_law_1027 11 = .ok (.istore 6, 2) ∧ okop dsL_law_1027 11 = true) ∧ (decode dsL_law_1027 13 = .ok (.aload_n 2, 1) ∧ okop dsL_law_1027 13 = true) := by decide +kernel
theorem dL_law_1027 : decode cL_law 1027 = .ok (.iaload, 1) := dgq (p := 0) daL_law_1027 dbL_law_1027.1
theorem dL_law_1028 : decode cL_law 1028 = .ok (.aload_n 0, 1) := dgq (p := 1) daL_law_1027 dbL_law_1027.2.1
theorem dL_law_1029 : decode cL_law 1029 = .ok (.iload 5, 2) := dgq (p := 2) daL_law_1027 dbL_law_1027.2.2.1
theorem dL_law_1031 : decode cL_law 1031 = .ok (.iconst 3, 1) := dgq (p := 4) daL_law_1027 dbL_law_1027.2.2.2.1
theorem dL_law_1032 : decode cL_law 1032 = .ok (.iadd, 1) := dgq (p := 5) daL_law_1027 dbL_law_1027.2.2.2.2.1
theorem dL_law_1033 : decode cL_law 1033 = .ok (.iaload, 1) := dgq (p := 6) daL_law_1027 dbL_law_1027.2.2.2.2.2.1
theorem dL_law_1034 : decode cL_law 1034 = .ok (.aload_n 3, 1) := dgq (p := 7) daL_law_1027 dbL_law_1027.2.2.2.2.2.2.1
theorem dL_law_1035 : decode cL_law 1035 = .ok (.invokestatic 282, 3) := dgq (p := 8) daL_law_1027 dbL_law_1027.2.2.2.2.2.2.2.1
theorem dL_law_1038 : decode cL_law 1038 = .ok (.istore 6, 2) := dgq (p := 11) daL_law_1027 dbL_law_1027.2.2.2.2.2.2.2.2.1
theorem dL_law_1040 : decode cL_law 1040 = .ok (.aload_n 2, 1) := dgq (p := 13) daL_law_1027 dbL_law_1027.2.2.2.2.2.2.2.2.2
def dsL_law_1041 : ByteArray := ⟨#[42, 21, 5, 4, 96, 46, 42, 21, 5, 5, 96, 46]⟩
theorem daL_law_1041 : agB cL_law dsL_law_1041 1041 := agB_of (n := 12) (by decide +kernel)
theorem dbL_law_1041 : (decode dsL_law_1041 0 = .ok (.aload_n 0, 1) ∧ okop dsL_law_1041 0 = true) ∧ (decode dsL_law_1041 1 = .ok (.iload 5, 2) ∧ okop dsL_law_1041 1 = true) ∧ (decode dsL_law_1041 3 = .ok (.iconst 1, 1) ∧ okop dsL_law_1041 3 = true) ∧ (decode dsL_law_1041 4 = .ok (.iadd, 1) ∧ okop dsL_law_1041 4 = true) ∧ (decode dsL_law_1041 5 = .ok (.iaload, 1) ∧ okop dsL_law_1041 5 = true) ∧ (decode dsL_law_1041 6 = .ok (.aload_n 0, 1) ∧ okop dsL_law_1041 6 = true) ∧ (decode dsL_law_1041 7 = .ok (.iload 5, 2) ∧ okop dsL_law_1041 7 = true) ∧ (decode dsL_law_1041 9 = .ok (.iconst 2, 1) ∧ okop dsL_law_1041 9 = true) ∧ (decode dsL_law_1041 10 = .ok (.iadd, 1) ∧ okop dsL_law_1041 10 = true) ∧ (decode dsL_law_1041 11 = .ok (.iaload, 1) ∧ okop dsL_law_1041 11 = true) := by decide +kernel
theorem dL_law_1041 : decode cL_law 1041 = .ok (.aload_n 0, 1) := dgq (p := 0) daL_law_1041 dbL_law_1041.1
theorem dL_law_1042 : decode cL_law 1042 = .ok (.iload 5, 2) := dgq (p := 1) daL_law_1041 dbL_law_1041.2.1
theorem dL_law_1044 : decode cL_law 1044 = .ok (.iconst 1, 1) := dgq (p := 3) daL_law_1041 dbL_law_1041.2.2.1
theorem dL_law_1045 : decode cL_law 1045 = .ok (.iadd, 1) := dgq (p := 4) daL_law_1041 dbL_law_1041.2.2.2.1
theorem dL_law_1046 : decode cL_law 1046 = .ok (.iaload, 1) := dgq (p := 5) daL_law_1041 dbL_law_1041.2.2.2.2.1
theorem dL_law_1047 : decode cL_law 1047 = .ok (.aload_n 0, 1) := dgq (p := 6) daL_law_1041 dbL_law_1041.2.2.2.2.2.1
theorem dL_law_1048 : decode cL_law 1048 = .ok (.iload 5, 2) := dgq (p := 7) daL_law_1041 dbL_law_1041.2.2.2.2.2.2.1
theorem dL_law_1050 : decode cL_law 1050 = .ok (.iconst 2, 1) := dgq (p := 9) daL_law_1041 dbL_law_1041.2.2.2.2.2.2.2.1
theorem dL_law_1051 : decode cL_law 1051 = .ok (.iadd, 1) := dgq (p := 10) daL_law_1041 dbL_law_1041.2.2.2.2.2.2.2.2.1
theorem dL_law_1052 : decode cL_law 1052 = .ok (.iaload, 1) := dgq (p := 11) daL_law_1041 dbL_law_1041.2.2.2.2.2.2.2.2.2
def dsL_law_1053 : ByteArray := ⟨#[42, 21, 5, 6, 96, 46, 182, 1, 29, 54, 7, 167, 7, 67, 43, 42]⟩
theorem daL_law_1053 : agB cL_law dsL_law_1053 1053 := agB_of (n := 16) (by decide +kernel)
theorem dbL_law_1053 : (decode dsL_law_1053 0 = .ok (.aload_n 0, 1) ∧ okop dsL_law_1053 0 = true) ∧ (decode dsL_law_1053 1 = .ok (.iload 5, 2) ∧ okop dsL_law_1053 1 = true) ∧ (decode dsL_law_1053 3 = .ok (.iconst 3, 1) ∧ okop dsL_law_1053 3 = true) ∧ (decode dsL_law_1053 4 = .ok (.iadd, 1) ∧ okop dsL_law_1053 4 = true) ∧ (decode dsL_law_1053 5 = .ok (.iaload, 1) ∧ okop dsL_law_1053 5 = true) ∧ (decode dsL_law_1053 6 = .ok (.invokevirtual 285, 3) ∧ okop dsL_law_1053 6 = true) ∧ (decode dsL_law_1053 9 = .ok (.istore 7, 2) ∧ okop dsL_law_1053 9 = true) ∧ (decode dsL_law_1053 11 = .ok (.goto 1859, 3) ∧ okop dsL_law_1053 11 = true) ∧ (decode dsL_law_1053 14 = .ok (.aload_n 1, 1) ∧ okop dsL_law_1053 14 = true) ∧ (decode dsL_law_1053 15 = .ok (.aload_n 0, 1) ∧ okop dsL_law_1053 15 = true) := by decide +kernel
theorem dL_law_1053 : decode cL_law 1053 = .ok (.aload_n 0, 1) := dgq (p := 0) daL_law_1053 dbL_law_1053.1
theorem dL_law_1054 : decode cL_law 1054 = .ok (.iload 5, 2) := dgq (p := 1) daL_law_1053 dbL_law_1053.2.1
theorem dL_law_1056 : decode cL_law 1056 = .ok (.iconst 3, 1) := dgq (p := 3) daL_law_1053 dbL_law_1053.2.2.1
theorem dL_law_1057 : decode cL_law 1057 = .ok (.iadd, 1) := dgq (p := 4) daL_law_1053 dbL_law_1053.2.2.2.1
theorem dL_law_1058 : decode cL_law 1058 = .ok (.iaload, 1) := dgq (p := 5) daL_law_1053 dbL_law_1053.2.2.2.2.1
theorem dL_law_1059 : decode cL_law 1059 = .ok (.invokevirtual 285, 3) := dgq (p := 6) daL_law_1053 dbL_law_1053.2.2.2.2.2.1
theorem dL_law_1062 : decode cL_law 1062 = .ok (.istore 7, 2) := dgq (p := 9) daL_law_1053 dbL_law_1053.2.2.2.2.2.2.1
theorem dL_law_1064 : decode cL_law 1064 = .ok (.goto 1859, 3) := dgq (p := 11) daL_law_1053 dbL_law_1053.2.2.2.2.2.2.2.1
theorem dL_law_1067 : decode cL_law 1067 = .ok (.aload_n 1, 1) := dgq (p := 14) daL_law_1053 dbL_law_1053.2.2.2.2.2.2.2.2.1
theorem dL_law_1068 : decode cL_law 1068 = .ok (.aload_n 0, 1) := dgq (p := 15) daL_law_1053 dbL_law_1053.2.2.2.2.2.2.2.2.2
def dsL_law_1069 : ByteArray := ⟨#[21, 5, 4, 96, 46, 42, 21, 5, 5, 96, 46, 42]⟩
theorem daL_law_1069 : agB cL_law dsL_law_1069 1069 := agB_of (n := 12) (by decide +kernel)
theorem dbL_law_1069 : (decode dsL_law_1069 0 = .ok (.iload 5, 2) ∧ okop dsL_law_1069 0 = true) ∧ (decode dsL_law_1069 2 = .ok (.iconst 1, 1) ∧ okop dsL_law_1069 2 = true) ∧ (decode dsL_law_1069 3 = .ok (.iadd, 1) ∧ okop dsL_law_1069 3 = true) ∧ (decode dsL_law_1069 4 = .ok (.iaload, 1) ∧ okop dsL_law_1069 4 = true) ∧ (decode dsL_law_1069 5 = .ok (.aload_n 0, 1) ∧ okop dsL_law_1069 5 = true) ∧ (decode dsL_law_1069 6 = .ok (.iload 5, 2) ∧ okop dsL_law_1069 6 = true) ∧ (decode dsL_law_1069 8 = .ok (.iconst 2, 1) ∧ okop dsL_law_1069 8 = true) ∧ (decode dsL_law_1069 9 = .ok (.iadd, 1) ∧ okop dsL_law_1069 9 = true) ∧ (decode dsL_law_1069 10 = .ok (.iaload, 1) ∧ okop dsL_law_1069 10 = true) ∧ (decode dsL_law_1069 11 = .ok (.aload_n 0, 1) ∧ okop dsL_law_1069 11 = true) := by decide +kernel
theorem dL_law_1069 : decode cL_law 1069 = .ok (.iload 5, 2) := dgq (p := 0) daL_law_1069 dbL_law_1069.1
theorem dL_law_1071 : decode cL_law 1071 = .ok (.iconst 1, 1) := dgq (p := 2) daL_law_1069 dbL_law_1069.2.1
theorem dL_law_1072 : decode cL_law 1072 = .ok (.iadd, 1) := dgq (p := 3) daL_law_1069 dbL_law_1069.2.2.1
theorem dL_law_1073 : decode cL_law 1073 = .ok (.iaload, 1) := dgq (p := 4) daL_law_1069 dbL_law_1069.2.2.2.1
theorem dL_law_1074 : decode cL_law 1074 = .ok (.aload_n 0, 1) := dgq (p := 5) daL_law_1069 dbL_law_1069.2.2.2.2.1
theorem dL_law_1075 : decode cL_law 1075 = .ok (.iload 5, 2) := dgq (p := 6) daL_law_1069 dbL_law_1069.2.2.2.2.2.1
theorem dL_law_1077 : decode cL_law 1077 = .ok (.iconst 2, 1) := dgq (p := 8) daL_law_1069 dbL_law_1069.2.2.2.2.2.2.1
theorem dL_law_1078 : decode cL_law 1078 = .ok (.iadd, 1) := dgq (p := 9) daL_law_1069 dbL_law_1069.2.2.2.2.2.2.2.1
theorem dL_law_1079 : decode cL_law 1079 = .ok (.iaload, 1) := dgq (p := 10) daL_law_1069 dbL_law_1069.2.2.2.2.2.2.2.2.1
theorem dL_law_1080 : decode cL_law 1080 = .ok (.aload_n 0, 1) := dgq (p := 11) daL_law_1069 dbL_law_1069.2.2.2.2.2.2.2.2.2
def dsL_law_1081 : ByteArray := ⟨#[21, 5, 6, 96, 46, 42, 21, 5, 7, 96, 46, 45]⟩
theorem daL_law_1081 : agB cL_law dsL_law_1081 1081 := agB_of (n := 12) (by decide +kernel)
theorem dbL_law_1081 : (decode dsL_law_1081 0 = .ok (.iload 5, 2) ∧ okop dsL_law_1081 0 = true) ∧ (decode dsL_law_1081 2 = .ok (.iconst 3, 1) ∧ okop dsL_law_1081 2 = true) ∧ (decode dsL_law_1081 3 = .ok (.iadd, 1) ∧ okop dsL_law_1081 3 = true) ∧ (decode dsL_law_1081 4 = .ok (.iaload, 1) ∧ okop dsL_law_1081 4 = true) ∧ (decode dsL_law_1081 5 = .ok (.aload_n 0, 1) ∧ okop dsL_law_1081 5 = true) ∧ (decode dsL_law_1081 6 = .ok (.iload 5, 2) ∧ okop dsL_law_1081 6 = true) ∧ (decode dsL_law_1081 8 = .ok (.iconst 4, 1) ∧ okop dsL_law_1081 8 = true) ∧ (decode dsL_law_1081 9 = .ok (.iadd, 1) ∧ okop dsL_law_1081 9 = true) ∧ (decode dsL_law_1081 10 = .ok (.iaload, 1) ∧ okop dsL_law_1081 10 = true) ∧ (decode dsL_law_1081 11 = .ok (.aload_n 3, 1) ∧ okop dsL_law_1081 11 = true) := by decide +kernel
theorem dL_law_1081 : decode cL_law 1081 = .ok (.iload 5, 2) := dgq (p := 0) daL_law_1081 dbL_law_1081.1
theorem dL_law_1083 : decode cL_law 1083 = .ok (.iconst 3, 1) := dgq (p := 2) daL_law_1081 dbL_law_1081.2.1
theorem dL_law_1084 : decode cL_law 1084 = .ok (.iadd, 1) := dgq (p := 3) daL_law_1081 dbL_law_1081.2.2.1
theorem dL_law_1085 : decode cL_law 1085 = .ok (.iaload, 1) := dgq (p := 4) daL_law_1081 dbL_law_1081.2.2.2.1
theorem dL_law_1086 : decode cL_law 1086 = .ok (.aload_n 0, 1) := dgq (p := 5) daL_law_1081 dbL_law_1081.2.2.2.2.1
theorem dL_law_1087 : decode cL_law 1087 = .ok (.iload 5, 2) := dgq (p := 6) daL_law_1081 dbL_law_1081.2.2.2.2.2.1
theorem dL_law_1089 : decode cL_law 1089 = .ok (.iconst 4, 1) := dgq (p := 8) daL_law_1081 dbL_law_1081.2.2.2.2.2.2.1
theorem dL_law_1090 : decode cL_law 1090 = .ok (.iadd, 1) := dgq (p := 9) daL_law_1081 dbL_law_1081.2.2.2.2.2.2.2.1
theorem dL_law_1091 : decode cL_law 1091 = .ok (.iaload, 1) := dgq (p := 10) daL_law_1081 dbL_law_1081.2.2.2.2.2.2.2.2.1
theorem dL_law_1092 : decode cL_law 1092 = .ok (.aload_n 3, 1) := dgq (p := 11) daL_law_1081 dbL_law_1081.2.2.2.2.2.2.2.2.2
def dsL_law_1093 : ByteArray := ⟨#[184, 1, 30, 54, 6, 44, 42, 21, 5, 4, 96, 46, 42, 21, 5]⟩
theorem daL_law_1093 : agB cL_law dsL_law_1093 1093 := agB_of (n := 15) (by decide +kernel)
theorem dbL_law_1093 : (decode dsL_law_1093 0 = .ok (.invokestatic 286, 3) ∧ okop dsL_law_1093 0 = true) ∧ (decode dsL_law_1093 3 = .ok (.istore 6, 2) ∧ okop dsL_law_1093 3 = true) ∧ (decode dsL_law_1093 5 = .ok (.aload_n 2, 1) ∧ okop dsL_law_1093 5 = true) ∧ (decode dsL_law_1093 6 = .ok (.aload_n 0, 1) ∧ okop dsL_law_1093 6 = true) ∧ (decode dsL_law_1093 7 = .ok (.iload 5, 2) ∧ okop dsL_law_1093 7 = true) ∧ (decode dsL_law_1093 9 = .ok (.iconst 1, 1) ∧ okop dsL_law_1093 9 = true) ∧ (decode dsL_law_1093 10 = .ok (.iadd, 1) ∧ okop dsL_law_1093 10 = true) ∧ (decode dsL_law_1093 11 = .ok (.iaload, 1) ∧ okop dsL_law_1093 11 = true) ∧ (decode dsL_law_1093 12 = .ok (.aload_n 0, 1) ∧ okop dsL_law_1093 12 = true) ∧ (decode dsL_law_1093 13 = .ok (.iload 5, 2) ∧ okop dsL_law_1093 13 = true) := by decide +kernel
theorem dL_law_1093 : decode cL_law 1093 = .ok (.invokestatic 286, 3) := dgq (p := 0) daL_law_1093 dbL_law_1093.1
theorem dL_law_1096 : decode cL_law 1096 = .ok (.istore 6, 2) := dgq (p := 3) daL_law_1093 dbL_law_1093.2.1
theorem dL_law_1098 : decode cL_law 1098 = .ok (.aload_n 2, 1) := dgq (p := 5) daL_law_1093 dbL_law_1093.2.2.1
theorem dL_law_1099 : decode cL_law 1099 = .ok (.aload_n 0, 1) := dgq (p := 6) daL_law_1093 dbL_law_1093.2.2.2.1
theorem dL_law_1100 : decode cL_law 1100 = .ok (.iload 5, 2) := dgq (p := 7) daL_law_1093 dbL_law_1093.2.2.2.2.1
theorem dL_law_1102 : decode cL_law 1102 = .ok (.iconst 1, 1) := dgq (p := 9) daL_law_1093 dbL_law_1093.2.2.2.2.2.1
theorem dL_law_1103 : decode cL_law 1103 = .ok (.iadd, 1) := dgq (p := 10) daL_law_1093 dbL_law_1093.2.2.2.2.2.2.1
theorem dL_law_1104 : decode cL_law 1104 = .ok (.iaload, 1) := dgq (p := 11) daL_law_1093 dbL_law_1093.2.2.2.2.2.2.2.1
theorem dL_law_1105 : decode cL_law 1105 = .ok (.aload_n 0, 1) := dgq (p := 12) daL_law_1093 dbL_law_1093.2.2.2.2.2.2.2.2.1
theorem dL_law_1106 : decode cL_law 1106 = .ok (.iload 5, 2) := dgq (p := 13) daL_law_1093 dbL_law_1093.2.2.2.2.2.2.2.2.2
def dsL_law_1108 : ByteArray := ⟨#[5, 96, 46, 42, 21, 5, 6, 96, 46, 42, 21, 5]⟩
theorem daL_law_1108 : agB cL_law dsL_law_1108 1108 := agB_of (n := 12) (by decide +kernel)
theorem dbL_law_1108 : (decode dsL_law_1108 0 = .ok (.iconst 2, 1) ∧ okop dsL_law_1108 0 = true) ∧ (decode dsL_law_1108 1 = .ok (.iadd, 1) ∧ okop dsL_law_1108 1 = true) ∧ (decode dsL_law_1108 2 = .ok (.iaload, 1) ∧ okop dsL_law_1108 2 = true) ∧ (decode dsL_law_1108 3 = .ok (.aload_n 0, 1) ∧ okop dsL_law_1108 3 = true) ∧ (decode dsL_law_1108 4 = .ok (.iload 5, 2) ∧ okop dsL_law_1108 4 = true) ∧ (decode dsL_law_1108 6 = .ok (.iconst 3, 1) ∧ okop dsL_law_1108 6 = true) ∧ (decode dsL_law_1108 7 = .ok (.iadd, 1) ∧ okop dsL_law_1108 7 = true) ∧ (decode dsL_law_1108 8 = .ok (.iaload, 1) ∧ okop dsL_law_1108 8 = true) ∧ (decode dsL_law_1108 9 = .ok (.aload_n 0, 1) ∧ okop dsL_law_1108 9 = true) ∧ (decode dsL_law_1108 10 = .ok (.iload 5, 2) ∧ okop dsL_law_1108 10 = true) := by decide +kernel
theorem dL_law_1108 : decode cL_law 1108 = .ok (.iconst 2, 1) := dgq (p := 0) daL_law_1108 dbL_law_1108.1
theorem dL_law_1109 : decode cL_law 1109 = .ok (.iadd, 1) := dgq (p := 1) daL_law_1108 dbL_law_1108.2.1
theorem dL_law_1110 : decode cL_law 1110 = .ok (.iaload, 1) := dgq (p := 2) daL_law_1108 dbL_law_1108.2.2.1
theorem dL_law_1111 : decode cL_law 1111 = .ok (.aload_n 0, 1) := dgq (p := 3) daL_law_1108 dbL_law_1108.2.2.2.1
theorem dL_law_1112 : decode cL_law 1112 = .ok (.iload 5, 2) := dgq (p := 4) daL_law_1108 dbL_law_1108.2.2.2.2.1
theorem dL_law_1114 : decode cL_law 1114 = .ok (.iconst 3, 1) := dgq (p := 6) daL_law_1108 dbL_law_1108.2.2.2.2.2.1
theorem dL_law_1115 : decode cL_law 1115 = .ok (.iadd, 1) := dgq (p := 7) daL_law_1108 dbL_law_1108.2.2.2.2.2.2.1
theorem dL_law_1116 : decode cL_law 1116 = .ok (.iaload, 1) := dgq (p := 8) daL_law_1108 dbL_law_1108.2.2.2.2.2.2.2.1
theorem dL_law_1117 : decode cL_law 1117 = .ok (.aload_n 0, 1) := dgq (p := 9) daL_law_1108 dbL_law_1108.2.2.2.2.2.2.2.2.1
theorem dL_law_1118 : decode cL_law 1118 = .ok (.iload 5, 2) := dgq (p := 10) daL_law_1108 dbL_law_1108.2.2.2.2.2.2.2.2.2
def dsL_law_1120 : ByteArray := ⟨#[7, 96, 46, 182, 1, 32, 54, 7, 167, 7, 3, 43, 42, 21, 5, 4]⟩
theorem daL_law_1120 : agB cL_law dsL_law_1120 1120 := agB_of (n := 16) (by decide +kernel)
theorem dbL_law_1120 : (decode dsL_law_1120 0 = .ok (.iconst 4, 1) ∧ okop dsL_law_1120 0 = true) ∧ (decode dsL_law_1120 1 = .ok (.iadd, 1) ∧ okop dsL_law_1120 1 = true) ∧ (decode dsL_law_1120 2 = .ok (.iaload, 1) ∧ okop dsL_law_1120 2 = true) ∧ (decode dsL_law_1120 3 = .ok (.invokevirtual 288, 3) ∧ okop dsL_law_1120 3 = true) ∧ (decode dsL_law_1120 6 = .ok (.istore 7, 2) ∧ okop dsL_law_1120 6 = true) ∧ (decode dsL_law_1120 8 = .ok (.goto 1795, 3) ∧ okop dsL_law_1120 8 = true) ∧ (decode dsL_law_1120 11 = .ok (.aload_n 1, 1) ∧ okop dsL_law_1120 11 = true) ∧ (decode dsL_law_1120 12 = .ok (.aload_n 0, 1) ∧ okop dsL_law_1120 12 = true) ∧ (decode dsL_law_1120 13 = .ok (.iload 5, 2) ∧ okop dsL_law_1120 13 = true) ∧ (decode dsL_law_1120 15 = .ok (.iconst 1, 1) ∧ okop dsL_law_1120 15 = true) := by decide +kernel
theorem dL_law_1120 : decode cL_law 1120 = .ok (.iconst 4, 1) := dgq (p := 0) daL_law_1120 dbL_law_1120.1
theorem dL_law_1121 : decode cL_law 1121 = .ok (.iadd, 1) := dgq (p := 1) daL_law_1120 dbL_law_1120.2.1
theorem dL_law_1122 : decode cL_law 1122 = .ok (.iaload, 1) := dgq (p := 2) daL_law_1120 dbL_law_1120.2.2.1
theorem dL_law_1123 : decode cL_law 1123 = .ok (.invokevirtual 288, 3) := dgq (p := 3) daL_law_1120 dbL_law_1120.2.2.2.1
theorem dL_law_1126 : decode cL_law 1126 = .ok (.istore 7, 2) := dgq (p := 6) daL_law_1120 dbL_law_1120.2.2.2.2.1
theorem dL_law_1128 : decode cL_law 1128 = .ok (.goto 1795, 3) := dgq (p := 8) daL_law_1120 dbL_law_1120.2.2.2.2.2.1
theorem dL_law_1131 : decode cL_law 1131 = .ok (.aload_n 1, 1) := dgq (p := 11) daL_law_1120 dbL_law_1120.2.2.2.2.2.2.1
theorem dL_law_1132 : decode cL_law 1132 = .ok (.aload_n 0, 1) := dgq (p := 12) daL_law_1120 dbL_law_1120.2.2.2.2.2.2.2.1
theorem dL_law_1133 : decode cL_law 1133 = .ok (.iload 5, 2) := dgq (p := 13) daL_law_1120 dbL_law_1120.2.2.2.2.2.2.2.2.1
theorem dL_law_1135 : decode cL_law 1135 = .ok (.iconst 1, 1) := dgq (p := 15) daL_law_1120 dbL_law_1120.2.2.2.2.2.2.2.2.2
def dsL_law_1136 : ByteArray := ⟨#[96, 46, 45, 184, 1, 33, 54, 6, 44, 42, 21, 5, 4, 96]⟩
theorem daL_law_1136 : agB cL_law dsL_law_1136 1136 := agB_of (n := 14) (by decide +kernel)
theorem dbL_law_1136 : (decode dsL_law_1136 0 = .ok (.iadd, 1) ∧ okop dsL_law_1136 0 = true) ∧ (decode dsL_law_1136 1 = .ok (.iaload, 1) ∧ okop dsL_law_1136 1 = true) ∧ (decode dsL_law_1136 2 = .ok (.aload_n 3, 1) ∧ okop dsL_law_1136 2 = true) ∧ (decode dsL_law_1136 3 = .ok (.invokestatic 289, 3) ∧ okop dsL_law_1136 3 = true) ∧ (decode dsL_law_1136 6 = .ok (.istore 6, 2) ∧ okop dsL_law_1136 6 = true) ∧ (decode dsL_law_1136 8 = .ok (.aload_n 2, 1) ∧ okop dsL_law_1136 8 = true) ∧ (decode dsL_law_1136 9 = .ok (.aload_n 0, 1) ∧ okop dsL_law_1136 9 = true) ∧ (decode dsL_law_1136 10 = .ok (.iload 5, 2) ∧ okop dsL_law_1136 10 = true) ∧ (decode dsL_law_1136 12 = .ok (.iconst 1, 1) ∧ okop dsL_law_1136 12 = true) ∧ (decode dsL_law_1136 13 = .ok (.iadd, 1) ∧ okop dsL_law_1136 13 = true) := by decide +kernel
theorem dL_law_1136 : decode cL_law 1136 = .ok (.iadd, 1) := dgq (p := 0) daL_law_1136 dbL_law_1136.1
theorem dL_law_1137 : decode cL_law 1137 = .ok (.iaload, 1) := dgq (p := 1) daL_law_1136 dbL_law_1136.2.1
theorem dL_law_1138 : decode cL_law 1138 = .ok (.aload_n 3, 1) := dgq (p := 2) daL_law_1136 dbL_law_1136.2.2.1
theorem dL_law_1139 : decode cL_law 1139 = .ok (.invokestatic 289, 3) := dgq (p := 3) daL_law_1136 dbL_law_1136.2.2.2.1
theorem dL_law_1142 : decode cL_law 1142 = .ok (.istore 6, 2) := dgq (p := 6) daL_law_1136 dbL_law_1136.2.2.2.2.1
theorem dL_law_1144 : decode cL_law 1144 = .ok (.aload_n 2, 1) := dgq (p := 8) daL_law_1136 dbL_law_1136.2.2.2.2.2.1
theorem dL_law_1145 : decode cL_law 1145 = .ok (.aload_n 0, 1) := dgq (p := 9) daL_law_1136 dbL_law_1136.2.2.2.2.2.2.1
theorem dL_law_1146 : decode cL_law 1146 = .ok (.iload 5, 2) := dgq (p := 10) daL_law_1136 dbL_law_1136.2.2.2.2.2.2.2.1
theorem dL_law_1148 : decode cL_law 1148 = .ok (.iconst 1, 1) := dgq (p := 12) daL_law_1136 dbL_law_1136.2.2.2.2.2.2.2.2.1
theorem dL_law_1149 : decode cL_law 1149 = .ok (.iadd, 1) := dgq (p := 13) daL_law_1136 dbL_law_1136.2.2.2.2.2.2.2.2.2
def dsL_law_1150 : ByteArray := ⟨#[46, 182, 1, 35, 54, 7, 167, 6, 231, 43, 42, 21, 5, 4, 96, 46]⟩
theorem daL_law_1150 : agB cL_law dsL_law_1150 1150 := agB_of (n := 16) (by decide +kernel)
theorem dbL_law_1150 : (decode dsL_law_1150 0 = .ok (.iaload, 1) ∧ okop dsL_law_1150 0 = true) ∧ (decode dsL_law_1150 1 = .ok (.invokevirtual 291, 3) ∧ okop dsL_law_1150 1 = true) ∧ (decode dsL_law_1150 4 = .ok (.istore 7, 2) ∧ okop dsL_law_1150 4 = true) ∧ (decode dsL_law_1150 6 = .ok (.goto 1767, 3) ∧ okop dsL_law_1150 6 = true) ∧ (decode dsL_law_1150 9 = .ok (.aload_n 1, 1) ∧ okop dsL_law_1150 9 = true) ∧ (decode dsL_law_1150 10 = .ok (.aload_n 0, 1) ∧ okop dsL_law_1150 10 = true) ∧ (decode dsL_law_1150 11 = .ok (.iload 5, 2) ∧ okop dsL_law_1150 11 = true) ∧ (decode dsL_law_1150 13 = .ok (.iconst 1, 1) ∧ okop dsL_law_1150 13 = true) ∧ (decode dsL_law_1150 14 = .ok (.iadd, 1) ∧ okop dsL_law_1150 14 = true) ∧ (decode dsL_law_1150 15 = .ok (.iaload, 1) ∧ okop dsL_law_1150 15 = true) := by decide +kernel
theorem dL_law_1150 : decode cL_law 1150 = .ok (.iaload, 1) := dgq (p := 0) daL_law_1150 dbL_law_1150.1
theorem dL_law_1151 : decode cL_law 1151 = .ok (.invokevirtual 291, 3) := dgq (p := 1) daL_law_1150 dbL_law_1150.2.1
theorem dL_law_1154 : decode cL_law 1154 = .ok (.istore 7, 2) := dgq (p := 4) daL_law_1150 dbL_law_1150.2.2.1
theorem dL_law_1156 : decode cL_law 1156 = .ok (.goto 1767, 3) := dgq (p := 6) daL_law_1150 dbL_law_1150.2.2.2.1
theorem dL_law_1159 : decode cL_law 1159 = .ok (.aload_n 1, 1) := dgq (p := 9) daL_law_1150 dbL_law_1150.2.2.2.2.1
theorem dL_law_1160 : decode cL_law 1160 = .ok (.aload_n 0, 1) := dgq (p := 10) daL_law_1150 dbL_law_1150.2.2.2.2.2.1
theorem dL_law_1161 : decode cL_law 1161 = .ok (.iload 5, 2) := dgq (p := 11) daL_law_1150 dbL_law_1150.2.2.2.2.2.2.1
theorem dL_law_1163 : decode cL_law 1163 = .ok (.iconst 1, 1) := dgq (p := 13) daL_law_1150 dbL_law_1150.2.2.2.2.2.2.2.1
theorem dL_law_1164 : decode cL_law 1164 = .ok (.iadd, 1) := dgq (p := 14) daL_law_1150 dbL_law_1150.2.2.2.2.2.2.2.2.1
theorem dL_law_1165 : decode cL_law 1165 = .ok (.iaload, 1) := dgq (p := 15) daL_law_1150 dbL_law_1150.2.2.2.2.2.2.2.2.2
def dsL_law_1166 : ByteArray := ⟨#[42, 21, 5, 5, 96, 46, 42, 21, 5, 6, 96, 46]⟩
theorem daL_law_1166 : agB cL_law dsL_law_1166 1166 := agB_of (n := 12) (by decide +kernel)
theorem dbL_law_1166 : (decode dsL_law_1166 0 = .ok (.aload_n 0, 1) ∧ okop dsL_law_1166 0 = true) ∧ (decode dsL_law_1166 1 = .ok (.iload 5, 2) ∧ okop dsL_law_1166 1 = true) ∧ (decode dsL_law_1166 3 = .ok (.iconst 2, 1) ∧ okop dsL_law_1166 3 = true) ∧ (decode dsL_law_1166 4 = .ok (.iadd, 1) ∧ okop dsL_law_1166 4 = true) ∧ (decode dsL_law_1166 5 = .ok (.iaload, 1) ∧ okop dsL_law_1166 5 = true) ∧ (decode dsL_law_1166 6 = .ok (.aload_n 0, 1) ∧ okop dsL_law_1166 6 = true) ∧ (decode dsL_law_1166 7 = .ok (.iload 5, 2) ∧ okop dsL_law_1166 7 = true) ∧ (decode dsL_law_1166 9 = .ok (.iconst 3, 1) ∧ okop dsL_law_1166 9 = true) ∧ (decode dsL_law_1166 10 = .ok (.iadd, 1) ∧ okop dsL_law_1166 10 = true) ∧ (decode dsL_law_1166 11 = .ok (.iaload, 1) ∧ okop dsL_law_1166 11 = true) := by decide +kernel
theorem dL_law_1166 : decode cL_law 1166 = .ok (.aload_n 0, 1) := dgq (p := 0) daL_law_1166 dbL_law_1166.1
theorem dL_law_1167 : decode cL_law 1167 = .ok (.iload 5, 2) := dgq (p := 1) daL_law_1166 dbL_law_1166.2.1
theorem dL_law_1169 : decode cL_law 1169 = .ok (.iconst 2, 1) := dgq (p := 3) daL_law_1166 dbL_law_1166.2.2.1
theorem dL_law_1170 : decode cL_law 1170 = .ok (.iadd, 1) := dgq (p := 4) daL_law_1166 dbL_law_1166.2.2.2.1
theorem dL_law_1171 : decode cL_law 1171 = .ok (.iaload, 1) := dgq (p := 5) daL_law_1166 dbL_law_1166.2.2.2.2.1
theorem dL_law_1172 : decode cL_law 1172 = .ok (.aload_n 0, 1) := dgq (p := 6) daL_law_1166 dbL_law_1166.2.2.2.2.2.1
theorem dL_law_1173 : decode cL_law 1173 = .ok (.iload 5, 2) := dgq (p := 7) daL_law_1166 dbL_law_1166.2.2.2.2.2.2.1
theorem dL_law_1175 : decode cL_law 1175 = .ok (.iconst 3, 1) := dgq (p := 9) daL_law_1166 dbL_law_1166.2.2.2.2.2.2.2.1
theorem dL_law_1176 : decode cL_law 1176 = .ok (.iadd, 1) := dgq (p := 10) daL_law_1166 dbL_law_1166.2.2.2.2.2.2.2.2.1
theorem dL_law_1177 : decode cL_law 1177 = .ok (.iaload, 1) := dgq (p := 11) daL_law_1166 dbL_law_1166.2.2.2.2.2.2.2.2.2
def dsL_law_1178 : ByteArray := ⟨#[45, 184, 1, 36, 54, 6, 44, 42, 21, 5, 4, 96, 46, 42]⟩
theorem daL_law_1178 : agB cL_law dsL_law_1178 1178 := agB_of (n := 14) (by decide +kernel)
theorem dbL_law_1178 : (decode dsL_law_1178 0 = .ok (.aload_n 3, 1) ∧ okop dsL_law_1178 0 = true) ∧ (decode dsL_law_1178 1 = .ok (.invokestatic 292, 3) ∧ okop dsL_law_1178 1 = true) ∧ (decode dsL_law_1178 4 = .ok (.istore 6, 2) ∧ okop dsL_law_1178 4 = true) ∧ (decode dsL_law_1178 6 = .ok (.aload_n 2, 1) ∧ okop dsL_law_1178 6 = true) ∧ (decode dsL_law_1178 7 = .ok (.aload_n 0, 1) ∧ okop dsL_law_1178 7 = true) ∧ (decode dsL_law_1178 8 = .ok (.iload 5, 2) ∧ okop dsL_law_1178 8 = true) ∧ (decode dsL_law_1178 10 = .ok (.iconst 1, 1) ∧ okop dsL_law_1178 10 = true) ∧ (decode dsL_law_1178 11 = .ok (.iadd, 1) ∧ okop dsL_law_1178 11 = true) ∧ (decode dsL_law_1178 12 = .ok (.iaload, 1) ∧ okop dsL_law_1178 12 = true) ∧ (decode dsL_law_1178 13 = .ok (.aload_n 0, 1) ∧ okop dsL_law_1178 13 = true) := by decide +kernel
theorem dL_law_1178 : decode cL_law 1178 = .ok (.aload_n 3, 1) := dgq (p := 0) daL_law_1178 dbL_law_1178.1
theorem dL_law_1179 : decode cL_law 1179 = .ok (.invokestatic 292, 3) := dgq (p := 1) daL_law_1178 dbL_law_1178.2.1
theorem dL_law_1182 : decode cL_law 1182 = .ok (.istore 6, 2) := dgq (p := 4) daL_law_1178 dbL_law_1178.2.2.1
theorem dL_law_1184 : decode cL_law 1184 = .ok (.aload_n 2, 1) := dgq (p := 6) daL_law_1178 dbL_law_1178.2.2.2.1
theorem dL_law_1185 : decode cL_law 1185 = .ok (.aload_n 0, 1) := dgq (p := 7) daL_law_1178 dbL_law_1178.2.2.2.2.1
theorem dL_law_1186 : decode cL_law 1186 = .ok (.iload 5, 2) := dgq (p := 8) daL_law_1178 dbL_law_1178.2.2.2.2.2.1
theorem dL_law_1188 : decode cL_law 1188 = .ok (.iconst 1, 1) := dgq (p := 10) daL_law_1178 dbL_law_1178.2.2.2.2.2.2.1
theorem dL_law_1189 : decode cL_law 1189 = .ok (.iadd, 1) := dgq (p := 11) daL_law_1178 dbL_law_1178.2.2.2.2.2.2.2.1
theorem dL_law_1190 : decode cL_law 1190 = .ok (.iaload, 1) := dgq (p := 12) daL_law_1178 dbL_law_1178.2.2.2.2.2.2.2.2.1
theorem dL_law_1191 : decode cL_law 1191 = .ok (.aload_n 0, 1) := dgq (p := 13) daL_law_1178 dbL_law_1178.2.2.2.2.2.2.2.2.2
def dsL_law_1192 : ByteArray := ⟨#[21, 5, 5, 96, 46, 42, 21, 5, 6, 96, 46, 182, 1, 38]⟩
theorem daL_law_1192 : agB cL_law dsL_law_1192 1192 := agB_of (n := 14) (by decide +kernel)
theorem dbL_law_1192 : (decode dsL_law_1192 0 = .ok (.iload 5, 2) ∧ okop dsL_law_1192 0 = true) ∧ (decode dsL_law_1192 2 = .ok (.iconst 2, 1) ∧ okop dsL_law_1192 2 = true) ∧ (decode dsL_law_1192 3 = .ok (.iadd, 1) ∧ okop dsL_law_1192 3 = true) ∧ (decode dsL_law_1192 4 = .ok (.iaload, 1) ∧ okop dsL_law_1192 4 = true) ∧ (decode dsL_law_1192 5 = .ok (.aload_n 0, 1) ∧ okop dsL_law_1192 5 = true) ∧ (decode dsL_law_1192 6 = .ok (.iload 5, 2) ∧ okop dsL_law_1192 6 = true) ∧ (decode dsL_law_1192 8 = .ok (.iconst 3, 1) ∧ okop dsL_law_1192 8 = true) ∧ (decode dsL_law_1192 9 = .ok (.iadd, 1) ∧ okop dsL_law_1192 9 = true) ∧ (decode dsL_law_1192 10 = .ok (.iaload, 1) ∧ okop dsL_law_1192 10 = true) ∧ (decode dsL_law_1192 11 = .ok (.invokevirtual 294, 3) ∧ okop dsL_law_1192 11 = true) := by decide +kernel
theorem dL_law_1192 : decode cL_law 1192 = .ok (.iload 5, 2) := dgq (p := 0) daL_law_1192 dbL_law_1192.1
theorem dL_law_1194 : decode cL_law 1194 = .ok (.iconst 2, 1) := dgq (p := 2) daL_law_1192 dbL_law_1192.2.1
theorem dL_law_1195 : decode cL_law 1195 = .ok (.iadd, 1) := dgq (p := 3) daL_law_1192 dbL_law_1192.2.2.1
theorem dL_law_1196 : decode cL_law 1196 = .ok (.iaload, 1) := dgq (p := 4) daL_law_1192 dbL_law_1192.2.2.2.1
theorem dL_law_1197 : decode cL_law 1197 = .ok (.aload_n 0, 1) := dgq (p := 5) daL_law_1192 dbL_law_1192.2.2.2.2.1
theorem dL_law_1198 : decode cL_law 1198 = .ok (.iload 5, 2) := dgq (p := 6) daL_law_1192 dbL_law_1192.2.2.2.2.2.1
theorem dL_law_1200 : decode cL_law 1200 = .ok (.iconst 3, 1) := dgq (p := 8) daL_law_1192 dbL_law_1192.2.2.2.2.2.2.1
theorem dL_law_1201 : decode cL_law 1201 = .ok (.iadd, 1) := dgq (p := 9) daL_law_1192 dbL_law_1192.2.2.2.2.2.2.2.1
theorem dL_law_1202 : decode cL_law 1202 = .ok (.iaload, 1) := dgq (p := 10) daL_law_1192 dbL_law_1192.2.2.2.2.2.2.2.2.1
theorem dL_law_1203 : decode cL_law 1203 = .ok (.invokevirtual 294, 3) := dgq (p := 11) daL_law_1192 dbL_law_1192.2.2.2.2.2.2.2.2.2
def dsL_law_1206 : ByteArray := ⟨#[54, 7, 167, 6, 179, 43, 42, 21, 5, 4, 96, 46, 42, 21, 5]⟩
theorem daL_law_1206 : agB cL_law dsL_law_1206 1206 := agB_of (n := 15) (by decide +kernel)
theorem dbL_law_1206 : (decode dsL_law_1206 0 = .ok (.istore 7, 2) ∧ okop dsL_law_1206 0 = true) ∧ (decode dsL_law_1206 2 = .ok (.goto 1715, 3) ∧ okop dsL_law_1206 2 = true) ∧ (decode dsL_law_1206 5 = .ok (.aload_n 1, 1) ∧ okop dsL_law_1206 5 = true) ∧ (decode dsL_law_1206 6 = .ok (.aload_n 0, 1) ∧ okop dsL_law_1206 6 = true) ∧ (decode dsL_law_1206 7 = .ok (.iload 5, 2) ∧ okop dsL_law_1206 7 = true) ∧ (decode dsL_law_1206 9 = .ok (.iconst 1, 1) ∧ okop dsL_law_1206 9 = true) ∧ (decode dsL_law_1206 10 = .ok (.iadd, 1) ∧ okop dsL_law_1206 10 = true) ∧ (decode dsL_law_1206 11 = .ok (.iaload, 1) ∧ okop dsL_law_1206 11 = true) ∧ (decode dsL_law_1206 12 = .ok (.aload_n 0, 1) ∧ okop dsL_law_1206 12 = true) ∧ (decode dsL_law_1206 13 = .ok (.iload 5, 2) ∧ okop dsL_law_1206 13 = true) := by decide +kernel
theorem dL_law_1206 : decode cL_law 1206 = .ok (.istore 7, 2) := dgq (p := 0) daL_law_1206 dbL_law_1206.1
theorem dL_law_1208 : decode cL_law 1208 = .ok (.goto 1715, 3) := dgq (p := 2) daL_law_1206 dbL_law_1206.2.1
theorem dL_law_1211 : decode cL_law 1211 = .ok (.aload_n 1, 1) := dgq (p := 5) daL_law_1206 dbL_law_1206.2.2.1
theorem dL_law_1212 : decode cL_law 1212 = .ok (.aload_n 0, 1) := dgq (p := 6) daL_law_1206 dbL_law_1206.2.2.2.1
theorem dL_law_1213 : decode cL_law 1213 = .ok (.iload 5, 2) := dgq (p := 7) daL_law_1206 dbL_law_1206.2.2.2.2.1
theorem dL_law_1215 : decode cL_law 1215 = .ok (.iconst 1, 1) := dgq (p := 9) daL_law_1206 dbL_law_1206.2.2.2.2.2.1
theorem dL_law_1216 : decode cL_law 1216 = .ok (.iadd, 1) := dgq (p := 10) daL_law_1206 dbL_law_1206.2.2.2.2.2.2.1
theorem dL_law_1217 : decode cL_law 1217 = .ok (.iaload, 1) := dgq (p := 11) daL_law_1206 dbL_law_1206.2.2.2.2.2.2.2.1
theorem dL_law_1218 : decode cL_law 1218 = .ok (.aload_n 0, 1) := dgq (p := 12) daL_law_1206 dbL_law_1206.2.2.2.2.2.2.2.2.1
theorem dL_law_1219 : decode cL_law 1219 = .ok (.iload 5, 2) := dgq (p := 13) daL_law_1206 dbL_law_1206.2.2.2.2.2.2.2.2.2
def dsL_law_1221 : ByteArray := ⟨#[5, 96, 46, 42, 21, 5, 6, 96, 46, 45, 184, 1, 39]⟩
theorem daL_law_1221 : agB cL_law dsL_law_1221 1221 := agB_of (n := 13) (by decide +kernel)
theorem dbL_law_1221 : (decode dsL_law_1221 0 = .ok (.iconst 2, 1) ∧ okop dsL_law_1221 0 = true) ∧ (decode dsL_law_1221 1 = .ok (.iadd, 1) ∧ okop dsL_law_1221 1 = true) ∧ (decode dsL_law_1221 2 = .ok (.iaload, 1) ∧ okop dsL_law_1221 2 = true) ∧ (decode dsL_law_1221 3 = .ok (.aload_n 0, 1) ∧ okop dsL_law_1221 3 = true) ∧ (decode dsL_law_1221 4 = .ok (.iload 5, 2) ∧ okop dsL_law_1221 4 = true) ∧ (decode dsL_law_1221 6 = .ok (.iconst 3, 1) ∧ okop dsL_law_1221 6 = true) ∧ (decode dsL_law_1221 7 = .ok (.iadd, 1) ∧ okop dsL_law_1221 7 = true) ∧ (decode dsL_law_1221 8 = .ok (.iaload, 1) ∧ okop dsL_law_1221 8 = true) ∧ (decode dsL_law_1221 9 = .ok (.aload_n 3, 1) ∧ okop dsL_law_1221 9 = true) ∧ (decode dsL_law_1221 10 = .ok (.invokestatic 295, 3) ∧ okop dsL_law_1221 10 = true) := by decide +kernel
theorem dL_law_1221 : decode cL_law 1221 = .ok (.iconst 2, 1) := dgq (p := 0) daL_law_1221 dbL_law_1221.1
theorem dL_law_1222 : decode cL_law 1222 = .ok (.iadd, 1) := dgq (p := 1) daL_law_1221 dbL_law_1221.2.1
theorem dL_law_1223 : decode cL_law 1223 = .ok (.iaload, 1) := dgq (p := 2) daL_law_1221 dbL_law_1221.2.2.1
theorem dL_law_1224 : decode cL_law 1224 = .ok (.aload_n 0, 1) := dgq (p := 3) daL_law_1221 dbL_law_1221.2.2.2.1
theorem dL_law_1225 : decode cL_law 1225 = .ok (.iload 5, 2) := dgq (p := 4) daL_law_1221 dbL_law_1221.2.2.2.2.1
theorem dL_law_1227 : decode cL_law 1227 = .ok (.iconst 3, 1) := dgq (p := 6) daL_law_1221 dbL_law_1221.2.2.2.2.2.1
theorem dL_law_1228 : decode cL_law 1228 = .ok (.iadd, 1) := dgq (p := 7) daL_law_1221 dbL_law_1221.2.2.2.2.2.2.1
theorem dL_law_1229 : decode cL_law 1229 = .ok (.iaload, 1) := dgq (p := 8) daL_law_1221 dbL_law_1221.2.2.2.2.2.2.2.1
theorem dL_law_1230 : decode cL_law 1230 = .ok (.aload_n 3, 1) := dgq (p := 9) daL_law_1221 dbL_law_1221.2.2.2.2.2.2.2.2.1
theorem dL_law_1231 : decode cL_law 1231 = .ok (.invokestatic 295, 3) := dgq (p := 10) daL_law_1221 dbL_law_1221.2.2.2.2.2.2.2.2.2
def dsL_law_1234 : ByteArray := ⟨#[54, 6, 44, 42, 21, 5, 4, 96, 46, 42, 21, 5, 5]⟩
theorem daL_law_1234 : agB cL_law dsL_law_1234 1234 := agB_of (n := 13) (by decide +kernel)
theorem dbL_law_1234 : (decode dsL_law_1234 0 = .ok (.istore 6, 2) ∧ okop dsL_law_1234 0 = true) ∧ (decode dsL_law_1234 2 = .ok (.aload_n 2, 1) ∧ okop dsL_law_1234 2 = true) ∧ (decode dsL_law_1234 3 = .ok (.aload_n 0, 1) ∧ okop dsL_law_1234 3 = true) ∧ (decode dsL_law_1234 4 = .ok (.iload 5, 2) ∧ okop dsL_law_1234 4 = true) ∧ (decode dsL_law_1234 6 = .ok (.iconst 1, 1) ∧ okop dsL_law_1234 6 = true) ∧ (decode dsL_law_1234 7 = .ok (.iadd, 1) ∧ okop dsL_law_1234 7 = true) ∧ (decode dsL_law_1234 8 = .ok (.iaload, 1) ∧ okop dsL_law_1234 8 = true) ∧ (decode dsL_law_1234 9 = .ok (.aload_n 0, 1) ∧ okop dsL_law_1234 9 = true) ∧ (decode dsL_law_1234 10 = .ok (.iload 5, 2) ∧ okop dsL_law_1234 10 = true) ∧ (decode dsL_law_1234 12 = .ok (.iconst 2, 1) ∧ okop dsL_law_1234 12 = true) := by decide +kernel
theorem dL_law_1234 : decode cL_law 1234 = .ok (.istore 6, 2) := dgq (p := 0) daL_law_1234 dbL_law_1234.1
theorem dL_law_1236 : decode cL_law 1236 = .ok (.aload_n 2, 1) := dgq (p := 2) daL_law_1234 dbL_law_1234.2.1
theorem dL_law_1237 : decode cL_law 1237 = .ok (.aload_n 0, 1) := dgq (p := 3) daL_law_1234 dbL_law_1234.2.2.1
theorem dL_law_1238 : decode cL_law 1238 = .ok (.iload 5, 2) := dgq (p := 4) daL_law_1234 dbL_law_1234.2.2.2.1
theorem dL_law_1240 : decode cL_law 1240 = .ok (.iconst 1, 1) := dgq (p := 6) daL_law_1234 dbL_law_1234.2.2.2.2.1
theorem dL_law_1241 : decode cL_law 1241 = .ok (.iadd, 1) := dgq (p := 7) daL_law_1234 dbL_law_1234.2.2.2.2.2.1
theorem dL_law_1242 : decode cL_law 1242 = .ok (.iaload, 1) := dgq (p := 8) daL_law_1234 dbL_law_1234.2.2.2.2.2.2.1
theorem dL_law_1243 : decode cL_law 1243 = .ok (.aload_n 0, 1) := dgq (p := 9) daL_law_1234 dbL_law_1234.2.2.2.2.2.2.2.1
theorem dL_law_1244 : decode cL_law 1244 = .ok (.iload 5, 2) := dgq (p := 10) daL_law_1234 dbL_law_1234.2.2.2.2.2.2.2.2.1
theorem dL_law_1246 : decode cL_law 1246 = .ok (.iconst 2, 1) := dgq (p := 12) daL_law_1234 dbL_law_1234.2.2.2.2.2.2.2.2.2
def dsL_law_1247 : ByteArray := ⟨#[96, 46, 42, 21, 5, 6, 96, 46, 182, 1, 41, 54, 7, 167, 6, 127]⟩
theorem daL_law_1247 : agB cL_law dsL_law_1247 1247 := agB_of (n := 16) (by decide +kernel)
theorem dbL_law_1247 : (decode dsL_law_1247 0 = .ok (.iadd, 1) ∧ okop dsL_law_1247 0 = true) ∧ (decode dsL_law_1247 1 = .ok (.iaload, 1) ∧ okop dsL_law_1247 1 = true) ∧ (decode dsL_law_1247 2 = .ok (.aload_n 0, 1) ∧ okop dsL_law_1247 2 = true) ∧ (decode dsL_law_1247 3 = .ok (.iload 5, 2) ∧ okop dsL_law_1247 3 = true) ∧ (decode dsL_law_1247 5 = .ok (.iconst 3, 1) ∧ okop dsL_law_1247 5 = true) ∧ (decode dsL_law_1247 6 = .ok (.iadd, 1) ∧ okop dsL_law_1247 6 = true) ∧ (decode dsL_law_1247 7 = .ok (.iaload, 1) ∧ okop dsL_law_1247 7 = true) ∧ (decode dsL_law_1247 8 = .ok (.invokevirtual 297, 3) ∧ okop dsL_law_1247 8 = true) ∧ (decode dsL_law_1247 11 = .ok (.istore 7, 2) ∧ okop dsL_law_1247 11 = true) ∧ (decode dsL_law_1247 13 = .ok (.goto 1663, 3) ∧ okop dsL_law_1247 13 = true) := by decide +kernel
theorem dL_law_1247 : decode cL_law 1247 = .ok (.iadd, 1) := dgq (p := 0) daL_law_1247 dbL_law_1247.1
theorem dL_law_1248 : decode cL_law 1248 = .ok (.iaload, 1) := dgq (p := 1) daL_law_1247 dbL_law_1247.2.1
theorem dL_law_1249 : decode cL_law 1249 = .ok (.aload_n 0, 1) := dgq (p := 2) daL_law_1247 dbL_law_1247.2.2.1
theorem dL_law_1250 : decode cL_law 1250 = .ok (.iload 5, 2) := dgq (p := 3) daL_law_1247 dbL_law_1247.2.2.2.1
theorem dL_law_1252 : decode cL_law 1252 = .ok (.iconst 3, 1) := dgq (p := 5) daL_law_1247 dbL_law_1247.2.2.2.2.1
theorem dL_law_1253 : decode cL_law 1253 = .ok (.iadd, 1) := dgq (p := 6) daL_law_1247 dbL_law_1247.2.2.2.2.2.1
theorem dL_law_1254 : decode cL_law 1254 = .ok (.iaload, 1) := dgq (p := 7) daL_law_1247 dbL_law_1247.2.2.2.2.2.2.1
theorem dL_law_1255 : decode cL_law 1255 = .ok (.invokevirtual 297, 3) := dgq (p := 8) daL_law_1247 dbL_law_1247.2.2.2.2.2.2.2.1
theorem dL_law_1258 : decode cL_law 1258 = .ok (.istore 7, 2) := dgq (p := 11) daL_law_1247 dbL_law_1247.2.2.2.2.2.2.2.2.1
theorem dL_law_1260 : decode cL_law 1260 = .ok (.goto 1663, 3) := dgq (p := 13) daL_law_1247 dbL_law_1247.2.2.2.2.2.2.2.2.2
def dsL_law_1263 : ByteArray := ⟨#[43, 42, 21, 5, 4, 96, 46, 42, 21, 5, 5, 96]⟩
theorem daL_law_1263 : agB cL_law dsL_law_1263 1263 := agB_of (n := 12) (by decide +kernel)
theorem dbL_law_1263 : (decode dsL_law_1263 0 = .ok (.aload_n 1, 1) ∧ okop dsL_law_1263 0 = true) ∧ (decode dsL_law_1263 1 = .ok (.aload_n 0, 1) ∧ okop dsL_law_1263 1 = true) ∧ (decode dsL_law_1263 2 = .ok (.iload 5, 2) ∧ okop dsL_law_1263 2 = true) ∧ (decode dsL_law_1263 4 = .ok (.iconst 1, 1) ∧ okop dsL_law_1263 4 = true) ∧ (decode dsL_law_1263 5 = .ok (.iadd, 1) ∧ okop dsL_law_1263 5 = true) ∧ (decode dsL_law_1263 6 = .ok (.iaload, 1) ∧ okop dsL_law_1263 6 = true) ∧ (decode dsL_law_1263 7 = .ok (.aload_n 0, 1) ∧ okop dsL_law_1263 7 = true) ∧ (decode dsL_law_1263 8 = .ok (.iload 5, 2) ∧ okop dsL_law_1263 8 = true) ∧ (decode dsL_law_1263 10 = .ok (.iconst 2, 1) ∧ okop dsL_law_1263 10 = true) ∧ (decode dsL_law_1263 11 = .ok (.iadd, 1) ∧ okop dsL_law_1263 11 = true) := by decide +kernel
theorem dL_law_1263 : decode cL_law 1263 = .ok (.aload_n 1, 1) := dgq (p := 0) daL_law_1263 dbL_law_1263.1
theorem dL_law_1264 : decode cL_law 1264 = .ok (.aload_n 0, 1) := dgq (p := 1) daL_law_1263 dbL_law_1263.2.1
theorem dL_law_1265 : decode cL_law 1265 = .ok (.iload 5, 2) := dgq (p := 2) daL_law_1263 dbL_law_1263.2.2.1
theorem dL_law_1267 : decode cL_law 1267 = .ok (.iconst 1, 1) := dgq (p := 4) daL_law_1263 dbL_law_1263.2.2.2.1
theorem dL_law_1268 : decode cL_law 1268 = .ok (.iadd, 1) := dgq (p := 5) daL_law_1263 dbL_law_1263.2.2.2.2.1
theorem dL_law_1269 : decode cL_law 1269 = .ok (.iaload, 1) := dgq (p := 6) daL_law_1263 dbL_law_1263.2.2.2.2.2.1
theorem dL_law_1270 : decode cL_law 1270 = .ok (.aload_n 0, 1) := dgq (p := 7) daL_law_1263 dbL_law_1263.2.2.2.2.2.2.1
theorem dL_law_1271 : decode cL_law 1271 = .ok (.iload 5, 2) := dgq (p := 8) daL_law_1263 dbL_law_1263.2.2.2.2.2.2.2.1
theorem dL_law_1273 : decode cL_law 1273 = .ok (.iconst 2, 1) := dgq (p := 10) daL_law_1263 dbL_law_1263.2.2.2.2.2.2.2.2.1
theorem dL_law_1274 : decode cL_law 1274 = .ok (.iadd, 1) := dgq (p := 11) daL_law_1263 dbL_law_1263.2.2.2.2.2.2.2.2.2
def dsL_law_1275 : ByteArray := ⟨#[46, 45, 184, 1, 42, 54, 6, 44, 42, 21, 5, 4, 96, 46]⟩
theorem daL_law_1275 : agB cL_law dsL_law_1275 1275 := agB_of (n := 14) (by decide +kernel)
theorem dbL_law_1275 : (decode dsL_law_1275 0 = .ok (.iaload, 1) ∧ okop dsL_law_1275 0 = true) ∧ (decode dsL_law_1275 1 = .ok (.aload_n 3, 1) ∧ okop dsL_law_1275 1 = true) ∧ (decode dsL_law_1275 2 = .ok (.invokestatic 298, 3) ∧ okop dsL_law_1275 2 = true) ∧ (decode dsL_law_1275 5 = .ok (.istore 6, 2) ∧ okop dsL_law_1275 5 = true) ∧ (decode dsL_law_1275 7 = .ok (.aload_n 2, 1) ∧ okop dsL_law_1275 7 = true) ∧ (decode dsL_law_1275 8 = .ok (.aload_n 0, 1) ∧ okop dsL_law_1275 8 = true) ∧ (decode dsL_law_1275 9 = .ok (.iload 5, 2) ∧ okop dsL_law_1275 9 = true) ∧ (decode dsL_law_1275 11 = .ok (.iconst 1, 1) ∧ okop dsL_law_1275 11 = true) ∧ (decode dsL_law_1275 12 = .ok (.iadd, 1) ∧ okop dsL_law_1275 12 = true) ∧ (decode dsL_law_1275 13 = .ok (.iaload, 1) ∧ okop dsL_law_1275 13 = true) := by decide +kernel
theorem dL_law_1275 : decode cL_law 1275 = .ok (.iaload, 1) := dgq (p := 0) daL_law_1275 dbL_law_1275.1
theorem dL_law_1276 : decode cL_law 1276 = .ok (.aload_n 3, 1) := dgq (p := 1) daL_law_1275 dbL_law_1275.2.1
theorem dL_law_1277 : decode cL_law 1277 = .ok (.invokestatic 298, 3) := dgq (p := 2) daL_law_1275 dbL_law_1275.2.2.1
theorem dL_law_1280 : decode cL_law 1280 = .ok (.istore 6, 2) := dgq (p := 5) daL_law_1275 dbL_law_1275.2.2.2.1
theorem dL_law_1282 : decode cL_law 1282 = .ok (.aload_n 2, 1) := dgq (p := 7) daL_law_1275 dbL_law_1275.2.2.2.2.1
theorem dL_law_1283 : decode cL_law 1283 = .ok (.aload_n 0, 1) := dgq (p := 8) daL_law_1275 dbL_law_1275.2.2.2.2.2.1
theorem dL_law_1284 : decode cL_law 1284 = .ok (.iload 5, 2) := dgq (p := 9) daL_law_1275 dbL_law_1275.2.2.2.2.2.2.1
theorem dL_law_1286 : decode cL_law 1286 = .ok (.iconst 1, 1) := dgq (p := 11) daL_law_1275 dbL_law_1275.2.2.2.2.2.2.2.1
theorem dL_law_1287 : decode cL_law 1287 = .ok (.iadd, 1) := dgq (p := 12) daL_law_1275 dbL_law_1275.2.2.2.2.2.2.2.2.1
theorem dL_law_1288 : decode cL_law 1288 = .ok (.iaload, 1) := dgq (p := 13) daL_law_1275 dbL_law_1275.2.2.2.2.2.2.2.2.2
def dsL_law_1289 : ByteArray := ⟨#[42, 21, 5, 5, 96, 46, 182, 1, 44, 54, 7, 167, 6, 87, 43, 42]⟩
theorem daL_law_1289 : agB cL_law dsL_law_1289 1289 := agB_of (n := 16) (by decide +kernel)
theorem dbL_law_1289 : (decode dsL_law_1289 0 = .ok (.aload_n 0, 1) ∧ okop dsL_law_1289 0 = true) ∧ (decode dsL_law_1289 1 = .ok (.iload 5, 2) ∧ okop dsL_law_1289 1 = true) ∧ (decode dsL_law_1289 3 = .ok (.iconst 2, 1) ∧ okop dsL_law_1289 3 = true) ∧ (decode dsL_law_1289 4 = .ok (.iadd, 1) ∧ okop dsL_law_1289 4 = true) ∧ (decode dsL_law_1289 5 = .ok (.iaload, 1) ∧ okop dsL_law_1289 5 = true) ∧ (decode dsL_law_1289 6 = .ok (.invokevirtual 300, 3) ∧ okop dsL_law_1289 6 = true) ∧ (decode dsL_law_1289 9 = .ok (.istore 7, 2) ∧ okop dsL_law_1289 9 = true) ∧ (decode dsL_law_1289 11 = .ok (.goto 1623, 3) ∧ okop dsL_law_1289 11 = true) ∧ (decode dsL_law_1289 14 = .ok (.aload_n 1, 1) ∧ okop dsL_law_1289 14 = true) ∧ (decode dsL_law_1289 15 = .ok (.aload_n 0, 1) ∧ okop dsL_law_1289 15 = true) := by decide +kernel
theorem dL_law_1289 : decode cL_law 1289 = .ok (.aload_n 0, 1) := dgq (p := 0) daL_law_1289 dbL_law_1289.1
theorem dL_law_1290 : decode cL_law 1290 = .ok (.iload 5, 2) := dgq (p := 1) daL_law_1289 dbL_law_1289.2.1
theorem dL_law_1292 : decode cL_law 1292 = .ok (.iconst 2, 1) := dgq (p := 3) daL_law_1289 dbL_law_1289.2.2.1
theorem dL_law_1293 : decode cL_law 1293 = .ok (.iadd, 1) := dgq (p := 4) daL_law_1289 dbL_law_1289.2.2.2.1
theorem dL_law_1294 : decode cL_law 1294 = .ok (.iaload, 1) := dgq (p := 5) daL_law_1289 dbL_law_1289.2.2.2.2.1
theorem dL_law_1295 : decode cL_law 1295 = .ok (.invokevirtual 300, 3) := dgq (p := 6) daL_law_1289 dbL_law_1289.2.2.2.2.2.1
theorem dL_law_1298 : decode cL_law 1298 = .ok (.istore 7, 2) := dgq (p := 9) daL_law_1289 dbL_law_1289.2.2.2.2.2.2.1
theorem dL_law_1300 : decode cL_law 1300 = .ok (.goto 1623, 3) := dgq (p := 11) daL_law_1289 dbL_law_1289.2.2.2.2.2.2.2.1
theorem dL_law_1303 : decode cL_law 1303 = .ok (.aload_n 1, 1) := dgq (p := 14) daL_law_1289 dbL_law_1289.2.2.2.2.2.2.2.2.1
theorem dL_law_1304 : decode cL_law 1304 = .ok (.aload_n 0, 1) := dgq (p := 15) daL_law_1289 dbL_law_1289.2.2.2.2.2.2.2.2.2
def dsL_law_1305 : ByteArray := ⟨#[21, 5, 4, 96, 46, 42, 21, 5, 5, 96, 46, 42]⟩
theorem daL_law_1305 : agB cL_law dsL_law_1305 1305 := agB_of (n := 12) (by decide +kernel)
theorem dbL_law_1305 : (decode dsL_law_1305 0 = .ok (.iload 5, 2) ∧ okop dsL_law_1305 0 = true) ∧ (decode dsL_law_1305 2 = .ok (.iconst 1, 1) ∧ okop dsL_law_1305 2 = true) ∧ (decode dsL_law_1305 3 = .ok (.iadd, 1) ∧ okop dsL_law_1305 3 = true) ∧ (decode dsL_law_1305 4 = .ok (.iaload, 1) ∧ okop dsL_law_1305 4 = true) ∧ (decode dsL_law_1305 5 = .ok (.aload_n 0, 1) ∧ okop dsL_law_1305 5 = true) ∧ (decode dsL_law_1305 6 = .ok (.iload 5, 2) ∧ okop dsL_law_1305 6 = true) ∧ (decode dsL_law_1305 8 = .ok (.iconst 2, 1) ∧ okop dsL_law_1305 8 = true) ∧ (decode dsL_law_1305 9 = .ok (.iadd, 1) ∧ okop dsL_law_1305 9 = true) ∧ (decode dsL_law_1305 10 = .ok (.iaload, 1) ∧ okop dsL_law_1305 10 = true) ∧ (decode dsL_law_1305 11 = .ok (.aload_n 0, 1) ∧ okop dsL_law_1305 11 = true) := by decide +kernel
theorem dL_law_1305 : decode cL_law 1305 = .ok (.iload 5, 2) := dgq (p := 0) daL_law_1305 dbL_law_1305.1
theorem dL_law_1307 : decode cL_law 1307 = .ok (.iconst 1, 1) := dgq (p := 2) daL_law_1305 dbL_law_1305.2.1
theorem dL_law_1308 : decode cL_law 1308 = .ok (.iadd, 1) := dgq (p := 3) daL_law_1305 dbL_law_1305.2.2.1
theorem dL_law_1309 : decode cL_law 1309 = .ok (.iaload, 1) := dgq (p := 4) daL_law_1305 dbL_law_1305.2.2.2.1
theorem dL_law_1310 : decode cL_law 1310 = .ok (.aload_n 0, 1) := dgq (p := 5) daL_law_1305 dbL_law_1305.2.2.2.2.1
theorem dL_law_1311 : decode cL_law 1311 = .ok (.iload 5, 2) := dgq (p := 6) daL_law_1305 dbL_law_1305.2.2.2.2.2.1
theorem dL_law_1313 : decode cL_law 1313 = .ok (.iconst 2, 1) := dgq (p := 8) daL_law_1305 dbL_law_1305.2.2.2.2.2.2.1
theorem dL_law_1314 : decode cL_law 1314 = .ok (.iadd, 1) := dgq (p := 9) daL_law_1305 dbL_law_1305.2.2.2.2.2.2.2.1
theorem dL_law_1315 : decode cL_law 1315 = .ok (.iaload, 1) := dgq (p := 10) daL_law_1305 dbL_law_1305.2.2.2.2.2.2.2.2.1
theorem dL_law_1316 : decode cL_law 1316 = .ok (.aload_n 0, 1) := dgq (p := 11) daL_law_1305 dbL_law_1305.2.2.2.2.2.2.2.2.2
def dsL_law_1317 : ByteArray := ⟨#[21, 5, 6, 96, 46, 42, 21, 5, 7, 96, 46, 45]⟩
theorem daL_law_1317 : agB cL_law dsL_law_1317 1317 := agB_of (n := 12) (by decide +kernel)
theorem dbL_law_1317 : (decode dsL_law_1317 0 = .ok (.iload 5, 2) ∧ okop dsL_law_1317 0 = true) ∧ (decode dsL_law_1317 2 = .ok (.iconst 3, 1) ∧ okop dsL_law_1317 2 = true) ∧ (decode dsL_law_1317 3 = .ok (.iadd, 1) ∧ okop dsL_law_1317 3 = true) ∧ (decode dsL_law_1317 4 = .ok (.iaload, 1) ∧ okop dsL_law_1317 4 = true) ∧ (decode dsL_law_1317 5 = .ok (.aload_n 0, 1) ∧ okop dsL_law_1317 5 = true) ∧ (decode dsL_law_1317 6 = .ok (.iload 5, 2) ∧ okop dsL_law_1317 6 = true) ∧ (decode dsL_law_1317 8 = .ok (.iconst 4, 1) ∧ okop dsL_law_1317 8 = true) ∧ (decode dsL_law_1317 9 = .ok (.iadd, 1) ∧ okop dsL_law_1317 9 = true) ∧ (decode dsL_law_1317 10 = .ok (.iaload, 1) ∧ okop dsL_law_1317 10 = true) ∧ (decode dsL_law_1317 11 = .ok (.aload_n 3, 1) ∧ okop dsL_law_1317 11 = true) := by decide +kernel
theorem dL_law_1317 : decode cL_law 1317 = .ok (.iload 5, 2) := dgq (p := 0) daL_law_1317 dbL_law_1317.1
theorem dL_law_1319 : decode cL_law 1319 = .ok (.iconst 3, 1) := dgq (p := 2) daL_law_1317 dbL_law_1317.2.1
theorem dL_law_1320 : decode cL_law 1320 = .ok (.iadd, 1) := dgq (p := 3) daL_law_1317 dbL_law_1317.2.2.1
theorem dL_law_1321 : decode cL_law 1321 = .ok (.iaload, 1) := dgq (p := 4) daL_law_1317 dbL_law_1317.2.2.2.1
theorem dL_law_1322 : decode cL_law 1322 = .ok (.aload_n 0, 1) := dgq (p := 5) daL_law_1317 dbL_law_1317.2.2.2.2.1
theorem dL_law_1323 : decode cL_law 1323 = .ok (.iload 5, 2) := dgq (p := 6) daL_law_1317 dbL_law_1317.2.2.2.2.2.1
theorem dL_law_1325 : decode cL_law 1325 = .ok (.iconst 4, 1) := dgq (p := 8) daL_law_1317 dbL_law_1317.2.2.2.2.2.2.1
theorem dL_law_1326 : decode cL_law 1326 = .ok (.iadd, 1) := dgq (p := 9) daL_law_1317 dbL_law_1317.2.2.2.2.2.2.2.1
theorem dL_law_1327 : decode cL_law 1327 = .ok (.iaload, 1) := dgq (p := 10) daL_law_1317 dbL_law_1317.2.2.2.2.2.2.2.2.1
theorem dL_law_1328 : decode cL_law 1328 = .ok (.aload_n 3, 1) := dgq (p := 11) daL_law_1317 dbL_law_1317.2.2.2.2.2.2.2.2.2
def dsL_law_1329 : ByteArray := ⟨#[184, 1, 45, 54, 6, 44, 42, 21, 5, 4, 96, 46, 42, 21, 5]⟩
theorem daL_law_1329 : agB cL_law dsL_law_1329 1329 := agB_of (n := 15) (by decide +kernel)
theorem dbL_law_1329 : (decode dsL_law_1329 0 = .ok (.invokestatic 301, 3) ∧ okop dsL_law_1329 0 = true) ∧ (decode dsL_law_1329 3 = .ok (.istore 6, 2) ∧ okop dsL_law_1329 3 = true) ∧ (decode dsL_law_1329 5 = .ok (.aload_n 2, 1) ∧ okop dsL_law_1329 5 = true) ∧ (decode dsL_law_1329 6 = .ok (.aload_n 0, 1) ∧ okop dsL_law_1329 6 = true) ∧ (decode dsL_law_1329 7 = .ok (.iload 5, 2) ∧ okop dsL_law_1329 7 = true) ∧ (decode dsL_law_1329 9 = .ok (.iconst 1, 1) ∧ okop dsL_law_1329 9 = true) ∧ (decode dsL_law_1329 10 = .ok (.iadd, 1) ∧ okop dsL_law_1329 10 = true) ∧ (decode dsL_law_1329 11 = .ok (.iaload, 1) ∧ okop dsL_law_1329 11 = true) ∧ (decode dsL_law_1329 12 = .ok (.aload_n 0, 1) ∧ okop dsL_law_1329 12 = true) ∧ (decode dsL_law_1329 13 = .ok (.iload 5, 2) ∧ okop dsL_law_1329 13 = true) := by decide +kernel
theorem dL_law_1329 : decode cL_law 1329 = .ok (.invokestatic 301, 3) := dgq (p := 0) daL_law_1329 dbL_law_1329.1
theorem dL_law_1332 : decode cL_law 1332 = .ok (.istore 6, 2) := dgq (p := 3) daL_law_1329 dbL_law_1329.2.1
theorem dL_law_1334 : decode cL_law 1334 = .ok (.aload_n 2, 1) := dgq (p := 5) daL_law_1329 dbL_law_1329.2.2.1
theorem dL_law_1335 : decode cL_law 1335 = .ok (.aload_n 0, 1) := dgq (p := 6) daL_law_1329 dbL_law_1329.2.2.2.1
theorem dL_law_1336 : decode cL_law 1336 = .ok (.iload 5, 2) := dgq (p := 7) daL_law_1329 dbL_law_1329.2.2.2.2.1
theorem dL_law_1338 : decode cL_law 1338 = .ok (.iconst 1, 1) := dgq (p := 9) daL_law_1329 dbL_law_1329.2.2.2.2.2.1
theorem dL_law_1339 : decode cL_law 1339 = .ok (.iadd, 1) := dgq (p := 10) daL_law_1329 dbL_law_1329.2.2.2.2.2.2.1
theorem dL_law_1340 : decode cL_law 1340 = .ok (.iaload, 1) := dgq (p := 11) daL_law_1329 dbL_law_1329.2.2.2.2.2.2.2.1
theorem dL_law_1341 : decode cL_law 1341 = .ok (.aload_n 0, 1) := dgq (p := 12) daL_law_1329 dbL_law_1329.2.2.2.2.2.2.2.2.1
theorem dL_law_1342 : decode cL_law 1342 = .ok (.iload 5, 2) := dgq (p := 13) daL_law_1329 dbL_law_1329.2.2.2.2.2.2.2.2.2
def dsL_law_1344 : ByteArray := ⟨#[5, 96, 46, 42, 21, 5, 6, 96, 46, 42, 21, 5]⟩
theorem daL_law_1344 : agB cL_law dsL_law_1344 1344 := agB_of (n := 12) (by decide +kernel)
theorem dbL_law_1344 : (decode dsL_law_1344 0 = .ok (.iconst 2, 1) ∧ okop dsL_law_1344 0 = true) ∧ (decode dsL_law_1344 1 = .ok (.iadd, 1) ∧ okop dsL_law_1344 1 = true) ∧ (decode dsL_law_1344 2 = .ok (.iaload, 1) ∧ okop dsL_law_1344 2 = true) ∧ (decode dsL_law_1344 3 = .ok (.aload_n 0, 1) ∧ okop dsL_law_1344 3 = true) ∧ (decode dsL_law_1344 4 = .ok (.iload 5, 2) ∧ okop dsL_law_1344 4 = true) ∧ (decode dsL_law_1344 6 = .ok (.iconst 3, 1) ∧ okop dsL_law_1344 6 = true) ∧ (decode dsL_law_1344 7 = .ok (.iadd, 1) ∧ okop dsL_law_1344 7 = true) ∧ (decode dsL_law_1344 8 = .ok (.iaload, 1) ∧ okop dsL_law_1344 8 = true) ∧ (decode dsL_law_1344 9 = .ok (.aload_n 0, 1) ∧ okop dsL_law_1344 9 = true) ∧ (decode dsL_law_1344 10 = .ok (.iload 5, 2) ∧ okop dsL_law_1344 10 = true) := by decide +kernel
theorem dL_law_1344 : decode cL_law 1344 = .ok (.iconst 2, 1) := dgq (p := 0) daL_law_1344 dbL_law_1344.1
theorem dL_law_1345 : decode cL_law 1345 = .ok (.iadd, 1) := dgq (p := 1) daL_law_1344 dbL_law_1344.2.1
theorem dL_law_1346 : decode cL_law 1346 = .ok (.iaload, 1) := dgq (p := 2) daL_law_1344 dbL_law_1344.2.2.1
theorem dL_law_1347 : decode cL_law 1347 = .ok (.aload_n 0, 1) := dgq (p := 3) daL_law_1344 dbL_law_1344.2.2.2.1
theorem dL_law_1348 : decode cL_law 1348 = .ok (.iload 5, 2) := dgq (p := 4) daL_law_1344 dbL_law_1344.2.2.2.2.1
theorem dL_law_1350 : decode cL_law 1350 = .ok (.iconst 3, 1) := dgq (p := 6) daL_law_1344 dbL_law_1344.2.2.2.2.2.1
theorem dL_law_1351 : decode cL_law 1351 = .ok (.iadd, 1) := dgq (p := 7) daL_law_1344 dbL_law_1344.2.2.2.2.2.2.1
theorem dL_law_1352 : decode cL_law 1352 = .ok (.iaload, 1) := dgq (p := 8) daL_law_1344 dbL_law_1344.2.2.2.2.2.2.2.1
theorem dL_law_1353 : decode cL_law 1353 = .ok (.aload_n 0, 1) := dgq (p := 9) daL_law_1344 dbL_law_1344.2.2.2.2.2.2.2.2.1
theorem dL_law_1354 : decode cL_law 1354 = .ok (.iload 5, 2) := dgq (p := 10) daL_law_1344 dbL_law_1344.2.2.2.2.2.2.2.2.2
def dsL_law_1356 : ByteArray := ⟨#[7, 96, 46, 182, 1, 47, 54, 7, 167, 6, 23, 43, 42, 21, 5, 4]⟩
theorem daL_law_1356 : agB cL_law dsL_law_1356 1356 := agB_of (n := 16) (by decide +kernel)
theorem dbL_law_1356 : (decode dsL_law_1356 0 = .ok (.iconst 4, 1) ∧ okop dsL_law_1356 0 = true) ∧ (decode dsL_law_1356 1 = .ok (.iadd, 1) ∧ okop dsL_law_1356 1 = true) ∧ (decode dsL_law_1356 2 = .ok (.iaload, 1) ∧ okop dsL_law_1356 2 = true) ∧ (decode dsL_law_1356 3 = .ok (.invokevirtual 303, 3) ∧ okop dsL_law_1356 3 = true) ∧ (decode dsL_law_1356 6 = .ok (.istore 7, 2) ∧ okop dsL_law_1356 6 = true) ∧ (decode dsL_law_1356 8 = .ok (.goto 1559, 3) ∧ okop dsL_law_1356 8 = true) ∧ (decode dsL_law_1356 11 = .ok (.aload_n 1, 1) ∧ okop dsL_law_1356 11 = true) ∧ (decode dsL_law_1356 12 = .ok (.aload_n 0, 1) ∧ okop dsL_law_1356 12 = true) ∧ (decode dsL_law_1356 13 = .ok (.iload 5, 2) ∧ okop dsL_law_1356 13 = true) ∧ (decode dsL_law_1356 15 = .ok (.iconst 1, 1) ∧ okop dsL_law_1356 15 = true) := by decide +kernel
theorem dL_law_1356 : decode cL_law 1356 = .ok (.iconst 4, 1) := dgq (p := 0) daL_law_1356 dbL_law_1356.1
theorem dL_law_1357 : decode cL_law 1357 = .ok (.iadd, 1) := dgq (p := 1) daL_law_1356 dbL_law_1356.2.1
theorem dL_law_1358 : decode cL_law 1358 = .ok (.iaload, 1) := dgq (p := 2) daL_law_1356 dbL_law_1356.2.2.1
theorem dL_law_1359 : decode cL_law 1359 = .ok (.invokevirtual 303, 3) := dgq (p := 3) daL_law_1356 dbL_law_1356.2.2.2.1
theorem dL_law_1362 : decode cL_law 1362 = .ok (.istore 7, 2) := dgq (p := 6) daL_law_1356 dbL_law_1356.2.2.2.2.1
theorem dL_law_1364 : decode cL_law 1364 = .ok (.goto 1559, 3) := dgq (p := 8) daL_law_1356 dbL_law_1356.2.2.2.2.2.1
theorem dL_law_1367 : decode cL_law 1367 = .ok (.aload_n 1, 1) := dgq (p := 11) daL_law_1356 dbL_law_1356.2.2.2.2.2.2.1
theorem dL_law_1368 : decode cL_law 1368 = .ok (.aload_n 0, 1) := dgq (p := 12) daL_law_1356 dbL_law_1356.2.2.2.2.2.2.2.1
theorem dL_law_1369 : decode cL_law 1369 = .ok (.iload 5, 2) := dgq (p := 13) daL_law_1356 dbL_law_1356.2.2.2.2.2.2.2.2.1
theorem dL_law_1371 : decode cL_law 1371 = .ok (.iconst 1, 1) := dgq (p := 15) daL_law_1356 dbL_law_1356.2.2.2.2.2.2.2.2.2
def dsL_law_1372 : ByteArray := ⟨#[96, 46, 42, 21, 5, 5, 96, 46, 42, 21, 5, 6]⟩
theorem daL_law_1372 : agB cL_law dsL_law_1372 1372 := agB_of (n := 12) (by decide +kernel)
theorem dbL_law_1372 : (decode dsL_law_1372 0 = .ok (.iadd, 1) ∧ okop dsL_law_1372 0 = true) ∧ (decode dsL_law_1372 1 = .ok (.iaload, 1) ∧ okop dsL_law_1372 1 = true) ∧ (decode dsL_law_1372 2 = .ok (.aload_n 0, 1) ∧ okop dsL_law_1372 2 = true) ∧ (decode dsL_law_1372 3 = .ok (.iload 5, 2) ∧ okop dsL_law_1372 3 = true) ∧ (decode dsL_law_1372 5 = .ok (.iconst 2, 1) ∧ okop dsL_law_1372 5 = true) ∧ (decode dsL_law_1372 6 = .ok (.iadd, 1) ∧ okop dsL_law_1372 6 = true) ∧ (decode dsL_law_1372 7 = .ok (.iaload, 1) ∧ okop dsL_law_1372 7 = true) ∧ (decode dsL_law_1372 8 = .ok (.aload_n 0, 1) ∧ okop dsL_law_1372 8 = true) ∧ (decode dsL_law_1372 9 = .ok (.iload 5, 2) ∧ okop dsL_law_1372 9 = true) ∧ (decode dsL_law_1372 11 = .ok (.iconst 3, 1) ∧ okop dsL_law_1372 11 = true) := by decide +kernel
theorem dL_law_1372 : decode cL_law 1372 = .ok (.iadd, 1) := dgq (p := 0) daL_law_1372 dbL_law_1372.1
theorem dL_law_1373 : decode cL_law 1373 = .ok (.iaload, 1) := dgq (p := 1) daL_law_1372 dbL_law_1372.2.1
theorem dL_law_1374 : decode cL_law 1374 = .ok (.aload_n 0, 1) := dgq (p := 2) daL_law_1372 dbL_law_1372.2.2.1
theorem dL_law_1375 : decode cL_law 1375 = .ok (.iload 5, 2) := dgq (p := 3) daL_law_1372 dbL_law_1372.2.2.2.1
theorem dL_law_1377 : decode cL_law 1377 = .ok (.iconst 2, 1) := dgq (p := 5) daL_law_1372 dbL_law_1372.2.2.2.2.1
theorem dL_law_1378 : decode cL_law 1378 = .ok (.iadd, 1) := dgq (p := 6) daL_law_1372 dbL_law_1372.2.2.2.2.2.1
theorem dL_law_1379 : decode cL_law 1379 = .ok (.iaload, 1) := dgq (p := 7) daL_law_1372 dbL_law_1372.2.2.2.2.2.2.1
theorem dL_law_1380 : decode cL_law 1380 = .ok (.aload_n 0, 1) := dgq (p := 8) daL_law_1372 dbL_law_1372.2.2.2.2.2.2.2.1
theorem dL_law_1381 : decode cL_law 1381 = .ok (.iload 5, 2) := dgq (p := 9) daL_law_1372 dbL_law_1372.2.2.2.2.2.2.2.2.1
theorem dL_law_1383 : decode cL_law 1383 = .ok (.iconst 3, 1) := dgq (p := 11) daL_law_1372 dbL_law_1372.2.2.2.2.2.2.2.2.2
def dsL_law_1384 : ByteArray := ⟨#[96, 46, 45, 184, 1, 48, 54, 6, 44, 42, 21, 5, 4, 96]⟩
theorem daL_law_1384 : agB cL_law dsL_law_1384 1384 := agB_of (n := 14) (by decide +kernel)
theorem dbL_law_1384 : (decode dsL_law_1384 0 = .ok (.iadd, 1) ∧ okop dsL_law_1384 0 = true) ∧ (decode dsL_law_1384 1 = .ok (.iaload, 1) ∧ okop dsL_law_1384 1 = true) ∧ (decode dsL_law_1384 2 = .ok (.aload_n 3, 1) ∧ okop dsL_law_1384 2 = true) ∧ (decode dsL_law_1384 3 = .ok (.invokestatic 304, 3) ∧ okop dsL_law_1384 3 = true) ∧ (decode dsL_law_1384 6 = .ok (.istore 6, 2) ∧ okop dsL_law_1384 6 = true) ∧ (decode dsL_law_1384 8 = .ok (.aload_n 2, 1) ∧ okop dsL_law_1384 8 = true) ∧ (decode dsL_law_1384 9 = .ok (.aload_n 0, 1) ∧ okop dsL_law_1384 9 = true) ∧ (decode dsL_law_1384 10 = .ok (.iload 5, 2) ∧ okop dsL_law_1384 10 = true) ∧ (decode dsL_law_1384 12 = .ok (.iconst 1, 1) ∧ okop dsL_law_1384 12 = true) ∧ (decode dsL_law_1384 13 = .ok (.iadd, 1) ∧ okop dsL_law_1384 13 = true) := by decide +kernel
theorem dL_law_1384 : decode cL_law 1384 = .ok (.iadd, 1) := dgq (p := 0) daL_law_1384 dbL_law_1384.1
theorem dL_law_1385 : decode cL_law 1385 = .ok (.iaload, 1) := dgq (p := 1) daL_law_1384 dbL_law_1384.2.1
theorem dL_law_1386 : decode cL_law 1386 = .ok (.aload_n 3, 1) := dgq (p := 2) daL_law_1384 dbL_law_1384.2.2.1
theorem dL_law_1387 : decode cL_law 1387 = .ok (.invokestatic 304, 3) := dgq (p := 3) daL_law_1384 dbL_law_1384.2.2.2.1
theorem dL_law_1390 : decode cL_law 1390 = .ok (.istore 6, 2) := dgq (p := 6) daL_law_1384 dbL_law_1384.2.2.2.2.1
theorem dL_law_1392 : decode cL_law 1392 = .ok (.aload_n 2, 1) := dgq (p := 8) daL_law_1384 dbL_law_1384.2.2.2.2.2.1
theorem dL_law_1393 : decode cL_law 1393 = .ok (.aload_n 0, 1) := dgq (p := 9) daL_law_1384 dbL_law_1384.2.2.2.2.2.2.1
theorem dL_law_1394 : decode cL_law 1394 = .ok (.iload 5, 2) := dgq (p := 10) daL_law_1384 dbL_law_1384.2.2.2.2.2.2.2.1
theorem dL_law_1396 : decode cL_law 1396 = .ok (.iconst 1, 1) := dgq (p := 12) daL_law_1384 dbL_law_1384.2.2.2.2.2.2.2.2.1
theorem dL_law_1397 : decode cL_law 1397 = .ok (.iadd, 1) := dgq (p := 13) daL_law_1384 dbL_law_1384.2.2.2.2.2.2.2.2.2
def dsL_law_1398 : ByteArray := ⟨#[46, 42, 21, 5, 5, 96, 46, 42, 21, 5, 6, 96]⟩
theorem daL_law_1398 : agB cL_law dsL_law_1398 1398 := agB_of (n := 12) (by decide +kernel)
theorem dbL_law_1398 : (decode dsL_law_1398 0 = .ok (.iaload, 1) ∧ okop dsL_law_1398 0 = true) ∧ (decode dsL_law_1398 1 = .ok (.aload_n 0, 1) ∧ okop dsL_law_1398 1 = true) ∧ (decode dsL_law_1398 2 = .ok (.iload 5, 2) ∧ okop dsL_law_1398 2 = true) ∧ (decode dsL_law_1398 4 = .ok (.iconst 2, 1) ∧ okop dsL_law_1398 4 = true) ∧ (decode dsL_law_1398 5 = .ok (.iadd, 1) ∧ okop dsL_law_1398 5 = true) ∧ (decode dsL_law_1398 6 = .ok (.iaload, 1) ∧ okop dsL_law_1398 6 = true) ∧ (decode dsL_law_1398 7 = .ok (.aload_n 0, 1) ∧ okop dsL_law_1398 7 = true) ∧ (decode dsL_law_1398 8 = .ok (.iload 5, 2) ∧ okop dsL_law_1398 8 = true) ∧ (decode dsL_law_1398 10 = .ok (.iconst 3, 1) ∧ okop dsL_law_1398 10 = true) ∧ (decode dsL_law_1398 11 = .ok (.iadd, 1) ∧ okop dsL_law_1398 11 = true) := by decide +kernel
theorem dL_law_1398 : decode cL_law 1398 = .ok (.iaload, 1) := dgq (p := 0) daL_law_1398 dbL_law_1398.1
theorem dL_law_1399 : decode cL_law 1399 = .ok (.aload_n 0, 1) := dgq (p := 1) daL_law_1398 dbL_law_1398.2.1
theorem dL_law_1400 : decode cL_law 1400 = .ok (.iload 5, 2) := dgq (p := 2) daL_law_1398 dbL_law_1398.2.2.1
theorem dL_law_1402 : decode cL_law 1402 = .ok (.iconst 2, 1) := dgq (p := 4) daL_law_1398 dbL_law_1398.2.2.2.1
theorem dL_law_1403 : decode cL_law 1403 = .ok (.iadd, 1) := dgq (p := 5) daL_law_1398 dbL_law_1398.2.2.2.2.1
theorem dL_law_1404 : decode cL_law 1404 = .ok (.iaload, 1) := dgq (p := 6) daL_law_1398 dbL_law_1398.2.2.2.2.2.1
theorem dL_law_1405 : decode cL_law 1405 = .ok (.aload_n 0, 1) := dgq (p := 7) daL_law_1398 dbL_law_1398.2.2.2.2.2.2.1
theorem dL_law_1406 : decode cL_law 1406 = .ok (.iload 5, 2) := dgq (p := 8) daL_law_1398 dbL_law_1398.2.2.2.2.2.2.2.1
theorem dL_law_1408 : decode cL_law 1408 = .ok (.iconst 3, 1) := dgq (p := 10) daL_law_1398 dbL_law_1398.2.2.2.2.2.2.2.2.1
theorem dL_law_1409 : decode cL_law 1409 = .ok (.iadd, 1) := dgq (p := 11) daL_law_1398 dbL_law_1398.2.2.2.2.2.2.2.2.2
def dsL_law_1410 : ByteArray := ⟨#[46, 182, 1, 50, 54, 7, 167, 5, 227, 43, 42, 21, 5, 4, 96, 46]⟩
theorem daL_law_1410 : agB cL_law dsL_law_1410 1410 := agB_of (n := 16) (by decide +kernel)
theorem dbL_law_1410 : (decode dsL_law_1410 0 = .ok (.iaload, 1) ∧ okop dsL_law_1410 0 = true) ∧ (decode dsL_law_1410 1 = .ok (.invokevirtual 306, 3) ∧ okop dsL_law_1410 1 = true) ∧ (decode dsL_law_1410 4 = .ok (.istore 7, 2) ∧ okop dsL_law_1410 4 = true) ∧ (decode dsL_law_1410 6 = .ok (.goto 1507, 3) ∧ okop dsL_law_1410 6 = true) ∧ (decode dsL_law_1410 9 = .ok (.aload_n 1, 1) ∧ okop dsL_law_1410 9 = true) ∧ (decode dsL_law_1410 10 = .ok (.aload_n 0, 1) ∧ okop dsL_law_1410 10 = true) ∧ (decode dsL_law_1410 11 = .ok (.iload 5, 2) ∧ okop dsL_law_1410 11 = true) ∧ (decode dsL_law_1410 13 = .ok (.iconst 1, 1) ∧ okop dsL_law_1410 13 = true) ∧ (decode dsL_law_1410 14 = .ok (.iadd, 1) ∧ okop dsL_law_1410 14 = true) ∧ (decode dsL_law_1410 15 = .ok (.iaload, 1) ∧ okop dsL_law_1410 15 = true) := by decide +kernel
theorem dL_law_1410 : decode cL_law 1410 = .ok (.iaload, 1) := dgq (p := 0) daL_law_1410 dbL_law_1410.1
theorem dL_law_1411 : decode cL_law 1411 = .ok (.invokevirtual 306, 3) := dgq (p := 1) daL_law_1410 dbL_law_1410.2.1
theorem dL_law_1414 : decode cL_law 1414 = .ok (.istore 7, 2) := dgq (p := 4) daL_law_1410 dbL_law_1410.2.2.1
theorem dL_law_1416 : decode cL_law 1416 = .ok (.goto 1507, 3) := dgq (p := 6) daL_law_1410 dbL_law_1410.2.2.2.1
theorem dL_law_1419 : decode cL_law 1419 = .ok (.aload_n 1, 1) := dgq (p := 9) daL_law_1410 dbL_law_1410.2.2.2.2.1
theorem dL_law_1420 : decode cL_law 1420 = .ok (.aload_n 0, 1) := dgq (p := 10) daL_law_1410 dbL_law_1410.2.2.2.2.2.1
theorem dL_law_1421 : decode cL_law 1421 = .ok (.iload 5, 2) := dgq (p := 11) daL_law_1410 dbL_law_1410.2.2.2.2.2.2.1
theorem dL_law_1423 : decode cL_law 1423 = .ok (.iconst 1, 1) := dgq (p := 13) daL_law_1410 dbL_law_1410.2.2.2.2.2.2.2.1
theorem dL_law_1424 : decode cL_law 1424 = .ok (.iadd, 1) := dgq (p := 14) daL_law_1410 dbL_law_1410.2.2.2.2.2.2.2.2.1
theorem dL_law_1425 : decode cL_law 1425 = .ok (.iaload, 1) := dgq (p := 15) daL_law_1410 dbL_law_1410.2.2.2.2.2.2.2.2.2
def dsL_law_1426 : ByteArray := ⟨#[42, 21, 5, 5, 96, 46, 42, 21, 5, 6, 96, 46]⟩
theorem daL_law_1426 : agB cL_law dsL_law_1426 1426 := agB_of (n := 12) (by decide +kernel)
theorem dbL_law_1426 : (decode dsL_law_1426 0 = .ok (.aload_n 0, 1) ∧ okop dsL_law_1426 0 = true) ∧ (decode dsL_law_1426 1 = .ok (.iload 5, 2) ∧ okop dsL_law_1426 1 = true) ∧ (decode dsL_law_1426 3 = .ok (.iconst 2, 1) ∧ okop dsL_law_1426 3 = true) ∧ (decode dsL_law_1426 4 = .ok (.iadd, 1) ∧ okop dsL_law_1426 4 = true) ∧ (decode dsL_law_1426 5 = .ok (.iaload, 1) ∧ okop dsL_law_1426 5 = true) ∧ (decode dsL_law_1426 6 = .ok (.aload_n 0, 1) ∧ okop dsL_law_1426 6 = true) ∧ (decode dsL_law_1426 7 = .ok (.iload 5, 2) ∧ okop dsL_law_1426 7 = true) ∧ (decode dsL_law_1426 9 = .ok (.iconst 3, 1) ∧ okop dsL_law_1426 9 = true) ∧ (decode dsL_law_1426 10 = .ok (.iadd, 1) ∧ okop dsL_law_1426 10 = true) ∧ (decode dsL_law_1426 11 = .ok (.iaload, 1) ∧ okop dsL_law_1426 11 = true) := by decide +kernel
theorem dL_law_1426 : decode cL_law 1426 = .ok (.aload_n 0, 1) := dgq (p := 0) daL_law_1426 dbL_law_1426.1
theorem dL_law_1427 : decode cL_law 1427 = .ok (.iload 5, 2) := dgq (p := 1) daL_law_1426 dbL_law_1426.2.1
theorem dL_law_1429 : decode cL_law 1429 = .ok (.iconst 2, 1) := dgq (p := 3) daL_law_1426 dbL_law_1426.2.2.1
theorem dL_law_1430 : decode cL_law 1430 = .ok (.iadd, 1) := dgq (p := 4) daL_law_1426 dbL_law_1426.2.2.2.1
theorem dL_law_1431 : decode cL_law 1431 = .ok (.iaload, 1) := dgq (p := 5) daL_law_1426 dbL_law_1426.2.2.2.2.1
theorem dL_law_1432 : decode cL_law 1432 = .ok (.aload_n 0, 1) := dgq (p := 6) daL_law_1426 dbL_law_1426.2.2.2.2.2.1
theorem dL_law_1433 : decode cL_law 1433 = .ok (.iload 5, 2) := dgq (p := 7) daL_law_1426 dbL_law_1426.2.2.2.2.2.2.1
theorem dL_law_1435 : decode cL_law 1435 = .ok (.iconst 3, 1) := dgq (p := 9) daL_law_1426 dbL_law_1426.2.2.2.2.2.2.2.1
theorem dL_law_1436 : decode cL_law 1436 = .ok (.iadd, 1) := dgq (p := 10) daL_law_1426 dbL_law_1426.2.2.2.2.2.2.2.2.1
theorem dL_law_1437 : decode cL_law 1437 = .ok (.iaload, 1) := dgq (p := 11) daL_law_1426 dbL_law_1426.2.2.2.2.2.2.2.2.2
def dsL_law_1438 : ByteArray := ⟨#[45, 184, 1, 51, 54, 6, 44, 42, 21, 5, 4, 96, 46, 42]⟩
theorem daL_law_1438 : agB cL_law dsL_law_1438 1438 := agB_of (n := 14) (by decide +kernel)
theorem dbL_law_1438 : (decode dsL_law_1438 0 = .ok (.aload_n 3, 1) ∧ okop dsL_law_1438 0 = true) ∧ (decode dsL_law_1438 1 = .ok (.invokestatic 307, 3) ∧ okop dsL_law_1438 1 = true) ∧ (decode dsL_law_1438 4 = .ok (.istore 6, 2) ∧ okop dsL_law_1438 4 = true) ∧ (decode dsL_law_1438 6 = .ok (.aload_n 2, 1) ∧ okop dsL_law_1438 6 = true) ∧ (decode dsL_law_1438 7 = .ok (.aload_n 0, 1) ∧ okop dsL_law_1438 7 = true) ∧ (decode dsL_law_1438 8 = .ok (.iload 5, 2) ∧ okop dsL_law_1438 8 = true) ∧ (decode dsL_law_1438 10 = .ok (.iconst 1, 1) ∧ okop dsL_law_1438 10 = true) ∧ (decode dsL_law_1438 11 = .ok (.iadd, 1) ∧ okop dsL_law_1438 11 = true) ∧ (decode dsL_law_1438 12 = .ok (.iaload, 1) ∧ okop dsL_law_1438 12 = true) ∧ (decode dsL_law_1438 13 = .ok (.aload_n 0, 1) ∧ okop dsL_law_1438 13 = true) := by decide +kernel
theorem dL_law_1438 : decode cL_law 1438 = .ok (.aload_n 3, 1) := dgq (p := 0) daL_law_1438 dbL_law_1438.1
theorem dL_law_1439 : decode cL_law 1439 = .ok (.invokestatic 307, 3) := dgq (p := 1) daL_law_1438 dbL_law_1438.2.1
theorem dL_law_1442 : decode cL_law 1442 = .ok (.istore 6, 2) := dgq (p := 4) daL_law_1438 dbL_law_1438.2.2.1
theorem dL_law_1444 : decode cL_law 1444 = .ok (.aload_n 2, 1) := dgq (p := 6) daL_law_1438 dbL_law_1438.2.2.2.1
theorem dL_law_1445 : decode cL_law 1445 = .ok (.aload_n 0, 1) := dgq (p := 7) daL_law_1438 dbL_law_1438.2.2.2.2.1
theorem dL_law_1446 : decode cL_law 1446 = .ok (.iload 5, 2) := dgq (p := 8) daL_law_1438 dbL_law_1438.2.2.2.2.2.1
theorem dL_law_1448 : decode cL_law 1448 = .ok (.iconst 1, 1) := dgq (p := 10) daL_law_1438 dbL_law_1438.2.2.2.2.2.2.1
theorem dL_law_1449 : decode cL_law 1449 = .ok (.iadd, 1) := dgq (p := 11) daL_law_1438 dbL_law_1438.2.2.2.2.2.2.2.1
theorem dL_law_1450 : decode cL_law 1450 = .ok (.iaload, 1) := dgq (p := 12) daL_law_1438 dbL_law_1438.2.2.2.2.2.2.2.2.1
theorem dL_law_1451 : decode cL_law 1451 = .ok (.aload_n 0, 1) := dgq (p := 13) daL_law_1438 dbL_law_1438.2.2.2.2.2.2.2.2.2
def dsL_law_1452 : ByteArray := ⟨#[21, 5, 5, 96, 46, 42, 21, 5, 6, 96, 46, 182, 1, 53]⟩
theorem daL_law_1452 : agB cL_law dsL_law_1452 1452 := agB_of (n := 14) (by decide +kernel)
theorem dbL_law_1452 : (decode dsL_law_1452 0 = .ok (.iload 5, 2) ∧ okop dsL_law_1452 0 = true) ∧ (decode dsL_law_1452 2 = .ok (.iconst 2, 1) ∧ okop dsL_law_1452 2 = true) ∧ (decode dsL_law_1452 3 = .ok (.iadd, 1) ∧ okop dsL_law_1452 3 = true) ∧ (decode dsL_law_1452 4 = .ok (.iaload, 1) ∧ okop dsL_law_1452 4 = true) ∧ (decode dsL_law_1452 5 = .ok (.aload_n 0, 1) ∧ okop dsL_law_1452 5 = true) ∧ (decode dsL_law_1452 6 = .ok (.iload 5, 2) ∧ okop dsL_law_1452 6 = true) ∧ (decode dsL_law_1452 8 = .ok (.iconst 3, 1) ∧ okop dsL_law_1452 8 = true) ∧ (decode dsL_law_1452 9 = .ok (.iadd, 1) ∧ okop dsL_law_1452 9 = true) ∧ (decode dsL_law_1452 10 = .ok (.iaload, 1) ∧ okop dsL_law_1452 10 = true) ∧ (decode dsL_law_1452 11 = .ok (.invokevirtual 309, 3) ∧ okop dsL_law_1452 11 = true) := by decide +kernel
theorem dL_law_1452 : decode cL_law 1452 = .ok (.iload 5, 2) := dgq (p := 0) daL_law_1452 dbL_law_1452.1
theorem dL_law_1454 : decode cL_law 1454 = .ok (.iconst 2, 1) := dgq (p := 2) daL_law_1452 dbL_law_1452.2.1
theorem dL_law_1455 : decode cL_law 1455 = .ok (.iadd, 1) := dgq (p := 3) daL_law_1452 dbL_law_1452.2.2.1
theorem dL_law_1456 : decode cL_law 1456 = .ok (.iaload, 1) := dgq (p := 4) daL_law_1452 dbL_law_1452.2.2.2.1
theorem dL_law_1457 : decode cL_law 1457 = .ok (.aload_n 0, 1) := dgq (p := 5) daL_law_1452 dbL_law_1452.2.2.2.2.1
theorem dL_law_1458 : decode cL_law 1458 = .ok (.iload 5, 2) := dgq (p := 6) daL_law_1452 dbL_law_1452.2.2.2.2.2.1
theorem dL_law_1460 : decode cL_law 1460 = .ok (.iconst 3, 1) := dgq (p := 8) daL_law_1452 dbL_law_1452.2.2.2.2.2.2.1
theorem dL_law_1461 : decode cL_law 1461 = .ok (.iadd, 1) := dgq (p := 9) daL_law_1452 dbL_law_1452.2.2.2.2.2.2.2.1
theorem dL_law_1462 : decode cL_law 1462 = .ok (.iaload, 1) := dgq (p := 10) daL_law_1452 dbL_law_1452.2.2.2.2.2.2.2.2.1
theorem dL_law_1463 : decode cL_law 1463 = .ok (.invokevirtual 309, 3) := dgq (p := 11) daL_law_1452 dbL_law_1452.2.2.2.2.2.2.2.2.2
def dsL_law_1466 : ByteArray := ⟨#[54, 7, 167, 5, 175, 43, 42, 21, 5, 4, 96, 46, 42, 21, 5]⟩
theorem daL_law_1466 : agB cL_law dsL_law_1466 1466 := agB_of (n := 15) (by decide +kernel)
theorem dbL_law_1466 : (decode dsL_law_1466 0 = .ok (.istore 7, 2) ∧ okop dsL_law_1466 0 = true) ∧ (decode dsL_law_1466 2 = .ok (.goto 1455, 3) ∧ okop dsL_law_1466 2 = true) ∧ (decode dsL_law_1466 5 = .ok (.aload_n 1, 1) ∧ okop dsL_law_1466 5 = true) ∧ (decode dsL_law_1466 6 = .ok (.aload_n 0, 1) ∧ okop dsL_law_1466 6 = true) ∧ (decode dsL_law_1466 7 = .ok (.iload 5, 2) ∧ okop dsL_law_1466 7 = true) ∧ (decode dsL_law_1466 9 = .ok (.iconst 1, 1) ∧ okop dsL_law_1466 9 = true) ∧ (decode dsL_law_1466 10 = .ok (.iadd, 1) ∧ okop dsL_law_1466 10 = true) ∧ (decode dsL_law_1466 11 = .ok (.iaload, 1) ∧ okop dsL_law_1466 11 = true) ∧ (decode dsL_law_1466 12 = .ok (.aload_n 0, 1) ∧ okop dsL_law_1466 12 = true) ∧ (decode dsL_law_1466 13 = .ok (.iload 5, 2) ∧ okop dsL_law_1466 13 = true) := by decide +kernel
theorem dL_law_1466 : decode cL_law 1466 = .ok (.istore 7, 2) := dgq (p := 0) daL_law_1466 dbL_law_1466.1
theorem dL_law_1468 : decode cL_law 1468 = .ok (.goto 1455, 3) := dgq (p := 2) daL_law_1466 dbL_law_1466.2.1
theorem dL_law_1471 : decode cL_law 1471 = .ok (.aload_n 1, 1) := dgq (p := 5) daL_law_1466 dbL_law_1466.2.2.1
theorem dL_law_1472 : decode cL_law 1472 = .ok (.aload_n 0, 1) := dgq (p := 6) daL_law_1466 dbL_law_1466.2.2.2.1
theorem dL_law_1473 : decode cL_law 1473 = .ok (.iload 5, 2) := dgq (p := 7) daL_law_1466 dbL_law_1466.2.2.2.2.1
theorem dL_law_1475 : decode cL_law 1475 = .ok (.iconst 1, 1) := dgq (p := 9) daL_law_1466 dbL_law_1466.2.2.2.2.2.1
theorem dL_law_1476 : decode cL_law 1476 = .ok (.iadd, 1) := dgq (p := 10) daL_law_1466 dbL_law_1466.2.2.2.2.2.2.1
theorem dL_law_1477 : decode cL_law 1477 = .ok (.iaload, 1) := dgq (p := 11) daL_law_1466 dbL_law_1466.2.2.2.2.2.2.2.1
theorem dL_law_1478 : decode cL_law 1478 = .ok (.aload_n 0, 1) := dgq (p := 12) daL_law_1466 dbL_law_1466.2.2.2.2.2.2.2.2.1
theorem dL_law_1479 : decode cL_law 1479 = .ok (.iload 5, 2) := dgq (p := 13) daL_law_1466 dbL_law_1466.2.2.2.2.2.2.2.2.2
def dsL_law_1481 : ByteArray := ⟨#[5, 96, 46, 45, 184, 1, 54, 54, 6, 44, 42, 21, 5, 4]⟩
theorem daL_law_1481 : agB cL_law dsL_law_1481 1481 := agB_of (n := 14) (by decide +kernel)
theorem dbL_law_1481 : (decode dsL_law_1481 0 = .ok (.iconst 2, 1) ∧ okop dsL_law_1481 0 = true) ∧ (decode dsL_law_1481 1 = .ok (.iadd, 1) ∧ okop dsL_law_1481 1 = true) ∧ (decode dsL_law_1481 2 = .ok (.iaload, 1) ∧ okop dsL_law_1481 2 = true) ∧ (decode dsL_law_1481 3 = .ok (.aload_n 3, 1) ∧ okop dsL_law_1481 3 = true) ∧ (decode dsL_law_1481 4 = .ok (.invokestatic 310, 3) ∧ okop dsL_law_1481 4 = true) ∧ (decode dsL_law_1481 7 = .ok (.istore 6, 2) ∧ okop dsL_law_1481 7 = true) ∧ (decode dsL_law_1481 9 = .ok (.aload_n 2, 1) ∧ okop dsL_law_1481 9 = true) ∧ (decode dsL_law_1481 10 = .ok (.aload_n 0, 1) ∧ okop dsL_law_1481 10 = true) ∧ (decode dsL_law_1481 11 = .ok (.iload 5, 2) ∧ okop dsL_law_1481 11 = true) ∧ (decode dsL_law_1481 13 = .ok (.iconst 1, 1) ∧ okop dsL_law_1481 13 = true) := by decide +kernel
theorem dL_law_1481 : decode cL_law 1481 = .ok (.iconst 2, 1) := dgq (p := 0) daL_law_1481 dbL_law_1481.1
theorem dL_law_1482 : decode cL_law 1482 = .ok (.iadd, 1) := dgq (p := 1) daL_law_1481 dbL_law_1481.2.1
theorem dL_law_1483 : decode cL_law 1483 = .ok (.iaload, 1) := dgq (p := 2) daL_law_1481 dbL_law_1481.2.2.1
theorem dL_law_1484 : decode cL_law 1484 = .ok (.aload_n 3, 1) := dgq (p := 3) daL_law_1481 dbL_law_1481.2.2.2.1
theorem dL_law_1485 : decode cL_law 1485 = .ok (.invokestatic 310, 3) := dgq (p := 4) daL_law_1481 dbL_law_1481.2.2.2.2.1
theorem dL_law_1488 : decode cL_law 1488 = .ok (.istore 6, 2) := dgq (p := 7) daL_law_1481 dbL_law_1481.2.2.2.2.2.1
theorem dL_law_1490 : decode cL_law 1490 = .ok (.aload_n 2, 1) := dgq (p := 9) daL_law_1481 dbL_law_1481.2.2.2.2.2.2.1
theorem dL_law_1491 : decode cL_law 1491 = .ok (.aload_n 0, 1) := dgq (p := 10) daL_law_1481 dbL_law_1481.2.2.2.2.2.2.2.1
theorem dL_law_1492 : decode cL_law 1492 = .ok (.iload 5, 2) := dgq (p := 11) daL_law_1481 dbL_law_1481.2.2.2.2.2.2.2.2.1
theorem dL_law_1494 : decode cL_law 1494 = .ok (.iconst 1, 1) := dgq (p := 13) daL_law_1481 dbL_law_1481.2.2.2.2.2.2.2.2.2
def dsL_law_1495 : ByteArray := ⟨#[96, 46, 42, 21, 5, 5, 96, 46, 182, 1, 56, 54, 7, 167, 5, 135]⟩
theorem daL_law_1495 : agB cL_law dsL_law_1495 1495 := agB_of (n := 16) (by decide +kernel)
theorem dbL_law_1495 : (decode dsL_law_1495 0 = .ok (.iadd, 1) ∧ okop dsL_law_1495 0 = true) ∧ (decode dsL_law_1495 1 = .ok (.iaload, 1) ∧ okop dsL_law_1495 1 = true) ∧ (decode dsL_law_1495 2 = .ok (.aload_n 0, 1) ∧ okop dsL_law_1495 2 = true) ∧ (decode dsL_law_1495 3 = .ok (.iload 5, 2) ∧ okop dsL_law_1495 3 = true) ∧ (decode dsL_law_1495 5 = .ok (.iconst 2, 1) ∧ okop dsL_law_1495 5 = true) ∧ (decode dsL_law_1495 6 = .ok (.iadd, 1) ∧ okop dsL_law_1495 6 = true) ∧ (decode dsL_law_1495 7 = .ok (.iaload, 1) ∧ okop dsL_law_1495 7 = true) ∧ (decode dsL_law_1495 8 = .ok (.invokevirtual 312, 3) ∧ okop dsL_law_1495 8 = true) ∧ (decode dsL_law_1495 11 = .ok (.istore 7, 2) ∧ okop dsL_law_1495 11 = true) ∧ (decode dsL_law_1495 13 = .ok (.goto 1415, 3) ∧ okop dsL_law_1495 13 = true) := by decide +kernel
theorem dL_law_1495 : decode cL_law 1495 = .ok (.iadd, 1) := dgq (p := 0) daL_law_1495 dbL_law_1495.1
theorem dL_law_1496 : decode cL_law 1496 = .ok (.iaload, 1) := dgq (p := 1) daL_law_1495 dbL_law_1495.2.1
theorem dL_law_1497 : decode cL_law 1497 = .ok (.aload_n 0, 1) := dgq (p := 2) daL_law_1495 dbL_law_1495.2.2.1
theorem dL_law_1498 : decode cL_law 1498 = .ok (.iload 5, 2) := dgq (p := 3) daL_law_1495 dbL_law_1495.2.2.2.1
theorem dL_law_1500 : decode cL_law 1500 = .ok (.iconst 2, 1) := dgq (p := 5) daL_law_1495 dbL_law_1495.2.2.2.2.1
theorem dL_law_1501 : decode cL_law 1501 = .ok (.iadd, 1) := dgq (p := 6) daL_law_1495 dbL_law_1495.2.2.2.2.2.1
theorem dL_law_1502 : decode cL_law 1502 = .ok (.iaload, 1) := dgq (p := 7) daL_law_1495 dbL_law_1495.2.2.2.2.2.2.1
theorem dL_law_1503 : decode cL_law 1503 = .ok (.invokevirtual 312, 3) := dgq (p := 8) daL_law_1495 dbL_law_1495.2.2.2.2.2.2.2.1
theorem dL_law_1506 : decode cL_law 1506 = .ok (.istore 7, 2) := dgq (p := 11) daL_law_1495 dbL_law_1495.2.2.2.2.2.2.2.2.1
theorem dL_law_1508 : decode cL_law 1508 = .ok (.goto 1415, 3) := dgq (p := 13) daL_law_1495 dbL_law_1495.2.2.2.2.2.2.2.2.2
def dsL_law_1511 : ByteArray := ⟨#[43, 42, 21, 5, 4, 96, 46, 45, 184, 1, 57, 54, 6, 44]⟩
theorem daL_law_1511 : agB cL_law dsL_law_1511 1511 := agB_of (n := 14) (by decide +kernel)
theorem dbL_law_1511 : (decode dsL_law_1511 0 = .ok (.aload_n 1, 1) ∧ okop dsL_law_1511 0 = true) ∧ (decode dsL_law_1511 1 = .ok (.aload_n 0, 1) ∧ okop dsL_law_1511 1 = true) ∧ (decode dsL_law_1511 2 = .ok (.iload 5, 2) ∧ okop dsL_law_1511 2 = true) ∧ (decode dsL_law_1511 4 = .ok (.iconst 1, 1) ∧ okop dsL_law_1511 4 = true) ∧ (decode dsL_law_1511 5 = .ok (.iadd, 1) ∧ okop dsL_law_1511 5 = true) ∧ (decode dsL_law_1511 6 = .ok (.iaload, 1) ∧ okop dsL_law_1511 6 = true) ∧ (decode dsL_law_1511 7 = .ok (.aload_n 3, 1) ∧ okop dsL_law_1511 7 = true) ∧ (decode dsL_law_1511 8 = .ok (.invokestatic 313, 3) ∧ okop dsL_law_1511 8 = true) ∧ (decode dsL_law_1511 11 = .ok (.istore 6, 2) ∧ okop dsL_law_1511 11 = true) ∧ (decode dsL_law_1511 13 = .ok (.aload_n 2, 1) ∧ okop dsL_law_1511 13 = true) := by decide +kernel
theorem dL_law_1511 : decode cL_law 1511 = .ok (.aload_n 1, 1) := dgq (p := 0) daL_law_1511 dbL_law_1511.1
theorem dL_law_1512 : decode cL_law 1512 = .ok (.aload_n 0, 1) := dgq (p := 1) daL_law_1511 dbL_law_1511.2.1
theorem dL_law_1513 : decode cL_law 1513 = .ok (.iload 5, 2) := dgq (p := 2) daL_law_1511 dbL_law_1511.2.2.1
theorem dL_law_1515 : decode cL_law 1515 = .ok (.iconst 1, 1) := dgq (p := 4) daL_law_1511 dbL_law_1511.2.2.2.1
theorem dL_law_1516 : decode cL_law 1516 = .ok (.iadd, 1) := dgq (p := 5) daL_law_1511 dbL_law_1511.2.2.2.2.1
theorem dL_law_1517 : decode cL_law 1517 = .ok (.iaload, 1) := dgq (p := 6) daL_law_1511 dbL_law_1511.2.2.2.2.2.1
theorem dL_law_1518 : decode cL_law 1518 = .ok (.aload_n 3, 1) := dgq (p := 7) daL_law_1511 dbL_law_1511.2.2.2.2.2.2.1
theorem dL_law_1519 : decode cL_law 1519 = .ok (.invokestatic 313, 3) := dgq (p := 8) daL_law_1511 dbL_law_1511.2.2.2.2.2.2.2.1
theorem dL_law_1522 : decode cL_law 1522 = .ok (.istore 6, 2) := dgq (p := 11) daL_law_1511 dbL_law_1511.2.2.2.2.2.2.2.2.1
theorem dL_law_1524 : decode cL_law 1524 = .ok (.aload_n 2, 1) := dgq (p := 13) daL_law_1511 dbL_law_1511.2.2.2.2.2.2.2.2.2
def dsL_law_1525 : ByteArray := ⟨#[42, 21, 5, 4, 96, 46, 182, 1, 59, 54, 7, 167, 5, 107, 43, 42]⟩
theorem daL_law_1525 : agB cL_law dsL_law_1525 1525 := agB_of (n := 16) (by decide +kernel)
theorem dbL_law_1525 : (decode dsL_law_1525 0 = .ok (.aload_n 0, 1) ∧ okop dsL_law_1525 0 = true) ∧ (decode dsL_law_1525 1 = .ok (.iload 5, 2) ∧ okop dsL_law_1525 1 = true) ∧ (decode dsL_law_1525 3 = .ok (.iconst 1, 1) ∧ okop dsL_law_1525 3 = true) ∧ (decode dsL_law_1525 4 = .ok (.iadd, 1) ∧ okop dsL_law_1525 4 = true) ∧ (decode dsL_law_1525 5 = .ok (.iaload, 1) ∧ okop dsL_law_1525 5 = true) ∧ (decode dsL_law_1525 6 = .ok (.invokevirtual 315, 3) ∧ okop dsL_law_1525 6 = true) ∧ (decode dsL_law_1525 9 = .ok (.istore 7, 2) ∧ okop dsL_law_1525 9 = true) ∧ (decode dsL_law_1525 11 = .ok (.goto 1387, 3) ∧ okop dsL_law_1525 11 = true) ∧ (decode dsL_law_1525 14 = .ok (.aload_n 1, 1) ∧ okop dsL_law_1525 14 = true) ∧ (decode dsL_law_1525 15 = .ok (.aload_n 0, 1) ∧ okop dsL_law_1525 15 = true) := by decide +kernel
theorem dL_law_1525 : decode cL_law 1525 = .ok (.aload_n 0, 1) := dgq (p := 0) daL_law_1525 dbL_law_1525.1
theorem dL_law_1526 : decode cL_law 1526 = .ok (.iload 5, 2) := dgq (p := 1) daL_law_1525 dbL_law_1525.2.1
theorem dL_law_1528 : decode cL_law 1528 = .ok (.iconst 1, 1) := dgq (p := 3) daL_law_1525 dbL_law_1525.2.2.1
theorem dL_law_1529 : decode cL_law 1529 = .ok (.iadd, 1) := dgq (p := 4) daL_law_1525 dbL_law_1525.2.2.2.1
theorem dL_law_1530 : decode cL_law 1530 = .ok (.iaload, 1) := dgq (p := 5) daL_law_1525 dbL_law_1525.2.2.2.2.1
theorem dL_law_1531 : decode cL_law 1531 = .ok (.invokevirtual 315, 3) := dgq (p := 6) daL_law_1525 dbL_law_1525.2.2.2.2.2.1
theorem dL_law_1534 : decode cL_law 1534 = .ok (.istore 7, 2) := dgq (p := 9) daL_law_1525 dbL_law_1525.2.2.2.2.2.2.1
theorem dL_law_1536 : decode cL_law 1536 = .ok (.goto 1387, 3) := dgq (p := 11) daL_law_1525 dbL_law_1525.2.2.2.2.2.2.2.1
theorem dL_law_1539 : decode cL_law 1539 = .ok (.aload_n 1, 1) := dgq (p := 14) daL_law_1525 dbL_law_1525.2.2.2.2.2.2.2.2.1
theorem dL_law_1540 : decode cL_law 1540 = .ok (.aload_n 0, 1) := dgq (p := 15) daL_law_1525 dbL_law_1525.2.2.2.2.2.2.2.2.2
def dsL_law_1541 : ByteArray := ⟨#[21, 5, 4, 96, 46, 42, 21, 5, 5, 96, 46, 42]⟩
theorem daL_law_1541 : agB cL_law dsL_law_1541 1541 := agB_of (n := 12) (by decide +kernel)
theorem dbL_law_1541 : (decode dsL_law_1541 0 = .ok (.iload 5, 2) ∧ okop dsL_law_1541 0 = true) ∧ (decode dsL_law_1541 2 = .ok (.iconst 1, 1) ∧ okop dsL_law_1541 2 = true) ∧ (decode dsL_law_1541 3 = .ok (.iadd, 1) ∧ okop dsL_law_1541 3 = true) ∧ (decode dsL_law_1541 4 = .ok (.iaload, 1) ∧ okop dsL_law_1541 4 = true) ∧ (decode dsL_law_1541 5 = .ok (.aload_n 0, 1) ∧ okop dsL_law_1541 5 = true) ∧ (decode dsL_law_1541 6 = .ok (.iload 5, 2) ∧ okop dsL_law_1541 6 = true) ∧ (decode dsL_law_1541 8 = .ok (.iconst 2, 1) ∧ okop dsL_law_1541 8 = true) ∧ (decode dsL_law_1541 9 = .ok (.iadd, 1) ∧ okop dsL_law_1541 9 = true) ∧ (decode dsL_law_1541 10 = .ok (.iaload, 1) ∧ okop dsL_law_1541 10 = true) ∧ (decode dsL_law_1541 11 = .ok (.aload_n 0, 1) ∧ okop dsL_law_1541 11 = true) := by decide +kernel
theorem dL_law_1541 : decode cL_law 1541 = .ok (.iload 5, 2) := dgq (p := 0) daL_law_1541 dbL_law_1541.1
theorem dL_law_1543 : decode cL_law 1543 = .ok (.iconst 1, 1) := dgq (p := 2) daL_law_1541 dbL_law_1541.2.1
theorem dL_law_1544 : decode cL_law 1544 = .ok (.iadd, 1) := dgq (p := 3) daL_law_1541 dbL_law_1541.2.2.1
theorem dL_law_1545 : decode cL_law 1545 = .ok (.iaload, 1) := dgq (p := 4) daL_law_1541 dbL_law_1541.2.2.2.1
theorem dL_law_1546 : decode cL_law 1546 = .ok (.aload_n 0, 1) := dgq (p := 5) daL_law_1541 dbL_law_1541.2.2.2.2.1
theorem dL_law_1547 : decode cL_law 1547 = .ok (.iload 5, 2) := dgq (p := 6) daL_law_1541 dbL_law_1541.2.2.2.2.2.1
theorem dL_law_1549 : decode cL_law 1549 = .ok (.iconst 2, 1) := dgq (p := 8) daL_law_1541 dbL_law_1541.2.2.2.2.2.2.1
theorem dL_law_1550 : decode cL_law 1550 = .ok (.iadd, 1) := dgq (p := 9) daL_law_1541 dbL_law_1541.2.2.2.2.2.2.2.1
theorem dL_law_1551 : decode cL_law 1551 = .ok (.iaload, 1) := dgq (p := 10) daL_law_1541 dbL_law_1541.2.2.2.2.2.2.2.2.1
theorem dL_law_1552 : decode cL_law 1552 = .ok (.aload_n 0, 1) := dgq (p := 11) daL_law_1541 dbL_law_1541.2.2.2.2.2.2.2.2.2
def dsL_law_1553 : ByteArray := ⟨#[21, 5, 6, 96, 46, 45, 184, 1, 60, 54, 6, 44, 42, 21, 5]⟩
theorem daL_law_1553 : agB cL_law dsL_law_1553 1553 := agB_of (n := 15) (by decide +kernel)
theorem dbL_law_1553 : (decode dsL_law_1553 0 = .ok (.iload 5, 2) ∧ okop dsL_law_1553 0 = true) ∧ (decode dsL_law_1553 2 = .ok (.iconst 3, 1) ∧ okop dsL_law_1553 2 = true) ∧ (decode dsL_law_1553 3 = .ok (.iadd, 1) ∧ okop dsL_law_1553 3 = true) ∧ (decode dsL_law_1553 4 = .ok (.iaload, 1) ∧ okop dsL_law_1553 4 = true) ∧ (decode dsL_law_1553 5 = .ok (.aload_n 3, 1) ∧ okop dsL_law_1553 5 = true) ∧ (decode dsL_law_1553 6 = .ok (.invokestatic 316, 3) ∧ okop dsL_law_1553 6 = true) ∧ (decode dsL_law_1553 9 = .ok (.istore 6, 2) ∧ okop dsL_law_1553 9 = true) ∧ (decode dsL_law_1553 11 = .ok (.aload_n 2, 1) ∧ okop dsL_law_1553 11 = true) ∧ (decode dsL_law_1553 12 = .ok (.aload_n 0, 1) ∧ okop dsL_law_1553 12 = true) ∧ (decode dsL_law_1553 13 = .ok (.iload 5, 2) ∧ okop dsL_law_1553 13 = true) := by decide +kernel
theorem dL_law_1553 : decode cL_law 1553 = .ok (.iload 5, 2) := dgq (p := 0) daL_law_1553 dbL_law_1553.1
theorem dL_law_1555 : decode cL_law 1555 = .ok (.iconst 3, 1) := dgq (p := 2) daL_law_1553 dbL_law_1553.2.1
theorem dL_law_1556 : decode cL_law 1556 = .ok (.iadd, 1) := dgq (p := 3) daL_law_1553 dbL_law_1553.2.2.1
theorem dL_law_1557 : decode cL_law 1557 = .ok (.iaload, 1) := dgq (p := 4) daL_law_1553 dbL_law_1553.2.2.2.1
theorem dL_law_1558 : decode cL_law 1558 = .ok (.aload_n 3, 1) := dgq (p := 5) daL_law_1553 dbL_law_1553.2.2.2.2.1
theorem dL_law_1559 : decode cL_law 1559 = .ok (.invokestatic 316, 3) := dgq (p := 6) daL_law_1553 dbL_law_1553.2.2.2.2.2.1
theorem dL_law_1562 : decode cL_law 1562 = .ok (.istore 6, 2) := dgq (p := 9) daL_law_1553 dbL_law_1553.2.2.2.2.2.2.1
theorem dL_law_1564 : decode cL_law 1564 = .ok (.aload_n 2, 1) := dgq (p := 11) daL_law_1553 dbL_law_1553.2.2.2.2.2.2.2.1
theorem dL_law_1565 : decode cL_law 1565 = .ok (.aload_n 0, 1) := dgq (p := 12) daL_law_1553 dbL_law_1553.2.2.2.2.2.2.2.2.1
theorem dL_law_1566 : decode cL_law 1566 = .ok (.iload 5, 2) := dgq (p := 13) daL_law_1553 dbL_law_1553.2.2.2.2.2.2.2.2.2
def dsL_law_1568 : ByteArray := ⟨#[4, 96, 46, 42, 21, 5, 5, 96, 46, 42, 21, 5]⟩
theorem daL_law_1568 : agB cL_law dsL_law_1568 1568 := agB_of (n := 12) (by decide +kernel)
theorem dbL_law_1568 : (decode dsL_law_1568 0 = .ok (.iconst 1, 1) ∧ okop dsL_law_1568 0 = true) ∧ (decode dsL_law_1568 1 = .ok (.iadd, 1) ∧ okop dsL_law_1568 1 = true) ∧ (decode dsL_law_1568 2 = .ok (.iaload, 1) ∧ okop dsL_law_1568 2 = true) ∧ (decode dsL_law_1568 3 = .ok (.aload_n 0, 1) ∧ okop dsL_law_1568 3 = true) ∧ (decode dsL_law_1568 4 = .ok (.iload 5, 2) ∧ okop dsL_law_1568 4 = true) ∧ (decode dsL_law_1568 6 = .ok (.iconst 2, 1) ∧ okop dsL_law_1568 6 = true) ∧ (decode dsL_law_1568 7 = .ok (.iadd, 1) ∧ okop dsL_law_1568 7 = true) ∧ (decode dsL_law_1568 8 = .ok (.iaload, 1) ∧ okop dsL_law_1568 8 = true) ∧ (decode dsL_law_1568 9 = .ok (.aload_n 0, 1) ∧ okop dsL_law_1568 9 = true) ∧ (decode dsL_law_1568 10 = .ok (.iload 5, 2) ∧ okop dsL_law_1568 10 = true) := by decide +kernel
theorem dL_law_1568 : decode cL_law 1568 = .ok (.iconst 1, 1) := dgq (p := 0) daL_law_1568 dbL_law_1568.1
theorem dL_law_1569 : decode cL_law 1569 = .ok (.iadd, 1) := dgq (p := 1) daL_law_1568 dbL_law_1568.2.1
theorem dL_law_1570 : decode cL_law 1570 = .ok (.iaload, 1) := dgq (p := 2) daL_law_1568 dbL_law_1568.2.2.1
theorem dL_law_1571 : decode cL_law 1571 = .ok (.aload_n 0, 1) := dgq (p := 3) daL_law_1568 dbL_law_1568.2.2.2.1
theorem dL_law_1572 : decode cL_law 1572 = .ok (.iload 5, 2) := dgq (p := 4) daL_law_1568 dbL_law_1568.2.2.2.2.1
theorem dL_law_1574 : decode cL_law 1574 = .ok (.iconst 2, 1) := dgq (p := 6) daL_law_1568 dbL_law_1568.2.2.2.2.2.1
theorem dL_law_1575 : decode cL_law 1575 = .ok (.iadd, 1) := dgq (p := 7) daL_law_1568 dbL_law_1568.2.2.2.2.2.2.1
theorem dL_law_1576 : decode cL_law 1576 = .ok (.iaload, 1) := dgq (p := 8) daL_law_1568 dbL_law_1568.2.2.2.2.2.2.2.1
theorem dL_law_1577 : decode cL_law 1577 = .ok (.aload_n 0, 1) := dgq (p := 9) daL_law_1568 dbL_law_1568.2.2.2.2.2.2.2.2.1
theorem dL_law_1578 : decode cL_law 1578 = .ok (.iload 5, 2) := dgq (p := 10) daL_law_1568 dbL_law_1568.2.2.2.2.2.2.2.2.2
def dsL_law_1580 : ByteArray := ⟨#[6, 96, 46, 182, 1, 62, 54, 7, 167, 5, 55, 43, 42, 21, 5, 4]⟩
theorem daL_law_1580 : agB cL_law dsL_law_1580 1580 := agB_of (n := 16) (by decide +kernel)
theorem dbL_law_1580 : (decode dsL_law_1580 0 = .ok (.iconst 3, 1) ∧ okop dsL_law_1580 0 = true) ∧ (decode dsL_law_1580 1 = .ok (.iadd, 1) ∧ okop dsL_law_1580 1 = true) ∧ (decode dsL_law_1580 2 = .ok (.iaload, 1) ∧ okop dsL_law_1580 2 = true) ∧ (decode dsL_law_1580 3 = .ok (.invokevirtual 318, 3) ∧ okop dsL_law_1580 3 = true) ∧ (decode dsL_law_1580 6 = .ok (.istore 7, 2) ∧ okop dsL_law_1580 6 = true) ∧ (decode dsL_law_1580 8 = .ok (.goto 1335, 3) ∧ okop dsL_law_1580 8 = true) ∧ (decode dsL_law_1580 11 = .ok (.aload_n 1, 1) ∧ okop dsL_law_1580 11 = true) ∧ (decode dsL_law_1580 12 = .ok (.aload_n 0, 1) ∧ okop dsL_law_1580 12 = true) ∧ (decode dsL_law_1580 13 = .ok (.iload 5, 2) ∧ okop dsL_law_1580 13 = true) ∧ (decode dsL_law_1580 15 = .ok (.iconst 1, 1) ∧ okop dsL_law_1580 15 = true) := by decide +kernel
theorem dL_law_1580 : decode cL_law 1580 = .ok (.iconst 3, 1) := dgq (p := 0) daL_law_1580 dbL_law_1580.1
theorem dL_law_1581 : decode cL_law 1581 = .ok (.iadd, 1) := dgq (p := 1) daL_law_1580 dbL_law_1580.2.1
theorem dL_law_1582 : decode cL_law 1582 = .ok (.iaload, 1) := dgq (p := 2) daL_law_1580 dbL_law_1580.2.2.1
theorem dL_law_1583 : decode cL_law 1583 = .ok (.invokevirtual 318, 3) := dgq (p := 3) daL_law_1580 dbL_law_1580.2.2.2.1
theorem dL_law_1586 : decode cL_law 1586 = .ok (.istore 7, 2) := dgq (p := 6) daL_law_1580 dbL_law_1580.2.2.2.2.1
theorem dL_law_1588 : decode cL_law 1588 = .ok (.goto 1335, 3) := dgq (p := 8) daL_law_1580 dbL_law_1580.2.2.2.2.2.1
theorem dL_law_1591 : decode cL_law 1591 = .ok (.aload_n 1, 1) := dgq (p := 11) daL_law_1580 dbL_law_1580.2.2.2.2.2.2.1
theorem dL_law_1592 : decode cL_law 1592 = .ok (.aload_n 0, 1) := dgq (p := 12) daL_law_1580 dbL_law_1580.2.2.2.2.2.2.2.1
theorem dL_law_1593 : decode cL_law 1593 = .ok (.iload 5, 2) := dgq (p := 13) daL_law_1580 dbL_law_1580.2.2.2.2.2.2.2.2.1
theorem dL_law_1595 : decode cL_law 1595 = .ok (.iconst 1, 1) := dgq (p := 15) daL_law_1580 dbL_law_1580.2.2.2.2.2.2.2.2.2
def dsL_law_1596 : ByteArray := ⟨#[96, 46, 42, 21, 5, 5, 96, 46, 45, 184, 1, 63, 54, 6]⟩
theorem daL_law_1596 : agB cL_law dsL_law_1596 1596 := agB_of (n := 14) (by decide +kernel)
theorem dbL_law_1596 : (decode dsL_law_1596 0 = .ok (.iadd, 1) ∧ okop dsL_law_1596 0 = true) ∧ (decode dsL_law_1596 1 = .ok (.iaload, 1) ∧ okop dsL_law_1596 1 = true) ∧ (decode dsL_law_1596 2 = .ok (.aload_n 0, 1) ∧ okop dsL_law_1596 2 = true) ∧ (decode dsL_law_1596 3 = .ok (.iload 5, 2) ∧ okop dsL_law_1596 3 = true) ∧ (decode dsL_law_1596 5 = .ok (.iconst 2, 1) ∧ okop dsL_law_1596 5 = true) ∧ (decode dsL_law_1596 6 = .ok (.iadd, 1) ∧ okop dsL_law_1596 6 = true) ∧ (decode dsL_law_1596 7 = .ok (.iaload, 1) ∧ okop dsL_law_1596 7 = true) ∧ (decode dsL_law_1596 8 = .ok (.aload_n 3, 1) ∧ okop dsL_law_1596 8 = true) ∧ (decode dsL_law_1596 9 = .ok (.invokestatic 319, 3) ∧ okop dsL_law_1596 9 = true) ∧ (decode dsL_law_1596 12 = .ok (.istore 6, 2) ∧ okop dsL_law_1596 12 = true) := by decide +kernel
theorem dL_law_1596 : decode cL_law 1596 = .ok (.iadd, 1) := dgq (p := 0) daL_law_1596 dbL_law_1596.1
theorem dL_law_1597 : decode cL_law 1597 = .ok (.iaload, 1) := dgq (p := 1) daL_law_1596 dbL_law_1596.2.1
theorem dL_law_1598 : decode cL_law 1598 = .ok (.aload_n 0, 1) := dgq (p := 2) daL_law_1596 dbL_law_1596.2.2.1
theorem dL_law_1599 : decode cL_law 1599 = .ok (.iload 5, 2) := dgq (p := 3) daL_law_1596 dbL_law_1596.2.2.2.1
theorem dL_law_1601 : decode cL_law 1601 = .ok (.iconst 2, 1) := dgq (p := 5) daL_law_1596 dbL_law_1596.2.2.2.2.1
theorem dL_law_1602 : decode cL_law 1602 = .ok (.iadd, 1) := dgq (p := 6) daL_law_1596 dbL_law_1596.2.2.2.2.2.1
theorem dL_law_1603 : decode cL_law 1603 = .ok (.iaload, 1) := dgq (p := 7) daL_law_1596 dbL_law_1596.2.2.2.2.2.2.1
theorem dL_law_1604 : decode cL_law 1604 = .ok (.aload_n 3, 1) := dgq (p := 8) daL_law_1596 dbL_law_1596.2.2.2.2.2.2.2.1
theorem dL_law_1605 : decode cL_law 1605 = .ok (.invokestatic 319, 3) := dgq (p := 9) daL_law_1596 dbL_law_1596.2.2.2.2.2.2.2.2.1
theorem dL_law_1608 : decode cL_law 1608 = .ok (.istore 6, 2) := dgq (p := 12) daL_law_1596 dbL_law_1596.2.2.2.2.2.2.2.2.2
def dsL_law_1610 : ByteArray := ⟨#[44, 42, 21, 5, 4, 96, 46, 42, 21, 5, 5, 96]⟩
theorem daL_law_1610 : agB cL_law dsL_law_1610 1610 := agB_of (n := 12) (by decide +kernel)
theorem dbL_law_1610 : (decode dsL_law_1610 0 = .ok (.aload_n 2, 1) ∧ okop dsL_law_1610 0 = true) ∧ (decode dsL_law_1610 1 = .ok (.aload_n 0, 1) ∧ okop dsL_law_1610 1 = true) ∧ (decode dsL_law_1610 2 = .ok (.iload 5, 2) ∧ okop dsL_law_1610 2 = true) ∧ (decode dsL_law_1610 4 = .ok (.iconst 1, 1) ∧ okop dsL_law_1610 4 = true) ∧ (decode dsL_law_1610 5 = .ok (.iadd, 1) ∧ okop dsL_law_1610 5 = true) ∧ (decode dsL_law_1610 6 = .ok (.iaload, 1) ∧ okop dsL_law_1610 6 = true) ∧ (decode dsL_law_1610 7 = .ok (.aload_n 0, 1) ∧ okop dsL_law_1610 7 = true) ∧ (decode dsL_law_1610 8 = .ok (.iload 5, 2) ∧ okop dsL_law_1610 8 = true) ∧ (decode dsL_law_1610 10 = .ok (.iconst 2, 1) ∧ okop dsL_law_1610 10 = true) ∧ (decode dsL_law_1610 11 = .ok (.iadd, 1) ∧ okop dsL_law_1610 11 = true) := by decide +kernel
theorem dL_law_1610 : decode cL_law 1610 = .ok (.aload_n 2, 1) := dgq (p := 0) daL_law_1610 dbL_law_1610.1
theorem dL_law_1611 : decode cL_law 1611 = .ok (.aload_n 0, 1) := dgq (p := 1) daL_law_1610 dbL_law_1610.2.1
theorem dL_law_1612 : decode cL_law 1612 = .ok (.iload 5, 2) := dgq (p := 2) daL_law_1610 dbL_law_1610.2.2.1
theorem dL_law_1614 : decode cL_law 1614 = .ok (.iconst 1, 1) := dgq (p := 4) daL_law_1610 dbL_law_1610.2.2.2.1
theorem dL_law_1615 : decode cL_law 1615 = .ok (.iadd, 1) := dgq (p := 5) daL_law_1610 dbL_law_1610.2.2.2.2.1
theorem dL_law_1616 : decode cL_law 1616 = .ok (.iaload, 1) := dgq (p := 6) daL_law_1610 dbL_law_1610.2.2.2.2.2.1
theorem dL_law_1617 : decode cL_law 1617 = .ok (.aload_n 0, 1) := dgq (p := 7) daL_law_1610 dbL_law_1610.2.2.2.2.2.2.1
theorem dL_law_1618 : decode cL_law 1618 = .ok (.iload 5, 2) := dgq (p := 8) daL_law_1610 dbL_law_1610.2.2.2.2.2.2.2.1
theorem dL_law_1620 : decode cL_law 1620 = .ok (.iconst 2, 1) := dgq (p := 10) daL_law_1610 dbL_law_1610.2.2.2.2.2.2.2.2.1
theorem dL_law_1621 : decode cL_law 1621 = .ok (.iadd, 1) := dgq (p := 11) daL_law_1610 dbL_law_1610.2.2.2.2.2.2.2.2.2
def dsL_law_1622 : ByteArray := ⟨#[46, 182, 1, 65, 54, 7, 167, 5, 15, 43, 42, 21, 5, 4, 96, 46]⟩
theorem daL_law_1622 : agB cL_law dsL_law_1622 1622 := agB_of (n := 16) (by decide +kernel)
theorem dbL_law_1622 : (decode dsL_law_1622 0 = .ok (.iaload, 1) ∧ okop dsL_law_1622 0 = true) ∧ (decode dsL_law_1622 1 = .ok (.invokevirtual 321, 3) ∧ okop dsL_law_1622 1 = true) ∧ (decode dsL_law_1622 4 = .ok (.istore 7, 2) ∧ okop dsL_law_1622 4 = true) ∧ (decode dsL_law_1622 6 = .ok (.goto 1295, 3) ∧ okop dsL_law_1622 6 = true) ∧ (decode dsL_law_1622 9 = .ok (.aload_n 1, 1) ∧ okop dsL_law_1622 9 = true) ∧ (decode dsL_law_1622 10 = .ok (.aload_n 0, 1) ∧ okop dsL_law_1622 10 = true) ∧ (decode dsL_law_1622 11 = .ok (.iload 5, 2) ∧ okop dsL_law_1622 11 = true) ∧ (decode dsL_law_1622 13 = .ok (.iconst 1, 1) ∧ okop dsL_law_1622 13 = true) ∧ (decode dsL_law_1622 14 = .ok (.iadd, 1) ∧ okop dsL_law_1622 14 = true) ∧ (decode dsL_law_1622 15 = .ok (.iaload, 1) ∧ okop dsL_law_1622 15 = true) := by decide +kernel
theorem dL_law_1622 : decode cL_law 1622 = .ok (.iaload, 1) := dgq (p := 0) daL_law_1622 dbL_law_1622.1
theorem dL_law_1623 : decode cL_law 1623 = .ok (.invokevirtual 321, 3) := dgq (p := 1) daL_law_1622 dbL_law_1622.2.1
theorem dL_law_1626 : decode cL_law 1626 = .ok (.istore 7, 2) := dgq (p := 4) daL_law_1622 dbL_law_1622.2.2.1
theorem dL_law_1628 : decode cL_law 1628 = .ok (.goto 1295, 3) := dgq (p := 6) daL_law_1622 dbL_law_1622.2.2.2.1
theorem dL_law_1631 : decode cL_law 1631 = .ok (.aload_n 1, 1) := dgq (p := 9) daL_law_1622 dbL_law_1622.2.2.2.2.1
theorem dL_law_1632 : decode cL_law 1632 = .ok (.aload_n 0, 1) := dgq (p := 10) daL_law_1622 dbL_law_1622.2.2.2.2.2.1
theorem dL_law_1633 : decode cL_law 1633 = .ok (.iload 5, 2) := dgq (p := 11) daL_law_1622 dbL_law_1622.2.2.2.2.2.2.1
theorem dL_law_1635 : decode cL_law 1635 = .ok (.iconst 1, 1) := dgq (p := 13) daL_law_1622 dbL_law_1622.2.2.2.2.2.2.2.1
theorem dL_law_1636 : decode cL_law 1636 = .ok (.iadd, 1) := dgq (p := 14) daL_law_1622 dbL_law_1622.2.2.2.2.2.2.2.2.1
theorem dL_law_1637 : decode cL_law 1637 = .ok (.iaload, 1) := dgq (p := 15) daL_law_1622 dbL_law_1622.2.2.2.2.2.2.2.2.2
def dsL_law_1638 : ByteArray := ⟨#[45, 184, 1, 66, 54, 6, 44, 42, 21, 5, 4, 96, 46, 182, 1, 68]⟩
theorem daL_law_1638 : agB cL_law dsL_law_1638 1638 := agB_of (n := 16) (by decide +kernel)
theorem dbL_law_1638 : (decode dsL_law_1638 0 = .ok (.aload_n 3, 1) ∧ okop dsL_law_1638 0 = true) ∧ (decode dsL_law_1638 1 = .ok (.invokestatic 322, 3) ∧ okop dsL_law_1638 1 = true) ∧ (decode dsL_law_1638 4 = .ok (.istore 6, 2) ∧ okop dsL_law_1638 4 = true) ∧ (decode dsL_law_1638 6 = .ok (.aload_n 2, 1) ∧ okop dsL_law_1638 6 = true) ∧ (decode dsL_law_1638 7 = .ok (.aload_n 0, 1) ∧ okop dsL_law_1638 7 = true) ∧ (decode dsL_law_1638 8 = .ok (.iload 5, 2) ∧ okop dsL_law_1638 8 = true) ∧ (decode dsL_law_1638 10 = .ok (.iconst 1, 1) ∧ okop dsL_law_1638 10 = true) ∧ (decode dsL_law_1638 11 = .ok (.iadd, 1) ∧ okop dsL_law_1638 11 = true) ∧ (decode dsL_law_1638 12 = .ok (.iaload, 1) ∧ okop dsL_law_1638 12 = true) ∧ (decode dsL_law_1638 13 = .ok (.invokevirtual 324, 3) ∧ okop dsL_law_1638 13 = true) := by decide +kernel
theorem dL_law_1638 : decode cL_law 1638 = .ok (.aload_n 3, 1) := dgq (p := 0) daL_law_1638 dbL_law_1638.1
theorem dL_law_1639 : decode cL_law 1639 = .ok (.invokestatic 322, 3) := dgq (p := 1) daL_law_1638 dbL_law_1638.2.1
theorem dL_law_1642 : decode cL_law 1642 = .ok (.istore 6, 2) := dgq (p := 4) daL_law_1638 dbL_law_1638.2.2.1
theorem dL_law_1644 : decode cL_law 1644 = .ok (.aload_n 2, 1) := dgq (p := 6) daL_law_1638 dbL_law_1638.2.2.2.1
theorem dL_law_1645 : decode cL_law 1645 = .ok (.aload_n 0, 1) := dgq (p := 7) daL_law_1638 dbL_law_1638.2.2.2.2.1
theorem dL_law_1646 : decode cL_law 1646 = .ok (.iload 5, 2) := dgq (p := 8) daL_law_1638 dbL_law_1638.2.2.2.2.2.1
theorem dL_law_1648 : decode cL_law 1648 = .ok (.iconst 1, 1) := dgq (p := 10) daL_law_1638 dbL_law_1638.2.2.2.2.2.2.1
theorem dL_law_1649 : decode cL_law 1649 = .ok (.iadd, 1) := dgq (p := 11) daL_law_1638 dbL_law_1638.2.2.2.2.2.2.2.1
theorem dL_law_1650 : decode cL_law 1650 = .ok (.iaload, 1) := dgq (p := 12) daL_law_1638 dbL_law_1638.2.2.2.2.2.2.2.2.1
theorem dL_law_1651 : decode cL_law 1651 = .ok (.invokevirtual 324, 3) := dgq (p := 13) daL_law_1638 dbL_law_1638.2.2.2.2.2.2.2.2.2
def dsL_law_1654 : ByteArray := ⟨#[54, 7, 167, 4, 243, 43, 42, 21, 5, 4, 96, 46, 42, 21, 5]⟩
theorem daL_law_1654 : agB cL_law dsL_law_1654 1654 := agB_of (n := 15) (by decide +kernel)
theorem dbL_law_1654 : (decode dsL_law_1654 0 = .ok (.istore 7, 2) ∧ okop dsL_law_1654 0 = true) ∧ (decode dsL_law_1654 2 = .ok (.goto 1267, 3) ∧ okop dsL_law_1654 2 = true) ∧ (decode dsL_law_1654 5 = .ok (.aload_n 1, 1) ∧ okop dsL_law_1654 5 = true) ∧ (decode dsL_law_1654 6 = .ok (.aload_n 0, 1) ∧ okop dsL_law_1654 6 = true) ∧ (decode dsL_law_1654 7 = .ok (.iload 5, 2) ∧ okop dsL_law_1654 7 = true) ∧ (decode dsL_law_1654 9 = .ok (.iconst 1, 1) ∧ okop dsL_law_1654 9 = true) ∧ (decode dsL_law_1654 10 = .ok (.iadd, 1) ∧ okop dsL_law_1654 10 = true) ∧ (decode dsL_law_1654 11 = .ok (.iaload, 1) ∧ okop dsL_law_1654 11 = true) ∧ (decode dsL_law_1654 12 = .ok (.aload_n 0, 1) ∧ okop dsL_law_1654 12 = true) ∧ (decode dsL_law_1654 13 = .ok (.iload 5, 2) ∧ okop dsL_law_1654 13 = true) := by decide +kernel
theorem dL_law_1654 : decode cL_law 1654 = .ok (.istore 7, 2) := dgq (p := 0) daL_law_1654 dbL_law_1654.1
theorem dL_law_1656 : decode cL_law 1656 = .ok (.goto 1267, 3) := dgq (p := 2) daL_law_1654 dbL_law_1654.2.1
theorem dL_law_1659 : decode cL_law 1659 = .ok (.aload_n 1, 1) := dgq (p := 5) daL_law_1654 dbL_law_1654.2.2.1
theorem dL_law_1660 : decode cL_law 1660 = .ok (.aload_n 0, 1) := dgq (p := 6) daL_law_1654 dbL_law_1654.2.2.2.1
theorem dL_law_1661 : decode cL_law 1661 = .ok (.iload 5, 2) := dgq (p := 7) daL_law_1654 dbL_law_1654.2.2.2.2.1
theorem dL_law_1663 : decode cL_law 1663 = .ok (.iconst 1, 1) := dgq (p := 9) daL_law_1654 dbL_law_1654.2.2.2.2.2.1
theorem dL_law_1664 : decode cL_law 1664 = .ok (.iadd, 1) := dgq (p := 10) daL_law_1654 dbL_law_1654.2.2.2.2.2.2.1
theorem dL_law_1665 : decode cL_law 1665 = .ok (.iaload, 1) := dgq (p := 11) daL_law_1654 dbL_law_1654.2.2.2.2.2.2.2.1
theorem dL_law_1666 : decode cL_law 1666 = .ok (.aload_n 0, 1) := dgq (p := 12) daL_law_1654 dbL_law_1654.2.2.2.2.2.2.2.2.1
theorem dL_law_1667 : decode cL_law 1667 = .ok (.iload 5, 2) := dgq (p := 13) daL_law_1654 dbL_law_1654.2.2.2.2.2.2.2.2.2
def dsL_law_1669 : ByteArray := ⟨#[5, 96, 46, 42, 21, 5, 6, 96, 46, 42, 21, 5]⟩
theorem daL_law_1669 : agB cL_law dsL_law_1669 1669 := agB_of (n := 12) (by decide +kernel)
theorem dbL_law_1669 : (decode dsL_law_1669 0 = .ok (.iconst 2, 1) ∧ okop dsL_law_1669 0 = true) ∧ (decode dsL_law_1669 1 = .ok (.iadd, 1) ∧ okop dsL_law_1669 1 = true) ∧ (decode dsL_law_1669 2 = .ok (.iaload, 1) ∧ okop dsL_law_1669 2 = true) ∧ (decode dsL_law_1669 3 = .ok (.aload_n 0, 1) ∧ okop dsL_law_1669 3 = true) ∧ (decode dsL_law_1669 4 = .ok (.iload 5, 2) ∧ okop dsL_law_1669 4 = true) ∧ (decode dsL_law_1669 6 = .ok (.iconst 3, 1) ∧ okop dsL_law_1669 6 = true) ∧ (decode dsL_law_1669 7 = .ok (.iadd, 1) ∧ okop dsL_law_1669 7 = true) ∧ (decode dsL_law_1669 8 = .ok (.iaload, 1) ∧ okop dsL_law_1669 8 = true) ∧ (decode dsL_law_1669 9 = .ok (.aload_n 0, 1) ∧ okop dsL_law_1669 9 = true) ∧ (decode dsL_law_1669 10 = .ok (.iload 5, 2) ∧ okop dsL_law_1669 10 = true) := by decide +kernel
theorem dL_law_1669 : decode cL_law 1669 = .ok (.iconst 2, 1) := dgq (p := 0) daL_law_1669 dbL_law_1669.1
theorem dL_law_1670 : decode cL_law 1670 = .ok (.iadd, 1) := dgq (p := 1) daL_law_1669 dbL_law_1669.2.1
theorem dL_law_1671 : decode cL_law 1671 = .ok (.iaload, 1) := dgq (p := 2) daL_law_1669 dbL_law_1669.2.2.1
theorem dL_law_1672 : decode cL_law 1672 = .ok (.aload_n 0, 1) := dgq (p := 3) daL_law_1669 dbL_law_1669.2.2.2.1
theorem dL_law_1673 : decode cL_law 1673 = .ok (.iload 5, 2) := dgq (p := 4) daL_law_1669 dbL_law_1669.2.2.2.2.1
theorem dL_law_1675 : decode cL_law 1675 = .ok (.iconst 3, 1) := dgq (p := 6) daL_law_1669 dbL_law_1669.2.2.2.2.2.1
theorem dL_law_1676 : decode cL_law 1676 = .ok (.iadd, 1) := dgq (p := 7) daL_law_1669 dbL_law_1669.2.2.2.2.2.2.1
theorem dL_law_1677 : decode cL_law 1677 = .ok (.iaload, 1) := dgq (p := 8) daL_law_1669 dbL_law_1669.2.2.2.2.2.2.2.1
theorem dL_law_1678 : decode cL_law 1678 = .ok (.aload_n 0, 1) := dgq (p := 9) daL_law_1669 dbL_law_1669.2.2.2.2.2.2.2.2.1
theorem dL_law_1679 : decode cL_law 1679 = .ok (.iload 5, 2) := dgq (p := 10) daL_law_1669 dbL_law_1669.2.2.2.2.2.2.2.2.2
def dsL_law_1681 : ByteArray := ⟨#[7, 96, 46, 45, 184, 1, 69, 54, 6, 44, 42, 21, 5, 4]⟩
theorem daL_law_1681 : agB cL_law dsL_law_1681 1681 := agB_of (n := 14) (by decide +kernel)
theorem dbL_law_1681 : (decode dsL_law_1681 0 = .ok (.iconst 4, 1) ∧ okop dsL_law_1681 0 = true) ∧ (decode dsL_law_1681 1 = .ok (.iadd, 1) ∧ okop dsL_law_1681 1 = true) ∧ (decode dsL_law_1681 2 = .ok (.iaload, 1) ∧ okop dsL_law_1681 2 = true) ∧ (decode dsL_law_1681 3 = .ok (.aload_n 3, 1) ∧ okop dsL_law_1681 3 = true) ∧ (decode dsL_law_1681 4 = .ok (.invokestatic 325, 3) ∧ okop dsL_law_1681 4 = true) ∧ (decode dsL_law_1681 7 = .ok (.istore 6, 2) ∧ okop dsL_law_1681 7 = true) ∧ (decode dsL_law_1681 9 = .ok (.aload_n 2, 1) ∧ okop dsL_law_1681 9 = true) ∧ (decode dsL_law_1681 10 = .ok (.aload_n 0, 1) ∧ okop dsL_law_1681 10 = true) ∧ (decode dsL_law_1681 11 = .ok (.iload 5, 2) ∧ okop dsL_law_1681 11 = true) ∧ (decode dsL_law_1681 13 = .ok (.iconst 1, 1) ∧ okop dsL_law_1681 13 = true) := by decide +kernel
theorem dL_law_1681 : decode cL_law 1681 = .ok (.iconst 4, 1) := dgq (p := 0) daL_law_1681 dbL_law_1681.1
theorem dL_law_1682 : decode cL_law 1682 = .ok (.iadd, 1) := dgq (p := 1) daL_law_1681 dbL_law_1681.2.1
theorem dL_law_1683 : decode cL_law 1683 = .ok (.iaload, 1) := dgq (p := 2) daL_law_1681 dbL_law_1681.2.2.1
theorem dL_law_1684 : decode cL_law 1684 = .ok (.aload_n 3, 1) := dgq (p := 3) daL_law_1681 dbL_law_1681.2.2.2.1
theorem dL_law_1685 : decode cL_law 1685 = .ok (.invokestatic 325, 3) := dgq (p := 4) daL_law_1681 dbL_law_1681.2.2.2.2.1
theorem dL_law_1688 : decode cL_law 1688 = .ok (.istore 6, 2) := dgq (p := 7) daL_law_1681 dbL_law_1681.2.2.2.2.2.1
theorem dL_law_1690 : decode cL_law 1690 = .ok (.aload_n 2, 1) := dgq (p := 9) daL_law_1681 dbL_law_1681.2.2.2.2.2.2.1
theorem dL_law_1691 : decode cL_law 1691 = .ok (.aload_n 0, 1) := dgq (p := 10) daL_law_1681 dbL_law_1681.2.2.2.2.2.2.2.1
theorem dL_law_1692 : decode cL_law 1692 = .ok (.iload 5, 2) := dgq (p := 11) daL_law_1681 dbL_law_1681.2.2.2.2.2.2.2.2.1
theorem dL_law_1694 : decode cL_law 1694 = .ok (.iconst 1, 1) := dgq (p := 13) daL_law_1681 dbL_law_1681.2.2.2.2.2.2.2.2.2
def dsL_law_1695 : ByteArray := ⟨#[96, 46, 42, 21, 5, 5, 96, 46, 42, 21, 5, 6]⟩
theorem daL_law_1695 : agB cL_law dsL_law_1695 1695 := agB_of (n := 12) (by decide +kernel)
theorem dbL_law_1695 : (decode dsL_law_1695 0 = .ok (.iadd, 1) ∧ okop dsL_law_1695 0 = true) ∧ (decode dsL_law_1695 1 = .ok (.iaload, 1) ∧ okop dsL_law_1695 1 = true) ∧ (decode dsL_law_1695 2 = .ok (.aload_n 0, 1) ∧ okop dsL_law_1695 2 = true) ∧ (decode dsL_law_1695 3 = .ok (.iload 5, 2) ∧ okop dsL_law_1695 3 = true) ∧ (decode dsL_law_1695 5 = .ok (.iconst 2, 1) ∧ okop dsL_law_1695 5 = true) ∧ (decode dsL_law_1695 6 = .ok (.iadd, 1) ∧ okop dsL_law_1695 6 = true) ∧ (decode dsL_law_1695 7 = .ok (.iaload, 1) ∧ okop dsL_law_1695 7 = true) ∧ (decode dsL_law_1695 8 = .ok (.aload_n 0, 1) ∧ okop dsL_law_1695 8 = true) ∧ (decode dsL_law_1695 9 = .ok (.iload 5, 2) ∧ okop dsL_law_1695 9 = true) ∧ (decode dsL_law_1695 11 = .ok (.iconst 3, 1) ∧ okop dsL_law_1695 11 = true) := by decide +kernel
theorem dL_law_1695 : decode cL_law 1695 = .ok (.iadd, 1) := dgq (p := 0) daL_law_1695 dbL_law_1695.1
theorem dL_law_1696 : decode cL_law 1696 = .ok (.iaload, 1) := dgq (p := 1) daL_law_1695 dbL_law_1695.2.1
theorem dL_law_1697 : decode cL_law 1697 = .ok (.aload_n 0, 1) := dgq (p := 2) daL_law_1695 dbL_law_1695.2.2.1
theorem dL_law_1698 : decode cL_law 1698 = .ok (.iload 5, 2) := dgq (p := 3) daL_law_1695 dbL_law_1695.2.2.2.1
theorem dL_law_1700 : decode cL_law 1700 = .ok (.iconst 2, 1) := dgq (p := 5) daL_law_1695 dbL_law_1695.2.2.2.2.1
theorem dL_law_1701 : decode cL_law 1701 = .ok (.iadd, 1) := dgq (p := 6) daL_law_1695 dbL_law_1695.2.2.2.2.2.1
theorem dL_law_1702 : decode cL_law 1702 = .ok (.iaload, 1) := dgq (p := 7) daL_law_1695 dbL_law_1695.2.2.2.2.2.2.1
theorem dL_law_1703 : decode cL_law 1703 = .ok (.aload_n 0, 1) := dgq (p := 8) daL_law_1695 dbL_law_1695.2.2.2.2.2.2.2.1
theorem dL_law_1704 : decode cL_law 1704 = .ok (.iload 5, 2) := dgq (p := 9) daL_law_1695 dbL_law_1695.2.2.2.2.2.2.2.2.1
theorem dL_law_1706 : decode cL_law 1706 = .ok (.iconst 3, 1) := dgq (p := 11) daL_law_1695 dbL_law_1695.2.2.2.2.2.2.2.2.2
def dsL_law_1707 : ByteArray := ⟨#[96, 46, 42, 21, 5, 7, 96, 46, 182, 1, 71, 54, 7, 167, 4, 179]⟩
theorem daL_law_1707 : agB cL_law dsL_law_1707 1707 := agB_of (n := 16) (by decide +kernel)
theorem dbL_law_1707 : (decode dsL_law_1707 0 = .ok (.iadd, 1) ∧ okop dsL_law_1707 0 = true) ∧ (decode dsL_law_1707 1 = .ok (.iaload, 1) ∧ okop dsL_law_1707 1 = true) ∧ (decode dsL_law_1707 2 = .ok (.aload_n 0, 1) ∧ okop dsL_law_1707 2 = true) ∧ (decode dsL_law_1707 3 = .ok (.iload 5, 2) ∧ okop dsL_law_1707 3 = true) ∧ (decode dsL_law_1707 5 = .ok (.iconst 4, 1) ∧ okop dsL_law_1707 5 = true) ∧ (decode dsL_law_1707 6 = .ok (.iadd, 1) ∧ okop dsL_law_1707 6 = true) ∧ (decode dsL_law_1707 7 = .ok (.iaload, 1) ∧ okop dsL_law_1707 7 = true) ∧ (decode dsL_law_1707 8 = .ok (.invokevirtual 327, 3) ∧ okop dsL_law_1707 8 = true) ∧ (decode dsL_law_1707 11 = .ok (.istore 7, 2) ∧ okop dsL_law_1707 11 = true) ∧ (decode dsL_law_1707 13 = .ok (.goto 1203, 3) ∧ okop dsL_law_1707 13 = true) := by decide +kernel
theorem dL_law_1707 : decode cL_law 1707 = .ok (.iadd, 1) := dgq (p := 0) daL_law_1707 dbL_law_1707.1
theorem dL_law_1708 : decode cL_law 1708 = .ok (.iaload, 1) := dgq (p := 1) daL_law_1707 dbL_law_1707.2.1
theorem dL_law_1709 : decode cL_law 1709 = .ok (.aload_n 0, 1) := dgq (p := 2) daL_law_1707 dbL_law_1707.2.2.1
theorem dL_law_1710 : decode cL_law 1710 = .ok (.iload 5, 2) := dgq (p := 3) daL_law_1707 dbL_law_1707.2.2.2.1
theorem dL_law_1712 : decode cL_law 1712 = .ok (.iconst 4, 1) := dgq (p := 5) daL_law_1707 dbL_law_1707.2.2.2.2.1
theorem dL_law_1713 : decode cL_law 1713 = .ok (.iadd, 1) := dgq (p := 6) daL_law_1707 dbL_law_1707.2.2.2.2.2.1
theorem dL_law_1714 : decode cL_law 1714 = .ok (.iaload, 1) := dgq (p := 7) daL_law_1707 dbL_law_1707.2.2.2.2.2.2.1
theorem dL_law_1715 : decode cL_law 1715 = .ok (.invokevirtual 327, 3) := dgq (p := 8) daL_law_1707 dbL_law_1707.2.2.2.2.2.2.2.1
theorem dL_law_1718 : decode cL_law 1718 = .ok (.istore 7, 2) := dgq (p := 11) daL_law_1707 dbL_law_1707.2.2.2.2.2.2.2.2.1
theorem dL_law_1720 : decode cL_law 1720 = .ok (.goto 1203, 3) := dgq (p := 13) daL_law_1707 dbL_law_1707.2.2.2.2.2.2.2.2.2
def dsL_law_1723 : ByteArray := ⟨#[43, 42, 21, 5, 4, 96, 46, 42, 21, 5, 5, 96]⟩
theorem daL_law_1723 : agB cL_law dsL_law_1723 1723 := agB_of (n := 12) (by decide +kernel)
theorem dbL_law_1723 : (decode dsL_law_1723 0 = .ok (.aload_n 1, 1) ∧ okop dsL_law_1723 0 = true) ∧ (decode dsL_law_1723 1 = .ok (.aload_n 0, 1) ∧ okop dsL_law_1723 1 = true) ∧ (decode dsL_law_1723 2 = .ok (.iload 5, 2) ∧ okop dsL_law_1723 2 = true) ∧ (decode dsL_law_1723 4 = .ok (.iconst 1, 1) ∧ okop dsL_law_1723 4 = true) ∧ (decode dsL_law_1723 5 = .ok (.iadd, 1) ∧ okop dsL_law_1723 5 = true) ∧ (decode dsL_law_1723 6 = .ok (.iaload, 1) ∧ okop dsL_law_1723 6 = true) ∧ (decode dsL_law_1723 7 = .ok (.aload_n 0, 1) ∧ okop dsL_law_1723 7 = true) ∧ (decode dsL_law_1723 8 = .ok (.iload 5, 2) ∧ okop dsL_law_1723 8 = true) ∧ (decode dsL_law_1723 10 = .ok (.iconst 2, 1) ∧ okop dsL_law_1723 10 = true) ∧ (decode dsL_law_1723 11 = .ok (.iadd, 1) ∧ okop dsL_law_1723 11 = true) := by decide +kernel
theorem dL_law_1723 : decode cL_law 1723 = .ok (.aload_n 1, 1) := dgq (p := 0) daL_law_1723 dbL_law_1723.1
theorem dL_law_1724 : decode cL_law 1724 = .ok (.aload_n 0, 1) := dgq (p := 1) daL_law_1723 dbL_law_1723.2.1
theorem dL_law_1725 : decode cL_law 1725 = .ok (.iload 5, 2) := dgq (p := 2) daL_law_1723 dbL_law_1723.2.2.1
theorem dL_law_1727 : decode cL_law 1727 = .ok (.iconst 1, 1) := dgq (p := 4) daL_law_1723 dbL_law_1723.2.2.2.1
theorem dL_law_1728 : decode cL_law 1728 = .ok (.iadd, 1) := dgq (p := 5) daL_law_1723 dbL_law_1723.2.2.2.2.1
theorem dL_law_1729 : decode cL_law 1729 = .ok (.iaload, 1) := dgq (p := 6) daL_law_1723 dbL_law_1723.2.2.2.2.2.1
theorem dL_law_1730 : decode cL_law 1730 = .ok (.aload_n 0, 1) := dgq (p := 7) daL_law_1723 dbL_law_1723.2.2.2.2.2.2.1
theorem dL_law_1731 : decode cL_law 1731 = .ok (.iload 5, 2) := dgq (p := 8) daL_law_1723 dbL_law_1723.2.2.2.2.2.2.2.1
theorem dL_law_1733 : decode cL_law 1733 = .ok (.iconst 2, 1) := dgq (p := 10) daL_law_1723 dbL_law_1723.2.2.2.2.2.2.2.2.1
theorem dL_law_1734 : decode cL_law 1734 = .ok (.iadd, 1) := dgq (p := 11) daL_law_1723 dbL_law_1723.2.2.2.2.2.2.2.2.2
def dsL_law_1735 : ByteArray := ⟨#[46, 42, 21, 5, 6, 96, 46, 45, 184, 1, 72, 54, 6, 44]⟩
theorem daL_law_1735 : agB cL_law dsL_law_1735 1735 := agB_of (n := 14) (by decide +kernel)
theorem dbL_law_1735 : (decode dsL_law_1735 0 = .ok (.iaload, 1) ∧ okop dsL_law_1735 0 = true) ∧ (decode dsL_law_1735 1 = .ok (.aload_n 0, 1) ∧ okop dsL_law_1735 1 = true) ∧ (decode dsL_law_1735 2 = .ok (.iload 5, 2) ∧ okop dsL_law_1735 2 = true) ∧ (decode dsL_law_1735 4 = .ok (.iconst 3, 1) ∧ okop dsL_law_1735 4 = true) ∧ (decode dsL_law_1735 5 = .ok (.iadd, 1) ∧ okop dsL_law_1735 5 = true) ∧ (decode dsL_law_1735 6 = .ok (.iaload, 1) ∧ okop dsL_law_1735 6 = true) ∧ (decode dsL_law_1735 7 = .ok (.aload_n 3, 1) ∧ okop dsL_law_1735 7 = true) ∧ (decode dsL_law_1735 8 = .ok (.invokestatic 328, 3) ∧ okop dsL_law_1735 8 = true) ∧ (decode dsL_law_1735 11 = .ok (.istore 6, 2) ∧ okop dsL_law_1735 11 = true) ∧ (decode dsL_law_1735 13 = .ok (.aload_n 2, 1) ∧ okop dsL_law_1735 13 = true) := by decide +kernel
theorem dL_law_1735 : decode cL_law 1735 = .ok (.iaload, 1) := dgq (p := 0) daL_law_1735 dbL_law_1735.1
theorem dL_law_1736 : decode cL_law 1736 = .ok (.aload_n 0, 1) := dgq (p := 1) daL_law_1735 dbL_law_1735.2.1
theorem dL_law_1737 : decode cL_law 1737 = .ok (.iload 5, 2) := dgq (p := 2) daL_law_1735 dbL_law_1735.2.2.1
theorem dL_law_1739 : decode cL_law 1739 = .ok (.iconst 3, 1) := dgq (p := 4) daL_law_1735 dbL_law_1735.2.2.2.1
theorem dL_law_1740 : decode cL_law 1740 = .ok (.iadd, 1) := dgq (p := 5) daL_law_1735 dbL_law_1735.2.2.2.2.1
theorem dL_law_1741 : decode cL_law 1741 = .ok (.iaload, 1) := dgq (p := 6) daL_law_1735 dbL_law_1735.2.2.2.2.2.1
theorem dL_law_1742 : decode cL_law 1742 = .ok (.aload_n 3, 1) := dgq (p := 7) daL_law_1735 dbL_law_1735.2.2.2.2.2.2.1
theorem dL_law_1743 : decode cL_law 1743 = .ok (.invokestatic 328, 3) := dgq (p := 8) daL_law_1735 dbL_law_1735.2.2.2.2.2.2.2.1
theorem dL_law_1746 : decode cL_law 1746 = .ok (.istore 6, 2) := dgq (p := 11) daL_law_1735 dbL_law_1735.2.2.2.2.2.2.2.2.1
theorem dL_law_1748 : decode cL_law 1748 = .ok (.aload_n 2, 1) := dgq (p := 13) daL_law_1735 dbL_law_1735.2.2.2.2.2.2.2.2.2
def dsL_law_1749 : ByteArray := ⟨#[42, 21, 5, 4, 96, 46, 42, 21, 5, 5, 96, 46]⟩
theorem daL_law_1749 : agB cL_law dsL_law_1749 1749 := agB_of (n := 12) (by decide +kernel)
theorem dbL_law_1749 : (decode dsL_law_1749 0 = .ok (.aload_n 0, 1) ∧ okop dsL_law_1749 0 = true) ∧ (decode dsL_law_1749 1 = .ok (.iload 5, 2) ∧ okop dsL_law_1749 1 = true) ∧ (decode dsL_law_1749 3 = .ok (.iconst 1, 1) ∧ okop dsL_law_1749 3 = true) ∧ (decode dsL_law_1749 4 = .ok (.iadd, 1) ∧ okop dsL_law_1749 4 = true) ∧ (decode dsL_law_1749 5 = .ok (.iaload, 1) ∧ okop dsL_law_1749 5 = true) ∧ (decode dsL_law_1749 6 = .ok (.aload_n 0, 1) ∧ okop dsL_law_1749 6 = true) ∧ (decode dsL_law_1749 7 = .ok (.iload 5, 2) ∧ okop dsL_law_1749 7 = true) ∧ (decode dsL_law_1749 9 = .ok (.iconst 2, 1) ∧ okop dsL_law_1749 9 = true) ∧ (decode dsL_law_1749 10 = .ok (.iadd, 1) ∧ okop dsL_law_1749 10 = true) ∧ (decode dsL_law_1749 11 = .ok (.iaload, 1) ∧ okop dsL_law_1749 11 = true) := by decide +kernel
theorem dL_law_1749 : decode cL_law 1749 = .ok (.aload_n 0, 1) := dgq (p := 0) daL_law_1749 dbL_law_1749.1
theorem dL_law_1750 : decode cL_law 1750 = .ok (.iload 5, 2) := dgq (p := 1) daL_law_1749 dbL_law_1749.2.1
theorem dL_law_1752 : decode cL_law 1752 = .ok (.iconst 1, 1) := dgq (p := 3) daL_law_1749 dbL_law_1749.2.2.1
theorem dL_law_1753 : decode cL_law 1753 = .ok (.iadd, 1) := dgq (p := 4) daL_law_1749 dbL_law_1749.2.2.2.1
theorem dL_law_1754 : decode cL_law 1754 = .ok (.iaload, 1) := dgq (p := 5) daL_law_1749 dbL_law_1749.2.2.2.2.1
theorem dL_law_1755 : decode cL_law 1755 = .ok (.aload_n 0, 1) := dgq (p := 6) daL_law_1749 dbL_law_1749.2.2.2.2.2.1
theorem dL_law_1756 : decode cL_law 1756 = .ok (.iload 5, 2) := dgq (p := 7) daL_law_1749 dbL_law_1749.2.2.2.2.2.2.1
theorem dL_law_1758 : decode cL_law 1758 = .ok (.iconst 2, 1) := dgq (p := 9) daL_law_1749 dbL_law_1749.2.2.2.2.2.2.2.1
theorem dL_law_1759 : decode cL_law 1759 = .ok (.iadd, 1) := dgq (p := 10) daL_law_1749 dbL_law_1749.2.2.2.2.2.2.2.2.1
theorem dL_law_1760 : decode cL_law 1760 = .ok (.iaload, 1) := dgq (p := 11) daL_law_1749 dbL_law_1749.2.2.2.2.2.2.2.2.2
def dsL_law_1761 : ByteArray := ⟨#[42, 21, 5, 6, 96, 46, 182, 1, 74, 54, 7, 167, 4, 127, 43, 42]⟩
theorem daL_law_1761 : agB cL_law dsL_law_1761 1761 := agB_of (n := 16) (by decide +kernel)
theorem dbL_law_1761 : (decode dsL_law_1761 0 = .ok (.aload_n 0, 1) ∧ okop dsL_law_1761 0 = true) ∧ (decode dsL_law_1761 1 = .ok (.iload 5, 2) ∧ okop dsL_law_1761 1 = true) ∧ (decode dsL_law_1761 3 = .ok (.iconst 3, 1) ∧ okop dsL_law_1761 3 = true) ∧ (decode dsL_law_1761 4 = .ok (.iadd, 1) ∧ okop dsL_law_1761 4 = true) ∧ (decode dsL_law_1761 5 = .ok (.iaload, 1) ∧ okop dsL_law_1761 5 = true) ∧ (decode dsL_law_1761 6 = .ok (.invokevirtual 330, 3) ∧ okop dsL_law_1761 6 = true) ∧ (decode dsL_law_1761 9 = .ok (.istore 7, 2) ∧ okop dsL_law_1761 9 = true) ∧ (decode dsL_law_1761 11 = .ok (.goto 1151, 3) ∧ okop dsL_law_1761 11 = true) ∧ (decode dsL_law_1761 14 = .ok (.aload_n 1, 1) ∧ okop dsL_law_1761 14 = true) ∧ (decode dsL_law_1761 15 = .ok (.aload_n 0, 1) ∧ okop dsL_law_1761 15 = true) := by decide +kernel
theorem dL_law_1761 : decode cL_law 1761 = .ok (.aload_n 0, 1) := dgq (p := 0) daL_law_1761 dbL_law_1761.1
theorem dL_law_1762 : decode cL_law 1762 = .ok (.iload 5, 2) := dgq (p := 1) daL_law_1761 dbL_law_1761.2.1
theorem dL_law_1764 : decode cL_law 1764 = .ok (.iconst 3, 1) := dgq (p := 3) daL_law_1761 dbL_law_1761.2.2.1
theorem dL_law_1765 : decode cL_law 1765 = .ok (.iadd, 1) := dgq (p := 4) daL_law_1761 dbL_law_1761.2.2.2.1
theorem dL_law_1766 : decode cL_law 1766 = .ok (.iaload, 1) := dgq (p := 5) daL_law_1761 dbL_law_1761.2.2.2.2.1
theorem dL_law_1767 : decode cL_law 1767 = .ok (.invokevirtual 330, 3) := dgq (p := 6) daL_law_1761 dbL_law_1761.2.2.2.2.2.1
theorem dL_law_1770 : decode cL_law 1770 = .ok (.istore 7, 2) := dgq (p := 9) daL_law_1761 dbL_law_1761.2.2.2.2.2.2.1
theorem dL_law_1772 : decode cL_law 1772 = .ok (.goto 1151, 3) := dgq (p := 11) daL_law_1761 dbL_law_1761.2.2.2.2.2.2.2.1
theorem dL_law_1775 : decode cL_law 1775 = .ok (.aload_n 1, 1) := dgq (p := 14) daL_law_1761 dbL_law_1761.2.2.2.2.2.2.2.2.1
theorem dL_law_1776 : decode cL_law 1776 = .ok (.aload_n 0, 1) := dgq (p := 15) daL_law_1761 dbL_law_1761.2.2.2.2.2.2.2.2.2
def dsL_law_1777 : ByteArray := ⟨#[21, 5, 4, 96, 46, 42, 21, 5, 5, 96, 46, 42]⟩
theorem daL_law_1777 : agB cL_law dsL_law_1777 1777 := agB_of (n := 12) (by decide +kernel)
theorem dbL_law_1777 : (decode dsL_law_1777 0 = .ok (.iload 5, 2) ∧ okop dsL_law_1777 0 = true) ∧ (decode dsL_law_1777 2 = .ok (.iconst 1, 1) ∧ okop dsL_law_1777 2 = true) ∧ (decode dsL_law_1777 3 = .ok (.iadd, 1) ∧ okop dsL_law_1777 3 = true) ∧ (decode dsL_law_1777 4 = .ok (.iaload, 1) ∧ okop dsL_law_1777 4 = true) ∧ (decode dsL_law_1777 5 = .ok (.aload_n 0, 1) ∧ okop dsL_law_1777 5 = true) ∧ (decode dsL_law_1777 6 = .ok (.iload 5, 2) ∧ okop dsL_law_1777 6 = true) ∧ (decode dsL_law_1777 8 = .ok (.iconst 2, 1) ∧ okop dsL_law_1777 8 = true) ∧ (decode dsL_law_1777 9 = .ok (.iadd, 1) ∧ okop dsL_law_1777 9 = true) ∧ (decode dsL_law_1777 10 = .ok (.iaload, 1) ∧ okop dsL_law_1777 10 = true) ∧ (decode dsL_law_1777 11 = .ok (.aload_n 0, 1) ∧ okop dsL_law_1777 11 = true) := by decide +kernel
theorem dL_law_1777 : decode cL_law 1777 = .ok (.iload 5, 2) := dgq (p := 0) daL_law_1777 dbL_law_1777.1
theorem dL_law_1779 : decode cL_law 1779 = .ok (.iconst 1, 1) := dgq (p := 2) daL_law_1777 dbL_law_1777.2.1
theorem dL_law_1780 : decode cL_law 1780 = .ok (.iadd, 1) := dgq (p := 3) daL_law_1777 dbL_law_1777.2.2.1
theorem dL_law_1781 : decode cL_law 1781 = .ok (.iaload, 1) := dgq (p := 4) daL_law_1777 dbL_law_1777.2.2.2.1
theorem dL_law_1782 : decode cL_law 1782 = .ok (.aload_n 0, 1) := dgq (p := 5) daL_law_1777 dbL_law_1777.2.2.2.2.1
theorem dL_law_1783 : decode cL_law 1783 = .ok (.iload 5, 2) := dgq (p := 6) daL_law_1777 dbL_law_1777.2.2.2.2.2.1
theorem dL_law_1785 : decode cL_law 1785 = .ok (.iconst 2, 1) := dgq (p := 8) daL_law_1777 dbL_law_1777.2.2.2.2.2.2.1
theorem dL_law_1786 : decode cL_law 1786 = .ok (.iadd, 1) := dgq (p := 9) daL_law_1777 dbL_law_1777.2.2.2.2.2.2.2.1
theorem dL_law_1787 : decode cL_law 1787 = .ok (.iaload, 1) := dgq (p := 10) daL_law_1777 dbL_law_1777.2.2.2.2.2.2.2.2.1
theorem dL_law_1788 : decode cL_law 1788 = .ok (.aload_n 0, 1) := dgq (p := 11) daL_law_1777 dbL_law_1777.2.2.2.2.2.2.2.2.2
def dsL_law_1789 : ByteArray := ⟨#[21, 5, 6, 96, 46, 153, 0, 7, 4, 167, 0, 4, 3, 45, 184, 1, 75]⟩
theorem daL_law_1789 : agB cL_law dsL_law_1789 1789 := agB_of (n := 17) (by decide +kernel)
theorem dbL_law_1789 : (decode dsL_law_1789 0 = .ok (.iload 5, 2) ∧ okop dsL_law_1789 0 = true) ∧ (decode dsL_law_1789 2 = .ok (.iconst 3, 1) ∧ okop dsL_law_1789 2 = true) ∧ (decode dsL_law_1789 3 = .ok (.iadd, 1) ∧ okop dsL_law_1789 3 = true) ∧ (decode dsL_law_1789 4 = .ok (.iaload, 1) ∧ okop dsL_law_1789 4 = true) ∧ (decode dsL_law_1789 5 = .ok (.ifCond .eq 7, 3) ∧ okop dsL_law_1789 5 = true) ∧ (decode dsL_law_1789 8 = .ok (.iconst 1, 1) ∧ okop dsL_law_1789 8 = true) ∧ (decode dsL_law_1789 9 = .ok (.goto 4, 3) ∧ okop dsL_law_1789 9 = true) ∧ (decode dsL_law_1789 12 = .ok (.iconst 0, 1) ∧ okop dsL_law_1789 12 = true) ∧ (decode dsL_law_1789 13 = .ok (.aload_n 3, 1) ∧ okop dsL_law_1789 13 = true) ∧ (decode dsL_law_1789 14 = .ok (.invokestatic 331, 3) ∧ okop dsL_law_1789 14 = true) := by decide +kernel
theorem dL_law_1789 : decode cL_law 1789 = .ok (.iload 5, 2) := dgq (p := 0) daL_law_1789 dbL_law_1789.1
theorem dL_law_1791 : decode cL_law 1791 = .ok (.iconst 3, 1) := dgq (p := 2) daL_law_1789 dbL_law_1789.2.1
theorem dL_law_1792 : decode cL_law 1792 = .ok (.iadd, 1) := dgq (p := 3) daL_law_1789 dbL_law_1789.2.2.1
theorem dL_law_1793 : decode cL_law 1793 = .ok (.iaload, 1) := dgq (p := 4) daL_law_1789 dbL_law_1789.2.2.2.1
theorem dL_law_1794 : decode cL_law 1794 = .ok (.ifCond .eq 7, 3) := dgq (p := 5) daL_law_1789 dbL_law_1789.2.2.2.2.1
theorem dL_law_1797 : decode cL_law 1797 = .ok (.iconst 1, 1) := dgq (p := 8) daL_law_1789 dbL_law_1789.2.2.2.2.2.1
theorem dL_law_1798 : decode cL_law 1798 = .ok (.goto 4, 3) := dgq (p := 9) daL_law_1789 dbL_law_1789.2.2.2.2.2.2.1
theorem dL_law_1801 : decode cL_law 1801 = .ok (.iconst 0, 1) := dgq (p := 12) daL_law_1789 dbL_law_1789.2.2.2.2.2.2.2.1
theorem dL_law_1802 : decode cL_law 1802 = .ok (.aload_n 3, 1) := dgq (p := 13) daL_law_1789 dbL_law_1789.2.2.2.2.2.2.2.2.1
theorem dL_law_1803 : decode cL_law 1803 = .ok (.invokestatic 331, 3) := dgq (p := 14) daL_law_1789 dbL_law_1789.2.2.2.2.2.2.2.2.2
def dsL_law_1806 : ByteArray := ⟨#[54, 6, 44, 42, 21, 5, 4, 96, 46, 42, 21, 5, 5]⟩
theorem daL_law_1806 : agB cL_law dsL_law_1806 1806 := agB_of (n := 13) (by decide +kernel)
theorem dbL_law_1806 : (decode dsL_law_1806 0 = .ok (.istore 6, 2) ∧ okop dsL_law_1806 0 = true) ∧ (decode dsL_law_1806 2 = .ok (.aload_n 2, 1) ∧ okop dsL_law_1806 2 = true) ∧ (decode dsL_law_1806 3 = .ok (.aload_n 0, 1) ∧ okop dsL_law_1806 3 = true) ∧ (decode dsL_law_1806 4 = .ok (.iload 5, 2) ∧ okop dsL_law_1806 4 = true) ∧ (decode dsL_law_1806 6 = .ok (.iconst 1, 1) ∧ okop dsL_law_1806 6 = true) ∧ (decode dsL_law_1806 7 = .ok (.iadd, 1) ∧ okop dsL_law_1806 7 = true) ∧ (decode dsL_law_1806 8 = .ok (.iaload, 1) ∧ okop dsL_law_1806 8 = true) ∧ (decode dsL_law_1806 9 = .ok (.aload_n 0, 1) ∧ okop dsL_law_1806 9 = true) ∧ (decode dsL_law_1806 10 = .ok (.iload 5, 2) ∧ okop dsL_law_1806 10 = true) ∧ (decode dsL_law_1806 12 = .ok (.iconst 2, 1) ∧ okop dsL_law_1806 12 = true) := by decide +kernel
theorem dL_law_1806 : decode cL_law 1806 = .ok (.istore 6, 2) := dgq (p := 0) daL_law_1806 dbL_law_1806.1
theorem dL_law_1808 : decode cL_law 1808 = .ok (.aload_n 2, 1) := dgq (p := 2) daL_law_1806 dbL_law_1806.2.1
theorem dL_law_1809 : decode cL_law 1809 = .ok (.aload_n 0, 1) := dgq (p := 3) daL_law_1806 dbL_law_1806.2.2.1
theorem dL_law_1810 : decode cL_law 1810 = .ok (.iload 5, 2) := dgq (p := 4) daL_law_1806 dbL_law_1806.2.2.2.1
theorem dL_law_1812 : decode cL_law 1812 = .ok (.iconst 1, 1) := dgq (p := 6) daL_law_1806 dbL_law_1806.2.2.2.2.1
theorem dL_law_1813 : decode cL_law 1813 = .ok (.iadd, 1) := dgq (p := 7) daL_law_1806 dbL_law_1806.2.2.2.2.2.1
theorem dL_law_1814 : decode cL_law 1814 = .ok (.iaload, 1) := dgq (p := 8) daL_law_1806 dbL_law_1806.2.2.2.2.2.2.1
theorem dL_law_1815 : decode cL_law 1815 = .ok (.aload_n 0, 1) := dgq (p := 9) daL_law_1806 dbL_law_1806.2.2.2.2.2.2.2.1
theorem dL_law_1816 : decode cL_law 1816 = .ok (.iload 5, 2) := dgq (p := 10) daL_law_1806 dbL_law_1806.2.2.2.2.2.2.2.2.1
theorem dL_law_1818 : decode cL_law 1818 = .ok (.iconst 2, 1) := dgq (p := 12) daL_law_1806 dbL_law_1806.2.2.2.2.2.2.2.2.2
def dsL_law_1819 : ByteArray := ⟨#[96, 46, 42, 21, 5, 6, 96, 46, 153, 0, 7, 4, 167, 0, 4]⟩
theorem daL_law_1819 : agB cL_law dsL_law_1819 1819 := agB_of (n := 15) (by decide +kernel)
theorem dbL_law_1819 : (decode dsL_law_1819 0 = .ok (.iadd, 1) ∧ okop dsL_law_1819 0 = true) ∧ (decode dsL_law_1819 1 = .ok (.iaload, 1) ∧ okop dsL_law_1819 1 = true) ∧ (decode dsL_law_1819 2 = .ok (.aload_n 0, 1) ∧ okop dsL_law_1819 2 = true) ∧ (decode dsL_law_1819 3 = .ok (.iload 5, 2) ∧ okop dsL_law_1819 3 = true) ∧ (decode dsL_law_1819 5 = .ok (.iconst 3, 1) ∧ okop dsL_law_1819 5 = true) ∧ (decode dsL_law_1819 6 = .ok (.iadd, 1) ∧ okop dsL_law_1819 6 = true) ∧ (decode dsL_law_1819 7 = .ok (.iaload, 1) ∧ okop dsL_law_1819 7 = true) ∧ (decode dsL_law_1819 8 = .ok (.ifCond .eq 7, 3) ∧ okop dsL_law_1819 8 = true) ∧ (decode dsL_law_1819 11 = .ok (.iconst 1, 1) ∧ okop dsL_law_1819 11 = true) ∧ (decode dsL_law_1819 12 = .ok (.goto 4, 3) ∧ okop dsL_law_1819 12 = true) := by decide +kernel
theorem dL_law_1819 : decode cL_law 1819 = .ok (.iadd, 1) := dgq (p := 0) daL_law_1819 dbL_law_1819.1
theorem dL_law_1820 : decode cL_law 1820 = .ok (.iaload, 1) := dgq (p := 1) daL_law_1819 dbL_law_1819.2.1
theorem dL_law_1821 : decode cL_law 1821 = .ok (.aload_n 0, 1) := dgq (p := 2) daL_law_1819 dbL_law_1819.2.2.1
theorem dL_law_1822 : decode cL_law 1822 = .ok (.iload 5, 2) := dgq (p := 3) daL_law_1819 dbL_law_1819.2.2.2.1
theorem dL_law_1824 : decode cL_law 1824 = .ok (.iconst 3, 1) := dgq (p := 5) daL_law_1819 dbL_law_1819.2.2.2.2.1
theorem dL_law_1825 : decode cL_law 1825 = .ok (.iadd, 1) := dgq (p := 6) daL_law_1819 dbL_law_1819.2.2.2.2.2.1
theorem dL_law_1826 : decode cL_law 1826 = .ok (.iaload, 1) := dgq (p := 7) daL_law_1819 dbL_law_1819.2.2.2.2.2.2.1
theorem dL_law_1827 : decode cL_law 1827 = .ok (.ifCond .eq 7, 3) := dgq (p := 8) daL_law_1819 dbL_law_1819.2.2.2.2.2.2.2.1
theorem dL_law_1830 : decode cL_law 1830 = .ok (.iconst 1, 1) := dgq (p := 11) daL_law_1819 dbL_law_1819.2.2.2.2.2.2.2.2.1
theorem dL_law_1831 : decode cL_law 1831 = .ok (.goto 4, 3) := dgq (p := 12) daL_law_1819 dbL_law_1819.2.2.2.2.2.2.2.2.2
def dsL_law_1834 : ByteArray := ⟨#[3, 182, 1, 78, 54, 7, 167, 4, 59, 43, 42, 21, 5, 4, 96, 46]⟩
theorem daL_law_1834 : agB cL_law dsL_law_1834 1834 := agB_of (n := 16) (by decide +kernel)
theorem dbL_law_1834 : (decode dsL_law_1834 0 = .ok (.iconst 0, 1) ∧ okop dsL_law_1834 0 = true) ∧ (decode dsL_law_1834 1 = .ok (.invokevirtual 334, 3) ∧ okop dsL_law_1834 1 = true) ∧ (decode dsL_law_1834 4 = .ok (.istore 7, 2) ∧ okop dsL_law_1834 4 = true) ∧ (decode dsL_law_1834 6 = .ok (.goto 1083, 3) ∧ okop dsL_law_1834 6 = true) ∧ (decode dsL_law_1834 9 = .ok (.aload_n 1, 1) ∧ okop dsL_law_1834 9 = true) ∧ (decode dsL_law_1834 10 = .ok (.aload_n 0, 1) ∧ okop dsL_law_1834 10 = true) ∧ (decode dsL_law_1834 11 = .ok (.iload 5, 2) ∧ okop dsL_law_1834 11 = true) ∧ (decode dsL_law_1834 13 = .ok (.iconst 1, 1) ∧ okop dsL_law_1834 13 = true) ∧ (decode dsL_law_1834 14 = .ok (.iadd, 1) ∧ okop dsL_law_1834 14 = true) ∧ (decode dsL_law_1834 15 = .ok (.iaload, 1) ∧ okop dsL_law_1834 15 = true) := by decide +kernel
theorem dL_law_1834 : decode cL_law 1834 = .ok (.iconst 0, 1) := dgq (p := 0) daL_law_1834 dbL_law_1834.1
theorem dL_law_1835 : decode cL_law 1835 = .ok (.invokevirtual 334, 3) := dgq (p := 1) daL_law_1834 dbL_law_1834.2.1
theorem dL_law_1838 : decode cL_law 1838 = .ok (.istore 7, 2) := dgq (p := 4) daL_law_1834 dbL_law_1834.2.2.1
theorem dL_law_1840 : decode cL_law 1840 = .ok (.goto 1083, 3) := dgq (p := 6) daL_law_1834 dbL_law_1834.2.2.2.1
theorem dL_law_1843 : decode cL_law 1843 = .ok (.aload_n 1, 1) := dgq (p := 9) daL_law_1834 dbL_law_1834.2.2.2.2.1
theorem dL_law_1844 : decode cL_law 1844 = .ok (.aload_n 0, 1) := dgq (p := 10) daL_law_1834 dbL_law_1834.2.2.2.2.2.1
theorem dL_law_1845 : decode cL_law 1845 = .ok (.iload 5, 2) := dgq (p := 11) daL_law_1834 dbL_law_1834.2.2.2.2.2.2.1
theorem dL_law_1847 : decode cL_law 1847 = .ok (.iconst 1, 1) := dgq (p := 13) daL_law_1834 dbL_law_1834.2.2.2.2.2.2.2.1
theorem dL_law_1848 : decode cL_law 1848 = .ok (.iadd, 1) := dgq (p := 14) daL_law_1834 dbL_law_1834.2.2.2.2.2.2.2.2.1
theorem dL_law_1849 : decode cL_law 1849 = .ok (.iaload, 1) := dgq (p := 15) daL_law_1834 dbL_law_1834.2.2.2.2.2.2.2.2.2
def dsL_law_1850 : ByteArray := ⟨#[45, 184, 1, 79, 54, 6, 44, 42, 21, 5, 4, 96, 46, 182, 1, 81]⟩
theorem daL_law_1850 : agB cL_law dsL_law_1850 1850 := agB_of (n := 16) (by decide +kernel)
theorem dbL_law_1850 : (decode dsL_law_1850 0 = .ok (.aload_n 3, 1) ∧ okop dsL_law_1850 0 = true) ∧ (decode dsL_law_1850 1 = .ok (.invokestatic 335, 3) ∧ okop dsL_law_1850 1 = true) ∧ (decode dsL_law_1850 4 = .ok (.istore 6, 2) ∧ okop dsL_law_1850 4 = true) ∧ (decode dsL_law_1850 6 = .ok (.aload_n 2, 1) ∧ okop dsL_law_1850 6 = true) ∧ (decode dsL_law_1850 7 = .ok (.aload_n 0, 1) ∧ okop dsL_law_1850 7 = true) ∧ (decode dsL_law_1850 8 = .ok (.iload 5, 2) ∧ okop dsL_law_1850 8 = true) ∧ (decode dsL_law_1850 10 = .ok (.iconst 1, 1) ∧ okop dsL_law_1850 10 = true) ∧ (decode dsL_law_1850 11 = .ok (.iadd, 1) ∧ okop dsL_law_1850 11 = true) ∧ (decode dsL_law_1850 12 = .ok (.iaload, 1) ∧ okop dsL_law_1850 12 = true) ∧ (decode dsL_law_1850 13 = .ok (.invokevirtual 337, 3) ∧ okop dsL_law_1850 13 = true) := by decide +kernel
theorem dL_law_1850 : decode cL_law 1850 = .ok (.aload_n 3, 1) := dgq (p := 0) daL_law_1850 dbL_law_1850.1
theorem dL_law_1851 : decode cL_law 1851 = .ok (.invokestatic 335, 3) := dgq (p := 1) daL_law_1850 dbL_law_1850.2.1
theorem dL_law_1854 : decode cL_law 1854 = .ok (.istore 6, 2) := dgq (p := 4) daL_law_1850 dbL_law_1850.2.2.1
theorem dL_law_1856 : decode cL_law 1856 = .ok (.aload_n 2, 1) := dgq (p := 6) daL_law_1850 dbL_law_1850.2.2.2.1
theorem dL_law_1857 : decode cL_law 1857 = .ok (.aload_n 0, 1) := dgq (p := 7) daL_law_1850 dbL_law_1850.2.2.2.2.1
theorem dL_law_1858 : decode cL_law 1858 = .ok (.iload 5, 2) := dgq (p := 8) daL_law_1850 dbL_law_1850.2.2.2.2.2.1
theorem dL_law_1860 : decode cL_law 1860 = .ok (.iconst 1, 1) := dgq (p := 10) daL_law_1850 dbL_law_1850.2.2.2.2.2.2.1
theorem dL_law_1861 : decode cL_law 1861 = .ok (.iadd, 1) := dgq (p := 11) daL_law_1850 dbL_law_1850.2.2.2.2.2.2.2.1
theorem dL_law_1862 : decode cL_law 1862 = .ok (.iaload, 1) := dgq (p := 12) daL_law_1850 dbL_law_1850.2.2.2.2.2.2.2.2.1
theorem dL_law_1863 : decode cL_law 1863 = .ok (.invokevirtual 337, 3) := dgq (p := 13) daL_law_1850 dbL_law_1850.2.2.2.2.2.2.2.2.2
def dsL_law_1866 : ByteArray := ⟨#[54, 7, 167, 4, 31, 43, 42, 21, 5, 4, 96, 46, 45, 184, 1, 82]⟩
theorem daL_law_1866 : agB cL_law dsL_law_1866 1866 := agB_of (n := 16) (by decide +kernel)
theorem dbL_law_1866 : (decode dsL_law_1866 0 = .ok (.istore 7, 2) ∧ okop dsL_law_1866 0 = true) ∧ (decode dsL_law_1866 2 = .ok (.goto 1055, 3) ∧ okop dsL_law_1866 2 = true) ∧ (decode dsL_law_1866 5 = .ok (.aload_n 1, 1) ∧ okop dsL_law_1866 5 = true) ∧ (decode dsL_law_1866 6 = .ok (.aload_n 0, 1) ∧ okop dsL_law_1866 6 = true) ∧ (decode dsL_law_1866 7 = .ok (.iload 5, 2) ∧ okop dsL_law_1866 7 = true) ∧ (decode dsL_law_1866 9 = .ok (.iconst 1, 1) ∧ okop dsL_law_1866 9 = true) ∧ (decode dsL_law_1866 10 = .ok (.iadd, 1) ∧ okop dsL_law_1866 10 = true) ∧ (decode dsL_law_1866 11 = .ok (.iaload, 1) ∧ okop dsL_law_1866 11 = true) ∧ (decode dsL_law_1866 12 = .ok (.aload_n 3, 1) ∧ okop dsL_law_1866 12 = true) ∧ (decode dsL_law_1866 13 = .ok (.invokestatic 338, 3) ∧ okop dsL_law_1866 13 = true) := by decide +kernel
theorem dL_law_1866 : decode cL_law 1866 = .ok (.istore 7, 2) := dgq (p := 0) daL_law_1866 dbL_law_1866.1
theorem dL_law_1868 : decode cL_law 1868 = .ok (.goto 1055, 3) := dgq (p := 2) daL_law_1866 dbL_law_1866.2.1
theorem dL_law_1871 : decode cL_law 1871 = .ok (.aload_n 1, 1) := dgq (p := 5) daL_law_1866 dbL_law_1866.2.2.1
theorem dL_law_1872 : decode cL_law 1872 = .ok (.aload_n 0, 1) := dgq (p := 6) daL_law_1866 dbL_law_1866.2.2.2.1
theorem dL_law_1873 : decode cL_law 1873 = .ok (.iload 5, 2) := dgq (p := 7) daL_law_1866 dbL_law_1866.2.2.2.2.1
theorem dL_law_1875 : decode cL_law 1875 = .ok (.iconst 1, 1) := dgq (p := 9) daL_law_1866 dbL_law_1866.2.2.2.2.2.1
theorem dL_law_1876 : decode cL_law 1876 = .ok (.iadd, 1) := dgq (p := 10) daL_law_1866 dbL_law_1866.2.2.2.2.2.2.1
theorem dL_law_1877 : decode cL_law 1877 = .ok (.iaload, 1) := dgq (p := 11) daL_law_1866 dbL_law_1866.2.2.2.2.2.2.2.1
theorem dL_law_1878 : decode cL_law 1878 = .ok (.aload_n 3, 1) := dgq (p := 12) daL_law_1866 dbL_law_1866.2.2.2.2.2.2.2.2.1
theorem dL_law_1879 : decode cL_law 1879 = .ok (.invokestatic 338, 3) := dgq (p := 13) daL_law_1866 dbL_law_1866.2.2.2.2.2.2.2.2.2
def dsL_law_1882 : ByteArray := ⟨#[54, 6, 44, 42, 21, 5, 4, 96, 46, 182, 1, 84, 54, 7, 167, 4, 3]⟩
theorem daL_law_1882 : agB cL_law dsL_law_1882 1882 := agB_of (n := 17) (by decide +kernel)
theorem dbL_law_1882 : (decode dsL_law_1882 0 = .ok (.istore 6, 2) ∧ okop dsL_law_1882 0 = true) ∧ (decode dsL_law_1882 2 = .ok (.aload_n 2, 1) ∧ okop dsL_law_1882 2 = true) ∧ (decode dsL_law_1882 3 = .ok (.aload_n 0, 1) ∧ okop dsL_law_1882 3 = true) ∧ (decode dsL_law_1882 4 = .ok (.iload 5, 2) ∧ okop dsL_law_1882 4 = true) ∧ (decode dsL_law_1882 6 = .ok (.iconst 1, 1) ∧ okop dsL_law_1882 6 = true) ∧ (decode dsL_law_1882 7 = .ok (.iadd, 1) ∧ okop dsL_law_1882 7 = true) ∧ (decode dsL_law_1882 8 = .ok (.iaload, 1) ∧ okop dsL_law_1882 8 = true) ∧ (decode dsL_law_1882 9 = .ok (.invokevirtual 340, 3) ∧ okop dsL_law_1882 9 = true) ∧ (decode dsL_law_1882 12 = .ok (.istore 7, 2) ∧ okop dsL_law_1882 12 = true) ∧ (decode dsL_law_1882 14 = .ok (.goto 1027, 3) ∧ okop dsL_law_1882 14 = true) := by decide +kernel
theorem dL_law_1882 : decode cL_law 1882 = .ok (.istore 6, 2) := dgq (p := 0) daL_law_1882 dbL_law_1882.1
theorem dL_law_1884 : decode cL_law 1884 = .ok (.aload_n 2, 1) := dgq (p := 2) daL_law_1882 dbL_law_1882.2.1
theorem dL_law_1885 : decode cL_law 1885 = .ok (.aload_n 0, 1) := dgq (p := 3) daL_law_1882 dbL_law_1882.2.2.1
theorem dL_law_1886 : decode cL_law 1886 = .ok (.iload 5, 2) := dgq (p := 4) daL_law_1882 dbL_law_1882.2.2.2.1
theorem dL_law_1888 : decode cL_law 1888 = .ok (.iconst 1, 1) := dgq (p := 6) daL_law_1882 dbL_law_1882.2.2.2.2.1
theorem dL_law_1889 : decode cL_law 1889 = .ok (.iadd, 1) := dgq (p := 7) daL_law_1882 dbL_law_1882.2.2.2.2.2.1
theorem dL_law_1890 : decode cL_law 1890 = .ok (.iaload, 1) := dgq (p := 8) daL_law_1882 dbL_law_1882.2.2.2.2.2.2.1
theorem dL_law_1891 : decode cL_law 1891 = .ok (.invokevirtual 340, 3) := dgq (p := 9) daL_law_1882 dbL_law_1882.2.2.2.2.2.2.2.1
theorem dL_law_1894 : decode cL_law 1894 = .ok (.istore 7, 2) := dgq (p := 12) daL_law_1882 dbL_law_1882.2.2.2.2.2.2.2.2.1
theorem dL_law_1896 : decode cL_law 1896 = .ok (.goto 1027, 3) := dgq (p := 14) daL_law_1882 dbL_law_1882.2.2.2.2.2.2.2.2.2
def dsL_law_1899 : ByteArray := ⟨#[43, 42, 21, 5, 4, 96, 46, 42, 21, 5, 5, 96]⟩
theorem daL_law_1899 : agB cL_law dsL_law_1899 1899 := agB_of (n := 12) (by decide +kernel)
theorem dbL_law_1899 : (decode dsL_law_1899 0 = .ok (.aload_n 1, 1) ∧ okop dsL_law_1899 0 = true) ∧ (decode dsL_law_1899 1 = .ok (.aload_n 0, 1) ∧ okop dsL_law_1899 1 = true) ∧ (decode dsL_law_1899 2 = .ok (.iload 5, 2) ∧ okop dsL_law_1899 2 = true) ∧ (decode dsL_law_1899 4 = .ok (.iconst 1, 1) ∧ okop dsL_law_1899 4 = true) ∧ (decode dsL_law_1899 5 = .ok (.iadd, 1) ∧ okop dsL_law_1899 5 = true) ∧ (decode dsL_law_1899 6 = .ok (.iaload, 1) ∧ okop dsL_law_1899 6 = true) ∧ (decode dsL_law_1899 7 = .ok (.aload_n 0, 1) ∧ okop dsL_law_1899 7 = true) ∧ (decode dsL_law_1899 8 = .ok (.iload 5, 2) ∧ okop dsL_law_1899 8 = true) ∧ (decode dsL_law_1899 10 = .ok (.iconst 2, 1) ∧ okop dsL_law_1899 10 = true) ∧ (decode dsL_law_1899 11 = .ok (.iadd, 1) ∧ okop dsL_law_1899 11 = true) := by decide +kernel
theorem dL_law_1899 : decode cL_law 1899 = .ok (.aload_n 1, 1) := dgq (p := 0) daL_law_1899 dbL_law_1899.1
theorem dL_law_1900 : decode cL_law 1900 = .ok (.aload_n 0, 1) := dgq (p := 1) daL_law_1899 dbL_law_1899.2.1
theorem dL_law_1901 : decode cL_law 1901 = .ok (.iload 5, 2) := dgq (p := 2) daL_law_1899 dbL_law_1899.2.2.1
theorem dL_law_1903 : decode cL_law 1903 = .ok (.iconst 1, 1) := dgq (p := 4) daL_law_1899 dbL_law_1899.2.2.2.1
theorem dL_law_1904 : decode cL_law 1904 = .ok (.iadd, 1) := dgq (p := 5) daL_law_1899 dbL_law_1899.2.2.2.2.1
theorem dL_law_1905 : decode cL_law 1905 = .ok (.iaload, 1) := dgq (p := 6) daL_law_1899 dbL_law_1899.2.2.2.2.2.1
theorem dL_law_1906 : decode cL_law 1906 = .ok (.aload_n 0, 1) := dgq (p := 7) daL_law_1899 dbL_law_1899.2.2.2.2.2.2.1
theorem dL_law_1907 : decode cL_law 1907 = .ok (.iload 5, 2) := dgq (p := 8) daL_law_1899 dbL_law_1899.2.2.2.2.2.2.2.1
theorem dL_law_1909 : decode cL_law 1909 = .ok (.iconst 2, 1) := dgq (p := 10) daL_law_1899 dbL_law_1899.2.2.2.2.2.2.2.2.1
theorem dL_law_1910 : decode cL_law 1910 = .ok (.iadd, 1) := dgq (p := 11) daL_law_1899 dbL_law_1899.2.2.2.2.2.2.2.2.2
def dsL_law_1911 : ByteArray := ⟨#[46, 42, 21, 5, 6, 96, 46, 45, 184, 1, 85, 54, 6, 44]⟩
theorem daL_law_1911 : agB cL_law dsL_law_1911 1911 := agB_of (n := 14) (by decide +kernel)
theorem dbL_law_1911 : (decode dsL_law_1911 0 = .ok (.iaload, 1) ∧ okop dsL_law_1911 0 = true) ∧ (decode dsL_law_1911 1 = .ok (.aload_n 0, 1) ∧ okop dsL_law_1911 1 = true) ∧ (decode dsL_law_1911 2 = .ok (.iload 5, 2) ∧ okop dsL_law_1911 2 = true) ∧ (decode dsL_law_1911 4 = .ok (.iconst 3, 1) ∧ okop dsL_law_1911 4 = true) ∧ (decode dsL_law_1911 5 = .ok (.iadd, 1) ∧ okop dsL_law_1911 5 = true) ∧ (decode dsL_law_1911 6 = .ok (.iaload, 1) ∧ okop dsL_law_1911 6 = true) ∧ (decode dsL_law_1911 7 = .ok (.aload_n 3, 1) ∧ okop dsL_law_1911 7 = true) ∧ (decode dsL_law_1911 8 = .ok (.invokestatic 341, 3) ∧ okop dsL_law_1911 8 = true) ∧ (decode dsL_law_1911 11 = .ok (.istore 6, 2) ∧ okop dsL_law_1911 11 = true) ∧ (decode dsL_law_1911 13 = .ok (.aload_n 2, 1) ∧ okop dsL_law_1911 13 = true) := by decide +kernel
theorem dL_law_1911 : decode cL_law 1911 = .ok (.iaload, 1) := dgq (p := 0) daL_law_1911 dbL_law_1911.1
theorem dL_law_1912 : decode cL_law 1912 = .ok (.aload_n 0, 1) := dgq (p := 1) daL_law_1911 dbL_law_1911.2.1
theorem dL_law_1913 : decode cL_law 1913 = .ok (.iload 5, 2) := dgq (p := 2) daL_law_1911 dbL_law_1911.2.2.1
theorem dL_law_1915 : decode cL_law 1915 = .ok (.iconst 3, 1) := dgq (p := 4) daL_law_1911 dbL_law_1911.2.2.2.1
theorem dL_law_1916 : decode cL_law 1916 = .ok (.iadd, 1) := dgq (p := 5) daL_law_1911 dbL_law_1911.2.2.2.2.1
theorem dL_law_1917 : decode cL_law 1917 = .ok (.iaload, 1) := dgq (p := 6) daL_law_1911 dbL_law_1911.2.2.2.2.2.1
theorem dL_law_1918 : decode cL_law 1918 = .ok (.aload_n 3, 1) := dgq (p := 7) daL_law_1911 dbL_law_1911.2.2.2.2.2.2.1
theorem dL_law_1919 : decode cL_law 1919 = .ok (.invokestatic 341, 3) := dgq (p := 8) daL_law_1911 dbL_law_1911.2.2.2.2.2.2.2.1
theorem dL_law_1922 : decode cL_law 1922 = .ok (.istore 6, 2) := dgq (p := 11) daL_law_1911 dbL_law_1911.2.2.2.2.2.2.2.2.1
theorem dL_law_1924 : decode cL_law 1924 = .ok (.aload_n 2, 1) := dgq (p := 13) daL_law_1911 dbL_law_1911.2.2.2.2.2.2.2.2.2
def dsL_law_1925 : ByteArray := ⟨#[42, 21, 5, 4, 96, 46, 42, 21, 5, 5, 96, 46]⟩
theorem daL_law_1925 : agB cL_law dsL_law_1925 1925 := agB_of (n := 12) (by decide +kernel)
theorem dbL_law_1925 : (decode dsL_law_1925 0 = .ok (.aload_n 0, 1) ∧ okop dsL_law_1925 0 = true) ∧ (decode dsL_law_1925 1 = .ok (.iload 5, 2) ∧ okop dsL_law_1925 1 = true) ∧ (decode dsL_law_1925 3 = .ok (.iconst 1, 1) ∧ okop dsL_law_1925 3 = true) ∧ (decode dsL_law_1925 4 = .ok (.iadd, 1) ∧ okop dsL_law_1925 4 = true) ∧ (decode dsL_law_1925 5 = .ok (.iaload, 1) ∧ okop dsL_law_1925 5 = true) ∧ (decode dsL_law_1925 6 = .ok (.aload_n 0, 1) ∧ okop dsL_law_1925 6 = true) ∧ (decode dsL_law_1925 7 = .ok (.iload 5, 2) ∧ okop dsL_law_1925 7 = true) ∧ (decode dsL_law_1925 9 = .ok (.iconst 2, 1) ∧ okop dsL_law_1925 9 = true) ∧ (decode dsL_law_1925 10 = .ok (.iadd, 1) ∧ okop dsL_law_1925 10 = true) ∧ (decode dsL_law_1925 11 = .ok (.iaload, 1) ∧ okop dsL_law_1925 11 = true) := by decide +kernel
theorem dL_law_1925 : decode cL_law 1925 = .ok (.aload_n 0, 1) := dgq (p := 0) daL_law_1925 dbL_law_1925.1
theorem dL_law_1926 : decode cL_law 1926 = .ok (.iload 5, 2) := dgq (p := 1) daL_law_1925 dbL_law_1925.2.1
theorem dL_law_1928 : decode cL_law 1928 = .ok (.iconst 1, 1) := dgq (p := 3) daL_law_1925 dbL_law_1925.2.2.1
theorem dL_law_1929 : decode cL_law 1929 = .ok (.iadd, 1) := dgq (p := 4) daL_law_1925 dbL_law_1925.2.2.2.1
theorem dL_law_1930 : decode cL_law 1930 = .ok (.iaload, 1) := dgq (p := 5) daL_law_1925 dbL_law_1925.2.2.2.2.1
theorem dL_law_1931 : decode cL_law 1931 = .ok (.aload_n 0, 1) := dgq (p := 6) daL_law_1925 dbL_law_1925.2.2.2.2.2.1
theorem dL_law_1932 : decode cL_law 1932 = .ok (.iload 5, 2) := dgq (p := 7) daL_law_1925 dbL_law_1925.2.2.2.2.2.2.1
theorem dL_law_1934 : decode cL_law 1934 = .ok (.iconst 2, 1) := dgq (p := 9) daL_law_1925 dbL_law_1925.2.2.2.2.2.2.2.1
theorem dL_law_1935 : decode cL_law 1935 = .ok (.iadd, 1) := dgq (p := 10) daL_law_1925 dbL_law_1925.2.2.2.2.2.2.2.2.1
theorem dL_law_1936 : decode cL_law 1936 = .ok (.iaload, 1) := dgq (p := 11) daL_law_1925 dbL_law_1925.2.2.2.2.2.2.2.2.2

