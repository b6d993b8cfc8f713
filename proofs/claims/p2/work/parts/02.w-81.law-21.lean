def dsL_law_684 : ByteArray := ⟨#[42, 21, 5, 4, 96, 46, 42, 21, 5, 5, 96, 46]⟩
theorem daL_law_684 : agB cL_law dsL_law_684 684 := agB_of (n := 12) (by decide +kernel)
theorem dbL_law_684 : (decode dsL_law_684 0 = .ok (.aload_n 0, 1) ∧ okop dsL_law_684 0 = true) ∧ (decode dsL_law_684 1 = .ok (.iload 5, 2) ∧ okop dsL_law_684 1 = true) ∧ (decode dsL_law_684 3 = .ok (.iconst 1, 1) ∧ okop dsL_law_684 3 = true) ∧ (decode dsL_law_684 4 = .ok (.iadd, 1) ∧ okop dsL_law_684 4 = true) ∧ (decode dsL_law_684 5 = .ok (.iaload, 1) ∧ okop dsL_law_684 5 = true) ∧ (decode dsL_law_684 6 = .ok (.aload_n 0, 1) ∧ okop dsL_law_684 6 = true) ∧ (decode dsL_law_684 7 = .ok (.iload 5, 2) ∧ okop dsL_law_684 7 = true) ∧ (decode dsL_law_684 9 = .ok (.iconst 2, 1) ∧ okop dsL_law_684 9 = true) ∧ (decode dsL_law_684 10 = .ok (.iadd, 1) ∧ okop dsL_law_684 10 = true) ∧ (decode dsL_law_684 11 = .ok (.iaload, 1) ∧ okop dsL_law_684 11 = true) := by decide +kernel
theorem dL_law_684 : decode cL_law 684 = .ok (.aload_n 0, 1) := dgq (p := 0) daL_law_684 dbL_law_684.1
theorem dL_law_685 : decode cL_law 685 = .ok (.iload 5, 2) := dgq (p := 1) daL_law_684 dbL_law_684.2.1
theorem dL_law_687 : decode cL_law 687 = .ok (.iconst 1, 1) := dgq (p := 3) daL_law_684 dbL_law_684.2.2.1
theorem dL_law_688 : decode cL_law 688 = .ok (.iadd, 1) := dgq (p := 4) daL_law_684 dbL_law_684.2.2.2.1
theorem dL_law_689 : decode cL_law 689 = .ok (.iaload, 1) := dgq (p := 5) daL_law_684 dbL_law_684.2.2.2.2.1
theorem dL_law_690 : decode cL_law 690 = .ok (.aload_n 0, 1) := dgq (p := 6) daL_law_684 dbL_law_684.2.2.2.2.2.1
theorem dL_law_691 : decode cL_law 691 = .ok (.iload 5, 2) := dgq (p := 7) daL_law_684 dbL_law_684.2.2.2.2.2.2.1
theorem dL_law_693 : decode cL_law 693 = .ok (.iconst 2, 1) := dgq (p := 9) daL_law_684 dbL_law_684.2.2.2.2.2.2.2.1
theorem dL_law_694 : decode cL_law 694 = .ok (.iadd, 1) := dgq (p := 10) daL_law_684 dbL_law_684.2.2.2.2.2.2.2.2.1
theorem dL_law_695 : decode cL_law 695 = .ok (.iaload, 1) := dgq (p := 11) daL_law_684 dbL_law_684.2.2.2.2.2.2.2.2.2
def dsL_law_696 : ByteArray := ⟨#[182, 1, 7, 55, 7, 167, 8, 175, 43, 42, 21, 5, 4, 96, 46, 42]⟩
theorem daL_law_696 : agB cL_law dsL_law_696 696 := agB_of (n := 16) (by decide +kernel)
theorem dbL_law_696 : (decode dsL_law_696 0 = .ok (.invokevirtual 263, 3) ∧ okop dsL_law_696 0 = true) ∧ (decode dsL_law_696 3 = .ok (.lstore 7, 2) ∧ okop dsL_law_696 3 = true) ∧ (decode dsL_law_696 5 = .ok (.goto 2223, 3) ∧ okop dsL_law_696 5 = true) ∧ (decode dsL_law_696 8 = .ok (.aload_n 1, 1) ∧ okop dsL_law_696 8 = true) ∧ (decode dsL_law_696 9 = .ok (.aload_n 0, 1) ∧ okop dsL_law_696 9 = true) ∧ (decode dsL_law_696 10 = .ok (.iload 5, 2) ∧ okop dsL_law_696 10 = true) ∧ (decode dsL_law_696 12 = .ok (.iconst 1, 1) ∧ okop dsL_law_696 12 = true) ∧ (decode dsL_law_696 13 = .ok (.iadd, 1) ∧ okop dsL_law_696 13 = true) ∧ (decode dsL_law_696 14 = .ok (.iaload, 1) ∧ okop dsL_law_696 14 = true) ∧ (decode dsL_law_696 15 = .ok (.aload_n 0, 1) ∧ okop dsL_law_696 15 = true) := by decide +kernel
theorem dL_law_696 : decode cL_law 696 = .ok (.invokevirtual 263, 3) := dgq (p := 0) daL_law_696 dbL_law_696.1
theorem dL_law_699 : decode cL_law 699 = .ok (.lstore 7, 2) := dgq (p := 3) daL_law_696 dbL_law_696.2.1
theorem dL_law_701 : decode cL_law 701 = .ok (.goto 2223, 3) := dgq (p := 5) daL_law_696 dbL_law_696.2.2.1
theorem dL_law_704 : decode cL_law 704 = .ok (.aload_n 1, 1) := dgq (p := 8) daL_law_696 dbL_law_696.2.2.2.1
theorem dL_law_705 : decode cL_law 705 = .ok (.aload_n 0, 1) := dgq (p := 9) daL_law_696 dbL_law_696.2.2.2.2.1
theorem dL_law_706 : decode cL_law 706 = .ok (.iload 5, 2) := dgq (p := 10) daL_law_696 dbL_law_696.2.2.2.2.2.1
theorem dL_law_708 : decode cL_law 708 = .ok (.iconst 1, 1) := dgq (p := 12) daL_law_696 dbL_law_696.2.2.2.2.2.2.1
theorem dL_law_709 : decode cL_law 709 = .ok (.iadd, 1) := dgq (p := 13) daL_law_696 dbL_law_696.2.2.2.2.2.2.2.1
theorem dL_law_710 : decode cL_law 710 = .ok (.iaload, 1) := dgq (p := 14) daL_law_696 dbL_law_696.2.2.2.2.2.2.2.2.1
theorem dL_law_711 : decode cL_law 711 = .ok (.aload_n 0, 1) := dgq (p := 15) daL_law_696 dbL_law_696.2.2.2.2.2.2.2.2.2
def dsL_law_712 : ByteArray := ⟨#[21, 5, 5, 96, 46, 45, 184, 1, 8, 54, 6, 44, 42, 21, 5]⟩
theorem daL_law_712 : agB cL_law dsL_law_712 712 := agB_of (n := 15) (by decide +kernel)
theorem dbL_law_712 : (decode dsL_law_712 0 = .ok (.iload 5, 2) ∧ okop dsL_law_712 0 = true) ∧ (decode dsL_law_712 2 = .ok (.iconst 2, 1) ∧ okop dsL_law_712 2 = true) ∧ (decode dsL_law_712 3 = .ok (.iadd, 1) ∧ okop dsL_law_712 3 = true) ∧ (decode dsL_law_712 4 = .ok (.iaload, 1) ∧ okop dsL_law_712 4 = true) ∧ (decode dsL_law_712 5 = .ok (.aload_n 3, 1) ∧ okop dsL_law_712 5 = true) ∧ (decode dsL_law_712 6 = .ok (.invokestatic 264, 3) ∧ okop dsL_law_712 6 = true) ∧ (decode dsL_law_712 9 = .ok (.istore 6, 2) ∧ okop dsL_law_712 9 = true) ∧ (decode dsL_law_712 11 = .ok (.aload_n 2, 1) ∧ okop dsL_law_712 11 = true) ∧ (decode dsL_law_712 12 = .ok (.aload_n 0, 1) ∧ okop dsL_law_712 12 = true) ∧ (decode dsL_law_712 13 = .ok (.iload 5, 2) ∧ okop dsL_law_712 13 = true) := by decide +kernel
theorem dL_law_712 : decode cL_law 712 = .ok (.iload 5, 2) := dgq (p := 0) daL_law_712 dbL_law_712.1
theorem dL_law_714 : decode cL_law 714 = .ok (.iconst 2, 1) := dgq (p := 2) daL_law_712 dbL_law_712.2.1
theorem dL_law_715 : decode cL_law 715 = .ok (.iadd, 1) := dgq (p := 3) daL_law_712 dbL_law_712.2.2.1
theorem dL_law_716 : decode cL_law 716 = .ok (.iaload, 1) := dgq (p := 4) daL_law_712 dbL_law_712.2.2.2.1
theorem dL_law_717 : decode cL_law 717 = .ok (.aload_n 3, 1) := dgq (p := 5) daL_law_712 dbL_law_712.2.2.2.2.1
theorem dL_law_718 : decode cL_law 718 = .ok (.invokestatic 264, 3) := dgq (p := 6) daL_law_712 dbL_law_712.2.2.2.2.2.1
theorem dL_law_721 : decode cL_law 721 = .ok (.istore 6, 2) := dgq (p := 9) daL_law_712 dbL_law_712.2.2.2.2.2.2.1
theorem dL_law_723 : decode cL_law 723 = .ok (.aload_n 2, 1) := dgq (p := 11) daL_law_712 dbL_law_712.2.2.2.2.2.2.2.1
theorem dL_law_724 : decode cL_law 724 = .ok (.aload_n 0, 1) := dgq (p := 12) daL_law_712 dbL_law_712.2.2.2.2.2.2.2.2.1
theorem dL_law_725 : decode cL_law 725 = .ok (.iload 5, 2) := dgq (p := 13) daL_law_712 dbL_law_712.2.2.2.2.2.2.2.2.2
def dsL_law_727 : ByteArray := ⟨#[4, 96, 46, 42, 21, 5, 5, 96, 46, 182, 1, 10, 54, 7]⟩
theorem daL_law_727 : agB cL_law dsL_law_727 727 := agB_of (n := 14) (by decide +kernel)
theorem dbL_law_727 : (decode dsL_law_727 0 = .ok (.iconst 1, 1) ∧ okop dsL_law_727 0 = true) ∧ (decode dsL_law_727 1 = .ok (.iadd, 1) ∧ okop dsL_law_727 1 = true) ∧ (decode dsL_law_727 2 = .ok (.iaload, 1) ∧ okop dsL_law_727 2 = true) ∧ (decode dsL_law_727 3 = .ok (.aload_n 0, 1) ∧ okop dsL_law_727 3 = true) ∧ (decode dsL_law_727 4 = .ok (.iload 5, 2) ∧ okop dsL_law_727 4 = true) ∧ (decode dsL_law_727 6 = .ok (.iconst 2, 1) ∧ okop dsL_law_727 6 = true) ∧ (decode dsL_law_727 7 = .ok (.iadd, 1) ∧ okop dsL_law_727 7 = true) ∧ (decode dsL_law_727 8 = .ok (.iaload, 1) ∧ okop dsL_law_727 8 = true) ∧ (decode dsL_law_727 9 = .ok (.invokevirtual 266, 3) ∧ okop dsL_law_727 9 = true) ∧ (decode dsL_law_727 12 = .ok (.istore 7, 2) ∧ okop dsL_law_727 12 = true) := by decide +kernel
theorem dL_law_727 : decode cL_law 727 = .ok (.iconst 1, 1) := dgq (p := 0) daL_law_727 dbL_law_727.1
theorem dL_law_728 : decode cL_law 728 = .ok (.iadd, 1) := dgq (p := 1) daL_law_727 dbL_law_727.2.1
theorem dL_law_729 : decode cL_law 729 = .ok (.iaload, 1) := dgq (p := 2) daL_law_727 dbL_law_727.2.2.1
theorem dL_law_730 : decode cL_law 730 = .ok (.aload_n 0, 1) := dgq (p := 3) daL_law_727 dbL_law_727.2.2.2.1
theorem dL_law_731 : decode cL_law 731 = .ok (.iload 5, 2) := dgq (p := 4) daL_law_727 dbL_law_727.2.2.2.2.1
theorem dL_law_733 : decode cL_law 733 = .ok (.iconst 2, 1) := dgq (p := 6) daL_law_727 dbL_law_727.2.2.2.2.2.1
theorem dL_law_734 : decode cL_law 734 = .ok (.iadd, 1) := dgq (p := 7) daL_law_727 dbL_law_727.2.2.2.2.2.2.1
theorem dL_law_735 : decode cL_law 735 = .ok (.iaload, 1) := dgq (p := 8) daL_law_727 dbL_law_727.2.2.2.2.2.2.2.1
theorem dL_law_736 : decode cL_law 736 = .ok (.invokevirtual 266, 3) := dgq (p := 9) daL_law_727 dbL_law_727.2.2.2.2.2.2.2.2.1
theorem dL_law_739 : decode cL_law 739 = .ok (.istore 7, 2) := dgq (p := 12) daL_law_727 dbL_law_727.2.2.2.2.2.2.2.2.2
def dsL_law_741 : ByteArray := ⟨#[167, 8, 135, 43, 42, 21, 5, 4, 96, 46, 42, 21, 5, 5]⟩
theorem daL_law_741 : agB cL_law dsL_law_741 741 := agB_of (n := 14) (by decide +kernel)
theorem dbL_law_741 : (decode dsL_law_741 0 = .ok (.goto 2183, 3) ∧ okop dsL_law_741 0 = true) ∧ (decode dsL_law_741 3 = .ok (.aload_n 1, 1) ∧ okop dsL_law_741 3 = true) ∧ (decode dsL_law_741 4 = .ok (.aload_n 0, 1) ∧ okop dsL_law_741 4 = true) ∧ (decode dsL_law_741 5 = .ok (.iload 5, 2) ∧ okop dsL_law_741 5 = true) ∧ (decode dsL_law_741 7 = .ok (.iconst 1, 1) ∧ okop dsL_law_741 7 = true) ∧ (decode dsL_law_741 8 = .ok (.iadd, 1) ∧ okop dsL_law_741 8 = true) ∧ (decode dsL_law_741 9 = .ok (.iaload, 1) ∧ okop dsL_law_741 9 = true) ∧ (decode dsL_law_741 10 = .ok (.aload_n 0, 1) ∧ okop dsL_law_741 10 = true) ∧ (decode dsL_law_741 11 = .ok (.iload 5, 2) ∧ okop dsL_law_741 11 = true) ∧ (decode dsL_law_741 13 = .ok (.iconst 2, 1) ∧ okop dsL_law_741 13 = true) := by decide +kernel
theorem dL_law_741 : decode cL_law 741 = .ok (.goto 2183, 3) := dgq (p := 0) daL_law_741 dbL_law_741.1
theorem dL_law_744 : decode cL_law 744 = .ok (.aload_n 1, 1) := dgq (p := 3) daL_law_741 dbL_law_741.2.1
theorem dL_law_745 : decode cL_law 745 = .ok (.aload_n 0, 1) := dgq (p := 4) daL_law_741 dbL_law_741.2.2.1
theorem dL_law_746 : decode cL_law 746 = .ok (.iload 5, 2) := dgq (p := 5) daL_law_741 dbL_law_741.2.2.2.1
theorem dL_law_748 : decode cL_law 748 = .ok (.iconst 1, 1) := dgq (p := 7) daL_law_741 dbL_law_741.2.2.2.2.1
theorem dL_law_749 : decode cL_law 749 = .ok (.iadd, 1) := dgq (p := 8) daL_law_741 dbL_law_741.2.2.2.2.2.1
theorem dL_law_750 : decode cL_law 750 = .ok (.iaload, 1) := dgq (p := 9) daL_law_741 dbL_law_741.2.2.2.2.2.2.1
theorem dL_law_751 : decode cL_law 751 = .ok (.aload_n 0, 1) := dgq (p := 10) daL_law_741 dbL_law_741.2.2.2.2.2.2.2.1
theorem dL_law_752 : decode cL_law 752 = .ok (.iload 5, 2) := dgq (p := 11) daL_law_741 dbL_law_741.2.2.2.2.2.2.2.2.1
theorem dL_law_754 : decode cL_law 754 = .ok (.iconst 2, 1) := dgq (p := 13) daL_law_741 dbL_law_741.2.2.2.2.2.2.2.2.2
def dsL_law_755 : ByteArray := ⟨#[96, 46, 45, 184, 1, 11, 54, 6, 44, 42, 21, 5, 4, 96]⟩
theorem daL_law_755 : agB cL_law dsL_law_755 755 := agB_of (n := 14) (by decide +kernel)
theorem dbL_law_755 : (decode dsL_law_755 0 = .ok (.iadd, 1) ∧ okop dsL_law_755 0 = true) ∧ (decode dsL_law_755 1 = .ok (.iaload, 1) ∧ okop dsL_law_755 1 = true) ∧ (decode dsL_law_755 2 = .ok (.aload_n 3, 1) ∧ okop dsL_law_755 2 = true) ∧ (decode dsL_law_755 3 = .ok (.invokestatic 267, 3) ∧ okop dsL_law_755 3 = true) ∧ (decode dsL_law_755 6 = .ok (.istore 6, 2) ∧ okop dsL_law_755 6 = true) ∧ (decode dsL_law_755 8 = .ok (.aload_n 2, 1) ∧ okop dsL_law_755 8 = true) ∧ (decode dsL_law_755 9 = .ok (.aload_n 0, 1) ∧ okop dsL_law_755 9 = true) ∧ (decode dsL_law_755 10 = .ok (.iload 5, 2) ∧ okop dsL_law_755 10 = true) ∧ (decode dsL_law_755 12 = .ok (.iconst 1, 1) ∧ okop dsL_law_755 12 = true) ∧ (decode dsL_law_755 13 = .ok (.iadd, 1) ∧ okop dsL_law_755 13 = true) := by decide +kernel
theorem dL_law_755 : decode cL_law 755 = .ok (.iadd, 1) := dgq (p := 0) daL_law_755 dbL_law_755.1
theorem dL_law_756 : decode cL_law 756 = .ok (.iaload, 1) := dgq (p := 1) daL_law_755 dbL_law_755.2.1
theorem dL_law_757 : decode cL_law 757 = .ok (.aload_n 3, 1) := dgq (p := 2) daL_law_755 dbL_law_755.2.2.1
theorem dL_law_758 : decode cL_law 758 = .ok (.invokestatic 267, 3) := dgq (p := 3) daL_law_755 dbL_law_755.2.2.2.1
theorem dL_law_761 : decode cL_law 761 = .ok (.istore 6, 2) := dgq (p := 6) daL_law_755 dbL_law_755.2.2.2.2.1
theorem dL_law_763 : decode cL_law 763 = .ok (.aload_n 2, 1) := dgq (p := 8) daL_law_755 dbL_law_755.2.2.2.2.2.1
theorem dL_law_764 : decode cL_law 764 = .ok (.aload_n 0, 1) := dgq (p := 9) daL_law_755 dbL_law_755.2.2.2.2.2.2.1
theorem dL_law_765 : decode cL_law 765 = .ok (.iload 5, 2) := dgq (p := 10) daL_law_755 dbL_law_755.2.2.2.2.2.2.2.1
theorem dL_law_767 : decode cL_law 767 = .ok (.iconst 1, 1) := dgq (p := 12) daL_law_755 dbL_law_755.2.2.2.2.2.2.2.2.1
theorem dL_law_768 : decode cL_law 768 = .ok (.iadd, 1) := dgq (p := 13) daL_law_755 dbL_law_755.2.2.2.2.2.2.2.2.2
def dsL_law_769 : ByteArray := ⟨#[46, 42, 21, 5, 5, 96, 46, 182, 1, 13, 55, 7, 167, 8, 95, 43]⟩
theorem daL_law_769 : agB cL_law dsL_law_769 769 := agB_of (n := 16) (by decide +kernel)
theorem dbL_law_769 : (decode dsL_law_769 0 = .ok (.iaload, 1) ∧ okop dsL_law_769 0 = true) ∧ (decode dsL_law_769 1 = .ok (.aload_n 0, 1) ∧ okop dsL_law_769 1 = true) ∧ (decode dsL_law_769 2 = .ok (.iload 5, 2) ∧ okop dsL_law_769 2 = true) ∧ (decode dsL_law_769 4 = .ok (.iconst 2, 1) ∧ okop dsL_law_769 4 = true) ∧ (decode dsL_law_769 5 = .ok (.iadd, 1) ∧ okop dsL_law_769 5 = true) ∧ (decode dsL_law_769 6 = .ok (.iaload, 1) ∧ okop dsL_law_769 6 = true) ∧ (decode dsL_law_769 7 = .ok (.invokevirtual 269, 3) ∧ okop dsL_law_769 7 = true) ∧ (decode dsL_law_769 10 = .ok (.lstore 7, 2) ∧ okop dsL_law_769 10 = true) ∧ (decode dsL_law_769 12 = .ok (.goto 2143, 3) ∧ okop dsL_law_769 12 = true) ∧ (decode dsL_law_769 15 = .ok (.aload_n 1, 1) ∧ okop dsL_law_769 15 = true) := by decide +kernel
theorem dL_law_769 : decode cL_law 769 = .ok (.iaload, 1) := dgq (p := 0) daL_law_769 dbL_law_769.1
theorem dL_law_770 : decode cL_law 770 = .ok (.aload_n 0, 1) := dgq (p := 1) daL_law_769 dbL_law_769.2.1
theorem dL_law_771 : decode cL_law 771 = .ok (.iload 5, 2) := dgq (p := 2) daL_law_769 dbL_law_769.2.2.1
theorem dL_law_773 : decode cL_law 773 = .ok (.iconst 2, 1) := dgq (p := 4) daL_law_769 dbL_law_769.2.2.2.1
theorem dL_law_774 : decode cL_law 774 = .ok (.iadd, 1) := dgq (p := 5) daL_law_769 dbL_law_769.2.2.2.2.1
theorem dL_law_775 : decode cL_law 775 = .ok (.iaload, 1) := dgq (p := 6) daL_law_769 dbL_law_769.2.2.2.2.2.1
theorem dL_law_776 : decode cL_law 776 = .ok (.invokevirtual 269, 3) := dgq (p := 7) daL_law_769 dbL_law_769.2.2.2.2.2.2.1
theorem dL_law_779 : decode cL_law 779 = .ok (.lstore 7, 2) := dgq (p := 10) daL_law_769 dbL_law_769.2.2.2.2.2.2.2.1
theorem dL_law_781 : decode cL_law 781 = .ok (.goto 2143, 3) := dgq (p := 12) daL_law_769 dbL_law_769.2.2.2.2.2.2.2.2.1
theorem dL_law_784 : decode cL_law 784 = .ok (.aload_n 1, 1) := dgq (p := 15) daL_law_769 dbL_law_769.2.2.2.2.2.2.2.2.2
def dsL_law_785 : ByteArray := ⟨#[42, 21, 5, 4, 96, 46, 42, 21, 5, 5, 96, 46]⟩
theorem daL_law_785 : agB cL_law dsL_law_785 785 := agB_of (n := 12) (by decide +kernel)
theorem dbL_law_785 : (decode dsL_law_785 0 = .ok (.aload_n 0, 1) ∧ okop dsL_law_785 0 = true) ∧ (decode dsL_law_785 1 = .ok (.iload 5, 2) ∧ okop dsL_law_785 1 = true) ∧ (decode dsL_law_785 3 = .ok (.iconst 1, 1) ∧ okop dsL_law_785 3 = true) ∧ (decode dsL_law_785 4 = .ok (.iadd, 1) ∧ okop dsL_law_785 4 = true) ∧ (decode dsL_law_785 5 = .ok (.iaload, 1) ∧ okop dsL_law_785 5 = true) ∧ (decode dsL_law_785 6 = .ok (.aload_n 0, 1) ∧ okop dsL_law_785 6 = true) ∧ (decode dsL_law_785 7 = .ok (.iload 5, 2) ∧ okop dsL_law_785 7 = true) ∧ (decode dsL_law_785 9 = .ok (.iconst 2, 1) ∧ okop dsL_law_785 9 = true) ∧ (decode dsL_law_785 10 = .ok (.iadd, 1) ∧ okop dsL_law_785 10 = true) ∧ (decode dsL_law_785 11 = .ok (.iaload, 1) ∧ okop dsL_law_785 11 = true) := by decide +kernel
theorem dL_law_785 : decode cL_law 785 = .ok (.aload_n 0, 1) := dgq (p := 0) daL_law_785 dbL_law_785.1
theorem dL_law_786 : decode cL_law 786 = .ok (.iload 5, 2) := dgq (p := 1) daL_law_785 dbL_law_785.2.1
theorem dL_law_788 : decode cL_law 788 = .ok (.iconst 1, 1) := dgq (p := 3) daL_law_785 dbL_law_785.2.2.1
theorem dL_law_789 : decode cL_law 789 = .ok (.iadd, 1) := dgq (p := 4) daL_law_785 dbL_law_785.2.2.2.1
theorem dL_law_790 : decode cL_law 790 = .ok (.iaload, 1) := dgq (p := 5) daL_law_785 dbL_law_785.2.2.2.2.1
theorem dL_law_791 : decode cL_law 791 = .ok (.aload_n 0, 1) := dgq (p := 6) daL_law_785 dbL_law_785.2.2.2.2.2.1
theorem dL_law_792 : decode cL_law 792 = .ok (.iload 5, 2) := dgq (p := 7) daL_law_785 dbL_law_785.2.2.2.2.2.2.1
theorem dL_law_794 : decode cL_law 794 = .ok (.iconst 2, 1) := dgq (p := 9) daL_law_785 dbL_law_785.2.2.2.2.2.2.2.1
theorem dL_law_795 : decode cL_law 795 = .ok (.iadd, 1) := dgq (p := 10) daL_law_785 dbL_law_785.2.2.2.2.2.2.2.2.1
theorem dL_law_796 : decode cL_law 796 = .ok (.iaload, 1) := dgq (p := 11) daL_law_785 dbL_law_785.2.2.2.2.2.2.2.2.2
def dsL_law_797 : ByteArray := ⟨#[45, 184, 1, 14, 54, 6, 44, 42, 21, 5, 4, 96, 46, 42]⟩
theorem daL_law_797 : agB cL_law dsL_law_797 797 := agB_of (n := 14) (by decide +kernel)
theorem dbL_law_797 : (decode dsL_law_797 0 = .ok (.aload_n 3, 1) ∧ okop dsL_law_797 0 = true) ∧ (decode dsL_law_797 1 = .ok (.invokestatic 270, 3) ∧ okop dsL_law_797 1 = true) ∧ (decode dsL_law_797 4 = .ok (.istore 6, 2) ∧ okop dsL_law_797 4 = true) ∧ (decode dsL_law_797 6 = .ok (.aload_n 2, 1) ∧ okop dsL_law_797 6 = true) ∧ (decode dsL_law_797 7 = .ok (.aload_n 0, 1) ∧ okop dsL_law_797 7 = true) ∧ (decode dsL_law_797 8 = .ok (.iload 5, 2) ∧ okop dsL_law_797 8 = true) ∧ (decode dsL_law_797 10 = .ok (.iconst 1, 1) ∧ okop dsL_law_797 10 = true) ∧ (decode dsL_law_797 11 = .ok (.iadd, 1) ∧ okop dsL_law_797 11 = true) ∧ (decode dsL_law_797 12 = .ok (.iaload, 1) ∧ okop dsL_law_797 12 = true) ∧ (decode dsL_law_797 13 = .ok (.aload_n 0, 1) ∧ okop dsL_law_797 13 = true) := by decide +kernel
theorem dL_law_797 : decode cL_law 797 = .ok (.aload_n 3, 1) := dgq (p := 0) daL_law_797 dbL_law_797.1
theorem dL_law_798 : decode cL_law 798 = .ok (.invokestatic 270, 3) := dgq (p := 1) daL_law_797 dbL_law_797.2.1
theorem dL_law_801 : decode cL_law 801 = .ok (.istore 6, 2) := dgq (p := 4) daL_law_797 dbL_law_797.2.2.1
theorem dL_law_803 : decode cL_law 803 = .ok (.aload_n 2, 1) := dgq (p := 6) daL_law_797 dbL_law_797.2.2.2.1
theorem dL_law_804 : decode cL_law 804 = .ok (.aload_n 0, 1) := dgq (p := 7) daL_law_797 dbL_law_797.2.2.2.2.1
theorem dL_law_805 : decode cL_law 805 = .ok (.iload 5, 2) := dgq (p := 8) daL_law_797 dbL_law_797.2.2.2.2.2.1
theorem dL_law_807 : decode cL_law 807 = .ok (.iconst 1, 1) := dgq (p := 10) daL_law_797 dbL_law_797.2.2.2.2.2.2.1
theorem dL_law_808 : decode cL_law 808 = .ok (.iadd, 1) := dgq (p := 11) daL_law_797 dbL_law_797.2.2.2.2.2.2.2.1
theorem dL_law_809 : decode cL_law 809 = .ok (.iaload, 1) := dgq (p := 12) daL_law_797 dbL_law_797.2.2.2.2.2.2.2.2.1
theorem dL_law_810 : decode cL_law 810 = .ok (.aload_n 0, 1) := dgq (p := 13) daL_law_797 dbL_law_797.2.2.2.2.2.2.2.2.2
def dsL_law_811 : ByteArray := ⟨#[21, 5, 5, 96, 46, 182, 1, 16, 54, 7, 167, 8, 55, 43, 42, 21, 5]⟩
theorem daL_law_811 : agB cL_law dsL_law_811 811 := agB_of (n := 17) (by decide +kernel)
theorem dbL_law_811 : (decode dsL_law_811 0 = .ok (.iload 5, 2) ∧ okop dsL_law_811 0 = true) ∧ (decode dsL_law_811 2 = .ok (.iconst 2, 1) ∧ okop dsL_law_811 2 = true) ∧ (decode dsL_law_811 3 = .ok (.iadd, 1) ∧ okop dsL_law_811 3 = true) ∧ (decode dsL_law_811 4 = .ok (.iaload, 1) ∧ okop dsL_law_811 4 = true) ∧ (decode dsL_law_811 5 = .ok (.invokevirtual 272, 3) ∧ okop dsL_law_811 5 = true) ∧ (decode dsL_law_811 8 = .ok (.istore 7, 2) ∧ okop dsL_law_811 8 = true) ∧ (decode dsL_law_811 10 = .ok (.goto 2103, 3) ∧ okop dsL_law_811 10 = true) ∧ (decode dsL_law_811 13 = .ok (.aload_n 1, 1) ∧ okop dsL_law_811 13 = true) ∧ (decode dsL_law_811 14 = .ok (.aload_n 0, 1) ∧ okop dsL_law_811 14 = true) ∧ (decode dsL_law_811 15 = .ok (.iload 5, 2) ∧ okop dsL_law_811 15 = true) := by decide +kernel
theorem dL_law_811 : decode cL_law 811 = .ok (.iload 5, 2) := dgq (p := 0) daL_law_811 dbL_law_811.1
theorem dL_law_813 : decode cL_law 813 = .ok (.iconst 2, 1) := dgq (p := 2) daL_law_811 dbL_law_811.2.1
theorem dL_law_814 : decode cL_law 814 = .ok (.iadd, 1) := dgq (p := 3) daL_law_811 dbL_law_811.2.2.1
theorem dL_law_815 : decode cL_law 815 = .ok (.iaload, 1) := dgq (p := 4) daL_law_811 dbL_law_811.2.2.2.1
theorem dL_law_816 : decode cL_law 816 = .ok (.invokevirtual 272, 3) := dgq (p := 5) daL_law_811 dbL_law_811.2.2.2.2.1
theorem dL_law_819 : decode cL_law 819 = .ok (.istore 7, 2) := dgq (p := 8) daL_law_811 dbL_law_811.2.2.2.2.2.1
theorem dL_law_821 : decode cL_law 821 = .ok (.goto 2103, 3) := dgq (p := 10) daL_law_811 dbL_law_811.2.2.2.2.2.2.1
theorem dL_law_824 : decode cL_law 824 = .ok (.aload_n 1, 1) := dgq (p := 13) daL_law_811 dbL_law_811.2.2.2.2.2.2.2.1
theorem dL_law_825 : decode cL_law 825 = .ok (.aload_n 0, 1) := dgq (p := 14) daL_law_811 dbL_law_811.2.2.2.2.2.2.2.2.1
theorem dL_law_826 : decode cL_law 826 = .ok (.iload 5, 2) := dgq (p := 15) daL_law_811 dbL_law_811.2.2.2.2.2.2.2.2.2
def dsL_law_828 : ByteArray := ⟨#[4, 96, 46, 42, 21, 5, 5, 96, 46, 42, 21, 5]⟩
theorem daL_law_828 : agB cL_law dsL_law_828 828 := agB_of (n := 12) (by decide +kernel)
theorem dbL_law_828 : (decode dsL_law_828 0 = .ok (.iconst 1, 1) ∧ okop dsL_law_828 0 = true) ∧ (decode dsL_law_828 1 = .ok (.iadd, 1) ∧ okop dsL_law_828 1 = true) ∧ (decode dsL_law_828 2 = .ok (.iaload, 1) ∧ okop dsL_law_828 2 = true) ∧ (decode dsL_law_828 3 = .ok (.aload_n 0, 1) ∧ okop dsL_law_828 3 = true) ∧ (decode dsL_law_828 4 = .ok (.iload 5, 2) ∧ okop dsL_law_828 4 = true) ∧ (decode dsL_law_828 6 = .ok (.iconst 2, 1) ∧ okop dsL_law_828 6 = true) ∧ (decode dsL_law_828 7 = .ok (.iadd, 1) ∧ okop dsL_law_828 7 = true) ∧ (decode dsL_law_828 8 = .ok (.iaload, 1) ∧ okop dsL_law_828 8 = true) ∧ (decode dsL_law_828 9 = .ok (.aload_n 0, 1) ∧ okop dsL_law_828 9 = true) ∧ (decode dsL_law_828 10 = .ok (.iload 5, 2) ∧ okop dsL_law_828 10 = true) := by decide +kernel
theorem dL_law_828 : decode cL_law 828 = .ok (.iconst 1, 1) := dgq (p := 0) daL_law_828 dbL_law_828.1
theorem dL_law_829 : decode cL_law 829 = .ok (.iadd, 1) := dgq (p := 1) daL_law_828 dbL_law_828.2.1
theorem dL_law_830 : decode cL_law 830 = .ok (.iaload, 1) := dgq (p := 2) daL_law_828 dbL_law_828.2.2.1
theorem dL_law_831 : decode cL_law 831 = .ok (.aload_n 0, 1) := dgq (p := 3) daL_law_828 dbL_law_828.2.2.2.1
theorem dL_law_832 : decode cL_law 832 = .ok (.iload 5, 2) := dgq (p := 4) daL_law_828 dbL_law_828.2.2.2.2.1
theorem dL_law_834 : decode cL_law 834 = .ok (.iconst 2, 1) := dgq (p := 6) daL_law_828 dbL_law_828.2.2.2.2.2.1
theorem dL_law_835 : decode cL_law 835 = .ok (.iadd, 1) := dgq (p := 7) daL_law_828 dbL_law_828.2.2.2.2.2.2.1
theorem dL_law_836 : decode cL_law 836 = .ok (.iaload, 1) := dgq (p := 8) daL_law_828 dbL_law_828.2.2.2.2.2.2.2.1
theorem dL_law_837 : decode cL_law 837 = .ok (.aload_n 0, 1) := dgq (p := 9) daL_law_828 dbL_law_828.2.2.2.2.2.2.2.2.1
theorem dL_law_838 : decode cL_law 838 = .ok (.iload 5, 2) := dgq (p := 10) daL_law_828 dbL_law_828.2.2.2.2.2.2.2.2.2
def dsL_law_840 : ByteArray := ⟨#[6, 96, 46, 42, 21, 5, 7, 96, 46, 45, 184, 1, 17]⟩
theorem daL_law_840 : agB cL_law dsL_law_840 840 := agB_of (n := 13) (by decide +kernel)
theorem dbL_law_840 : (decode dsL_law_840 0 = .ok (.iconst 3, 1) ∧ okop dsL_law_840 0 = true) ∧ (decode dsL_law_840 1 = .ok (.iadd, 1) ∧ okop dsL_law_840 1 = true) ∧ (decode dsL_law_840 2 = .ok (.iaload, 1) ∧ okop dsL_law_840 2 = true) ∧ (decode dsL_law_840 3 = .ok (.aload_n 0, 1) ∧ okop dsL_law_840 3 = true) ∧ (decode dsL_law_840 4 = .ok (.iload 5, 2) ∧ okop dsL_law_840 4 = true) ∧ (decode dsL_law_840 6 = .ok (.iconst 4, 1) ∧ okop dsL_law_840 6 = true) ∧ (decode dsL_law_840 7 = .ok (.iadd, 1) ∧ okop dsL_law_840 7 = true) ∧ (decode dsL_law_840 8 = .ok (.iaload, 1) ∧ okop dsL_law_840 8 = true) ∧ (decode dsL_law_840 9 = .ok (.aload_n 3, 1) ∧ okop dsL_law_840 9 = true) ∧ (decode dsL_law_840 10 = .ok (.invokestatic 273, 3) ∧ okop dsL_law_840 10 = true) := by decide +kernel
theorem dL_law_840 : decode cL_law 840 = .ok (.iconst 3, 1) := dgq (p := 0) daL_law_840 dbL_law_840.1
theorem dL_law_841 : decode cL_law 841 = .ok (.iadd, 1) := dgq (p := 1) daL_law_840 dbL_law_840.2.1
theorem dL_law_842 : decode cL_law 842 = .ok (.iaload, 1) := dgq (p := 2) daL_law_840 dbL_law_840.2.2.1
theorem dL_law_843 : decode cL_law 843 = .ok (.aload_n 0, 1) := dgq (p := 3) daL_law_840 dbL_law_840.2.2.2.1
theorem dL_law_844 : decode cL_law 844 = .ok (.iload 5, 2) := dgq (p := 4) daL_law_840 dbL_law_840.2.2.2.2.1
theorem dL_law_846 : decode cL_law 846 = .ok (.iconst 4, 1) := dgq (p := 6) daL_law_840 dbL_law_840.2.2.2.2.2.1
theorem dL_law_847 : decode cL_law 847 = .ok (.iadd, 1) := dgq (p := 7) daL_law_840 dbL_law_840.2.2.2.2.2.2.1
theorem dL_law_848 : decode cL_law 848 = .ok (.iaload, 1) := dgq (p := 8) daL_law_840 dbL_law_840.2.2.2.2.2.2.2.1
theorem dL_law_849 : decode cL_law 849 = .ok (.aload_n 3, 1) := dgq (p := 9) daL_law_840 dbL_law_840.2.2.2.2.2.2.2.2.1
theorem dL_law_850 : decode cL_law 850 = .ok (.invokestatic 273, 3) := dgq (p := 10) daL_law_840 dbL_law_840.2.2.2.2.2.2.2.2.2
def dsL_law_853 : ByteArray := ⟨#[54, 6, 44, 42, 21, 5, 4, 96, 46, 42, 21, 5, 5]⟩
theorem daL_law_853 : agB cL_law dsL_law_853 853 := agB_of (n := 13) (by decide +kernel)
theorem dbL_law_853 : (decode dsL_law_853 0 = .ok (.istore 6, 2) ∧ okop dsL_law_853 0 = true) ∧ (decode dsL_law_853 2 = .ok (.aload_n 2, 1) ∧ okop dsL_law_853 2 = true) ∧ (decode dsL_law_853 3 = .ok (.aload_n 0, 1) ∧ okop dsL_law_853 3 = true) ∧ (decode dsL_law_853 4 = .ok (.iload 5, 2) ∧ okop dsL_law_853 4 = true) ∧ (decode dsL_law_853 6 = .ok (.iconst 1, 1) ∧ okop dsL_law_853 6 = true) ∧ (decode dsL_law_853 7 = .ok (.iadd, 1) ∧ okop dsL_law_853 7 = true) ∧ (decode dsL_law_853 8 = .ok (.iaload, 1) ∧ okop dsL_law_853 8 = true) ∧ (decode dsL_law_853 9 = .ok (.aload_n 0, 1) ∧ okop dsL_law_853 9 = true) ∧ (decode dsL_law_853 10 = .ok (.iload 5, 2) ∧ okop dsL_law_853 10 = true) ∧ (decode dsL_law_853 12 = .ok (.iconst 2, 1) ∧ okop dsL_law_853 12 = true) := by decide +kernel
theorem dL_law_853 : decode cL_law 853 = .ok (.istore 6, 2) := dgq (p := 0) daL_law_853 dbL_law_853.1
theorem dL_law_855 : decode cL_law 855 = .ok (.aload_n 2, 1) := dgq (p := 2) daL_law_853 dbL_law_853.2.1
theorem dL_law_856 : decode cL_law 856 = .ok (.aload_n 0, 1) := dgq (p := 3) daL_law_853 dbL_law_853.2.2.1
theorem dL_law_857 : decode cL_law 857 = .ok (.iload 5, 2) := dgq (p := 4) daL_law_853 dbL_law_853.2.2.2.1
theorem dL_law_859 : decode cL_law 859 = .ok (.iconst 1, 1) := dgq (p := 6) daL_law_853 dbL_law_853.2.2.2.2.1
theorem dL_law_860 : decode cL_law 860 = .ok (.iadd, 1) := dgq (p := 7) daL_law_853 dbL_law_853.2.2.2.2.2.1
theorem dL_law_861 : decode cL_law 861 = .ok (.iaload, 1) := dgq (p := 8) daL_law_853 dbL_law_853.2.2.2.2.2.2.1
theorem dL_law_862 : decode cL_law 862 = .ok (.aload_n 0, 1) := dgq (p := 9) daL_law_853 dbL_law_853.2.2.2.2.2.2.2.1
theorem dL_law_863 : decode cL_law 863 = .ok (.iload 5, 2) := dgq (p := 10) daL_law_853 dbL_law_853.2.2.2.2.2.2.2.2.1
theorem dL_law_865 : decode cL_law 865 = .ok (.iconst 2, 1) := dgq (p := 12) daL_law_853 dbL_law_853.2.2.2.2.2.2.2.2.2
def dsL_law_866 : ByteArray := ⟨#[96, 46, 42, 21, 5, 6, 96, 46, 42, 21, 5, 7]⟩
theorem daL_law_866 : agB cL_law dsL_law_866 866 := agB_of (n := 12) (by decide +kernel)
theorem dbL_law_866 : (decode dsL_law_866 0 = .ok (.iadd, 1) ∧ okop dsL_law_866 0 = true) ∧ (decode dsL_law_866 1 = .ok (.iaload, 1) ∧ okop dsL_law_866 1 = true) ∧ (decode dsL_law_866 2 = .ok (.aload_n 0, 1) ∧ okop dsL_law_866 2 = true) ∧ (decode dsL_law_866 3 = .ok (.iload 5, 2) ∧ okop dsL_law_866 3 = true) ∧ (decode dsL_law_866 5 = .ok (.iconst 3, 1) ∧ okop dsL_law_866 5 = true) ∧ (decode dsL_law_866 6 = .ok (.iadd, 1) ∧ okop dsL_law_866 6 = true) ∧ (decode dsL_law_866 7 = .ok (.iaload, 1) ∧ okop dsL_law_866 7 = true) ∧ (decode dsL_law_866 8 = .ok (.aload_n 0, 1) ∧ okop dsL_law_866 8 = true) ∧ (decode dsL_law_866 9 = .ok (.iload 5, 2) ∧ okop dsL_law_866 9 = true) ∧ (decode dsL_law_866 11 = .ok (.iconst 4, 1) ∧ okop dsL_law_866 11 = true) := by decide +kernel
theorem dL_law_866 : decode cL_law 866 = .ok (.iadd, 1) := dgq (p := 0) daL_law_866 dbL_law_866.1
theorem dL_law_867 : decode cL_law 867 = .ok (.iaload, 1) := dgq (p := 1) daL_law_866 dbL_law_866.2.1
theorem dL_law_868 : decode cL_law 868 = .ok (.aload_n 0, 1) := dgq (p := 2) daL_law_866 dbL_law_866.2.2.1
theorem dL_law_869 : decode cL_law 869 = .ok (.iload 5, 2) := dgq (p := 3) daL_law_866 dbL_law_866.2.2.2.1
theorem dL_law_871 : decode cL_law 871 = .ok (.iconst 3, 1) := dgq (p := 5) daL_law_866 dbL_law_866.2.2.2.2.1
theorem dL_law_872 : decode cL_law 872 = .ok (.iadd, 1) := dgq (p := 6) daL_law_866 dbL_law_866.2.2.2.2.2.1
theorem dL_law_873 : decode cL_law 873 = .ok (.iaload, 1) := dgq (p := 7) daL_law_866 dbL_law_866.2.2.2.2.2.2.1
theorem dL_law_874 : decode cL_law 874 = .ok (.aload_n 0, 1) := dgq (p := 8) daL_law_866 dbL_law_866.2.2.2.2.2.2.2.1
theorem dL_law_875 : decode cL_law 875 = .ok (.iload 5, 2) := dgq (p := 9) daL_law_866 dbL_law_866.2.2.2.2.2.2.2.2.1
theorem dL_law_877 : decode cL_law 877 = .ok (.iconst 4, 1) := dgq (p := 11) daL_law_866 dbL_law_866.2.2.2.2.2.2.2.2.2
def dsL_law_878 : ByteArray := ⟨#[96, 46, 182, 1, 19, 54, 7, 167, 7, 247, 43, 42, 21, 5, 4, 96]⟩
theorem daL_law_878 : agB cL_law dsL_law_878 878 := agB_of (n := 16) (by decide +kernel)
theorem dbL_law_878 : (decode dsL_law_878 0 = .ok (.iadd, 1) ∧ okop dsL_law_878 0 = true) ∧ (decode dsL_law_878 1 = .ok (.iaload, 1) ∧ okop dsL_law_878 1 = true) ∧ (decode dsL_law_878 2 = .ok (.invokevirtual 275, 3) ∧ okop dsL_law_878 2 = true) ∧ (decode dsL_law_878 5 = .ok (.istore 7, 2) ∧ okop dsL_law_878 5 = true) ∧ (decode dsL_law_878 7 = .ok (.goto 2039, 3) ∧ okop dsL_law_878 7 = true) ∧ (decode dsL_law_878 10 = .ok (.aload_n 1, 1) ∧ okop dsL_law_878 10 = true) ∧ (decode dsL_law_878 11 = .ok (.aload_n 0, 1) ∧ okop dsL_law_878 11 = true) ∧ (decode dsL_law_878 12 = .ok (.iload 5, 2) ∧ okop dsL_law_878 12 = true) ∧ (decode dsL_law_878 14 = .ok (.iconst 1, 1) ∧ okop dsL_law_878 14 = true) ∧ (decode dsL_law_878 15 = .ok (.iadd, 1) ∧ okop dsL_law_878 15 = true) := by decide +kernel
theorem dL_law_878 : decode cL_law 878 = .ok (.iadd, 1) := dgq (p := 0) daL_law_878 dbL_law_878.1
theorem dL_law_879 : decode cL_law 879 = .ok (.iaload, 1) := dgq (p := 1) daL_law_878 dbL_law_878.2.1
theorem dL_law_880 : decode cL_law 880 = .ok (.invokevirtual 275, 3) := dgq (p := 2) daL_law_878 dbL_law_878.2.2.1
theorem dL_law_883 : decode cL_law 883 = .ok (.istore 7, 2) := dgq (p := 5) daL_law_878 dbL_law_878.2.2.2.1
theorem dL_law_885 : decode cL_law 885 = .ok (.goto 2039, 3) := dgq (p := 7) daL_law_878 dbL_law_878.2.2.2.2.1
theorem dL_law_888 : decode cL_law 888 = .ok (.aload_n 1, 1) := dgq (p := 10) daL_law_878 dbL_law_878.2.2.2.2.2.1
theorem dL_law_889 : decode cL_law 889 = .ok (.aload_n 0, 1) := dgq (p := 11) daL_law_878 dbL_law_878.2.2.2.2.2.2.1
theorem dL_law_890 : decode cL_law 890 = .ok (.iload 5, 2) := dgq (p := 12) daL_law_878 dbL_law_878.2.2.2.2.2.2.2.1
theorem dL_law_892 : decode cL_law 892 = .ok (.iconst 1, 1) := dgq (p := 14) daL_law_878 dbL_law_878.2.2.2.2.2.2.2.2.1
theorem dL_law_893 : decode cL_law 893 = .ok (.iadd, 1) := dgq (p := 15) daL_law_878 dbL_law_878.2.2.2.2.2.2.2.2.2
def dsL_law_894 : ByteArray := ⟨#[46, 42, 21, 5, 5, 96, 46, 42, 21, 5, 6, 96]⟩
theorem daL_law_894 : agB cL_law dsL_law_894 894 := agB_of (n := 12) (by decide +kernel)
theorem dbL_law_894 : (decode dsL_law_894 0 = .ok (.iaload, 1) ∧ okop dsL_law_894 0 = true) ∧ (decode dsL_law_894 1 = .ok (.aload_n 0, 1) ∧ okop dsL_law_894 1 = true) ∧ (decode dsL_law_894 2 = .ok (.iload 5, 2) ∧ okop dsL_law_894 2 = true) ∧ (decode dsL_law_894 4 = .ok (.iconst 2, 1) ∧ okop dsL_law_894 4 = true) ∧ (decode dsL_law_894 5 = .ok (.iadd, 1) ∧ okop dsL_law_894 5 = true) ∧ (decode dsL_law_894 6 = .ok (.iaload, 1) ∧ okop dsL_law_894 6 = true) ∧ (decode dsL_law_894 7 = .ok (.aload_n 0, 1) ∧ okop dsL_law_894 7 = true) ∧ (decode dsL_law_894 8 = .ok (.iload 5, 2) ∧ okop dsL_law_894 8 = true) ∧ (decode dsL_law_894 10 = .ok (.iconst 3, 1) ∧ okop dsL_law_894 10 = true) ∧ (decode dsL_law_894 11 = .ok (.iadd, 1) ∧ okop dsL_law_894 11 = true) := by decide +kernel
theorem dL_law_894 : decode cL_law 894 = .ok (.iaload, 1) := dgq (p := 0) daL_law_894 dbL_law_894.1
theorem dL_law_895 : decode cL_law 895 = .ok (.aload_n 0, 1) := dgq (p := 1) daL_law_894 dbL_law_894.2.1
theorem dL_law_896 : decode cL_law 896 = .ok (.iload 5, 2) := dgq (p := 2) daL_law_894 dbL_law_894.2.2.1
theorem dL_law_898 : decode cL_law 898 = .ok (.iconst 2, 1) := dgq (p := 4) daL_law_894 dbL_law_894.2.2.2.1
theorem dL_law_899 : decode cL_law 899 = .ok (.iadd, 1) := dgq (p := 5) daL_law_894 dbL_law_894.2.2.2.2.1
theorem dL_law_900 : decode cL_law 900 = .ok (.iaload, 1) := dgq (p := 6) daL_law_894 dbL_law_894.2.2.2.2.2.1
theorem dL_law_901 : decode cL_law 901 = .ok (.aload_n 0, 1) := dgq (p := 7) daL_law_894 dbL_law_894.2.2.2.2.2.2.1
theorem dL_law_902 : decode cL_law 902 = .ok (.iload 5, 2) := dgq (p := 8) daL_law_894 dbL_law_894.2.2.2.2.2.2.2.1
theorem dL_law_904 : decode cL_law 904 = .ok (.iconst 3, 1) := dgq (p := 10) daL_law_894 dbL_law_894.2.2.2.2.2.2.2.2.1
theorem dL_law_905 : decode cL_law 905 = .ok (.iadd, 1) := dgq (p := 11) daL_law_894 dbL_law_894.2.2.2.2.2.2.2.2.2
def dsL_law_906 : ByteArray := ⟨#[46, 42, 21, 5, 7, 96, 46, 45, 184, 1, 20, 54, 6, 44]⟩
theorem daL_law_906 : agB cL_law dsL_law_906 906 := agB_of (n := 14) (by decide +kernel)
theorem dbL_law_906 : (decode dsL_law_906 0 = .ok (.iaload, 1) ∧ okop dsL_law_906 0 = true) ∧ (decode dsL_law_906 1 = .ok (.aload_n 0, 1) ∧ okop dsL_law_906 1 = true) ∧ (decode dsL_law_906 2 = .ok (.iload 5, 2) ∧ okop dsL_law_906 2 = true) ∧ (decode dsL_law_906 4 = .ok (.iconst 4, 1) ∧ okop dsL_law_906 4 = true) ∧ (decode dsL_law_906 5 = .ok (.iadd, 1) ∧ okop dsL_law_906 5 = true) ∧ (decode dsL_law_906 6 = .ok (.iaload, 1) ∧ okop dsL_law_906 6 = true) ∧ (decode dsL_law_906 7 = .ok (.aload_n 3, 1) ∧ okop dsL_law_906 7 = true) ∧ (decode dsL_law_906 8 = .ok (.invokestatic 276, 3) ∧ okop dsL_law_906 8 = true) ∧ (decode dsL_law_906 11 = .ok (.istore 6, 2) ∧ okop dsL_law_906 11 = true) ∧ (decode dsL_law_906 13 = .ok (.aload_n 2, 1) ∧ okop dsL_law_906 13 = true) := by decide +kernel
theorem dL_law_906 : decode cL_law 906 = .ok (.iaload, 1) := dgq (p := 0) daL_law_906 dbL_law_906.1
theorem dL_law_907 : decode cL_law 907 = .ok (.aload_n 0, 1) := dgq (p := 1) daL_law_906 dbL_law_906.2.1
theorem dL_law_908 : decode cL_law 908 = .ok (.iload 5, 2) := dgq (p := 2) daL_law_906 dbL_law_906.2.2.1
theorem dL_law_910 : decode cL_law 910 = .ok (.iconst 4, 1) := dgq (p := 4) daL_law_906 dbL_law_906.2.2.2.1
theorem dL_law_911 : decode cL_law 911 = .ok (.iadd, 1) := dgq (p := 5) daL_law_906 dbL_law_906.2.2.2.2.1
theorem dL_law_912 : decode cL_law 912 = .ok (.iaload, 1) := dgq (p := 6) daL_law_906 dbL_law_906.2.2.2.2.2.1
theorem dL_law_913 : decode cL_law 913 = .ok (.aload_n 3, 1) := dgq (p := 7) daL_law_906 dbL_law_906.2.2.2.2.2.2.1
theorem dL_law_914 : decode cL_law 914 = .ok (.invokestatic 276, 3) := dgq (p := 8) daL_law_906 dbL_law_906.2.2.2.2.2.2.2.1
theorem dL_law_917 : decode cL_law 917 = .ok (.istore 6, 2) := dgq (p := 11) daL_law_906 dbL_law_906.2.2.2.2.2.2.2.2.1
theorem dL_law_919 : decode cL_law 919 = .ok (.aload_n 2, 1) := dgq (p := 13) daL_law_906 dbL_law_906.2.2.2.2.2.2.2.2.2
def dsL_law_920 : ByteArray := ⟨#[42, 21, 5, 4, 96, 46, 42, 21, 5, 5, 96, 46]⟩
theorem daL_law_920 : agB cL_law dsL_law_920 920 := agB_of (n := 12) (by decide +kernel)
theorem dbL_law_920 : (decode dsL_law_920 0 = .ok (.aload_n 0, 1) ∧ okop dsL_law_920 0 = true) ∧ (decode dsL_law_920 1 = .ok (.iload 5, 2) ∧ okop dsL_law_920 1 = true) ∧ (decode dsL_law_920 3 = .ok (.iconst 1, 1) ∧ okop dsL_law_920 3 = true) ∧ (decode dsL_law_920 4 = .ok (.iadd, 1) ∧ okop dsL_law_920 4 = true) ∧ (decode dsL_law_920 5 = .ok (.iaload, 1) ∧ okop dsL_law_920 5 = true) ∧ (decode dsL_law_920 6 = .ok (.aload_n 0, 1) ∧ okop dsL_law_920 6 = true) ∧ (decode dsL_law_920 7 = .ok (.iload 5, 2) ∧ okop dsL_law_920 7 = true) ∧ (decode dsL_law_920 9 = .ok (.iconst 2, 1) ∧ okop dsL_law_920 9 = true) ∧ (decode dsL_law_920 10 = .ok (.iadd, 1) ∧ okop dsL_law_920 10 = true) ∧ (decode dsL_law_920 11 = .ok (.iaload, 1) ∧ okop dsL_law_920 11 = true) := by decide +kernel
theorem dL_law_920 : decode cL_law 920 = .ok (.aload_n 0, 1) := dgq (p := 0) daL_law_920 dbL_law_920.1
theorem dL_law_921 : decode cL_law 921 = .ok (.iload 5, 2) := dgq (p := 1) daL_law_920 dbL_law_920.2.1
theorem dL_law_923 : decode cL_law 923 = .ok (.iconst 1, 1) := dgq (p := 3) daL_law_920 dbL_law_920.2.2.1
theorem dL_law_924 : decode cL_law 924 = .ok (.iadd, 1) := dgq (p := 4) daL_law_920 dbL_law_920.2.2.2.1
theorem dL_law_925 : decode cL_law 925 = .ok (.iaload, 1) := dgq (p := 5) daL_law_920 dbL_law_920.2.2.2.2.1
theorem dL_law_926 : decode cL_law 926 = .ok (.aload_n 0, 1) := dgq (p := 6) daL_law_920 dbL_law_920.2.2.2.2.2.1
theorem dL_law_927 : decode cL_law 927 = .ok (.iload 5, 2) := dgq (p := 7) daL_law_920 dbL_law_920.2.2.2.2.2.2.1
theorem dL_law_929 : decode cL_law 929 = .ok (.iconst 2, 1) := dgq (p := 9) daL_law_920 dbL_law_920.2.2.2.2.2.2.2.1
theorem dL_law_930 : decode cL_law 930 = .ok (.iadd, 1) := dgq (p := 10) daL_law_920 dbL_law_920.2.2.2.2.2.2.2.2.1
theorem dL_law_931 : decode cL_law 931 = .ok (.iaload, 1) := dgq (p := 11) daL_law_920 dbL_law_920.2.2.2.2.2.2.2.2.2
def dsL_law_932 : ByteArray := ⟨#[42, 21, 5, 6, 96, 46, 42, 21, 5, 7, 96, 46]⟩
theorem daL_law_932 : agB cL_law dsL_law_932 932 := agB_of (n := 12) (by decide +kernel)
theorem dbL_law_932 : (decode dsL_law_932 0 = .ok (.aload_n 0, 1) ∧ okop dsL_law_932 0 = true) ∧ (decode dsL_law_932 1 = .ok (.iload 5, 2) ∧ okop dsL_law_932 1 = true) ∧ (decode dsL_law_932 3 = .ok (.iconst 3, 1) ∧ okop dsL_law_932 3 = true) ∧ (decode dsL_law_932 4 = .ok (.iadd, 1) ∧ okop dsL_law_932 4 = true) ∧ (decode dsL_law_932 5 = .ok (.iaload, 1) ∧ okop dsL_law_932 5 = true) ∧ (decode dsL_law_932 6 = .ok (.aload_n 0, 1) ∧ okop dsL_law_932 6 = true) ∧ (decode dsL_law_932 7 = .ok (.iload 5, 2) ∧ okop dsL_law_932 7 = true) ∧ (decode dsL_law_932 9 = .ok (.iconst 4, 1) ∧ okop dsL_law_932 9 = true) ∧ (decode dsL_law_932 10 = .ok (.iadd, 1) ∧ okop dsL_law_932 10 = true) ∧ (decode dsL_law_932 11 = .ok (.iaload, 1) ∧ okop dsL_law_932 11 = true) := by decide +kernel
theorem dL_law_932 : decode cL_law 932 = .ok (.aload_n 0, 1) := dgq (p := 0) daL_law_932 dbL_law_932.1
theorem dL_law_933 : decode cL_law 933 = .ok (.iload 5, 2) := dgq (p := 1) daL_law_932 dbL_law_932.2.1
theorem dL_law_935 : decode cL_law 935 = .ok (.iconst 3, 1) := dgq (p := 3) daL_law_932 dbL_law_932.2.2.1
theorem dL_law_936 : decode cL_law 936 = .ok (.iadd, 1) := dgq (p := 4) daL_law_932 dbL_law_932.2.2.2.1
theorem dL_law_937 : decode cL_law 937 = .ok (.iaload, 1) := dgq (p := 5) daL_law_932 dbL_law_932.2.2.2.2.1
theorem dL_law_938 : decode cL_law 938 = .ok (.aload_n 0, 1) := dgq (p := 6) daL_law_932 dbL_law_932.2.2.2.2.2.1
theorem dL_law_939 : decode cL_law 939 = .ok (.iload 5, 2) := dgq (p := 7) daL_law_932 dbL_law_932.2.2.2.2.2.2.1
theorem dL_law_941 : decode cL_law 941 = .ok (.iconst 4, 1) := dgq (p := 9) daL_law_932 dbL_law_932.2.2.2.2.2.2.2.1
theorem dL_law_942 : decode cL_law 942 = .ok (.iadd, 1) := dgq (p := 10) daL_law_932 dbL_law_932.2.2.2.2.2.2.2.2.1
theorem dL_law_943 : decode cL_law 943 = .ok (.iaload, 1) := dgq (p := 11) daL_law_932 dbL_law_932.2.2.2.2.2.2.2.2.2
def dsL_law_944 : ByteArray := ⟨#[182, 1, 22, 54, 7, 167, 7, 183, 43, 42, 21, 5, 4, 96, 46, 42]⟩
theorem daL_law_944 : agB cL_law dsL_law_944 944 := agB_of (n := 16) (by decide +kernel)
theorem dbL_law_944 : (decode dsL_law_944 0 = .ok (.invokevirtual 278, 3) ∧ okop dsL_law_944 0 = true) ∧ (decode dsL_law_944 3 = .ok (.istore 7, 2) ∧ okop dsL_law_944 3 = true) ∧ (decode dsL_law_944 5 = .ok (.goto 1975, 3) ∧ okop dsL_law_944 5 = true) ∧ (decode dsL_law_944 8 = .ok (.aload_n 1, 1) ∧ okop dsL_law_944 8 = true) ∧ (decode dsL_law_944 9 = .ok (.aload_n 0, 1) ∧ okop dsL_law_944 9 = true) ∧ (decode dsL_law_944 10 = .ok (.iload 5, 2) ∧ okop dsL_law_944 10 = true) ∧ (decode dsL_law_944 12 = .ok (.iconst 1, 1) ∧ okop dsL_law_944 12 = true) ∧ (decode dsL_law_944 13 = .ok (.iadd, 1) ∧ okop dsL_law_944 13 = true) ∧ (decode dsL_law_944 14 = .ok (.iaload, 1) ∧ okop dsL_law_944 14 = true) ∧ (decode dsL_law_944 15 = .ok (.aload_n 0, 1) ∧ okop dsL_law_944 15 = true) := by decide +kernel
theorem dL_law_944 : decode cL_law 944 = .ok (.invokevirtual 278, 3) := dgq (p := 0) daL_law_944 dbL_law_944.1
theorem dL_law_947 : decode cL_law 947 = .ok (.istore 7, 2) := dgq (p := 3) daL_law_944 dbL_law_944.2.1
theorem dL_law_949 : decode cL_law 949 = .ok (.goto 1975, 3) := dgq (p := 5) daL_law_944 dbL_law_944.2.2.1
theorem dL_law_952 : decode cL_law 952 = .ok (.aload_n 1, 1) := dgq (p := 8) daL_law_944 dbL_law_944.2.2.2.1
theorem dL_law_953 : decode cL_law 953 = .ok (.aload_n 0, 1) := dgq (p := 9) daL_law_944 dbL_law_944.2.2.2.2.1
theorem dL_law_954 : decode cL_law 954 = .ok (.iload 5, 2) := dgq (p := 10) daL_law_944 dbL_law_944.2.2.2.2.2.1
theorem dL_law_956 : decode cL_law 956 = .ok (.iconst 1, 1) := dgq (p := 12) daL_law_944 dbL_law_944.2.2.2.2.2.2.1
theorem dL_law_957 : decode cL_law 957 = .ok (.iadd, 1) := dgq (p := 13) daL_law_944 dbL_law_944.2.2.2.2.2.2.2.1
theorem dL_law_958 : decode cL_law 958 = .ok (.iaload, 1) := dgq (p := 14) daL_law_944 dbL_law_944.2.2.2.2.2.2.2.2.1
theorem dL_law_959 : decode cL_law 959 = .ok (.aload_n 0, 1) := dgq (p := 15) daL_law_944 dbL_law_944.2.2.2.2.2.2.2.2.2
def dsL_law_960 : ByteArray := ⟨#[21, 5, 5, 96, 46, 42, 21, 5, 6, 96, 46, 42]⟩
theorem daL_law_960 : agB cL_law dsL_law_960 960 := agB_of (n := 12) (by decide +kernel)
theorem dbL_law_960 : (decode dsL_law_960 0 = .ok (.iload 5, 2) ∧ okop dsL_law_960 0 = true) ∧ (decode dsL_law_960 2 = .ok (.iconst 2, 1) ∧ okop dsL_law_960 2 = true) ∧ (decode dsL_law_960 3 = .ok (.iadd, 1) ∧ okop dsL_law_960 3 = true) ∧ (decode dsL_law_960 4 = .ok (.iaload, 1) ∧ okop dsL_law_960 4 = true) ∧ (decode dsL_law_960 5 = .ok (.aload_n 0, 1) ∧ okop dsL_law_960 5 = true) ∧ (decode dsL_law_960 6 = .ok (.iload 5, 2) ∧ okop dsL_law_960 6 = true) ∧ (decode dsL_law_960 8 = .ok (.iconst 3, 1) ∧ okop dsL_law_960 8 = true) ∧ (decode dsL_law_960 9 = .ok (.iadd, 1) ∧ okop dsL_law_960 9 = true) ∧ (decode dsL_law_960 10 = .ok (.iaload, 1) ∧ okop dsL_law_960 10 = true) ∧ (decode dsL_law_960 11 = .ok (.aload_n 0, 1) ∧ okop dsL_law_960 11 = true) := by decide +kernel
theorem dL_law_960 : decode cL_law 960 = .ok (.iload 5, 2) := dgq (p := 0) daL_law_960 dbL_law_960.1
theorem dL_law_962 : decode cL_law 962 = .ok (.iconst 2, 1) := dgq (p := 2) daL_law_960 dbL_law_960.2.1
theorem dL_law_963 : decode cL_law 963 = .ok (.iadd, 1) := dgq (p := 3) daL_law_960 dbL_law_960.2.2.1
theorem dL_law_964 : decode cL_law 964 = .ok (.iaload, 1) := dgq (p := 4) daL_law_960 dbL_law_960.2.2.2.1
theorem dL_law_965 : decode cL_law 965 = .ok (.aload_n 0, 1) := dgq (p := 5) daL_law_960 dbL_law_960.2.2.2.2.1
theorem dL_law_966 : decode cL_law 966 = .ok (.iload 5, 2) := dgq (p := 6) daL_law_960 dbL_law_960.2.2.2.2.2.1
theorem dL_law_968 : decode cL_law 968 = .ok (.iconst 3, 1) := dgq (p := 8) daL_law_960 dbL_law_960.2.2.2.2.2.2.1
theorem dL_law_969 : decode cL_law 969 = .ok (.iadd, 1) := dgq (p := 9) daL_law_960 dbL_law_960.2.2.2.2.2.2.2.1
theorem dL_law_970 : decode cL_law 970 = .ok (.iaload, 1) := dgq (p := 10) daL_law_960 dbL_law_960.2.2.2.2.2.2.2.2.1
theorem dL_law_971 : decode cL_law 971 = .ok (.aload_n 0, 1) := dgq (p := 11) daL_law_960 dbL_law_960.2.2.2.2.2.2.2.2.2
def dsL_law_972 : ByteArray := ⟨#[21, 5, 7, 96, 46, 45, 184, 1, 23, 54, 6, 44, 42, 21, 5]⟩
theorem daL_law_972 : agB cL_law dsL_law_972 972 := agB_of (n := 15) (by decide +kernel)
theorem dbL_law_972 : (decode dsL_law_972 0 = .ok (.iload 5, 2) ∧ okop dsL_law_972 0 = true) ∧ (decode dsL_law_972 2 = .ok (.iconst 4, 1) ∧ okop dsL_law_972 2 = true) ∧ (decode dsL_law_972 3 = .ok (.iadd, 1) ∧ okop dsL_law_972 3 = true) ∧ (decode dsL_law_972 4 = .ok (.iaload, 1) ∧ okop dsL_law_972 4 = true) ∧ (decode dsL_law_972 5 = .ok (.aload_n 3, 1) ∧ okop dsL_law_972 5 = true) ∧ (decode dsL_law_972 6 = .ok (.invokestatic 279, 3) ∧ okop dsL_law_972 6 = true) ∧ (decode dsL_law_972 9 = .ok (.istore 6, 2) ∧ okop dsL_law_972 9 = true) ∧ (decode dsL_law_972 11 = .ok (.aload_n 2, 1) ∧ okop dsL_law_972 11 = true) ∧ (decode dsL_law_972 12 = .ok (.aload_n 0, 1) ∧ okop dsL_law_972 12 = true) ∧ (decode dsL_law_972 13 = .ok (.iload 5, 2) ∧ okop dsL_law_972 13 = true) := by decide +kernel
theorem dL_law_972 : decode cL_law 972 = .ok (.iload 5, 2) := dgq (p := 0) daL_law_972 dbL_law_972.1
theorem dL_law_974 : decode cL_law 974 = .ok (.iconst 4, 1) := dgq (p := 2) daL_law_972 dbL_law_972.2.1
theorem dL_law_975 : decode cL_law 975 = .ok (.iadd, 1) := dgq (p := 3) daL_law_972 dbL_law_972.2.2.1
theorem dL_law_976 : decode cL_law 976 = .ok (.iaload, 1) := dgq (p := 4) daL_law_972 dbL_law_972.2.2.2.1
theorem dL_law_977 : decode cL_law 977 = .ok (.aload_n 3, 1) := dgq (p := 5) daL_law_972 dbL_law_972.2.2.2.2.1
theorem dL_law_978 : decode cL_law 978 = .ok (.invokestatic 279, 3) := dgq (p := 6) daL_law_972 dbL_law_972.2.2.2.2.2.1
theorem dL_law_981 : decode cL_law 981 = .ok (.istore 6, 2) := dgq (p := 9) daL_law_972 dbL_law_972.2.2.2.2.2.2.1
theorem dL_law_983 : decode cL_law 983 = .ok (.aload_n 2, 1) := dgq (p := 11) daL_law_972 dbL_law_972.2.2.2.2.2.2.2.1
theorem dL_law_984 : decode cL_law 984 = .ok (.aload_n 0, 1) := dgq (p := 12) daL_law_972 dbL_law_972.2.2.2.2.2.2.2.2.1
theorem dL_law_985 : decode cL_law 985 = .ok (.iload 5, 2) := dgq (p := 13) daL_law_972 dbL_law_972.2.2.2.2.2.2.2.2.2
def dsL_law_987 : ByteArray := ⟨#[4, 96, 46, 42, 21, 5, 5, 96, 46, 42, 21, 5]⟩
theorem daL_law_987 : agB cL_law dsL_law_987 987 := agB_of (n := 12) (by decide +kernel)
theorem dbL_law_987 : (decode dsL_law_987 0 = .ok (.iconst 1, 1) ∧ okop dsL_law_987 0 = true) ∧ (decode dsL_law_987 1 = .ok (.iadd, 1) ∧ okop dsL_law_987 1 = true) ∧ (decode dsL_law_987 2 = .ok (.iaload, 1) ∧ okop dsL_law_987 2 = true) ∧ (decode dsL_law_987 3 = .ok (.aload_n 0, 1) ∧ okop dsL_law_987 3 = true) ∧ (decode dsL_law_987 4 = .ok (.iload 5, 2) ∧ okop dsL_law_987 4 = true) ∧ (decode dsL_law_987 6 = .ok (.iconst 2, 1) ∧ okop dsL_law_987 6 = true) ∧ (decode dsL_law_987 7 = .ok (.iadd, 1) ∧ okop dsL_law_987 7 = true) ∧ (decode dsL_law_987 8 = .ok (.iaload, 1) ∧ okop dsL_law_987 8 = true) ∧ (decode dsL_law_987 9 = .ok (.aload_n 0, 1) ∧ okop dsL_law_987 9 = true) ∧ (decode dsL_law_987 10 = .ok (.iload 5, 2) ∧ okop dsL_law_987 10 = true) := by decide +kernel
theorem dL_law_987 : decode cL_law 987 = .ok (.iconst 1, 1) := dgq (p := 0) daL_law_987 dbL_law_987.1
theorem dL_law_988 : decode cL_law 988 = .ok (.iadd, 1) := dgq (p := 1) daL_law_987 dbL_law_987.2.1
theorem dL_law_989 : decode cL_law 989 = .ok (.iaload, 1) := dgq (p := 2) daL_law_987 dbL_law_987.2.2.1
theorem dL_law_990 : decode cL_law 990 = .ok (.aload_n 0, 1) := dgq (p := 3) daL_law_987 dbL_law_987.2.2.2.1
theorem dL_law_991 : decode cL_law 991 = .ok (.iload 5, 2) := dgq (p := 4) daL_law_987 dbL_law_987.2.2.2.2.1
theorem dL_law_993 : decode cL_law 993 = .ok (.iconst 2, 1) := dgq (p := 6) daL_law_987 dbL_law_987.2.2.2.2.2.1
theorem dL_law_994 : decode cL_law 994 = .ok (.iadd, 1) := dgq (p := 7) daL_law_987 dbL_law_987.2.2.2.2.2.2.1
theorem dL_law_995 : decode cL_law 995 = .ok (.iaload, 1) := dgq (p := 8) daL_law_987 dbL_law_987.2.2.2.2.2.2.2.1
theorem dL_law_996 : decode cL_law 996 = .ok (.aload_n 0, 1) := dgq (p := 9) daL_law_987 dbL_law_987.2.2.2.2.2.2.2.2.1
theorem dL_law_997 : decode cL_law 997 = .ok (.iload 5, 2) := dgq (p := 10) daL_law_987 dbL_law_987.2.2.2.2.2.2.2.2.2
def dsL_law_999 : ByteArray := ⟨#[6, 96, 46, 42, 21, 5, 7, 96, 46, 182, 1, 25, 54, 7]⟩
theorem daL_law_999 : agB cL_law dsL_law_999 999 := agB_of (n := 14) (by decide +kernel)
theorem dbL_law_999 : (decode dsL_law_999 0 = .ok (.iconst 3, 1) ∧ okop dsL_law_999 0 = true) ∧ (decode dsL_law_999 1 = .ok (.iadd, 1) ∧ okop dsL_law_999 1 = true) ∧ (decode dsL_law_999 2 = .ok (.iaload, 1) ∧ okop dsL_law_999 2 = true) ∧ (decode dsL_law_999 3 = .ok (.aload_n 0, 1) ∧ okop dsL_law_999 3 = true) ∧ (decode dsL_law_999 4 = .ok (.iload 5, 2) ∧ okop dsL_law_999 4 = true) ∧ (decode dsL_law_999 6 = .ok (.iconst 4, 1) ∧ okop dsL_law_999 6 = true) ∧ (decode dsL_law_999 7 = .ok (.iadd, 1) ∧ okop dsL_law_999 7 = true) ∧ (decode dsL_law_999 8 = .ok (.iaload, 1) ∧ okop dsL_law_999 8 = true) ∧ (decode dsL_law_999 9 = .ok (.invokevirtual 281, 3) ∧ okop dsL_law_999 9 = true) ∧ (decode dsL_law_999 12 = .ok (.istore 7, 2) ∧ okop dsL_law_999 12 = true) := by decide +kernel
theorem dL_law_999 : decode cL_law 999 = .ok (.iconst 3, 1) := dgq (p := 0) daL_law_999 dbL_law_999.1
theorem dL_law_1000 : decode cL_law 1000 = .ok (.iadd, 1) := dgq (p := 1) daL_law_999 dbL_law_999.2.1
theorem dL_law_1001 : decode cL_law 1001 = .ok (.iaload, 1) := dgq (p := 2) daL_law_999 dbL_law_999.2.2.1
theorem dL_law_1002 : decode cL_law 1002 = .ok (.aload_n 0, 1) := dgq (p := 3) daL_law_999 dbL_law_999.2.2.2.1
theorem dL_law_1003 : decode cL_law 1003 = .ok (.iload 5, 2) := dgq (p := 4) daL_law_999 dbL_law_999.2.2.2.2.1
theorem dL_law_1005 : decode cL_law 1005 = .ok (.iconst 4, 1) := dgq (p := 6) daL_law_999 dbL_law_999.2.2.2.2.2.1
theorem dL_law_1006 : decode cL_law 1006 = .ok (.iadd, 1) := dgq (p := 7) daL_law_999 dbL_law_999.2.2.2.2.2.2.1
theorem dL_law_1007 : decode cL_law 1007 = .ok (.iaload, 1) := dgq (p := 8) daL_law_999 dbL_law_999.2.2.2.2.2.2.2.1
theorem dL_law_1008 : decode cL_law 1008 = .ok (.invokevirtual 281, 3) := dgq (p := 9) daL_law_999 dbL_law_999.2.2.2.2.2.2.2.2.1
theorem dL_law_1011 : decode cL_law 1011 = .ok (.istore 7, 2) := dgq (p := 12) daL_law_999 dbL_law_999.2.2.2.2.2.2.2.2.2
def dsL_law_1013 : ByteArray := ⟨#[167, 7, 119, 43, 42, 21, 5, 4, 96, 46, 42, 21, 5, 5]⟩
theorem daL_law_1013 : agB cL_law dsL_law_1013 1013 := agB_of (n := 14) (by decide +kernel)
theorem dbL_law_1013 : (decode dsL_law_1013 0 = .ok (.goto 1911, 3) ∧ okop dsL_law_1013 0 = true) ∧ (decode dsL_law_1013 3 = .ok (.aload_n 1, 1) ∧ okop dsL_law_1013 3 = true) ∧ (decode dsL_law_1013 4 = .ok (.aload_n 0, 1) ∧ okop dsL_law_1013 4 = true) ∧ (decode dsL_law_1013 5 = .ok (.iload 5, 2) ∧ okop dsL_law_1013 5 = true) ∧ (decode dsL_law_1013 7 = .ok (.iconst 1, 1) ∧ okop dsL_law_1013 7 = true) ∧ (decode dsL_law_1013 8 = .ok (.iadd, 1) ∧ okop dsL_law_1013 8 = true) ∧ (decode dsL_law_1013 9 = .ok (.iaload, 1) ∧ okop dsL_law_1013 9 = true) ∧ (decode dsL_law_1013 10 = .ok (.aload_n 0, 1) ∧ okop dsL_law_1013 10 = true) ∧ (decode dsL_law_1013 11 = .ok (.iload 5, 2) ∧ okop dsL_law_1013 11 = true) ∧ (decode dsL_law_1013 13 = .ok (.iconst 2, 1) ∧ okop dsL_law_1013 13 = true) := by decide +kernel
theorem dL_law_1013 : decode cL_law 1013 = .ok (.goto 1911, 3) := dgq (p := 0) daL_law_1013 dbL_law_1013.1
theorem dL_law_1016 : decode cL_law 1016 = .ok (.aload_n 1, 1) := dgq (p := 3) daL_law_1013 dbL_law_1013.2.1
theorem dL_law_1017 : decode cL_law 1017 = .ok (.aload_n 0, 1) := dgq (p := 4) daL_law_1013 dbL_law_1013.2.2.1
theorem dL_law_1018 : decode cL_law 1018 = .ok (.iload 5, 2) := dgq (p := 5) daL_law_1013 dbL_law_1013.2.2.2.1
theorem dL_law_1020 : decode cL_law 1020 = .ok (.iconst 1, 1) := dgq (p := 7) daL_law_1013 dbL_law_1013.2.2.2.2.1
theorem dL_law_1021 : decode cL_law 1021 = .ok (.iadd, 1) := dgq (p := 8) daL_law_1013 dbL_law_1013.2.2.2.2.2.1
theorem dL_law_1022 : decode cL_law 1022 = .ok (.iaload, 1) := dgq (p := 9) daL_law_1013 dbL_law_1013.2.2.2.2.2.2.1
theorem dL_law_1023 : decode cL_law 1023 = .ok (.aload_n 0, 1) := dgq (p := 10) daL_law_1013 dbL_law_1013.2.2.2.2.2.2.2.1
theorem dL_law_1024 : decode cL_law 1024 = .ok (.iload 5, 2) := dgq (p := 11) daL_law_1013 dbL_law_1013.2.2.2.2.2.2.2.2.1
theorem dL_law_1026 : decode cL_law 1026 = .ok (.iconst 2, 1) := dgq (p := 13) daL_law_1013 dbL_law_1013.2.2.2.2.2.2.2.2.2
def dsL_law_1027 : ByteArray := ⟨#[96, 46, 42, 21, 5, 6, 96, 46, 45, 184, 1, 26, 54, 6]⟩
theorem daL_law_1027 : agB cL_law dsL_law_1027 1027 := agB_of (n := 14) (by decide +kernel)
theorem dbL_law_1027 : (decode dsL_law_1027 0 = .ok (.iadd, 1) ∧ okop dsL_law_1027 0 = true) ∧ (decode dsL_law_1027 1 = .ok (.iaload, 1) ∧ okop dsL_law_1027 1 = true) ∧ (decode dsL_law_1027 2 = .ok (.aload_n 0, 1) ∧ okop dsL_law_1027 2 = true) ∧ (decode dsL_law_1027 3 = .ok (.iload 5, 2) ∧ okop dsL_law_1027 3 = true) ∧ (decode dsL_law_1027 5 = .ok (.iconst 3, 1) ∧ okop dsL_law_1027 5 = true) ∧ (decode dsL_law_1027 6 = .ok (.iadd, 1) ∧ okop dsL_law_1027 6 = true) ∧ (decode dsL_law_1027 7 = .ok (.iaload, 1) ∧ okop dsL_law_1027 7 = true) ∧ (decode dsL_law_1027 8 = .ok (.aload_n 3, 1) ∧ okop dsL_law_1027 8 = true) ∧ (decode dsL_law_1027 9 = .ok (.invokestatic 282, 3) ∧ okop dsL_law_1027 9 = true) ∧ (decode dsL_law_1027 12 = .ok (.istore 6, 2) ∧ okop dsL_law_1027 12 = true) := by decide +kernel
theorem dL_law_1027 : decode cL_law 1027 = .ok (.iadd, 1) := dgq (p := 0) daL_law_1027 dbL_law_1027.1
theorem dL_law_1028 : decode cL_law 1028 = .ok (.iaload, 1) := dgq (p := 1) daL_law_1027 dbL_law_1027.2.1
theorem dL_law_1029 : decode cL_law 1029 = .ok (.aload_n 0, 1) := dgq (p := 2) daL_law_1027 dbL_law_1027.2.2.1
theorem dL_law_1030 : decode cL_law 1030 = .ok (.iload 5, 2) := dgq (p := 3) daL_law_1027 dbL_law_1027.2.2.2.1
theorem dL_law_1032 : decode cL_law 1032 = .ok (.iconst 3, 1) := dgq (p := 5) daL_law_1027 dbL_law_1027.2.2.2.2.1
theorem dL_law_1033 : decode cL_law 1033 = .ok (.iadd, 1) := dgq (p := 6) daL_law_1027 dbL_law_1027.2.2.2.2.2.1
theorem dL_law_1034 : decode cL_law 1034 = .ok (.iaload, 1) := dgq (p := 7) daL_law_1027 dbL_law_1027.2.2.2.2.2.2.1
theorem dL_law_1035 : decode cL_law 1035 = .ok (.aload_n 3, 1) := dgq (p := 8) daL_law_1027 dbL_law_1027.2.2.2.2.2.2.2.1
theorem dL_law_1036 : decode cL_law 1036 = .ok (.invokestatic 282, 3) := dgq (p := 9) daL_law_1027 dbL_law_1027.2.2.2.2.2.2.2.2.1
theorem dL_law_1039 : decode cL_law 1039 = .ok (.istore 6, 2) := dgq (p := 12) daL_law_1027 dbL_law_1027.2.2.2.2.2.2.2.2.2
def dsL_law_1041 : ByteArray := ⟨#[44, 42, 21, 5, 4, 96, 46, 42, 21, 5, 5, 96]⟩
theorem daL_law_1041 : agB cL_law dsL_law_1041 1041 := agB_of (n := 12) (by decide +kernel)
theorem dbL_law_1041 : (decode dsL_law_1041 0 = .ok (.aload_n 2, 1) ∧ okop dsL_law_1041 0 = true) ∧ (decode dsL_law_1041 1 = .ok (.aload_n 0, 1) ∧ okop dsL_law_1041 1 = true) ∧ (decode dsL_law_1041 2 = .ok (.iload 5, 2) ∧ okop dsL_law_1041 2 = true) ∧ (decode dsL_law_1041 4 = .ok (.iconst 1, 1) ∧ okop dsL_law_1041 4 = true) ∧ (decode dsL_law_1041 5 = .ok (.iadd, 1) ∧ okop dsL_law_1041 5 = true) ∧ (decode dsL_law_1041 6 = .ok (.iaload, 1) ∧ okop dsL_law_1041 6 = true) ∧ (decode dsL_law_1041 7 = .ok (.aload_n 0, 1) ∧ okop dsL_law_1041 7 = true) ∧ (decode dsL_law_1041 8 = .ok (.iload 5, 2) ∧ okop dsL_law_1041 8 = true) ∧ (decode dsL_law_1041 10 = .ok (.iconst 2, 1) ∧ okop dsL_law_1041 10 = true) ∧ (decode dsL_law_1041 11 = .ok (.iadd, 1) ∧ okop dsL_law_1041 11 = true) := by decide +kernel
theorem dL_law_1041 : decode cL_law 1041 = .ok (.aload_n 2, 1) := dgq (p := 0) daL_law_1041 dbL_law_1041.1
theorem dL_law_1042 : decode cL_law 1042 = .ok (.aload_n 0, 1) := dgq (p := 1) daL_law_1041 dbL_law_1041.2.1
theorem dL_law_1043 : decode cL_law 1043 = .ok (.iload 5, 2) := dgq (p := 2) daL_law_1041 dbL_law_1041.2.2.1
theorem dL_law_1045 : decode cL_law 1045 = .ok (.iconst 1, 1) := dgq (p := 4) daL_law_1041 dbL_law_1041.2.2.2.1
theorem dL_law_1046 : decode cL_law 1046 = .ok (.iadd, 1) := dgq (p := 5) daL_law_1041 dbL_law_1041.2.2.2.2.1
theorem dL_law_1047 : decode cL_law 1047 = .ok (.iaload, 1) := dgq (p := 6) daL_law_1041 dbL_law_1041.2.2.2.2.2.1
theorem dL_law_1048 : decode cL_law 1048 = .ok (.aload_n 0, 1) := dgq (p := 7) daL_law_1041 dbL_law_1041.2.2.2.2.2.2.1
theorem dL_law_1049 : decode cL_law 1049 = .ok (.iload 5, 2) := dgq (p := 8) daL_law_1041 dbL_law_1041.2.2.2.2.2.2.2.1
theorem dL_law_1051 : decode cL_law 1051 = .ok (.iconst 2, 1) := dgq (p := 10) daL_law_1041 dbL_law_1041.2.2.2.2.2.2.2.2.1
theorem dL_law_1052 : decode cL_law 1052 = .ok (.iadd, 1) := dgq (p := 11) daL_law_1041 dbL_law_1041.2.2.2.2.2.2.2.2.2
def dsL_law_1053 : ByteArray := ⟨#[46, 42, 21, 5, 6, 96, 46, 182, 1, 29, 54, 7, 167, 7, 67, 43]⟩
theorem daL_law_1053 : agB cL_law dsL_law_1053 1053 := agB_of (n := 16) (by decide +kernel)
theorem dbL_law_1053 : (decode dsL_law_1053 0 = .ok (.iaload, 1) ∧ okop dsL_law_1053 0 = true) ∧ (decode dsL_law_1053 1 = .ok (.aload_n 0, 1) ∧ okop dsL_law_1053 1 = true) ∧ (decode dsL_law_1053 2 = .ok (.iload 5, 2) ∧ okop dsL_law_1053 2 = true) ∧ (decode dsL_law_1053 4 = .ok (.iconst 3, 1) ∧ okop dsL_law_1053 4 = true) ∧ (decode dsL_law_1053 5 = .ok (.iadd, 1) ∧ okop dsL_law_1053 5 = true) ∧ (decode dsL_law_1053 6 = .ok (.iaload, 1) ∧ okop dsL_law_1053 6 = true) ∧ (decode dsL_law_1053 7 = .ok (.invokevirtual 285, 3) ∧ okop dsL_law_1053 7 = true) ∧ (decode dsL_law_1053 10 = .ok (.istore 7, 2) ∧ okop dsL_law_1053 10 = true) ∧ (decode dsL_law_1053 12 = .ok (.goto 1859, 3) ∧ okop dsL_law_1053 12 = true) ∧ (decode dsL_law_1053 15 = .ok (.aload_n 1, 1) ∧ okop dsL_law_1053 15 = true) := by decide +kernel
theorem dL_law_1053 : decode cL_law 1053 = .ok (.iaload, 1) := dgq (p := 0) daL_law_1053 dbL_law_1053.1
theorem dL_law_1054 : decode cL_law 1054 = .ok (.aload_n 0, 1) := dgq (p := 1) daL_law_1053 dbL_law_1053.2.1
theorem dL_law_1055 : decode cL_law 1055 = .ok (.iload 5, 2) := dgq (p := 2) daL_law_1053 dbL_law_1053.2.2.1
theorem dL_law_1057 : decode cL_law 1057 = .ok (.iconst 3, 1) := dgq (p := 4) daL_law_1053 dbL_law_1053.2.2.2.1
theorem dL_law_1058 : decode cL_law 1058 = .ok (.iadd, 1) := dgq (p := 5) daL_law_1053 dbL_law_1053.2.2.2.2.1
theorem dL_law_1059 : decode cL_law 1059 = .ok (.iaload, 1) := dgq (p := 6) daL_law_1053 dbL_law_1053.2.2.2.2.2.1
theorem dL_law_1060 : decode cL_law 1060 = .ok (.invokevirtual 285, 3) := dgq (p := 7) daL_law_1053 dbL_law_1053.2.2.2.2.2.2.1
theorem dL_law_1063 : decode cL_law 1063 = .ok (.istore 7, 2) := dgq (p := 10) daL_law_1053 dbL_law_1053.2.2.2.2.2.2.2.1
theorem dL_law_1065 : decode cL_law 1065 = .ok (.goto 1859, 3) := dgq (p := 12) daL_law_1053 dbL_law_1053.2.2.2.2.2.2.2.2.1
theorem dL_law_1068 : decode cL_law 1068 = .ok (.aload_n 1, 1) := dgq (p := 15) daL_law_1053 dbL_law_1053.2.2.2.2.2.2.2.2.2
def dsL_law_1069 : ByteArray := ⟨#[42, 21, 5, 4, 96, 46, 42, 21, 5, 5, 96, 46]⟩
theorem daL_law_1069 : agB cL_law dsL_law_1069 1069 := agB_of (n := 12) (by decide +kernel)
theorem dbL_law_1069 : (decode dsL_law_1069 0 = .ok (.aload_n 0, 1) ∧ okop dsL_law_1069 0 = true) ∧ (decode dsL_law_1069 1 = .ok (.iload 5, 2) ∧ okop dsL_law_1069 1 = true) ∧ (decode dsL_law_1069 3 = .ok (.iconst 1, 1) ∧ okop dsL_law_1069 3 = true) ∧ (decode dsL_law_1069 4 = .ok (.iadd, 1) ∧ okop dsL_law_1069 4 = true) ∧ (decode dsL_law_1069 5 = .ok (.iaload, 1) ∧ okop dsL_law_1069 5 = true) ∧ (decode dsL_law_1069 6 = .ok (.aload_n 0, 1) ∧ okop dsL_law_1069 6 = true) ∧ (decode dsL_law_1069 7 = .ok (.iload 5, 2) ∧ okop dsL_law_1069 7 = true) ∧ (decode dsL_law_1069 9 = .ok (.iconst 2, 1) ∧ okop dsL_law_1069 9 = true) ∧ (decode dsL_law_1069 10 = .ok (.iadd, 1) ∧ okop dsL_law_1069 10 = true) ∧ (decode dsL_law_1069 11 = .ok (.iaload, 1) ∧ okop dsL_law_1069 11 = true) := by decide +kernel
theorem dL_law_1069 : decode cL_law 1069 = .ok (.aload_n 0, 1) := dgq (p := 0) daL_law_1069 dbL_law_1069.1
theorem dL_law_1070 : decode cL_law 1070 = .ok (.iload 5, 2) := dgq (p := 1) daL_law_1069 dbL_law_1069.2.1
theorem dL_law_1072 : decode cL_law 1072 = .ok (.iconst 1, 1) := dgq (p := 3) daL_law_1069 dbL_law_1069.2.2.1
theorem dL_law_1073 : decode cL_law 1073 = .ok (.iadd, 1) := dgq (p := 4) daL_law_1069 dbL_law_1069.2.2.2.1
theorem dL_law_1074 : decode cL_law 1074 = .ok (.iaload, 1) := dgq (p := 5) daL_law_1069 dbL_law_1069.2.2.2.2.1
theorem dL_law_1075 : decode cL_law 1075 = .ok (.aload_n 0, 1) := dgq (p := 6) daL_law_1069 dbL_law_1069.2.2.2.2.2.1
theorem dL_law_1076 : decode cL_law 1076 = .ok (.iload 5, 2) := dgq (p := 7) daL_law_1069 dbL_law_1069.2.2.2.2.2.2.1
theorem dL_law_1078 : decode cL_law 1078 = .ok (.iconst 2, 1) := dgq (p := 9) daL_law_1069 dbL_law_1069.2.2.2.2.2.2.2.1
theorem dL_law_1079 : decode cL_law 1079 = .ok (.iadd, 1) := dgq (p := 10) daL_law_1069 dbL_law_1069.2.2.2.2.2.2.2.2.1
theorem dL_law_1080 : decode cL_law 1080 = .ok (.iaload, 1) := dgq (p := 11) daL_law_1069 dbL_law_1069.2.2.2.2.2.2.2.2.2
def dsL_law_1081 : ByteArray := ⟨#[42, 21, 5, 6, 96, 46, 42, 21, 5, 7, 96, 46]⟩
theorem daL_law_1081 : agB cL_law dsL_law_1081 1081 := agB_of (n := 12) (by decide +kernel)
theorem dbL_law_1081 : (decode dsL_law_1081 0 = .ok (.aload_n 0, 1) ∧ okop dsL_law_1081 0 = true) ∧ (decode dsL_law_1081 1 = .ok (.iload 5, 2) ∧ okop dsL_law_1081 1 = true) ∧ (decode dsL_law_1081 3 = .ok (.iconst 3, 1) ∧ okop dsL_law_1081 3 = true) ∧ (decode dsL_law_1081 4 = .ok (.iadd, 1) ∧ okop dsL_law_1081 4 = true) ∧ (decode dsL_law_1081 5 = .ok (.iaload, 1) ∧ okop dsL_law_1081 5 = true) ∧ (decode dsL_law_1081 6 = .ok (.aload_n 0, 1) ∧ okop dsL_law_1081 6 = true) ∧ (decode dsL_law_1081 7 = .ok (.iload 5, 2) ∧ okop dsL_law_1081 7 = true) ∧ (decode dsL_law_1081 9 = .ok (.iconst 4, 1) ∧ okop dsL_law_1081 9 = true) ∧ (decode dsL_law_1081 10 = .ok (.iadd, 1) ∧ okop dsL_law_1081 10 = true) ∧ (decode dsL_law_1081 11 = .ok (.iaload, 1) ∧ okop dsL_law_1081 11 = true) := by decide +kernel
theorem dL_law_1081 : decode cL_law 1081 = .ok (.aload_n 0, 1) := dgq (p := 0) daL_law_1081 dbL_law_1081.1
theorem dL_law_1082 : decode cL_law 1082 = .ok (.iload 5, 2) := dgq (p := 1) daL_law_1081 dbL_law_1081.2.1
theorem dL_law_1084 : decode cL_law 1084 = .ok (.iconst 3, 1) := dgq (p := 3) daL_law_1081 dbL_law_1081.2.2.1
theorem dL_law_1085 : decode cL_law 1085 = .ok (.iadd, 1) := dgq (p := 4) daL_law_1081 dbL_law_1081.2.2.2.1
theorem dL_law_1086 : decode cL_law 1086 = .ok (.iaload, 1) := dgq (p := 5) daL_law_1081 dbL_law_1081.2.2.2.2.1
theorem dL_law_1087 : decode cL_law 1087 = .ok (.aload_n 0, 1) := dgq (p := 6) daL_law_1081 dbL_law_1081.2.2.2.2.2.1
theorem dL_law_1088 : decode cL_law 1088 = .ok (.iload 5, 2) := dgq (p := 7) daL_law_1081 dbL_law_1081.2.2.2.2.2.2.1
theorem dL_law_1090 : decode cL_law 1090 = .ok (.iconst 4, 1) := dgq (p := 9) daL_law_1081 dbL_law_1081.2.2.2.2.2.2.2.1
theorem dL_law_1091 : decode cL_law 1091 = .ok (.iadd, 1) := dgq (p := 10) daL_law_1081 dbL_law_1081.2.2.2.2.2.2.2.2.1
theorem dL_law_1092 : decode cL_law 1092 = .ok (.iaload, 1) := dgq (p := 11) daL_law_1081 dbL_law_1081.2.2.2.2.2.2.2.2.2
def dsL_law_1093 : ByteArray := ⟨#[45, 184, 1, 30, 54, 6, 44, 42, 21, 5, 4, 96, 46, 42]⟩
theorem daL_law_1093 : agB cL_law dsL_law_1093 1093 := agB_of (n := 14) (by decide +kernel)
theorem dbL_law_1093 : (decode dsL_law_1093 0 = .ok (.aload_n 3, 1) ∧ okop dsL_law_1093 0 = true) ∧ (decode dsL_law_1093 1 = .ok (.invokestatic 286, 3) ∧ okop dsL_law_1093 1 = true) ∧ (decode dsL_law_1093 4 = .ok (.istore 6, 2) ∧ okop dsL_law_1093 4 = true) ∧ (decode dsL_law_1093 6 = .ok (.aload_n 2, 1) ∧ okop dsL_law_1093 6 = true) ∧ (decode dsL_law_1093 7 = .ok (.aload_n 0, 1) ∧ okop dsL_law_1093 7 = true) ∧ (decode dsL_law_1093 8 = .ok (.iload 5, 2) ∧ okop dsL_law_1093 8 = true) ∧ (decode dsL_law_1093 10 = .ok (.iconst 1, 1) ∧ okop dsL_law_1093 10 = true) ∧ (decode dsL_law_1093 11 = .ok (.iadd, 1) ∧ okop dsL_law_1093 11 = true) ∧ (decode dsL_law_1093 12 = .ok (.iaload, 1) ∧ okop dsL_law_1093 12 = true) ∧ (decode dsL_law_1093 13 = .ok (.aload_n 0, 1) ∧ okop dsL_law_1093 13 = true) := by decide +kernel
theorem dL_law_1093 : decode cL_law 1093 = .ok (.aload_n 3, 1) := dgq (p := 0) daL_law_1093 dbL_law_1093.1
theorem dL_law_1094 : decode cL_law 1094 = .ok (.invokestatic 286, 3) := dgq (p := 1) daL_law_1093 dbL_law_1093.2.1
theorem dL_law_1097 : decode cL_law 1097 = .ok (.istore 6, 2) := dgq (p := 4) daL_law_1093 dbL_law_1093.2.2.1
theorem dL_law_1099 : decode cL_law 1099 = .ok (.aload_n 2, 1) := dgq (p := 6) daL_law_1093 dbL_law_1093.2.2.2.1
theorem dL_law_1100 : decode cL_law 1100 = .ok (.aload_n 0, 1) := dgq (p := 7) daL_law_1093 dbL_law_1093.2.2.2.2.1
theorem dL_law_1101 : decode cL_law 1101 = .ok (.iload 5, 2) := dgq (p := 8) daL_law_1093 dbL_law_1093.2.2.2.2.2.1
theorem dL_law_1103 : decode cL_law 1103 = .ok (.iconst 1, 1) := dgq (p := 10) daL_law_1093 dbL_law_1093.2.2.2.2.2.2.1
theorem dL_law_1104 : decode cL_law 1104 = .ok (.iadd, 1) := dgq (p := 11) daL_law_1093 dbL_law_1093.2.2.2.2.2.2.2.1
theorem dL_law_1105 : decode cL_law 1105 = .ok (.iaload, 1) := dgq (p := 12) daL_law_1093 dbL_law_1093.2.2.2.2.2.2.2.2.1
theorem dL_law_1106 : decode cL_law 1106 = .ok (.aload_n 0, 1) := dgq (p := 13) daL_law_1093 dbL_law_1093.2.2.2.2.2.2.2.2.2
def dsL_law_1107 : ByteArray := ⟨#[21, 5, 5, 96, 46, 42, 21, 5, 6, 96, 46, 42]⟩
theorem daL_law_1107 : agB cL_law dsL_law_1107 1107 := agB_of (n := 12) (by decide +kernel)
theorem dbL_law_1107 : (decode dsL_law_1107 0 = .ok (.iload 5, 2) ∧ okop dsL_law_1107 0 = true) ∧ (decode dsL_law_1107 2 = .ok (.iconst 2, 1) ∧ okop dsL_law_1107 2 = true) ∧ (decode dsL_law_1107 3 = .ok (.iadd, 1) ∧ okop dsL_law_1107 3 = true) ∧ (decode dsL_law_1107 4 = .ok (.iaload, 1) ∧ okop dsL_law_1107 4 = true) ∧ (decode dsL_law_1107 5 = .ok (.aload_n 0, 1) ∧ okop dsL_law_1107 5 = true) ∧ (decode dsL_law_1107 6 = .ok (.iload 5, 2) ∧ okop dsL_law_1107 6 = true) ∧ (decode dsL_law_1107 8 = .ok (.iconst 3, 1) ∧ okop dsL_law_1107 8 = true) ∧ (decode dsL_law_1107 9 = .ok (.iadd, 1) ∧ okop dsL_law_1107 9 = true) ∧ (decode dsL_law_1107 10 = .ok (.iaload, 1) ∧ okop dsL_law_1107 10 = true) ∧ (decode dsL_law_1107 11 = .ok (.aload_n 0, 1) ∧ okop dsL_law_1107 11 = true) := by decide +kernel
theorem dL_law_1107 : decode cL_law 1107 = .ok (.iload 5, 2) := dgq (p := 0) daL_law_1107 dbL_law_1107.1
theorem dL_law_1109 : decode cL_law 1109 = .ok (.iconst 2, 1) := dgq (p := 2) daL_law_1107 dbL_law_1107.2.1
theorem dL_law_1110 : decode cL_law 1110 = .ok (.iadd, 1) := dgq (p := 3) daL_law_1107 dbL_law_1107.2.2.1
theorem dL_law_1111 : decode cL_law 1111 = .ok (.iaload, 1) := dgq (p := 4) daL_law_1107 dbL_law_1107.2.2.2.1
theorem dL_law_1112 : decode cL_law 1112 = .ok (.aload_n 0, 1) := dgq (p := 5) daL_law_1107 dbL_law_1107.2.2.2.2.1
theorem dL_law_1113 : decode cL_law 1113 = .ok (.iload 5, 2) := dgq (p := 6) daL_law_1107 dbL_law_1107.2.2.2.2.2.1
theorem dL_law_1115 : decode cL_law 1115 = .ok (.iconst 3, 1) := dgq (p := 8) daL_law_1107 dbL_law_1107.2.2.2.2.2.2.1
theorem dL_law_1116 : decode cL_law 1116 = .ok (.iadd, 1) := dgq (p := 9) daL_law_1107 dbL_law_1107.2.2.2.2.2.2.2.1
theorem dL_law_1117 : decode cL_law 1117 = .ok (.iaload, 1) := dgq (p := 10) daL_law_1107 dbL_law_1107.2.2.2.2.2.2.2.2.1
theorem dL_law_1118 : decode cL_law 1118 = .ok (.aload_n 0, 1) := dgq (p := 11) daL_law_1107 dbL_law_1107.2.2.2.2.2.2.2.2.2
def dsL_law_1119 : ByteArray := ⟨#[21, 5, 7, 96, 46, 182, 1, 32, 54, 7, 167, 7, 3, 43, 42, 21, 5]⟩
theorem daL_law_1119 : agB cL_law dsL_law_1119 1119 := agB_of (n := 17) (by decide +kernel)
theorem dbL_law_1119 : (decode dsL_law_1119 0 = .ok (.iload 5, 2) ∧ okop dsL_law_1119 0 = true) ∧ (decode dsL_law_1119 2 = .ok (.iconst 4, 1) ∧ okop dsL_law_1119 2 = true) ∧ (decode dsL_law_1119 3 = .ok (.iadd, 1) ∧ okop dsL_law_1119 3 = true) ∧ (decode dsL_law_1119 4 = .ok (.iaload, 1) ∧ okop dsL_law_1119 4 = true) ∧ (decode dsL_law_1119 5 = .ok (.invokevirtual 288, 3) ∧ okop dsL_law_1119 5 = true) ∧ (decode dsL_law_1119 8 = .ok (.istore 7, 2) ∧ okop dsL_law_1119 8 = true) ∧ (decode dsL_law_1119 10 = .ok (.goto 1795, 3) ∧ okop dsL_law_1119 10 = true) ∧ (decode dsL_law_1119 13 = .ok (.aload_n 1, 1) ∧ okop dsL_law_1119 13 = true) ∧ (decode dsL_law_1119 14 = .ok (.aload_n 0, 1) ∧ okop dsL_law_1119 14 = true) ∧ (decode dsL_law_1119 15 = .ok (.iload 5, 2) ∧ okop dsL_law_1119 15 = true) := by decide +kernel
theorem dL_law_1119 : decode cL_law 1119 = .ok (.iload 5, 2) := dgq (p := 0) daL_law_1119 dbL_law_1119.1
theorem dL_law_1121 : decode cL_law 1121 = .ok (.iconst 4, 1) := dgq (p := 2) daL_law_1119 dbL_law_1119.2.1
theorem dL_law_1122 : decode cL_law 1122 = .ok (.iadd, 1) := dgq (p := 3) daL_law_1119 dbL_law_1119.2.2.1
theorem dL_law_1123 : decode cL_law 1123 = .ok (.iaload, 1) := dgq (p := 4) daL_law_1119 dbL_law_1119.2.2.2.1
theorem dL_law_1124 : decode cL_law 1124 = .ok (.invokevirtual 288, 3) := dgq (p := 5) daL_law_1119 dbL_law_1119.2.2.2.2.1
theorem dL_law_1127 : decode cL_law 1127 = .ok (.istore 7, 2) := dgq (p := 8) daL_law_1119 dbL_law_1119.2.2.2.2.2.1
theorem dL_law_1129 : decode cL_law 1129 = .ok (.goto 1795, 3) := dgq (p := 10) daL_law_1119 dbL_law_1119.2.2.2.2.2.2.1
theorem dL_law_1132 : decode cL_law 1132 = .ok (.aload_n 1, 1) := dgq (p := 13) daL_law_1119 dbL_law_1119.2.2.2.2.2.2.2.1
theorem dL_law_1133 : decode cL_law 1133 = .ok (.aload_n 0, 1) := dgq (p := 14) daL_law_1119 dbL_law_1119.2.2.2.2.2.2.2.2.1
theorem dL_law_1134 : decode cL_law 1134 = .ok (.iload 5, 2) := dgq (p := 15) daL_law_1119 dbL_law_1119.2.2.2.2.2.2.2.2.2
def dsL_law_1136 : ByteArray := ⟨#[4, 96, 46, 45, 184, 1, 33, 54, 6, 44, 42, 21, 5, 4]⟩
theorem daL_law_1136 : agB cL_law dsL_law_1136 1136 := agB_of (n := 14) (by decide +kernel)
theorem dbL_law_1136 : (decode dsL_law_1136 0 = .ok (.iconst 1, 1) ∧ okop dsL_law_1136 0 = true) ∧ (decode dsL_law_1136 1 = .ok (.iadd, 1) ∧ okop dsL_law_1136 1 = true) ∧ (decode dsL_law_1136 2 = .ok (.iaload, 1) ∧ okop dsL_law_1136 2 = true) ∧ (decode dsL_law_1136 3 = .ok (.aload_n 3, 1) ∧ okop dsL_law_1136 3 = true) ∧ (decode dsL_law_1136 4 = .ok (.invokestatic 289, 3) ∧ okop dsL_law_1136 4 = true) ∧ (decode dsL_law_1136 7 = .ok (.istore 6, 2) ∧ okop dsL_law_1136 7 = true) ∧ (decode dsL_law_1136 9 = .ok (.aload_n 2, 1) ∧ okop dsL_law_1136 9 = true) ∧ (decode dsL_law_1136 10 = .ok (.aload_n 0, 1) ∧ okop dsL_law_1136 10 = true) ∧ (decode dsL_law_1136 11 = .ok (.iload 5, 2) ∧ okop dsL_law_1136 11 = true) ∧ (decode dsL_law_1136 13 = .ok (.iconst 1, 1) ∧ okop dsL_law_1136 13 = true) := by decide +kernel
theorem dL_law_1136 : decode cL_law 1136 = .ok (.iconst 1, 1) := dgq (p := 0) daL_law_1136 dbL_law_1136.1
theorem dL_law_1137 : decode cL_law 1137 = .ok (.iadd, 1) := dgq (p := 1) daL_law_1136 dbL_law_1136.2.1
theorem dL_law_1138 : decode cL_law 1138 = .ok (.iaload, 1) := dgq (p := 2) daL_law_1136 dbL_law_1136.2.2.1
theorem dL_law_1139 : decode cL_law 1139 = .ok (.aload_n 3, 1) := dgq (p := 3) daL_law_1136 dbL_law_1136.2.2.2.1
theorem dL_law_1140 : decode cL_law 1140 = .ok (.invokestatic 289, 3) := dgq (p := 4) daL_law_1136 dbL_law_1136.2.2.2.2.1
theorem dL_law_1143 : decode cL_law 1143 = .ok (.istore 6, 2) := dgq (p := 7) daL_law_1136 dbL_law_1136.2.2.2.2.2.1
theorem dL_law_1145 : decode cL_law 1145 = .ok (.aload_n 2, 1) := dgq (p := 9) daL_law_1136 dbL_law_1136.2.2.2.2.2.2.1
theorem dL_law_1146 : decode cL_law 1146 = .ok (.aload_n 0, 1) := dgq (p := 10) daL_law_1136 dbL_law_1136.2.2.2.2.2.2.2.1
theorem dL_law_1147 : decode cL_law 1147 = .ok (.iload 5, 2) := dgq (p := 11) daL_law_1136 dbL_law_1136.2.2.2.2.2.2.2.2.1
theorem dL_law_1149 : decode cL_law 1149 = .ok (.iconst 1, 1) := dgq (p := 13) daL_law_1136 dbL_law_1136.2.2.2.2.2.2.2.2.2
def dsL_law_1150 : ByteArray := ⟨#[96, 46, 182, 1, 35, 54, 7, 167, 6, 231, 43, 42, 21, 5, 4, 96]⟩
theorem daL_law_1150 : agB cL_law dsL_law_1150 1150 := agB_of (n := 16) (by decide +kernel)
theorem dbL_law_1150 : (decode dsL_law_1150 0 = .ok (.iadd, 1) ∧ okop dsL_law_1150 0 = true) ∧ (decode dsL_law_1150 1 = .ok (.iaload, 1) ∧ okop dsL_law_1150 1 = true) ∧ (decode dsL_law_1150 2 = .ok (.invokevirtual 291, 3) ∧ okop dsL_law_1150 2 = true) ∧ (decode dsL_law_1150 5 = .ok (.istore 7, 2) ∧ okop dsL_law_1150 5 = true) ∧ (decode dsL_law_1150 7 = .ok (.goto 1767, 3) ∧ okop dsL_law_1150 7 = true) ∧ (decode dsL_law_1150 10 = .ok (.aload_n 1, 1) ∧ okop dsL_law_1150 10 = true) ∧ (decode dsL_law_1150 11 = .ok (.aload_n 0, 1) ∧ okop dsL_law_1150 11 = true) ∧ (decode dsL_law_1150 12 = .ok (.iload 5, 2) ∧ okop dsL_law_1150 12 = true) ∧ (decode dsL_law_1150 14 = .ok (.iconst 1, 1) ∧ okop dsL_law_1150 14 = true) ∧ (decode dsL_law_1150 15 = .ok (.iadd, 1) ∧ okop dsL_law_1150 15 = true) := by decide +kernel
theorem dL_law_1150 : decode cL_law 1150 = .ok (.iadd, 1) := dgq (p := 0) daL_law_1150 dbL_law_1150.1
theorem dL_law_1151 : decode cL_law 1151 = .ok (.iaload, 1) := dgq (p := 1) daL_law_1150 dbL_law_1150.2.1
theorem dL_law_1152 : decode cL_law 1152 = .ok (.invokevirtual 291, 3) := dgq (p := 2) daL_law_1150 dbL_law_1150.2.2.1
theorem dL_law_1155 : decode cL_law 1155 = .ok (.istore 7, 2) := dgq (p := 5) daL_law_1150 dbL_law_1150.2.2.2.1
theorem dL_law_1157 : decode cL_law 1157 = .ok (.goto 1767, 3) := dgq (p := 7) daL_law_1150 dbL_law_1150.2.2.2.2.1
theorem dL_law_1160 : decode cL_law 1160 = .ok (.aload_n 1, 1) := dgq (p := 10) daL_law_1150 dbL_law_1150.2.2.2.2.2.1
theorem dL_law_1161 : decode cL_law 1161 = .ok (.aload_n 0, 1) := dgq (p := 11) daL_law_1150 dbL_law_1150.2.2.2.2.2.2.1
theorem dL_law_1162 : decode cL_law 1162 = .ok (.iload 5, 2) := dgq (p := 12) daL_law_1150 dbL_law_1150.2.2.2.2.2.2.2.1
theorem dL_law_1164 : decode cL_law 1164 = .ok (.iconst 1, 1) := dgq (p := 14) daL_law_1150 dbL_law_1150.2.2.2.2.2.2.2.2.1
theorem dL_law_1165 : decode cL_law 1165 = .ok (.iadd, 1) := dgq (p := 15) daL_law_1150 dbL_law_1150.2.2.2.2.2.2.2.2.2
def dsL_law_1166 : ByteArray := ⟨#[46, 42, 21, 5, 5, 96, 46, 42, 21, 5, 6, 96]⟩
theorem daL_law_1166 : agB cL_law dsL_law_1166 1166 := agB_of (n := 12) (by decide +kernel)
theorem dbL_law_1166 : (decode dsL_law_1166 0 = .ok (.iaload, 1) ∧ okop dsL_law_1166 0 = true) ∧ (decode dsL_law_1166 1 = .ok (.aload_n 0, 1) ∧ okop dsL_law_1166 1 = true) ∧ (decode dsL_law_1166 2 = .ok (.iload 5, 2) ∧ okop dsL_law_1166 2 = true) ∧ (decode dsL_law_1166 4 = .ok (.iconst 2, 1) ∧ okop dsL_law_1166 4 = true) ∧ (decode dsL_law_1166 5 = .ok (.iadd, 1) ∧ okop dsL_law_1166 5 = true) ∧ (decode dsL_law_1166 6 = .ok (.iaload, 1) ∧ okop dsL_law_1166 6 = true) ∧ (decode dsL_law_1166 7 = .ok (.aload_n 0, 1) ∧ okop dsL_law_1166 7 = true) ∧ (decode dsL_law_1166 8 = .ok (.iload 5, 2) ∧ okop dsL_law_1166 8 = true) ∧ (decode dsL_law_1166 10 = .ok (.iconst 3, 1) ∧ okop dsL_law_1166 10 = true) ∧ (decode dsL_law_1166 11 = .ok (.iadd, 1) ∧ okop dsL_law_1166 11 = true) := by decide +kernel
theorem dL_law_1166 : decode cL_law 1166 = .ok (.iaload, 1) := dgq (p := 0) daL_law_1166 dbL_law_1166.1
theorem dL_law_1167 : decode cL_law 1167 = .ok (.aload_n 0, 1) := dgq (p := 1) daL_law_1166 dbL_law_1166.2.1
theorem dL_law_1168 : decode cL_law 1168 = .ok (.iload 5, 2) := dgq (p := 2) daL_law_1166 dbL_law_1166.2.2.1
theorem dL_law_1170 : decode cL_law 1170 = .ok (.iconst 2, 1) := dgq (p := 4) daL_law_1166 dbL_law_1166.2.2.2.1
theorem dL_law_1171 : decode cL_law 1171 = .ok (.iadd, 1) := dgq (p := 5) daL_law_1166 dbL_law_1166.2.2.2.2.1
theorem dL_law_1172 : decode cL_law 1172 = .ok (.iaload, 1) := dgq (p := 6) daL_law_1166 dbL_law_1166.2.2.2.2.2.1
theorem dL_law_1173 : decode cL_law 1173 = .ok (.aload_n 0, 1) := dgq (p := 7) daL_law_1166 dbL_law_1166.2.2.2.2.2.2.1
theorem dL_law_1174 : decode cL_law 1174 = .ok (.iload 5, 2) := dgq (p := 8) daL_law_1166 dbL_law_1166.2.2.2.2.2.2.2.1
theorem dL_law_1176 : decode cL_law 1176 = .ok (.iconst 3, 1) := dgq (p := 10) daL_law_1166 dbL_law_1166.2.2.2.2.2.2.2.2.1
theorem dL_law_1177 : decode cL_law 1177 = .ok (.iadd, 1) := dgq (p := 11) daL_law_1166 dbL_law_1166.2.2.2.2.2.2.2.2.2
def dsL_law_1178 : ByteArray := ⟨#[46, 45, 184, 1, 36, 54, 6, 44, 42, 21, 5, 4, 96, 46]⟩
theorem daL_law_1178 : agB cL_law dsL_law_1178 1178 := agB_of (n := 14) (by decide +kernel)
theorem dbL_law_1178 : (decode dsL_law_1178 0 = .ok (.iaload, 1) ∧ okop dsL_law_1178 0 = true) ∧ (decode dsL_law_1178 1 = .ok (.aload_n 3, 1) ∧ okop dsL_law_1178 1 = true) ∧ (decode dsL_law_1178 2 = .ok (.invokestatic 292, 3) ∧ okop dsL_law_1178 2 = true) ∧ (decode dsL_law_1178 5 = .ok (.istore 6, 2) ∧ okop dsL_law_1178 5 = true) ∧ (decode dsL_law_1178 7 = .ok (.aload_n 2, 1) ∧ okop dsL_law_1178 7 = true) ∧ (decode dsL_law_1178 8 = .ok (.aload_n 0, 1) ∧ okop dsL_law_1178 8 = true) ∧ (decode dsL_law_1178 9 = .ok (.iload 5, 2) ∧ okop dsL_law_1178 9 = true) ∧ (decode dsL_law_1178 11 = .ok (.iconst 1, 1) ∧ okop dsL_law_1178 11 = true) ∧ (decode dsL_law_1178 12 = .ok (.iadd, 1) ∧ okop dsL_law_1178 12 = true) ∧ (decode dsL_law_1178 13 = .ok (.iaload, 1) ∧ okop dsL_law_1178 13 = true) := by decide +kernel
theorem dL_law_1178 : decode cL_law 1178 = .ok (.iaload, 1) := dgq (p := 0) daL_law_1178 dbL_law_1178.1
theorem dL_law_1179 : decode cL_law 1179 = .ok (.aload_n 3, 1) := dgq (p := 1) daL_law_1178 dbL_law_1178.2.1
theorem dL_law_1180 : decode cL_law 1180 = .ok (.invokestatic 292, 3) := dgq (p := 2) daL_law_1178 dbL_law_1178.2.2.1
theorem dL_law_1183 : decode cL_law 1183 = .ok (.istore 6, 2) := dgq (p := 5) daL_law_1178 dbL_law_1178.2.2.2.1
theorem dL_law_1185 : decode cL_law 1185 = .ok (.aload_n 2, 1) := dgq (p := 7) daL_law_1178 dbL_law_1178.2.2.2.2.1
theorem dL_law_1186 : decode cL_law 1186 = .ok (.aload_n 0, 1) := dgq (p := 8) daL_law_1178 dbL_law_1178.2.2.2.2.2.1
theorem dL_law_1187 : decode cL_law 1187 = .ok (.iload 5, 2) := dgq (p := 9) daL_law_1178 dbL_law_1178.2.2.2.2.2.2.1
theorem dL_law_1189 : decode cL_law 1189 = .ok (.iconst 1, 1) := dgq (p := 11) daL_law_1178 dbL_law_1178.2.2.2.2.2.2.2.1
theorem dL_law_1190 : decode cL_law 1190 = .ok (.iadd, 1) := dgq (p := 12) daL_law_1178 dbL_law_1178.2.2.2.2.2.2.2.2.1
theorem dL_law_1191 : decode cL_law 1191 = .ok (.iaload, 1) := dgq (p := 13) daL_law_1178 dbL_law_1178.2.2.2.2.2.2.2.2.2
def dsL_law_1192 : ByteArray := ⟨#[42, 21, 5, 5, 96, 46, 42, 21, 5, 6, 96, 46]⟩
theorem daL_law_1192 : agB cL_law dsL_law_1192 1192 := agB_of (n := 12) (by decide +kernel)
theorem dbL_law_1192 : (decode dsL_law_1192 0 = .ok (.aload_n 0, 1) ∧ okop dsL_law_1192 0 = true) ∧ (decode dsL_law_1192 1 = .ok (.iload 5, 2) ∧ okop dsL_law_1192 1 = true) ∧ (decode dsL_law_1192 3 = .ok (.iconst 2, 1) ∧ okop dsL_law_1192 3 = true) ∧ (decode dsL_law_1192 4 = .ok (.iadd, 1) ∧ okop dsL_law_1192 4 = true) ∧ (decode dsL_law_1192 5 = .ok (.iaload, 1) ∧ okop dsL_law_1192 5 = true) ∧ (decode dsL_law_1192 6 = .ok (.aload_n 0, 1) ∧ okop dsL_law_1192 6 = true) ∧ (decode dsL_law_1192 7 = .ok (.iload 5, 2) ∧ okop dsL_law_1192 7 = true) ∧ (decode dsL_law_1192 9 = .ok (.iconst 3, 1) ∧ okop dsL_law_1192 9 = true) ∧ (decode dsL_law_1192 10 = .ok (.iadd, 1) ∧ okop dsL_law_1192 10 = true) ∧ (decode dsL_law_1192 11 = .ok (.iaload, 1) ∧ okop dsL_law_1192 11 = true) := by decide +kernel
theorem dL_law_1192 : decode cL_law 1192 = .ok (.aload_n 0, 1) := dgq (p := 0) daL_law_1192 dbL_law_1192.1
theorem dL_law_1193 : decode cL_law 1193 = .ok (.iload 5, 2) := dgq (p := 1) daL_law_1192 dbL_law_1192.2.1
theorem dL_law_1195 : decode cL_law 1195 = .ok (.iconst 2, 1) := dgq (p := 3) daL_law_1192 dbL_law_1192.2.2.1
theorem dL_law_1196 : decode cL_law 1196 = .ok (.iadd, 1) := dgq (p := 4) daL_law_1192 dbL_law_1192.2.2.2.1
theorem dL_law_1197 : decode cL_law 1197 = .ok (.iaload, 1) := dgq (p := 5) daL_law_1192 dbL_law_1192.2.2.2.2.1
theorem dL_law_1198 : decode cL_law 1198 = .ok (.aload_n 0, 1) := dgq (p := 6) daL_law_1192 dbL_law_1192.2.2.2.2.2.1
theorem dL_law_1199 : decode cL_law 1199 = .ok (.iload 5, 2) := dgq (p := 7) daL_law_1192 dbL_law_1192.2.2.2.2.2.2.1
theorem dL_law_1201 : decode cL_law 1201 = .ok (.iconst 3, 1) := dgq (p := 9) daL_law_1192 dbL_law_1192.2.2.2.2.2.2.2.1
theorem dL_law_1202 : decode cL_law 1202 = .ok (.iadd, 1) := dgq (p := 10) daL_law_1192 dbL_law_1192.2.2.2.2.2.2.2.2.1
theorem dL_law_1203 : decode cL_law 1203 = .ok (.iaload, 1) := dgq (p := 11) daL_law_1192 dbL_law_1192.2.2.2.2.2.2.2.2.2
def dsL_law_1204 : ByteArray := ⟨#[182, 1, 38, 54, 7, 167, 6, 179, 43, 42, 21, 5, 4, 96, 46, 42]⟩
theorem daL_law_1204 : agB cL_law dsL_law_1204 1204 := agB_of (n := 16) (by decide +kernel)
theorem dbL_law_1204 : (decode dsL_law_1204 0 = .ok (.invokevirtual 294, 3) ∧ okop dsL_law_1204 0 = true) ∧ (decode dsL_law_1204 3 = .ok (.istore 7, 2) ∧ okop dsL_law_1204 3 = true) ∧ (decode dsL_law_1204 5 = .ok (.goto 1715, 3) ∧ okop dsL_law_1204 5 = true) ∧ (decode dsL_law_1204 8 = .ok (.aload_n 1, 1) ∧ okop dsL_law_1204 8 = true) ∧ (decode dsL_law_1204 9 = .ok (.aload_n 0, 1) ∧ okop dsL_law_1204 9 = true) ∧ (decode dsL_law_1204 10 = .ok (.iload 5, 2) ∧ okop dsL_law_1204 10 = true) ∧ (decode dsL_law_1204 12 = .ok (.iconst 1, 1) ∧ okop dsL_law_1204 12 = true) ∧ (decode dsL_law_1204 13 = .ok (.iadd, 1) ∧ okop dsL_law_1204 13 = true) ∧ (decode dsL_law_1204 14 = .ok (.iaload, 1) ∧ okop dsL_law_1204 14 = true) ∧ (decode dsL_law_1204 15 = .ok (.aload_n 0, 1) ∧ okop dsL_law_1204 15 = true) := by decide +kernel
theorem dL_law_1204 : decode cL_law 1204 = .ok (.invokevirtual 294, 3) := dgq (p := 0) daL_law_1204 dbL_law_1204.1
theorem dL_law_1207 : decode cL_law 1207 = .ok (.istore 7, 2) := dgq (p := 3) daL_law_1204 dbL_law_1204.2.1
theorem dL_law_1209 : decode cL_law 1209 = .ok (.goto 1715, 3) := dgq (p := 5) daL_law_1204 dbL_law_1204.2.2.1
theorem dL_law_1212 : decode cL_law 1212 = .ok (.aload_n 1, 1) := dgq (p := 8) daL_law_1204 dbL_law_1204.2.2.2.1
theorem dL_law_1213 : decode cL_law 1213 = .ok (.aload_n 0, 1) := dgq (p := 9) daL_law_1204 dbL_law_1204.2.2.2.2.1
theorem dL_law_1214 : decode cL_law 1214 = .ok (.iload 5, 2) := dgq (p := 10) daL_law_1204 dbL_law_1204.2.2.2.2.2.1
theorem dL_law_1216 : decode cL_law 1216 = .ok (.iconst 1, 1) := dgq (p := 12) daL_law_1204 dbL_law_1204.2.2.2.2.2.2.1
theorem dL_law_1217 : decode cL_law 1217 = .ok (.iadd, 1) := dgq (p := 13) daL_law_1204 dbL_law_1204.2.2.2.2.2.2.2.1
theorem dL_law_1218 : decode cL_law 1218 = .ok (.iaload, 1) := dgq (p := 14) daL_law_1204 dbL_law_1204.2.2.2.2.2.2.2.2.1
theorem dL_law_1219 : decode cL_law 1219 = .ok (.aload_n 0, 1) := dgq (p := 15) daL_law_1204 dbL_law_1204.2.2.2.2.2.2.2.2.2
def dsL_law_1220 : ByteArray := ⟨#[21, 5, 5, 96, 46, 42, 21, 5, 6, 96, 46, 45]⟩
theorem daL_law_1220 : agB cL_law dsL_law_1220 1220 := agB_of (n := 12) (by decide +kernel)
theorem dbL_law_1220 : (decode dsL_law_1220 0 = .ok (.iload 5, 2) ∧ okop dsL_law_1220 0 = true) ∧ (decode dsL_law_1220 2 = .ok (.iconst 2, 1) ∧ okop dsL_law_1220 2 = true) ∧ (decode dsL_law_1220 3 = .ok (.iadd, 1) ∧ okop dsL_law_1220 3 = true) ∧ (decode dsL_law_1220 4 = .ok (.iaload, 1) ∧ okop dsL_law_1220 4 = true) ∧ (decode dsL_law_1220 5 = .ok (.aload_n 0, 1) ∧ okop dsL_law_1220 5 = true) ∧ (decode dsL_law_1220 6 = .ok (.iload 5, 2) ∧ okop dsL_law_1220 6 = true) ∧ (decode dsL_law_1220 8 = .ok (.iconst 3, 1) ∧ okop dsL_law_1220 8 = true) ∧ (decode dsL_law_1220 9 = .ok (.iadd, 1) ∧ okop dsL_law_1220 9 = true) ∧ (decode dsL_law_1220 10 = .ok (.iaload, 1) ∧ okop dsL_law_1220 10 = true) ∧ (decode dsL_law_1220 11 = .ok (.aload_n 3, 1) ∧ okop dsL_law_1220 11 = true) := by decide +kernel
theorem dL_law_1220 : decode cL_law 1220 = .ok (.iload 5, 2) := dgq (p := 0) daL_law_1220 dbL_law_1220.1
theorem dL_law_1222 : decode cL_law 1222 = .ok (.iconst 2, 1) := dgq (p := 2) daL_law_1220 dbL_law_1220.2.1
theorem dL_law_1223 : decode cL_law 1223 = .ok (.iadd, 1) := dgq (p := 3) daL_law_1220 dbL_law_1220.2.2.1
theorem dL_law_1224 : decode cL_law 1224 = .ok (.iaload, 1) := dgq (p := 4) daL_law_1220 dbL_law_1220.2.2.2.1
theorem dL_law_1225 : decode cL_law 1225 = .ok (.aload_n 0, 1) := dgq (p := 5) daL_law_1220 dbL_law_1220.2.2.2.2.1
theorem dL_law_1226 : decode cL_law 1226 = .ok (.iload 5, 2) := dgq (p := 6) daL_law_1220 dbL_law_1220.2.2.2.2.2.1
theorem dL_law_1228 : decode cL_law 1228 = .ok (.iconst 3, 1) := dgq (p := 8) daL_law_1220 dbL_law_1220.2.2.2.2.2.2.1
theorem dL_law_1229 : decode cL_law 1229 = .ok (.iadd, 1) := dgq (p := 9) daL_law_1220 dbL_law_1220.2.2.2.2.2.2.2.1
theorem dL_law_1230 : decode cL_law 1230 = .ok (.iaload, 1) := dgq (p := 10) daL_law_1220 dbL_law_1220.2.2.2.2.2.2.2.2.1
theorem dL_law_1231 : decode cL_law 1231 = .ok (.aload_n 3, 1) := dgq (p := 11) daL_law_1220 dbL_law_1220.2.2.2.2.2.2.2.2.2
def dsL_law_1232 : ByteArray := ⟨#[184, 1, 39, 54, 6, 44, 42, 21, 5, 4, 96, 46, 42, 21, 5]⟩
theorem daL_law_1232 : agB cL_law dsL_law_1232 1232 := agB_of (n := 15) (by decide +kernel)
theorem dbL_law_1232 : (decode dsL_law_1232 0 = .ok (.invokestatic 295, 3) ∧ okop dsL_law_1232 0 = true) ∧ (decode dsL_law_1232 3 = .ok (.istore 6, 2) ∧ okop dsL_law_1232 3 = true) ∧ (decode dsL_law_1232 5 = .ok (.aload_n 2, 1) ∧ okop dsL_law_1232 5 = true) ∧ (decode dsL_law_1232 6 = .ok (.aload_n 0, 1) ∧ okop dsL_law_1232 6 = true) ∧ (decode dsL_law_1232 7 = .ok (.iload 5, 2) ∧ okop dsL_law_1232 7 = true) ∧ (decode dsL_law_1232 9 = .ok (.iconst 1, 1) ∧ okop dsL_law_1232 9 = true) ∧ (decode dsL_law_1232 10 = .ok (.iadd, 1) ∧ okop dsL_law_1232 10 = true) ∧ (decode dsL_law_1232 11 = .ok (.iaload, 1) ∧ okop dsL_law_1232 11 = true) ∧ (decode dsL_law_1232 12 = .ok (.aload_n 0, 1) ∧ okop dsL_law_1232 12 = true) ∧ (decode dsL_law_1232 13 = .ok (.iload 5, 2) ∧ okop dsL_law_1232 13 = true) := by decide +kernel
theorem dL_law_1232 : decode cL_law 1232 = .ok (.invokestatic 295, 3) := dgq (p := 0) daL_law_1232 dbL_law_1232.1
theorem dL_law_1235 : decode cL_law 1235 = .ok (.istore 6, 2) := dgq (p := 3) daL_law_1232 dbL_law_1232.2.1
theorem dL_law_1237 : decode cL_law 1237 = .ok (.aload_n 2, 1) := dgq (p := 5) daL_law_1232 dbL_law_1232.2.2.1
theorem dL_law_1238 : decode cL_law 1238 = .ok (.aload_n 0, 1) := dgq (p := 6) daL_law_1232 dbL_law_1232.2.2.2.1
theorem dL_law_1239 : decode cL_law 1239 = .ok (.iload 5, 2) := dgq (p := 7) daL_law_1232 dbL_law_1232.2.2.2.2.1
theorem dL_law_1241 : decode cL_law 1241 = .ok (.iconst 1, 1) := dgq (p := 9) daL_law_1232 dbL_law_1232.2.2.2.2.2.1
theorem dL_law_1242 : decode cL_law 1242 = .ok (.iadd, 1) := dgq (p := 10) daL_law_1232 dbL_law_1232.2.2.2.2.2.2.1
theorem dL_law_1243 : decode cL_law 1243 = .ok (.iaload, 1) := dgq (p := 11) daL_law_1232 dbL_law_1232.2.2.2.2.2.2.2.1
theorem dL_law_1244 : decode cL_law 1244 = .ok (.aload_n 0, 1) := dgq (p := 12) daL_law_1232 dbL_law_1232.2.2.2.2.2.2.2.2.1
theorem dL_law_1245 : decode cL_law 1245 = .ok (.iload 5, 2) := dgq (p := 13) daL_law_1232 dbL_law_1232.2.2.2.2.2.2.2.2.2
def dsL_law_1247 : ByteArray := ⟨#[5, 96, 46, 42, 21, 5, 6, 96, 46, 182, 1, 41, 54, 7]⟩
theorem daL_law_1247 : agB cL_law dsL_law_1247 1247 := agB_of (n := 14) (by decide +kernel)
theorem dbL_law_1247 : (decode dsL_law_1247 0 = .ok (.iconst 2, 1) ∧ okop dsL_law_1247 0 = true) ∧ (decode dsL_law_1247 1 = .ok (.iadd, 1) ∧ okop dsL_law_1247 1 = true) ∧ (decode dsL_law_1247 2 = .ok (.iaload, 1) ∧ okop dsL_law_1247 2 = true) ∧ (decode dsL_law_1247 3 = .ok (.aload_n 0, 1) ∧ okop dsL_law_1247 3 = true) ∧ (decode dsL_law_1247 4 = .ok (.iload 5, 2) ∧ okop dsL_law_1247 4 = true) ∧ (decode dsL_law_1247 6 = .ok (.iconst 3, 1) ∧ okop dsL_law_1247 6 = true) ∧ (decode dsL_law_1247 7 = .ok (.iadd, 1) ∧ okop dsL_law_1247 7 = true) ∧ (decode dsL_law_1247 8 = .ok (.iaload, 1) ∧ okop dsL_law_1247 8 = true) ∧ (decode dsL_law_1247 9 = .ok (.invokevirtual 297, 3) ∧ okop dsL_law_1247 9 = true) ∧ (decode dsL_law_1247 12 = .ok (.istore 7, 2) ∧ okop dsL_law_1247 12 = true) := by decide +kernel
theorem dL_law_1247 : decode cL_law 1247 = .ok (.iconst 2, 1) := dgq (p := 0) daL_law_1247 dbL_law_1247.1
theorem dL_law_1248 : decode cL_law 1248 = .ok (.iadd, 1) := dgq (p := 1) daL_law_1247 dbL_law_1247.2.1
theorem dL_law_1249 : decode cL_law 1249 = .ok (.iaload, 1) := dgq (p := 2) daL_law_1247 dbL_law_1247.2.2.1
theorem dL_law_1250 : decode cL_law 1250 = .ok (.aload_n 0, 1) := dgq (p := 3) daL_law_1247 dbL_law_1247.2.2.2.1
theorem dL_law_1251 : decode cL_law 1251 = .ok (.iload 5, 2) := dgq (p := 4) daL_law_1247 dbL_law_1247.2.2.2.2.1
theorem dL_law_1253 : decode cL_law 1253 = .ok (.iconst 3, 1) := dgq (p := 6) daL_law_1247 dbL_law_1247.2.2.2.2.2.1
theorem dL_law_1254 : decode cL_law 1254 = .ok (.iadd, 1) := dgq (p := 7) daL_law_1247 dbL_law_1247.2.2.2.2.2.2.1
theorem dL_law_1255 : decode cL_law 1255 = .ok (.iaload, 1) := dgq (p := 8) daL_law_1247 dbL_law_1247.2.2.2.2.2.2.2.1
theorem dL_law_1256 : decode cL_law 1256 = .ok (.invokevirtual 297, 3) := dgq (p := 9) daL_law_1247 dbL_law_1247.2.2.2.2.2.2.2.2.1
theorem dL_law_1259 : decode cL_law 1259 = .ok (.istore 7, 2) := dgq (p := 12) daL_law_1247 dbL_law_1247.2.2.2.2.2.2.2.2.2
def dsL_law_1261 : ByteArray := ⟨#[167, 6, 127, 43, 42, 21, 5, 4, 96, 46, 42, 21, 5, 5]⟩
theorem daL_law_1261 : agB cL_law dsL_law_1261 1261 := agB_of (n := 14) (by decide +kernel)
theorem dbL_law_1261 : (decode dsL_law_1261 0 = .ok (.goto 1663, 3) ∧ okop dsL_law_1261 0 = true) ∧ (decode dsL_law_1261 3 = .ok (.aload_n 1, 1) ∧ okop dsL_law_1261 3 = true) ∧ (decode dsL_law_1261 4 = .ok (.aload_n 0, 1) ∧ okop dsL_law_1261 4 = true) ∧ (decode dsL_law_1261 5 = .ok (.iload 5, 2) ∧ okop dsL_law_1261 5 = true) ∧ (decode dsL_law_1261 7 = .ok (.iconst 1, 1) ∧ okop dsL_law_1261 7 = true) ∧ (decode dsL_law_1261 8 = .ok (.iadd, 1) ∧ okop dsL_law_1261 8 = true) ∧ (decode dsL_law_1261 9 = .ok (.iaload, 1) ∧ okop dsL_law_1261 9 = true) ∧ (decode dsL_law_1261 10 = .ok (.aload_n 0, 1) ∧ okop dsL_law_1261 10 = true) ∧ (decode dsL_law_1261 11 = .ok (.iload 5, 2) ∧ okop dsL_law_1261 11 = true) ∧ (decode dsL_law_1261 13 = .ok (.iconst 2, 1) ∧ okop dsL_law_1261 13 = true) := by decide +kernel
theorem dL_law_1261 : decode cL_law 1261 = .ok (.goto 1663, 3) := dgq (p := 0) daL_law_1261 dbL_law_1261.1
theorem dL_law_1264 : decode cL_law 1264 = .ok (.aload_n 1, 1) := dgq (p := 3) daL_law_1261 dbL_law_1261.2.1
theorem dL_law_1265 : decode cL_law 1265 = .ok (.aload_n 0, 1) := dgq (p := 4) daL_law_1261 dbL_law_1261.2.2.1
theorem dL_law_1266 : decode cL_law 1266 = .ok (.iload 5, 2) := dgq (p := 5) daL_law_1261 dbL_law_1261.2.2.2.1
theorem dL_law_1268 : decode cL_law 1268 = .ok (.iconst 1, 1) := dgq (p := 7) daL_law_1261 dbL_law_1261.2.2.2.2.1
theorem dL_law_1269 : decode cL_law 1269 = .ok (.iadd, 1) := dgq (p := 8) daL_law_1261 dbL_law_1261.2.2.2.2.2.1
theorem dL_law_1270 : decode cL_law 1270 = .ok (.iaload, 1) := dgq (p := 9) daL_law_1261 dbL_law_1261.2.2.2.2.2.2.1
theorem dL_law_1271 : decode cL_law 1271 = .ok (.aload_n 0, 1) := dgq (p := 10) daL_law_1261 dbL_law_1261.2.2.2.2.2.2.2.1
theorem dL_law_1272 : decode cL_law 1272 = .ok (.iload 5, 2) := dgq (p := 11) daL_law_1261 dbL_law_1261.2.2.2.2.2.2.2.2.1
theorem dL_law_1274 : decode cL_law 1274 = .ok (.iconst 2, 1) := dgq (p := 13) daL_law_1261 dbL_law_1261.2.2.2.2.2.2.2.2.2
def dsL_law_1275 : ByteArray := ⟨#[96, 46, 45, 184, 1, 42, 54, 6, 44, 42, 21, 5, 4, 96]⟩
theorem daL_law_1275 : agB cL_law dsL_law_1275 1275 := agB_of (n := 14) (by decide +kernel)
theorem dbL_law_1275 : (decode dsL_law_1275 0 = .ok (.iadd, 1) ∧ okop dsL_law_1275 0 = true) ∧ (decode dsL_law_1275 1 = .ok (.iaload, 1) ∧ okop dsL_law_1275 1 = true) ∧ (decode dsL_law_1275 2 = .ok (.aload_n 3, 1) ∧ okop dsL_law_1275 2 = true) ∧ (decode dsL_law_1275 3 = .ok (.invokestatic 298, 3) ∧ okop dsL_law_1275 3 = true) ∧ (decode dsL_law_1275 6 = .ok (.istore 6, 2) ∧ okop dsL_law_1275 6 = true) ∧ (decode dsL_law_1275 8 = .ok (.aload_n 2, 1) ∧ okop dsL_law_1275 8 = true) ∧ (decode dsL_law_1275 9 = .ok (.aload_n 0, 1) ∧ okop dsL_law_1275 9 = true) ∧ (decode dsL_law_1275 10 = .ok (.iload 5, 2) ∧ okop dsL_law_1275 10 = true) ∧ (decode dsL_law_1275 12 = .ok (.iconst 1, 1) ∧ okop dsL_law_1275 12 = true) ∧ (decode dsL_law_1275 13 = .ok (.iadd, 1) ∧ okop dsL_law_1275 13 = true) := by decide +kernel
theorem dL_law_1275 : decode cL_law 1275 = .ok (.iadd, 1) := dgq (p := 0) daL_law_1275 dbL_law_1275.1
theorem dL_law_1276 : decode cL_law 1276 = .ok (.iaload, 1) := dgq (p := 1) daL_law_1275 dbL_law_1275.2.1
theorem dL_law_1277 : decode cL_law 1277 = .ok (.aload_n 3, 1) := dgq (p := 2) daL_law_1275 dbL_law_1275.2.2.1
theorem dL_law_1278 : decode cL_law 1278 = .ok (.invokestatic 298, 3) := dgq (p := 3) daL_law_1275 dbL_law_1275.2.2.2.1
theorem dL_law_1281 : decode cL_law 1281 = .ok (.istore 6, 2) := dgq (p := 6) daL_law_1275 dbL_law_1275.2.2.2.2.1
theorem dL_law_1283 : decode cL_law 1283 = .ok (.aload_n 2, 1) := dgq (p := 8) daL_law_1275 dbL_law_1275.2.2.2.2.2.1
theorem dL_law_1284 : decode cL_law 1284 = .ok (.aload_n 0, 1) := dgq (p := 9) daL_law_1275 dbL_law_1275.2.2.2.2.2.2.1
theorem dL_law_1285 : decode cL_law 1285 = .ok (.iload 5, 2) := dgq (p := 10) daL_law_1275 dbL_law_1275.2.2.2.2.2.2.2.1
theorem dL_law_1287 : decode cL_law 1287 = .ok (.iconst 1, 1) := dgq (p := 12) daL_law_1275 dbL_law_1275.2.2.2.2.2.2.2.2.1
theorem dL_law_1288 : decode cL_law 1288 = .ok (.iadd, 1) := dgq (p := 13) daL_law_1275 dbL_law_1275.2.2.2.2.2.2.2.2.2
def dsL_law_1289 : ByteArray := ⟨#[46, 42, 21, 5, 5, 96, 46, 182, 1, 44, 54, 7, 167, 6, 87, 43]⟩
theorem daL_law_1289 : agB cL_law dsL_law_1289 1289 := agB_of (n := 16) (by decide +kernel)
theorem dbL_law_1289 : (decode dsL_law_1289 0 = .ok (.iaload, 1) ∧ okop dsL_law_1289 0 = true) ∧ (decode dsL_law_1289 1 = .ok (.aload_n 0, 1) ∧ okop dsL_law_1289 1 = true) ∧ (decode dsL_law_1289 2 = .ok (.iload 5, 2) ∧ okop dsL_law_1289 2 = true) ∧ (decode dsL_law_1289 4 = .ok (.iconst 2, 1) ∧ okop dsL_law_1289 4 = true) ∧ (decode dsL_law_1289 5 = .ok (.iadd, 1) ∧ okop dsL_law_1289 5 = true) ∧ (decode dsL_law_1289 6 = .ok (.iaload, 1) ∧ okop dsL_law_1289 6 = true) ∧ (decode dsL_law_1289 7 = .ok (.invokevirtual 300, 3) ∧ okop dsL_law_1289 7 = true) ∧ (decode dsL_law_1289 10 = .ok (.istore 7, 2) ∧ okop dsL_law_1289 10 = true) ∧ (decode dsL_law_1289 12 = .ok (.goto 1623, 3) ∧ okop dsL_law_1289 12 = true) ∧ (decode dsL_law_1289 15 = .ok (.aload_n 1, 1) ∧ okop dsL_law_1289 15 = true) := by decide +kernel
theorem dL_law_1289 : decode cL_law 1289 = .ok (.iaload, 1) := dgq (p := 0) daL_law_1289 dbL_law_1289.1
theorem dL_law_1290 : decode cL_law 1290 = .ok (.aload_n 0, 1) := dgq (p := 1) daL_law_1289 dbL_law_1289.2.1
theorem dL_law_1291 : decode cL_law 1291 = .ok (.iload 5, 2) := dgq (p := 2) daL_law_1289 dbL_law_1289.2.2.1
theorem dL_law_1293 : decode cL_law 1293 = .ok (.iconst 2, 1) := dgq (p := 4) daL_law_1289 dbL_law_1289.2.2.2.1
theorem dL_law_1294 : decode cL_law 1294 = .ok (.iadd, 1) := dgq (p := 5) daL_law_1289 dbL_law_1289.2.2.2.2.1
theorem dL_law_1295 : decode cL_law 1295 = .ok (.iaload, 1) := dgq (p := 6) daL_law_1289 dbL_law_1289.2.2.2.2.2.1
theorem dL_law_1296 : decode cL_law 1296 = .ok (.invokevirtual 300, 3) := dgq (p := 7) daL_law_1289 dbL_law_1289.2.2.2.2.2.2.1
theorem dL_law_1299 : decode cL_law 1299 = .ok (.istore 7, 2) := dgq (p := 10) daL_law_1289 dbL_law_1289.2.2.2.2.2.2.2.1
theorem dL_law_1301 : decode cL_law 1301 = .ok (.goto 1623, 3) := dgq (p := 12) daL_law_1289 dbL_law_1289.2.2.2.2.2.2.2.2.1
theorem dL_law_1304 : decode cL_law 1304 = .ok (.aload_n 1, 1) := dgq (p := 15) daL_law_1289 dbL_law_1289.2.2.2.2.2.2.2.2.2
def dsL_law_1305 : ByteArray := ⟨#[42, 21, 5, 4, 96, 46, 42, 21, 5, 5, 96, 46]⟩
theorem daL_law_1305 : agB cL_law dsL_law_1305 1305 := agB_of (n := 12) (by decide +kernel)
theorem dbL_law_1305 : (decode dsL_law_1305 0 = .ok (.aload_n 0, 1) ∧ okop dsL_law_1305 0 = true) ∧ (decode dsL_law_1305 1 = .ok (.iload 5, 2) ∧ okop dsL_law_1305 1 = true) ∧ (decode dsL_law_1305 3 = .ok (.iconst 1, 1) ∧ okop dsL_law_1305 3 = true) ∧ (decode dsL_law_1305 4 = .ok (.iadd, 1) ∧ okop dsL_law_1305 4 = true) ∧ (decode dsL_law_1305 5 = .ok (.iaload, 1) ∧ okop dsL_law_1305 5 = true) ∧ (decode dsL_law_1305 6 = .ok (.aload_n 0, 1) ∧ okop dsL_law_1305 6 = true) ∧ (decode dsL_law_1305 7 = .ok (.iload 5, 2) ∧ okop dsL_law_1305 7 = true) ∧ (decode dsL_law_1305 9 = .ok (.iconst 2, 1) ∧ okop dsL_law_1305 9 = true) ∧ (decode dsL_law_1305 10 = .ok (.iadd, 1) ∧ okop dsL_law_1305 10 = true) ∧ (decode dsL_law_1305 11 = .ok (.iaload, 1) ∧ okop dsL_law_1305 11 = true) := by decide +kernel
theorem dL_law_1305 : decode cL_law 1305 = .ok (.aload_n 0, 1) := dgq (p := 0) daL_law_1305 dbL_law_1305.1
theorem dL_law_1306 : decode cL_law 1306 = .ok (.iload 5, 2) := dgq (p := 1) daL_law_1305 dbL_law_1305.2.1
theorem dL_law_1308 : decode cL_law 1308 = .ok (.iconst 1, 1) := dgq (p := 3) daL_law_1305 dbL_law_1305.2.2.1
theorem dL_law_1309 : decode cL_law 1309 = .ok (.iadd, 1) := dgq (p := 4) daL_law_1305 dbL_law_1305.2.2.2.1
theorem dL_law_1310 : decode cL_law 1310 = .ok (.iaload, 1) := dgq (p := 5) daL_law_1305 dbL_law_1305.2.2.2.2.1
theorem dL_law_1311 : decode cL_law 1311 = .ok (.aload_n 0, 1) := dgq (p := 6) daL_law_1305 dbL_law_1305.2.2.2.2.2.1
theorem dL_law_1312 : decode cL_law 1312 = .ok (.iload 5, 2) := dgq (p := 7) daL_law_1305 dbL_law_1305.2.2.2.2.2.2.1
theorem dL_law_1314 : decode cL_law 1314 = .ok (.iconst 2, 1) := dgq (p := 9) daL_law_1305 dbL_law_1305.2.2.2.2.2.2.2.1
theorem dL_law_1315 : decode cL_law 1315 = .ok (.iadd, 1) := dgq (p := 10) daL_law_1305 dbL_law_1305.2.2.2.2.2.2.2.2.1
theorem dL_law_1316 : decode cL_law 1316 = .ok (.iaload, 1) := dgq (p := 11) daL_law_1305 dbL_law_1305.2.2.2.2.2.2.2.2.2
def dsL_law_1317 : ByteArray := ⟨#[42, 21, 5, 6, 96, 46, 42, 21, 5, 7, 96, 46]⟩
theorem daL_law_1317 : agB cL_law dsL_law_1317 1317 := agB_of (n := 12) (by decide +kernel)
theorem dbL_law_1317 : (decode dsL_law_1317 0 = .ok (.aload_n 0, 1) ∧ okop dsL_law_1317 0 = true) ∧ (decode dsL_law_1317 1 = .ok (.iload 5, 2) ∧ okop dsL_law_1317 1 = true) ∧ (decode dsL_law_1317 3 = .ok (.iconst 3, 1) ∧ okop dsL_law_1317 3 = true) ∧ (decode dsL_law_1317 4 = .ok (.iadd, 1) ∧ okop dsL_law_1317 4 = true) ∧ (decode dsL_law_1317 5 = .ok (.iaload, 1) ∧ okop dsL_law_1317 5 = true) ∧ (decode dsL_law_1317 6 = .ok (.aload_n 0, 1) ∧ okop dsL_law_1317 6 = true) ∧ (decode dsL_law_1317 7 = .ok (.iload 5, 2) ∧ okop dsL_law_1317 7 = true) ∧ (decode dsL_law_1317 9 = .ok (.iconst 4, 1) ∧ okop dsL_law_1317 9 = true) ∧ (decode dsL_law_1317 10 = .ok (.iadd, 1) ∧ okop dsL_law_1317 10 = true) ∧ (decode dsL_law_1317 11 = .ok (.iaload, 1) ∧ okop dsL_law_1317 11 = true) := by decide +kernel
theorem dL_law_1317 : decode cL_law 1317 = .ok (.aload_n 0, 1) := dgq (p := 0) daL_law_1317 dbL_law_1317.1
theorem dL_law_1318 : decode cL_law 1318 = .ok (.iload 5, 2) := dgq (p := 1) daL_law_1317 dbL_law_1317.2.1
theorem dL_law_1320 : decode cL_law 1320 = .ok (.iconst 3, 1) := dgq (p := 3) daL_law_1317 dbL_law_1317.2.2.1
theorem dL_law_1321 : decode cL_law 1321 = .ok (.iadd, 1) := dgq (p := 4) daL_law_1317 dbL_law_1317.2.2.2.1
theorem dL_law_1322 : decode cL_law 1322 = .ok (.iaload, 1) := dgq (p := 5) daL_law_1317 dbL_law_1317.2.2.2.2.1
theorem dL_law_1323 : decode cL_law 1323 = .ok (.aload_n 0, 1) := dgq (p := 6) daL_law_1317 dbL_law_1317.2.2.2.2.2.1
theorem dL_law_1324 : decode cL_law 1324 = .ok (.iload 5, 2) := dgq (p := 7) daL_law_1317 dbL_law_1317.2.2.2.2.2.2.1
theorem dL_law_1326 : decode cL_law 1326 = .ok (.iconst 4, 1) := dgq (p := 9) daL_law_1317 dbL_law_1317.2.2.2.2.2.2.2.1
theorem dL_law_1327 : decode cL_law 1327 = .ok (.iadd, 1) := dgq (p := 10) daL_law_1317 dbL_law_1317.2.2.2.2.2.2.2.2.1
theorem dL_law_1328 : decode cL_law 1328 = .ok (.iaload, 1) := dgq (p := 11) daL_law_1317 dbL_law_1317.2.2.2.2.2.2.2.2.2
def dsL_law_1329 : ByteArray := ⟨#[45, 184, 1, 45, 54, 6, 44, 42, 21, 5, 4, 96, 46, 42]⟩
theorem daL_law_1329 : agB cL_law dsL_law_1329 1329 := agB_of (n := 14) (by decide +kernel)
theorem dbL_law_1329 : (decode dsL_law_1329 0 = .ok (.aload_n 3, 1) ∧ okop dsL_law_1329 0 = true) ∧ (decode dsL_law_1329 1 = .ok (.invokestatic 301, 3) ∧ okop dsL_law_1329 1 = true) ∧ (decode dsL_law_1329 4 = .ok (.istore 6, 2) ∧ okop dsL_law_1329 4 = true) ∧ (decode dsL_law_1329 6 = .ok (.aload_n 2, 1) ∧ okop dsL_law_1329 6 = true) ∧ (decode dsL_law_1329 7 = .ok (.aload_n 0, 1) ∧ okop dsL_law_1329 7 = true) ∧ (decode dsL_law_1329 8 = .ok (.iload 5, 2) ∧ okop dsL_law_1329 8 = true) ∧ (decode dsL_law_1329 10 = .ok (.iconst 1, 1) ∧ okop dsL_law_1329 10 = true) ∧ (decode dsL_law_1329 11 = .ok (.iadd, 1) ∧ okop dsL_law_1329 11 = true) ∧ (decode dsL_law_1329 12 = .ok (.iaload, 1) ∧ okop dsL_law_1329 12 = true) ∧ (decode dsL_law_1329 13 = .ok (.aload_n 0, 1) ∧ okop dsL_law_1329 13 = true) := by decide +kernel
theorem dL_law_1329 : decode cL_law 1329 = .ok (.aload_n 3, 1) := dgq (p := 0) daL_law_1329 dbL_law_1329.1
theorem dL_law_1330 : decode cL_law 1330 = .ok (.invokestatic 301, 3) := dgq (p := 1) daL_law_1329 dbL_law_1329.2.1
theorem dL_law_1333 : decode cL_law 1333 = .ok (.istore 6, 2) := dgq (p := 4) daL_law_1329 dbL_law_1329.2.2.1
theorem dL_law_1335 : decode cL_law 1335 = .ok (.aload_n 2, 1) := dgq (p := 6) daL_law_1329 dbL_law_1329.2.2.2.1
theorem dL_law_1336 : decode cL_law 1336 = .ok (.aload_n 0, 1) := dgq (p := 7) daL_law_1329 dbL_law_1329.2.2.2.2.1
theorem dL_law_1337 : decode cL_law 1337 = .ok (.iload 5, 2) := dgq (p := 8) daL_law_1329 dbL_law_1329.2.2.2.2.2.1
theorem dL_law_1339 : decode cL_law 1339 = .ok (.iconst 1, 1) := dgq (p := 10) daL_law_1329 dbL_law_1329.2.2.2.2.2.2.1
theorem dL_law_1340 : decode cL_law 1340 = .ok (.iadd, 1) := dgq (p := 11) daL_law_1329 dbL_law_1329.2.2.2.2.2.2.2.1
theorem dL_law_1341 : decode cL_law 1341 = .ok (.iaload, 1) := dgq (p := 12) daL_law_1329 dbL_law_1329.2.2.2.2.2.2.2.2.1
theorem dL_law_1342 : decode cL_law 1342 = .ok (.aload_n 0, 1) := dgq (p := 13) daL_law_1329 dbL_law_1329.2.2.2.2.2.2.2.2.2
def dsL_law_1343 : ByteArray := ⟨#[21, 5, 5, 96, 46, 42, 21, 5, 6, 96, 46, 42]⟩
theorem daL_law_1343 : agB cL_law dsL_law_1343 1343 := agB_of (n := 12) (by decide +kernel)
theorem dbL_law_1343 : (decode dsL_law_1343 0 = .ok (.iload 5, 2) ∧ okop dsL_law_1343 0 = true) ∧ (decode dsL_law_1343 2 = .ok (.iconst 2, 1) ∧ okop dsL_law_1343 2 = true) ∧ (decode dsL_law_1343 3 = .ok (.iadd, 1) ∧ okop dsL_law_1343 3 = true) ∧ (decode dsL_law_1343 4 = .ok (.iaload, 1) ∧ okop dsL_law_1343 4 = true) ∧ (decode dsL_law_1343 5 = .ok (.aload_n 0, 1) ∧ okop dsL_law_1343 5 = true) ∧ (decode dsL_law_1343 6 = .ok (.iload 5, 2) ∧ okop dsL_law_1343 6 = true) ∧ (decode dsL_law_1343 8 = .ok (.iconst 3, 1) ∧ okop dsL_law_1343 8 = true) ∧ (decode dsL_law_1343 9 = .ok (.iadd, 1) ∧ okop dsL_law_1343 9 = true) ∧ (decode dsL_law_1343 10 = .ok (.iaload, 1) ∧ okop dsL_law_1343 10 = true) ∧ (decode dsL_law_1343 11 = .ok (.aload_n 0, 1) ∧ okop dsL_law_1343 11 = true) := by decide +kernel
theorem dL_law_1343 : decode cL_law 1343 = .ok (.iload 5, 2) := dgq (p := 0) daL_law_1343 dbL_law_1343.1
theorem dL_law_1345 : decode cL_law 1345 = .ok (.iconst 2, 1) := dgq (p := 2) daL_law_1343 dbL_law_1343.2.1
theorem dL_law_1346 : decode cL_law 1346 = .ok (.iadd, 1) := dgq (p := 3) daL_law_1343 dbL_law_1343.2.2.1
theorem dL_law_1347 : decode cL_law 1347 = .ok (.iaload, 1) := dgq (p := 4) daL_law_1343 dbL_law_1343.2.2.2.1
theorem dL_law_1348 : decode cL_law 1348 = .ok (.aload_n 0, 1) := dgq (p := 5) daL_law_1343 dbL_law_1343.2.2.2.2.1
theorem dL_law_1349 : decode cL_law 1349 = .ok (.iload 5, 2) := dgq (p := 6) daL_law_1343 dbL_law_1343.2.2.2.2.2.1
theorem dL_law_1351 : decode cL_law 1351 = .ok (.iconst 3, 1) := dgq (p := 8) daL_law_1343 dbL_law_1343.2.2.2.2.2.2.1
theorem dL_law_1352 : decode cL_law 1352 = .ok (.iadd, 1) := dgq (p := 9) daL_law_1343 dbL_law_1343.2.2.2.2.2.2.2.1
theorem dL_law_1353 : decode cL_law 1353 = .ok (.iaload, 1) := dgq (p := 10) daL_law_1343 dbL_law_1343.2.2.2.2.2.2.2.2.1
theorem dL_law_1354 : decode cL_law 1354 = .ok (.aload_n 0, 1) := dgq (p := 11) daL_law_1343 dbL_law_1343.2.2.2.2.2.2.2.2.2
def dsL_law_1355 : ByteArray := ⟨#[21, 5, 7, 96, 46, 182, 1, 47, 54, 7, 167, 6, 23, 43, 42, 21, 5]⟩
theorem daL_law_1355 : agB cL_law dsL_law_1355 1355 := agB_of (n := 17) (by decide +kernel)
theorem dbL_law_1355 : (decode dsL_law_1355 0 = .ok (.iload 5, 2) ∧ okop dsL_law_1355 0 = true) ∧ (decode dsL_law_1355 2 = .ok (.iconst 4, 1) ∧ okop dsL_law_1355 2 = true) ∧ (decode dsL_law_1355 3 = .ok (.iadd, 1) ∧ okop dsL_law_1355 3 = true) ∧ (decode dsL_law_1355 4 = .ok (.iaload, 1) ∧ okop dsL_law_1355 4 = true) ∧ (decode dsL_law_1355 5 = .ok (.invokevirtual 303, 3) ∧ okop dsL_law_1355 5 = true) ∧ (decode dsL_law_1355 8 = .ok (.istore 7, 2) ∧ okop dsL_law_1355 8 = true) ∧ (decode dsL_law_1355 10 = .ok (.goto 1559, 3) ∧ okop dsL_law_1355 10 = true) ∧ (decode dsL_law_1355 13 = .ok (.aload_n 1, 1) ∧ okop dsL_law_1355 13 = true) ∧ (decode dsL_law_1355 14 = .ok (.aload_n 0, 1) ∧ okop dsL_law_1355 14 = true) ∧ (decode dsL_law_1355 15 = .ok (.iload 5, 2) ∧ okop dsL_law_1355 15 = true) := by decide +kernel
theorem dL_law_1355 : decode cL_law 1355 = .ok (.iload 5, 2) := dgq (p := 0) daL_law_1355 dbL_law_1355.1
theorem dL_law_1357 : decode cL_law 1357 = .ok (.iconst 4, 1) := dgq (p := 2) daL_law_1355 dbL_law_1355.2.1
theorem dL_law_1358 : decode cL_law 1358 = .ok (.iadd, 1) := dgq (p := 3) daL_law_1355 dbL_law_1355.2.2.1
theorem dL_law_1359 : decode cL_law 1359 = .ok (.iaload, 1) := dgq (p := 4) daL_law_1355 dbL_law_1355.2.2.2.1
theorem dL_law_1360 : decode cL_law 1360 = .ok (.invokevirtual 303, 3) := dgq (p := 5) daL_law_1355 dbL_law_1355.2.2.2.2.1
theorem dL_law_1363 : decode cL_law 1363 = .ok (.istore 7, 2) := dgq (p := 8) daL_law_1355 dbL_law_1355.2.2.2.2.2.1
theorem dL_law_1365 : decode cL_law 1365 = .ok (.goto 1559, 3) := dgq (p := 10) daL_law_1355 dbL_law_1355.2.2.2.2.2.2.1
theorem dL_law_1368 : decode cL_law 1368 = .ok (.aload_n 1, 1) := dgq (p := 13) daL_law_1355 dbL_law_1355.2.2.2.2.2.2.2.1
theorem dL_law_1369 : decode cL_law 1369 = .ok (.aload_n 0, 1) := dgq (p := 14) daL_law_1355 dbL_law_1355.2.2.2.2.2.2.2.2.1
theorem dL_law_1370 : decode cL_law 1370 = .ok (.iload 5, 2) := dgq (p := 15) daL_law_1355 dbL_law_1355.2.2.2.2.2.2.2.2.2
def dsL_law_1372 : ByteArray := ⟨#[4, 96, 46, 42, 21, 5, 5, 96, 46, 42, 21, 5]⟩
theorem daL_law_1372 : agB cL_law dsL_law_1372 1372 := agB_of (n := 12) (by decide +kernel)
theorem dbL_law_1372 : (decode dsL_law_1372 0 = .ok (.iconst 1, 1) ∧ okop dsL_law_1372 0 = true) ∧ (decode dsL_law_1372 1 = .ok (.iadd, 1) ∧ okop dsL_law_1372 1 = true) ∧ (decode dsL_law_1372 2 = .ok (.iaload, 1) ∧ okop dsL_law_1372 2 = true) ∧ (decode dsL_law_1372 3 = .ok (.aload_n 0, 1) ∧ okop dsL_law_1372 3 = true) ∧ (decode dsL_law_1372 4 = .ok (.iload 5, 2) ∧ okop dsL_law_1372 4 = true) ∧ (decode dsL_law_1372 6 = .ok (.iconst 2, 1) ∧ okop dsL_law_1372 6 = true) ∧ (decode dsL_law_1372 7 = .ok (.iadd, 1) ∧ okop dsL_law_1372 7 = true) ∧ (decode dsL_law_1372 8 = .ok (.iaload, 1) ∧ okop dsL_law_1372 8 = true) ∧ (decode dsL_law_1372 9 = .ok (.aload_n 0, 1) ∧ okop dsL_law_1372 9 = true) ∧ (decode dsL_law_1372 10 = .ok (.iload 5, 2) ∧ okop dsL_law_1372 10 = true) := by decide +kernel
theorem dL_law_1372 : decode cL_law 1372 = .ok (.iconst 1, 1) := dgq (p := 0) daL_law_1372 dbL_law_1372.1
theorem dL_law_1373 : decode cL_law 1373 = .ok (.iadd, 1) := dgq (p := 1) daL_law_1372 dbL_law_1372.2.1
theorem dL_law_1374 : decode cL_law 1374 = .ok (.iaload, 1) := dgq (p := 2) daL_law_1372 dbL_law_1372.2.2.1
theorem dL_law_1375 : decode cL_law 1375 = .ok (.aload_n 0, 1) := dgq (p := 3) daL_law_1372 dbL_law_1372.2.2.2.1
theorem dL_law_1376 : decode cL_law 1376 = .ok (.iload 5, 2) := dgq (p := 4) daL_law_1372 dbL_law_1372.2.2.2.2.1
theorem dL_law_1378 : decode cL_law 1378 = .ok (.iconst 2, 1) := dgq (p := 6) daL_law_1372 dbL_law_1372.2.2.2.2.2.1
theorem dL_law_1379 : decode cL_law 1379 = .ok (.iadd, 1) := dgq (p := 7) daL_law_1372 dbL_law_1372.2.2.2.2.2.2.1
theorem dL_law_1380 : decode cL_law 1380 = .ok (.iaload, 1) := dgq (p := 8) daL_law_1372 dbL_law_1372.2.2.2.2.2.2.2.1
theorem dL_law_1381 : decode cL_law 1381 = .ok (.aload_n 0, 1) := dgq (p := 9) daL_law_1372 dbL_law_1372.2.2.2.2.2.2.2.2.1
theorem dL_law_1382 : decode cL_law 1382 = .ok (.iload 5, 2) := dgq (p := 10) daL_law_1372 dbL_law_1372.2.2.2.2.2.2.2.2.2
def dsL_law_1384 : ByteArray := ⟨#[6, 96, 46, 45, 184, 1, 48, 54, 6, 44, 42, 21, 5, 4]⟩
theorem daL_law_1384 : agB cL_law dsL_law_1384 1384 := agB_of (n := 14) (by decide +kernel)
theorem dbL_law_1384 : (decode dsL_law_1384 0 = .ok (.iconst 3, 1) ∧ okop dsL_law_1384 0 = true) ∧ (decode dsL_law_1384 1 = .ok (.iadd, 1) ∧ okop dsL_law_1384 1 = true) ∧ (decode dsL_law_1384 2 = .ok (.iaload, 1) ∧ okop dsL_law_1384 2 = true) ∧ (decode dsL_law_1384 3 = .ok (.aload_n 3, 1) ∧ okop dsL_law_1384 3 = true) ∧ (decode dsL_law_1384 4 = .ok (.invokestatic 304, 3) ∧ okop dsL_law_1384 4 = true) ∧ (decode dsL_law_1384 7 = .ok (.istore 6, 2) ∧ okop dsL_law_1384 7 = true) ∧ (decode dsL_law_1384 9 = .ok (.aload_n 2, 1) ∧ okop dsL_law_1384 9 = true) ∧ (decode dsL_law_1384 10 = .ok (.aload_n 0, 1) ∧ okop dsL_law_1384 10 = true) ∧ (decode dsL_law_1384 11 = .ok (.iload 5, 2) ∧ okop dsL_law_1384 11 = true) ∧ (decode dsL_law_1384 13 = .ok (.iconst 1, 1) ∧ okop dsL_law_1384 13 = true) := by decide +kernel
theorem dL_law_1384 : decode cL_law 1384 = .ok (.iconst 3, 1) := dgq (p := 0) daL_law_1384 dbL_law_1384.1
theorem dL_law_1385 : decode cL_law 1385 = .ok (.iadd, 1) := dgq (p := 1) daL_law_1384 dbL_law_1384.2.1
theorem dL_law_1386 : decode cL_law 1386 = .ok (.iaload, 1) := dgq (p := 2) daL_law_1384 dbL_law_1384.2.2.1
theorem dL_law_1387 : decode cL_law 1387 = .ok (.aload_n 3, 1) := dgq (p := 3) daL_law_1384 dbL_law_1384.2.2.2.1
theorem dL_law_1388 : decode cL_law 1388 = .ok (.invokestatic 304, 3) := dgq (p := 4) daL_law_1384 dbL_law_1384.2.2.2.2.1
theorem dL_law_1391 : decode cL_law 1391 = .ok (.istore 6, 2) := dgq (p := 7) daL_law_1384 dbL_law_1384.2.2.2.2.2.1
theorem dL_law_1393 : decode cL_law 1393 = .ok (.aload_n 2, 1) := dgq (p := 9) daL_law_1384 dbL_law_1384.2.2.2.2.2.2.1
theorem dL_law_1394 : decode cL_law 1394 = .ok (.aload_n 0, 1) := dgq (p := 10) daL_law_1384 dbL_law_1384.2.2.2.2.2.2.2.1
theorem dL_law_1395 : decode cL_law 1395 = .ok (.iload 5, 2) := dgq (p := 11) daL_law_1384 dbL_law_1384.2.2.2.2.2.2.2.2.1
theorem dL_law_1397 : decode cL_law 1397 = .ok (.iconst 1, 1) := dgq (p := 13) daL_law_1384 dbL_law_1384.2.2.2.2.2.2.2.2.2
def dsL_law_1398 : ByteArray := ⟨#[96, 46, 42, 21, 5, 5, 96, 46, 42, 21, 5, 6]⟩
theorem daL_law_1398 : agB cL_law dsL_law_1398 1398 := agB_of (n := 12) (by decide +kernel)
theorem dbL_law_1398 : (decode dsL_law_1398 0 = .ok (.iadd, 1) ∧ okop dsL_law_1398 0 = true) ∧ (decode dsL_law_1398 1 = .ok (.iaload, 1) ∧ okop dsL_law_1398 1 = true) ∧ (decode dsL_law_1398 2 = .ok (.aload_n 0, 1) ∧ okop dsL_law_1398 2 = true) ∧ (decode dsL_law_1398 3 = .ok (.iload 5, 2) ∧ okop dsL_law_1398 3 = true) ∧ (decode dsL_law_1398 5 = .ok (.iconst 2, 1) ∧ okop dsL_law_1398 5 = true) ∧ (decode dsL_law_1398 6 = .ok (.iadd, 1) ∧ okop dsL_law_1398 6 = true) ∧ (decode dsL_law_1398 7 = .ok (.iaload, 1) ∧ okop dsL_law_1398 7 = true) ∧ (decode dsL_law_1398 8 = .ok (.aload_n 0, 1) ∧ okop dsL_law_1398 8 = true) ∧ (decode dsL_law_1398 9 = .ok (.iload 5, 2) ∧ okop dsL_law_1398 9 = true) ∧ (decode dsL_law_1398 11 = .ok (.iconst 3, 1) ∧ okop dsL_law_1398 11 = true) := by decide +kernel
theorem dL_law_1398 : decode cL_law 1398 = .ok (.iadd, 1) := dgq (p := 0) daL_law_1398 dbL_law_1398.1
theorem dL_law_1399 : decode cL_law 1399 = .ok (.iaload, 1) := dgq (p := 1) daL_law_1398 dbL_law_1398.2.1
theorem dL_law_1400 : decode cL_law 1400 = .ok (.aload_n 0, 1) := dgq (p := 2) daL_law_1398 dbL_law_1398.2.2.1
theorem dL_law_1401 : decode cL_law 1401 = .ok (.iload 5, 2) := dgq (p := 3) daL_law_1398 dbL_law_1398.2.2.2.1
theorem dL_law_1403 : decode cL_law 1403 = .ok (.iconst 2, 1) := dgq (p := 5) daL_law_1398 dbL_law_1398.2.2.2.2.1
theorem dL_law_1404 : decode cL_law 1404 = .ok (.iadd, 1) := dgq (p := 6) daL_law_1398 dbL_law_1398.2.2.2.2.2.1
theorem dL_law_1405 : decode cL_law 1405 = .ok (.iaload, 1) := dgq (p := 7) daL_law_1398 dbL_law_1398.2.2.2.2.2.2.1
theorem dL_law_1406 : decode cL_law 1406 = .ok (.aload_n 0, 1) := dgq (p := 8) daL_law_1398 dbL_law_1398.2.2.2.2.2.2.2.1
theorem dL_law_1407 : decode cL_law 1407 = .ok (.iload 5, 2) := dgq (p := 9) daL_law_1398 dbL_law_1398.2.2.2.2.2.2.2.2.1
theorem dL_law_1409 : decode cL_law 1409 = .ok (.iconst 3, 1) := dgq (p := 11) daL_law_1398 dbL_law_1398.2.2.2.2.2.2.2.2.2
def dsL_law_1410 : ByteArray := ⟨#[96, 46, 182, 1, 50, 54, 7, 167, 5, 227, 43, 42, 21, 5, 4, 96]⟩
theorem daL_law_1410 : agB cL_law dsL_law_1410 1410 := agB_of (n := 16) (by decide +kernel)
theorem dbL_law_1410 : (decode dsL_law_1410 0 = .ok (.iadd, 1) ∧ okop dsL_law_1410 0 = true) ∧ (decode dsL_law_1410 1 = .ok (.iaload, 1) ∧ okop dsL_law_1410 1 = true) ∧ (decode dsL_law_1410 2 = .ok (.invokevirtual 306, 3) ∧ okop dsL_law_1410 2 = true) ∧ (decode dsL_law_1410 5 = .ok (.istore 7, 2) ∧ okop dsL_law_1410 5 = true) ∧ (decode dsL_law_1410 7 = .ok (.goto 1507, 3) ∧ okop dsL_law_1410 7 = true) ∧ (decode dsL_law_1410 10 = .ok (.aload_n 1, 1) ∧ okop dsL_law_1410 10 = true) ∧ (decode dsL_law_1410 11 = .ok (.aload_n 0, 1) ∧ okop dsL_law_1410 11 = true) ∧ (decode dsL_law_1410 12 = .ok (.iload 5, 2) ∧ okop dsL_law_1410 12 = true) ∧ (decode dsL_law_1410 14 = .ok (.iconst 1, 1) ∧ okop dsL_law_1410 14 = true) ∧ (decode dsL_law_1410 15 = .ok (.iadd, 1) ∧ okop dsL_law_1410 15 = true) := by decide +kernel
theorem dL_law_1410 : decode cL_law 1410 = .ok (.iadd, 1) := dgq (p := 0) daL_law_1410 dbL_law_1410.1
theorem dL_law_1411 : decode cL_law 1411 = .ok (.iaload, 1) := dgq (p := 1) daL_law_1410 dbL_law_1410.2.1
theorem dL_law_1412 : decode cL_law 1412 = .ok (.invokevirtual 306, 3) := dgq (p := 2) daL_law_1410 dbL_law_1410.2.2.1
theorem dL_law_1415 : decode cL_law 1415 = .ok (.istore 7, 2) := dgq (p := 5) daL_law_1410 dbL_law_1410.2.2.2.1
theorem dL_law_1417 : decode cL_law 1417 = .ok (.goto 1507, 3) := dgq (p := 7) daL_law_1410 dbL_law_1410.2.2.2.2.1
theorem dL_law_1420 : decode cL_law 1420 = .ok (.aload_n 1, 1) := dgq (p := 10) daL_law_1410 dbL_law_1410.2.2.2.2.2.1
theorem dL_law_1421 : decode cL_law 1421 = .ok (.aload_n 0, 1) := dgq (p := 11) daL_law_1410 dbL_law_1410.2.2.2.2.2.2.1
theorem dL_law_1422 : decode cL_law 1422 = .ok (.iload 5, 2) := dgq (p := 12) daL_law_1410 dbL_law_1410.2.2.2.2.2.2.2.1
theorem dL_law_1424 : decode cL_law 1424 = .ok (.iconst 1, 1) := dgq (p := 14) daL_law_1410 dbL_law_1410.2.2.2.2.2.2.2.2.1
theorem dL_law_1425 : decode cL_law 1425 = .ok (.iadd, 1) := dgq (p := 15) daL_law_1410 dbL_law_1410.2.2.2.2.2.2.2.2.2
def dsL_law_1426 : ByteArray := ⟨#[46, 42, 21, 5, 5, 96, 46, 42, 21, 5, 6, 96]⟩
theorem daL_law_1426 : agB cL_law dsL_law_1426 1426 := agB_of (n := 12) (by decide +kernel)
theorem dbL_law_1426 : (decode dsL_law_1426 0 = .ok (.iaload, 1) ∧ okop dsL_law_1426 0 = true) ∧ (decode dsL_law_1426 1 = .ok (.aload_n 0, 1) ∧ okop dsL_law_1426 1 = true) ∧ (decode dsL_law_1426 2 = .ok (.iload 5, 2) ∧ okop dsL_law_1426 2 = true) ∧ (decode dsL_law_1426 4 = .ok (.iconst 2, 1) ∧ okop dsL_law_1426 4 = true) ∧ (decode dsL_law_1426 5 = .ok (.iadd, 1) ∧ okop dsL_law_1426 5 = true) ∧ (decode dsL_law_1426 6 = .ok (.iaload, 1) ∧ okop dsL_law_1426 6 = true) ∧ (decode dsL_law_1426 7 = .ok (.aload_n 0, 1) ∧ okop dsL_law_1426 7 = true) ∧ (decode dsL_law_1426 8 = .ok (.iload 5, 2) ∧ okop dsL_law_1426 8 = true) ∧ (decode dsL_law_1426 10 = .ok (.iconst 3, 1) ∧ okop dsL_law_1426 10 = true) ∧ (decode dsL_law_1426 11 = .ok (.iadd, 1) ∧ okop dsL_law_1426 11 = true) := by decide +kernel
theorem dL_law_1426 : decode cL_law 1426 = .ok (.iaload, 1) := dgq (p := 0) daL_law_1426 dbL_law_1426.1
theorem dL_law_1427 : decode cL_law 1427 = .ok (.aload_n 0, 1) := dgq (p := 1) daL_law_1426 dbL_law_1426.2.1
theorem dL_law_1428 : decode cL_law 1428 = .ok (.iload 5, 2) := dgq (p := 2) daL_law_1426 dbL_law_1426.2.2.1
theorem dL_law_1430 : decode cL_law 1430 = .ok (.iconst 2, 1) := dgq (p := 4) daL_law_1426 dbL_law_1426.2.2.2.1
theorem dL_law_1431 : decode cL_law 1431 = .ok (.iadd, 1) := dgq (p := 5) daL_law_1426 dbL_law_1426.2.2.2.2.1
theorem dL_law_1432 : decode cL_law 1432 = .ok (.iaload, 1) := dgq (p := 6) daL_law_1426 dbL_law_1426.2.2.2.2.2.1
theorem dL_law_1433 : decode cL_law 1433 = .ok (.aload_n 0, 1) := dgq (p := 7) daL_law_1426 dbL_law_1426.2.2.2.2.2.2.1
theorem dL_law_1434 : decode cL_law 1434 = .ok (.iload 5, 2) := dgq (p := 8) daL_law_1426 dbL_law_1426.2.2.2.2.2.2.2.1
theorem dL_law_1436 : decode cL_law 1436 = .ok (.iconst 3, 1) := dgq (p := 10) daL_law_1426 dbL_law_1426.2.2.2.2.2.2.2.2.1
theorem dL_law_1437 : decode cL_law 1437 = .ok (.iadd, 1) := dgq (p := 11) daL_law_1426 dbL_law_1426.2.2.2.2.2.2.2.2.2
def dsL_law_1438 : ByteArray := ⟨#[46, 45, 184, 1, 51, 54, 6, 44, 42, 21, 5, 4, 96, 46]⟩
theorem daL_law_1438 : agB cL_law dsL_law_1438 1438 := agB_of (n := 14) (by decide +kernel)
theorem dbL_law_1438 : (decode dsL_law_1438 0 = .ok (.iaload, 1) ∧ okop dsL_law_1438 0 = true) ∧ (decode dsL_law_1438 1 = .ok (.aload_n 3, 1) ∧ okop dsL_law_1438 1 = true) ∧ (decode dsL_law_1438 2 = .ok (.invokestatic 307, 3) ∧ okop dsL_law_1438 2 = true) ∧ (decode dsL_law_1438 5 = .ok (.istore 6, 2) ∧ okop dsL_law_1438 5 = true) ∧ (decode dsL_law_1438 7 = .ok (.aload_n 2, 1) ∧ okop dsL_law_1438 7 = true) ∧ (decode dsL_law_1438 8 = .ok (.aload_n 0, 1) ∧ okop dsL_law_1438 8 = true) ∧ (decode dsL_law_1438 9 = .ok (.iload 5, 2) ∧ okop dsL_law_1438 9 = true) ∧ (decode dsL_law_1438 11 = .ok (.iconst 1, 1) ∧ okop dsL_law_1438 11 = true) ∧ (decode dsL_law_1438 12 = .ok (.iadd, 1) ∧ okop dsL_law_1438 12 = true) ∧ (decode dsL_law_1438 13 = .ok (.iaload, 1) ∧ okop dsL_law_1438 13 = true) := by decide +kernel
theorem dL_law_1438 : decode cL_law 1438 = .ok (.iaload, 1) := dgq (p := 0) daL_law_1438 dbL_law_1438.1
theorem dL_law_1439 : decode cL_law 1439 = .ok (.aload_n 3, 1) := dgq (p := 1) daL_law_1438 dbL_law_1438.2.1
theorem dL_law_1440 : decode cL_law 1440 = .ok (.invokestatic 307, 3) := dgq (p := 2) daL_law_1438 dbL_law_1438.2.2.1
theorem dL_law_1443 : decode cL_law 1443 = .ok (.istore 6, 2) := dgq (p := 5) daL_law_1438 dbL_law_1438.2.2.2.1
theorem dL_law_1445 : decode cL_law 1445 = .ok (.aload_n 2, 1) := dgq (p := 7) daL_law_1438 dbL_law_1438.2.2.2.2.1
theorem dL_law_1446 : decode cL_law 1446 = .ok (.aload_n 0, 1) := dgq (p := 8) daL_law_1438 dbL_law_1438.2.2.2.2.2.1
theorem dL_law_1447 : decode cL_law 1447 = .ok (.iload 5, 2) := dgq (p := 9) daL_law_1438 dbL_law_1438.2.2.2.2.2.2.1
theorem dL_law_1449 : decode cL_law 1449 = .ok (.iconst 1, 1) := dgq (p := 11) daL_law_1438 dbL_law_1438.2.2.2.2.2.2.2.1
theorem dL_law_1450 : decode cL_law 1450 = .ok (.iadd, 1) := dgq (p := 12) daL_law_1438 dbL_law_1438.2.2.2.2.2.2.2.2.1
theorem dL_law_1451 : decode cL_law 1451 = .ok (.iaload, 1) := dgq (p := 13) daL_law_1438 dbL_law_1438.2.2.2.2.2.2.2.2.2
def dsL_law_1452 : ByteArray := ⟨#[42, 21, 5, 5, 96, 46, 42, 21, 5, 6, 96, 46]⟩
theorem daL_law_1452 : agB cL_law dsL_law_1452 1452 := agB_of (n := 12) (by decide +kernel)
theorem dbL_law_1452 : (decode dsL_law_1452 0 = .ok (.aload_n 0, 1) ∧ okop dsL_law_1452 0 = true) ∧ (decode dsL_law_1452 1 = .ok (.iload 5, 2) ∧ okop dsL_law_1452 1 = true) ∧ (decode dsL_law_1452 3 = .ok (.iconst 2, 1) ∧ okop dsL_law_1452 3 = true) ∧ (decode dsL_law_1452 4 = .ok (.iadd, 1) ∧ okop dsL_law_1452 4 = true) ∧ (decode dsL_law_1452 5 = .ok (.iaload, 1) ∧ okop dsL_law_1452 5 = true) ∧ (decode dsL_law_1452 6 = .ok (.aload_n 0, 1) ∧ okop dsL_law_1452 6 = true) ∧ (decode dsL_law_1452 7 = .ok (.iload 5, 2) ∧ okop dsL_law_1452 7 = true) ∧ (decode dsL_law_1452 9 = .ok (.iconst 3, 1) ∧ okop dsL_law_1452 9 = true) ∧ (decode dsL_law_1452 10 = .ok (.iadd, 1) ∧ okop dsL_law_1452 10 = true) ∧ (decode dsL_law_1452 11 = .ok (.iaload, 1) ∧ okop dsL_law_1452 11 = true) := by decide +kernel
theorem dL_law_1452 : decode cL_law 1452 = .ok (.aload_n 0, 1) := dgq (p := 0) daL_law_1452 dbL_law_1452.1
theorem dL_law_1453 : decode cL_law 1453 = .ok (.iload 5, 2) := dgq (p := 1) daL_law_1452 dbL_law_1452.2.1
theorem dL_law_1455 : decode cL_law 1455 = .ok (.iconst 2, 1) := dgq (p := 3) daL_law_1452 dbL_law_1452.2.2.1
theorem dL_law_1456 : decode cL_law 1456 = .ok (.iadd, 1) := dgq (p := 4) daL_law_1452 dbL_law_1452.2.2.2.1
theorem dL_law_1457 : decode cL_law 1457 = .ok (.iaload, 1) := dgq (p := 5) daL_law_1452 dbL_law_1452.2.2.2.2.1
theorem dL_law_1458 : decode cL_law 1458 = .ok (.aload_n 0, 1) := dgq (p := 6) daL_law_1452 dbL_law_1452.2.2.2.2.2.1
theorem dL_law_1459 : decode cL_law 1459 = .ok (.iload 5, 2) := dgq (p := 7) daL_law_1452 dbL_law_1452.2.2.2.2.2.2.1
theorem dL_law_1461 : decode cL_law 1461 = .ok (.iconst 3, 1) := dgq (p := 9) daL_law_1452 dbL_law_1452.2.2.2.2.2.2.2.1
theorem dL_law_1462 : decode cL_law 1462 = .ok (.iadd, 1) := dgq (p := 10) daL_law_1452 dbL_law_1452.2.2.2.2.2.2.2.2.1
theorem dL_law_1463 : decode cL_law 1463 = .ok (.iaload, 1) := dgq (p := 11) daL_law_1452 dbL_law_1452.2.2.2.2.2.2.2.2.2
def dsL_law_1464 : ByteArray := ⟨#[182, 1, 53, 54, 7, 167, 5, 175, 43, 42, 21, 5, 4, 96, 46, 42]⟩
theorem daL_law_1464 : agB cL_law dsL_law_1464 1464 := agB_of (n := 16) (by decide +kernel)
theorem dbL_law_1464 : (decode dsL_law_1464 0 = .ok (.invokevirtual 309, 3) ∧ okop dsL_law_1464 0 = true) ∧ (decode dsL_law_1464 3 = .ok (.istore 7, 2) ∧ okop dsL_law_1464 3 = true) ∧ (decode dsL_law_1464 5 = .ok (.goto 1455, 3) ∧ okop dsL_law_1464 5 = true) ∧ (decode dsL_law_1464 8 = .ok (.aload_n 1, 1) ∧ okop dsL_law_1464 8 = true) ∧ (decode dsL_law_1464 9 = .ok (.aload_n 0, 1) ∧ okop dsL_law_1464 9 = true) ∧ (decode dsL_law_1464 10 = .ok (.iload 5, 2) ∧ okop dsL_law_1464 10 = true) ∧ (decode dsL_law_1464 12 = .ok (.iconst 1, 1) ∧ okop dsL_law_1464 12 = true) ∧ (decode dsL_law_1464 13 = .ok (.iadd, 1) ∧ okop dsL_law_1464 13 = true) ∧ (decode dsL_law_1464 14 = .ok (.iaload, 1) ∧ okop dsL_law_1464 14 = true) ∧ (decode dsL_law_1464 15 = .ok (.aload_n 0, 1) ∧ okop dsL_law_1464 15 = true) := by decide +kernel
theorem dL_law_1464 : decode cL_law 1464 = .ok (.invokevirtual 309, 3) := dgq (p := 0) daL_law_1464 dbL_law_1464.1
theorem dL_law_1467 : decode cL_law 1467 = .ok (.istore 7, 2) := dgq (p := 3) daL_law_1464 dbL_law_1464.2.1
theorem dL_law_1469 : decode cL_law 1469 = .ok (.goto 1455, 3) := dgq (p := 5) daL_law_1464 dbL_law_1464.2.2.1
theorem dL_law_1472 : decode cL_law 1472 = .ok (.aload_n 1, 1) := dgq (p := 8) daL_law_1464 dbL_law_1464.2.2.2.1
theorem dL_law_1473 : decode cL_law 1473 = .ok (.aload_n 0, 1) := dgq (p := 9) daL_law_1464 dbL_law_1464.2.2.2.2.1
theorem dL_law_1474 : decode cL_law 1474 = .ok (.iload 5, 2) := dgq (p := 10) daL_law_1464 dbL_law_1464.2.2.2.2.2.1
theorem dL_law_1476 : decode cL_law 1476 = .ok (.iconst 1, 1) := dgq (p := 12) daL_law_1464 dbL_law_1464.2.2.2.2.2.2.1
theorem dL_law_1477 : decode cL_law 1477 = .ok (.iadd, 1) := dgq (p := 13) daL_law_1464 dbL_law_1464.2.2.2.2.2.2.2.1
theorem dL_law_1478 : decode cL_law 1478 = .ok (.iaload, 1) := dgq (p := 14) daL_law_1464 dbL_law_1464.2.2.2.2.2.2.2.2.1
theorem dL_law_1479 : decode cL_law 1479 = .ok (.aload_n 0, 1) := dgq (p := 15) daL_law_1464 dbL_law_1464.2.2.2.2.2.2.2.2.2
def dsL_law_1480 : ByteArray := ⟨#[21, 5, 5, 96, 46, 45, 184, 1, 54, 54, 6, 44, 42, 21, 5]⟩
theorem daL_law_1480 : agB cL_law dsL_law_1480 1480 := agB_of (n := 15) (by decide +kernel)
theorem dbL_law_1480 : (decode dsL_law_1480 0 = .ok (.iload 5, 2) ∧ okop dsL_law_1480 0 = true) ∧ (decode dsL_law_1480 2 = .ok (.iconst 2, 1) ∧ okop dsL_law_1480 2 = true) ∧ (decode dsL_law_1480 3 = .ok (.iadd, 1) ∧ okop dsL_law_1480 3 = true) ∧ (decode dsL_law_1480 4 = .ok (.iaload, 1) ∧ okop dsL_law_1480 4 = true) ∧ (decode dsL_law_1480 5 = .ok (.aload_n 3, 1) ∧ okop dsL_law_1480 5 = true) ∧ (decode dsL_law_1480 6 = .ok (.invokestatic 310, 3) ∧ okop dsL_law_1480 6 = true) ∧ (decode dsL_law_1480 9 = .ok (.istore 6, 2) ∧ okop dsL_law_1480 9 = true) ∧ (decode dsL_law_1480 11 = .ok (.aload_n 2, 1) ∧ okop dsL_law_1480 11 = true) ∧ (decode dsL_law_1480 12 = .ok (.aload_n 0, 1) ∧ okop dsL_law_1480 12 = true) ∧ (decode dsL_law_1480 13 = .ok (.iload 5, 2) ∧ okop dsL_law_1480 13 = true) := by decide +kernel
theorem dL_law_1480 : decode cL_law 1480 = .ok (.iload 5, 2) := dgq (p := 0) daL_law_1480 dbL_law_1480.1
theorem dL_law_1482 : decode cL_law 1482 = .ok (.iconst 2, 1) := dgq (p := 2) daL_law_1480 dbL_law_1480.2.1
theorem dL_law_1483 : decode cL_law 1483 = .ok (.iadd, 1) := dgq (p := 3) daL_law_1480 dbL_law_1480.2.2.1
theorem dL_law_1484 : decode cL_law 1484 = .ok (.iaload, 1) := dgq (p := 4) daL_law_1480 dbL_law_1480.2.2.2.1
theorem dL_law_1485 : decode cL_law 1485 = .ok (.aload_n 3, 1) := dgq (p := 5) daL_law_1480 dbL_law_1480.2.2.2.2.1
theorem dL_law_1486 : decode cL_law 1486 = .ok (.invokestatic 310, 3) := dgq (p := 6) daL_law_1480 dbL_law_1480.2.2.2.2.2.1
theorem dL_law_1489 : decode cL_law 1489 = .ok (.istore 6, 2) := dgq (p := 9) daL_law_1480 dbL_law_1480.2.2.2.2.2.2.1
theorem dL_law_1491 : decode cL_law 1491 = .ok (.aload_n 2, 1) := dgq (p := 11) daL_law_1480 dbL_law_1480.2.2.2.2.2.2.2.1
theorem dL_law_1492 : decode cL_law 1492 = .ok (.aload_n 0, 1) := dgq (p := 12) daL_law_1480 dbL_law_1480.2.2.2.2.2.2.2.2.1
theorem dL_law_1493 : decode cL_law 1493 = .ok (.iload 5, 2) := dgq (p := 13) daL_law_1480 dbL_law_1480.2.2.2.2.2.2.2.2.2
def dsL_law_1495 : ByteArray := ⟨#[4, 96, 46, 42, 21, 5, 5, 96, 46, 182, 1, 56, 54, 7]⟩
theorem daL_law_1495 : agB cL_law dsL_law_1495 1495 := agB_of (n := 14) (by decide +kernel)
theorem dbL_law_1495 : (decode dsL_law_1495 0 = .ok (.iconst 1, 1) ∧ okop dsL_law_1495 0 = true) ∧ (decode dsL_law_1495 1 = .ok (.iadd, 1) ∧ okop dsL_law_1495 1 = true) ∧ (decode dsL_law_1495 2 = .ok (.iaload, 1) ∧ okop dsL_law_1495 2 = true) ∧ (decode dsL_law_1495 3 = .ok (.aload_n 0, 1) ∧ okop dsL_law_1495 3 = true) ∧ (decode dsL_law_1495 4 = .ok (.iload 5, 2) ∧ okop dsL_law_1495 4 = true) ∧ (decode dsL_law_1495 6 = .ok (.iconst 2, 1) ∧ okop dsL_law_1495 6 = true) ∧ (decode dsL_law_1495 7 = .ok (.iadd, 1) ∧ okop dsL_law_1495 7 = true) ∧ (decode dsL_law_1495 8 = .ok (.iaload, 1) ∧ okop dsL_law_1495 8 = true) ∧ (decode dsL_law_1495 9 = .ok (.invokevirtual 312, 3) ∧ okop dsL_law_1495 9 = true) ∧ (decode dsL_law_1495 12 = .ok (.istore 7, 2) ∧ okop dsL_law_1495 12 = true) := by decide +kernel
theorem dL_law_1495 : decode cL_law 1495 = .ok (.iconst 1, 1) := dgq (p := 0) daL_law_1495 dbL_law_1495.1
theorem dL_law_1496 : decode cL_law 1496 = .ok (.iadd, 1) := dgq (p := 1) daL_law_1495 dbL_law_1495.2.1
theorem dL_law_1497 : decode cL_law 1497 = .ok (.iaload, 1) := dgq (p := 2) daL_law_1495 dbL_law_1495.2.2.1
theorem dL_law_1498 : decode cL_law 1498 = .ok (.aload_n 0, 1) := dgq (p := 3) daL_law_1495 dbL_law_1495.2.2.2.1
theorem dL_law_1499 : decode cL_law 1499 = .ok (.iload 5, 2) := dgq (p := 4) daL_law_1495 dbL_law_1495.2.2.2.2.1
theorem dL_law_1501 : decode cL_law 1501 = .ok (.iconst 2, 1) := dgq (p := 6) daL_law_1495 dbL_law_1495.2.2.2.2.2.1
theorem dL_law_1502 : decode cL_law 1502 = .ok (.iadd, 1) := dgq (p := 7) daL_law_1495 dbL_law_1495.2.2.2.2.2.2.1
theorem dL_law_1503 : decode cL_law 1503 = .ok (.iaload, 1) := dgq (p := 8) daL_law_1495 dbL_law_1495.2.2.2.2.2.2.2.1
theorem dL_law_1504 : decode cL_law 1504 = .ok (.invokevirtual 312, 3) := dgq (p := 9) daL_law_1495 dbL_law_1495.2.2.2.2.2.2.2.2.1
theorem dL_law_1507 : decode cL_law 1507 = .ok (.istore 7, 2) := dgq (p := 12) daL_law_1495 dbL_law_1495.2.2.2.2.2.2.2.2.2
def dsL_law_1509 : ByteArray := ⟨#[167, 5, 135, 43, 42, 21, 5, 4, 96, 46, 45, 184, 1, 57, 54, 6]⟩
theorem daL_law_1509 : agB cL_law dsL_law_1509 1509 := agB_of (n := 16) (by decide +kernel)
theorem dbL_law_1509 : (decode dsL_law_1509 0 = .ok (.goto 1415, 3) ∧ okop dsL_law_1509 0 = true) ∧ (decode dsL_law_1509 3 = .ok (.aload_n 1, 1) ∧ okop dsL_law_1509 3 = true) ∧ (decode dsL_law_1509 4 = .ok (.aload_n 0, 1) ∧ okop dsL_law_1509 4 = true) ∧ (decode dsL_law_1509 5 = .ok (.iload 5, 2) ∧ okop dsL_law_1509 5 = true) ∧ (decode dsL_law_1509 7 = .ok (.iconst 1, 1) ∧ okop dsL_law_1509 7 = true) ∧ (decode dsL_law_1509 8 = .ok (.iadd, 1) ∧ okop dsL_law_1509 8 = true) ∧ (decode dsL_law_1509 9 = .ok (.iaload, 1) ∧ okop dsL_law_1509 9 = true) ∧ (decode dsL_law_1509 10 = .ok (.aload_n 3, 1) ∧ okop dsL_law_1509 10 = true) ∧ (decode dsL_law_1509 11 = .ok (.invokestatic 313, 3) ∧ okop dsL_law_1509 11 = true) ∧ (decode dsL_law_1509 14 = .ok (.istore 6, 2) ∧ okop dsL_law_1509 14 = true) := by decide +kernel
theorem dL_law_1509 : decode cL_law 1509 = .ok (.goto 1415, 3) := dgq (p := 0) daL_law_1509 dbL_law_1509.1
theorem dL_law_1512 : decode cL_law 1512 = .ok (.aload_n 1, 1) := dgq (p := 3) daL_law_1509 dbL_law_1509.2.1
theorem dL_law_1513 : decode cL_law 1513 = .ok (.aload_n 0, 1) := dgq (p := 4) daL_law_1509 dbL_law_1509.2.2.1
theorem dL_law_1514 : decode cL_law 1514 = .ok (.iload 5, 2) := dgq (p := 5) daL_law_1509 dbL_law_1509.2.2.2.1
theorem dL_law_1516 : decode cL_law 1516 = .ok (.iconst 1, 1) := dgq (p := 7) daL_law_1509 dbL_law_1509.2.2.2.2.1
theorem dL_law_1517 : decode cL_law 1517 = .ok (.iadd, 1) := dgq (p := 8) daL_law_1509 dbL_law_1509.2.2.2.2.2.1
theorem dL_law_1518 : decode cL_law 1518 = .ok (.iaload, 1) := dgq (p := 9) daL_law_1509 dbL_law_1509.2.2.2.2.2.2.1
theorem dL_law_1519 : decode cL_law 1519 = .ok (.aload_n 3, 1) := dgq (p := 10) daL_law_1509 dbL_law_1509.2.2.2.2.2.2.2.1
theorem dL_law_1520 : decode cL_law 1520 = .ok (.invokestatic 313, 3) := dgq (p := 11) daL_law_1509 dbL_law_1509.2.2.2.2.2.2.2.2.1
theorem dL_law_1523 : decode cL_law 1523 = .ok (.istore 6, 2) := dgq (p := 14) daL_law_1509 dbL_law_1509.2.2.2.2.2.2.2.2.2
def dsL_law_1525 : ByteArray := ⟨#[44, 42, 21, 5, 4, 96, 46, 182, 1, 59, 54, 7, 167, 5, 107, 43]⟩
theorem daL_law_1525 : agB cL_law dsL_law_1525 1525 := agB_of (n := 16) (by decide +kernel)
theorem dbL_law_1525 : (decode dsL_law_1525 0 = .ok (.aload_n 2, 1) ∧ okop dsL_law_1525 0 = true) ∧ (decode dsL_law_1525 1 = .ok (.aload_n 0, 1) ∧ okop dsL_law_1525 1 = true) ∧ (decode dsL_law_1525 2 = .ok (.iload 5, 2) ∧ okop dsL_law_1525 2 = true) ∧ (decode dsL_law_1525 4 = .ok (.iconst 1, 1) ∧ okop dsL_law_1525 4 = true) ∧ (decode dsL_law_1525 5 = .ok (.iadd, 1) ∧ okop dsL_law_1525 5 = true) ∧ (decode dsL_law_1525 6 = .ok (.iaload, 1) ∧ okop dsL_law_1525 6 = true) ∧ (decode dsL_law_1525 7 = .ok (.invokevirtual 315, 3) ∧ okop dsL_law_1525 7 = true) ∧ (decode dsL_law_1525 10 = .ok (.istore 7, 2) ∧ okop dsL_law_1525 10 = true) ∧ (decode dsL_law_1525 12 = .ok (.goto 1387, 3) ∧ okop dsL_law_1525 12 = true) ∧ (decode dsL_law_1525 15 = .ok (.aload_n 1, 1) ∧ okop dsL_law_1525 15 = true) := by decide +kernel
theorem dL_law_1525 : decode cL_law 1525 = .ok (.aload_n 2, 1) := dgq (p := 0) daL_law_1525 dbL_law_1525.1
theorem dL_law_1526 : decode cL_law 1526 = .ok (.aload_n 0, 1) := dgq (p := 1) daL_law_1525 dbL_law_1525.2.1
theorem dL_law_1527 : decode cL_law 1527 = .ok (.iload 5, 2) := dgq (p := 2) daL_law_1525 dbL_law_1525.2.2.1
theorem dL_law_1529 : decode cL_law 1529 = .ok (.iconst 1, 1) := dgq (p := 4) daL_law_1525 dbL_law_1525.2.2.2.1
theorem dL_law_1530 : decode cL_law 1530 = .ok (.iadd, 1) := dgq (p := 5) daL_law_1525 dbL_law_1525.2.2.2.2.1
theorem dL_law_1531 : decode cL_law 1531 = .ok (.iaload, 1) := dgq (p := 6) daL_law_1525 dbL_law_1525.2.2.2.2.2.1
theorem dL_law_1532 : decode cL_law 1532 = .ok (.invokevirtual 315, 3) := dgq (p := 7) daL_law_1525 dbL_law_1525.2.2.2.2.2.2.1
theorem dL_law_1535 : decode cL_law 1535 = .ok (.istore 7, 2) := dgq (p := 10) daL_law_1525 dbL_law_1525.2.2.2.2.2.2.2.1
theorem dL_law_1537 : decode cL_law 1537 = .ok (.goto 1387, 3) := dgq (p := 12) daL_law_1525 dbL_law_1525.2.2.2.2.2.2.2.2.1
theorem dL_law_1540 : decode cL_law 1540 = .ok (.aload_n 1, 1) := dgq (p := 15) daL_law_1525 dbL_law_1525.2.2.2.2.2.2.2.2.2
def dsL_law_1541 : ByteArray := ⟨#[42, 21, 5, 4, 96, 46, 42, 21, 5, 5, 96, 46]⟩
theorem daL_law_1541 : agB cL_law dsL_law_1541 1541 := agB_of (n := 12) (by decide +kernel)
theorem dbL_law_1541 : (decode dsL_law_1541 0 = .ok (.aload_n 0, 1) ∧ okop dsL_law_1541 0 = true) ∧ (decode dsL_law_1541 1 = .ok (.iload 5, 2) ∧ okop dsL_law_1541 1 = true) ∧ (decode dsL_law_1541 3 = .ok (.iconst 1, 1) ∧ okop dsL_law_1541 3 = true) ∧ (decode dsL_law_1541 4 = .ok (.iadd, 1) ∧ okop dsL_law_1541 4 = true) ∧ (decode dsL_law_1541 5 = .ok (.iaload, 1) ∧ okop dsL_law_1541 5 = true) ∧ (decode dsL_law_1541 6 = .ok (.aload_n 0, 1) ∧ okop dsL_law_1541 6 = true) ∧ (decode dsL_law_1541 7 = .ok (.iload 5, 2) ∧ okop dsL_law_1541 7 = true) ∧ (decode dsL_law_1541 9 = .ok (.iconst 2, 1) ∧ okop dsL_law_1541 9 = true) ∧ (decode dsL_law_1541 10 = .ok (.iadd, 1) ∧ okop dsL_law_1541 10 = true) ∧ (decode dsL_law_1541 11 = .ok (.iaload, 1) ∧ okop dsL_law_1541 11 = true) := by decide +kernel
theorem dL_law_1541 : decode cL_law 1541 = .ok (.aload_n 0, 1) := dgq (p := 0) daL_law_1541 dbL_law_1541.1
theorem dL_law_1542 : decode cL_law 1542 = .ok (.iload 5, 2) := dgq (p := 1) daL_law_1541 dbL_law_1541.2.1
theorem dL_law_1544 : decode cL_law 1544 = .ok (.iconst 1, 1) := dgq (p := 3) daL_law_1541 dbL_law_1541.2.2.1
theorem dL_law_1545 : decode cL_law 1545 = .ok (.iadd, 1) := dgq (p := 4) daL_law_1541 dbL_law_1541.2.2.2.1
theorem dL_law_1546 : decode cL_law 1546 = .ok (.iaload, 1) := dgq (p := 5) daL_law_1541 dbL_law_1541.2.2.2.2.1
theorem dL_law_1547 : decode cL_law 1547 = .ok (.aload_n 0, 1) := dgq (p := 6) daL_law_1541 dbL_law_1541.2.2.2.2.2.1
theorem dL_law_1548 : decode cL_law 1548 = .ok (.iload 5, 2) := dgq (p := 7) daL_law_1541 dbL_law_1541.2.2.2.2.2.2.1
theorem dL_law_1550 : decode cL_law 1550 = .ok (.iconst 2, 1) := dgq (p := 9) daL_law_1541 dbL_law_1541.2.2.2.2.2.2.2.1
theorem dL_law_1551 : decode cL_law 1551 = .ok (.iadd, 1) := dgq (p := 10) daL_law_1541 dbL_law_1541.2.2.2.2.2.2.2.2.1
theorem dL_law_1552 : decode cL_law 1552 = .ok (.iaload, 1) := dgq (p := 11) daL_law_1541 dbL_law_1541.2.2.2.2.2.2.2.2.2
def dsL_law_1553 : ByteArray := ⟨#[42, 21, 5, 6, 96, 46, 45, 184, 1, 60, 54, 6, 44, 42]⟩
theorem daL_law_1553 : agB cL_law dsL_law_1553 1553 := agB_of (n := 14) (by decide +kernel)
theorem dbL_law_1553 : (decode dsL_law_1553 0 = .ok (.aload_n 0, 1) ∧ okop dsL_law_1553 0 = true) ∧ (decode dsL_law_1553 1 = .ok (.iload 5, 2) ∧ okop dsL_law_1553 1 = true) ∧ (decode dsL_law_1553 3 = .ok (.iconst 3, 1) ∧ okop dsL_law_1553 3 = true) ∧ (decode dsL_law_1553 4 = .ok (.iadd, 1) ∧ okop dsL_law_1553 4 = true) ∧ (decode dsL_law_1553 5 = .ok (.iaload, 1) ∧ okop dsL_law_1553 5 = true) ∧ (decode dsL_law_1553 6 = .ok (.aload_n 3, 1) ∧ okop dsL_law_1553 6 = true) ∧ (decode dsL_law_1553 7 = .ok (.invokestatic 316, 3) ∧ okop dsL_law_1553 7 = true) ∧ (decode dsL_law_1553 10 = .ok (.istore 6, 2) ∧ okop dsL_law_1553 10 = true) ∧ (decode dsL_law_1553 12 = .ok (.aload_n 2, 1) ∧ okop dsL_law_1553 12 = true) ∧ (decode dsL_law_1553 13 = .ok (.aload_n 0, 1) ∧ okop dsL_law_1553 13 = true) := by decide +kernel
theorem dL_law_1553 : decode cL_law 1553 = .ok (.aload_n 0, 1) := dgq (p := 0) daL_law_1553 dbL_law_1553.1
theorem dL_law_1554 : decode cL_law 1554 = .ok (.iload 5, 2) := dgq (p := 1) daL_law_1553 dbL_law_1553.2.1
theorem dL_law_1556 : decode cL_law 1556 = .ok (.iconst 3, 1) := dgq (p := 3) daL_law_1553 dbL_law_1553.2.2.1
theorem dL_law_1557 : decode cL_law 1557 = .ok (.iadd, 1) := dgq (p := 4) daL_law_1553 dbL_law_1553.2.2.2.1
theorem dL_law_1558 : decode cL_law 1558 = .ok (.iaload, 1) := dgq (p := 5) daL_law_1553 dbL_law_1553.2.2.2.2.1
theorem dL_law_1559 : decode cL_law 1559 = .ok (.aload_n 3, 1) := dgq (p := 6) daL_law_1553 dbL_law_1553.2.2.2.2.2.1
theorem dL_law_1560 : decode cL_law 1560 = .ok (.invokestatic 316, 3) := dgq (p := 7) daL_law_1553 dbL_law_1553.2.2.2.2.2.2.1
theorem dL_law_1563 : decode cL_law 1563 = .ok (.istore 6, 2) := dgq (p := 10) daL_law_1553 dbL_law_1553.2.2.2.2.2.2.2.1
theorem dL_law_1565 : decode cL_law 1565 = .ok (.aload_n 2, 1) := dgq (p := 12) daL_law_1553 dbL_law_1553.2.2.2.2.2.2.2.2.1
theorem dL_law_1566 : decode cL_law 1566 = .ok (.aload_n 0, 1) := dgq (p := 13) daL_law_1553 dbL_law_1553.2.2.2.2.2.2.2.2.2
def dsL_law_1567 : ByteArray := ⟨#[21, 5, 4, 96, 46, 42, 21, 5, 5, 96, 46, 42]⟩
theorem daL_law_1567 : agB cL_law dsL_law_1567 1567 := agB_of (n := 12) (by decide +kernel)
theorem dbL_law_1567 : (decode dsL_law_1567 0 = .ok (.iload 5, 2) ∧ okop dsL_law_1567 0 = true) ∧ (decode dsL_law_1567 2 = .ok (.iconst 1, 1) ∧ okop dsL_law_1567 2 = true) ∧ (decode dsL_law_1567 3 = .ok (.iadd, 1) ∧ okop dsL_law_1567 3 = true) ∧ (decode dsL_law_1567 4 = .ok (.iaload, 1) ∧ okop dsL_law_1567 4 = true) ∧ (decode dsL_law_1567 5 = .ok (.aload_n 0, 1) ∧ okop dsL_law_1567 5 = true) ∧ (decode dsL_law_1567 6 = .ok (.iload 5, 2) ∧ okop dsL_law_1567 6 = true) ∧ (decode dsL_law_1567 8 = .ok (.iconst 2, 1) ∧ okop dsL_law_1567 8 = true) ∧ (decode dsL_law_1567 9 = .ok (.iadd, 1) ∧ okop dsL_law_1567 9 = true) ∧ (decode dsL_law_1567 10 = .ok (.iaload, 1) ∧ okop dsL_law_1567 10 = true) ∧ (decode dsL_law_1567 11 = .ok (.aload_n 0, 1) ∧ okop dsL_law_1567 11 = true) := by decide +kernel
theorem dL_law_1567 : decode cL_law 1567 = .ok (.iload 5, 2) := dgq (p := 0) daL_law_1567 dbL_law_1567.1
theorem dL_law_1569 : decode cL_law 1569 = .ok (.iconst 1, 1) := dgq (p := 2) daL_law_1567 dbL_law_1567.2.1
theorem dL_law_1570 : decode cL_law 1570 = .ok (.iadd, 1) := dgq (p := 3) daL_law_1567 dbL_law_1567.2.2.1
theorem dL_law_1571 : decode cL_law 1571 = .ok (.iaload, 1) := dgq (p := 4) daL_law_1567 dbL_law_1567.2.2.2.1
theorem dL_law_1572 : decode cL_law 1572 = .ok (.aload_n 0, 1) := dgq (p := 5) daL_law_1567 dbL_law_1567.2.2.2.2.1
theorem dL_law_1573 : decode cL_law 1573 = .ok (.iload 5, 2) := dgq (p := 6) daL_law_1567 dbL_law_1567.2.2.2.2.2.1
theorem dL_law_1575 : decode cL_law 1575 = .ok (.iconst 2, 1) := dgq (p := 8) daL_law_1567 dbL_law_1567.2.2.2.2.2.2.1
theorem dL_law_1576 : decode cL_law 1576 = .ok (.iadd, 1) := dgq (p := 9) daL_law_1567 dbL_law_1567.2.2.2.2.2.2.2.1
theorem dL_law_1577 : decode cL_law 1577 = .ok (.iaload, 1) := dgq (p := 10) daL_law_1567 dbL_law_1567.2.2.2.2.2.2.2.2.1
theorem dL_law_1578 : decode cL_law 1578 = .ok (.aload_n 0, 1) := dgq (p := 11) daL_law_1567 dbL_law_1567.2.2.2.2.2.2.2.2.2
def dsL_law_1579 : ByteArray := ⟨#[21, 5, 6, 96, 46, 182, 1, 62, 54, 7, 167, 5, 55, 43, 42, 21, 5]⟩
theorem daL_law_1579 : agB cL_law dsL_law_1579 1579 := agB_of (n := 17) (by decide +kernel)
theorem dbL_law_1579 : (decode dsL_law_1579 0 = .ok (.iload 5, 2) ∧ okop dsL_law_1579 0 = true) ∧ (decode dsL_law_1579 2 = .ok (.iconst 3, 1) ∧ okop dsL_law_1579 2 = true) ∧ (decode dsL_law_1579 3 = .ok (.iadd, 1) ∧ okop dsL_law_1579 3 = true) ∧ (decode dsL_law_1579 4 = .ok (.iaload, 1) ∧ okop dsL_law_1579 4 = true) ∧ (decode dsL_law_1579 5 = .ok (.invokevirtual 318, 3) ∧ okop dsL_law_1579 5 = true) ∧ (decode dsL_law_1579 8 = .ok (.istore 7, 2) ∧ okop dsL_law_1579 8 = true) ∧ (decode dsL_law_1579 10 = .ok (.goto 1335, 3) ∧ okop dsL_law_1579 10 = true) ∧ (decode dsL_law_1579 13 = .ok (.aload_n 1, 1) ∧ okop dsL_law_1579 13 = true) ∧ (decode dsL_law_1579 14 = .ok (.aload_n 0, 1) ∧ okop dsL_law_1579 14 = true) ∧ (decode dsL_law_1579 15 = .ok (.iload 5, 2) ∧ okop dsL_law_1579 15 = true) := by decide +kernel
theorem dL_law_1579 : decode cL_law 1579 = .ok (.iload 5, 2) := dgq (p := 0) daL_law_1579 dbL_law_1579.1
theorem dL_law_1581 : decode cL_law 1581 = .ok (.iconst 3, 1) := dgq (p := 2) daL_law_1579 dbL_law_1579.2.1
theorem dL_law_1582 : decode cL_law 1582 = .ok (.iadd, 1) := dgq (p := 3) daL_law_1579 dbL_law_1579.2.2.1
theorem dL_law_1583 : decode cL_law 1583 = .ok (.iaload, 1) := dgq (p := 4) daL_law_1579 dbL_law_1579.2.2.2.1
theorem dL_law_1584 : decode cL_law 1584 = .ok (.invokevirtual 318, 3) := dgq (p := 5) daL_law_1579 dbL_law_1579.2.2.2.2.1
theorem dL_law_1587 : decode cL_law 1587 = .ok (.istore 7, 2) := dgq (p := 8) daL_law_1579 dbL_law_1579.2.2.2.2.2.1
theorem dL_law_1589 : decode cL_law 1589 = .ok (.goto 1335, 3) := dgq (p := 10) daL_law_1579 dbL_law_1579.2.2.2.2.2.2.1
theorem dL_law_1592 : decode cL_law 1592 = .ok (.aload_n 1, 1) := dgq (p := 13) daL_law_1579 dbL_law_1579.2.2.2.2.2.2.2.1
theorem dL_law_1593 : decode cL_law 1593 = .ok (.aload_n 0, 1) := dgq (p := 14) daL_law_1579 dbL_law_1579.2.2.2.2.2.2.2.2.1
theorem dL_law_1594 : decode cL_law 1594 = .ok (.iload 5, 2) := dgq (p := 15) daL_law_1579 dbL_law_1579.2.2.2.2.2.2.2.2.2
def dsL_law_1596 : ByteArray := ⟨#[4, 96, 46, 42, 21, 5, 5, 96, 46, 45, 184, 1, 63]⟩
theorem daL_law_1596 : agB cL_law dsL_law_1596 1596 := agB_of (n := 13) (by decide +kernel)
theorem dbL_law_1596 : (decode dsL_law_1596 0 = .ok (.iconst 1, 1) ∧ okop dsL_law_1596 0 = true) ∧ (decode dsL_law_1596 1 = .ok (.iadd, 1) ∧ okop dsL_law_1596 1 = true) ∧ (decode dsL_law_1596 2 = .ok (.iaload, 1) ∧ okop dsL_law_1596 2 = true) ∧ (decode dsL_law_1596 3 = .ok (.aload_n 0, 1) ∧ okop dsL_law_1596 3 = true) ∧ (decode dsL_law_1596 4 = .ok (.iload 5, 2) ∧ okop dsL_law_1596 4 = true) ∧ (decode dsL_law_1596 6 = .ok (.iconst 2, 1) ∧ okop dsL_law_1596 6 = true) ∧ (decode dsL_law_1596 7 = .ok (.iadd, 1) ∧ okop dsL_law_1596 7 = true) ∧ (decode dsL_law_1596 8 = .ok (.iaload, 1) ∧ okop dsL_law_1596 8 = true) ∧ (decode dsL_law_1596 9 = .ok (.aload_n 3, 1) ∧ okop dsL_law_1596 9 = true) ∧ (decode dsL_law_1596 10 = .ok (.invokestatic 319, 3) ∧ okop dsL_law_1596 10 = true) := by decide +kernel
theorem dL_law_1596 : decode cL_law 1596 = .ok (.iconst 1, 1) := dgq (p := 0) daL_law_1596 dbL_law_1596.1
theorem dL_law_1597 : decode cL_law 1597 = .ok (.iadd, 1) := dgq (p := 1) daL_law_1596 dbL_law_1596.2.1
theorem dL_law_1598 : decode cL_law 1598 = .ok (.iaload, 1) := dgq (p := 2) daL_law_1596 dbL_law_1596.2.2.1
theorem dL_law_1599 : decode cL_law 1599 = .ok (.aload_n 0, 1) := dgq (p := 3) daL_law_1596 dbL_law_1596.2.2.2.1
theorem dL_law_1600 : decode cL_law 1600 = .ok (.iload 5, 2) := dgq (p := 4) daL_law_1596 dbL_law_1596.2.2.2.2.1
theorem dL_law_1602 : decode cL_law 1602 = .ok (.iconst 2, 1) := dgq (p := 6) daL_law_1596 dbL_law_1596.2.2.2.2.2.1
theorem dL_law_1603 : decode cL_law 1603 = .ok (.iadd, 1) := dgq (p := 7) daL_law_1596 dbL_law_1596.2.2.2.2.2.2.1
theorem dL_law_1604 : decode cL_law 1604 = .ok (.iaload, 1) := dgq (p := 8) daL_law_1596 dbL_law_1596.2.2.2.2.2.2.2.1
theorem dL_law_1605 : decode cL_law 1605 = .ok (.aload_n 3, 1) := dgq (p := 9) daL_law_1596 dbL_law_1596.2.2.2.2.2.2.2.2.1
theorem dL_law_1606 : decode cL_law 1606 = .ok (.invokestatic 319, 3) := dgq (p := 10) daL_law_1596 dbL_law_1596.2.2.2.2.2.2.2.2.2
def dsL_law_1609 : ByteArray := ⟨#[54, 6, 44, 42, 21, 5, 4, 96, 46, 42, 21, 5, 5]⟩
theorem daL_law_1609 : agB cL_law dsL_law_1609 1609 := agB_of (n := 13) (by decide +kernel)
theorem dbL_law_1609 : (decode dsL_law_1609 0 = .ok (.istore 6, 2) ∧ okop dsL_law_1609 0 = true) ∧ (decode dsL_law_1609 2 = .ok (.aload_n 2, 1) ∧ okop dsL_law_1609 2 = true) ∧ (decode dsL_law_1609 3 = .ok (.aload_n 0, 1) ∧ okop dsL_law_1609 3 = true) ∧ (decode dsL_law_1609 4 = .ok (.iload 5, 2) ∧ okop dsL_law_1609 4 = true) ∧ (decode dsL_law_1609 6 = .ok (.iconst 1, 1) ∧ okop dsL_law_1609 6 = true) ∧ (decode dsL_law_1609 7 = .ok (.iadd, 1) ∧ okop dsL_law_1609 7 = true) ∧ (decode dsL_law_1609 8 = .ok (.iaload, 1) ∧ okop dsL_law_1609 8 = true) ∧ (decode dsL_law_1609 9 = .ok (.aload_n 0, 1) ∧ okop dsL_law_1609 9 = true) ∧ (decode dsL_law_1609 10 = .ok (.iload 5, 2) ∧ okop dsL_law_1609 10 = true) ∧ (decode dsL_law_1609 12 = .ok (.iconst 2, 1) ∧ okop dsL_law_1609 12 = true) := by decide +kernel
theorem dL_law_1609 : decode cL_law 1609 = .ok (.istore 6, 2) := dgq (p := 0) daL_law_1609 dbL_law_1609.1
theorem dL_law_1611 : decode cL_law 1611 = .ok (.aload_n 2, 1) := dgq (p := 2) daL_law_1609 dbL_law_1609.2.1
theorem dL_law_1612 : decode cL_law 1612 = .ok (.aload_n 0, 1) := dgq (p := 3) daL_law_1609 dbL_law_1609.2.2.1
theorem dL_law_1613 : decode cL_law 1613 = .ok (.iload 5, 2) := dgq (p := 4) daL_law_1609 dbL_law_1609.2.2.2.1
theorem dL_law_1615 : decode cL_law 1615 = .ok (.iconst 1, 1) := dgq (p := 6) daL_law_1609 dbL_law_1609.2.2.2.2.1
theorem dL_law_1616 : decode cL_law 1616 = .ok (.iadd, 1) := dgq (p := 7) daL_law_1609 dbL_law_1609.2.2.2.2.2.1
theorem dL_law_1617 : decode cL_law 1617 = .ok (.iaload, 1) := dgq (p := 8) daL_law_1609 dbL_law_1609.2.2.2.2.2.2.1
theorem dL_law_1618 : decode cL_law 1618 = .ok (.aload_n 0, 1) := dgq (p := 9) daL_law_1609 dbL_law_1609.2.2.2.2.2.2.2.1
theorem dL_law_1619 : decode cL_law 1619 = .ok (.iload 5, 2) := dgq (p := 10) daL_law_1609 dbL_law_1609.2.2.2.2.2.2.2.2.1
theorem dL_law_1621 : decode cL_law 1621 = .ok (.iconst 2, 1) := dgq (p := 12) daL_law_1609 dbL_law_1609.2.2.2.2.2.2.2.2.2
def dsL_law_1622 : ByteArray := ⟨#[96, 46, 182, 1, 65, 54, 7, 167, 5, 15, 43, 42, 21, 5, 4, 96]⟩
theorem daL_law_1622 : agB cL_law dsL_law_1622 1622 := agB_of (n := 16) (by decide +kernel)
theorem dbL_law_1622 : (decode dsL_law_1622 0 = .ok (.iadd, 1) ∧ okop dsL_law_1622 0 = true) ∧ (decode dsL_law_1622 1 = .ok (.iaload, 1) ∧ okop dsL_law_1622 1 = true) ∧ (decode dsL_law_1622 2 = .ok (.invokevirtual 321, 3) ∧ okop dsL_law_1622 2 = true) ∧ (decode dsL_law_1622 5 = .ok (.istore 7, 2) ∧ okop dsL_law_1622 5 = true) ∧ (decode dsL_law_1622 7 = .ok (.goto 1295, 3) ∧ okop dsL_law_1622 7 = true) ∧ (decode dsL_law_1622 10 = .ok (.aload_n 1, 1) ∧ okop dsL_law_1622 10 = true) ∧ (decode dsL_law_1622 11 = .ok (.aload_n 0, 1) ∧ okop dsL_law_1622 11 = true) ∧ (decode dsL_law_1622 12 = .ok (.iload 5, 2) ∧ okop dsL_law_1622 12 = true) ∧ (decode dsL_law_1622 14 = .ok (.iconst 1, 1) ∧ okop dsL_law_1622 14 = true) ∧ (decode dsL_law_1622 15 = .ok (.iadd, 1) ∧ okop dsL_law_1622 15 = true) := by decide +kernel
theorem dL_law_1622 : decode cL_law 1622 = .ok (.iadd, 1) := dgq (p := 0) daL_law_1622 dbL_law_1622.1
theorem dL_law_1623 : decode cL_law 1623 = .ok (.iaload, 1) := dgq (p := 1) daL_law_1622 dbL_law_1622.2.1
theorem dL_law_1624 : decode cL_law 1624 = .ok (.invokevirtual 321, 3) := dgq (p := 2) daL_law_1622 dbL_law_1622.2.2.1
theorem dL_law_1627 : decode cL_law 1627 = .ok (.istore 7, 2) := dgq (p := 5) daL_law_1622 dbL_law_1622.2.2.2.1
theorem dL_law_1629 : decode cL_law 1629 = .ok (.goto 1295, 3) := dgq (p := 7) daL_law_1622 dbL_law_1622.2.2.2.2.1
theorem dL_law_1632 : decode cL_law 1632 = .ok (.aload_n 1, 1) := dgq (p := 10) daL_law_1622 dbL_law_1622.2.2.2.2.2.1
theorem dL_law_1633 : decode cL_law 1633 = .ok (.aload_n 0, 1) := dgq (p := 11) daL_law_1622 dbL_law_1622.2.2.2.2.2.2.1
theorem dL_law_1634 : decode cL_law 1634 = .ok (.iload 5, 2) := dgq (p := 12) daL_law_1622 dbL_law_1622.2.2.2.2.2.2.2.1
theorem dL_law_1636 : decode cL_law 1636 = .ok (.iconst 1, 1) := dgq (p := 14) daL_law_1622 dbL_law_1622.2.2.2.2.2.2.2.2.1
theorem dL_law_1637 : decode cL_law 1637 = .ok (.iadd, 1) := dgq (p := 15) daL_law_1622 dbL_law_1622.2.2.2.2.2.2.2.2.2
def dsL_law_1638 : ByteArray := ⟨#[46, 45, 184, 1, 66, 54, 6, 44, 42, 21, 5, 4, 96, 46]⟩
theorem daL_law_1638 : agB cL_law dsL_law_1638 1638 := agB_of (n := 14) (by decide +kernel)
theorem dbL_law_1638 : (decode dsL_law_1638 0 = .ok (.iaload, 1) ∧ okop dsL_law_1638 0 = true) ∧ (decode dsL_law_1638 1 = .ok (.aload_n 3, 1) ∧ okop dsL_law_1638 1 = true) ∧ (decode dsL_law_1638 2 = .ok (.invokestatic 322, 3) ∧ okop dsL_law_1638 2 = true) ∧ (decode dsL_law_1638 5 = .ok (.istore 6, 2) ∧ okop dsL_law_1638 5 = true) ∧ (decode dsL_law_1638 7 = .ok (.aload_n 2, 1) ∧ okop dsL_law_1638 7 = true) ∧ (decode dsL_law_1638 8 = .ok (.aload_n 0, 1) ∧ okop dsL_law_1638 8 = true) ∧ (decode dsL_law_1638 9 = .ok (.iload 5, 2) ∧ okop dsL_law_1638 9 = true) ∧ (decode dsL_law_1638 11 = .ok (.iconst 1, 1) ∧ okop dsL_law_1638 11 = true) ∧ (decode dsL_law_1638 12 = .ok (.iadd, 1) ∧ okop dsL_law_1638 12 = true) ∧ (decode dsL_law_1638 13 = .ok (.iaload, 1) ∧ okop dsL_law_1638 13 = true) := by decide +kernel
theorem dL_law_1638 : decode cL_law 1638 = .ok (.iaload, 1) := dgq (p := 0) daL_law_1638 dbL_law_1638.1
theorem dL_law_1639 : decode cL_law 1639 = .ok (.aload_n 3, 1) := dgq (p := 1) daL_law_1638 dbL_law_1638.2.1
theorem dL_law_1640 : decode cL_law 1640 = .ok (.invokestatic 322, 3) := dgq (p := 2) daL_law_1638 dbL_law_1638.2.2.1
theorem dL_law_1643 : decode cL_law 1643 = .ok (.istore 6, 2) := dgq (p := 5) daL_law_1638 dbL_law_1638.2.2.2.1
theorem dL_law_1645 : decode cL_law 1645 = .ok (.aload_n 2, 1) := dgq (p := 7) daL_law_1638 dbL_law_1638.2.2.2.2.1
theorem dL_law_1646 : decode cL_law 1646 = .ok (.aload_n 0, 1) := dgq (p := 8) daL_law_1638 dbL_law_1638.2.2.2.2.2.1
theorem dL_law_1647 : decode cL_law 1647 = .ok (.iload 5, 2) := dgq (p := 9) daL_law_1638 dbL_law_1638.2.2.2.2.2.2.1
theorem dL_law_1649 : decode cL_law 1649 = .ok (.iconst 1, 1) := dgq (p := 11) daL_law_1638 dbL_law_1638.2.2.2.2.2.2.2.1
theorem dL_law_1650 : decode cL_law 1650 = .ok (.iadd, 1) := dgq (p := 12) daL_law_1638 dbL_law_1638.2.2.2.2.2.2.2.2.1
theorem dL_law_1651 : decode cL_law 1651 = .ok (.iaload, 1) := dgq (p := 13) daL_law_1638 dbL_law_1638.2.2.2.2.2.2.2.2.2
def dsL_law_1652 : ByteArray := ⟨#[182, 1, 68, 54, 7, 167, 4, 243, 43, 42, 21, 5, 4, 96, 46, 42]⟩
theorem daL_law_1652 : agB cL_law dsL_law_1652 1652 := agB_of (n := 16) (by decide +kernel)
theorem dbL_law_1652 : (decode dsL_law_1652 0 = .ok (.invokevirtual 324, 3) ∧ okop dsL_law_1652 0 = true) ∧ (decode dsL_law_1652 3 = .ok (.istore 7, 2) ∧ okop dsL_law_1652 3 = true) ∧ (decode dsL_law_1652 5 = .ok (.goto 1267, 3) ∧ okop dsL_law_1652 5 = true) ∧ (decode dsL_law_1652 8 = .ok (.aload_n 1, 1) ∧ okop dsL_law_1652 8 = true) ∧ (decode dsL_law_1652 9 = .ok (.aload_n 0, 1) ∧ okop dsL_law_1652 9 = true) ∧ (decode dsL_law_1652 10 = .ok (.iload 5, 2) ∧ okop dsL_law_1652 10 = true) ∧ (decode dsL_law_1652 12 = .ok (.iconst 1, 1) ∧ okop dsL_law_1652 12 = true) ∧ (decode dsL_law_1652 13 = .ok (.iadd, 1) ∧ okop dsL_law_1652 13 = true) ∧ (decode dsL_law_1652 14 = .ok (.iaload, 1) ∧ okop dsL_law_1652 14 = true) ∧ (decode dsL_law_1652 15 = .ok (.aload_n 0, 1) ∧ okop dsL_law_1652 15 = true) := by decide +kernel
theorem dL_law_1652 : decode cL_law 1652 = .ok (.invokevirtual 324, 3) := dgq (p := 0) daL_law_1652 dbL_law_1652.1
theorem dL_law_1655 : decode cL_law 1655 = .ok (.istore 7, 2) := dgq (p := 3) daL_law_1652 dbL_law_1652.2.1
theorem dL_law_1657 : decode cL_law 1657 = .ok (.goto 1267, 3) := dgq (p := 5) daL_law_1652 dbL_law_1652.2.2.1
theorem dL_law_1660 : decode cL_law 1660 = .ok (.aload_n 1, 1) := dgq (p := 8) daL_law_1652 dbL_law_1652.2.2.2.1
theorem dL_law_1661 : decode cL_law 1661 = .ok (.aload_n 0, 1) := dgq (p := 9) daL_law_1652 dbL_law_1652.2.2.2.2.1
theorem dL_law_1662 : decode cL_law 1662 = .ok (.iload 5, 2) := dgq (p := 10) daL_law_1652 dbL_law_1652.2.2.2.2.2.1
theorem dL_law_1664 : decode cL_law 1664 = .ok (.iconst 1, 1) := dgq (p := 12) daL_law_1652 dbL_law_1652.2.2.2.2.2.2.1
theorem dL_law_1665 : decode cL_law 1665 = .ok (.iadd, 1) := dgq (p := 13) daL_law_1652 dbL_law_1652.2.2.2.2.2.2.2.1
theorem dL_law_1666 : decode cL_law 1666 = .ok (.iaload, 1) := dgq (p := 14) daL_law_1652 dbL_law_1652.2.2.2.2.2.2.2.2.1
theorem dL_law_1667 : decode cL_law 1667 = .ok (.aload_n 0, 1) := dgq (p := 15) daL_law_1652 dbL_law_1652.2.2.2.2.2.2.2.2.2
def dsL_law_1668 : ByteArray := ⟨#[21, 5, 5, 96, 46, 42, 21, 5, 6, 96, 46, 42]⟩
theorem daL_law_1668 : agB cL_law dsL_law_1668 1668 := agB_of (n := 12) (by decide +kernel)
theorem dbL_law_1668 : (decode dsL_law_1668 0 = .ok (.iload 5, 2) ∧ okop dsL_law_1668 0 = true) ∧ (decode dsL_law_1668 2 = .ok (.iconst 2, 1) ∧ okop dsL_law_1668 2 = true) ∧ (decode dsL_law_1668 3 = .ok (.iadd, 1) ∧ okop dsL_law_1668 3 = true) ∧ (decode dsL_law_1668 4 = .ok (.iaload, 1) ∧ okop dsL_law_1668 4 = true) ∧ (decode dsL_law_1668 5 = .ok (.aload_n 0, 1) ∧ okop dsL_law_1668 5 = true) ∧ (decode dsL_law_1668 6 = .ok (.iload 5, 2) ∧ okop dsL_law_1668 6 = true) ∧ (decode dsL_law_1668 8 = .ok (.iconst 3, 1) ∧ okop dsL_law_1668 8 = true) ∧ (decode dsL_law_1668 9 = .ok (.iadd, 1) ∧ okop dsL_law_1668 9 = true) ∧ (decode dsL_law_1668 10 = .ok (.iaload, 1) ∧ okop dsL_law_1668 10 = true) ∧ (decode dsL_law_1668 11 = .ok (.aload_n 0, 1) ∧ okop dsL_law_1668 11 = true) := by decide +kernel
theorem dL_law_1668 : decode cL_law 1668 = .ok (.iload 5, 2) := dgq (p := 0) daL_law_1668 dbL_law_1668.1
theorem dL_law_1670 : decode cL_law 1670 = .ok (.iconst 2, 1) := dgq (p := 2) daL_law_1668 dbL_law_1668.2.1
theorem dL_law_1671 : decode cL_law 1671 = .ok (.iadd, 1) := dgq (p := 3) daL_law_1668 dbL_law_1668.2.2.1
theorem dL_law_1672 : decode cL_law 1672 = .ok (.iaload, 1) := dgq (p := 4) daL_law_1668 dbL_law_1668.2.2.2.1
theorem dL_law_1673 : decode cL_law 1673 = .ok (.aload_n 0, 1) := dgq (p := 5) daL_law_1668 dbL_law_1668.2.2.2.2.1
theorem dL_law_1674 : decode cL_law 1674 = .ok (.iload 5, 2) := dgq (p := 6) daL_law_1668 dbL_law_1668.2.2.2.2.2.1
theorem dL_law_1676 : decode cL_law 1676 = .ok (.iconst 3, 1) := dgq (p := 8) daL_law_1668 dbL_law_1668.2.2.2.2.2.2.1
theorem dL_law_1677 : decode cL_law 1677 = .ok (.iadd, 1) := dgq (p := 9) daL_law_1668 dbL_law_1668.2.2.2.2.2.2.2.1
theorem dL_law_1678 : decode cL_law 1678 = .ok (.iaload, 1) := dgq (p := 10) daL_law_1668 dbL_law_1668.2.2.2.2.2.2.2.2.1
theorem dL_law_1679 : decode cL_law 1679 = .ok (.aload_n 0, 1) := dgq (p := 11) daL_law_1668 dbL_law_1668.2.2.2.2.2.2.2.2.2
def dsL_law_1680 : ByteArray := ⟨#[21, 5, 7, 96, 46, 45, 184, 1, 69, 54, 6, 44, 42, 21, 5]⟩
theorem daL_law_1680 : agB cL_law dsL_law_1680 1680 := agB_of (n := 15) (by decide +kernel)
theorem dbL_law_1680 : (decode dsL_law_1680 0 = .ok (.iload 5, 2) ∧ okop dsL_law_1680 0 = true) ∧ (decode dsL_law_1680 2 = .ok (.iconst 4, 1) ∧ okop dsL_law_1680 2 = true) ∧ (decode dsL_law_1680 3 = .ok (.iadd, 1) ∧ okop dsL_law_1680 3 = true) ∧ (decode dsL_law_1680 4 = .ok (.iaload, 1) ∧ okop dsL_law_1680 4 = true) ∧ (decode dsL_law_1680 5 = .ok (.aload_n 3, 1) ∧ okop dsL_law_1680 5 = true) ∧ (decode dsL_law_1680 6 = .ok (.invokestatic 325, 3) ∧ okop dsL_law_1680 6 = true) ∧ (decode dsL_law_1680 9 = .ok (.istore 6, 2) ∧ okop dsL_law_1680 9 = true) ∧ (decode dsL_law_1680 11 = .ok (.aload_n 2, 1) ∧ okop dsL_law_1680 11 = true) ∧ (decode dsL_law_1680 12 = .ok (.aload_n 0, 1) ∧ okop dsL_law_1680 12 = true) ∧ (decode dsL_law_1680 13 = .ok (.iload 5, 2) ∧ okop dsL_law_1680 13 = true) := by decide +kernel
theorem dL_law_1680 : decode cL_law 1680 = .ok (.iload 5, 2) := dgq (p := 0) daL_law_1680 dbL_law_1680.1
theorem dL_law_1682 : decode cL_law 1682 = .ok (.iconst 4, 1) := dgq (p := 2) daL_law_1680 dbL_law_1680.2.1
theorem dL_law_1683 : decode cL_law 1683 = .ok (.iadd, 1) := dgq (p := 3) daL_law_1680 dbL_law_1680.2.2.1
theorem dL_law_1684 : decode cL_law 1684 = .ok (.iaload, 1) := dgq (p := 4) daL_law_1680 dbL_law_1680.2.2.2.1
theorem dL_law_1685 : decode cL_law 1685 = .ok (.aload_n 3, 1) := dgq (p := 5) daL_law_1680 dbL_law_1680.2.2.2.2.1
theorem dL_law_1686 : decode cL_law 1686 = .ok (.invokestatic 325, 3) := dgq (p := 6) daL_law_1680 dbL_law_1680.2.2.2.2.2.1
theorem dL_law_1689 : decode cL_law 1689 = .ok (.istore 6, 2) := dgq (p := 9) daL_law_1680 dbL_law_1680.2.2.2.2.2.2.1
theorem dL_law_1691 : decode cL_law 1691 = .ok (.aload_n 2, 1) := dgq (p := 11) daL_law_1680 dbL_law_1680.2.2.2.2.2.2.2.1
theorem dL_law_1692 : decode cL_law 1692 = .ok (.aload_n 0, 1) := dgq (p := 12) daL_law_1680 dbL_law_1680.2.2.2.2.2.2.2.2.1
theorem dL_law_1693 : decode cL_law 1693 = .ok (.iload 5, 2) := dgq (p := 13) daL_law_1680 dbL_law_1680.2.2.2.2.2.2.2.2.2
def dsL_law_1695 : ByteArray := ⟨#[4, 96, 46, 42, 21, 5, 5, 96, 46, 42, 21, 5]⟩
theorem daL_law_1695 : agB cL_law dsL_law_1695 1695 := agB_of (n := 12) (by decide +kernel)
theorem dbL_law_1695 : (decode dsL_law_1695 0 = .ok (.iconst 1, 1) ∧ okop dsL_law_1695 0 = true) ∧ (decode dsL_law_1695 1 = .ok (.iadd, 1) ∧ okop dsL_law_1695 1 = true) ∧ (decode dsL_law_1695 2 = .ok (.iaload, 1) ∧ okop dsL_law_1695 2 = true) ∧ (decode dsL_law_1695 3 = .ok (.aload_n 0, 1) ∧ okop dsL_law_1695 3 = true) ∧ (decode dsL_law_1695 4 = .ok (.iload 5, 2) ∧ okop dsL_law_1695 4 = true) ∧ (decode dsL_law_1695 6 = .ok (.iconst 2, 1) ∧ okop dsL_law_1695 6 = true) ∧ (decode dsL_law_1695 7 = .ok (.iadd, 1) ∧ okop dsL_law_1695 7 = true) ∧ (decode dsL_law_1695 8 = .ok (.iaload, 1) ∧ okop dsL_law_1695 8 = true) ∧ (decode dsL_law_1695 9 = .ok (.aload_n 0, 1) ∧ okop dsL_law_1695 9 = true) ∧ (decode dsL_law_1695 10 = .ok (.iload 5, 2) ∧ okop dsL_law_1695 10 = true) := by decide +kernel
theorem dL_law_1695 : decode cL_law 1695 = .ok (.iconst 1, 1) := dgq (p := 0) daL_law_1695 dbL_law_1695.1
theorem dL_law_1696 : decode cL_law 1696 = .ok (.iadd, 1) := dgq (p := 1) daL_law_1695 dbL_law_1695.2.1
theorem dL_law_1697 : decode cL_law 1697 = .ok (.iaload, 1) := dgq (p := 2) daL_law_1695 dbL_law_1695.2.2.1
theorem dL_law_1698 : decode cL_law 1698 = .ok (.aload_n 0, 1) := dgq (p := 3) daL_law_1695 dbL_law_1695.2.2.2.1
theorem dL_law_1699 : decode cL_law 1699 = .ok (.iload 5, 2) := dgq (p := 4) daL_law_1695 dbL_law_1695.2.2.2.2.1
theorem dL_law_1701 : decode cL_law 1701 = .ok (.iconst 2, 1) := dgq (p := 6) daL_law_1695 dbL_law_1695.2.2.2.2.2.1
theorem dL_law_1702 : decode cL_law 1702 = .ok (.iadd, 1) := dgq (p := 7) daL_law_1695 dbL_law_1695.2.2.2.2.2.2.1
theorem dL_law_1703 : decode cL_law 1703 = .ok (.iaload, 1) := dgq (p := 8) daL_law_1695 dbL_law_1695.2.2.2.2.2.2.2.1
theorem dL_law_1704 : decode cL_law 1704 = .ok (.aload_n 0, 1) := dgq (p := 9) daL_law_1695 dbL_law_1695.2.2.2.2.2.2.2.2.1
theorem dL_law_1705 : decode cL_law 1705 = .ok (.iload 5, 2) := dgq (p := 10) daL_law_1695 dbL_law_1695.2.2.2.2.2.2.2.2.2
def dsL_law_1707 : ByteArray := ⟨#[6, 96, 46, 42, 21, 5, 7, 96, 46, 182, 1, 71, 54, 7]⟩
theorem daL_law_1707 : agB cL_law dsL_law_1707 1707 := agB_of (n := 14) (by decide +kernel)
theorem dbL_law_1707 : (decode dsL_law_1707 0 = .ok (.iconst 3, 1) ∧ okop dsL_law_1707 0 = true) ∧ (decode dsL_law_1707 1 = .ok (.iadd, 1) ∧ okop dsL_law_1707 1 = true) ∧ (decode dsL_law_1707 2 = .ok (.iaload, 1) ∧ okop dsL_law_1707 2 = true) ∧ (decode dsL_law_1707 3 = .ok (.aload_n 0, 1) ∧ okop dsL_law_1707 3 = true) ∧ (decode dsL_law_1707 4 = .ok (.iload 5, 2) ∧ okop dsL_law_1707 4 = true) ∧ (decode dsL_law_1707 6 = .ok (.iconst 4, 1) ∧ okop dsL_law_1707 6 = true) ∧ (decode dsL_law_1707 7 = .ok (.iadd, 1) ∧ okop dsL_law_1707 7 = true) ∧ (decode dsL_law_1707 8 = .ok (.iaload, 1) ∧ okop dsL_law_1707 8 = true) ∧ (decode dsL_law_1707 9 = .ok (.invokevirtual 327, 3) ∧ okop dsL_law_1707 9 = true) ∧ (decode dsL_law_1707 12 = .ok (.istore 7, 2) ∧ okop dsL_law_1707 12 = true) := by decide +kernel
theorem dL_law_1707 : decode cL_law 1707 = .ok (.iconst 3, 1) := dgq (p := 0) daL_law_1707 dbL_law_1707.1
theorem dL_law_1708 : decode cL_law 1708 = .ok (.iadd, 1) := dgq (p := 1) daL_law_1707 dbL_law_1707.2.1
theorem dL_law_1709 : decode cL_law 1709 = .ok (.iaload, 1) := dgq (p := 2) daL_law_1707 dbL_law_1707.2.2.1
theorem dL_law_1710 : decode cL_law 1710 = .ok (.aload_n 0, 1) := dgq (p := 3) daL_law_1707 dbL_law_1707.2.2.2.1
theorem dL_law_1711 : decode cL_law 1711 = .ok (.iload 5, 2) := dgq (p := 4) daL_law_1707 dbL_law_1707.2.2.2.2.1
theorem dL_law_1713 : decode cL_law 1713 = .ok (.iconst 4, 1) := dgq (p := 6) daL_law_1707 dbL_law_1707.2.2.2.2.2.1
theorem dL_law_1714 : decode cL_law 1714 = .ok (.iadd, 1) := dgq (p := 7) daL_law_1707 dbL_law_1707.2.2.2.2.2.2.1
theorem dL_law_1715 : decode cL_law 1715 = .ok (.iaload, 1) := dgq (p := 8) daL_law_1707 dbL_law_1707.2.2.2.2.2.2.2.1
theorem dL_law_1716 : decode cL_law 1716 = .ok (.invokevirtual 327, 3) := dgq (p := 9) daL_law_1707 dbL_law_1707.2.2.2.2.2.2.2.2.1
theorem dL_law_1719 : decode cL_law 1719 = .ok (.istore 7, 2) := dgq (p := 12) daL_law_1707 dbL_law_1707.2.2.2.2.2.2.2.2.2
def dsL_law_1721 : ByteArray := ⟨#[167, 4, 179, 43, 42, 21, 5, 4, 96, 46, 42, 21, 5, 5]⟩
theorem daL_law_1721 : agB cL_law dsL_law_1721 1721 := agB_of (n := 14) (by decide +kernel)
theorem dbL_law_1721 : (decode dsL_law_1721 0 = .ok (.goto 1203, 3) ∧ okop dsL_law_1721 0 = true) ∧ (decode dsL_law_1721 3 = .ok (.aload_n 1, 1) ∧ okop dsL_law_1721 3 = true) ∧ (decode dsL_law_1721 4 = .ok (.aload_n 0, 1) ∧ okop dsL_law_1721 4 = true) ∧ (decode dsL_law_1721 5 = .ok (.iload 5, 2) ∧ okop dsL_law_1721 5 = true) ∧ (decode dsL_law_1721 7 = .ok (.iconst 1, 1) ∧ okop dsL_law_1721 7 = true) ∧ (decode dsL_law_1721 8 = .ok (.iadd, 1) ∧ okop dsL_law_1721 8 = true) ∧ (decode dsL_law_1721 9 = .ok (.iaload, 1) ∧ okop dsL_law_1721 9 = true) ∧ (decode dsL_law_1721 10 = .ok (.aload_n 0, 1) ∧ okop dsL_law_1721 10 = true) ∧ (decode dsL_law_1721 11 = .ok (.iload 5, 2) ∧ okop dsL_law_1721 11 = true) ∧ (decode dsL_law_1721 13 = .ok (.iconst 2, 1) ∧ okop dsL_law_1721 13 = true) := by decide +kernel
theorem dL_law_1721 : decode cL_law 1721 = .ok (.goto 1203, 3) := dgq (p := 0) daL_law_1721 dbL_law_1721.1
theorem dL_law_1724 : decode cL_law 1724 = .ok (.aload_n 1, 1) := dgq (p := 3) daL_law_1721 dbL_law_1721.2.1
theorem dL_law_1725 : decode cL_law 1725 = .ok (.aload_n 0, 1) := dgq (p := 4) daL_law_1721 dbL_law_1721.2.2.1
theorem dL_law_1726 : decode cL_law 1726 = .ok (.iload 5, 2) := dgq (p := 5) daL_law_1721 dbL_law_1721.2.2.2.1
theorem dL_law_1728 : decode cL_law 1728 = .ok (.iconst 1, 1) := dgq (p := 7) daL_law_1721 dbL_law_1721.2.2.2.2.1
theorem dL_law_1729 : decode cL_law 1729 = .ok (.iadd, 1) := dgq (p := 8) daL_law_1721 dbL_law_1721.2.2.2.2.2.1
theorem dL_law_1730 : decode cL_law 1730 = .ok (.iaload, 1) := dgq (p := 9) daL_law_1721 dbL_law_1721.2.2.2.2.2.2.1
theorem dL_law_1731 : decode cL_law 1731 = .ok (.aload_n 0, 1) := dgq (p := 10) daL_law_1721 dbL_law_1721.2.2.2.2.2.2.2.1
theorem dL_law_1732 : decode cL_law 1732 = .ok (.iload 5, 2) := dgq (p := 11) daL_law_1721 dbL_law_1721.2.2.2.2.2.2.2.2.1
theorem dL_law_1734 : decode cL_law 1734 = .ok (.iconst 2, 1) := dgq (p := 13) daL_law_1721 dbL_law_1721.2.2.2.2.2.2.2.2.2
def dsL_law_1735 : ByteArray := ⟨#[96, 46, 42, 21, 5, 6, 96, 46, 45, 184, 1, 72, 54, 6]⟩
theorem daL_law_1735 : agB cL_law dsL_law_1735 1735 := agB_of (n := 14) (by decide +kernel)
theorem dbL_law_1735 : (decode dsL_law_1735 0 = .ok (.iadd, 1) ∧ okop dsL_law_1735 0 = true) ∧ (decode dsL_law_1735 1 = .ok (.iaload, 1) ∧ okop dsL_law_1735 1 = true) ∧ (decode dsL_law_1735 2 = .ok (.aload_n 0, 1) ∧ okop dsL_law_1735 2 = true) ∧ (decode dsL_law_1735 3 = .ok (.iload 5, 2) ∧ okop dsL_law_1735 3 = true) ∧ (decode dsL_law_1735 5 = .ok (.iconst 3, 1) ∧ okop dsL_law_1735 5 = true) ∧ (decode dsL_law_1735 6 = .ok (.iadd, 1) ∧ okop dsL_law_1735 6 = true) ∧ (decode dsL_law_1735 7 = .ok (.iaload, 1) ∧ okop dsL_law_1735 7 = true) ∧ (decode dsL_law_1735 8 = .ok (.aload_n 3, 1) ∧ okop dsL_law_1735 8 = true) ∧ (decode dsL_law_1735 9 = .ok (.invokestatic 328, 3) ∧ okop dsL_law_1735 9 = true) ∧ (decode dsL_law_1735 12 = .ok (.istore 6, 2) ∧ okop dsL_law_1735 12 = true) := by decide +kernel
theorem dL_law_1735 : decode cL_law 1735 = .ok (.iadd, 1) := dgq (p := 0) daL_law_1735 dbL_law_1735.1
theorem dL_law_1736 : decode cL_law 1736 = .ok (.iaload, 1) := dgq (p := 1) daL_law_1735 dbL_law_1735.2.1
theorem dL_law_1737 : decode cL_law 1737 = .ok (.aload_n 0, 1) := dgq (p := 2) daL_law_1735 dbL_law_1735.2.2.1
theorem dL_law_1738 : decode cL_law 1738 = .ok (.iload 5, 2) := dgq (p := 3) daL_law_1735 dbL_law_1735.2.2.2.1
theorem dL_law_1740 : decode cL_law 1740 = .ok (.iconst 3, 1) := dgq (p := 5) daL_law_1735 dbL_law_1735.2.2.2.2.1
theorem dL_law_1741 : decode cL_law 1741 = .ok (.iadd, 1) := dgq (p := 6) daL_law_1735 dbL_law_1735.2.2.2.2.2.1
theorem dL_law_1742 : decode cL_law 1742 = .ok (.iaload, 1) := dgq (p := 7) daL_law_1735 dbL_law_1735.2.2.2.2.2.2.1
theorem dL_law_1743 : decode cL_law 1743 = .ok (.aload_n 3, 1) := dgq (p := 8) daL_law_1735 dbL_law_1735.2.2.2.2.2.2.2.1
theorem dL_law_1744 : decode cL_law 1744 = .ok (.invokestatic 328, 3) := dgq (p := 9) daL_law_1735 dbL_law_1735.2.2.2.2.2.2.2.2.1
theorem dL_law_1747 : decode cL_law 1747 = .ok (.istore 6, 2) := dgq (p := 12) daL_law_1735 dbL_law_1735.2.2.2.2.2.2.2.2.2
def dsL_law_1749 : ByteArray := ⟨#[44, 42, 21, 5, 4, 96, 46, 42, 21, 5, 5, 96]⟩
theorem daL_law_1749 : agB cL_law dsL_law_1749 1749 := agB_of (n := 12) (by decide +kernel)
theorem dbL_law_1749 : (decode dsL_law_1749 0 = .ok (.aload_n 2, 1) ∧ okop dsL_law_1749 0 = true) ∧ (decode dsL_law_1749 1 = .ok (.aload_n 0, 1) ∧ okop dsL_law_1749 1 = true) ∧ (decode dsL_law_1749 2 = .ok (.iload 5, 2) ∧ okop dsL_law_1749 2 = true) ∧ (decode dsL_law_1749 4 = .ok (.iconst 1, 1) ∧ okop dsL_law_1749 4 = true) ∧ (decode dsL_law_1749 5 = .ok (.iadd, 1) ∧ okop dsL_law_1749 5 = true) ∧ (decode dsL_law_1749 6 = .ok (.iaload, 1) ∧ okop dsL_law_1749 6 = true) ∧ (decode dsL_law_1749 7 = .ok (.aload_n 0, 1) ∧ okop dsL_law_1749 7 = true) ∧ (decode dsL_law_1749 8 = .ok (.iload 5, 2) ∧ okop dsL_law_1749 8 = true) ∧ (decode dsL_law_1749 10 = .ok (.iconst 2, 1) ∧ okop dsL_law_1749 10 = true) ∧ (decode dsL_law_1749 11 = .ok (.iadd, 1) ∧ okop dsL_law_1749 11 = true) := by decide +kernel
theorem dL_law_1749 : decode cL_law 1749 = .ok (.aload_n 2, 1) := dgq (p := 0) daL_law_1749 dbL_law_1749.1
theorem dL_law_1750 : decode cL_law 1750 = .ok (.aload_n 0, 1) := dgq (p := 1) daL_law_1749 dbL_law_1749.2.1
theorem dL_law_1751 : decode cL_law 1751 = .ok (.iload 5, 2) := dgq (p := 2) daL_law_1749 dbL_law_1749.2.2.1
theorem dL_law_1753 : decode cL_law 1753 = .ok (.iconst 1, 1) := dgq (p := 4) daL_law_1749 dbL_law_1749.2.2.2.1
theorem dL_law_1754 : decode cL_law 1754 = .ok (.iadd, 1) := dgq (p := 5) daL_law_1749 dbL_law_1749.2.2.2.2.1
theorem dL_law_1755 : decode cL_law 1755 = .ok (.iaload, 1) := dgq (p := 6) daL_law_1749 dbL_law_1749.2.2.2.2.2.1
theorem dL_law_1756 : decode cL_law 1756 = .ok (.aload_n 0, 1) := dgq (p := 7) daL_law_1749 dbL_law_1749.2.2.2.2.2.2.1
theorem dL_law_1757 : decode cL_law 1757 = .ok (.iload 5, 2) := dgq (p := 8) daL_law_1749 dbL_law_1749.2.2.2.2.2.2.2.1
theorem dL_law_1759 : decode cL_law 1759 = .ok (.iconst 2, 1) := dgq (p := 10) daL_law_1749 dbL_law_1749.2.2.2.2.2.2.2.2.1
theorem dL_law_1760 : decode cL_law 1760 = .ok (.iadd, 1) := dgq (p := 11) daL_law_1749 dbL_law_1749.2.2.2.2.2.2.2.2.2
def dsL_law_1761 : ByteArray := ⟨#[46, 42, 21, 5, 6, 96, 46, 182, 1, 74, 54, 7, 167, 4, 127, 43]⟩
theorem daL_law_1761 : agB cL_law dsL_law_1761 1761 := agB_of (n := 16) (by decide +kernel)
theorem dbL_law_1761 : (decode dsL_law_1761 0 = .ok (.iaload, 1) ∧ okop dsL_law_1761 0 = true) ∧ (decode dsL_law_1761 1 = .ok (.aload_n 0, 1) ∧ okop dsL_law_1761 1 = true) ∧ (decode dsL_law_1761 2 = .ok (.iload 5, 2) ∧ okop dsL_law_1761 2 = true) ∧ (decode dsL_law_1761 4 = .ok (.iconst 3, 1) ∧ okop dsL_law_1761 4 = true) ∧ (decode dsL_law_1761 5 = .ok (.iadd, 1) ∧ okop dsL_law_1761 5 = true) ∧ (decode dsL_law_1761 6 = .ok (.iaload, 1) ∧ okop dsL_law_1761 6 = true) ∧ (decode dsL_law_1761 7 = .ok (.invokevirtual 330, 3) ∧ okop dsL_law_1761 7 = true) ∧ (decode dsL_law_1761 10 = .ok (.istore 7, 2) ∧ okop dsL_law_1761 10 = true) ∧ (decode dsL_law_1761 12 = .ok (.goto 1151, 3) ∧ okop dsL_law_1761 12 = true) ∧ (decode dsL_law_1761 15 = .ok (.aload_n 1, 1) ∧ okop dsL_law_1761 15 = true) := by decide +kernel
theorem dL_law_1761 : decode cL_law 1761 = .ok (.iaload, 1) := dgq (p := 0) daL_law_1761 dbL_law_1761.1
theorem dL_law_1762 : decode cL_law 1762 = .ok (.aload_n 0, 1) := dgq (p := 1) daL_law_1761 dbL_law_1761.2.1
theorem dL_law_1763 : decode cL_law 1763 = .ok (.iload 5, 2) := dgq (p := 2) daL_law_1761 dbL_law_1761.2.2.1
theorem dL_law_1765 : decode cL_law 1765 = .ok (.iconst 3, 1) := dgq (p := 4) daL_law_1761 dbL_law_1761.2.2.2.1
theorem dL_law_1766 : decode cL_law 1766 = .ok (.iadd, 1) := dgq (p := 5) daL_law_1761 dbL_law_1761.2.2.2.2.1
theorem dL_law_1767 : decode cL_law 1767 = .ok (.iaload, 1) := dgq (p := 6) daL_law_1761 dbL_law_1761.2.2.2.2.2.1
theorem dL_law_1768 : decode cL_law 1768 = .ok (.invokevirtual 330, 3) := dgq (p := 7) daL_law_1761 dbL_law_1761.2.2.2.2.2.2.1
theorem dL_law_1771 : decode cL_law 1771 = .ok (.istore 7, 2) := dgq (p := 10) daL_law_1761 dbL_law_1761.2.2.2.2.2.2.2.1
theorem dL_law_1773 : decode cL_law 1773 = .ok (.goto 1151, 3) := dgq (p := 12) daL_law_1761 dbL_law_1761.2.2.2.2.2.2.2.2.1
theorem dL_law_1776 : decode cL_law 1776 = .ok (.aload_n 1, 1) := dgq (p := 15) daL_law_1761 dbL_law_1761.2.2.2.2.2.2.2.2.2
def dsL_law_1777 : ByteArray := ⟨#[42, 21, 5, 4, 96, 46, 42, 21, 5, 5, 96, 46]⟩
theorem daL_law_1777 : agB cL_law dsL_law_1777 1777 := agB_of (n := 12) (by decide +kernel)
theorem dbL_law_1777 : (decode dsL_law_1777 0 = .ok (.aload_n 0, 1) ∧ okop dsL_law_1777 0 = true) ∧ (decode dsL_law_1777 1 = .ok (.iload 5, 2) ∧ okop dsL_law_1777 1 = true) ∧ (decode dsL_law_1777 3 = .ok (.iconst 1, 1) ∧ okop dsL_law_1777 3 = true) ∧ (decode dsL_law_1777 4 = .ok (.iadd, 1) ∧ okop dsL_law_1777 4 = true) ∧ (decode dsL_law_1777 5 = .ok (.iaload, 1) ∧ okop dsL_law_1777 5 = true) ∧ (decode dsL_law_1777 6 = .ok (.aload_n 0, 1) ∧ okop dsL_law_1777 6 = true) ∧ (decode dsL_law_1777 7 = .ok (.iload 5, 2) ∧ okop dsL_law_1777 7 = true) ∧ (decode dsL_law_1777 9 = .ok (.iconst 2, 1) ∧ okop dsL_law_1777 9 = true) ∧ (decode dsL_law_1777 10 = .ok (.iadd, 1) ∧ okop dsL_law_1777 10 = true) ∧ (decode dsL_law_1777 11 = .ok (.iaload, 1) ∧ okop dsL_law_1777 11 = true) := by decide +kernel
theorem dL_law_1777 : decode cL_law 1777 = .ok (.aload_n 0, 1) := dgq (p := 0) daL_law_1777 dbL_law_1777.1
theorem dL_law_1778 : decode cL_law 1778 = .ok (.iload 5, 2) := dgq (p := 1) daL_law_1777 dbL_law_1777.2.1
theorem dL_law_1780 : decode cL_law 1780 = .ok (.iconst 1, 1) := dgq (p := 3) daL_law_1777 dbL_law_1777.2.2.1
theorem dL_law_1781 : decode cL_law 1781 = .ok (.iadd, 1) := dgq (p := 4) daL_law_1777 dbL_law_1777.2.2.2.1
theorem dL_law_1782 : decode cL_law 1782 = .ok (.iaload, 1) := dgq (p := 5) daL_law_1777 dbL_law_1777.2.2.2.2.1
theorem dL_law_1783 : decode cL_law 1783 = .ok (.aload_n 0, 1) := dgq (p := 6) daL_law_1777 dbL_law_1777.2.2.2.2.2.1
theorem dL_law_1784 : decode cL_law 1784 = .ok (.iload 5, 2) := dgq (p := 7) daL_law_1777 dbL_law_1777.2.2.2.2.2.2.1
theorem dL_law_1786 : decode cL_law 1786 = .ok (.iconst 2, 1) := dgq (p := 9) daL_law_1777 dbL_law_1777.2.2.2.2.2.2.2.1
theorem dL_law_1787 : decode cL_law 1787 = .ok (.iadd, 1) := dgq (p := 10) daL_law_1777 dbL_law_1777.2.2.2.2.2.2.2.2.1
theorem dL_law_1788 : decode cL_law 1788 = .ok (.iaload, 1) := dgq (p := 11) daL_law_1777 dbL_law_1777.2.2.2.2.2.2.2.2.2
def dsL_law_1789 : ByteArray := ⟨#[42, 21, 5, 6, 96, 46, 153, 0, 7, 4, 167, 0, 4, 3, 45]⟩
theorem daL_law_1789 : agB cL_law dsL_law_1789 1789 := agB_of (n := 15) (by decide +kernel)
theorem dbL_law_1789 : (decode dsL_law_1789 0 = .ok (.aload_n 0, 1) ∧ okop dsL_law_1789 0 = true) ∧ (decode dsL_law_1789 1 = .ok (.iload 5, 2) ∧ okop dsL_law_1789 1 = true) ∧ (decode dsL_law_1789 3 = .ok (.iconst 3, 1) ∧ okop dsL_law_1789 3 = true) ∧ (decode dsL_law_1789 4 = .ok (.iadd, 1) ∧ okop dsL_law_1789 4 = true) ∧ (decode dsL_law_1789 5 = .ok (.iaload, 1) ∧ okop dsL_law_1789 5 = true) ∧ (decode dsL_law_1789 6 = .ok (.ifCond .eq 7, 3) ∧ okop dsL_law_1789 6 = true) ∧ (decode dsL_law_1789 9 = .ok (.iconst 1, 1) ∧ okop dsL_law_1789 9 = true) ∧ (decode dsL_law_1789 10 = .ok (.goto 4, 3) ∧ okop dsL_law_1789 10 = true) ∧ (decode dsL_law_1789 13 = .ok (.iconst 0, 1) ∧ okop dsL_law_1789 13 = true) ∧ (decode dsL_law_1789 14 = .ok (.aload_n 3, 1) ∧ okop dsL_law_1789 14 = true) := by decide +kernel
theorem dL_law_1789 : decode cL_law 1789 = .ok (.aload_n 0, 1) := dgq (p := 0) daL_law_1789 dbL_law_1789.1
theorem dL_law_1790 : decode cL_law 1790 = .ok (.iload 5, 2) := dgq (p := 1) daL_law_1789 dbL_law_1789.2.1
theorem dL_law_1792 : decode cL_law 1792 = .ok (.iconst 3, 1) := dgq (p := 3) daL_law_1789 dbL_law_1789.2.2.1
theorem dL_law_1793 : decode cL_law 1793 = .ok (.iadd, 1) := dgq (p := 4) daL_law_1789 dbL_law_1789.2.2.2.1
theorem dL_law_1794 : decode cL_law 1794 = .ok (.iaload, 1) := dgq (p := 5) daL_law_1789 dbL_law_1789.2.2.2.2.1
theorem dL_law_1795 : decode cL_law 1795 = .ok (.ifCond .eq 7, 3) := dgq (p := 6) daL_law_1789 dbL_law_1789.2.2.2.2.2.1
theorem dL_law_1798 : decode cL_law 1798 = .ok (.iconst 1, 1) := dgq (p := 9) daL_law_1789 dbL_law_1789.2.2.2.2.2.2.1
theorem dL_law_1799 : decode cL_law 1799 = .ok (.goto 4, 3) := dgq (p := 10) daL_law_1789 dbL_law_1789.2.2.2.2.2.2.2.1
theorem dL_law_1802 : decode cL_law 1802 = .ok (.iconst 0, 1) := dgq (p := 13) daL_law_1789 dbL_law_1789.2.2.2.2.2.2.2.2.1
theorem dL_law_1803 : decode cL_law 1803 = .ok (.aload_n 3, 1) := dgq (p := 14) daL_law_1789 dbL_law_1789.2.2.2.2.2.2.2.2.2
def dsL_law_1804 : ByteArray := ⟨#[184, 1, 75, 54, 6, 44, 42, 21, 5, 4, 96, 46, 42, 21, 5]⟩
theorem daL_law_1804 : agB cL_law dsL_law_1804 1804 := agB_of (n := 15) (by decide +kernel)
theorem dbL_law_1804 : (decode dsL_law_1804 0 = .ok (.invokestatic 331, 3) ∧ okop dsL_law_1804 0 = true) ∧ (decode dsL_law_1804 3 = .ok (.istore 6, 2) ∧ okop dsL_law_1804 3 = true) ∧ (decode dsL_law_1804 5 = .ok (.aload_n 2, 1) ∧ okop dsL_law_1804 5 = true) ∧ (decode dsL_law_1804 6 = .ok (.aload_n 0, 1) ∧ okop dsL_law_1804 6 = true) ∧ (decode dsL_law_1804 7 = .ok (.iload 5, 2) ∧ okop dsL_law_1804 7 = true) ∧ (decode dsL_law_1804 9 = .ok (.iconst 1, 1) ∧ okop dsL_law_1804 9 = true) ∧ (decode dsL_law_1804 10 = .ok (.iadd, 1) ∧ okop dsL_law_1804 10 = true) ∧ (decode dsL_law_1804 11 = .ok (.iaload, 1) ∧ okop dsL_law_1804 11 = true) ∧ (decode dsL_law_1804 12 = .ok (.aload_n 0, 1) ∧ okop dsL_law_1804 12 = true) ∧ (decode dsL_law_1804 13 = .ok (.iload 5, 2) ∧ okop dsL_law_1804 13 = true) := by decide +kernel
theorem dL_law_1804 : decode cL_law 1804 = .ok (.invokestatic 331, 3) := dgq (p := 0) daL_law_1804 dbL_law_1804.1
theorem dL_law_1807 : decode cL_law 1807 = .ok (.istore 6, 2) := dgq (p := 3) daL_law_1804 dbL_law_1804.2.1
theorem dL_law_1809 : decode cL_law 1809 = .ok (.aload_n 2, 1) := dgq (p := 5) daL_law_1804 dbL_law_1804.2.2.1
theorem dL_law_1810 : decode cL_law 1810 = .ok (.aload_n 0, 1) := dgq (p := 6) daL_law_1804 dbL_law_1804.2.2.2.1
theorem dL_law_1811 : decode cL_law 1811 = .ok (.iload 5, 2) := dgq (p := 7) daL_law_1804 dbL_law_1804.2.2.2.2.1
theorem dL_law_1813 : decode cL_law 1813 = .ok (.iconst 1, 1) := dgq (p := 9) daL_law_1804 dbL_law_1804.2.2.2.2.2.1
theorem dL_law_1814 : decode cL_law 1814 = .ok (.iadd, 1) := dgq (p := 10) daL_law_1804 dbL_law_1804.2.2.2.2.2.2.1
theorem dL_law_1815 : decode cL_law 1815 = .ok (.iaload, 1) := dgq (p := 11) daL_law_1804 dbL_law_1804.2.2.2.2.2.2.2.1
theorem dL_law_1816 : decode cL_law 1816 = .ok (.aload_n 0, 1) := dgq (p := 12) daL_law_1804 dbL_law_1804.2.2.2.2.2.2.2.2.1
theorem dL_law_1817 : decode cL_law 1817 = .ok (.iload 5, 2) := dgq (p := 13) daL_law_1804 dbL_law_1804.2.2.2.2.2.2.2.2.2
def dsL_law_1819 : ByteArray := ⟨#[5, 96, 46, 42, 21, 5, 6, 96, 46, 153, 0, 7, 4]⟩
theorem daL_law_1819 : agB cL_law dsL_law_1819 1819 := agB_of (n := 13) (by decide +kernel)
theorem dbL_law_1819 : (decode dsL_law_1819 0 = .ok (.iconst 2, 1) ∧ okop dsL_law_1819 0 = true) ∧ (decode dsL_law_1819 1 = .ok (.iadd, 1) ∧ okop dsL_law_1819 1 = true) ∧ (decode dsL_law_1819 2 = .ok (.iaload, 1) ∧ okop dsL_law_1819 2 = true) ∧ (decode dsL_law_1819 3 = .ok (.aload_n 0, 1) ∧ okop dsL_law_1819 3 = true) ∧ (decode dsL_law_1819 4 = .ok (.iload 5, 2) ∧ okop dsL_law_1819 4 = true) ∧ (decode dsL_law_1819 6 = .ok (.iconst 3, 1) ∧ okop dsL_law_1819 6 = true) ∧ (decode dsL_law_1819 7 = .ok (.iadd, 1) ∧ okop dsL_law_1819 7 = true) ∧ (decode dsL_law_1819 8 = .ok (.iaload, 1) ∧ okop dsL_law_1819 8 = true) ∧ (decode dsL_law_1819 9 = .ok (.ifCond .eq 7, 3) ∧ okop dsL_law_1819 9 = true) ∧ (decode dsL_law_1819 12 = .ok (.iconst 1, 1) ∧ okop dsL_law_1819 12 = true) := by decide +kernel
theorem dL_law_1819 : decode cL_law 1819 = .ok (.iconst 2, 1) := dgq (p := 0) daL_law_1819 dbL_law_1819.1
theorem dL_law_1820 : decode cL_law 1820 = .ok (.iadd, 1) := dgq (p := 1) daL_law_1819 dbL_law_1819.2.1
theorem dL_law_1821 : decode cL_law 1821 = .ok (.iaload, 1) := dgq (p := 2) daL_law_1819 dbL_law_1819.2.2.1
theorem dL_law_1822 : decode cL_law 1822 = .ok (.aload_n 0, 1) := dgq (p := 3) daL_law_1819 dbL_law_1819.2.2.2.1
theorem dL_law_1823 : decode cL_law 1823 = .ok (.iload 5, 2) := dgq (p := 4) daL_law_1819 dbL_law_1819.2.2.2.2.1
theorem dL_law_1825 : decode cL_law 1825 = .ok (.iconst 3, 1) := dgq (p := 6) daL_law_1819 dbL_law_1819.2.2.2.2.2.1
theorem dL_law_1826 : decode cL_law 1826 = .ok (.iadd, 1) := dgq (p := 7) daL_law_1819 dbL_law_1819.2.2.2.2.2.2.1
theorem dL_law_1827 : decode cL_law 1827 = .ok (.iaload, 1) := dgq (p := 8) daL_law_1819 dbL_law_1819.2.2.2.2.2.2.2.1
theorem dL_law_1828 : decode cL_law 1828 = .ok (.ifCond .eq 7, 3) := dgq (p := 9) daL_law_1819 dbL_law_1819.2.2.2.2.2.2.2.2.1
theorem dL_law_1831 : decode cL_law 1831 = .ok (.iconst 1, 1) := dgq (p := 12) daL_law_1819 dbL_law_1819.2.2.2.2.2.2.2.2.2
def dsL_law_1832 : ByteArray := ⟨#[167, 0, 4, 3, 182, 1, 78, 54, 7, 167, 4, 59, 43, 42, 21, 5, 4, 96]⟩
theorem daL_law_1832 : agB cL_law dsL_law_1832 1832 := agB_of (n := 18) (by decide +kernel)
theorem dbL_law_1832 : (decode dsL_law_1832 0 = .ok (.goto 4, 3) ∧ okop dsL_law_1832 0 = true) ∧ (decode dsL_law_1832 3 = .ok (.iconst 0, 1) ∧ okop dsL_law_1832 3 = true) ∧ (decode dsL_law_1832 4 = .ok (.invokevirtual 334, 3) ∧ okop dsL_law_1832 4 = true) ∧ (decode dsL_law_1832 7 = .ok (.istore 7, 2) ∧ okop dsL_law_1832 7 = true) ∧ (decode dsL_law_1832 9 = .ok (.goto 1083, 3) ∧ okop dsL_law_1832 9 = true) ∧ (decode dsL_law_1832 12 = .ok (.aload_n 1, 1) ∧ okop dsL_law_1832 12 = true) ∧ (decode dsL_law_1832 13 = .ok (.aload_n 0, 1) ∧ okop dsL_law_1832 13 = true) ∧ (decode dsL_law_1832 14 = .ok (.iload 5, 2) ∧ okop dsL_law_1832 14 = true) ∧ (decode dsL_law_1832 16 = .ok (.iconst 1, 1) ∧ okop dsL_law_1832 16 = true) ∧ (decode dsL_law_1832 17 = .ok (.iadd, 1) ∧ okop dsL_law_1832 17 = true) := by decide +kernel
theorem dL_law_1832 : decode cL_law 1832 = .ok (.goto 4, 3) := dgq (p := 0) daL_law_1832 dbL_law_1832.1
theorem dL_law_1835 : decode cL_law 1835 = .ok (.iconst 0, 1) := dgq (p := 3) daL_law_1832 dbL_law_1832.2.1
theorem dL_law_1836 : decode cL_law 1836 = .ok (.invokevirtual 334, 3) := dgq (p := 4) daL_law_1832 dbL_law_1832.2.2.1
theorem dL_law_1839 : decode cL_law 1839 = .ok (.istore 7, 2) := dgq (p := 7) daL_law_1832 dbL_law_1832.2.2.2.1
theorem dL_law_1841 : decode cL_law 1841 = .ok (.goto 1083, 3) := dgq (p := 9) daL_law_1832 dbL_law_1832.2.2.2.2.1
theorem dL_law_1844 : decode cL_law 1844 = .ok (.aload_n 1, 1) := dgq (p := 12) daL_law_1832 dbL_law_1832.2.2.2.2.2.1
theorem dL_law_1845 : decode cL_law 1845 = .ok (.aload_n 0, 1) := dgq (p := 13) daL_law_1832 dbL_law_1832.2.2.2.2.2.2.1
theorem dL_law_1846 : decode cL_law 1846 = .ok (.iload 5, 2) := dgq (p := 14) daL_law_1832 dbL_law_1832.2.2.2.2.2.2.2.1
theorem dL_law_1848 : decode cL_law 1848 = .ok (.iconst 1, 1) := dgq (p := 16) daL_law_1832 dbL_law_1832.2.2.2.2.2.2.2.2.1
theorem dL_law_1849 : decode cL_law 1849 = .ok (.iadd, 1) := dgq (p := 17) daL_law_1832 dbL_law_1832.2.2.2.2.2.2.2.2.2
def dsL_law_1850 : ByteArray := ⟨#[46, 45, 184, 1, 79, 54, 6, 44, 42, 21, 5, 4, 96, 46]⟩
theorem daL_law_1850 : agB cL_law dsL_law_1850 1850 := agB_of (n := 14) (by decide +kernel)
theorem dbL_law_1850 : (decode dsL_law_1850 0 = .ok (.iaload, 1) ∧ okop dsL_law_1850 0 = true) ∧ (decode dsL_law_1850 1 = .ok (.aload_n 3, 1) ∧ okop dsL_law_1850 1 = true) ∧ (decode dsL_law_1850 2 = .ok (.invokestatic 335, 3) ∧ okop dsL_law_1850 2 = true) ∧ (decode dsL_law_1850 5 = .ok (.istore 6, 2) ∧ okop dsL_law_1850 5 = true) ∧ (decode dsL_law_1850 7 = .ok (.aload_n 2, 1) ∧ okop dsL_law_1850 7 = true) ∧ (decode dsL_law_1850 8 = .ok (.aload_n 0, 1) ∧ okop dsL_law_1850 8 = true) ∧ (decode dsL_law_1850 9 = .ok (.iload 5, 2) ∧ okop dsL_law_1850 9 = true) ∧ (decode dsL_law_1850 11 = .ok (.iconst 1, 1) ∧ okop dsL_law_1850 11 = true) ∧ (decode dsL_law_1850 12 = .ok (.iadd, 1) ∧ okop dsL_law_1850 12 = true) ∧ (decode dsL_law_1850 13 = .ok (.iaload, 1) ∧ okop dsL_law_1850 13 = true) := by decide +kernel
theorem dL_law_1850 : decode cL_law 1850 = .ok (.iaload, 1) := dgq (p := 0) daL_law_1850 dbL_law_1850.1
theorem dL_law_1851 : decode cL_law 1851 = .ok (.aload_n 3, 1) := dgq (p := 1) daL_law_1850 dbL_law_1850.2.1
theorem dL_law_1852 : decode cL_law 1852 = .ok (.invokestatic 335, 3) := dgq (p := 2) daL_law_1850 dbL_law_1850.2.2.1
theorem dL_law_1855 : decode cL_law 1855 = .ok (.istore 6, 2) := dgq (p := 5) daL_law_1850 dbL_law_1850.2.2.2.1
theorem dL_law_1857 : decode cL_law 1857 = .ok (.aload_n 2, 1) := dgq (p := 7) daL_law_1850 dbL_law_1850.2.2.2.2.1
theorem dL_law_1858 : decode cL_law 1858 = .ok (.aload_n 0, 1) := dgq (p := 8) daL_law_1850 dbL_law_1850.2.2.2.2.2.1
theorem dL_law_1859 : decode cL_law 1859 = .ok (.iload 5, 2) := dgq (p := 9) daL_law_1850 dbL_law_1850.2.2.2.2.2.2.1
theorem dL_law_1861 : decode cL_law 1861 = .ok (.iconst 1, 1) := dgq (p := 11) daL_law_1850 dbL_law_1850.2.2.2.2.2.2.2.1
theorem dL_law_1862 : decode cL_law 1862 = .ok (.iadd, 1) := dgq (p := 12) daL_law_1850 dbL_law_1850.2.2.2.2.2.2.2.2.1
theorem dL_law_1863 : decode cL_law 1863 = .ok (.iaload, 1) := dgq (p := 13) daL_law_1850 dbL_law_1850.2.2.2.2.2.2.2.2.2
def dsL_law_1864 : ByteArray := ⟨#[182, 1, 81, 54, 7, 167, 4, 31, 43, 42, 21, 5, 4, 96, 46, 45]⟩
theorem daL_law_1864 : agB cL_law dsL_law_1864 1864 := agB_of (n := 16) (by decide +kernel)
theorem dbL_law_1864 : (decode dsL_law_1864 0 = .ok (.invokevirtual 337, 3) ∧ okop dsL_law_1864 0 = true) ∧ (decode dsL_law_1864 3 = .ok (.istore 7, 2) ∧ okop dsL_law_1864 3 = true) ∧ (decode dsL_law_1864 5 = .ok (.goto 1055, 3) ∧ okop dsL_law_1864 5 = true) ∧ (decode dsL_law_1864 8 = .ok (.aload_n 1, 1) ∧ okop dsL_law_1864 8 = true) ∧ (decode dsL_law_1864 9 = .ok (.aload_n 0, 1) ∧ okop dsL_law_1864 9 = true) ∧ (decode dsL_law_1864 10 = .ok (.iload 5, 2) ∧ okop dsL_law_1864 10 = true) ∧ (decode dsL_law_1864 12 = .ok (.iconst 1, 1) ∧ okop dsL_law_1864 12 = true) ∧ (decode dsL_law_1864 13 = .ok (.iadd, 1) ∧ okop dsL_law_1864 13 = true) ∧ (decode dsL_law_1864 14 = .ok (.iaload, 1) ∧ okop dsL_law_1864 14 = true) ∧ (decode dsL_law_1864 15 = .ok (.aload_n 3, 1) ∧ okop dsL_law_1864 15 = true) := by decide +kernel
theorem dL_law_1864 : decode cL_law 1864 = .ok (.invokevirtual 337, 3) := dgq (p := 0) daL_law_1864 dbL_law_1864.1
theorem dL_law_1867 : decode cL_law 1867 = .ok (.istore 7, 2) := dgq (p := 3) daL_law_1864 dbL_law_1864.2.1
theorem dL_law_1869 : decode cL_law 1869 = .ok (.goto 1055, 3) := dgq (p := 5) daL_law_1864 dbL_law_1864.2.2.1
theorem dL_law_1872 : decode cL_law 1872 = .ok (.aload_n 1, 1) := dgq (p := 8) daL_law_1864 dbL_law_1864.2.2.2.1
theorem dL_law_1873 : decode cL_law 1873 = .ok (.aload_n 0, 1) := dgq (p := 9) daL_law_1864 dbL_law_1864.2.2.2.2.1
theorem dL_law_1874 : decode cL_law 1874 = .ok (.iload 5, 2) := dgq (p := 10) daL_law_1864 dbL_law_1864.2.2.2.2.2.1
theorem dL_law_1876 : decode cL_law 1876 = .ok (.iconst 1, 1) := dgq (p := 12) daL_law_1864 dbL_law_1864.2.2.2.2.2.2.1
theorem dL_law_1877 : decode cL_law 1877 = .ok (.iadd, 1) := dgq (p := 13) daL_law_1864 dbL_law_1864.2.2.2.2.2.2.2.1
theorem dL_law_1878 : decode cL_law 1878 = .ok (.iaload, 1) := dgq (p := 14) daL_law_1864 dbL_law_1864.2.2.2.2.2.2.2.2.1
theorem dL_law_1879 : decode cL_law 1879 = .ok (.aload_n 3, 1) := dgq (p := 15) daL_law_1864 dbL_law_1864.2.2.2.2.2.2.2.2.2
def dsL_law_1880 : ByteArray := ⟨#[184, 1, 82, 54, 6, 44, 42, 21, 5, 4, 96, 46, 182, 1, 84, 54, 7]⟩
theorem daL_law_1880 : agB cL_law dsL_law_1880 1880 := agB_of (n := 17) (by decide +kernel)
theorem dbL_law_1880 : (decode dsL_law_1880 0 = .ok (.invokestatic 338, 3) ∧ okop dsL_law_1880 0 = true) ∧ (decode dsL_law_1880 3 = .ok (.istore 6, 2) ∧ okop dsL_law_1880 3 = true) ∧ (decode dsL_law_1880 5 = .ok (.aload_n 2, 1) ∧ okop dsL_law_1880 5 = true) ∧ (decode dsL_law_1880 6 = .ok (.aload_n 0, 1) ∧ okop dsL_law_1880 6 = true) ∧ (decode dsL_law_1880 7 = .ok (.iload 5, 2) ∧ okop dsL_law_1880 7 = true) ∧ (decode dsL_law_1880 9 = .ok (.iconst 1, 1) ∧ okop dsL_law_1880 9 = true) ∧ (decode dsL_law_1880 10 = .ok (.iadd, 1) ∧ okop dsL_law_1880 10 = true) ∧ (decode dsL_law_1880 11 = .ok (.iaload, 1) ∧ okop dsL_law_1880 11 = true) ∧ (decode dsL_law_1880 12 = .ok (.invokevirtual 340, 3) ∧ okop dsL_law_1880 12 = true) ∧ (decode dsL_law_1880 15 = .ok (.istore 7, 2) ∧ okop dsL_law_1880 15 = true) := by decide +kernel
theorem dL_law_1880 : decode cL_law 1880 = .ok (.invokestatic 338, 3) := dgq (p := 0) daL_law_1880 dbL_law_1880.1
theorem dL_law_1883 : decode cL_law 1883 = .ok (.istore 6, 2) := dgq (p := 3) daL_law_1880 dbL_law_1880.2.1
theorem dL_law_1885 : decode cL_law 1885 = .ok (.aload_n 2, 1) := dgq (p := 5) daL_law_1880 dbL_law_1880.2.2.1
theorem dL_law_1886 : decode cL_law 1886 = .ok (.aload_n 0, 1) := dgq (p := 6) daL_law_1880 dbL_law_1880.2.2.2.1
theorem dL_law_1887 : decode cL_law 1887 = .ok (.iload 5, 2) := dgq (p := 7) daL_law_1880 dbL_law_1880.2.2.2.2.1
theorem dL_law_1889 : decode cL_law 1889 = .ok (.iconst 1, 1) := dgq (p := 9) daL_law_1880 dbL_law_1880.2.2.2.2.2.1
theorem dL_law_1890 : decode cL_law 1890 = .ok (.iadd, 1) := dgq (p := 10) daL_law_1880 dbL_law_1880.2.2.2.2.2.2.1
theorem dL_law_1891 : decode cL_law 1891 = .ok (.iaload, 1) := dgq (p := 11) daL_law_1880 dbL_law_1880.2.2.2.2.2.2.2.1
theorem dL_law_1892 : decode cL_law 1892 = .ok (.invokevirtual 340, 3) := dgq (p := 12) daL_law_1880 dbL_law_1880.2.2.2.2.2.2.2.2.1
theorem dL_law_1895 : decode cL_law 1895 = .ok (.istore 7, 2) := dgq (p := 15) daL_law_1880 dbL_law_1880.2.2.2.2.2.2.2.2.2
def dsL_law_1897 : ByteArray := ⟨#[167, 4, 3, 43, 42, 21, 5, 4, 96, 46, 42, 21, 5, 5]⟩
theorem daL_law_1897 : agB cL_law dsL_law_1897 1897 := agB_of (n := 14) (by decide +kernel)
theorem dbL_law_1897 : (decode dsL_law_1897 0 = .ok (.goto 1027, 3) ∧ okop dsL_law_1897 0 = true) ∧ (decode dsL_law_1897 3 = .ok (.aload_n 1, 1) ∧ okop dsL_law_1897 3 = true) ∧ (decode dsL_law_1897 4 = .ok (.aload_n 0, 1) ∧ okop dsL_law_1897 4 = true) ∧ (decode dsL_law_1897 5 = .ok (.iload 5, 2) ∧ okop dsL_law_1897 5 = true) ∧ (decode dsL_law_1897 7 = .ok (.iconst 1, 1) ∧ okop dsL_law_1897 7 = true) ∧ (decode dsL_law_1897 8 = .ok (.iadd, 1) ∧ okop dsL_law_1897 8 = true) ∧ (decode dsL_law_1897 9 = .ok (.iaload, 1) ∧ okop dsL_law_1897 9 = true) ∧ (decode dsL_law_1897 10 = .ok (.aload_n 0, 1) ∧ okop dsL_law_1897 10 = true) ∧ (decode dsL_law_1897 11 = .ok (.iload 5, 2) ∧ okop dsL_law_1897 11 = true) ∧ (decode dsL_law_1897 13 = .ok (.iconst 2, 1) ∧ okop dsL_law_1897 13 = true) := by decide +kernel
theorem dL_law_1897 : decode cL_law 1897 = .ok (.goto 1027, 3) := dgq (p := 0) daL_law_1897 dbL_law_1897.1
theorem dL_law_1900 : decode cL_law 1900 = .ok (.aload_n 1, 1) := dgq (p := 3) daL_law_1897 dbL_law_1897.2.1
theorem dL_law_1901 : decode cL_law 1901 = .ok (.aload_n 0, 1) := dgq (p := 4) daL_law_1897 dbL_law_1897.2.2.1
theorem dL_law_1902 : decode cL_law 1902 = .ok (.iload 5, 2) := dgq (p := 5) daL_law_1897 dbL_law_1897.2.2.2.1
theorem dL_law_1904 : decode cL_law 1904 = .ok (.iconst 1, 1) := dgq (p := 7) daL_law_1897 dbL_law_1897.2.2.2.2.1
theorem dL_law_1905 : decode cL_law 1905 = .ok (.iadd, 1) := dgq (p := 8) daL_law_1897 dbL_law_1897.2.2.2.2.2.1
theorem dL_law_1906 : decode cL_law 1906 = .ok (.iaload, 1) := dgq (p := 9) daL_law_1897 dbL_law_1897.2.2.2.2.2.2.1
theorem dL_law_1907 : decode cL_law 1907 = .ok (.aload_n 0, 1) := dgq (p := 10) daL_law_1897 dbL_law_1897.2.2.2.2.2.2.2.1
theorem dL_law_1908 : decode cL_law 1908 = .ok (.iload 5, 2) := dgq (p := 11) daL_law_1897 dbL_law_1897.2.2.2.2.2.2.2.2.1
theorem dL_law_1910 : decode cL_law 1910 = .ok (.iconst 2, 1) := dgq (p := 13) daL_law_1897 dbL_law_1897.2.2.2.2.2.2.2.2.2
def dsL_law_1911 : ByteArray := ⟨#[96, 46, 42, 21, 5, 6, 96, 46, 45, 184, 1, 85, 54, 6]⟩
theorem daL_law_1911 : agB cL_law dsL_law_1911 1911 := agB_of (n := 14) (by decide +kernel)
theorem dbL_law_1911 : (decode dsL_law_1911 0 = .ok (.iadd, 1) ∧ okop dsL_law_1911 0 = true) ∧ (decode dsL_law_1911 1 = .ok (.iaload, 1) ∧ okop dsL_law_1911 1 = true) ∧ (decode dsL_law_1911 2 = .ok (.aload_n 0, 1) ∧ okop dsL_law_1911 2 = true) ∧ (decode dsL_law_1911 3 = .ok (.iload 5, 2) ∧ okop dsL_law_1911 3 = true) ∧ (decode dsL_law_1911 5 = .ok (.iconst 3, 1) ∧ okop dsL_law_1911 5 = true) ∧ (decode dsL_law_1911 6 = .ok (.iadd, 1) ∧ okop dsL_law_1911 6 = true) ∧ (decode dsL_law_1911 7 = .ok (.iaload, 1) ∧ okop dsL_law_1911 7 = true) ∧ (decode dsL_law_1911 8 = .ok (.aload_n 3, 1) ∧ okop dsL_law_1911 8 = true) ∧ (decode dsL_law_1911 9 = .ok (.invokestatic 341, 3) ∧ okop dsL_law_1911 9 = true) ∧ (decode dsL_law_1911 12 = .ok (.istore 6, 2) ∧ okop dsL_law_1911 12 = true) := by decide +kernel
theorem dL_law_1911 : decode cL_law 1911 = .ok (.iadd, 1) := dgq (p := 0) daL_law_1911 dbL_law_1911.1
theorem dL_law_1912 : decode cL_law 1912 = .ok (.iaload, 1) := dgq (p := 1) daL_law_1911 dbL_law_1911.2.1
theorem dL_law_1913 : decode cL_law 1913 = .ok (.aload_n 0, 1) := dgq (p := 2) daL_law_1911 dbL_law_1911.2.2.1
theorem dL_law_1914 : decode cL_law 1914 = .ok (.iload 5, 2) := dgq (p := 3) daL_law_1911 dbL_law_1911.2.2.2.1
theorem dL_law_1916 : decode cL_law 1916 = .ok (.iconst 3, 1) := dgq (p := 5) daL_law_1911 dbL_law_1911.2.2.2.2.1
theorem dL_law_1917 : decode cL_law 1917 = .ok (.iadd, 1) := dgq (p := 6) daL_law_1911 dbL_law_1911.2.2.2.2.2.1
theorem dL_law_1918 : decode cL_law 1918 = .ok (.iaload, 1) := dgq (p := 7) daL_law_1911 dbL_law_1911.2.2.2.2.2.2.1
theorem dL_law_1919 : decode cL_law 1919 = .ok (.aload_n 3, 1) := dgq (p := 8) daL_law_1911 dbL_law_1911.2.2.2.2.2.2.2.1
theorem dL_law_1920 : decode cL_law 1920 = .ok (.invokestatic 341, 3) := dgq (p := 9) daL_law_1911 dbL_law_1911.2.2.2.2.2.2.2.2.1
theorem dL_law_1923 : decode cL_law 1923 = .ok (.istore 6, 2) := dgq (p := 12) daL_law_1911 dbL_law_1911.2.2.2.2.2.2.2.2.2
def dsL_law_1925 : ByteArray := ⟨#[44, 42, 21, 5, 4, 96, 46, 42, 21, 5, 5, 96]⟩
theorem daL_law_1925 : agB cL_law dsL_law_1925 1925 := agB_of (n := 12) (by decide +kernel)
theorem dbL_law_1925 : (decode dsL_law_1925 0 = .ok (.aload_n 2, 1) ∧ okop dsL_law_1925 0 = true) ∧ (decode dsL_law_1925 1 = .ok (.aload_n 0, 1) ∧ okop dsL_law_1925 1 = true) ∧ (decode dsL_law_1925 2 = .ok (.iload 5, 2) ∧ okop dsL_law_1925 2 = true) ∧ (decode dsL_law_1925 4 = .ok (.iconst 1, 1) ∧ okop dsL_law_1925 4 = true) ∧ (decode dsL_law_1925 5 = .ok (.iadd, 1) ∧ okop dsL_law_1925 5 = true) ∧ (decode dsL_law_1925 6 = .ok (.iaload, 1) ∧ okop dsL_law_1925 6 = true) ∧ (decode dsL_law_1925 7 = .ok (.aload_n 0, 1) ∧ okop dsL_law_1925 7 = true) ∧ (decode dsL_law_1925 8 = .ok (.iload 5, 2) ∧ okop dsL_law_1925 8 = true) ∧ (decode dsL_law_1925 10 = .ok (.iconst 2, 1) ∧ okop dsL_law_1925 10 = true) ∧ (decode dsL_law_1925 11 = .ok (.iadd, 1) ∧ okop dsL_law_1925 11 = true) := by decide +kernel
theorem dL_law_1925 : decode cL_law 1925 = .ok (.aload_n 2, 1) := dgq (p := 0) daL_law_1925 dbL_law_1925.1
theorem dL_law_1926 : decode cL_law 1926 = .ok (.aload_n 0, 1) := dgq (p := 1) daL_law_1925 dbL_law_1925.2.1
theorem dL_law_1927 : decode cL_law 1927 = .ok (.iload 5, 2) := dgq (p := 2) daL_law_1925 dbL_law_1925.2.2.1
theorem dL_law_1929 : decode cL_law 1929 = .ok (.iconst 1, 1) := dgq (p := 4) daL_law_1925 dbL_law_1925.2.2.2.1
theorem dL_law_1930 : decode cL_law 1930 = .ok (.iadd, 1) := dgq (p := 5) daL_law_1925 dbL_law_1925.2.2.2.2.1
theorem dL_law_1931 : decode cL_law 1931 = .ok (.iaload, 1) := dgq (p := 6) daL_law_1925 dbL_law_1925.2.2.2.2.2.1
theorem dL_law_1932 : decode cL_law 1932 = .ok (.aload_n 0, 1) := dgq (p := 7) daL_law_1925 dbL_law_1925.2.2.2.2.2.2.1
theorem dL_law_1933 : decode cL_law 1933 = .ok (.iload 5, 2) := dgq (p := 8) daL_law_1925 dbL_law_1925.2.2.2.2.2.2.2.1
theorem dL_law_1935 : decode cL_law 1935 = .ok (.iconst 2, 1) := dgq (p := 10) daL_law_1925 dbL_law_1925.2.2.2.2.2.2.2.2.1
theorem dL_law_1936 : decode cL_law 1936 = .ok (.iadd, 1) := dgq (p := 11) daL_law_1925 dbL_law_1925.2.2.2.2.2.2.2.2.2

