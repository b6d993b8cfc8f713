def dsL_law_681 : ByteArray := ⟨#[96, 46, 42, 21, 5, 5, 96, 46, 45, 184, 1, 4, 54, 6]⟩
theorem daL_law_681 : agB cL_law dsL_law_681 681 := agB_of (n := 14) (by decide +kernel)
theorem dbL_law_681 : (decode dsL_law_681 0 = .ok (.iadd, 1) ∧ okop dsL_law_681 0 = true) ∧ (decode dsL_law_681 1 = .ok (.iaload, 1) ∧ okop dsL_law_681 1 = true) ∧ (decode dsL_law_681 2 = .ok (.aload_n 0, 1) ∧ okop dsL_law_681 2 = true) ∧ (decode dsL_law_681 3 = .ok (.iload 5, 2) ∧ okop dsL_law_681 3 = true) ∧ (decode dsL_law_681 5 = .ok (.iconst 2, 1) ∧ okop dsL_law_681 5 = true) ∧ (decode dsL_law_681 6 = .ok (.iadd, 1) ∧ okop dsL_law_681 6 = true) ∧ (decode dsL_law_681 7 = .ok (.iaload, 1) ∧ okop dsL_law_681 7 = true) ∧ (decode dsL_law_681 8 = .ok (.aload_n 3, 1) ∧ okop dsL_law_681 8 = true) ∧ (decode dsL_law_681 9 = .ok (.invokestatic 260, 3) ∧ okop dsL_law_681 9 = true) ∧ (decode dsL_law_681 12 = .ok (.istore 6, 2) ∧ okop dsL_law_681 12 = true) := by decide +kernel
theorem dL_law_681 : decode cL_law 681 = .ok (.iadd, 1) := dgq (p := 0) daL_law_681 dbL_law_681.1
theorem dL_law_682 : decode cL_law 682 = .ok (.iaload, 1) := dgq (p := 1) daL_law_681 dbL_law_681.2.1
theorem dL_law_683 : decode cL_law 683 = .ok (.aload_n 0, 1) := dgq (p := 2) daL_law_681 dbL_law_681.2.2.1
theorem dL_law_684 : decode cL_law 684 = .ok (.iload 5, 2) := dgq (p := 3) daL_law_681 dbL_law_681.2.2.2.1
theorem dL_law_686 : decode cL_law 686 = .ok (.iconst 2, 1) := dgq (p := 5) daL_law_681 dbL_law_681.2.2.2.2.1
theorem dL_law_687 : decode cL_law 687 = .ok (.iadd, 1) := dgq (p := 6) daL_law_681 dbL_law_681.2.2.2.2.2.1
theorem dL_law_688 : decode cL_law 688 = .ok (.iaload, 1) := dgq (p := 7) daL_law_681 dbL_law_681.2.2.2.2.2.2.1
theorem dL_law_689 : decode cL_law 689 = .ok (.aload_n 3, 1) := dgq (p := 8) daL_law_681 dbL_law_681.2.2.2.2.2.2.2.1
theorem dL_law_690 : decode cL_law 690 = .ok (.invokestatic 260, 3) := dgq (p := 9) daL_law_681 dbL_law_681.2.2.2.2.2.2.2.2.1
theorem dL_law_693 : decode cL_law 693 = .ok (.istore 6, 2) := dgq (p := 12) daL_law_681 dbL_law_681.2.2.2.2.2.2.2.2.2
def dsL_law_695 : ByteArray := ⟨#[44, 42, 21, 5, 4, 96, 46, 42, 21, 5, 5, 96]⟩
theorem daL_law_695 : agB cL_law dsL_law_695 695 := agB_of (n := 12) (by decide +kernel)
theorem dbL_law_695 : (decode dsL_law_695 0 = .ok (.aload_n 2, 1) ∧ okop dsL_law_695 0 = true) ∧ (decode dsL_law_695 1 = .ok (.aload_n 0, 1) ∧ okop dsL_law_695 1 = true) ∧ (decode dsL_law_695 2 = .ok (.iload 5, 2) ∧ okop dsL_law_695 2 = true) ∧ (decode dsL_law_695 4 = .ok (.iconst 1, 1) ∧ okop dsL_law_695 4 = true) ∧ (decode dsL_law_695 5 = .ok (.iadd, 1) ∧ okop dsL_law_695 5 = true) ∧ (decode dsL_law_695 6 = .ok (.iaload, 1) ∧ okop dsL_law_695 6 = true) ∧ (decode dsL_law_695 7 = .ok (.aload_n 0, 1) ∧ okop dsL_law_695 7 = true) ∧ (decode dsL_law_695 8 = .ok (.iload 5, 2) ∧ okop dsL_law_695 8 = true) ∧ (decode dsL_law_695 10 = .ok (.iconst 2, 1) ∧ okop dsL_law_695 10 = true) ∧ (decode dsL_law_695 11 = .ok (.iadd, 1) ∧ okop dsL_law_695 11 = true) := by decide +kernel
theorem dL_law_695 : decode cL_law 695 = .ok (.aload_n 2, 1) := dgq (p := 0) daL_law_695 dbL_law_695.1
theorem dL_law_696 : decode cL_law 696 = .ok (.aload_n 0, 1) := dgq (p := 1) daL_law_695 dbL_law_695.2.1
theorem dL_law_697 : decode cL_law 697 = .ok (.iload 5, 2) := dgq (p := 2) daL_law_695 dbL_law_695.2.2.1
theorem dL_law_699 : decode cL_law 699 = .ok (.iconst 1, 1) := dgq (p := 4) daL_law_695 dbL_law_695.2.2.2.1
theorem dL_law_700 : decode cL_law 700 = .ok (.iadd, 1) := dgq (p := 5) daL_law_695 dbL_law_695.2.2.2.2.1
theorem dL_law_701 : decode cL_law 701 = .ok (.iaload, 1) := dgq (p := 6) daL_law_695 dbL_law_695.2.2.2.2.2.1
theorem dL_law_702 : decode cL_law 702 = .ok (.aload_n 0, 1) := dgq (p := 7) daL_law_695 dbL_law_695.2.2.2.2.2.2.1
theorem dL_law_703 : decode cL_law 703 = .ok (.iload 5, 2) := dgq (p := 8) daL_law_695 dbL_law_695.2.2.2.2.2.2.2.1
theorem dL_law_705 : decode cL_law 705 = .ok (.iconst 2, 1) := dgq (p := 10) daL_law_695 dbL_law_695.2.2.2.2.2.2.2.2.1
theorem dL_law_706 : decode cL_law 706 = .ok (.iadd, 1) := dgq (p := 11) daL_law_695 dbL_law_695.2.2.2.2.2.2.2.2.2
def dsL_law_707 : ByteArray := ⟨#[46, 182, 1, 6, 54, 7, 167, 8, 163, 43, 42, 21, 5, 4, 96, 46]⟩
theorem daL_law_707 : agB cL_law dsL_law_707 707 := agB_of (n := 16) (by decide +kernel)
theorem dbL_law_707 : (decode dsL_law_707 0 = .ok (.iaload, 1) ∧ okop dsL_law_707 0 = true) ∧ (decode dsL_law_707 1 = .ok (.invokevirtual 262, 3) ∧ okop dsL_law_707 1 = true) ∧ (decode dsL_law_707 4 = .ok (.istore 7, 2) ∧ okop dsL_law_707 4 = true) ∧ (decode dsL_law_707 6 = .ok (.goto 2211, 3) ∧ okop dsL_law_707 6 = true) ∧ (decode dsL_law_707 9 = .ok (.aload_n 1, 1) ∧ okop dsL_law_707 9 = true) ∧ (decode dsL_law_707 10 = .ok (.aload_n 0, 1) ∧ okop dsL_law_707 10 = true) ∧ (decode dsL_law_707 11 = .ok (.iload 5, 2) ∧ okop dsL_law_707 11 = true) ∧ (decode dsL_law_707 13 = .ok (.iconst 1, 1) ∧ okop dsL_law_707 13 = true) ∧ (decode dsL_law_707 14 = .ok (.iadd, 1) ∧ okop dsL_law_707 14 = true) ∧ (decode dsL_law_707 15 = .ok (.iaload, 1) ∧ okop dsL_law_707 15 = true) := by decide +kernel
theorem dL_law_707 : decode cL_law 707 = .ok (.iaload, 1) := dgq (p := 0) daL_law_707 dbL_law_707.1
theorem dL_law_708 : decode cL_law 708 = .ok (.invokevirtual 262, 3) := dgq (p := 1) daL_law_707 dbL_law_707.2.1
theorem dL_law_711 : decode cL_law 711 = .ok (.istore 7, 2) := dgq (p := 4) daL_law_707 dbL_law_707.2.2.1
theorem dL_law_713 : decode cL_law 713 = .ok (.goto 2211, 3) := dgq (p := 6) daL_law_707 dbL_law_707.2.2.2.1
theorem dL_law_716 : decode cL_law 716 = .ok (.aload_n 1, 1) := dgq (p := 9) daL_law_707 dbL_law_707.2.2.2.2.1
theorem dL_law_717 : decode cL_law 717 = .ok (.aload_n 0, 1) := dgq (p := 10) daL_law_707 dbL_law_707.2.2.2.2.2.1
theorem dL_law_718 : decode cL_law 718 = .ok (.iload 5, 2) := dgq (p := 11) daL_law_707 dbL_law_707.2.2.2.2.2.2.1
theorem dL_law_720 : decode cL_law 720 = .ok (.iconst 1, 1) := dgq (p := 13) daL_law_707 dbL_law_707.2.2.2.2.2.2.2.1
theorem dL_law_721 : decode cL_law 721 = .ok (.iadd, 1) := dgq (p := 14) daL_law_707 dbL_law_707.2.2.2.2.2.2.2.2.1
theorem dL_law_722 : decode cL_law 722 = .ok (.iaload, 1) := dgq (p := 15) daL_law_707 dbL_law_707.2.2.2.2.2.2.2.2.2
def dsL_law_723 : ByteArray := ⟨#[42, 21, 5, 5, 96, 46, 45, 184, 1, 7, 54, 6, 44, 42]⟩
theorem daL_law_723 : agB cL_law dsL_law_723 723 := agB_of (n := 14) (by decide +kernel)
theorem dbL_law_723 : (decode dsL_law_723 0 = .ok (.aload_n 0, 1) ∧ okop dsL_law_723 0 = true) ∧ (decode dsL_law_723 1 = .ok (.iload 5, 2) ∧ okop dsL_law_723 1 = true) ∧ (decode dsL_law_723 3 = .ok (.iconst 2, 1) ∧ okop dsL_law_723 3 = true) ∧ (decode dsL_law_723 4 = .ok (.iadd, 1) ∧ okop dsL_law_723 4 = true) ∧ (decode dsL_law_723 5 = .ok (.iaload, 1) ∧ okop dsL_law_723 5 = true) ∧ (decode dsL_law_723 6 = .ok (.aload_n 3, 1) ∧ okop dsL_law_723 6 = true) ∧ (decode dsL_law_723 7 = .ok (.invokestatic 263, 3) ∧ okop dsL_law_723 7 = true) ∧ (decode dsL_law_723 10 = .ok (.istore 6, 2) ∧ okop dsL_law_723 10 = true) ∧ (decode dsL_law_723 12 = .ok (.aload_n 2, 1) ∧ okop dsL_law_723 12 = true) ∧ (decode dsL_law_723 13 = .ok (.aload_n 0, 1) ∧ okop dsL_law_723 13 = true) := by decide +kernel
theorem dL_law_723 : decode cL_law 723 = .ok (.aload_n 0, 1) := dgq (p := 0) daL_law_723 dbL_law_723.1
theorem dL_law_724 : decode cL_law 724 = .ok (.iload 5, 2) := dgq (p := 1) daL_law_723 dbL_law_723.2.1
theorem dL_law_726 : decode cL_law 726 = .ok (.iconst 2, 1) := dgq (p := 3) daL_law_723 dbL_law_723.2.2.1
theorem dL_law_727 : decode cL_law 727 = .ok (.iadd, 1) := dgq (p := 4) daL_law_723 dbL_law_723.2.2.2.1
theorem dL_law_728 : decode cL_law 728 = .ok (.iaload, 1) := dgq (p := 5) daL_law_723 dbL_law_723.2.2.2.2.1
theorem dL_law_729 : decode cL_law 729 = .ok (.aload_n 3, 1) := dgq (p := 6) daL_law_723 dbL_law_723.2.2.2.2.2.1
theorem dL_law_730 : decode cL_law 730 = .ok (.invokestatic 263, 3) := dgq (p := 7) daL_law_723 dbL_law_723.2.2.2.2.2.2.1
theorem dL_law_733 : decode cL_law 733 = .ok (.istore 6, 2) := dgq (p := 10) daL_law_723 dbL_law_723.2.2.2.2.2.2.2.1
theorem dL_law_735 : decode cL_law 735 = .ok (.aload_n 2, 1) := dgq (p := 12) daL_law_723 dbL_law_723.2.2.2.2.2.2.2.2.1
theorem dL_law_736 : decode cL_law 736 = .ok (.aload_n 0, 1) := dgq (p := 13) daL_law_723 dbL_law_723.2.2.2.2.2.2.2.2.2
def dsL_law_737 : ByteArray := ⟨#[21, 5, 4, 96, 46, 42, 21, 5, 5, 96, 46, 182, 1, 9]⟩
theorem daL_law_737 : agB cL_law dsL_law_737 737 := agB_of (n := 14) (by decide +kernel)
theorem dbL_law_737 : (decode dsL_law_737 0 = .ok (.iload 5, 2) ∧ okop dsL_law_737 0 = true) ∧ (decode dsL_law_737 2 = .ok (.iconst 1, 1) ∧ okop dsL_law_737 2 = true) ∧ (decode dsL_law_737 3 = .ok (.iadd, 1) ∧ okop dsL_law_737 3 = true) ∧ (decode dsL_law_737 4 = .ok (.iaload, 1) ∧ okop dsL_law_737 4 = true) ∧ (decode dsL_law_737 5 = .ok (.aload_n 0, 1) ∧ okop dsL_law_737 5 = true) ∧ (decode dsL_law_737 6 = .ok (.iload 5, 2) ∧ okop dsL_law_737 6 = true) ∧ (decode dsL_law_737 8 = .ok (.iconst 2, 1) ∧ okop dsL_law_737 8 = true) ∧ (decode dsL_law_737 9 = .ok (.iadd, 1) ∧ okop dsL_law_737 9 = true) ∧ (decode dsL_law_737 10 = .ok (.iaload, 1) ∧ okop dsL_law_737 10 = true) ∧ (decode dsL_law_737 11 = .ok (.invokevirtual 265, 3) ∧ okop dsL_law_737 11 = true) := by decide +kernel
theorem dL_law_737 : decode cL_law 737 = .ok (.iload 5, 2) := dgq (p := 0) daL_law_737 dbL_law_737.1
theorem dL_law_739 : decode cL_law 739 = .ok (.iconst 1, 1) := dgq (p := 2) daL_law_737 dbL_law_737.2.1
theorem dL_law_740 : decode cL_law 740 = .ok (.iadd, 1) := dgq (p := 3) daL_law_737 dbL_law_737.2.2.1
theorem dL_law_741 : decode cL_law 741 = .ok (.iaload, 1) := dgq (p := 4) daL_law_737 dbL_law_737.2.2.2.1
theorem dL_law_742 : decode cL_law 742 = .ok (.aload_n 0, 1) := dgq (p := 5) daL_law_737 dbL_law_737.2.2.2.2.1
theorem dL_law_743 : decode cL_law 743 = .ok (.iload 5, 2) := dgq (p := 6) daL_law_737 dbL_law_737.2.2.2.2.2.1
theorem dL_law_745 : decode cL_law 745 = .ok (.iconst 2, 1) := dgq (p := 8) daL_law_737 dbL_law_737.2.2.2.2.2.2.1
theorem dL_law_746 : decode cL_law 746 = .ok (.iadd, 1) := dgq (p := 9) daL_law_737 dbL_law_737.2.2.2.2.2.2.2.1
theorem dL_law_747 : decode cL_law 747 = .ok (.iaload, 1) := dgq (p := 10) daL_law_737 dbL_law_737.2.2.2.2.2.2.2.2.1
theorem dL_law_748 : decode cL_law 748 = .ok (.invokevirtual 265, 3) := dgq (p := 11) daL_law_737 dbL_law_737.2.2.2.2.2.2.2.2.2
def dsL_law_751 : ByteArray := ⟨#[55, 7, 167, 8, 123, 43, 42, 21, 5, 4, 96, 46, 42, 21, 5]⟩
theorem daL_law_751 : agB cL_law dsL_law_751 751 := agB_of (n := 15) (by decide +kernel)
theorem dbL_law_751 : (decode dsL_law_751 0 = .ok (.lstore 7, 2) ∧ okop dsL_law_751 0 = true) ∧ (decode dsL_law_751 2 = .ok (.goto 2171, 3) ∧ okop dsL_law_751 2 = true) ∧ (decode dsL_law_751 5 = .ok (.aload_n 1, 1) ∧ okop dsL_law_751 5 = true) ∧ (decode dsL_law_751 6 = .ok (.aload_n 0, 1) ∧ okop dsL_law_751 6 = true) ∧ (decode dsL_law_751 7 = .ok (.iload 5, 2) ∧ okop dsL_law_751 7 = true) ∧ (decode dsL_law_751 9 = .ok (.iconst 1, 1) ∧ okop dsL_law_751 9 = true) ∧ (decode dsL_law_751 10 = .ok (.iadd, 1) ∧ okop dsL_law_751 10 = true) ∧ (decode dsL_law_751 11 = .ok (.iaload, 1) ∧ okop dsL_law_751 11 = true) ∧ (decode dsL_law_751 12 = .ok (.aload_n 0, 1) ∧ okop dsL_law_751 12 = true) ∧ (decode dsL_law_751 13 = .ok (.iload 5, 2) ∧ okop dsL_law_751 13 = true) := by decide +kernel
theorem dL_law_751 : decode cL_law 751 = .ok (.lstore 7, 2) := dgq (p := 0) daL_law_751 dbL_law_751.1
theorem dL_law_753 : decode cL_law 753 = .ok (.goto 2171, 3) := dgq (p := 2) daL_law_751 dbL_law_751.2.1
theorem dL_law_756 : decode cL_law 756 = .ok (.aload_n 1, 1) := dgq (p := 5) daL_law_751 dbL_law_751.2.2.1
theorem dL_law_757 : decode cL_law 757 = .ok (.aload_n 0, 1) := dgq (p := 6) daL_law_751 dbL_law_751.2.2.2.1
theorem dL_law_758 : decode cL_law 758 = .ok (.iload 5, 2) := dgq (p := 7) daL_law_751 dbL_law_751.2.2.2.2.1
theorem dL_law_760 : decode cL_law 760 = .ok (.iconst 1, 1) := dgq (p := 9) daL_law_751 dbL_law_751.2.2.2.2.2.1
theorem dL_law_761 : decode cL_law 761 = .ok (.iadd, 1) := dgq (p := 10) daL_law_751 dbL_law_751.2.2.2.2.2.2.1
theorem dL_law_762 : decode cL_law 762 = .ok (.iaload, 1) := dgq (p := 11) daL_law_751 dbL_law_751.2.2.2.2.2.2.2.1
theorem dL_law_763 : decode cL_law 763 = .ok (.aload_n 0, 1) := dgq (p := 12) daL_law_751 dbL_law_751.2.2.2.2.2.2.2.2.1
theorem dL_law_764 : decode cL_law 764 = .ok (.iload 5, 2) := dgq (p := 13) daL_law_751 dbL_law_751.2.2.2.2.2.2.2.2.2
def dsL_law_766 : ByteArray := ⟨#[5, 96, 46, 45, 184, 1, 10, 54, 6, 44, 42, 21, 5, 4]⟩
theorem daL_law_766 : agB cL_law dsL_law_766 766 := agB_of (n := 14) (by decide +kernel)
theorem dbL_law_766 : (decode dsL_law_766 0 = .ok (.iconst 2, 1) ∧ okop dsL_law_766 0 = true) ∧ (decode dsL_law_766 1 = .ok (.iadd, 1) ∧ okop dsL_law_766 1 = true) ∧ (decode dsL_law_766 2 = .ok (.iaload, 1) ∧ okop dsL_law_766 2 = true) ∧ (decode dsL_law_766 3 = .ok (.aload_n 3, 1) ∧ okop dsL_law_766 3 = true) ∧ (decode dsL_law_766 4 = .ok (.invokestatic 266, 3) ∧ okop dsL_law_766 4 = true) ∧ (decode dsL_law_766 7 = .ok (.istore 6, 2) ∧ okop dsL_law_766 7 = true) ∧ (decode dsL_law_766 9 = .ok (.aload_n 2, 1) ∧ okop dsL_law_766 9 = true) ∧ (decode dsL_law_766 10 = .ok (.aload_n 0, 1) ∧ okop dsL_law_766 10 = true) ∧ (decode dsL_law_766 11 = .ok (.iload 5, 2) ∧ okop dsL_law_766 11 = true) ∧ (decode dsL_law_766 13 = .ok (.iconst 1, 1) ∧ okop dsL_law_766 13 = true) := by decide +kernel
theorem dL_law_766 : decode cL_law 766 = .ok (.iconst 2, 1) := dgq (p := 0) daL_law_766 dbL_law_766.1
theorem dL_law_767 : decode cL_law 767 = .ok (.iadd, 1) := dgq (p := 1) daL_law_766 dbL_law_766.2.1
theorem dL_law_768 : decode cL_law 768 = .ok (.iaload, 1) := dgq (p := 2) daL_law_766 dbL_law_766.2.2.1
theorem dL_law_769 : decode cL_law 769 = .ok (.aload_n 3, 1) := dgq (p := 3) daL_law_766 dbL_law_766.2.2.2.1
theorem dL_law_770 : decode cL_law 770 = .ok (.invokestatic 266, 3) := dgq (p := 4) daL_law_766 dbL_law_766.2.2.2.2.1
theorem dL_law_773 : decode cL_law 773 = .ok (.istore 6, 2) := dgq (p := 7) daL_law_766 dbL_law_766.2.2.2.2.2.1
theorem dL_law_775 : decode cL_law 775 = .ok (.aload_n 2, 1) := dgq (p := 9) daL_law_766 dbL_law_766.2.2.2.2.2.2.1
theorem dL_law_776 : decode cL_law 776 = .ok (.aload_n 0, 1) := dgq (p := 10) daL_law_766 dbL_law_766.2.2.2.2.2.2.2.1
theorem dL_law_777 : decode cL_law 777 = .ok (.iload 5, 2) := dgq (p := 11) daL_law_766 dbL_law_766.2.2.2.2.2.2.2.2.1
theorem dL_law_779 : decode cL_law 779 = .ok (.iconst 1, 1) := dgq (p := 13) daL_law_766 dbL_law_766.2.2.2.2.2.2.2.2.2
def dsL_law_780 : ByteArray := ⟨#[96, 46, 42, 21, 5, 5, 96, 46, 182, 1, 12, 54, 7, 167, 8, 83]⟩
theorem daL_law_780 : agB cL_law dsL_law_780 780 := agB_of (n := 16) (by decide +kernel)
theorem dbL_law_780 : (decode dsL_law_780 0 = .ok (.iadd, 1) ∧ okop dsL_law_780 0 = true) ∧ (decode dsL_law_780 1 = .ok (.iaload, 1) ∧ okop dsL_law_780 1 = true) ∧ (decode dsL_law_780 2 = .ok (.aload_n 0, 1) ∧ okop dsL_law_780 2 = true) ∧ (decode dsL_law_780 3 = .ok (.iload 5, 2) ∧ okop dsL_law_780 3 = true) ∧ (decode dsL_law_780 5 = .ok (.iconst 2, 1) ∧ okop dsL_law_780 5 = true) ∧ (decode dsL_law_780 6 = .ok (.iadd, 1) ∧ okop dsL_law_780 6 = true) ∧ (decode dsL_law_780 7 = .ok (.iaload, 1) ∧ okop dsL_law_780 7 = true) ∧ (decode dsL_law_780 8 = .ok (.invokevirtual 268, 3) ∧ okop dsL_law_780 8 = true) ∧ (decode dsL_law_780 11 = .ok (.istore 7, 2) ∧ okop dsL_law_780 11 = true) ∧ (decode dsL_law_780 13 = .ok (.goto 2131, 3) ∧ okop dsL_law_780 13 = true) := by decide +kernel
theorem dL_law_780 : decode cL_law 780 = .ok (.iadd, 1) := dgq (p := 0) daL_law_780 dbL_law_780.1
theorem dL_law_781 : decode cL_law 781 = .ok (.iaload, 1) := dgq (p := 1) daL_law_780 dbL_law_780.2.1
theorem dL_law_782 : decode cL_law 782 = .ok (.aload_n 0, 1) := dgq (p := 2) daL_law_780 dbL_law_780.2.2.1
theorem dL_law_783 : decode cL_law 783 = .ok (.iload 5, 2) := dgq (p := 3) daL_law_780 dbL_law_780.2.2.2.1
theorem dL_law_785 : decode cL_law 785 = .ok (.iconst 2, 1) := dgq (p := 5) daL_law_780 dbL_law_780.2.2.2.2.1
theorem dL_law_786 : decode cL_law 786 = .ok (.iadd, 1) := dgq (p := 6) daL_law_780 dbL_law_780.2.2.2.2.2.1
theorem dL_law_787 : decode cL_law 787 = .ok (.iaload, 1) := dgq (p := 7) daL_law_780 dbL_law_780.2.2.2.2.2.2.1
theorem dL_law_788 : decode cL_law 788 = .ok (.invokevirtual 268, 3) := dgq (p := 8) daL_law_780 dbL_law_780.2.2.2.2.2.2.2.1
theorem dL_law_791 : decode cL_law 791 = .ok (.istore 7, 2) := dgq (p := 11) daL_law_780 dbL_law_780.2.2.2.2.2.2.2.2.1
theorem dL_law_793 : decode cL_law 793 = .ok (.goto 2131, 3) := dgq (p := 13) daL_law_780 dbL_law_780.2.2.2.2.2.2.2.2.2
def dsL_law_796 : ByteArray := ⟨#[43, 42, 21, 5, 4, 96, 46, 42, 21, 5, 5, 96]⟩
theorem daL_law_796 : agB cL_law dsL_law_796 796 := agB_of (n := 12) (by decide +kernel)
theorem dbL_law_796 : (decode dsL_law_796 0 = .ok (.aload_n 1, 1) ∧ okop dsL_law_796 0 = true) ∧ (decode dsL_law_796 1 = .ok (.aload_n 0, 1) ∧ okop dsL_law_796 1 = true) ∧ (decode dsL_law_796 2 = .ok (.iload 5, 2) ∧ okop dsL_law_796 2 = true) ∧ (decode dsL_law_796 4 = .ok (.iconst 1, 1) ∧ okop dsL_law_796 4 = true) ∧ (decode dsL_law_796 5 = .ok (.iadd, 1) ∧ okop dsL_law_796 5 = true) ∧ (decode dsL_law_796 6 = .ok (.iaload, 1) ∧ okop dsL_law_796 6 = true) ∧ (decode dsL_law_796 7 = .ok (.aload_n 0, 1) ∧ okop dsL_law_796 7 = true) ∧ (decode dsL_law_796 8 = .ok (.iload 5, 2) ∧ okop dsL_law_796 8 = true) ∧ (decode dsL_law_796 10 = .ok (.iconst 2, 1) ∧ okop dsL_law_796 10 = true) ∧ (decode dsL_law_796 11 = .ok (.iadd, 1) ∧ okop dsL_law_796 11 = true) := by decide +kernel
theorem dL_law_796 : decode cL_law 796 = .ok (.aload_n 1, 1) := dgq (p := 0) daL_law_796 dbL_law_796.1
theorem dL_law_797 : decode cL_law 797 = .ok (.aload_n 0, 1) := dgq (p := 1) daL_law_796 dbL_law_796.2.1
theorem dL_law_798 : decode cL_law 798 = .ok (.iload 5, 2) := dgq (p := 2) daL_law_796 dbL_law_796.2.2.1
theorem dL_law_800 : decode cL_law 800 = .ok (.iconst 1, 1) := dgq (p := 4) daL_law_796 dbL_law_796.2.2.2.1
theorem dL_law_801 : decode cL_law 801 = .ok (.iadd, 1) := dgq (p := 5) daL_law_796 dbL_law_796.2.2.2.2.1
theorem dL_law_802 : decode cL_law 802 = .ok (.iaload, 1) := dgq (p := 6) daL_law_796 dbL_law_796.2.2.2.2.2.1
theorem dL_law_803 : decode cL_law 803 = .ok (.aload_n 0, 1) := dgq (p := 7) daL_law_796 dbL_law_796.2.2.2.2.2.2.1
theorem dL_law_804 : decode cL_law 804 = .ok (.iload 5, 2) := dgq (p := 8) daL_law_796 dbL_law_796.2.2.2.2.2.2.2.1
theorem dL_law_806 : decode cL_law 806 = .ok (.iconst 2, 1) := dgq (p := 10) daL_law_796 dbL_law_796.2.2.2.2.2.2.2.2.1
theorem dL_law_807 : decode cL_law 807 = .ok (.iadd, 1) := dgq (p := 11) daL_law_796 dbL_law_796.2.2.2.2.2.2.2.2.2
def dsL_law_808 : ByteArray := ⟨#[46, 42, 21, 5, 6, 96, 46, 42, 21, 5, 7, 96]⟩
theorem daL_law_808 : agB cL_law dsL_law_808 808 := agB_of (n := 12) (by decide +kernel)
theorem dbL_law_808 : (decode dsL_law_808 0 = .ok (.iaload, 1) ∧ okop dsL_law_808 0 = true) ∧ (decode dsL_law_808 1 = .ok (.aload_n 0, 1) ∧ okop dsL_law_808 1 = true) ∧ (decode dsL_law_808 2 = .ok (.iload 5, 2) ∧ okop dsL_law_808 2 = true) ∧ (decode dsL_law_808 4 = .ok (.iconst 3, 1) ∧ okop dsL_law_808 4 = true) ∧ (decode dsL_law_808 5 = .ok (.iadd, 1) ∧ okop dsL_law_808 5 = true) ∧ (decode dsL_law_808 6 = .ok (.iaload, 1) ∧ okop dsL_law_808 6 = true) ∧ (decode dsL_law_808 7 = .ok (.aload_n 0, 1) ∧ okop dsL_law_808 7 = true) ∧ (decode dsL_law_808 8 = .ok (.iload 5, 2) ∧ okop dsL_law_808 8 = true) ∧ (decode dsL_law_808 10 = .ok (.iconst 4, 1) ∧ okop dsL_law_808 10 = true) ∧ (decode dsL_law_808 11 = .ok (.iadd, 1) ∧ okop dsL_law_808 11 = true) := by decide +kernel
theorem dL_law_808 : decode cL_law 808 = .ok (.iaload, 1) := dgq (p := 0) daL_law_808 dbL_law_808.1
theorem dL_law_809 : decode cL_law 809 = .ok (.aload_n 0, 1) := dgq (p := 1) daL_law_808 dbL_law_808.2.1
theorem dL_law_810 : decode cL_law 810 = .ok (.iload 5, 2) := dgq (p := 2) daL_law_808 dbL_law_808.2.2.1
theorem dL_law_812 : decode cL_law 812 = .ok (.iconst 3, 1) := dgq (p := 4) daL_law_808 dbL_law_808.2.2.2.1
theorem dL_law_813 : decode cL_law 813 = .ok (.iadd, 1) := dgq (p := 5) daL_law_808 dbL_law_808.2.2.2.2.1
theorem dL_law_814 : decode cL_law 814 = .ok (.iaload, 1) := dgq (p := 6) daL_law_808 dbL_law_808.2.2.2.2.2.1
theorem dL_law_815 : decode cL_law 815 = .ok (.aload_n 0, 1) := dgq (p := 7) daL_law_808 dbL_law_808.2.2.2.2.2.2.1
theorem dL_law_816 : decode cL_law 816 = .ok (.iload 5, 2) := dgq (p := 8) daL_law_808 dbL_law_808.2.2.2.2.2.2.2.1
theorem dL_law_818 : decode cL_law 818 = .ok (.iconst 4, 1) := dgq (p := 10) daL_law_808 dbL_law_808.2.2.2.2.2.2.2.2.1
theorem dL_law_819 : decode cL_law 819 = .ok (.iadd, 1) := dgq (p := 11) daL_law_808 dbL_law_808.2.2.2.2.2.2.2.2.2
def dsL_law_820 : ByteArray := ⟨#[46, 45, 184, 1, 13, 54, 6, 44, 42, 21, 5, 4, 96, 46]⟩
theorem daL_law_820 : agB cL_law dsL_law_820 820 := agB_of (n := 14) (by decide +kernel)
theorem dbL_law_820 : (decode dsL_law_820 0 = .ok (.iaload, 1) ∧ okop dsL_law_820 0 = true) ∧ (decode dsL_law_820 1 = .ok (.aload_n 3, 1) ∧ okop dsL_law_820 1 = true) ∧ (decode dsL_law_820 2 = .ok (.invokestatic 269, 3) ∧ okop dsL_law_820 2 = true) ∧ (decode dsL_law_820 5 = .ok (.istore 6, 2) ∧ okop dsL_law_820 5 = true) ∧ (decode dsL_law_820 7 = .ok (.aload_n 2, 1) ∧ okop dsL_law_820 7 = true) ∧ (decode dsL_law_820 8 = .ok (.aload_n 0, 1) ∧ okop dsL_law_820 8 = true) ∧ (decode dsL_law_820 9 = .ok (.iload 5, 2) ∧ okop dsL_law_820 9 = true) ∧ (decode dsL_law_820 11 = .ok (.iconst 1, 1) ∧ okop dsL_law_820 11 = true) ∧ (decode dsL_law_820 12 = .ok (.iadd, 1) ∧ okop dsL_law_820 12 = true) ∧ (decode dsL_law_820 13 = .ok (.iaload, 1) ∧ okop dsL_law_820 13 = true) := by decide +kernel
theorem dL_law_820 : decode cL_law 820 = .ok (.iaload, 1) := dgq (p := 0) daL_law_820 dbL_law_820.1
theorem dL_law_821 : decode cL_law 821 = .ok (.aload_n 3, 1) := dgq (p := 1) daL_law_820 dbL_law_820.2.1
theorem dL_law_822 : decode cL_law 822 = .ok (.invokestatic 269, 3) := dgq (p := 2) daL_law_820 dbL_law_820.2.2.1
theorem dL_law_825 : decode cL_law 825 = .ok (.istore 6, 2) := dgq (p := 5) daL_law_820 dbL_law_820.2.2.2.1
theorem dL_law_827 : decode cL_law 827 = .ok (.aload_n 2, 1) := dgq (p := 7) daL_law_820 dbL_law_820.2.2.2.2.1
theorem dL_law_828 : decode cL_law 828 = .ok (.aload_n 0, 1) := dgq (p := 8) daL_law_820 dbL_law_820.2.2.2.2.2.1
theorem dL_law_829 : decode cL_law 829 = .ok (.iload 5, 2) := dgq (p := 9) daL_law_820 dbL_law_820.2.2.2.2.2.2.1
theorem dL_law_831 : decode cL_law 831 = .ok (.iconst 1, 1) := dgq (p := 11) daL_law_820 dbL_law_820.2.2.2.2.2.2.2.1
theorem dL_law_832 : decode cL_law 832 = .ok (.iadd, 1) := dgq (p := 12) daL_law_820 dbL_law_820.2.2.2.2.2.2.2.2.1
theorem dL_law_833 : decode cL_law 833 = .ok (.iaload, 1) := dgq (p := 13) daL_law_820 dbL_law_820.2.2.2.2.2.2.2.2.2
def dsL_law_834 : ByteArray := ⟨#[42, 21, 5, 5, 96, 46, 42, 21, 5, 6, 96, 46]⟩
theorem daL_law_834 : agB cL_law dsL_law_834 834 := agB_of (n := 12) (by decide +kernel)
theorem dbL_law_834 : (decode dsL_law_834 0 = .ok (.aload_n 0, 1) ∧ okop dsL_law_834 0 = true) ∧ (decode dsL_law_834 1 = .ok (.iload 5, 2) ∧ okop dsL_law_834 1 = true) ∧ (decode dsL_law_834 3 = .ok (.iconst 2, 1) ∧ okop dsL_law_834 3 = true) ∧ (decode dsL_law_834 4 = .ok (.iadd, 1) ∧ okop dsL_law_834 4 = true) ∧ (decode dsL_law_834 5 = .ok (.iaload, 1) ∧ okop dsL_law_834 5 = true) ∧ (decode dsL_law_834 6 = .ok (.aload_n 0, 1) ∧ okop dsL_law_834 6 = true) ∧ (decode dsL_law_834 7 = .ok (.iload 5, 2) ∧ okop dsL_law_834 7 = true) ∧ (decode dsL_law_834 9 = .ok (.iconst 3, 1) ∧ okop dsL_law_834 9 = true) ∧ (decode dsL_law_834 10 = .ok (.iadd, 1) ∧ okop dsL_law_834 10 = true) ∧ (decode dsL_law_834 11 = .ok (.iaload, 1) ∧ okop dsL_law_834 11 = true) := by decide +kernel
theorem dL_law_834 : decode cL_law 834 = .ok (.aload_n 0, 1) := dgq (p := 0) daL_law_834 dbL_law_834.1
theorem dL_law_835 : decode cL_law 835 = .ok (.iload 5, 2) := dgq (p := 1) daL_law_834 dbL_law_834.2.1
theorem dL_law_837 : decode cL_law 837 = .ok (.iconst 2, 1) := dgq (p := 3) daL_law_834 dbL_law_834.2.2.1
theorem dL_law_838 : decode cL_law 838 = .ok (.iadd, 1) := dgq (p := 4) daL_law_834 dbL_law_834.2.2.2.1
theorem dL_law_839 : decode cL_law 839 = .ok (.iaload, 1) := dgq (p := 5) daL_law_834 dbL_law_834.2.2.2.2.1
theorem dL_law_840 : decode cL_law 840 = .ok (.aload_n 0, 1) := dgq (p := 6) daL_law_834 dbL_law_834.2.2.2.2.2.1
theorem dL_law_841 : decode cL_law 841 = .ok (.iload 5, 2) := dgq (p := 7) daL_law_834 dbL_law_834.2.2.2.2.2.2.1
theorem dL_law_843 : decode cL_law 843 = .ok (.iconst 3, 1) := dgq (p := 9) daL_law_834 dbL_law_834.2.2.2.2.2.2.2.1
theorem dL_law_844 : decode cL_law 844 = .ok (.iadd, 1) := dgq (p := 10) daL_law_834 dbL_law_834.2.2.2.2.2.2.2.2.1
theorem dL_law_845 : decode cL_law 845 = .ok (.iaload, 1) := dgq (p := 11) daL_law_834 dbL_law_834.2.2.2.2.2.2.2.2.2
def dsL_law_846 : ByteArray := ⟨#[42, 21, 5, 7, 96, 46, 182, 1, 15, 54, 7, 167, 8, 19, 43, 42]⟩
theorem daL_law_846 : agB cL_law dsL_law_846 846 := agB_of (n := 16) (by decide +kernel)
theorem dbL_law_846 : (decode dsL_law_846 0 = .ok (.aload_n 0, 1) ∧ okop dsL_law_846 0 = true) ∧ (decode dsL_law_846 1 = .ok (.iload 5, 2) ∧ okop dsL_law_846 1 = true) ∧ (decode dsL_law_846 3 = .ok (.iconst 4, 1) ∧ okop dsL_law_846 3 = true) ∧ (decode dsL_law_846 4 = .ok (.iadd, 1) ∧ okop dsL_law_846 4 = true) ∧ (decode dsL_law_846 5 = .ok (.iaload, 1) ∧ okop dsL_law_846 5 = true) ∧ (decode dsL_law_846 6 = .ok (.invokevirtual 271, 3) ∧ okop dsL_law_846 6 = true) ∧ (decode dsL_law_846 9 = .ok (.istore 7, 2) ∧ okop dsL_law_846 9 = true) ∧ (decode dsL_law_846 11 = .ok (.goto 2067, 3) ∧ okop dsL_law_846 11 = true) ∧ (decode dsL_law_846 14 = .ok (.aload_n 1, 1) ∧ okop dsL_law_846 14 = true) ∧ (decode dsL_law_846 15 = .ok (.aload_n 0, 1) ∧ okop dsL_law_846 15 = true) := by decide +kernel
theorem dL_law_846 : decode cL_law 846 = .ok (.aload_n 0, 1) := dgq (p := 0) daL_law_846 dbL_law_846.1
theorem dL_law_847 : decode cL_law 847 = .ok (.iload 5, 2) := dgq (p := 1) daL_law_846 dbL_law_846.2.1
theorem dL_law_849 : decode cL_law 849 = .ok (.iconst 4, 1) := dgq (p := 3) daL_law_846 dbL_law_846.2.2.1
theorem dL_law_850 : decode cL_law 850 = .ok (.iadd, 1) := dgq (p := 4) daL_law_846 dbL_law_846.2.2.2.1
theorem dL_law_851 : decode cL_law 851 = .ok (.iaload, 1) := dgq (p := 5) daL_law_846 dbL_law_846.2.2.2.2.1
theorem dL_law_852 : decode cL_law 852 = .ok (.invokevirtual 271, 3) := dgq (p := 6) daL_law_846 dbL_law_846.2.2.2.2.2.1
theorem dL_law_855 : decode cL_law 855 = .ok (.istore 7, 2) := dgq (p := 9) daL_law_846 dbL_law_846.2.2.2.2.2.2.1
theorem dL_law_857 : decode cL_law 857 = .ok (.goto 2067, 3) := dgq (p := 11) daL_law_846 dbL_law_846.2.2.2.2.2.2.2.1
theorem dL_law_860 : decode cL_law 860 = .ok (.aload_n 1, 1) := dgq (p := 14) daL_law_846 dbL_law_846.2.2.2.2.2.2.2.2.1
theorem dL_law_861 : decode cL_law 861 = .ok (.aload_n 0, 1) := dgq (p := 15) daL_law_846 dbL_law_846.2.2.2.2.2.2.2.2.2
def dsL_law_862 : ByteArray := ⟨#[21, 5, 4, 96, 46, 42, 21, 5, 5, 96, 46, 42]⟩
theorem daL_law_862 : agB cL_law dsL_law_862 862 := agB_of (n := 12) (by decide +kernel)
theorem dbL_law_862 : (decode dsL_law_862 0 = .ok (.iload 5, 2) ∧ okop dsL_law_862 0 = true) ∧ (decode dsL_law_862 2 = .ok (.iconst 1, 1) ∧ okop dsL_law_862 2 = true) ∧ (decode dsL_law_862 3 = .ok (.iadd, 1) ∧ okop dsL_law_862 3 = true) ∧ (decode dsL_law_862 4 = .ok (.iaload, 1) ∧ okop dsL_law_862 4 = true) ∧ (decode dsL_law_862 5 = .ok (.aload_n 0, 1) ∧ okop dsL_law_862 5 = true) ∧ (decode dsL_law_862 6 = .ok (.iload 5, 2) ∧ okop dsL_law_862 6 = true) ∧ (decode dsL_law_862 8 = .ok (.iconst 2, 1) ∧ okop dsL_law_862 8 = true) ∧ (decode dsL_law_862 9 = .ok (.iadd, 1) ∧ okop dsL_law_862 9 = true) ∧ (decode dsL_law_862 10 = .ok (.iaload, 1) ∧ okop dsL_law_862 10 = true) ∧ (decode dsL_law_862 11 = .ok (.aload_n 0, 1) ∧ okop dsL_law_862 11 = true) := by decide +kernel
theorem dL_law_862 : decode cL_law 862 = .ok (.iload 5, 2) := dgq (p := 0) daL_law_862 dbL_law_862.1
theorem dL_law_864 : decode cL_law 864 = .ok (.iconst 1, 1) := dgq (p := 2) daL_law_862 dbL_law_862.2.1
theorem dL_law_865 : decode cL_law 865 = .ok (.iadd, 1) := dgq (p := 3) daL_law_862 dbL_law_862.2.2.1
theorem dL_law_866 : decode cL_law 866 = .ok (.iaload, 1) := dgq (p := 4) daL_law_862 dbL_law_862.2.2.2.1
theorem dL_law_867 : decode cL_law 867 = .ok (.aload_n 0, 1) := dgq (p := 5) daL_law_862 dbL_law_862.2.2.2.2.1
theorem dL_law_868 : decode cL_law 868 = .ok (.iload 5, 2) := dgq (p := 6) daL_law_862 dbL_law_862.2.2.2.2.2.1
theorem dL_law_870 : decode cL_law 870 = .ok (.iconst 2, 1) := dgq (p := 8) daL_law_862 dbL_law_862.2.2.2.2.2.2.1
theorem dL_law_871 : decode cL_law 871 = .ok (.iadd, 1) := dgq (p := 9) daL_law_862 dbL_law_862.2.2.2.2.2.2.2.1
theorem dL_law_872 : decode cL_law 872 = .ok (.iaload, 1) := dgq (p := 10) daL_law_862 dbL_law_862.2.2.2.2.2.2.2.2.1
theorem dL_law_873 : decode cL_law 873 = .ok (.aload_n 0, 1) := dgq (p := 11) daL_law_862 dbL_law_862.2.2.2.2.2.2.2.2.2
def dsL_law_874 : ByteArray := ⟨#[21, 5, 6, 96, 46, 42, 21, 5, 7, 96, 46, 45]⟩
theorem daL_law_874 : agB cL_law dsL_law_874 874 := agB_of (n := 12) (by decide +kernel)
theorem dbL_law_874 : (decode dsL_law_874 0 = .ok (.iload 5, 2) ∧ okop dsL_law_874 0 = true) ∧ (decode dsL_law_874 2 = .ok (.iconst 3, 1) ∧ okop dsL_law_874 2 = true) ∧ (decode dsL_law_874 3 = .ok (.iadd, 1) ∧ okop dsL_law_874 3 = true) ∧ (decode dsL_law_874 4 = .ok (.iaload, 1) ∧ okop dsL_law_874 4 = true) ∧ (decode dsL_law_874 5 = .ok (.aload_n 0, 1) ∧ okop dsL_law_874 5 = true) ∧ (decode dsL_law_874 6 = .ok (.iload 5, 2) ∧ okop dsL_law_874 6 = true) ∧ (decode dsL_law_874 8 = .ok (.iconst 4, 1) ∧ okop dsL_law_874 8 = true) ∧ (decode dsL_law_874 9 = .ok (.iadd, 1) ∧ okop dsL_law_874 9 = true) ∧ (decode dsL_law_874 10 = .ok (.iaload, 1) ∧ okop dsL_law_874 10 = true) ∧ (decode dsL_law_874 11 = .ok (.aload_n 3, 1) ∧ okop dsL_law_874 11 = true) := by decide +kernel
theorem dL_law_874 : decode cL_law 874 = .ok (.iload 5, 2) := dgq (p := 0) daL_law_874 dbL_law_874.1
theorem dL_law_876 : decode cL_law 876 = .ok (.iconst 3, 1) := dgq (p := 2) daL_law_874 dbL_law_874.2.1
theorem dL_law_877 : decode cL_law 877 = .ok (.iadd, 1) := dgq (p := 3) daL_law_874 dbL_law_874.2.2.1
theorem dL_law_878 : decode cL_law 878 = .ok (.iaload, 1) := dgq (p := 4) daL_law_874 dbL_law_874.2.2.2.1
theorem dL_law_879 : decode cL_law 879 = .ok (.aload_n 0, 1) := dgq (p := 5) daL_law_874 dbL_law_874.2.2.2.2.1
theorem dL_law_880 : decode cL_law 880 = .ok (.iload 5, 2) := dgq (p := 6) daL_law_874 dbL_law_874.2.2.2.2.2.1
theorem dL_law_882 : decode cL_law 882 = .ok (.iconst 4, 1) := dgq (p := 8) daL_law_874 dbL_law_874.2.2.2.2.2.2.1
theorem dL_law_883 : decode cL_law 883 = .ok (.iadd, 1) := dgq (p := 9) daL_law_874 dbL_law_874.2.2.2.2.2.2.2.1
theorem dL_law_884 : decode cL_law 884 = .ok (.iaload, 1) := dgq (p := 10) daL_law_874 dbL_law_874.2.2.2.2.2.2.2.2.1
theorem dL_law_885 : decode cL_law 885 = .ok (.aload_n 3, 1) := dgq (p := 11) daL_law_874 dbL_law_874.2.2.2.2.2.2.2.2.2
def dsL_law_886 : ByteArray := ⟨#[184, 1, 16, 54, 6, 44, 42, 21, 5, 4, 96, 46, 42, 21, 5]⟩
theorem daL_law_886 : agB cL_law dsL_law_886 886 := agB_of (n := 15) (by decide +kernel)
theorem dbL_law_886 : (decode dsL_law_886 0 = .ok (.invokestatic 272, 3) ∧ okop dsL_law_886 0 = true) ∧ (decode dsL_law_886 3 = .ok (.istore 6, 2) ∧ okop dsL_law_886 3 = true) ∧ (decode dsL_law_886 5 = .ok (.aload_n 2, 1) ∧ okop dsL_law_886 5 = true) ∧ (decode dsL_law_886 6 = .ok (.aload_n 0, 1) ∧ okop dsL_law_886 6 = true) ∧ (decode dsL_law_886 7 = .ok (.iload 5, 2) ∧ okop dsL_law_886 7 = true) ∧ (decode dsL_law_886 9 = .ok (.iconst 1, 1) ∧ okop dsL_law_886 9 = true) ∧ (decode dsL_law_886 10 = .ok (.iadd, 1) ∧ okop dsL_law_886 10 = true) ∧ (decode dsL_law_886 11 = .ok (.iaload, 1) ∧ okop dsL_law_886 11 = true) ∧ (decode dsL_law_886 12 = .ok (.aload_n 0, 1) ∧ okop dsL_law_886 12 = true) ∧ (decode dsL_law_886 13 = .ok (.iload 5, 2) ∧ okop dsL_law_886 13 = true) := by decide +kernel
theorem dL_law_886 : decode cL_law 886 = .ok (.invokestatic 272, 3) := dgq (p := 0) daL_law_886 dbL_law_886.1
theorem dL_law_889 : decode cL_law 889 = .ok (.istore 6, 2) := dgq (p := 3) daL_law_886 dbL_law_886.2.1
theorem dL_law_891 : decode cL_law 891 = .ok (.aload_n 2, 1) := dgq (p := 5) daL_law_886 dbL_law_886.2.2.1
theorem dL_law_892 : decode cL_law 892 = .ok (.aload_n 0, 1) := dgq (p := 6) daL_law_886 dbL_law_886.2.2.2.1
theorem dL_law_893 : decode cL_law 893 = .ok (.iload 5, 2) := dgq (p := 7) daL_law_886 dbL_law_886.2.2.2.2.1
theorem dL_law_895 : decode cL_law 895 = .ok (.iconst 1, 1) := dgq (p := 9) daL_law_886 dbL_law_886.2.2.2.2.2.1
theorem dL_law_896 : decode cL_law 896 = .ok (.iadd, 1) := dgq (p := 10) daL_law_886 dbL_law_886.2.2.2.2.2.2.1
theorem dL_law_897 : decode cL_law 897 = .ok (.iaload, 1) := dgq (p := 11) daL_law_886 dbL_law_886.2.2.2.2.2.2.2.1
theorem dL_law_898 : decode cL_law 898 = .ok (.aload_n 0, 1) := dgq (p := 12) daL_law_886 dbL_law_886.2.2.2.2.2.2.2.2.1
theorem dL_law_899 : decode cL_law 899 = .ok (.iload 5, 2) := dgq (p := 13) daL_law_886 dbL_law_886.2.2.2.2.2.2.2.2.2
def dsL_law_901 : ByteArray := ⟨#[5, 96, 46, 42, 21, 5, 6, 96, 46, 42, 21, 5]⟩
theorem daL_law_901 : agB cL_law dsL_law_901 901 := agB_of (n := 12) (by decide +kernel)
theorem dbL_law_901 : (decode dsL_law_901 0 = .ok (.iconst 2, 1) ∧ okop dsL_law_901 0 = true) ∧ (decode dsL_law_901 1 = .ok (.iadd, 1) ∧ okop dsL_law_901 1 = true) ∧ (decode dsL_law_901 2 = .ok (.iaload, 1) ∧ okop dsL_law_901 2 = true) ∧ (decode dsL_law_901 3 = .ok (.aload_n 0, 1) ∧ okop dsL_law_901 3 = true) ∧ (decode dsL_law_901 4 = .ok (.iload 5, 2) ∧ okop dsL_law_901 4 = true) ∧ (decode dsL_law_901 6 = .ok (.iconst 3, 1) ∧ okop dsL_law_901 6 = true) ∧ (decode dsL_law_901 7 = .ok (.iadd, 1) ∧ okop dsL_law_901 7 = true) ∧ (decode dsL_law_901 8 = .ok (.iaload, 1) ∧ okop dsL_law_901 8 = true) ∧ (decode dsL_law_901 9 = .ok (.aload_n 0, 1) ∧ okop dsL_law_901 9 = true) ∧ (decode dsL_law_901 10 = .ok (.iload 5, 2) ∧ okop dsL_law_901 10 = true) := by decide +kernel
theorem dL_law_901 : decode cL_law 901 = .ok (.iconst 2, 1) := dgq (p := 0) daL_law_901 dbL_law_901.1
theorem dL_law_902 : decode cL_law 902 = .ok (.iadd, 1) := dgq (p := 1) daL_law_901 dbL_law_901.2.1
theorem dL_law_903 : decode cL_law 903 = .ok (.iaload, 1) := dgq (p := 2) daL_law_901 dbL_law_901.2.2.1
theorem dL_law_904 : decode cL_law 904 = .ok (.aload_n 0, 1) := dgq (p := 3) daL_law_901 dbL_law_901.2.2.2.1
theorem dL_law_905 : decode cL_law 905 = .ok (.iload 5, 2) := dgq (p := 4) daL_law_901 dbL_law_901.2.2.2.2.1
theorem dL_law_907 : decode cL_law 907 = .ok (.iconst 3, 1) := dgq (p := 6) daL_law_901 dbL_law_901.2.2.2.2.2.1
theorem dL_law_908 : decode cL_law 908 = .ok (.iadd, 1) := dgq (p := 7) daL_law_901 dbL_law_901.2.2.2.2.2.2.1
theorem dL_law_909 : decode cL_law 909 = .ok (.iaload, 1) := dgq (p := 8) daL_law_901 dbL_law_901.2.2.2.2.2.2.2.1
theorem dL_law_910 : decode cL_law 910 = .ok (.aload_n 0, 1) := dgq (p := 9) daL_law_901 dbL_law_901.2.2.2.2.2.2.2.2.1
theorem dL_law_911 : decode cL_law 911 = .ok (.iload 5, 2) := dgq (p := 10) daL_law_901 dbL_law_901.2.2.2.2.2.2.2.2.2
def dsL_law_913 : ByteArray := ⟨#[7, 96, 46, 182, 1, 18, 54, 7, 167, 7, 211, 43, 42, 21, 5, 4]⟩
theorem daL_law_913 : agB cL_law dsL_law_913 913 := agB_of (n := 16) (by decide +kernel)
theorem dbL_law_913 : (decode dsL_law_913 0 = .ok (.iconst 4, 1) ∧ okop dsL_law_913 0 = true) ∧ (decode dsL_law_913 1 = .ok (.iadd, 1) ∧ okop dsL_law_913 1 = true) ∧ (decode dsL_law_913 2 = .ok (.iaload, 1) ∧ okop dsL_law_913 2 = true) ∧ (decode dsL_law_913 3 = .ok (.invokevirtual 274, 3) ∧ okop dsL_law_913 3 = true) ∧ (decode dsL_law_913 6 = .ok (.istore 7, 2) ∧ okop dsL_law_913 6 = true) ∧ (decode dsL_law_913 8 = .ok (.goto 2003, 3) ∧ okop dsL_law_913 8 = true) ∧ (decode dsL_law_913 11 = .ok (.aload_n 1, 1) ∧ okop dsL_law_913 11 = true) ∧ (decode dsL_law_913 12 = .ok (.aload_n 0, 1) ∧ okop dsL_law_913 12 = true) ∧ (decode dsL_law_913 13 = .ok (.iload 5, 2) ∧ okop dsL_law_913 13 = true) ∧ (decode dsL_law_913 15 = .ok (.iconst 1, 1) ∧ okop dsL_law_913 15 = true) := by decide +kernel
theorem dL_law_913 : decode cL_law 913 = .ok (.iconst 4, 1) := dgq (p := 0) daL_law_913 dbL_law_913.1
theorem dL_law_914 : decode cL_law 914 = .ok (.iadd, 1) := dgq (p := 1) daL_law_913 dbL_law_913.2.1
theorem dL_law_915 : decode cL_law 915 = .ok (.iaload, 1) := dgq (p := 2) daL_law_913 dbL_law_913.2.2.1
theorem dL_law_916 : decode cL_law 916 = .ok (.invokevirtual 274, 3) := dgq (p := 3) daL_law_913 dbL_law_913.2.2.2.1
theorem dL_law_919 : decode cL_law 919 = .ok (.istore 7, 2) := dgq (p := 6) daL_law_913 dbL_law_913.2.2.2.2.1
theorem dL_law_921 : decode cL_law 921 = .ok (.goto 2003, 3) := dgq (p := 8) daL_law_913 dbL_law_913.2.2.2.2.2.1
theorem dL_law_924 : decode cL_law 924 = .ok (.aload_n 1, 1) := dgq (p := 11) daL_law_913 dbL_law_913.2.2.2.2.2.2.1
theorem dL_law_925 : decode cL_law 925 = .ok (.aload_n 0, 1) := dgq (p := 12) daL_law_913 dbL_law_913.2.2.2.2.2.2.2.1
theorem dL_law_926 : decode cL_law 926 = .ok (.iload 5, 2) := dgq (p := 13) daL_law_913 dbL_law_913.2.2.2.2.2.2.2.2.1
theorem dL_law_928 : decode cL_law 928 = .ok (.iconst 1, 1) := dgq (p := 15) daL_law_913 dbL_law_913.2.2.2.2.2.2.2.2.2
def dsL_law_929 : ByteArray := ⟨#[96, 46, 42, 21, 5, 5, 96, 46, 42, 21, 5, 6]⟩
theorem daL_law_929 : agB cL_law dsL_law_929 929 := agB_of (n := 12) (by decide +kernel)
theorem dbL_law_929 : (decode dsL_law_929 0 = .ok (.iadd, 1) ∧ okop dsL_law_929 0 = true) ∧ (decode dsL_law_929 1 = .ok (.iaload, 1) ∧ okop dsL_law_929 1 = true) ∧ (decode dsL_law_929 2 = .ok (.aload_n 0, 1) ∧ okop dsL_law_929 2 = true) ∧ (decode dsL_law_929 3 = .ok (.iload 5, 2) ∧ okop dsL_law_929 3 = true) ∧ (decode dsL_law_929 5 = .ok (.iconst 2, 1) ∧ okop dsL_law_929 5 = true) ∧ (decode dsL_law_929 6 = .ok (.iadd, 1) ∧ okop dsL_law_929 6 = true) ∧ (decode dsL_law_929 7 = .ok (.iaload, 1) ∧ okop dsL_law_929 7 = true) ∧ (decode dsL_law_929 8 = .ok (.aload_n 0, 1) ∧ okop dsL_law_929 8 = true) ∧ (decode dsL_law_929 9 = .ok (.iload 5, 2) ∧ okop dsL_law_929 9 = true) ∧ (decode dsL_law_929 11 = .ok (.iconst 3, 1) ∧ okop dsL_law_929 11 = true) := by decide +kernel
theorem dL_law_929 : decode cL_law 929 = .ok (.iadd, 1) := dgq (p := 0) daL_law_929 dbL_law_929.1
theorem dL_law_930 : decode cL_law 930 = .ok (.iaload, 1) := dgq (p := 1) daL_law_929 dbL_law_929.2.1
theorem dL_law_931 : decode cL_law 931 = .ok (.aload_n 0, 1) := dgq (p := 2) daL_law_929 dbL_law_929.2.2.1
theorem dL_law_932 : decode cL_law 932 = .ok (.iload 5, 2) := dgq (p := 3) daL_law_929 dbL_law_929.2.2.2.1
theorem dL_law_934 : decode cL_law 934 = .ok (.iconst 2, 1) := dgq (p := 5) daL_law_929 dbL_law_929.2.2.2.2.1
theorem dL_law_935 : decode cL_law 935 = .ok (.iadd, 1) := dgq (p := 6) daL_law_929 dbL_law_929.2.2.2.2.2.1
theorem dL_law_936 : decode cL_law 936 = .ok (.iaload, 1) := dgq (p := 7) daL_law_929 dbL_law_929.2.2.2.2.2.2.1
theorem dL_law_937 : decode cL_law 937 = .ok (.aload_n 0, 1) := dgq (p := 8) daL_law_929 dbL_law_929.2.2.2.2.2.2.2.1
theorem dL_law_938 : decode cL_law 938 = .ok (.iload 5, 2) := dgq (p := 9) daL_law_929 dbL_law_929.2.2.2.2.2.2.2.2.1
theorem dL_law_940 : decode cL_law 940 = .ok (.iconst 3, 1) := dgq (p := 11) daL_law_929 dbL_law_929.2.2.2.2.2.2.2.2.2
def dsL_law_941 : ByteArray := ⟨#[96, 46, 42, 21, 5, 7, 96, 46, 45, 184, 1, 19, 54, 6]⟩
theorem daL_law_941 : agB cL_law dsL_law_941 941 := agB_of (n := 14) (by decide +kernel)
theorem dbL_law_941 : (decode dsL_law_941 0 = .ok (.iadd, 1) ∧ okop dsL_law_941 0 = true) ∧ (decode dsL_law_941 1 = .ok (.iaload, 1) ∧ okop dsL_law_941 1 = true) ∧ (decode dsL_law_941 2 = .ok (.aload_n 0, 1) ∧ okop dsL_law_941 2 = true) ∧ (decode dsL_law_941 3 = .ok (.iload 5, 2) ∧ okop dsL_law_941 3 = true) ∧ (decode dsL_law_941 5 = .ok (.iconst 4, 1) ∧ okop dsL_law_941 5 = true) ∧ (decode dsL_law_941 6 = .ok (.iadd, 1) ∧ okop dsL_law_941 6 = true) ∧ (decode dsL_law_941 7 = .ok (.iaload, 1) ∧ okop dsL_law_941 7 = true) ∧ (decode dsL_law_941 8 = .ok (.aload_n 3, 1) ∧ okop dsL_law_941 8 = true) ∧ (decode dsL_law_941 9 = .ok (.invokestatic 275, 3) ∧ okop dsL_law_941 9 = true) ∧ (decode dsL_law_941 12 = .ok (.istore 6, 2) ∧ okop dsL_law_941 12 = true) := by decide +kernel
theorem dL_law_941 : decode cL_law 941 = .ok (.iadd, 1) := dgq (p := 0) daL_law_941 dbL_law_941.1
theorem dL_law_942 : decode cL_law 942 = .ok (.iaload, 1) := dgq (p := 1) daL_law_941 dbL_law_941.2.1
theorem dL_law_943 : decode cL_law 943 = .ok (.aload_n 0, 1) := dgq (p := 2) daL_law_941 dbL_law_941.2.2.1
theorem dL_law_944 : decode cL_law 944 = .ok (.iload 5, 2) := dgq (p := 3) daL_law_941 dbL_law_941.2.2.2.1
theorem dL_law_946 : decode cL_law 946 = .ok (.iconst 4, 1) := dgq (p := 5) daL_law_941 dbL_law_941.2.2.2.2.1
theorem dL_law_947 : decode cL_law 947 = .ok (.iadd, 1) := dgq (p := 6) daL_law_941 dbL_law_941.2.2.2.2.2.1
theorem dL_law_948 : decode cL_law 948 = .ok (.iaload, 1) := dgq (p := 7) daL_law_941 dbL_law_941.2.2.2.2.2.2.1
theorem dL_law_949 : decode cL_law 949 = .ok (.aload_n 3, 1) := dgq (p := 8) daL_law_941 dbL_law_941.2.2.2.2.2.2.2.1
theorem dL_law_950 : decode cL_law 950 = .ok (.invokestatic 275, 3) := dgq (p := 9) daL_law_941 dbL_law_941.2.2.2.2.2.2.2.2.1
theorem dL_law_953 : decode cL_law 953 = .ok (.istore 6, 2) := dgq (p := 12) daL_law_941 dbL_law_941.2.2.2.2.2.2.2.2.2
def dsL_law_955 : ByteArray := ⟨#[44, 42, 21, 5, 4, 96, 46, 42, 21, 5, 5, 96]⟩
theorem daL_law_955 : agB cL_law dsL_law_955 955 := agB_of (n := 12) (by decide +kernel)
theorem dbL_law_955 : (decode dsL_law_955 0 = .ok (.aload_n 2, 1) ∧ okop dsL_law_955 0 = true) ∧ (decode dsL_law_955 1 = .ok (.aload_n 0, 1) ∧ okop dsL_law_955 1 = true) ∧ (decode dsL_law_955 2 = .ok (.iload 5, 2) ∧ okop dsL_law_955 2 = true) ∧ (decode dsL_law_955 4 = .ok (.iconst 1, 1) ∧ okop dsL_law_955 4 = true) ∧ (decode dsL_law_955 5 = .ok (.iadd, 1) ∧ okop dsL_law_955 5 = true) ∧ (decode dsL_law_955 6 = .ok (.iaload, 1) ∧ okop dsL_law_955 6 = true) ∧ (decode dsL_law_955 7 = .ok (.aload_n 0, 1) ∧ okop dsL_law_955 7 = true) ∧ (decode dsL_law_955 8 = .ok (.iload 5, 2) ∧ okop dsL_law_955 8 = true) ∧ (decode dsL_law_955 10 = .ok (.iconst 2, 1) ∧ okop dsL_law_955 10 = true) ∧ (decode dsL_law_955 11 = .ok (.iadd, 1) ∧ okop dsL_law_955 11 = true) := by decide +kernel
theorem dL_law_955 : decode cL_law 955 = .ok (.aload_n 2, 1) := dgq (p := 0) daL_law_955 dbL_law_955.1
theorem dL_law_956 : decode cL_law 956 = .ok (.aload_n 0, 1) := dgq (p := 1) daL_law_955 dbL_law_955.2.1
theorem dL_law_957 : decode cL_law 957 = .ok (.iload 5, 2) := dgq (p := 2) daL_law_955 dbL_law_955.2.2.1
theorem dL_law_959 : decode cL_law 959 = .ok (.iconst 1, 1) := dgq (p := 4) daL_law_955 dbL_law_955.2.2.2.1
theorem dL_law_960 : decode cL_law 960 = .ok (.iadd, 1) := dgq (p := 5) daL_law_955 dbL_law_955.2.2.2.2.1
theorem dL_law_961 : decode cL_law 961 = .ok (.iaload, 1) := dgq (p := 6) daL_law_955 dbL_law_955.2.2.2.2.2.1
theorem dL_law_962 : decode cL_law 962 = .ok (.aload_n 0, 1) := dgq (p := 7) daL_law_955 dbL_law_955.2.2.2.2.2.2.1
theorem dL_law_963 : decode cL_law 963 = .ok (.iload 5, 2) := dgq (p := 8) daL_law_955 dbL_law_955.2.2.2.2.2.2.2.1
theorem dL_law_965 : decode cL_law 965 = .ok (.iconst 2, 1) := dgq (p := 10) daL_law_955 dbL_law_955.2.2.2.2.2.2.2.2.1
theorem dL_law_966 : decode cL_law 966 = .ok (.iadd, 1) := dgq (p := 11) daL_law_955 dbL_law_955.2.2.2.2.2.2.2.2.2
def dsL_law_967 : ByteArray := ⟨#[46, 42, 21, 5, 6, 96, 46, 42, 21, 5, 7, 96]⟩
theorem daL_law_967 : agB cL_law dsL_law_967 967 := agB_of (n := 12) (by decide +kernel)
theorem dbL_law_967 : (decode dsL_law_967 0 = .ok (.iaload, 1) ∧ okop dsL_law_967 0 = true) ∧ (decode dsL_law_967 1 = .ok (.aload_n 0, 1) ∧ okop dsL_law_967 1 = true) ∧ (decode dsL_law_967 2 = .ok (.iload 5, 2) ∧ okop dsL_law_967 2 = true) ∧ (decode dsL_law_967 4 = .ok (.iconst 3, 1) ∧ okop dsL_law_967 4 = true) ∧ (decode dsL_law_967 5 = .ok (.iadd, 1) ∧ okop dsL_law_967 5 = true) ∧ (decode dsL_law_967 6 = .ok (.iaload, 1) ∧ okop dsL_law_967 6 = true) ∧ (decode dsL_law_967 7 = .ok (.aload_n 0, 1) ∧ okop dsL_law_967 7 = true) ∧ (decode dsL_law_967 8 = .ok (.iload 5, 2) ∧ okop dsL_law_967 8 = true) ∧ (decode dsL_law_967 10 = .ok (.iconst 4, 1) ∧ okop dsL_law_967 10 = true) ∧ (decode dsL_law_967 11 = .ok (.iadd, 1) ∧ okop dsL_law_967 11 = true) := by decide +kernel
theorem dL_law_967 : decode cL_law 967 = .ok (.iaload, 1) := dgq (p := 0) daL_law_967 dbL_law_967.1
theorem dL_law_968 : decode cL_law 968 = .ok (.aload_n 0, 1) := dgq (p := 1) daL_law_967 dbL_law_967.2.1
theorem dL_law_969 : decode cL_law 969 = .ok (.iload 5, 2) := dgq (p := 2) daL_law_967 dbL_law_967.2.2.1
theorem dL_law_971 : decode cL_law 971 = .ok (.iconst 3, 1) := dgq (p := 4) daL_law_967 dbL_law_967.2.2.2.1
theorem dL_law_972 : decode cL_law 972 = .ok (.iadd, 1) := dgq (p := 5) daL_law_967 dbL_law_967.2.2.2.2.1
theorem dL_law_973 : decode cL_law 973 = .ok (.iaload, 1) := dgq (p := 6) daL_law_967 dbL_law_967.2.2.2.2.2.1
theorem dL_law_974 : decode cL_law 974 = .ok (.aload_n 0, 1) := dgq (p := 7) daL_law_967 dbL_law_967.2.2.2.2.2.2.1
theorem dL_law_975 : decode cL_law 975 = .ok (.iload 5, 2) := dgq (p := 8) daL_law_967 dbL_law_967.2.2.2.2.2.2.2.1
theorem dL_law_977 : decode cL_law 977 = .ok (.iconst 4, 1) := dgq (p := 10) daL_law_967 dbL_law_967.2.2.2.2.2.2.2.2.1
theorem dL_law_978 : decode cL_law 978 = .ok (.iadd, 1) := dgq (p := 11) daL_law_967 dbL_law_967.2.2.2.2.2.2.2.2.2
def dsL_law_979 : ByteArray := ⟨#[46, 182, 1, 21, 54, 7, 167, 7, 147, 43, 42, 21, 5, 4, 96, 46]⟩
theorem daL_law_979 : agB cL_law dsL_law_979 979 := agB_of (n := 16) (by decide +kernel)
theorem dbL_law_979 : (decode dsL_law_979 0 = .ok (.iaload, 1) ∧ okop dsL_law_979 0 = true) ∧ (decode dsL_law_979 1 = .ok (.invokevirtual 277, 3) ∧ okop dsL_law_979 1 = true) ∧ (decode dsL_law_979 4 = .ok (.istore 7, 2) ∧ okop dsL_law_979 4 = true) ∧ (decode dsL_law_979 6 = .ok (.goto 1939, 3) ∧ okop dsL_law_979 6 = true) ∧ (decode dsL_law_979 9 = .ok (.aload_n 1, 1) ∧ okop dsL_law_979 9 = true) ∧ (decode dsL_law_979 10 = .ok (.aload_n 0, 1) ∧ okop dsL_law_979 10 = true) ∧ (decode dsL_law_979 11 = .ok (.iload 5, 2) ∧ okop dsL_law_979 11 = true) ∧ (decode dsL_law_979 13 = .ok (.iconst 1, 1) ∧ okop dsL_law_979 13 = true) ∧ (decode dsL_law_979 14 = .ok (.iadd, 1) ∧ okop dsL_law_979 14 = true) ∧ (decode dsL_law_979 15 = .ok (.iaload, 1) ∧ okop dsL_law_979 15 = true) := by decide +kernel
theorem dL_law_979 : decode cL_law 979 = .ok (.iaload, 1) := dgq (p := 0) daL_law_979 dbL_law_979.1
theorem dL_law_980 : decode cL_law 980 = .ok (.invokevirtual 277, 3) := dgq (p := 1) daL_law_979 dbL_law_979.2.1
theorem dL_law_983 : decode cL_law 983 = .ok (.istore 7, 2) := dgq (p := 4) daL_law_979 dbL_law_979.2.2.1
theorem dL_law_985 : decode cL_law 985 = .ok (.goto 1939, 3) := dgq (p := 6) daL_law_979 dbL_law_979.2.2.2.1
theorem dL_law_988 : decode cL_law 988 = .ok (.aload_n 1, 1) := dgq (p := 9) daL_law_979 dbL_law_979.2.2.2.2.1
theorem dL_law_989 : decode cL_law 989 = .ok (.aload_n 0, 1) := dgq (p := 10) daL_law_979 dbL_law_979.2.2.2.2.2.1
theorem dL_law_990 : decode cL_law 990 = .ok (.iload 5, 2) := dgq (p := 11) daL_law_979 dbL_law_979.2.2.2.2.2.2.1
theorem dL_law_992 : decode cL_law 992 = .ok (.iconst 1, 1) := dgq (p := 13) daL_law_979 dbL_law_979.2.2.2.2.2.2.2.1
theorem dL_law_993 : decode cL_law 993 = .ok (.iadd, 1) := dgq (p := 14) daL_law_979 dbL_law_979.2.2.2.2.2.2.2.2.1
theorem dL_law_994 : decode cL_law 994 = .ok (.iaload, 1) := dgq (p := 15) daL_law_979 dbL_law_979.2.2.2.2.2.2.2.2.2
def dsL_law_995 : ByteArray := ⟨#[42, 21, 5, 5, 96, 46, 42, 21, 5, 6, 96, 46]⟩
theorem daL_law_995 : agB cL_law dsL_law_995 995 := agB_of (n := 12) (by decide +kernel)
theorem dbL_law_995 : (decode dsL_law_995 0 = .ok (.aload_n 0, 1) ∧ okop dsL_law_995 0 = true) ∧ (decode dsL_law_995 1 = .ok (.iload 5, 2) ∧ okop dsL_law_995 1 = true) ∧ (decode dsL_law_995 3 = .ok (.iconst 2, 1) ∧ okop dsL_law_995 3 = true) ∧ (decode dsL_law_995 4 = .ok (.iadd, 1) ∧ okop dsL_law_995 4 = true) ∧ (decode dsL_law_995 5 = .ok (.iaload, 1) ∧ okop dsL_law_995 5 = true) ∧ (decode dsL_law_995 6 = .ok (.aload_n 0, 1) ∧ okop dsL_law_995 6 = true) ∧ (decode dsL_law_995 7 = .ok (.iload 5, 2) ∧ okop dsL_law_995 7 = true) ∧ (decode dsL_law_995 9 = .ok (.iconst 3, 1) ∧ okop dsL_law_995 9 = true) ∧ (decode dsL_law_995 10 = .ok (.iadd, 1) ∧ okop dsL_law_995 10 = true) ∧ (decode dsL_law_995 11 = .ok (.iaload, 1) ∧ okop dsL_law_995 11 = true) := by decide +kernel
theorem dL_law_995 : decode cL_law 995 = .ok (.aload_n 0, 1) := dgq (p := 0) daL_law_995 dbL_law_995.1
theorem dL_law_996 : decode cL_law 996 = .ok (.iload 5, 2) := dgq (p := 1) daL_law_995 dbL_law_995.2.1
theorem dL_law_998 : decode cL_law 998 = .ok (.iconst 2, 1) := dgq (p := 3) daL_law_995 dbL_law_995.2.2.1
theorem dL_law_999 : decode cL_law 999 = .ok (.iadd, 1) := dgq (p := 4) daL_law_995 dbL_law_995.2.2.2.1
theorem dL_law_1000 : decode cL_law 1000 = .ok (.iaload, 1) := dgq (p := 5) daL_law_995 dbL_law_995.2.2.2.2.1
theorem dL_law_1001 : decode cL_law 1001 = .ok (.aload_n 0, 1) := dgq (p := 6) daL_law_995 dbL_law_995.2.2.2.2.2.1
theorem dL_law_1002 : decode cL_law 1002 = .ok (.iload 5, 2) := dgq (p := 7) daL_law_995 dbL_law_995.2.2.2.2.2.2.1
theorem dL_law_1004 : decode cL_law 1004 = .ok (.iconst 3, 1) := dgq (p := 9) daL_law_995 dbL_law_995.2.2.2.2.2.2.2.1
theorem dL_law_1005 : decode cL_law 1005 = .ok (.iadd, 1) := dgq (p := 10) daL_law_995 dbL_law_995.2.2.2.2.2.2.2.2.1
theorem dL_law_1006 : decode cL_law 1006 = .ok (.iaload, 1) := dgq (p := 11) daL_law_995 dbL_law_995.2.2.2.2.2.2.2.2.2
def dsL_law_1007 : ByteArray := ⟨#[45, 184, 1, 22, 54, 6, 44, 42, 21, 5, 4, 96, 46, 42]⟩
theorem daL_law_1007 : agB cL_law dsL_law_1007 1007 := agB_of (n := 14) (by decide +kernel)
theorem dbL_law_1007 : (decode dsL_law_1007 0 = .ok (.aload_n 3, 1) ∧ okop dsL_law_1007 0 = true) ∧ (decode dsL_law_1007 1 = .ok (.invokestatic 278, 3) ∧ okop dsL_law_1007 1 = true) ∧ (decode dsL_law_1007 4 = .ok (.istore 6, 2) ∧ okop dsL_law_1007 4 = true) ∧ (decode dsL_law_1007 6 = .ok (.aload_n 2, 1) ∧ okop dsL_law_1007 6 = true) ∧ (decode dsL_law_1007 7 = .ok (.aload_n 0, 1) ∧ okop dsL_law_1007 7 = true) ∧ (decode dsL_law_1007 8 = .ok (.iload 5, 2) ∧ okop dsL_law_1007 8 = true) ∧ (decode dsL_law_1007 10 = .ok (.iconst 1, 1) ∧ okop dsL_law_1007 10 = true) ∧ (decode dsL_law_1007 11 = .ok (.iadd, 1) ∧ okop dsL_law_1007 11 = true) ∧ (decode dsL_law_1007 12 = .ok (.iaload, 1) ∧ okop dsL_law_1007 12 = true) ∧ (decode dsL_law_1007 13 = .ok (.aload_n 0, 1) ∧ okop dsL_law_1007 13 = true) := by decide +kernel
theorem dL_law_1007 : decode cL_law 1007 = .ok (.aload_n 3, 1) := dgq (p := 0) daL_law_1007 dbL_law_1007.1
theorem dL_law_1008 : decode cL_law 1008 = .ok (.invokestatic 278, 3) := dgq (p := 1) daL_law_1007 dbL_law_1007.2.1
theorem dL_law_1011 : decode cL_law 1011 = .ok (.istore 6, 2) := dgq (p := 4) daL_law_1007 dbL_law_1007.2.2.1
theorem dL_law_1013 : decode cL_law 1013 = .ok (.aload_n 2, 1) := dgq (p := 6) daL_law_1007 dbL_law_1007.2.2.2.1
theorem dL_law_1014 : decode cL_law 1014 = .ok (.aload_n 0, 1) := dgq (p := 7) daL_law_1007 dbL_law_1007.2.2.2.2.1
theorem dL_law_1015 : decode cL_law 1015 = .ok (.iload 5, 2) := dgq (p := 8) daL_law_1007 dbL_law_1007.2.2.2.2.2.1
theorem dL_law_1017 : decode cL_law 1017 = .ok (.iconst 1, 1) := dgq (p := 10) daL_law_1007 dbL_law_1007.2.2.2.2.2.2.1
theorem dL_law_1018 : decode cL_law 1018 = .ok (.iadd, 1) := dgq (p := 11) daL_law_1007 dbL_law_1007.2.2.2.2.2.2.2.1
theorem dL_law_1019 : decode cL_law 1019 = .ok (.iaload, 1) := dgq (p := 12) daL_law_1007 dbL_law_1007.2.2.2.2.2.2.2.2.1
theorem dL_law_1020 : decode cL_law 1020 = .ok (.aload_n 0, 1) := dgq (p := 13) daL_law_1007 dbL_law_1007.2.2.2.2.2.2.2.2.2
def dsL_law_1021 : ByteArray := ⟨#[21, 5, 5, 96, 46, 42, 21, 5, 6, 96, 46, 182, 1, 25]⟩
theorem daL_law_1021 : agB cL_law dsL_law_1021 1021 := agB_of (n := 14) (by decide +kernel)
theorem dbL_law_1021 : (decode dsL_law_1021 0 = .ok (.iload 5, 2) ∧ okop dsL_law_1021 0 = true) ∧ (decode dsL_law_1021 2 = .ok (.iconst 2, 1) ∧ okop dsL_law_1021 2 = true) ∧ (decode dsL_law_1021 3 = .ok (.iadd, 1) ∧ okop dsL_law_1021 3 = true) ∧ (decode dsL_law_1021 4 = .ok (.iaload, 1) ∧ okop dsL_law_1021 4 = true) ∧ (decode dsL_law_1021 5 = .ok (.aload_n 0, 1) ∧ okop dsL_law_1021 5 = true) ∧ (decode dsL_law_1021 6 = .ok (.iload 5, 2) ∧ okop dsL_law_1021 6 = true) ∧ (decode dsL_law_1021 8 = .ok (.iconst 3, 1) ∧ okop dsL_law_1021 8 = true) ∧ (decode dsL_law_1021 9 = .ok (.iadd, 1) ∧ okop dsL_law_1021 9 = true) ∧ (decode dsL_law_1021 10 = .ok (.iaload, 1) ∧ okop dsL_law_1021 10 = true) ∧ (decode dsL_law_1021 11 = .ok (.invokevirtual 281, 3) ∧ okop dsL_law_1021 11 = true) := by decide +kernel
theorem dL_law_1021 : decode cL_law 1021 = .ok (.iload 5, 2) := dgq (p := 0) daL_law_1021 dbL_law_1021.1
theorem dL_law_1023 : decode cL_law 1023 = .ok (.iconst 2, 1) := dgq (p := 2) daL_law_1021 dbL_law_1021.2.1
theorem dL_law_1024 : decode cL_law 1024 = .ok (.iadd, 1) := dgq (p := 3) daL_law_1021 dbL_law_1021.2.2.1
theorem dL_law_1025 : decode cL_law 1025 = .ok (.iaload, 1) := dgq (p := 4) daL_law_1021 dbL_law_1021.2.2.2.1
theorem dL_law_1026 : decode cL_law 1026 = .ok (.aload_n 0, 1) := dgq (p := 5) daL_law_1021 dbL_law_1021.2.2.2.2.1
theorem dL_law_1027 : decode cL_law 1027 = .ok (.iload 5, 2) := dgq (p := 6) daL_law_1021 dbL_law_1021.2.2.2.2.2.1
theorem dL_law_1029 : decode cL_law 1029 = .ok (.iconst 3, 1) := dgq (p := 8) daL_law_1021 dbL_law_1021.2.2.2.2.2.2.1
theorem dL_law_1030 : decode cL_law 1030 = .ok (.iadd, 1) := dgq (p := 9) daL_law_1021 dbL_law_1021.2.2.2.2.2.2.2.1
theorem dL_law_1031 : decode cL_law 1031 = .ok (.iaload, 1) := dgq (p := 10) daL_law_1021 dbL_law_1021.2.2.2.2.2.2.2.2.1
theorem dL_law_1032 : decode cL_law 1032 = .ok (.invokevirtual 281, 3) := dgq (p := 11) daL_law_1021 dbL_law_1021.2.2.2.2.2.2.2.2.2
def dsL_law_1035 : ByteArray := ⟨#[54, 7, 167, 7, 95, 43, 42, 21, 5, 4, 96, 46, 42, 21, 5]⟩
theorem daL_law_1035 : agB cL_law dsL_law_1035 1035 := agB_of (n := 15) (by decide +kernel)
theorem dbL_law_1035 : (decode dsL_law_1035 0 = .ok (.istore 7, 2) ∧ okop dsL_law_1035 0 = true) ∧ (decode dsL_law_1035 2 = .ok (.goto 1887, 3) ∧ okop dsL_law_1035 2 = true) ∧ (decode dsL_law_1035 5 = .ok (.aload_n 1, 1) ∧ okop dsL_law_1035 5 = true) ∧ (decode dsL_law_1035 6 = .ok (.aload_n 0, 1) ∧ okop dsL_law_1035 6 = true) ∧ (decode dsL_law_1035 7 = .ok (.iload 5, 2) ∧ okop dsL_law_1035 7 = true) ∧ (decode dsL_law_1035 9 = .ok (.iconst 1, 1) ∧ okop dsL_law_1035 9 = true) ∧ (decode dsL_law_1035 10 = .ok (.iadd, 1) ∧ okop dsL_law_1035 10 = true) ∧ (decode dsL_law_1035 11 = .ok (.iaload, 1) ∧ okop dsL_law_1035 11 = true) ∧ (decode dsL_law_1035 12 = .ok (.aload_n 0, 1) ∧ okop dsL_law_1035 12 = true) ∧ (decode dsL_law_1035 13 = .ok (.iload 5, 2) ∧ okop dsL_law_1035 13 = true) := by decide +kernel
theorem dL_law_1035 : decode cL_law 1035 = .ok (.istore 7, 2) := dgq (p := 0) daL_law_1035 dbL_law_1035.1
theorem dL_law_1037 : decode cL_law 1037 = .ok (.goto 1887, 3) := dgq (p := 2) daL_law_1035 dbL_law_1035.2.1
theorem dL_law_1040 : decode cL_law 1040 = .ok (.aload_n 1, 1) := dgq (p := 5) daL_law_1035 dbL_law_1035.2.2.1
theorem dL_law_1041 : decode cL_law 1041 = .ok (.aload_n 0, 1) := dgq (p := 6) daL_law_1035 dbL_law_1035.2.2.2.1
theorem dL_law_1042 : decode cL_law 1042 = .ok (.iload 5, 2) := dgq (p := 7) daL_law_1035 dbL_law_1035.2.2.2.2.1
theorem dL_law_1044 : decode cL_law 1044 = .ok (.iconst 1, 1) := dgq (p := 9) daL_law_1035 dbL_law_1035.2.2.2.2.2.1
theorem dL_law_1045 : decode cL_law 1045 = .ok (.iadd, 1) := dgq (p := 10) daL_law_1035 dbL_law_1035.2.2.2.2.2.2.1
theorem dL_law_1046 : decode cL_law 1046 = .ok (.iaload, 1) := dgq (p := 11) daL_law_1035 dbL_law_1035.2.2.2.2.2.2.2.1
theorem dL_law_1047 : decode cL_law 1047 = .ok (.aload_n 0, 1) := dgq (p := 12) daL_law_1035 dbL_law_1035.2.2.2.2.2.2.2.2.1
theorem dL_law_1048 : decode cL_law 1048 = .ok (.iload 5, 2) := dgq (p := 13) daL_law_1035 dbL_law_1035.2.2.2.2.2.2.2.2.2
def dsL_law_1050 : ByteArray := ⟨#[5, 96, 46, 42, 21, 5, 6, 96, 46, 42, 21, 5]⟩
theorem daL_law_1050 : agB cL_law dsL_law_1050 1050 := agB_of (n := 12) (by decide +kernel)
theorem dbL_law_1050 : (decode dsL_law_1050 0 = .ok (.iconst 2, 1) ∧ okop dsL_law_1050 0 = true) ∧ (decode dsL_law_1050 1 = .ok (.iadd, 1) ∧ okop dsL_law_1050 1 = true) ∧ (decode dsL_law_1050 2 = .ok (.iaload, 1) ∧ okop dsL_law_1050 2 = true) ∧ (decode dsL_law_1050 3 = .ok (.aload_n 0, 1) ∧ okop dsL_law_1050 3 = true) ∧ (decode dsL_law_1050 4 = .ok (.iload 5, 2) ∧ okop dsL_law_1050 4 = true) ∧ (decode dsL_law_1050 6 = .ok (.iconst 3, 1) ∧ okop dsL_law_1050 6 = true) ∧ (decode dsL_law_1050 7 = .ok (.iadd, 1) ∧ okop dsL_law_1050 7 = true) ∧ (decode dsL_law_1050 8 = .ok (.iaload, 1) ∧ okop dsL_law_1050 8 = true) ∧ (decode dsL_law_1050 9 = .ok (.aload_n 0, 1) ∧ okop dsL_law_1050 9 = true) ∧ (decode dsL_law_1050 10 = .ok (.iload 5, 2) ∧ okop dsL_law_1050 10 = true) := by decide +kernel
theorem dL_law_1050 : decode cL_law 1050 = .ok (.iconst 2, 1) := dgq (p := 0) daL_law_1050 dbL_law_1050.1
theorem dL_law_1051 : decode cL_law 1051 = .ok (.iadd, 1) := dgq (p := 1) daL_law_1050 dbL_law_1050.2.1
theorem dL_law_1052 : decode cL_law 1052 = .ok (.iaload, 1) := dgq (p := 2) daL_law_1050 dbL_law_1050.2.2.1
theorem dL_law_1053 : decode cL_law 1053 = .ok (.aload_n 0, 1) := dgq (p := 3) daL_law_1050 dbL_law_1050.2.2.2.1
theorem dL_law_1054 : decode cL_law 1054 = .ok (.iload 5, 2) := dgq (p := 4) daL_law_1050 dbL_law_1050.2.2.2.2.1
theorem dL_law_1056 : decode cL_law 1056 = .ok (.iconst 3, 1) := dgq (p := 6) daL_law_1050 dbL_law_1050.2.2.2.2.2.1
theorem dL_law_1057 : decode cL_law 1057 = .ok (.iadd, 1) := dgq (p := 7) daL_law_1050 dbL_law_1050.2.2.2.2.2.2.1
theorem dL_law_1058 : decode cL_law 1058 = .ok (.iaload, 1) := dgq (p := 8) daL_law_1050 dbL_law_1050.2.2.2.2.2.2.2.1
theorem dL_law_1059 : decode cL_law 1059 = .ok (.aload_n 0, 1) := dgq (p := 9) daL_law_1050 dbL_law_1050.2.2.2.2.2.2.2.2.1
theorem dL_law_1060 : decode cL_law 1060 = .ok (.iload 5, 2) := dgq (p := 10) daL_law_1050 dbL_law_1050.2.2.2.2.2.2.2.2.2
def dsL_law_1062 : ByteArray := ⟨#[7, 96, 46, 45, 184, 1, 26, 54, 6, 44, 42, 21, 5, 4]⟩
theorem daL_law_1062 : agB cL_law dsL_law_1062 1062 := agB_of (n := 14) (by decide +kernel)
theorem dbL_law_1062 : (decode dsL_law_1062 0 = .ok (.iconst 4, 1) ∧ okop dsL_law_1062 0 = true) ∧ (decode dsL_law_1062 1 = .ok (.iadd, 1) ∧ okop dsL_law_1062 1 = true) ∧ (decode dsL_law_1062 2 = .ok (.iaload, 1) ∧ okop dsL_law_1062 2 = true) ∧ (decode dsL_law_1062 3 = .ok (.aload_n 3, 1) ∧ okop dsL_law_1062 3 = true) ∧ (decode dsL_law_1062 4 = .ok (.invokestatic 282, 3) ∧ okop dsL_law_1062 4 = true) ∧ (decode dsL_law_1062 7 = .ok (.istore 6, 2) ∧ okop dsL_law_1062 7 = true) ∧ (decode dsL_law_1062 9 = .ok (.aload_n 2, 1) ∧ okop dsL_law_1062 9 = true) ∧ (decode dsL_law_1062 10 = .ok (.aload_n 0, 1) ∧ okop dsL_law_1062 10 = true) ∧ (decode dsL_law_1062 11 = .ok (.iload 5, 2) ∧ okop dsL_law_1062 11 = true) ∧ (decode dsL_law_1062 13 = .ok (.iconst 1, 1) ∧ okop dsL_law_1062 13 = true) := by decide +kernel
theorem dL_law_1062 : decode cL_law 1062 = .ok (.iconst 4, 1) := dgq (p := 0) daL_law_1062 dbL_law_1062.1
theorem dL_law_1063 : decode cL_law 1063 = .ok (.iadd, 1) := dgq (p := 1) daL_law_1062 dbL_law_1062.2.1
theorem dL_law_1064 : decode cL_law 1064 = .ok (.iaload, 1) := dgq (p := 2) daL_law_1062 dbL_law_1062.2.2.1
theorem dL_law_1065 : decode cL_law 1065 = .ok (.aload_n 3, 1) := dgq (p := 3) daL_law_1062 dbL_law_1062.2.2.2.1
theorem dL_law_1066 : decode cL_law 1066 = .ok (.invokestatic 282, 3) := dgq (p := 4) daL_law_1062 dbL_law_1062.2.2.2.2.1
theorem dL_law_1069 : decode cL_law 1069 = .ok (.istore 6, 2) := dgq (p := 7) daL_law_1062 dbL_law_1062.2.2.2.2.2.1
theorem dL_law_1071 : decode cL_law 1071 = .ok (.aload_n 2, 1) := dgq (p := 9) daL_law_1062 dbL_law_1062.2.2.2.2.2.2.1
theorem dL_law_1072 : decode cL_law 1072 = .ok (.aload_n 0, 1) := dgq (p := 10) daL_law_1062 dbL_law_1062.2.2.2.2.2.2.2.1
theorem dL_law_1073 : decode cL_law 1073 = .ok (.iload 5, 2) := dgq (p := 11) daL_law_1062 dbL_law_1062.2.2.2.2.2.2.2.2.1
theorem dL_law_1075 : decode cL_law 1075 = .ok (.iconst 1, 1) := dgq (p := 13) daL_law_1062 dbL_law_1062.2.2.2.2.2.2.2.2.2
def dsL_law_1076 : ByteArray := ⟨#[96, 46, 42, 21, 5, 5, 96, 46, 42, 21, 5, 6]⟩
theorem daL_law_1076 : agB cL_law dsL_law_1076 1076 := agB_of (n := 12) (by decide +kernel)
theorem dbL_law_1076 : (decode dsL_law_1076 0 = .ok (.iadd, 1) ∧ okop dsL_law_1076 0 = true) ∧ (decode dsL_law_1076 1 = .ok (.iaload, 1) ∧ okop dsL_law_1076 1 = true) ∧ (decode dsL_law_1076 2 = .ok (.aload_n 0, 1) ∧ okop dsL_law_1076 2 = true) ∧ (decode dsL_law_1076 3 = .ok (.iload 5, 2) ∧ okop dsL_law_1076 3 = true) ∧ (decode dsL_law_1076 5 = .ok (.iconst 2, 1) ∧ okop dsL_law_1076 5 = true) ∧ (decode dsL_law_1076 6 = .ok (.iadd, 1) ∧ okop dsL_law_1076 6 = true) ∧ (decode dsL_law_1076 7 = .ok (.iaload, 1) ∧ okop dsL_law_1076 7 = true) ∧ (decode dsL_law_1076 8 = .ok (.aload_n 0, 1) ∧ okop dsL_law_1076 8 = true) ∧ (decode dsL_law_1076 9 = .ok (.iload 5, 2) ∧ okop dsL_law_1076 9 = true) ∧ (decode dsL_law_1076 11 = .ok (.iconst 3, 1) ∧ okop dsL_law_1076 11 = true) := by decide +kernel
theorem dL_law_1076 : decode cL_law 1076 = .ok (.iadd, 1) := dgq (p := 0) daL_law_1076 dbL_law_1076.1
theorem dL_law_1077 : decode cL_law 1077 = .ok (.iaload, 1) := dgq (p := 1) daL_law_1076 dbL_law_1076.2.1
theorem dL_law_1078 : decode cL_law 1078 = .ok (.aload_n 0, 1) := dgq (p := 2) daL_law_1076 dbL_law_1076.2.2.1
theorem dL_law_1079 : decode cL_law 1079 = .ok (.iload 5, 2) := dgq (p := 3) daL_law_1076 dbL_law_1076.2.2.2.1
theorem dL_law_1081 : decode cL_law 1081 = .ok (.iconst 2, 1) := dgq (p := 5) daL_law_1076 dbL_law_1076.2.2.2.2.1
theorem dL_law_1082 : decode cL_law 1082 = .ok (.iadd, 1) := dgq (p := 6) daL_law_1076 dbL_law_1076.2.2.2.2.2.1
theorem dL_law_1083 : decode cL_law 1083 = .ok (.iaload, 1) := dgq (p := 7) daL_law_1076 dbL_law_1076.2.2.2.2.2.2.1
theorem dL_law_1084 : decode cL_law 1084 = .ok (.aload_n 0, 1) := dgq (p := 8) daL_law_1076 dbL_law_1076.2.2.2.2.2.2.2.1
theorem dL_law_1085 : decode cL_law 1085 = .ok (.iload 5, 2) := dgq (p := 9) daL_law_1076 dbL_law_1076.2.2.2.2.2.2.2.2.1
theorem dL_law_1087 : decode cL_law 1087 = .ok (.iconst 3, 1) := dgq (p := 11) daL_law_1076 dbL_law_1076.2.2.2.2.2.2.2.2.2
def dsL_law_1088 : ByteArray := ⟨#[96, 46, 42, 21, 5, 7, 96, 46, 182, 1, 28, 54, 7, 167, 7, 31]⟩
theorem daL_law_1088 : agB cL_law dsL_law_1088 1088 := agB_of (n := 16) (by decide +kernel)
theorem dbL_law_1088 : (decode dsL_law_1088 0 = .ok (.iadd, 1) ∧ okop dsL_law_1088 0 = true) ∧ (decode dsL_law_1088 1 = .ok (.iaload, 1) ∧ okop dsL_law_1088 1 = true) ∧ (decode dsL_law_1088 2 = .ok (.aload_n 0, 1) ∧ okop dsL_law_1088 2 = true) ∧ (decode dsL_law_1088 3 = .ok (.iload 5, 2) ∧ okop dsL_law_1088 3 = true) ∧ (decode dsL_law_1088 5 = .ok (.iconst 4, 1) ∧ okop dsL_law_1088 5 = true) ∧ (decode dsL_law_1088 6 = .ok (.iadd, 1) ∧ okop dsL_law_1088 6 = true) ∧ (decode dsL_law_1088 7 = .ok (.iaload, 1) ∧ okop dsL_law_1088 7 = true) ∧ (decode dsL_law_1088 8 = .ok (.invokevirtual 284, 3) ∧ okop dsL_law_1088 8 = true) ∧ (decode dsL_law_1088 11 = .ok (.istore 7, 2) ∧ okop dsL_law_1088 11 = true) ∧ (decode dsL_law_1088 13 = .ok (.goto 1823, 3) ∧ okop dsL_law_1088 13 = true) := by decide +kernel
theorem dL_law_1088 : decode cL_law 1088 = .ok (.iadd, 1) := dgq (p := 0) daL_law_1088 dbL_law_1088.1
theorem dL_law_1089 : decode cL_law 1089 = .ok (.iaload, 1) := dgq (p := 1) daL_law_1088 dbL_law_1088.2.1
theorem dL_law_1090 : decode cL_law 1090 = .ok (.aload_n 0, 1) := dgq (p := 2) daL_law_1088 dbL_law_1088.2.2.1
theorem dL_law_1091 : decode cL_law 1091 = .ok (.iload 5, 2) := dgq (p := 3) daL_law_1088 dbL_law_1088.2.2.2.1
theorem dL_law_1093 : decode cL_law 1093 = .ok (.iconst 4, 1) := dgq (p := 5) daL_law_1088 dbL_law_1088.2.2.2.2.1
theorem dL_law_1094 : decode cL_law 1094 = .ok (.iadd, 1) := dgq (p := 6) daL_law_1088 dbL_law_1088.2.2.2.2.2.1
theorem dL_law_1095 : decode cL_law 1095 = .ok (.iaload, 1) := dgq (p := 7) daL_law_1088 dbL_law_1088.2.2.2.2.2.2.1
theorem dL_law_1096 : decode cL_law 1096 = .ok (.invokevirtual 284, 3) := dgq (p := 8) daL_law_1088 dbL_law_1088.2.2.2.2.2.2.2.1
theorem dL_law_1099 : decode cL_law 1099 = .ok (.istore 7, 2) := dgq (p := 11) daL_law_1088 dbL_law_1088.2.2.2.2.2.2.2.2.1
theorem dL_law_1101 : decode cL_law 1101 = .ok (.goto 1823, 3) := dgq (p := 13) daL_law_1088 dbL_law_1088.2.2.2.2.2.2.2.2.2
def dsL_law_1104 : ByteArray := ⟨#[43, 42, 21, 5, 4, 96, 46, 45, 184, 1, 29, 54, 6, 44]⟩
theorem daL_law_1104 : agB cL_law dsL_law_1104 1104 := agB_of (n := 14) (by decide +kernel)
theorem dbL_law_1104 : (decode dsL_law_1104 0 = .ok (.aload_n 1, 1) ∧ okop dsL_law_1104 0 = true) ∧ (decode dsL_law_1104 1 = .ok (.aload_n 0, 1) ∧ okop dsL_law_1104 1 = true) ∧ (decode dsL_law_1104 2 = .ok (.iload 5, 2) ∧ okop dsL_law_1104 2 = true) ∧ (decode dsL_law_1104 4 = .ok (.iconst 1, 1) ∧ okop dsL_law_1104 4 = true) ∧ (decode dsL_law_1104 5 = .ok (.iadd, 1) ∧ okop dsL_law_1104 5 = true) ∧ (decode dsL_law_1104 6 = .ok (.iaload, 1) ∧ okop dsL_law_1104 6 = true) ∧ (decode dsL_law_1104 7 = .ok (.aload_n 3, 1) ∧ okop dsL_law_1104 7 = true) ∧ (decode dsL_law_1104 8 = .ok (.invokestatic 285, 3) ∧ okop dsL_law_1104 8 = true) ∧ (decode dsL_law_1104 11 = .ok (.istore 6, 2) ∧ okop dsL_law_1104 11 = true) ∧ (decode dsL_law_1104 13 = .ok (.aload_n 2, 1) ∧ okop dsL_law_1104 13 = true) := by decide +kernel
theorem dL_law_1104 : decode cL_law 1104 = .ok (.aload_n 1, 1) := dgq (p := 0) daL_law_1104 dbL_law_1104.1
theorem dL_law_1105 : decode cL_law 1105 = .ok (.aload_n 0, 1) := dgq (p := 1) daL_law_1104 dbL_law_1104.2.1
theorem dL_law_1106 : decode cL_law 1106 = .ok (.iload 5, 2) := dgq (p := 2) daL_law_1104 dbL_law_1104.2.2.1
theorem dL_law_1108 : decode cL_law 1108 = .ok (.iconst 1, 1) := dgq (p := 4) daL_law_1104 dbL_law_1104.2.2.2.1
theorem dL_law_1109 : decode cL_law 1109 = .ok (.iadd, 1) := dgq (p := 5) daL_law_1104 dbL_law_1104.2.2.2.2.1
theorem dL_law_1110 : decode cL_law 1110 = .ok (.iaload, 1) := dgq (p := 6) daL_law_1104 dbL_law_1104.2.2.2.2.2.1
theorem dL_law_1111 : decode cL_law 1111 = .ok (.aload_n 3, 1) := dgq (p := 7) daL_law_1104 dbL_law_1104.2.2.2.2.2.2.1
theorem dL_law_1112 : decode cL_law 1112 = .ok (.invokestatic 285, 3) := dgq (p := 8) daL_law_1104 dbL_law_1104.2.2.2.2.2.2.2.1
theorem dL_law_1115 : decode cL_law 1115 = .ok (.istore 6, 2) := dgq (p := 11) daL_law_1104 dbL_law_1104.2.2.2.2.2.2.2.2.1
theorem dL_law_1117 : decode cL_law 1117 = .ok (.aload_n 2, 1) := dgq (p := 13) daL_law_1104 dbL_law_1104.2.2.2.2.2.2.2.2.2
def dsL_law_1118 : ByteArray := ⟨#[42, 21, 5, 4, 96, 46, 182, 1, 31, 54, 7, 167, 7, 3, 43, 42]⟩
theorem daL_law_1118 : agB cL_law dsL_law_1118 1118 := agB_of (n := 16) (by decide +kernel)
theorem dbL_law_1118 : (decode dsL_law_1118 0 = .ok (.aload_n 0, 1) ∧ okop dsL_law_1118 0 = true) ∧ (decode dsL_law_1118 1 = .ok (.iload 5, 2) ∧ okop dsL_law_1118 1 = true) ∧ (decode dsL_law_1118 3 = .ok (.iconst 1, 1) ∧ okop dsL_law_1118 3 = true) ∧ (decode dsL_law_1118 4 = .ok (.iadd, 1) ∧ okop dsL_law_1118 4 = true) ∧ (decode dsL_law_1118 5 = .ok (.iaload, 1) ∧ okop dsL_law_1118 5 = true) ∧ (decode dsL_law_1118 6 = .ok (.invokevirtual 287, 3) ∧ okop dsL_law_1118 6 = true) ∧ (decode dsL_law_1118 9 = .ok (.istore 7, 2) ∧ okop dsL_law_1118 9 = true) ∧ (decode dsL_law_1118 11 = .ok (.goto 1795, 3) ∧ okop dsL_law_1118 11 = true) ∧ (decode dsL_law_1118 14 = .ok (.aload_n 1, 1) ∧ okop dsL_law_1118 14 = true) ∧ (decode dsL_law_1118 15 = .ok (.aload_n 0, 1) ∧ okop dsL_law_1118 15 = true) := by decide +kernel
theorem dL_law_1118 : decode cL_law 1118 = .ok (.aload_n 0, 1) := dgq (p := 0) daL_law_1118 dbL_law_1118.1
theorem dL_law_1119 : decode cL_law 1119 = .ok (.iload 5, 2) := dgq (p := 1) daL_law_1118 dbL_law_1118.2.1
theorem dL_law_1121 : decode cL_law 1121 = .ok (.iconst 1, 1) := dgq (p := 3) daL_law_1118 dbL_law_1118.2.2.1
theorem dL_law_1122 : decode cL_law 1122 = .ok (.iadd, 1) := dgq (p := 4) daL_law_1118 dbL_law_1118.2.2.2.1
theorem dL_law_1123 : decode cL_law 1123 = .ok (.iaload, 1) := dgq (p := 5) daL_law_1118 dbL_law_1118.2.2.2.2.1
theorem dL_law_1124 : decode cL_law 1124 = .ok (.invokevirtual 287, 3) := dgq (p := 6) daL_law_1118 dbL_law_1118.2.2.2.2.2.1
theorem dL_law_1127 : decode cL_law 1127 = .ok (.istore 7, 2) := dgq (p := 9) daL_law_1118 dbL_law_1118.2.2.2.2.2.2.1
theorem dL_law_1129 : decode cL_law 1129 = .ok (.goto 1795, 3) := dgq (p := 11) daL_law_1118 dbL_law_1118.2.2.2.2.2.2.2.1
theorem dL_law_1132 : decode cL_law 1132 = .ok (.aload_n 1, 1) := dgq (p := 14) daL_law_1118 dbL_law_1118.2.2.2.2.2.2.2.2.1
theorem dL_law_1133 : decode cL_law 1133 = .ok (.aload_n 0, 1) := dgq (p := 15) daL_law_1118 dbL_law_1118.2.2.2.2.2.2.2.2.2
def dsL_law_1134 : ByteArray := ⟨#[21, 5, 4, 96, 46, 42, 21, 5, 5, 96, 46, 42]⟩
theorem daL_law_1134 : agB cL_law dsL_law_1134 1134 := agB_of (n := 12) (by decide +kernel)
theorem dbL_law_1134 : (decode dsL_law_1134 0 = .ok (.iload 5, 2) ∧ okop dsL_law_1134 0 = true) ∧ (decode dsL_law_1134 2 = .ok (.iconst 1, 1) ∧ okop dsL_law_1134 2 = true) ∧ (decode dsL_law_1134 3 = .ok (.iadd, 1) ∧ okop dsL_law_1134 3 = true) ∧ (decode dsL_law_1134 4 = .ok (.iaload, 1) ∧ okop dsL_law_1134 4 = true) ∧ (decode dsL_law_1134 5 = .ok (.aload_n 0, 1) ∧ okop dsL_law_1134 5 = true) ∧ (decode dsL_law_1134 6 = .ok (.iload 5, 2) ∧ okop dsL_law_1134 6 = true) ∧ (decode dsL_law_1134 8 = .ok (.iconst 2, 1) ∧ okop dsL_law_1134 8 = true) ∧ (decode dsL_law_1134 9 = .ok (.iadd, 1) ∧ okop dsL_law_1134 9 = true) ∧ (decode dsL_law_1134 10 = .ok (.iaload, 1) ∧ okop dsL_law_1134 10 = true) ∧ (decode dsL_law_1134 11 = .ok (.aload_n 0, 1) ∧ okop dsL_law_1134 11 = true) := by decide +kernel
theorem dL_law_1134 : decode cL_law 1134 = .ok (.iload 5, 2) := dgq (p := 0) daL_law_1134 dbL_law_1134.1
theorem dL_law_1136 : decode cL_law 1136 = .ok (.iconst 1, 1) := dgq (p := 2) daL_law_1134 dbL_law_1134.2.1
theorem dL_law_1137 : decode cL_law 1137 = .ok (.iadd, 1) := dgq (p := 3) daL_law_1134 dbL_law_1134.2.2.1
theorem dL_law_1138 : decode cL_law 1138 = .ok (.iaload, 1) := dgq (p := 4) daL_law_1134 dbL_law_1134.2.2.2.1
theorem dL_law_1139 : decode cL_law 1139 = .ok (.aload_n 0, 1) := dgq (p := 5) daL_law_1134 dbL_law_1134.2.2.2.2.1
theorem dL_law_1140 : decode cL_law 1140 = .ok (.iload 5, 2) := dgq (p := 6) daL_law_1134 dbL_law_1134.2.2.2.2.2.1
theorem dL_law_1142 : decode cL_law 1142 = .ok (.iconst 2, 1) := dgq (p := 8) daL_law_1134 dbL_law_1134.2.2.2.2.2.2.1
theorem dL_law_1143 : decode cL_law 1143 = .ok (.iadd, 1) := dgq (p := 9) daL_law_1134 dbL_law_1134.2.2.2.2.2.2.2.1
theorem dL_law_1144 : decode cL_law 1144 = .ok (.iaload, 1) := dgq (p := 10) daL_law_1134 dbL_law_1134.2.2.2.2.2.2.2.2.1
theorem dL_law_1145 : decode cL_law 1145 = .ok (.aload_n 0, 1) := dgq (p := 11) daL_law_1134 dbL_law_1134.2.2.2.2.2.2.2.2.2
def dsL_law_1146 : ByteArray := ⟨#[21, 5, 6, 96, 46, 45, 184, 1, 32, 54, 6, 44, 42, 21, 5]⟩
theorem daL_law_1146 : agB cL_law dsL_law_1146 1146 := agB_of (n := 15) (by decide +kernel)
theorem dbL_law_1146 : (decode dsL_law_1146 0 = .ok (.iload 5, 2) ∧ okop dsL_law_1146 0 = true) ∧ (decode dsL_law_1146 2 = .ok (.iconst 3, 1) ∧ okop dsL_law_1146 2 = true) ∧ (decode dsL_law_1146 3 = .ok (.iadd, 1) ∧ okop dsL_law_1146 3 = true) ∧ (decode dsL_law_1146 4 = .ok (.iaload, 1) ∧ okop dsL_law_1146 4 = true) ∧ (decode dsL_law_1146 5 = .ok (.aload_n 3, 1) ∧ okop dsL_law_1146 5 = true) ∧ (decode dsL_law_1146 6 = .ok (.invokestatic 288, 3) ∧ okop dsL_law_1146 6 = true) ∧ (decode dsL_law_1146 9 = .ok (.istore 6, 2) ∧ okop dsL_law_1146 9 = true) ∧ (decode dsL_law_1146 11 = .ok (.aload_n 2, 1) ∧ okop dsL_law_1146 11 = true) ∧ (decode dsL_law_1146 12 = .ok (.aload_n 0, 1) ∧ okop dsL_law_1146 12 = true) ∧ (decode dsL_law_1146 13 = .ok (.iload 5, 2) ∧ okop dsL_law_1146 13 = true) := by decide +kernel
theorem dL_law_1146 : decode cL_law 1146 = .ok (.iload 5, 2) := dgq (p := 0) daL_law_1146 dbL_law_1146.1
theorem dL_law_1148 : decode cL_law 1148 = .ok (.iconst 3, 1) := dgq (p := 2) daL_law_1146 dbL_law_1146.2.1
theorem dL_law_1149 : decode cL_law 1149 = .ok (.iadd, 1) := dgq (p := 3) daL_law_1146 dbL_law_1146.2.2.1
theorem dL_law_1150 : decode cL_law 1150 = .ok (.iaload, 1) := dgq (p := 4) daL_law_1146 dbL_law_1146.2.2.2.1
theorem dL_law_1151 : decode cL_law 1151 = .ok (.aload_n 3, 1) := dgq (p := 5) daL_law_1146 dbL_law_1146.2.2.2.2.1
theorem dL_law_1152 : decode cL_law 1152 = .ok (.invokestatic 288, 3) := dgq (p := 6) daL_law_1146 dbL_law_1146.2.2.2.2.2.1
theorem dL_law_1155 : decode cL_law 1155 = .ok (.istore 6, 2) := dgq (p := 9) daL_law_1146 dbL_law_1146.2.2.2.2.2.2.1
theorem dL_law_1157 : decode cL_law 1157 = .ok (.aload_n 2, 1) := dgq (p := 11) daL_law_1146 dbL_law_1146.2.2.2.2.2.2.2.1
theorem dL_law_1158 : decode cL_law 1158 = .ok (.aload_n 0, 1) := dgq (p := 12) daL_law_1146 dbL_law_1146.2.2.2.2.2.2.2.2.1
theorem dL_law_1159 : decode cL_law 1159 = .ok (.iload 5, 2) := dgq (p := 13) daL_law_1146 dbL_law_1146.2.2.2.2.2.2.2.2.2
def dsL_law_1161 : ByteArray := ⟨#[4, 96, 46, 42, 21, 5, 5, 96, 46, 42, 21, 5]⟩
theorem daL_law_1161 : agB cL_law dsL_law_1161 1161 := agB_of (n := 12) (by decide +kernel)
theorem dbL_law_1161 : (decode dsL_law_1161 0 = .ok (.iconst 1, 1) ∧ okop dsL_law_1161 0 = true) ∧ (decode dsL_law_1161 1 = .ok (.iadd, 1) ∧ okop dsL_law_1161 1 = true) ∧ (decode dsL_law_1161 2 = .ok (.iaload, 1) ∧ okop dsL_law_1161 2 = true) ∧ (decode dsL_law_1161 3 = .ok (.aload_n 0, 1) ∧ okop dsL_law_1161 3 = true) ∧ (decode dsL_law_1161 4 = .ok (.iload 5, 2) ∧ okop dsL_law_1161 4 = true) ∧ (decode dsL_law_1161 6 = .ok (.iconst 2, 1) ∧ okop dsL_law_1161 6 = true) ∧ (decode dsL_law_1161 7 = .ok (.iadd, 1) ∧ okop dsL_law_1161 7 = true) ∧ (decode dsL_law_1161 8 = .ok (.iaload, 1) ∧ okop dsL_law_1161 8 = true) ∧ (decode dsL_law_1161 9 = .ok (.aload_n 0, 1) ∧ okop dsL_law_1161 9 = true) ∧ (decode dsL_law_1161 10 = .ok (.iload 5, 2) ∧ okop dsL_law_1161 10 = true) := by decide +kernel
theorem dL_law_1161 : decode cL_law 1161 = .ok (.iconst 1, 1) := dgq (p := 0) daL_law_1161 dbL_law_1161.1
theorem dL_law_1162 : decode cL_law 1162 = .ok (.iadd, 1) := dgq (p := 1) daL_law_1161 dbL_law_1161.2.1
theorem dL_law_1163 : decode cL_law 1163 = .ok (.iaload, 1) := dgq (p := 2) daL_law_1161 dbL_law_1161.2.2.1
theorem dL_law_1164 : decode cL_law 1164 = .ok (.aload_n 0, 1) := dgq (p := 3) daL_law_1161 dbL_law_1161.2.2.2.1
theorem dL_law_1165 : decode cL_law 1165 = .ok (.iload 5, 2) := dgq (p := 4) daL_law_1161 dbL_law_1161.2.2.2.2.1
theorem dL_law_1167 : decode cL_law 1167 = .ok (.iconst 2, 1) := dgq (p := 6) daL_law_1161 dbL_law_1161.2.2.2.2.2.1
theorem dL_law_1168 : decode cL_law 1168 = .ok (.iadd, 1) := dgq (p := 7) daL_law_1161 dbL_law_1161.2.2.2.2.2.2.1
theorem dL_law_1169 : decode cL_law 1169 = .ok (.iaload, 1) := dgq (p := 8) daL_law_1161 dbL_law_1161.2.2.2.2.2.2.2.1
theorem dL_law_1170 : decode cL_law 1170 = .ok (.aload_n 0, 1) := dgq (p := 9) daL_law_1161 dbL_law_1161.2.2.2.2.2.2.2.2.1
theorem dL_law_1171 : decode cL_law 1171 = .ok (.iload 5, 2) := dgq (p := 10) daL_law_1161 dbL_law_1161.2.2.2.2.2.2.2.2.2
def dsL_law_1173 : ByteArray := ⟨#[6, 96, 46, 182, 1, 34, 54, 7, 167, 6, 207, 43, 42, 21, 5, 4]⟩
theorem daL_law_1173 : agB cL_law dsL_law_1173 1173 := agB_of (n := 16) (by decide +kernel)
theorem dbL_law_1173 : (decode dsL_law_1173 0 = .ok (.iconst 3, 1) ∧ okop dsL_law_1173 0 = true) ∧ (decode dsL_law_1173 1 = .ok (.iadd, 1) ∧ okop dsL_law_1173 1 = true) ∧ (decode dsL_law_1173 2 = .ok (.iaload, 1) ∧ okop dsL_law_1173 2 = true) ∧ (decode dsL_law_1173 3 = .ok (.invokevirtual 290, 3) ∧ okop dsL_law_1173 3 = true) ∧ (decode dsL_law_1173 6 = .ok (.istore 7, 2) ∧ okop dsL_law_1173 6 = true) ∧ (decode dsL_law_1173 8 = .ok (.goto 1743, 3) ∧ okop dsL_law_1173 8 = true) ∧ (decode dsL_law_1173 11 = .ok (.aload_n 1, 1) ∧ okop dsL_law_1173 11 = true) ∧ (decode dsL_law_1173 12 = .ok (.aload_n 0, 1) ∧ okop dsL_law_1173 12 = true) ∧ (decode dsL_law_1173 13 = .ok (.iload 5, 2) ∧ okop dsL_law_1173 13 = true) ∧ (decode dsL_law_1173 15 = .ok (.iconst 1, 1) ∧ okop dsL_law_1173 15 = true) := by decide +kernel
theorem dL_law_1173 : decode cL_law 1173 = .ok (.iconst 3, 1) := dgq (p := 0) daL_law_1173 dbL_law_1173.1
theorem dL_law_1174 : decode cL_law 1174 = .ok (.iadd, 1) := dgq (p := 1) daL_law_1173 dbL_law_1173.2.1
theorem dL_law_1175 : decode cL_law 1175 = .ok (.iaload, 1) := dgq (p := 2) daL_law_1173 dbL_law_1173.2.2.1
theorem dL_law_1176 : decode cL_law 1176 = .ok (.invokevirtual 290, 3) := dgq (p := 3) daL_law_1173 dbL_law_1173.2.2.2.1
theorem dL_law_1179 : decode cL_law 1179 = .ok (.istore 7, 2) := dgq (p := 6) daL_law_1173 dbL_law_1173.2.2.2.2.1
theorem dL_law_1181 : decode cL_law 1181 = .ok (.goto 1743, 3) := dgq (p := 8) daL_law_1173 dbL_law_1173.2.2.2.2.2.1
theorem dL_law_1184 : decode cL_law 1184 = .ok (.aload_n 1, 1) := dgq (p := 11) daL_law_1173 dbL_law_1173.2.2.2.2.2.2.1
theorem dL_law_1185 : decode cL_law 1185 = .ok (.aload_n 0, 1) := dgq (p := 12) daL_law_1173 dbL_law_1173.2.2.2.2.2.2.2.1
theorem dL_law_1186 : decode cL_law 1186 = .ok (.iload 5, 2) := dgq (p := 13) daL_law_1173 dbL_law_1173.2.2.2.2.2.2.2.2.1
theorem dL_law_1188 : decode cL_law 1188 = .ok (.iconst 1, 1) := dgq (p := 15) daL_law_1173 dbL_law_1173.2.2.2.2.2.2.2.2.2
def dsL_law_1189 : ByteArray := ⟨#[96, 46, 42, 21, 5, 5, 96, 46, 42, 21, 5, 6]⟩
theorem daL_law_1189 : agB cL_law dsL_law_1189 1189 := agB_of (n := 12) (by decide +kernel)
theorem dbL_law_1189 : (decode dsL_law_1189 0 = .ok (.iadd, 1) ∧ okop dsL_law_1189 0 = true) ∧ (decode dsL_law_1189 1 = .ok (.iaload, 1) ∧ okop dsL_law_1189 1 = true) ∧ (decode dsL_law_1189 2 = .ok (.aload_n 0, 1) ∧ okop dsL_law_1189 2 = true) ∧ (decode dsL_law_1189 3 = .ok (.iload 5, 2) ∧ okop dsL_law_1189 3 = true) ∧ (decode dsL_law_1189 5 = .ok (.iconst 2, 1) ∧ okop dsL_law_1189 5 = true) ∧ (decode dsL_law_1189 6 = .ok (.iadd, 1) ∧ okop dsL_law_1189 6 = true) ∧ (decode dsL_law_1189 7 = .ok (.iaload, 1) ∧ okop dsL_law_1189 7 = true) ∧ (decode dsL_law_1189 8 = .ok (.aload_n 0, 1) ∧ okop dsL_law_1189 8 = true) ∧ (decode dsL_law_1189 9 = .ok (.iload 5, 2) ∧ okop dsL_law_1189 9 = true) ∧ (decode dsL_law_1189 11 = .ok (.iconst 3, 1) ∧ okop dsL_law_1189 11 = true) := by decide +kernel
theorem dL_law_1189 : decode cL_law 1189 = .ok (.iadd, 1) := dgq (p := 0) daL_law_1189 dbL_law_1189.1
theorem dL_law_1190 : decode cL_law 1190 = .ok (.iaload, 1) := dgq (p := 1) daL_law_1189 dbL_law_1189.2.1
theorem dL_law_1191 : decode cL_law 1191 = .ok (.aload_n 0, 1) := dgq (p := 2) daL_law_1189 dbL_law_1189.2.2.1
theorem dL_law_1192 : decode cL_law 1192 = .ok (.iload 5, 2) := dgq (p := 3) daL_law_1189 dbL_law_1189.2.2.2.1
theorem dL_law_1194 : decode cL_law 1194 = .ok (.iconst 2, 1) := dgq (p := 5) daL_law_1189 dbL_law_1189.2.2.2.2.1
theorem dL_law_1195 : decode cL_law 1195 = .ok (.iadd, 1) := dgq (p := 6) daL_law_1189 dbL_law_1189.2.2.2.2.2.1
theorem dL_law_1196 : decode cL_law 1196 = .ok (.iaload, 1) := dgq (p := 7) daL_law_1189 dbL_law_1189.2.2.2.2.2.2.1
theorem dL_law_1197 : decode cL_law 1197 = .ok (.aload_n 0, 1) := dgq (p := 8) daL_law_1189 dbL_law_1189.2.2.2.2.2.2.2.1
theorem dL_law_1198 : decode cL_law 1198 = .ok (.iload 5, 2) := dgq (p := 9) daL_law_1189 dbL_law_1189.2.2.2.2.2.2.2.2.1
theorem dL_law_1200 : decode cL_law 1200 = .ok (.iconst 3, 1) := dgq (p := 11) daL_law_1189 dbL_law_1189.2.2.2.2.2.2.2.2.2
def dsL_law_1201 : ByteArray := ⟨#[96, 46, 45, 184, 1, 35, 54, 6, 44, 42, 21, 5, 4, 96]⟩
theorem daL_law_1201 : agB cL_law dsL_law_1201 1201 := agB_of (n := 14) (by decide +kernel)
theorem dbL_law_1201 : (decode dsL_law_1201 0 = .ok (.iadd, 1) ∧ okop dsL_law_1201 0 = true) ∧ (decode dsL_law_1201 1 = .ok (.iaload, 1) ∧ okop dsL_law_1201 1 = true) ∧ (decode dsL_law_1201 2 = .ok (.aload_n 3, 1) ∧ okop dsL_law_1201 2 = true) ∧ (decode dsL_law_1201 3 = .ok (.invokestatic 291, 3) ∧ okop dsL_law_1201 3 = true) ∧ (decode dsL_law_1201 6 = .ok (.istore 6, 2) ∧ okop dsL_law_1201 6 = true) ∧ (decode dsL_law_1201 8 = .ok (.aload_n 2, 1) ∧ okop dsL_law_1201 8 = true) ∧ (decode dsL_law_1201 9 = .ok (.aload_n 0, 1) ∧ okop dsL_law_1201 9 = true) ∧ (decode dsL_law_1201 10 = .ok (.iload 5, 2) ∧ okop dsL_law_1201 10 = true) ∧ (decode dsL_law_1201 12 = .ok (.iconst 1, 1) ∧ okop dsL_law_1201 12 = true) ∧ (decode dsL_law_1201 13 = .ok (.iadd, 1) ∧ okop dsL_law_1201 13 = true) := by decide +kernel
theorem dL_law_1201 : decode cL_law 1201 = .ok (.iadd, 1) := dgq (p := 0) daL_law_1201 dbL_law_1201.1
theorem dL_law_1202 : decode cL_law 1202 = .ok (.iaload, 1) := dgq (p := 1) daL_law_1201 dbL_law_1201.2.1
theorem dL_law_1203 : decode cL_law 1203 = .ok (.aload_n 3, 1) := dgq (p := 2) daL_law_1201 dbL_law_1201.2.2.1
theorem dL_law_1204 : decode cL_law 1204 = .ok (.invokestatic 291, 3) := dgq (p := 3) daL_law_1201 dbL_law_1201.2.2.2.1
theorem dL_law_1207 : decode cL_law 1207 = .ok (.istore 6, 2) := dgq (p := 6) daL_law_1201 dbL_law_1201.2.2.2.2.1
theorem dL_law_1209 : decode cL_law 1209 = .ok (.aload_n 2, 1) := dgq (p := 8) daL_law_1201 dbL_law_1201.2.2.2.2.2.1
theorem dL_law_1210 : decode cL_law 1210 = .ok (.aload_n 0, 1) := dgq (p := 9) daL_law_1201 dbL_law_1201.2.2.2.2.2.2.1
theorem dL_law_1211 : decode cL_law 1211 = .ok (.iload 5, 2) := dgq (p := 10) daL_law_1201 dbL_law_1201.2.2.2.2.2.2.2.1
theorem dL_law_1213 : decode cL_law 1213 = .ok (.iconst 1, 1) := dgq (p := 12) daL_law_1201 dbL_law_1201.2.2.2.2.2.2.2.2.1
theorem dL_law_1214 : decode cL_law 1214 = .ok (.iadd, 1) := dgq (p := 13) daL_law_1201 dbL_law_1201.2.2.2.2.2.2.2.2.2
def dsL_law_1215 : ByteArray := ⟨#[46, 42, 21, 5, 5, 96, 46, 42, 21, 5, 6, 96]⟩
theorem daL_law_1215 : agB cL_law dsL_law_1215 1215 := agB_of (n := 12) (by decide +kernel)
theorem dbL_law_1215 : (decode dsL_law_1215 0 = .ok (.iaload, 1) ∧ okop dsL_law_1215 0 = true) ∧ (decode dsL_law_1215 1 = .ok (.aload_n 0, 1) ∧ okop dsL_law_1215 1 = true) ∧ (decode dsL_law_1215 2 = .ok (.iload 5, 2) ∧ okop dsL_law_1215 2 = true) ∧ (decode dsL_law_1215 4 = .ok (.iconst 2, 1) ∧ okop dsL_law_1215 4 = true) ∧ (decode dsL_law_1215 5 = .ok (.iadd, 1) ∧ okop dsL_law_1215 5 = true) ∧ (decode dsL_law_1215 6 = .ok (.iaload, 1) ∧ okop dsL_law_1215 6 = true) ∧ (decode dsL_law_1215 7 = .ok (.aload_n 0, 1) ∧ okop dsL_law_1215 7 = true) ∧ (decode dsL_law_1215 8 = .ok (.iload 5, 2) ∧ okop dsL_law_1215 8 = true) ∧ (decode dsL_law_1215 10 = .ok (.iconst 3, 1) ∧ okop dsL_law_1215 10 = true) ∧ (decode dsL_law_1215 11 = .ok (.iadd, 1) ∧ okop dsL_law_1215 11 = true) := by decide +kernel
theorem dL_law_1215 : decode cL_law 1215 = .ok (.iaload, 1) := dgq (p := 0) daL_law_1215 dbL_law_1215.1
theorem dL_law_1216 : decode cL_law 1216 = .ok (.aload_n 0, 1) := dgq (p := 1) daL_law_1215 dbL_law_1215.2.1
theorem dL_law_1217 : decode cL_law 1217 = .ok (.iload 5, 2) := dgq (p := 2) daL_law_1215 dbL_law_1215.2.2.1
theorem dL_law_1219 : decode cL_law 1219 = .ok (.iconst 2, 1) := dgq (p := 4) daL_law_1215 dbL_law_1215.2.2.2.1
theorem dL_law_1220 : decode cL_law 1220 = .ok (.iadd, 1) := dgq (p := 5) daL_law_1215 dbL_law_1215.2.2.2.2.1
theorem dL_law_1221 : decode cL_law 1221 = .ok (.iaload, 1) := dgq (p := 6) daL_law_1215 dbL_law_1215.2.2.2.2.2.1
theorem dL_law_1222 : decode cL_law 1222 = .ok (.aload_n 0, 1) := dgq (p := 7) daL_law_1215 dbL_law_1215.2.2.2.2.2.2.1
theorem dL_law_1223 : decode cL_law 1223 = .ok (.iload 5, 2) := dgq (p := 8) daL_law_1215 dbL_law_1215.2.2.2.2.2.2.2.1
theorem dL_law_1225 : decode cL_law 1225 = .ok (.iconst 3, 1) := dgq (p := 10) daL_law_1215 dbL_law_1215.2.2.2.2.2.2.2.2.1
theorem dL_law_1226 : decode cL_law 1226 = .ok (.iadd, 1) := dgq (p := 11) daL_law_1215 dbL_law_1215.2.2.2.2.2.2.2.2.2
def dsL_law_1227 : ByteArray := ⟨#[46, 182, 1, 37, 54, 7, 167, 6, 155, 43, 42, 21, 5, 4, 96, 46]⟩
theorem daL_law_1227 : agB cL_law dsL_law_1227 1227 := agB_of (n := 16) (by decide +kernel)
theorem dbL_law_1227 : (decode dsL_law_1227 0 = .ok (.iaload, 1) ∧ okop dsL_law_1227 0 = true) ∧ (decode dsL_law_1227 1 = .ok (.invokevirtual 293, 3) ∧ okop dsL_law_1227 1 = true) ∧ (decode dsL_law_1227 4 = .ok (.istore 7, 2) ∧ okop dsL_law_1227 4 = true) ∧ (decode dsL_law_1227 6 = .ok (.goto 1691, 3) ∧ okop dsL_law_1227 6 = true) ∧ (decode dsL_law_1227 9 = .ok (.aload_n 1, 1) ∧ okop dsL_law_1227 9 = true) ∧ (decode dsL_law_1227 10 = .ok (.aload_n 0, 1) ∧ okop dsL_law_1227 10 = true) ∧ (decode dsL_law_1227 11 = .ok (.iload 5, 2) ∧ okop dsL_law_1227 11 = true) ∧ (decode dsL_law_1227 13 = .ok (.iconst 1, 1) ∧ okop dsL_law_1227 13 = true) ∧ (decode dsL_law_1227 14 = .ok (.iadd, 1) ∧ okop dsL_law_1227 14 = true) ∧ (decode dsL_law_1227 15 = .ok (.iaload, 1) ∧ okop dsL_law_1227 15 = true) := by decide +kernel
theorem dL_law_1227 : decode cL_law 1227 = .ok (.iaload, 1) := dgq (p := 0) daL_law_1227 dbL_law_1227.1
theorem dL_law_1228 : decode cL_law 1228 = .ok (.invokevirtual 293, 3) := dgq (p := 1) daL_law_1227 dbL_law_1227.2.1
theorem dL_law_1231 : decode cL_law 1231 = .ok (.istore 7, 2) := dgq (p := 4) daL_law_1227 dbL_law_1227.2.2.1
theorem dL_law_1233 : decode cL_law 1233 = .ok (.goto 1691, 3) := dgq (p := 6) daL_law_1227 dbL_law_1227.2.2.2.1
theorem dL_law_1236 : decode cL_law 1236 = .ok (.aload_n 1, 1) := dgq (p := 9) daL_law_1227 dbL_law_1227.2.2.2.2.1
theorem dL_law_1237 : decode cL_law 1237 = .ok (.aload_n 0, 1) := dgq (p := 10) daL_law_1227 dbL_law_1227.2.2.2.2.2.1
theorem dL_law_1238 : decode cL_law 1238 = .ok (.iload 5, 2) := dgq (p := 11) daL_law_1227 dbL_law_1227.2.2.2.2.2.2.1
theorem dL_law_1240 : decode cL_law 1240 = .ok (.iconst 1, 1) := dgq (p := 13) daL_law_1227 dbL_law_1227.2.2.2.2.2.2.2.1
theorem dL_law_1241 : decode cL_law 1241 = .ok (.iadd, 1) := dgq (p := 14) daL_law_1227 dbL_law_1227.2.2.2.2.2.2.2.2.1
theorem dL_law_1242 : decode cL_law 1242 = .ok (.iaload, 1) := dgq (p := 15) daL_law_1227 dbL_law_1227.2.2.2.2.2.2.2.2.2
def dsL_law_1243 : ByteArray := ⟨#[42, 21, 5, 5, 96, 46, 45, 184, 1, 38, 54, 6, 44, 42]⟩
theorem daL_law_1243 : agB cL_law dsL_law_1243 1243 := agB_of (n := 14) (by decide +kernel)
theorem dbL_law_1243 : (decode dsL_law_1243 0 = .ok (.aload_n 0, 1) ∧ okop dsL_law_1243 0 = true) ∧ (decode dsL_law_1243 1 = .ok (.iload 5, 2) ∧ okop dsL_law_1243 1 = true) ∧ (decode dsL_law_1243 3 = .ok (.iconst 2, 1) ∧ okop dsL_law_1243 3 = true) ∧ (decode dsL_law_1243 4 = .ok (.iadd, 1) ∧ okop dsL_law_1243 4 = true) ∧ (decode dsL_law_1243 5 = .ok (.iaload, 1) ∧ okop dsL_law_1243 5 = true) ∧ (decode dsL_law_1243 6 = .ok (.aload_n 3, 1) ∧ okop dsL_law_1243 6 = true) ∧ (decode dsL_law_1243 7 = .ok (.invokestatic 294, 3) ∧ okop dsL_law_1243 7 = true) ∧ (decode dsL_law_1243 10 = .ok (.istore 6, 2) ∧ okop dsL_law_1243 10 = true) ∧ (decode dsL_law_1243 12 = .ok (.aload_n 2, 1) ∧ okop dsL_law_1243 12 = true) ∧ (decode dsL_law_1243 13 = .ok (.aload_n 0, 1) ∧ okop dsL_law_1243 13 = true) := by decide +kernel
theorem dL_law_1243 : decode cL_law 1243 = .ok (.aload_n 0, 1) := dgq (p := 0) daL_law_1243 dbL_law_1243.1
theorem dL_law_1244 : decode cL_law 1244 = .ok (.iload 5, 2) := dgq (p := 1) daL_law_1243 dbL_law_1243.2.1
theorem dL_law_1246 : decode cL_law 1246 = .ok (.iconst 2, 1) := dgq (p := 3) daL_law_1243 dbL_law_1243.2.2.1
theorem dL_law_1247 : decode cL_law 1247 = .ok (.iadd, 1) := dgq (p := 4) daL_law_1243 dbL_law_1243.2.2.2.1
theorem dL_law_1248 : decode cL_law 1248 = .ok (.iaload, 1) := dgq (p := 5) daL_law_1243 dbL_law_1243.2.2.2.2.1
theorem dL_law_1249 : decode cL_law 1249 = .ok (.aload_n 3, 1) := dgq (p := 6) daL_law_1243 dbL_law_1243.2.2.2.2.2.1
theorem dL_law_1250 : decode cL_law 1250 = .ok (.invokestatic 294, 3) := dgq (p := 7) daL_law_1243 dbL_law_1243.2.2.2.2.2.2.1
theorem dL_law_1253 : decode cL_law 1253 = .ok (.istore 6, 2) := dgq (p := 10) daL_law_1243 dbL_law_1243.2.2.2.2.2.2.2.1
theorem dL_law_1255 : decode cL_law 1255 = .ok (.aload_n 2, 1) := dgq (p := 12) daL_law_1243 dbL_law_1243.2.2.2.2.2.2.2.2.1
theorem dL_law_1256 : decode cL_law 1256 = .ok (.aload_n 0, 1) := dgq (p := 13) daL_law_1243 dbL_law_1243.2.2.2.2.2.2.2.2.2
def dsL_law_1257 : ByteArray := ⟨#[21, 5, 4, 96, 46, 42, 21, 5, 5, 96, 46, 182, 1, 40]⟩
theorem daL_law_1257 : agB cL_law dsL_law_1257 1257 := agB_of (n := 14) (by decide +kernel)
theorem dbL_law_1257 : (decode dsL_law_1257 0 = .ok (.iload 5, 2) ∧ okop dsL_law_1257 0 = true) ∧ (decode dsL_law_1257 2 = .ok (.iconst 1, 1) ∧ okop dsL_law_1257 2 = true) ∧ (decode dsL_law_1257 3 = .ok (.iadd, 1) ∧ okop dsL_law_1257 3 = true) ∧ (decode dsL_law_1257 4 = .ok (.iaload, 1) ∧ okop dsL_law_1257 4 = true) ∧ (decode dsL_law_1257 5 = .ok (.aload_n 0, 1) ∧ okop dsL_law_1257 5 = true) ∧ (decode dsL_law_1257 6 = .ok (.iload 5, 2) ∧ okop dsL_law_1257 6 = true) ∧ (decode dsL_law_1257 8 = .ok (.iconst 2, 1) ∧ okop dsL_law_1257 8 = true) ∧ (decode dsL_law_1257 9 = .ok (.iadd, 1) ∧ okop dsL_law_1257 9 = true) ∧ (decode dsL_law_1257 10 = .ok (.iaload, 1) ∧ okop dsL_law_1257 10 = true) ∧ (decode dsL_law_1257 11 = .ok (.invokevirtual 296, 3) ∧ okop dsL_law_1257 11 = true) := by decide +kernel
theorem dL_law_1257 : decode cL_law 1257 = .ok (.iload 5, 2) := dgq (p := 0) daL_law_1257 dbL_law_1257.1
theorem dL_law_1259 : decode cL_law 1259 = .ok (.iconst 1, 1) := dgq (p := 2) daL_law_1257 dbL_law_1257.2.1
theorem dL_law_1260 : decode cL_law 1260 = .ok (.iadd, 1) := dgq (p := 3) daL_law_1257 dbL_law_1257.2.2.1
theorem dL_law_1261 : decode cL_law 1261 = .ok (.iaload, 1) := dgq (p := 4) daL_law_1257 dbL_law_1257.2.2.2.1
theorem dL_law_1262 : decode cL_law 1262 = .ok (.aload_n 0, 1) := dgq (p := 5) daL_law_1257 dbL_law_1257.2.2.2.2.1
theorem dL_law_1263 : decode cL_law 1263 = .ok (.iload 5, 2) := dgq (p := 6) daL_law_1257 dbL_law_1257.2.2.2.2.2.1
theorem dL_law_1265 : decode cL_law 1265 = .ok (.iconst 2, 1) := dgq (p := 8) daL_law_1257 dbL_law_1257.2.2.2.2.2.2.1
theorem dL_law_1266 : decode cL_law 1266 = .ok (.iadd, 1) := dgq (p := 9) daL_law_1257 dbL_law_1257.2.2.2.2.2.2.2.1
theorem dL_law_1267 : decode cL_law 1267 = .ok (.iaload, 1) := dgq (p := 10) daL_law_1257 dbL_law_1257.2.2.2.2.2.2.2.2.1
theorem dL_law_1268 : decode cL_law 1268 = .ok (.invokevirtual 296, 3) := dgq (p := 11) daL_law_1257 dbL_law_1257.2.2.2.2.2.2.2.2.2
def dsL_law_1271 : ByteArray := ⟨#[54, 7, 167, 6, 115, 43, 42, 21, 5, 4, 96, 46, 42, 21, 5]⟩
theorem daL_law_1271 : agB cL_law dsL_law_1271 1271 := agB_of (n := 15) (by decide +kernel)
theorem dbL_law_1271 : (decode dsL_law_1271 0 = .ok (.istore 7, 2) ∧ okop dsL_law_1271 0 = true) ∧ (decode dsL_law_1271 2 = .ok (.goto 1651, 3) ∧ okop dsL_law_1271 2 = true) ∧ (decode dsL_law_1271 5 = .ok (.aload_n 1, 1) ∧ okop dsL_law_1271 5 = true) ∧ (decode dsL_law_1271 6 = .ok (.aload_n 0, 1) ∧ okop dsL_law_1271 6 = true) ∧ (decode dsL_law_1271 7 = .ok (.iload 5, 2) ∧ okop dsL_law_1271 7 = true) ∧ (decode dsL_law_1271 9 = .ok (.iconst 1, 1) ∧ okop dsL_law_1271 9 = true) ∧ (decode dsL_law_1271 10 = .ok (.iadd, 1) ∧ okop dsL_law_1271 10 = true) ∧ (decode dsL_law_1271 11 = .ok (.iaload, 1) ∧ okop dsL_law_1271 11 = true) ∧ (decode dsL_law_1271 12 = .ok (.aload_n 0, 1) ∧ okop dsL_law_1271 12 = true) ∧ (decode dsL_law_1271 13 = .ok (.iload 5, 2) ∧ okop dsL_law_1271 13 = true) := by decide +kernel
theorem dL_law_1271 : decode cL_law 1271 = .ok (.istore 7, 2) := dgq (p := 0) daL_law_1271 dbL_law_1271.1
theorem dL_law_1273 : decode cL_law 1273 = .ok (.goto 1651, 3) := dgq (p := 2) daL_law_1271 dbL_law_1271.2.1
theorem dL_law_1276 : decode cL_law 1276 = .ok (.aload_n 1, 1) := dgq (p := 5) daL_law_1271 dbL_law_1271.2.2.1
theorem dL_law_1277 : decode cL_law 1277 = .ok (.aload_n 0, 1) := dgq (p := 6) daL_law_1271 dbL_law_1271.2.2.2.1
theorem dL_law_1278 : decode cL_law 1278 = .ok (.iload 5, 2) := dgq (p := 7) daL_law_1271 dbL_law_1271.2.2.2.2.1
theorem dL_law_1280 : decode cL_law 1280 = .ok (.iconst 1, 1) := dgq (p := 9) daL_law_1271 dbL_law_1271.2.2.2.2.2.1
theorem dL_law_1281 : decode cL_law 1281 = .ok (.iadd, 1) := dgq (p := 10) daL_law_1271 dbL_law_1271.2.2.2.2.2.2.1
theorem dL_law_1282 : decode cL_law 1282 = .ok (.iaload, 1) := dgq (p := 11) daL_law_1271 dbL_law_1271.2.2.2.2.2.2.2.1
theorem dL_law_1283 : decode cL_law 1283 = .ok (.aload_n 0, 1) := dgq (p := 12) daL_law_1271 dbL_law_1271.2.2.2.2.2.2.2.2.1
theorem dL_law_1284 : decode cL_law 1284 = .ok (.iload 5, 2) := dgq (p := 13) daL_law_1271 dbL_law_1271.2.2.2.2.2.2.2.2.2
def dsL_law_1286 : ByteArray := ⟨#[5, 96, 46, 42, 21, 5, 6, 96, 46, 42, 21, 5]⟩
theorem daL_law_1286 : agB cL_law dsL_law_1286 1286 := agB_of (n := 12) (by decide +kernel)
theorem dbL_law_1286 : (decode dsL_law_1286 0 = .ok (.iconst 2, 1) ∧ okop dsL_law_1286 0 = true) ∧ (decode dsL_law_1286 1 = .ok (.iadd, 1) ∧ okop dsL_law_1286 1 = true) ∧ (decode dsL_law_1286 2 = .ok (.iaload, 1) ∧ okop dsL_law_1286 2 = true) ∧ (decode dsL_law_1286 3 = .ok (.aload_n 0, 1) ∧ okop dsL_law_1286 3 = true) ∧ (decode dsL_law_1286 4 = .ok (.iload 5, 2) ∧ okop dsL_law_1286 4 = true) ∧ (decode dsL_law_1286 6 = .ok (.iconst 3, 1) ∧ okop dsL_law_1286 6 = true) ∧ (decode dsL_law_1286 7 = .ok (.iadd, 1) ∧ okop dsL_law_1286 7 = true) ∧ (decode dsL_law_1286 8 = .ok (.iaload, 1) ∧ okop dsL_law_1286 8 = true) ∧ (decode dsL_law_1286 9 = .ok (.aload_n 0, 1) ∧ okop dsL_law_1286 9 = true) ∧ (decode dsL_law_1286 10 = .ok (.iload 5, 2) ∧ okop dsL_law_1286 10 = true) := by decide +kernel
theorem dL_law_1286 : decode cL_law 1286 = .ok (.iconst 2, 1) := dgq (p := 0) daL_law_1286 dbL_law_1286.1
theorem dL_law_1287 : decode cL_law 1287 = .ok (.iadd, 1) := dgq (p := 1) daL_law_1286 dbL_law_1286.2.1
theorem dL_law_1288 : decode cL_law 1288 = .ok (.iaload, 1) := dgq (p := 2) daL_law_1286 dbL_law_1286.2.2.1
theorem dL_law_1289 : decode cL_law 1289 = .ok (.aload_n 0, 1) := dgq (p := 3) daL_law_1286 dbL_law_1286.2.2.2.1
theorem dL_law_1290 : decode cL_law 1290 = .ok (.iload 5, 2) := dgq (p := 4) daL_law_1286 dbL_law_1286.2.2.2.2.1
theorem dL_law_1292 : decode cL_law 1292 = .ok (.iconst 3, 1) := dgq (p := 6) daL_law_1286 dbL_law_1286.2.2.2.2.2.1
theorem dL_law_1293 : decode cL_law 1293 = .ok (.iadd, 1) := dgq (p := 7) daL_law_1286 dbL_law_1286.2.2.2.2.2.2.1
theorem dL_law_1294 : decode cL_law 1294 = .ok (.iaload, 1) := dgq (p := 8) daL_law_1286 dbL_law_1286.2.2.2.2.2.2.2.1
theorem dL_law_1295 : decode cL_law 1295 = .ok (.aload_n 0, 1) := dgq (p := 9) daL_law_1286 dbL_law_1286.2.2.2.2.2.2.2.2.1
theorem dL_law_1296 : decode cL_law 1296 = .ok (.iload 5, 2) := dgq (p := 10) daL_law_1286 dbL_law_1286.2.2.2.2.2.2.2.2.2
def dsL_law_1298 : ByteArray := ⟨#[7, 96, 46, 45, 184, 1, 41, 54, 6, 44, 42, 21, 5, 4]⟩
theorem daL_law_1298 : agB cL_law dsL_law_1298 1298 := agB_of (n := 14) (by decide +kernel)
theorem dbL_law_1298 : (decode dsL_law_1298 0 = .ok (.iconst 4, 1) ∧ okop dsL_law_1298 0 = true) ∧ (decode dsL_law_1298 1 = .ok (.iadd, 1) ∧ okop dsL_law_1298 1 = true) ∧ (decode dsL_law_1298 2 = .ok (.iaload, 1) ∧ okop dsL_law_1298 2 = true) ∧ (decode dsL_law_1298 3 = .ok (.aload_n 3, 1) ∧ okop dsL_law_1298 3 = true) ∧ (decode dsL_law_1298 4 = .ok (.invokestatic 297, 3) ∧ okop dsL_law_1298 4 = true) ∧ (decode dsL_law_1298 7 = .ok (.istore 6, 2) ∧ okop dsL_law_1298 7 = true) ∧ (decode dsL_law_1298 9 = .ok (.aload_n 2, 1) ∧ okop dsL_law_1298 9 = true) ∧ (decode dsL_law_1298 10 = .ok (.aload_n 0, 1) ∧ okop dsL_law_1298 10 = true) ∧ (decode dsL_law_1298 11 = .ok (.iload 5, 2) ∧ okop dsL_law_1298 11 = true) ∧ (decode dsL_law_1298 13 = .ok (.iconst 1, 1) ∧ okop dsL_law_1298 13 = true) := by decide +kernel
theorem dL_law_1298 : decode cL_law 1298 = .ok (.iconst 4, 1) := dgq (p := 0) daL_law_1298 dbL_law_1298.1
theorem dL_law_1299 : decode cL_law 1299 = .ok (.iadd, 1) := dgq (p := 1) daL_law_1298 dbL_law_1298.2.1
theorem dL_law_1300 : decode cL_law 1300 = .ok (.iaload, 1) := dgq (p := 2) daL_law_1298 dbL_law_1298.2.2.1
theorem dL_law_1301 : decode cL_law 1301 = .ok (.aload_n 3, 1) := dgq (p := 3) daL_law_1298 dbL_law_1298.2.2.2.1
theorem dL_law_1302 : decode cL_law 1302 = .ok (.invokestatic 297, 3) := dgq (p := 4) daL_law_1298 dbL_law_1298.2.2.2.2.1
theorem dL_law_1305 : decode cL_law 1305 = .ok (.istore 6, 2) := dgq (p := 7) daL_law_1298 dbL_law_1298.2.2.2.2.2.1
theorem dL_law_1307 : decode cL_law 1307 = .ok (.aload_n 2, 1) := dgq (p := 9) daL_law_1298 dbL_law_1298.2.2.2.2.2.2.1
theorem dL_law_1308 : decode cL_law 1308 = .ok (.aload_n 0, 1) := dgq (p := 10) daL_law_1298 dbL_law_1298.2.2.2.2.2.2.2.1
theorem dL_law_1309 : decode cL_law 1309 = .ok (.iload 5, 2) := dgq (p := 11) daL_law_1298 dbL_law_1298.2.2.2.2.2.2.2.2.1
theorem dL_law_1311 : decode cL_law 1311 = .ok (.iconst 1, 1) := dgq (p := 13) daL_law_1298 dbL_law_1298.2.2.2.2.2.2.2.2.2
def dsL_law_1312 : ByteArray := ⟨#[96, 46, 42, 21, 5, 5, 96, 46, 42, 21, 5, 6]⟩
theorem daL_law_1312 : agB cL_law dsL_law_1312 1312 := agB_of (n := 12) (by decide +kernel)
theorem dbL_law_1312 : (decode dsL_law_1312 0 = .ok (.iadd, 1) ∧ okop dsL_law_1312 0 = true) ∧ (decode dsL_law_1312 1 = .ok (.iaload, 1) ∧ okop dsL_law_1312 1 = true) ∧ (decode dsL_law_1312 2 = .ok (.aload_n 0, 1) ∧ okop dsL_law_1312 2 = true) ∧ (decode dsL_law_1312 3 = .ok (.iload 5, 2) ∧ okop dsL_law_1312 3 = true) ∧ (decode dsL_law_1312 5 = .ok (.iconst 2, 1) ∧ okop dsL_law_1312 5 = true) ∧ (decode dsL_law_1312 6 = .ok (.iadd, 1) ∧ okop dsL_law_1312 6 = true) ∧ (decode dsL_law_1312 7 = .ok (.iaload, 1) ∧ okop dsL_law_1312 7 = true) ∧ (decode dsL_law_1312 8 = .ok (.aload_n 0, 1) ∧ okop dsL_law_1312 8 = true) ∧ (decode dsL_law_1312 9 = .ok (.iload 5, 2) ∧ okop dsL_law_1312 9 = true) ∧ (decode dsL_law_1312 11 = .ok (.iconst 3, 1) ∧ okop dsL_law_1312 11 = true) := by decide +kernel
theorem dL_law_1312 : decode cL_law 1312 = .ok (.iadd, 1) := dgq (p := 0) daL_law_1312 dbL_law_1312.1
theorem dL_law_1313 : decode cL_law 1313 = .ok (.iaload, 1) := dgq (p := 1) daL_law_1312 dbL_law_1312.2.1
theorem dL_law_1314 : decode cL_law 1314 = .ok (.aload_n 0, 1) := dgq (p := 2) daL_law_1312 dbL_law_1312.2.2.1
theorem dL_law_1315 : decode cL_law 1315 = .ok (.iload 5, 2) := dgq (p := 3) daL_law_1312 dbL_law_1312.2.2.2.1
theorem dL_law_1317 : decode cL_law 1317 = .ok (.iconst 2, 1) := dgq (p := 5) daL_law_1312 dbL_law_1312.2.2.2.2.1
theorem dL_law_1318 : decode cL_law 1318 = .ok (.iadd, 1) := dgq (p := 6) daL_law_1312 dbL_law_1312.2.2.2.2.2.1
theorem dL_law_1319 : decode cL_law 1319 = .ok (.iaload, 1) := dgq (p := 7) daL_law_1312 dbL_law_1312.2.2.2.2.2.2.1
theorem dL_law_1320 : decode cL_law 1320 = .ok (.aload_n 0, 1) := dgq (p := 8) daL_law_1312 dbL_law_1312.2.2.2.2.2.2.2.1
theorem dL_law_1321 : decode cL_law 1321 = .ok (.iload 5, 2) := dgq (p := 9) daL_law_1312 dbL_law_1312.2.2.2.2.2.2.2.2.1
theorem dL_law_1323 : decode cL_law 1323 = .ok (.iconst 3, 1) := dgq (p := 11) daL_law_1312 dbL_law_1312.2.2.2.2.2.2.2.2.2
def dsL_law_1324 : ByteArray := ⟨#[96, 46, 42, 21, 5, 7, 96, 46, 182, 1, 43, 54, 7, 44]⟩
theorem daL_law_1324 : agB cL_law dsL_law_1324 1324 := agB_of (n := 14) (by decide +kernel)
theorem dbL_law_1324 : (decode dsL_law_1324 0 = .ok (.iadd, 1) ∧ okop dsL_law_1324 0 = true) ∧ (decode dsL_law_1324 1 = .ok (.iaload, 1) ∧ okop dsL_law_1324 1 = true) ∧ (decode dsL_law_1324 2 = .ok (.aload_n 0, 1) ∧ okop dsL_law_1324 2 = true) ∧ (decode dsL_law_1324 3 = .ok (.iload 5, 2) ∧ okop dsL_law_1324 3 = true) ∧ (decode dsL_law_1324 5 = .ok (.iconst 4, 1) ∧ okop dsL_law_1324 5 = true) ∧ (decode dsL_law_1324 6 = .ok (.iadd, 1) ∧ okop dsL_law_1324 6 = true) ∧ (decode dsL_law_1324 7 = .ok (.iaload, 1) ∧ okop dsL_law_1324 7 = true) ∧ (decode dsL_law_1324 8 = .ok (.invokevirtual 299, 3) ∧ okop dsL_law_1324 8 = true) ∧ (decode dsL_law_1324 11 = .ok (.istore 7, 2) ∧ okop dsL_law_1324 11 = true) ∧ (decode dsL_law_1324 13 = .ok (.aload_n 2, 1) ∧ okop dsL_law_1324 13 = true) := by decide +kernel
theorem dL_law_1324 : decode cL_law 1324 = .ok (.iadd, 1) := dgq (p := 0) daL_law_1324 dbL_law_1324.1
theorem dL_law_1325 : decode cL_law 1325 = .ok (.iaload, 1) := dgq (p := 1) daL_law_1324 dbL_law_1324.2.1
theorem dL_law_1326 : decode cL_law 1326 = .ok (.aload_n 0, 1) := dgq (p := 2) daL_law_1324 dbL_law_1324.2.2.1
theorem dL_law_1327 : decode cL_law 1327 = .ok (.iload 5, 2) := dgq (p := 3) daL_law_1324 dbL_law_1324.2.2.2.1
theorem dL_law_1329 : decode cL_law 1329 = .ok (.iconst 4, 1) := dgq (p := 5) daL_law_1324 dbL_law_1324.2.2.2.2.1
theorem dL_law_1330 : decode cL_law 1330 = .ok (.iadd, 1) := dgq (p := 6) daL_law_1324 dbL_law_1324.2.2.2.2.2.1
theorem dL_law_1331 : decode cL_law 1331 = .ok (.iaload, 1) := dgq (p := 7) daL_law_1324 dbL_law_1324.2.2.2.2.2.2.1
theorem dL_law_1332 : decode cL_law 1332 = .ok (.invokevirtual 299, 3) := dgq (p := 8) daL_law_1324 dbL_law_1324.2.2.2.2.2.2.2.1
theorem dL_law_1335 : decode cL_law 1335 = .ok (.istore 7, 2) := dgq (p := 11) daL_law_1324 dbL_law_1324.2.2.2.2.2.2.2.2.1
theorem dL_law_1337 : decode cL_law 1337 = .ok (.aload_n 2, 1) := dgq (p := 13) daL_law_1324 dbL_law_1324.2.2.2.2.2.2.2.2.2
def dsL_law_1338 : ByteArray := ⟨#[182, 1, 44, 21, 6, 159, 0, 5, 3, 172, 21, 6, 154, 0, 15, 45, 3, 47]⟩
theorem daL_law_1338 : agB cL_law dsL_law_1338 1338 := agB_of (n := 18) (by decide +kernel)
theorem dbL_law_1338 : (decode dsL_law_1338 0 = .ok (.invokevirtual 300, 3) ∧ okop dsL_law_1338 0 = true) ∧ (decode dsL_law_1338 3 = .ok (.iload 6, 2) ∧ okop dsL_law_1338 3 = true) ∧ (decode dsL_law_1338 5 = .ok (.if_icmp .eq 5, 3) ∧ okop dsL_law_1338 5 = true) ∧ (decode dsL_law_1338 8 = .ok (.iconst 0, 1) ∧ okop dsL_law_1338 8 = true) ∧ (decode dsL_law_1338 9 = .ok (.ireturn, 1) ∧ okop dsL_law_1338 9 = true) ∧ (decode dsL_law_1338 10 = .ok (.iload 6, 2) ∧ okop dsL_law_1338 10 = true) ∧ (decode dsL_law_1338 12 = .ok (.ifCond .ne 15, 3) ∧ okop dsL_law_1338 12 = true) ∧ (decode dsL_law_1338 15 = .ok (.aload_n 3, 1) ∧ okop dsL_law_1338 15 = true) ∧ (decode dsL_law_1338 16 = .ok (.iconst 0, 1) ∧ okop dsL_law_1338 16 = true) ∧ (decode dsL_law_1338 17 = .ok (.laload, 1) ∧ okop dsL_law_1338 17 = true) := by decide +kernel
theorem dL_law_1338 : decode cL_law 1338 = .ok (.invokevirtual 300, 3) := dgq (p := 0) daL_law_1338 dbL_law_1338.1
theorem dL_law_1341 : decode cL_law 1341 = .ok (.iload 6, 2) := dgq (p := 3) daL_law_1338 dbL_law_1338.2.1
theorem dL_law_1343 : decode cL_law 1343 = .ok (.if_icmp .eq 5, 3) := dgq (p := 5) daL_law_1338 dbL_law_1338.2.2.1
theorem dL_law_1346 : decode cL_law 1346 = .ok (.iconst 0, 1) := dgq (p := 8) daL_law_1338 dbL_law_1338.2.2.2.1
theorem dL_law_1347 : decode cL_law 1347 = .ok (.ireturn, 1) := dgq (p := 9) daL_law_1338 dbL_law_1338.2.2.2.2.1
theorem dL_law_1348 : decode cL_law 1348 = .ok (.iload 6, 2) := dgq (p := 10) daL_law_1338 dbL_law_1338.2.2.2.2.2.1
theorem dL_law_1350 : decode cL_law 1350 = .ok (.ifCond .ne 15, 3) := dgq (p := 12) daL_law_1338 dbL_law_1338.2.2.2.2.2.2.1
theorem dL_law_1353 : decode cL_law 1353 = .ok (.aload_n 3, 1) := dgq (p := 15) daL_law_1338 dbL_law_1338.2.2.2.2.2.2.2.1
theorem dL_law_1354 : decode cL_law 1354 = .ok (.iconst 0, 1) := dgq (p := 16) daL_law_1338 dbL_law_1338.2.2.2.2.2.2.2.2.1
theorem dL_law_1355 : decode cL_law 1355 = .ok (.laload, 1) := dgq (p := 17) daL_law_1338 dbL_law_1338.2.2.2.2.2.2.2.2.2
def dsL_law_1356 : ByteArray := ⟨#[21, 7, 133, 148, 153, 0, 5, 3, 172, 167, 6, 23, 43, 42, 21, 5]⟩
theorem daL_law_1356 : agB cL_law dsL_law_1356 1356 := agB_of (n := 16) (by decide +kernel)
theorem dbL_law_1356 : (decode dsL_law_1356 0 = .ok (.iload 7, 2) ∧ okop dsL_law_1356 0 = true) ∧ (decode dsL_law_1356 2 = .ok (.i2l, 1) ∧ okop dsL_law_1356 2 = true) ∧ (decode dsL_law_1356 3 = .ok (.lcmp, 1) ∧ okop dsL_law_1356 3 = true) ∧ (decode dsL_law_1356 4 = .ok (.ifCond .eq 5, 3) ∧ okop dsL_law_1356 4 = true) ∧ (decode dsL_law_1356 7 = .ok (.iconst 0, 1) ∧ okop dsL_law_1356 7 = true) ∧ (decode dsL_law_1356 8 = .ok (.ireturn, 1) ∧ okop dsL_law_1356 8 = true) ∧ (decode dsL_law_1356 9 = .ok (.goto 1559, 3) ∧ okop dsL_law_1356 9 = true) ∧ (decode dsL_law_1356 12 = .ok (.aload_n 1, 1) ∧ okop dsL_law_1356 12 = true) ∧ (decode dsL_law_1356 13 = .ok (.aload_n 0, 1) ∧ okop dsL_law_1356 13 = true) ∧ (decode dsL_law_1356 14 = .ok (.iload 5, 2) ∧ okop dsL_law_1356 14 = true) := by decide +kernel
theorem dL_law_1356 : decode cL_law 1356 = .ok (.iload 7, 2) := dgq (p := 0) daL_law_1356 dbL_law_1356.1
theorem dL_law_1358 : decode cL_law 1358 = .ok (.i2l, 1) := dgq (p := 2) daL_law_1356 dbL_law_1356.2.1
theorem dL_law_1359 : decode cL_law 1359 = .ok (.lcmp, 1) := dgq (p := 3) daL_law_1356 dbL_law_1356.2.2.1
theorem dL_law_1360 : decode cL_law 1360 = .ok (.ifCond .eq 5, 3) := dgq (p := 4) daL_law_1356 dbL_law_1356.2.2.2.1
theorem dL_law_1363 : decode cL_law 1363 = .ok (.iconst 0, 1) := dgq (p := 7) daL_law_1356 dbL_law_1356.2.2.2.2.1
theorem dL_law_1364 : decode cL_law 1364 = .ok (.ireturn, 1) := dgq (p := 8) daL_law_1356 dbL_law_1356.2.2.2.2.2.1
theorem dL_law_1365 : decode cL_law 1365 = .ok (.goto 1559, 3) := dgq (p := 9) daL_law_1356 dbL_law_1356.2.2.2.2.2.2.1
theorem dL_law_1368 : decode cL_law 1368 = .ok (.aload_n 1, 1) := dgq (p := 12) daL_law_1356 dbL_law_1356.2.2.2.2.2.2.2.1
theorem dL_law_1369 : decode cL_law 1369 = .ok (.aload_n 0, 1) := dgq (p := 13) daL_law_1356 dbL_law_1356.2.2.2.2.2.2.2.2.1
theorem dL_law_1370 : decode cL_law 1370 = .ok (.iload 5, 2) := dgq (p := 14) daL_law_1356 dbL_law_1356.2.2.2.2.2.2.2.2.2
def dsL_law_1372 : ByteArray := ⟨#[4, 96, 46, 42, 21, 5, 5, 96, 46, 42, 21, 5]⟩
theorem daL_law_1372 : agB cL_law dsL_law_1372 1372 := agB_of (n := 12) (by decide +kernel)
theorem dbL_law_1372 : (decode dsL_law_1372 0 = .ok (.iconst 1, 1) ∧ okop dsL_law_1372 0 = true) ∧ (decode dsL_law_1372 1 = .ok (.iadd, 1) ∧ okop dsL_law_1372 1 = true) ∧ (decode dsL_law_1372 2 = .ok (.iaload, 1) ∧ okop dsL_law_1372 2 = true) ∧ (decode dsL_law_1372 3 = .ok (.aload_n 0, 1) ∧ okop dsL_law_1372 3 = true) ∧ (decode dsL_law_1372 4 = .ok (.iload 5, 2) ∧ okop dsL_law_1372 4 = true) ∧ (decode dsL_law_1372 6 = .ok (.iconst 2, 1) ∧ okop dsL_law_1372 6 = true) ∧ (decode dsL_law_1372 7 = .ok (.iadd, 1) ∧ okop dsL_law_1372 7 = true) ∧ (decode dsL_law_1372 8 = .ok (.iaload, 1) ∧ okop dsL_law_1372 8 = true) ∧ (decode dsL_law_1372 9 = .ok (.aload_n 0, 1) ∧ okop dsL_law_1372 9 = true) ∧ (decode dsL_law_1372 10 = .ok (.iload 5, 2) ∧ okop dsL_law_1372 10 = true) := by decide +kernel
theorem dL_law_1372 : decode cL_law 1372 = .ok (.iconst 1, 1) := dgq (p := 0) daL_law_1372 dbL_law_1372.1
theorem dL_law_1373 : decode cL_law 1373 = .ok (.iadd, 1) := dgq (p := 1) daL_law_1372 dbL_law_1372.2.1
theorem dL_law_1374 : decode cL_law 1374 = .ok (.iaload, 1) := dgq (p := 2) daL_law_1372 dbL_law_1372.2.2.1
theorem dL_law_1375 : decode cL_law 1375 = .ok (.aload_n 0, 1) := dgq (p := 3) daL_law_1372 dbL_law_1372.2.2.2.1
theorem dL_law_1376 : decode cL_law 1376 = .ok (.iload 5, 2) := dgq (p := 4) daL_law_1372 dbL_law_1372.2.2.2.2.1
theorem dL_law_1378 : decode cL_law 1378 = .ok (.iconst 2, 1) := dgq (p := 6) daL_law_1372 dbL_law_1372.2.2.2.2.2.1
theorem dL_law_1379 : decode cL_law 1379 = .ok (.iadd, 1) := dgq (p := 7) daL_law_1372 dbL_law_1372.2.2.2.2.2.2.1
theorem dL_law_1380 : decode cL_law 1380 = .ok (.iaload, 1) := dgq (p := 8) daL_law_1372 dbL_law_1372.2.2.2.2.2.2.2.1
theorem dL_law_1381 : decode cL_law 1381 = .ok (.aload_n 0, 1) := dgq (p := 9) daL_law_1372 dbL_law_1372.2.2.2.2.2.2.2.2.1
theorem dL_law_1382 : decode cL_law 1382 = .ok (.iload 5, 2) := dgq (p := 10) daL_law_1372 dbL_law_1372.2.2.2.2.2.2.2.2.2
def dsL_law_1384 : ByteArray := ⟨#[6, 96, 46, 45, 184, 1, 48, 54, 6, 44, 42, 21, 5, 4]⟩
theorem daL_law_1384 : agB cL_law dsL_law_1384 1384 := agB_of (n := 14) (by decide +kernel)
theorem dbL_law_1384 : (decode dsL_law_1384 0 = .ok (.iconst 3, 1) ∧ okop dsL_law_1384 0 = true) ∧ (decode dsL_law_1384 1 = .ok (.iadd, 1) ∧ okop dsL_law_1384 1 = true) ∧ (decode dsL_law_1384 2 = .ok (.iaload, 1) ∧ okop dsL_law_1384 2 = true) ∧ (decode dsL_law_1384 3 = .ok (.aload_n 3, 1) ∧ okop dsL_law_1384 3 = true) ∧ (decode dsL_law_1384 4 = .ok (.invokestatic 304, 3) ∧ okop dsL_law_1384 4 = true) ∧ (decode dsL_law_1384 7 = .ok (.istore 6, 2) ∧ okop dsL_law_1384 7 = true) ∧ (decode dsL_law_1384 9 = .ok (.aload_n 2, 1) ∧ okop dsL_law_1384 9 = true) ∧ (decode dsL_law_1384 10 = .ok (.aload_n 0, 1) ∧ okop dsL_law_1384 10 = true) ∧ (decode dsL_law_1384 11 = .ok (.iload 5, 2) ∧ okop dsL_law_1384 11 = true) ∧ (decode dsL_law_1384 13 = .ok (.iconst 1, 1) ∧ okop dsL_law_1384 13 = true) := by decide +kernel
theorem dL_law_1384 : decode cL_law 1384 = .ok (.iconst 3, 1) := dgq (p := 0) daL_law_1384 dbL_law_1384.1
theorem dL_law_1385 : decode cL_law 1385 = .ok (.iadd, 1) := dgq (p := 1) daL_law_1384 dbL_law_1384.2.1
theorem dL_law_1386 : decode cL_law 1386 = .ok (.iaload, 1) := dgq (p := 2) daL_law_1384 dbL_law_1384.2.2.1
theorem dL_law_1387 : decode cL_law 1387 = .ok (.aload_n 3, 1) := dgq (p := 3) daL_law_1384 dbL_law_1384.2.2.2.1
theorem dL_law_1388 : decode cL_law 1388 = .ok (.invokestatic 304, 3) := dgq (p := 4) daL_law_1384 dbL_law_1384.2.2.2.2.1
theorem dL_law_1391 : decode cL_law 1391 = .ok (.istore 6, 2) := dgq (p := 7) daL_law_1384 dbL_law_1384.2.2.2.2.2.1
theorem dL_law_1393 : decode cL_law 1393 = .ok (.aload_n 2, 1) := dgq (p := 9) daL_law_1384 dbL_law_1384.2.2.2.2.2.2.1
theorem dL_law_1394 : decode cL_law 1394 = .ok (.aload_n 0, 1) := dgq (p := 10) daL_law_1384 dbL_law_1384.2.2.2.2.2.2.2.1
theorem dL_law_1395 : decode cL_law 1395 = .ok (.iload 5, 2) := dgq (p := 11) daL_law_1384 dbL_law_1384.2.2.2.2.2.2.2.2.1
theorem dL_law_1397 : decode cL_law 1397 = .ok (.iconst 1, 1) := dgq (p := 13) daL_law_1384 dbL_law_1384.2.2.2.2.2.2.2.2.2
def dsL_law_1398 : ByteArray := ⟨#[96, 46, 42, 21, 5, 5, 96, 46, 42, 21, 5, 6]⟩
theorem daL_law_1398 : agB cL_law dsL_law_1398 1398 := agB_of (n := 12) (by decide +kernel)
theorem dbL_law_1398 : (decode dsL_law_1398 0 = .ok (.iadd, 1) ∧ okop dsL_law_1398 0 = true) ∧ (decode dsL_law_1398 1 = .ok (.iaload, 1) ∧ okop dsL_law_1398 1 = true) ∧ (decode dsL_law_1398 2 = .ok (.aload_n 0, 1) ∧ okop dsL_law_1398 2 = true) ∧ (decode dsL_law_1398 3 = .ok (.iload 5, 2) ∧ okop dsL_law_1398 3 = true) ∧ (decode dsL_law_1398 5 = .ok (.iconst 2, 1) ∧ okop dsL_law_1398 5 = true) ∧ (decode dsL_law_1398 6 = .ok (.iadd, 1) ∧ okop dsL_law_1398 6 = true) ∧ (decode dsL_law_1398 7 = .ok (.iaload, 1) ∧ okop dsL_law_1398 7 = true) ∧ (decode dsL_law_1398 8 = .ok (.aload_n 0, 1) ∧ okop dsL_law_1398 8 = true) ∧ (decode dsL_law_1398 9 = .ok (.iload 5, 2) ∧ okop dsL_law_1398 9 = true) ∧ (decode dsL_law_1398 11 = .ok (.iconst 3, 1) ∧ okop dsL_law_1398 11 = true) := by decide +kernel
theorem dL_law_1398 : decode cL_law 1398 = .ok (.iadd, 1) := dgq (p := 0) daL_law_1398 dbL_law_1398.1
theorem dL_law_1399 : decode cL_law 1399 = .ok (.iaload, 1) := dgq (p := 1) daL_law_1398 dbL_law_1398.2.1
theorem dL_law_1400 : decode cL_law 1400 = .ok (.aload_n 0, 1) := dgq (p := 2) daL_law_1398 dbL_law_1398.2.2.1
theorem dL_law_1401 : decode cL_law 1401 = .ok (.iload 5, 2) := dgq (p := 3) daL_law_1398 dbL_law_1398.2.2.2.1
theorem dL_law_1403 : decode cL_law 1403 = .ok (.iconst 2, 1) := dgq (p := 5) daL_law_1398 dbL_law_1398.2.2.2.2.1
theorem dL_law_1404 : decode cL_law 1404 = .ok (.iadd, 1) := dgq (p := 6) daL_law_1398 dbL_law_1398.2.2.2.2.2.1
theorem dL_law_1405 : decode cL_law 1405 = .ok (.iaload, 1) := dgq (p := 7) daL_law_1398 dbL_law_1398.2.2.2.2.2.2.1
theorem dL_law_1406 : decode cL_law 1406 = .ok (.aload_n 0, 1) := dgq (p := 8) daL_law_1398 dbL_law_1398.2.2.2.2.2.2.2.1
theorem dL_law_1407 : decode cL_law 1407 = .ok (.iload 5, 2) := dgq (p := 9) daL_law_1398 dbL_law_1398.2.2.2.2.2.2.2.2.1
theorem dL_law_1409 : decode cL_law 1409 = .ok (.iconst 3, 1) := dgq (p := 11) daL_law_1398 dbL_law_1398.2.2.2.2.2.2.2.2.2
def dsL_law_1410 : ByteArray := ⟨#[96, 46, 182, 1, 50, 54, 7, 167, 5, 227, 43, 42, 21, 5, 4, 96]⟩
theorem daL_law_1410 : agB cL_law dsL_law_1410 1410 := agB_of (n := 16) (by decide +kernel)
theorem dbL_law_1410 : (decode dsL_law_1410 0 = .ok (.iadd, 1) ∧ okop dsL_law_1410 0 = true) ∧ (decode dsL_law_1410 1 = .ok (.iaload, 1) ∧ okop dsL_law_1410 1 = true) ∧ (decode dsL_law_1410 2 = .ok (.invokevirtual 306, 3) ∧ okop dsL_law_1410 2 = true) ∧ (decode dsL_law_1410 5 = .ok (.istore 7, 2) ∧ okop dsL_law_1410 5 = true) ∧ (decode dsL_law_1410 7 = .ok (.goto 1507, 3) ∧ okop dsL_law_1410 7 = true) ∧ (decode dsL_law_1410 10 = .ok (.aload_n 1, 1) ∧ okop dsL_law_1410 10 = true) ∧ (decode dsL_law_1410 11 = .ok (.aload_n 0, 1) ∧ okop dsL_law_1410 11 = true) ∧ (decode dsL_law_1410 12 = .ok (.iload 5, 2) ∧ okop dsL_law_1410 12 = true) ∧ (decode dsL_law_1410 14 = .ok (.iconst 1, 1) ∧ okop dsL_law_1410 14 = true) ∧ (decode dsL_law_1410 15 = .ok (.iadd, 1) ∧ okop dsL_law_1410 15 = true) := by decide +kernel
theorem dL_law_1410 : decode cL_law 1410 = .ok (.iadd, 1) := dgq (p := 0) daL_law_1410 dbL_law_1410.1
theorem dL_law_1411 : decode cL_law 1411 = .ok (.iaload, 1) := dgq (p := 1) daL_law_1410 dbL_law_1410.2.1
theorem dL_law_1412 : decode cL_law 1412 = .ok (.invokevirtual 306, 3) := dgq (p := 2) daL_law_1410 dbL_law_1410.2.2.1
theorem dL_law_1415 : decode cL_law 1415 = .ok (.istore 7, 2) := dgq (p := 5) daL_law_1410 dbL_law_1410.2.2.2.1
theorem dL_law_1417 : decode cL_law 1417 = .ok (.goto 1507, 3) := dgq (p := 7) daL_law_1410 dbL_law_1410.2.2.2.2.1
theorem dL_law_1420 : decode cL_law 1420 = .ok (.aload_n 1, 1) := dgq (p := 10) daL_law_1410 dbL_law_1410.2.2.2.2.2.1
theorem dL_law_1421 : decode cL_law 1421 = .ok (.aload_n 0, 1) := dgq (p := 11) daL_law_1410 dbL_law_1410.2.2.2.2.2.2.1
theorem dL_law_1422 : decode cL_law 1422 = .ok (.iload 5, 2) := dgq (p := 12) daL_law_1410 dbL_law_1410.2.2.2.2.2.2.2.1
theorem dL_law_1424 : decode cL_law 1424 = .ok (.iconst 1, 1) := dgq (p := 14) daL_law_1410 dbL_law_1410.2.2.2.2.2.2.2.2.1
theorem dL_law_1425 : decode cL_law 1425 = .ok (.iadd, 1) := dgq (p := 15) daL_law_1410 dbL_law_1410.2.2.2.2.2.2.2.2.2
def dsL_law_1426 : ByteArray := ⟨#[46, 42, 21, 5, 5, 96, 46, 42, 21, 5, 6, 96]⟩
theorem daL_law_1426 : agB cL_law dsL_law_1426 1426 := agB_of (n := 12) (by decide +kernel)
theorem dbL_law_1426 : (decode dsL_law_1426 0 = .ok (.iaload, 1) ∧ okop dsL_law_1426 0 = true) ∧ (decode dsL_law_1426 1 = .ok (.aload_n 0, 1) ∧ okop dsL_law_1426 1 = true) ∧ (decode dsL_law_1426 2 = .ok (.iload 5, 2) ∧ okop dsL_law_1426 2 = true) ∧ (decode dsL_law_1426 4 = .ok (.iconst 2, 1) ∧ okop dsL_law_1426 4 = true) ∧ (decode dsL_law_1426 5 = .ok (.iadd, 1) ∧ okop dsL_law_1426 5 = true) ∧ (decode dsL_law_1426 6 = .ok (.iaload, 1) ∧ okop dsL_law_1426 6 = true) ∧ (decode dsL_law_1426 7 = .ok (.aload_n 0, 1) ∧ okop dsL_law_1426 7 = true) ∧ (decode dsL_law_1426 8 = .ok (.iload 5, 2) ∧ okop dsL_law_1426 8 = true) ∧ (decode dsL_law_1426 10 = .ok (.iconst 3, 1) ∧ okop dsL_law_1426 10 = true) ∧ (decode dsL_law_1426 11 = .ok (.iadd, 1) ∧ okop dsL_law_1426 11 = true) := by decide +kernel
theorem dL_law_1426 : decode cL_law 1426 = .ok (.iaload, 1) := dgq (p := 0) daL_law_1426 dbL_law_1426.1
theorem dL_law_1427 : decode cL_law 1427 = .ok (.aload_n 0, 1) := dgq (p := 1) daL_law_1426 dbL_law_1426.2.1
theorem dL_law_1428 : decode cL_law 1428 = .ok (.iload 5, 2) := dgq (p := 2) daL_law_1426 dbL_law_1426.2.2.1
theorem dL_law_1430 : decode cL_law 1430 = .ok (.iconst 2, 1) := dgq (p := 4) daL_law_1426 dbL_law_1426.2.2.2.1
theorem dL_law_1431 : decode cL_law 1431 = .ok (.iadd, 1) := dgq (p := 5) daL_law_1426 dbL_law_1426.2.2.2.2.1
theorem dL_law_1432 : decode cL_law 1432 = .ok (.iaload, 1) := dgq (p := 6) daL_law_1426 dbL_law_1426.2.2.2.2.2.1
theorem dL_law_1433 : decode cL_law 1433 = .ok (.aload_n 0, 1) := dgq (p := 7) daL_law_1426 dbL_law_1426.2.2.2.2.2.2.1
theorem dL_law_1434 : decode cL_law 1434 = .ok (.iload 5, 2) := dgq (p := 8) daL_law_1426 dbL_law_1426.2.2.2.2.2.2.2.1
theorem dL_law_1436 : decode cL_law 1436 = .ok (.iconst 3, 1) := dgq (p := 10) daL_law_1426 dbL_law_1426.2.2.2.2.2.2.2.2.1
theorem dL_law_1437 : decode cL_law 1437 = .ok (.iadd, 1) := dgq (p := 11) daL_law_1426 dbL_law_1426.2.2.2.2.2.2.2.2.2
def dsL_law_1438 : ByteArray := ⟨#[46, 45, 184, 1, 51, 54, 6, 44, 42, 21, 5, 4, 96, 46]⟩
theorem daL_law_1438 : agB cL_law dsL_law_1438 1438 := agB_of (n := 14) (by decide +kernel)
theorem dbL_law_1438 : (decode dsL_law_1438 0 = .ok (.iaload, 1) ∧ okop dsL_law_1438 0 = true) ∧ (decode dsL_law_1438 1 = .ok (.aload_n 3, 1) ∧ okop dsL_law_1438 1 = true) ∧ (decode dsL_law_1438 2 = .ok (.invokestatic 307, 3) ∧ okop dsL_law_1438 2 = true) ∧ (decode dsL_law_1438 5 = .ok (.istore 6, 2) ∧ okop dsL_law_1438 5 = true) ∧ (decode dsL_law_1438 7 = .ok (.aload_n 2, 1) ∧ okop dsL_law_1438 7 = true) ∧ (decode dsL_law_1438 8 = .ok (.aload_n 0, 1) ∧ okop dsL_law_1438 8 = true) ∧ (decode dsL_law_1438 9 = .ok (.iload 5, 2) ∧ okop dsL_law_1438 9 = true) ∧ (decode dsL_law_1438 11 = .ok (.iconst 1, 1) ∧ okop dsL_law_1438 11 = true) ∧ (decode dsL_law_1438 12 = .ok (.iadd, 1) ∧ okop dsL_law_1438 12 = true) ∧ (decode dsL_law_1438 13 = .ok (.iaload, 1) ∧ okop dsL_law_1438 13 = true) := by decide +kernel
theorem dL_law_1438 : decode cL_law 1438 = .ok (.iaload, 1) := dgq (p := 0) daL_law_1438 dbL_law_1438.1
theorem dL_law_1439 : decode cL_law 1439 = .ok (.aload_n 3, 1) := dgq (p := 1) daL_law_1438 dbL_law_1438.2.1
theorem dL_law_1440 : decode cL_law 1440 = .ok (.invokestatic 307, 3) := dgq (p := 2) daL_law_1438 dbL_law_1438.2.2.1
theorem dL_law_1443 : decode cL_law 1443 = .ok (.istore 6, 2) := dgq (p := 5) daL_law_1438 dbL_law_1438.2.2.2.1
theorem dL_law_1445 : decode cL_law 1445 = .ok (.aload_n 2, 1) := dgq (p := 7) daL_law_1438 dbL_law_1438.2.2.2.2.1
theorem dL_law_1446 : decode cL_law 1446 = .ok (.aload_n 0, 1) := dgq (p := 8) daL_law_1438 dbL_law_1438.2.2.2.2.2.1
theorem dL_law_1447 : decode cL_law 1447 = .ok (.iload 5, 2) := dgq (p := 9) daL_law_1438 dbL_law_1438.2.2.2.2.2.2.1
theorem dL_law_1449 : decode cL_law 1449 = .ok (.iconst 1, 1) := dgq (p := 11) daL_law_1438 dbL_law_1438.2.2.2.2.2.2.2.1
theorem dL_law_1450 : decode cL_law 1450 = .ok (.iadd, 1) := dgq (p := 12) daL_law_1438 dbL_law_1438.2.2.2.2.2.2.2.2.1
theorem dL_law_1451 : decode cL_law 1451 = .ok (.iaload, 1) := dgq (p := 13) daL_law_1438 dbL_law_1438.2.2.2.2.2.2.2.2.2
def dsL_law_1452 : ByteArray := ⟨#[42, 21, 5, 5, 96, 46, 42, 21, 5, 6, 96, 46]⟩
theorem daL_law_1452 : agB cL_law dsL_law_1452 1452 := agB_of (n := 12) (by decide +kernel)
theorem dbL_law_1452 : (decode dsL_law_1452 0 = .ok (.aload_n 0, 1) ∧ okop dsL_law_1452 0 = true) ∧ (decode dsL_law_1452 1 = .ok (.iload 5, 2) ∧ okop dsL_law_1452 1 = true) ∧ (decode dsL_law_1452 3 = .ok (.iconst 2, 1) ∧ okop dsL_law_1452 3 = true) ∧ (decode dsL_law_1452 4 = .ok (.iadd, 1) ∧ okop dsL_law_1452 4 = true) ∧ (decode dsL_law_1452 5 = .ok (.iaload, 1) ∧ okop dsL_law_1452 5 = true) ∧ (decode dsL_law_1452 6 = .ok (.aload_n 0, 1) ∧ okop dsL_law_1452 6 = true) ∧ (decode dsL_law_1452 7 = .ok (.iload 5, 2) ∧ okop dsL_law_1452 7 = true) ∧ (decode dsL_law_1452 9 = .ok (.iconst 3, 1) ∧ okop dsL_law_1452 9 = true) ∧ (decode dsL_law_1452 10 = .ok (.iadd, 1) ∧ okop dsL_law_1452 10 = true) ∧ (decode dsL_law_1452 11 = .ok (.iaload, 1) ∧ okop dsL_law_1452 11 = true) := by decide +kernel
theorem dL_law_1452 : decode cL_law 1452 = .ok (.aload_n 0, 1) := dgq (p := 0) daL_law_1452 dbL_law_1452.1
theorem dL_law_1453 : decode cL_law 1453 = .ok (.iload 5, 2) := dgq (p := 1) daL_law_1452 dbL_law_1452.2.1
theorem dL_law_1455 : decode cL_law 1455 = .ok (.iconst 2, 1) := dgq (p := 3) daL_law_1452 dbL_law_1452.2.2.1
theorem dL_law_1456 : decode cL_law 1456 = .ok (.iadd, 1) := dgq (p := 4) daL_law_1452 dbL_law_1452.2.2.2.1
theorem dL_law_1457 : decode cL_law 1457 = .ok (.iaload, 1) := dgq (p := 5) daL_law_1452 dbL_law_1452.2.2.2.2.1
theorem dL_law_1458 : decode cL_law 1458 = .ok (.aload_n 0, 1) := dgq (p := 6) daL_law_1452 dbL_law_1452.2.2.2.2.2.1
theorem dL_law_1459 : decode cL_law 1459 = .ok (.iload 5, 2) := dgq (p := 7) daL_law_1452 dbL_law_1452.2.2.2.2.2.2.1
theorem dL_law_1461 : decode cL_law 1461 = .ok (.iconst 3, 1) := dgq (p := 9) daL_law_1452 dbL_law_1452.2.2.2.2.2.2.2.1
theorem dL_law_1462 : decode cL_law 1462 = .ok (.iadd, 1) := dgq (p := 10) daL_law_1452 dbL_law_1452.2.2.2.2.2.2.2.2.1
theorem dL_law_1463 : decode cL_law 1463 = .ok (.iaload, 1) := dgq (p := 11) daL_law_1452 dbL_law_1452.2.2.2.2.2.2.2.2.2
def dsL_law_1464 : ByteArray := ⟨#[182, 1, 53, 54, 7, 167, 5, 175, 43, 42, 21, 5, 4, 96, 46, 42]⟩
theorem daL_law_1464 : agB cL_law dsL_law_1464 1464 := agB_of (n := 16) (by decide +kernel)
theorem dbL_law_1464 : (decode dsL_law_1464 0 = .ok (.invokevirtual 309, 3) ∧ okop dsL_law_1464 0 = true) ∧ (decode dsL_law_1464 3 = .ok (.istore 7, 2) ∧ okop dsL_law_1464 3 = true) ∧ (decode dsL_law_1464 5 = .ok (.goto 1455, 3) ∧ okop dsL_law_1464 5 = true) ∧ (decode dsL_law_1464 8 = .ok (.aload_n 1, 1) ∧ okop dsL_law_1464 8 = true) ∧ (decode dsL_law_1464 9 = .ok (.aload_n 0, 1) ∧ okop dsL_law_1464 9 = true) ∧ (decode dsL_law_1464 10 = .ok (.iload 5, 2) ∧ okop dsL_law_1464 10 = true) ∧ (decode dsL_law_1464 12 = .ok (.iconst 1, 1) ∧ okop dsL_law_1464 12 = true) ∧ (decode dsL_law_1464 13 = .ok (.iadd, 1) ∧ okop dsL_law_1464 13 = true) ∧ (decode dsL_law_1464 14 = .ok (.iaload, 1) ∧ okop dsL_law_1464 14 = true) ∧ (decode dsL_law_1464 15 = .ok (.aload_n 0, 1) ∧ okop dsL_law_1464 15 = true) := by decide +kernel
theorem dL_law_1464 : decode cL_law 1464 = .ok (.invokevirtual 309, 3) := dgq (p := 0) daL_law_1464 dbL_law_1464.1
theorem dL_law_1467 : decode cL_law 1467 = .ok (.istore 7, 2) := dgq (p := 3) daL_law_1464 dbL_law_1464.2.1
theorem dL_law_1469 : decode cL_law 1469 = .ok (.goto 1455, 3) := dgq (p := 5) daL_law_1464 dbL_law_1464.2.2.1
theorem dL_law_1472 : decode cL_law 1472 = .ok (.aload_n 1, 1) := dgq (p := 8) daL_law_1464 dbL_law_1464.2.2.2.1
theorem dL_law_1473 : decode cL_law 1473 = .ok (.aload_n 0, 1) := dgq (p := 9) daL_law_1464 dbL_law_1464.2.2.2.2.1
theorem dL_law_1474 : decode cL_law 1474 = .ok (.iload 5, 2) := dgq (p := 10) daL_law_1464 dbL_law_1464.2.2.2.2.2.1
theorem dL_law_1476 : decode cL_law 1476 = .ok (.iconst 1, 1) := dgq (p := 12) daL_law_1464 dbL_law_1464.2.2.2.2.2.2.1
theorem dL_law_1477 : decode cL_law 1477 = .ok (.iadd, 1) := dgq (p := 13) daL_law_1464 dbL_law_1464.2.2.2.2.2.2.2.1
theorem dL_law_1478 : decode cL_law 1478 = .ok (.iaload, 1) := dgq (p := 14) daL_law_1464 dbL_law_1464.2.2.2.2.2.2.2.2.1
theorem dL_law_1479 : decode cL_law 1479 = .ok (.aload_n 0, 1) := dgq (p := 15) daL_law_1464 dbL_law_1464.2.2.2.2.2.2.2.2.2
def dsL_law_1480 : ByteArray := ⟨#[21, 5, 5, 96, 46, 45, 184, 1, 54, 54, 6, 44, 42, 21, 5]⟩
theorem daL_law_1480 : agB cL_law dsL_law_1480 1480 := agB_of (n := 15) (by decide +kernel)
theorem dbL_law_1480 : (decode dsL_law_1480 0 = .ok (.iload 5, 2) ∧ okop dsL_law_1480 0 = true) ∧ (decode dsL_law_1480 2 = .ok (.iconst 2, 1) ∧ okop dsL_law_1480 2 = true) ∧ (decode dsL_law_1480 3 = .ok (.iadd, 1) ∧ okop dsL_law_1480 3 = true) ∧ (decode dsL_law_1480 4 = .ok (.iaload, 1) ∧ okop dsL_law_1480 4 = true) ∧ (decode dsL_law_1480 5 = .ok (.aload_n 3, 1) ∧ okop dsL_law_1480 5 = true) ∧ (decode dsL_law_1480 6 = .ok (.invokestatic 310, 3) ∧ okop dsL_law_1480 6 = true) ∧ (decode dsL_law_1480 9 = .ok (.istore 6, 2) ∧ okop dsL_law_1480 9 = true) ∧ (decode dsL_law_1480 11 = .ok (.aload_n 2, 1) ∧ okop dsL_law_1480 11 = true) ∧ (decode dsL_law_1480 12 = .ok (.aload_n 0, 1) ∧ okop dsL_law_1480 12 = true) ∧ (decode dsL_law_1480 13 = .ok (.iload 5, 2) ∧ okop dsL_law_1480 13 = true) := by decide +kernel
theorem dL_law_1480 : decode cL_law 1480 = .ok (.iload 5, 2) := dgq (p := 0) daL_law_1480 dbL_law_1480.1
theorem dL_law_1482 : decode cL_law 1482 = .ok (.iconst 2, 1) := dgq (p := 2) daL_law_1480 dbL_law_1480.2.1
theorem dL_law_1483 : decode cL_law 1483 = .ok (.iadd, 1) := dgq (p := 3) daL_law_1480 dbL_law_1480.2.2.1
theorem dL_law_1484 : decode cL_law 1484 = .ok (.iaload, 1) := dgq (p := 4) daL_law_1480 dbL_law_1480.2.2.2.1
theorem dL_law_1485 : decode cL_law 1485 = .ok (.aload_n 3, 1) := dgq (p := 5) daL_law_1480 dbL_law_1480.2.2.2.2.1
theorem dL_law_1486 : decode cL_law 1486 = .ok (.invokestatic 310, 3) := dgq (p := 6) daL_law_1480 dbL_law_1480.2.2.2.2.2.1
theorem dL_law_1489 : decode cL_law 1489 = .ok (.istore 6, 2) := dgq (p := 9) daL_law_1480 dbL_law_1480.2.2.2.2.2.2.1
theorem dL_law_1491 : decode cL_law 1491 = .ok (.aload_n 2, 1) := dgq (p := 11) daL_law_1480 dbL_law_1480.2.2.2.2.2.2.2.1
theorem dL_law_1492 : decode cL_law 1492 = .ok (.aload_n 0, 1) := dgq (p := 12) daL_law_1480 dbL_law_1480.2.2.2.2.2.2.2.2.1
theorem dL_law_1493 : decode cL_law 1493 = .ok (.iload 5, 2) := dgq (p := 13) daL_law_1480 dbL_law_1480.2.2.2.2.2.2.2.2.2
def dsL_law_1495 : ByteArray := ⟨#[4, 96, 46, 42, 21, 5, 5, 96, 46, 182, 1, 56, 54, 7]⟩
theorem daL_law_1495 : agB cL_law dsL_law_1495 1495 := agB_of (n := 14) (by decide +kernel)
theorem dbL_law_1495 : (decode dsL_law_1495 0 = .ok (.iconst 1, 1) ∧ okop dsL_law_1495 0 = true) ∧ (decode dsL_law_1495 1 = .ok (.iadd, 1) ∧ okop dsL_law_1495 1 = true) ∧ (decode dsL_law_1495 2 = .ok (.iaload, 1) ∧ okop dsL_law_1495 2 = true) ∧ (decode dsL_law_1495 3 = .ok (.aload_n 0, 1) ∧ okop dsL_law_1495 3 = true) ∧ (decode dsL_law_1495 4 = .ok (.iload 5, 2) ∧ okop dsL_law_1495 4 = true) ∧ (decode dsL_law_1495 6 = .ok (.iconst 2, 1) ∧ okop dsL_law_1495 6 = true) ∧ (decode dsL_law_1495 7 = .ok (.iadd, 1) ∧ okop dsL_law_1495 7 = true) ∧ (decode dsL_law_1495 8 = .ok (.iaload, 1) ∧ okop dsL_law_1495 8 = true) ∧ (decode dsL_law_1495 9 = .ok (.invokevirtual 312, 3) ∧ okop dsL_law_1495 9 = true) ∧ (decode dsL_law_1495 12 = .ok (.istore 7, 2) ∧ okop dsL_law_1495 12 = true) := by decide +kernel
theorem dL_law_1495 : decode cL_law 1495 = .ok (.iconst 1, 1) := dgq (p := 0) daL_law_1495 dbL_law_1495.1
theorem dL_law_1496 : decode cL_law 1496 = .ok (.iadd, 1) := dgq (p := 1) daL_law_1495 dbL_law_1495.2.1
theorem dL_law_1497 : decode cL_law 1497 = .ok (.iaload, 1) := dgq (p := 2) daL_law_1495 dbL_law_1495.2.2.1
theorem dL_law_1498 : decode cL_law 1498 = .ok (.aload_n 0, 1) := dgq (p := 3) daL_law_1495 dbL_law_1495.2.2.2.1
theorem dL_law_1499 : decode cL_law 1499 = .ok (.iload 5, 2) := dgq (p := 4) daL_law_1495 dbL_law_1495.2.2.2.2.1
theorem dL_law_1501 : decode cL_law 1501 = .ok (.iconst 2, 1) := dgq (p := 6) daL_law_1495 dbL_law_1495.2.2.2.2.2.1
theorem dL_law_1502 : decode cL_law 1502 = .ok (.iadd, 1) := dgq (p := 7) daL_law_1495 dbL_law_1495.2.2.2.2.2.2.1
theorem dL_law_1503 : decode cL_law 1503 = .ok (.iaload, 1) := dgq (p := 8) daL_law_1495 dbL_law_1495.2.2.2.2.2.2.2.1
theorem dL_law_1504 : decode cL_law 1504 = .ok (.invokevirtual 312, 3) := dgq (p := 9) daL_law_1495 dbL_law_1495.2.2.2.2.2.2.2.2.1
theorem dL_law_1507 : decode cL_law 1507 = .ok (.istore 7, 2) := dgq (p := 12) daL_law_1495 dbL_law_1495.2.2.2.2.2.2.2.2.2
def dsL_law_1509 : ByteArray := ⟨#[167, 5, 135, 43, 42, 21, 5, 4, 96, 46, 45, 184, 1, 57, 54, 6]⟩
theorem daL_law_1509 : agB cL_law dsL_law_1509 1509 := agB_of (n := 16) (by decide +kernel)
theorem dbL_law_1509 : (decode dsL_law_1509 0 = .ok (.goto 1415, 3) ∧ okop dsL_law_1509 0 = true) ∧ (decode dsL_law_1509 3 = .ok (.aload_n 1, 1) ∧ okop dsL_law_1509 3 = true) ∧ (decode dsL_law_1509 4 = .ok (.aload_n 0, 1) ∧ okop dsL_law_1509 4 = true) ∧ (decode dsL_law_1509 5 = .ok (.iload 5, 2) ∧ okop dsL_law_1509 5 = true) ∧ (decode dsL_law_1509 7 = .ok (.iconst 1, 1) ∧ okop dsL_law_1509 7 = true) ∧ (decode dsL_law_1509 8 = .ok (.iadd, 1) ∧ okop dsL_law_1509 8 = true) ∧ (decode dsL_law_1509 9 = .ok (.iaload, 1) ∧ okop dsL_law_1509 9 = true) ∧ (decode dsL_law_1509 10 = .ok (.aload_n 3, 1) ∧ okop dsL_law_1509 10 = true) ∧ (decode dsL_law_1509 11 = .ok (.invokestatic 313, 3) ∧ okop dsL_law_1509 11 = true) ∧ (decode dsL_law_1509 14 = .ok (.istore 6, 2) ∧ okop dsL_law_1509 14 = true) := by decide +kernel
theorem dL_law_1509 : decode cL_law 1509 = .ok (.goto 1415, 3) := dgq (p := 0) daL_law_1509 dbL_law_1509.1
theorem dL_law_1512 : decode cL_law 1512 = .ok (.aload_n 1, 1) := dgq (p := 3) daL_law_1509 dbL_law_1509.2.1
theorem dL_law_1513 : decode cL_law 1513 = .ok (.aload_n 0, 1) := dgq (p := 4) daL_law_1509 dbL_law_1509.2.2.1
theorem dL_law_1514 : decode cL_law 1514 = .ok (.iload 5, 2) := dgq (p := 5) daL_law_1509 dbL_law_1509.2.2.2.1
theorem dL_law_1516 : decode cL_law 1516 = .ok (.iconst 1, 1) := dgq (p := 7) daL_law_1509 dbL_law_1509.2.2.2.2.1
theorem dL_law_1517 : decode cL_law 1517 = .ok (.iadd, 1) := dgq (p := 8) daL_law_1509 dbL_law_1509.2.2.2.2.2.1
theorem dL_law_1518 : decode cL_law 1518 = .ok (.iaload, 1) := dgq (p := 9) daL_law_1509 dbL_law_1509.2.2.2.2.2.2.1
theorem dL_law_1519 : decode cL_law 1519 = .ok (.aload_n 3, 1) := dgq (p := 10) daL_law_1509 dbL_law_1509.2.2.2.2.2.2.2.1
theorem dL_law_1520 : decode cL_law 1520 = .ok (.invokestatic 313, 3) := dgq (p := 11) daL_law_1509 dbL_law_1509.2.2.2.2.2.2.2.2.1
theorem dL_law_1523 : decode cL_law 1523 = .ok (.istore 6, 2) := dgq (p := 14) daL_law_1509 dbL_law_1509.2.2.2.2.2.2.2.2.2
def dsL_law_1525 : ByteArray := ⟨#[44, 42, 21, 5, 4, 96, 46, 182, 1, 59, 54, 7, 167, 5, 107, 43]⟩
theorem daL_law_1525 : agB cL_law dsL_law_1525 1525 := agB_of (n := 16) (by decide +kernel)
theorem dbL_law_1525 : (decode dsL_law_1525 0 = .ok (.aload_n 2, 1) ∧ okop dsL_law_1525 0 = true) ∧ (decode dsL_law_1525 1 = .ok (.aload_n 0, 1) ∧ okop dsL_law_1525 1 = true) ∧ (decode dsL_law_1525 2 = .ok (.iload 5, 2) ∧ okop dsL_law_1525 2 = true) ∧ (decode dsL_law_1525 4 = .ok (.iconst 1, 1) ∧ okop dsL_law_1525 4 = true) ∧ (decode dsL_law_1525 5 = .ok (.iadd, 1) ∧ okop dsL_law_1525 5 = true) ∧ (decode dsL_law_1525 6 = .ok (.iaload, 1) ∧ okop dsL_law_1525 6 = true) ∧ (decode dsL_law_1525 7 = .ok (.invokevirtual 315, 3) ∧ okop dsL_law_1525 7 = true) ∧ (decode dsL_law_1525 10 = .ok (.istore 7, 2) ∧ okop dsL_law_1525 10 = true) ∧ (decode dsL_law_1525 12 = .ok (.goto 1387, 3) ∧ okop dsL_law_1525 12 = true) ∧ (decode dsL_law_1525 15 = .ok (.aload_n 1, 1) ∧ okop dsL_law_1525 15 = true) := by decide +kernel
theorem dL_law_1525 : decode cL_law 1525 = .ok (.aload_n 2, 1) := dgq (p := 0) daL_law_1525 dbL_law_1525.1
theorem dL_law_1526 : decode cL_law 1526 = .ok (.aload_n 0, 1) := dgq (p := 1) daL_law_1525 dbL_law_1525.2.1
theorem dL_law_1527 : decode cL_law 1527 = .ok (.iload 5, 2) := dgq (p := 2) daL_law_1525 dbL_law_1525.2.2.1
theorem dL_law_1529 : decode cL_law 1529 = .ok (.iconst 1, 1) := dgq (p := 4) daL_law_1525 dbL_law_1525.2.2.2.1
theorem dL_law_1530 : decode cL_law 1530 = .ok (.iadd, 1) := dgq (p := 5) daL_law_1525 dbL_law_1525.2.2.2.2.1
theorem dL_law_1531 : decode cL_law 1531 = .ok (.iaload, 1) := dgq (p := 6) daL_law_1525 dbL_law_1525.2.2.2.2.2.1
theorem dL_law_1532 : decode cL_law 1532 = .ok (.invokevirtual 315, 3) := dgq (p := 7) daL_law_1525 dbL_law_1525.2.2.2.2.2.2.1
theorem dL_law_1535 : decode cL_law 1535 = .ok (.istore 7, 2) := dgq (p := 10) daL_law_1525 dbL_law_1525.2.2.2.2.2.2.2.1
theorem dL_law_1537 : decode cL_law 1537 = .ok (.goto 1387, 3) := dgq (p := 12) daL_law_1525 dbL_law_1525.2.2.2.2.2.2.2.2.1
theorem dL_law_1540 : decode cL_law 1540 = .ok (.aload_n 1, 1) := dgq (p := 15) daL_law_1525 dbL_law_1525.2.2.2.2.2.2.2.2.2
def dsL_law_1541 : ByteArray := ⟨#[42, 21, 5, 4, 96, 46, 42, 21, 5, 5, 96, 46]⟩
theorem daL_law_1541 : agB cL_law dsL_law_1541 1541 := agB_of (n := 12) (by decide +kernel)
theorem dbL_law_1541 : (decode dsL_law_1541 0 = .ok (.aload_n 0, 1) ∧ okop dsL_law_1541 0 = true) ∧ (decode dsL_law_1541 1 = .ok (.iload 5, 2) ∧ okop dsL_law_1541 1 = true) ∧ (decode dsL_law_1541 3 = .ok (.iconst 1, 1) ∧ okop dsL_law_1541 3 = true) ∧ (decode dsL_law_1541 4 = .ok (.iadd, 1) ∧ okop dsL_law_1541 4 = true) ∧ (decode dsL_law_1541 5 = .ok (.iaload, 1) ∧ okop dsL_law_1541 5 = true) ∧ (decode dsL_law_1541 6 = .ok (.aload_n 0, 1) ∧ okop dsL_law_1541 6 = true) ∧ (decode dsL_law_1541 7 = .ok (.iload 5, 2) ∧ okop dsL_law_1541 7 = true) ∧ (decode dsL_law_1541 9 = .ok (.iconst 2, 1) ∧ okop dsL_law_1541 9 = true) ∧ (decode dsL_law_1541 10 = .ok (.iadd, 1) ∧ okop dsL_law_1541 10 = true) ∧ (decode dsL_law_1541 11 = .ok (.iaload, 1) ∧ okop dsL_law_1541 11 = true) := by decide +kernel
theorem dL_law_1541 : decode cL_law 1541 = .ok (.aload_n 0, 1) := dgq (p := 0) daL_law_1541 dbL_law_1541.1
theorem dL_law_1542 : decode cL_law 1542 = .ok (.iload 5, 2) := dgq (p := 1) daL_law_1541 dbL_law_1541.2.1
theorem dL_law_1544 : decode cL_law 1544 = .ok (.iconst 1, 1) := dgq (p := 3) daL_law_1541 dbL_law_1541.2.2.1
theorem dL_law_1545 : decode cL_law 1545 = .ok (.iadd, 1) := dgq (p := 4) daL_law_1541 dbL_law_1541.2.2.2.1
theorem dL_law_1546 : decode cL_law 1546 = .ok (.iaload, 1) := dgq (p := 5) daL_law_1541 dbL_law_1541.2.2.2.2.1
theorem dL_law_1547 : decode cL_law 1547 = .ok (.aload_n 0, 1) := dgq (p := 6) daL_law_1541 dbL_law_1541.2.2.2.2.2.1
theorem dL_law_1548 : decode cL_law 1548 = .ok (.iload 5, 2) := dgq (p := 7) daL_law_1541 dbL_law_1541.2.2.2.2.2.2.1
theorem dL_law_1550 : decode cL_law 1550 = .ok (.iconst 2, 1) := dgq (p := 9) daL_law_1541 dbL_law_1541.2.2.2.2.2.2.2.1
theorem dL_law_1551 : decode cL_law 1551 = .ok (.iadd, 1) := dgq (p := 10) daL_law_1541 dbL_law_1541.2.2.2.2.2.2.2.2.1
theorem dL_law_1552 : decode cL_law 1552 = .ok (.iaload, 1) := dgq (p := 11) daL_law_1541 dbL_law_1541.2.2.2.2.2.2.2.2.2
def dsL_law_1553 : ByteArray := ⟨#[42, 21, 5, 6, 96, 46, 45, 184, 1, 60, 54, 6, 44, 42]⟩
theorem daL_law_1553 : agB cL_law dsL_law_1553 1553 := agB_of (n := 14) (by decide +kernel)
theorem dbL_law_1553 : (decode dsL_law_1553 0 = .ok (.aload_n 0, 1) ∧ okop dsL_law_1553 0 = true) ∧ (decode dsL_law_1553 1 = .ok (.iload 5, 2) ∧ okop dsL_law_1553 1 = true) ∧ (decode dsL_law_1553 3 = .ok (.iconst 3, 1) ∧ okop dsL_law_1553 3 = true) ∧ (decode dsL_law_1553 4 = .ok (.iadd, 1) ∧ okop dsL_law_1553 4 = true) ∧ (decode dsL_law_1553 5 = .ok (.iaload, 1) ∧ okop dsL_law_1553 5 = true) ∧ (decode dsL_law_1553 6 = .ok (.aload_n 3, 1) ∧ okop dsL_law_1553 6 = true) ∧ (decode dsL_law_1553 7 = .ok (.invokestatic 316, 3) ∧ okop dsL_law_1553 7 = true) ∧ (decode dsL_law_1553 10 = .ok (.istore 6, 2) ∧ okop dsL_law_1553 10 = true) ∧ (decode dsL_law_1553 12 = .ok (.aload_n 2, 1) ∧ okop dsL_law_1553 12 = true) ∧ (decode dsL_law_1553 13 = .ok (.aload_n 0, 1) ∧ okop dsL_law_1553 13 = true) := by decide +kernel
theorem dL_law_1553 : decode cL_law 1553 = .ok (.aload_n 0, 1) := dgq (p := 0) daL_law_1553 dbL_law_1553.1
theorem dL_law_1554 : decode cL_law 1554 = .ok (.iload 5, 2) := dgq (p := 1) daL_law_1553 dbL_law_1553.2.1
theorem dL_law_1556 : decode cL_law 1556 = .ok (.iconst 3, 1) := dgq (p := 3) daL_law_1553 dbL_law_1553.2.2.1
theorem dL_law_1557 : decode cL_law 1557 = .ok (.iadd, 1) := dgq (p := 4) daL_law_1553 dbL_law_1553.2.2.2.1
theorem dL_law_1558 : decode cL_law 1558 = .ok (.iaload, 1) := dgq (p := 5) daL_law_1553 dbL_law_1553.2.2.2.2.1
theorem dL_law_1559 : decode cL_law 1559 = .ok (.aload_n 3, 1) := dgq (p := 6) daL_law_1553 dbL_law_1553.2.2.2.2.2.1
theorem dL_law_1560 : decode cL_law 1560 = .ok (.invokestatic 316, 3) := dgq (p := 7) daL_law_1553 dbL_law_1553.2.2.2.2.2.2.1
theorem dL_law_1563 : decode cL_law 1563 = .ok (.istore 6, 2) := dgq (p := 10) daL_law_1553 dbL_law_1553.2.2.2.2.2.2.2.1
theorem dL_law_1565 : decode cL_law 1565 = .ok (.aload_n 2, 1) := dgq (p := 12) daL_law_1553 dbL_law_1553.2.2.2.2.2.2.2.2.1
theorem dL_law_1566 : decode cL_law 1566 = .ok (.aload_n 0, 1) := dgq (p := 13) daL_law_1553 dbL_law_1553.2.2.2.2.2.2.2.2.2
def dsL_law_1567 : ByteArray := ⟨#[21, 5, 4, 96, 46, 42, 21, 5, 5, 96, 46, 42]⟩
theorem daL_law_1567 : agB cL_law dsL_law_1567 1567 := agB_of (n := 12) (by decide +kernel)
theorem dbL_law_1567 : (decode dsL_law_1567 0 = .ok (.iload 5, 2) ∧ okop dsL_law_1567 0 = true) ∧ (decode dsL_law_1567 2 = .ok (.iconst 1, 1) ∧ okop dsL_law_1567 2 = true) ∧ (decode dsL_law_1567 3 = .ok (.iadd, 1) ∧ okop dsL_law_1567 3 = true) ∧ (decode dsL_law_1567 4 = .ok (.iaload, 1) ∧ okop dsL_law_1567 4 = true) ∧ (decode dsL_law_1567 5 = .ok (.aload_n 0, 1) ∧ okop dsL_law_1567 5 = true) ∧ (decode dsL_law_1567 6 = .ok (.iload 5, 2) ∧ okop dsL_law_1567 6 = true) ∧ (decode dsL_law_1567 8 = .ok (.iconst 2, 1) ∧ okop dsL_law_1567 8 = true) ∧ (decode dsL_law_1567 9 = .ok (.iadd, 1) ∧ okop dsL_law_1567 9 = true) ∧ (decode dsL_law_1567 10 = .ok (.iaload, 1) ∧ okop dsL_law_1567 10 = true) ∧ (decode dsL_law_1567 11 = .ok (.aload_n 0, 1) ∧ okop dsL_law_1567 11 = true) := by decide +kernel
theorem dL_law_1567 : decode cL_law 1567 = .ok (.iload 5, 2) := dgq (p := 0) daL_law_1567 dbL_law_1567.1
theorem dL_law_1569 : decode cL_law 1569 = .ok (.iconst 1, 1) := dgq (p := 2) daL_law_1567 dbL_law_1567.2.1
theorem dL_law_1570 : decode cL_law 1570 = .ok (.iadd, 1) := dgq (p := 3) daL_law_1567 dbL_law_1567.2.2.1
theorem dL_law_1571 : decode cL_law 1571 = .ok (.iaload, 1) := dgq (p := 4) daL_law_1567 dbL_law_1567.2.2.2.1
theorem dL_law_1572 : decode cL_law 1572 = .ok (.aload_n 0, 1) := dgq (p := 5) daL_law_1567 dbL_law_1567.2.2.2.2.1
theorem dL_law_1573 : decode cL_law 1573 = .ok (.iload 5, 2) := dgq (p := 6) daL_law_1567 dbL_law_1567.2.2.2.2.2.1
theorem dL_law_1575 : decode cL_law 1575 = .ok (.iconst 2, 1) := dgq (p := 8) daL_law_1567 dbL_law_1567.2.2.2.2.2.2.1
theorem dL_law_1576 : decode cL_law 1576 = .ok (.iadd, 1) := dgq (p := 9) daL_law_1567 dbL_law_1567.2.2.2.2.2.2.2.1
theorem dL_law_1577 : decode cL_law 1577 = .ok (.iaload, 1) := dgq (p := 10) daL_law_1567 dbL_law_1567.2.2.2.2.2.2.2.2.1
theorem dL_law_1578 : decode cL_law 1578 = .ok (.aload_n 0, 1) := dgq (p := 11) daL_law_1567 dbL_law_1567.2.2.2.2.2.2.2.2.2
def dsL_law_1579 : ByteArray := ⟨#[21, 5, 6, 96, 46, 182, 1, 62, 54, 7, 167, 5, 55, 43, 42, 21, 5]⟩
theorem daL_law_1579 : agB cL_law dsL_law_1579 1579 := agB_of (n := 17) (by decide +kernel)
theorem dbL_law_1579 : (decode dsL_law_1579 0 = .ok (.iload 5, 2) ∧ okop dsL_law_1579 0 = true) ∧ (decode dsL_law_1579 2 = .ok (.iconst 3, 1) ∧ okop dsL_law_1579 2 = true) ∧ (decode dsL_law_1579 3 = .ok (.iadd, 1) ∧ okop dsL_law_1579 3 = true) ∧ (decode dsL_law_1579 4 = .ok (.iaload, 1) ∧ okop dsL_law_1579 4 = true) ∧ (decode dsL_law_1579 5 = .ok (.invokevirtual 318, 3) ∧ okop dsL_law_1579 5 = true) ∧ (decode dsL_law_1579 8 = .ok (.istore 7, 2) ∧ okop dsL_law_1579 8 = true) ∧ (decode dsL_law_1579 10 = .ok (.goto 1335, 3) ∧ okop dsL_law_1579 10 = true) ∧ (decode dsL_law_1579 13 = .ok (.aload_n 1, 1) ∧ okop dsL_law_1579 13 = true) ∧ (decode dsL_law_1579 14 = .ok (.aload_n 0, 1) ∧ okop dsL_law_1579 14 = true) ∧ (decode dsL_law_1579 15 = .ok (.iload 5, 2) ∧ okop dsL_law_1579 15 = true) := by decide +kernel
theorem dL_law_1579 : decode cL_law 1579 = .ok (.iload 5, 2) := dgq (p := 0) daL_law_1579 dbL_law_1579.1
theorem dL_law_1581 : decode cL_law 1581 = .ok (.iconst 3, 1) := dgq (p := 2) daL_law_1579 dbL_law_1579.2.1
theorem dL_law_1582 : decode cL_law 1582 = .ok (.iadd, 1) := dgq (p := 3) daL_law_1579 dbL_law_1579.2.2.1
theorem dL_law_1583 : decode cL_law 1583 = .ok (.iaload, 1) := dgq (p := 4) daL_law_1579 dbL_law_1579.2.2.2.1
theorem dL_law_1584 : decode cL_law 1584 = .ok (.invokevirtual 318, 3) := dgq (p := 5) daL_law_1579 dbL_law_1579.2.2.2.2.1
theorem dL_law_1587 : decode cL_law 1587 = .ok (.istore 7, 2) := dgq (p := 8) daL_law_1579 dbL_law_1579.2.2.2.2.2.1
theorem dL_law_1589 : decode cL_law 1589 = .ok (.goto 1335, 3) := dgq (p := 10) daL_law_1579 dbL_law_1579.2.2.2.2.2.2.1
theorem dL_law_1592 : decode cL_law 1592 = .ok (.aload_n 1, 1) := dgq (p := 13) daL_law_1579 dbL_law_1579.2.2.2.2.2.2.2.1
theorem dL_law_1593 : decode cL_law 1593 = .ok (.aload_n 0, 1) := dgq (p := 14) daL_law_1579 dbL_law_1579.2.2.2.2.2.2.2.2.1
theorem dL_law_1594 : decode cL_law 1594 = .ok (.iload 5, 2) := dgq (p := 15) daL_law_1579 dbL_law_1579.2.2.2.2.2.2.2.2.2
def dsL_law_1596 : ByteArray := ⟨#[4, 96, 46, 42, 21, 5, 5, 96, 46, 45, 184, 1, 63]⟩
theorem daL_law_1596 : agB cL_law dsL_law_1596 1596 := agB_of (n := 13) (by decide +kernel)
theorem dbL_law_1596 : (decode dsL_law_1596 0 = .ok (.iconst 1, 1) ∧ okop dsL_law_1596 0 = true) ∧ (decode dsL_law_1596 1 = .ok (.iadd, 1) ∧ okop dsL_law_1596 1 = true) ∧ (decode dsL_law_1596 2 = .ok (.iaload, 1) ∧ okop dsL_law_1596 2 = true) ∧ (decode dsL_law_1596 3 = .ok (.aload_n 0, 1) ∧ okop dsL_law_1596 3 = true) ∧ (decode dsL_law_1596 4 = .ok (.iload 5, 2) ∧ okop dsL_law_1596 4 = true) ∧ (decode dsL_law_1596 6 = .ok (.iconst 2, 1) ∧ okop dsL_law_1596 6 = true) ∧ (decode dsL_law_1596 7 = .ok (.iadd, 1) ∧ okop dsL_law_1596 7 = true) ∧ (decode dsL_law_1596 8 = .ok (.iaload, 1) ∧ okop dsL_law_1596 8 = true) ∧ (decode dsL_law_1596 9 = .ok (.aload_n 3, 1) ∧ okop dsL_law_1596 9 = true) ∧ (decode dsL_law_1596 10 = .ok (.invokestatic 319, 3) ∧ okop dsL_law_1596 10 = true) := by decide +kernel
theorem dL_law_1596 : decode cL_law 1596 = .ok (.iconst 1, 1) := dgq (p := 0) daL_law_1596 dbL_law_1596.1
theorem dL_law_1597 : decode cL_law 1597 = .ok (.iadd, 1) := dgq (p := 1) daL_law_1596 dbL_law_1596.2.1
theorem dL_law_1598 : decode cL_law 1598 = .ok (.iaload, 1) := dgq (p := 2) daL_law_1596 dbL_law_1596.2.2.1
theorem dL_law_1599 : decode cL_law 1599 = .ok (.aload_n 0, 1) := dgq (p := 3) daL_law_1596 dbL_law_1596.2.2.2.1
theorem dL_law_1600 : decode cL_law 1600 = .ok (.iload 5, 2) := dgq (p := 4) daL_law_1596 dbL_law_1596.2.2.2.2.1
theorem dL_law_1602 : decode cL_law 1602 = .ok (.iconst 2, 1) := dgq (p := 6) daL_law_1596 dbL_law_1596.2.2.2.2.2.1
theorem dL_law_1603 : decode cL_law 1603 = .ok (.iadd, 1) := dgq (p := 7) daL_law_1596 dbL_law_1596.2.2.2.2.2.2.1
theorem dL_law_1604 : decode cL_law 1604 = .ok (.iaload, 1) := dgq (p := 8) daL_law_1596 dbL_law_1596.2.2.2.2.2.2.2.1
theorem dL_law_1605 : decode cL_law 1605 = .ok (.aload_n 3, 1) := dgq (p := 9) daL_law_1596 dbL_law_1596.2.2.2.2.2.2.2.2.1
theorem dL_law_1606 : decode cL_law 1606 = .ok (.invokestatic 319, 3) := dgq (p := 10) daL_law_1596 dbL_law_1596.2.2.2.2.2.2.2.2.2
def dsL_law_1609 : ByteArray := ⟨#[54, 6, 44, 42, 21, 5, 4, 96, 46, 42, 21, 5, 5]⟩
theorem daL_law_1609 : agB cL_law dsL_law_1609 1609 := agB_of (n := 13) (by decide +kernel)
theorem dbL_law_1609 : (decode dsL_law_1609 0 = .ok (.istore 6, 2) ∧ okop dsL_law_1609 0 = true) ∧ (decode dsL_law_1609 2 = .ok (.aload_n 2, 1) ∧ okop dsL_law_1609 2 = true) ∧ (decode dsL_law_1609 3 = .ok (.aload_n 0, 1) ∧ okop dsL_law_1609 3 = true) ∧ (decode dsL_law_1609 4 = .ok (.iload 5, 2) ∧ okop dsL_law_1609 4 = true) ∧ (decode dsL_law_1609 6 = .ok (.iconst 1, 1) ∧ okop dsL_law_1609 6 = true) ∧ (decode dsL_law_1609 7 = .ok (.iadd, 1) ∧ okop dsL_law_1609 7 = true) ∧ (decode dsL_law_1609 8 = .ok (.iaload, 1) ∧ okop dsL_law_1609 8 = true) ∧ (decode dsL_law_1609 9 = .ok (.aload_n 0, 1) ∧ okop dsL_law_1609 9 = true) ∧ (decode dsL_law_1609 10 = .ok (.iload 5, 2) ∧ okop dsL_law_1609 10 = true) ∧ (decode dsL_law_1609 12 = .ok (.iconst 2, 1) ∧ okop dsL_law_1609 12 = true) := by decide +kernel
theorem dL_law_1609 : decode cL_law 1609 = .ok (.istore 6, 2) := dgq (p := 0) daL_law_1609 dbL_law_1609.1
theorem dL_law_1611 : decode cL_law 1611 = .ok (.aload_n 2, 1) := dgq (p := 2) daL_law_1609 dbL_law_1609.2.1
theorem dL_law_1612 : decode cL_law 1612 = .ok (.aload_n 0, 1) := dgq (p := 3) daL_law_1609 dbL_law_1609.2.2.1
theorem dL_law_1613 : decode cL_law 1613 = .ok (.iload 5, 2) := dgq (p := 4) daL_law_1609 dbL_law_1609.2.2.2.1
theorem dL_law_1615 : decode cL_law 1615 = .ok (.iconst 1, 1) := dgq (p := 6) daL_law_1609 dbL_law_1609.2.2.2.2.1
theorem dL_law_1616 : decode cL_law 1616 = .ok (.iadd, 1) := dgq (p := 7) daL_law_1609 dbL_law_1609.2.2.2.2.2.1
theorem dL_law_1617 : decode cL_law 1617 = .ok (.iaload, 1) := dgq (p := 8) daL_law_1609 dbL_law_1609.2.2.2.2.2.2.1
theorem dL_law_1618 : decode cL_law 1618 = .ok (.aload_n 0, 1) := dgq (p := 9) daL_law_1609 dbL_law_1609.2.2.2.2.2.2.2.1
theorem dL_law_1619 : decode cL_law 1619 = .ok (.iload 5, 2) := dgq (p := 10) daL_law_1609 dbL_law_1609.2.2.2.2.2.2.2.2.1
theorem dL_law_1621 : decode cL_law 1621 = .ok (.iconst 2, 1) := dgq (p := 12) daL_law_1609 dbL_law_1609.2.2.2.2.2.2.2.2.2
def dsL_law_1622 : ByteArray := ⟨#[96, 46, 182, 1, 65, 54, 7, 167, 5, 15, 43, 42, 21, 5, 4, 96]⟩
theorem daL_law_1622 : agB cL_law dsL_law_1622 1622 := agB_of (n := 16) (by decide +kernel)
theorem dbL_law_1622 : (decode dsL_law_1622 0 = .ok (.iadd, 1) ∧ okop dsL_law_1622 0 = true) ∧ (decode dsL_law_1622 1 = .ok (.iaload, 1) ∧ okop dsL_law_1622 1 = true) ∧ (decode dsL_law_1622 2 = .ok (.invokevirtual 321, 3) ∧ okop dsL_law_1622 2 = true) ∧ (decode dsL_law_1622 5 = .ok (.istore 7, 2) ∧ okop dsL_law_1622 5 = true) ∧ (decode dsL_law_1622 7 = .ok (.goto 1295, 3) ∧ okop dsL_law_1622 7 = true) ∧ (decode dsL_law_1622 10 = .ok (.aload_n 1, 1) ∧ okop dsL_law_1622 10 = true) ∧ (decode dsL_law_1622 11 = .ok (.aload_n 0, 1) ∧ okop dsL_law_1622 11 = true) ∧ (decode dsL_law_1622 12 = .ok (.iload 5, 2) ∧ okop dsL_law_1622 12 = true) ∧ (decode dsL_law_1622 14 = .ok (.iconst 1, 1) ∧ okop dsL_law_1622 14 = true) ∧ (decode dsL_law_1622 15 = .ok (.iadd, 1) ∧ okop dsL_law_1622 15 = true) := by decide +kernel
theorem dL_law_1622 : decode cL_law 1622 = .ok (.iadd, 1) := dgq (p := 0) daL_law_1622 dbL_law_1622.1
theorem dL_law_1623 : decode cL_law 1623 = .ok (.iaload, 1) := dgq (p := 1) daL_law_1622 dbL_law_1622.2.1
theorem dL_law_1624 : decode cL_law 1624 = .ok (.invokevirtual 321, 3) := dgq (p := 2) daL_law_1622 dbL_law_1622.2.2.1
theorem dL_law_1627 : decode cL_law 1627 = .ok (.istore 7, 2) := dgq (p := 5) daL_law_1622 dbL_law_1622.2.2.2.1
theorem dL_law_1629 : decode cL_law 1629 = .ok (.goto 1295, 3) := dgq (p := 7) daL_law_1622 dbL_law_1622.2.2.2.2.1
theorem dL_law_1632 : decode cL_law 1632 = .ok (.aload_n 1, 1) := dgq (p := 10) daL_law_1622 dbL_law_1622.2.2.2.2.2.1
theorem dL_law_1633 : decode cL_law 1633 = .ok (.aload_n 0, 1) := dgq (p := 11) daL_law_1622 dbL_law_1622.2.2.2.2.2.2.1
theorem dL_law_1634 : decode cL_law 1634 = .ok (.iload 5, 2) := dgq (p := 12) daL_law_1622 dbL_law_1622.2.2.2.2.2.2.2.1
theorem dL_law_1636 : decode cL_law 1636 = .ok (.iconst 1, 1) := dgq (p := 14) daL_law_1622 dbL_law_1622.2.2.2.2.2.2.2.2.1
theorem dL_law_1637 : decode cL_law 1637 = .ok (.iadd, 1) := dgq (p := 15) daL_law_1622 dbL_law_1622.2.2.2.2.2.2.2.2.2
def dsL_law_1638 : ByteArray := ⟨#[46, 45, 184, 1, 66, 54, 6, 44, 42, 21, 5, 4, 96, 46]⟩
theorem daL_law_1638 : agB cL_law dsL_law_1638 1638 := agB_of (n := 14) (by decide +kernel)
theorem dbL_law_1638 : (decode dsL_law_1638 0 = .ok (.iaload, 1) ∧ okop dsL_law_1638 0 = true) ∧ (decode dsL_law_1638 1 = .ok (.aload_n 3, 1) ∧ okop dsL_law_1638 1 = true) ∧ (decode dsL_law_1638 2 = .ok (.invokestatic 322, 3) ∧ okop dsL_law_1638 2 = true) ∧ (decode dsL_law_1638 5 = .ok (.istore 6, 2) ∧ okop dsL_law_1638 5 = true) ∧ (decode dsL_law_1638 7 = .ok (.aload_n 2, 1) ∧ okop dsL_law_1638 7 = true) ∧ (decode dsL_law_1638 8 = .ok (.aload_n 0, 1) ∧ okop dsL_law_1638 8 = true) ∧ (decode dsL_law_1638 9 = .ok (.iload 5, 2) ∧ okop dsL_law_1638 9 = true) ∧ (decode dsL_law_1638 11 = .ok (.iconst 1, 1) ∧ okop dsL_law_1638 11 = true) ∧ (decode dsL_law_1638 12 = .ok (.iadd, 1) ∧ okop dsL_law_1638 12 = true) ∧ (decode dsL_law_1638 13 = .ok (.iaload, 1) ∧ okop dsL_law_1638 13 = true) := by decide +kernel
theorem dL_law_1638 : decode cL_law 1638 = .ok (.iaload, 1) := dgq (p := 0) daL_law_1638 dbL_law_1638.1
theorem dL_law_1639 : decode cL_law 1639 = .ok (.aload_n 3, 1) := dgq (p := 1) daL_law_1638 dbL_law_1638.2.1
theorem dL_law_1640 : decode cL_law 1640 = .ok (.invokestatic 322, 3) := dgq (p := 2) daL_law_1638 dbL_law_1638.2.2.1
theorem dL_law_1643 : decode cL_law 1643 = .ok (.istore 6, 2) := dgq (p := 5) daL_law_1638 dbL_law_1638.2.2.2.1
theorem dL_law_1645 : decode cL_law 1645 = .ok (.aload_n 2, 1) := dgq (p := 7) daL_law_1638 dbL_law_1638.2.2.2.2.1
theorem dL_law_1646 : decode cL_law 1646 = .ok (.aload_n 0, 1) := dgq (p := 8) daL_law_1638 dbL_law_1638.2.2.2.2.2.1
theorem dL_law_1647 : decode cL_law 1647 = .ok (.iload 5, 2) := dgq (p := 9) daL_law_1638 dbL_law_1638.2.2.2.2.2.2.1
theorem dL_law_1649 : decode cL_law 1649 = .ok (.iconst 1, 1) := dgq (p := 11) daL_law_1638 dbL_law_1638.2.2.2.2.2.2.2.1
theorem dL_law_1650 : decode cL_law 1650 = .ok (.iadd, 1) := dgq (p := 12) daL_law_1638 dbL_law_1638.2.2.2.2.2.2.2.2.1
theorem dL_law_1651 : decode cL_law 1651 = .ok (.iaload, 1) := dgq (p := 13) daL_law_1638 dbL_law_1638.2.2.2.2.2.2.2.2.2
def dsL_law_1652 : ByteArray := ⟨#[182, 1, 68, 54, 7, 167, 4, 243, 43, 42, 21, 5, 4, 96, 46, 42]⟩
theorem daL_law_1652 : agB cL_law dsL_law_1652 1652 := agB_of (n := 16) (by decide +kernel)
theorem dbL_law_1652 : (decode dsL_law_1652 0 = .ok (.invokevirtual 324, 3) ∧ okop dsL_law_1652 0 = true) ∧ (decode dsL_law_1652 3 = .ok (.istore 7, 2) ∧ okop dsL_law_1652 3 = true) ∧ (decode dsL_law_1652 5 = .ok (.goto 1267, 3) ∧ okop dsL_law_1652 5 = true) ∧ (decode dsL_law_1652 8 = .ok (.aload_n 1, 1) ∧ okop dsL_law_1652 8 = true) ∧ (decode dsL_law_1652 9 = .ok (.aload_n 0, 1) ∧ okop dsL_law_1652 9 = true) ∧ (decode dsL_law_1652 10 = .ok (.iload 5, 2) ∧ okop dsL_law_1652 10 = true) ∧ (decode dsL_law_1652 12 = .ok (.iconst 1, 1) ∧ okop dsL_law_1652 12 = true) ∧ (decode dsL_law_1652 13 = .ok (.iadd, 1) ∧ okop dsL_law_1652 13 = true) ∧ (decode dsL_law_1652 14 = .ok (.iaload, 1) ∧ okop dsL_law_1652 14 = true) ∧ (decode dsL_law_1652 15 = .ok (.aload_n 0, 1) ∧ okop dsL_law_1652 15 = true) := by decide +kernel
theorem dL_law_1652 : decode cL_law 1652 = .ok (.invokevirtual 324, 3) := dgq (p := 0) daL_law_1652 dbL_law_1652.1
theorem dL_law_1655 : decode cL_law 1655 = .ok (.istore 7, 2) := dgq (p := 3) daL_law_1652 dbL_law_1652.2.1
theorem dL_law_1657 : decode cL_law 1657 = .ok (.goto 1267, 3) := dgq (p := 5) daL_law_1652 dbL_law_1652.2.2.1
theorem dL_law_1660 : decode cL_law 1660 = .ok (.aload_n 1, 1) := dgq (p := 8) daL_law_1652 dbL_law_1652.2.2.2.1
theorem dL_law_1661 : decode cL_law 1661 = .ok (.aload_n 0, 1) := dgq (p := 9) daL_law_1652 dbL_law_1652.2.2.2.2.1
theorem dL_law_1662 : decode cL_law 1662 = .ok (.iload 5, 2) := dgq (p := 10) daL_law_1652 dbL_law_1652.2.2.2.2.2.1
theorem dL_law_1664 : decode cL_law 1664 = .ok (.iconst 1, 1) := dgq (p := 12) daL_law_1652 dbL_law_1652.2.2.2.2.2.2.1
theorem dL_law_1665 : decode cL_law 1665 = .ok (.iadd, 1) := dgq (p := 13) daL_law_1652 dbL_law_1652.2.2.2.2.2.2.2.1
theorem dL_law_1666 : decode cL_law 1666 = .ok (.iaload, 1) := dgq (p := 14) daL_law_1652 dbL_law_1652.2.2.2.2.2.2.2.2.1
theorem dL_law_1667 : decode cL_law 1667 = .ok (.aload_n 0, 1) := dgq (p := 15) daL_law_1652 dbL_law_1652.2.2.2.2.2.2.2.2.2
def dsL_law_1668 : ByteArray := ⟨#[21, 5, 5, 96, 46, 42, 21, 5, 6, 96, 46, 42]⟩
theorem daL_law_1668 : agB cL_law dsL_law_1668 1668 := agB_of (n := 12) (by decide +kernel)
theorem dbL_law_1668 : (decode dsL_law_1668 0 = .ok (.iload 5, 2) ∧ okop dsL_law_1668 0 = true) ∧ (decode dsL_law_1668 2 = .ok (.iconst 2, 1) ∧ okop dsL_law_1668 2 = true) ∧ (decode dsL_law_1668 3 = .ok (.iadd, 1) ∧ okop dsL_law_1668 3 = true) ∧ (decode dsL_law_1668 4 = .ok (.iaload, 1) ∧ okop dsL_law_1668 4 = true) ∧ (decode dsL_law_1668 5 = .ok (.aload_n 0, 1) ∧ okop dsL_law_1668 5 = true) ∧ (decode dsL_law_1668 6 = .ok (.iload 5, 2) ∧ okop dsL_law_1668 6 = true) ∧ (decode dsL_law_1668 8 = .ok (.iconst 3, 1) ∧ okop dsL_law_1668 8 = true) ∧ (decode dsL_law_1668 9 = .ok (.iadd, 1) ∧ okop dsL_law_1668 9 = true) ∧ (decode dsL_law_1668 10 = .ok (.iaload, 1) ∧ okop dsL_law_1668 10 = true) ∧ (decode dsL_law_1668 11 = .ok (.aload_n 0, 1) ∧ okop dsL_law_1668 11 = true) := by decide +kernel
theorem dL_law_1668 : decode cL_law 1668 = .ok (.iload 5, 2) := dgq (p := 0) daL_law_1668 dbL_law_1668.1
theorem dL_law_1670 : decode cL_law 1670 = .ok (.iconst 2, 1) := dgq (p := 2) daL_law_1668 dbL_law_1668.2.1
theorem dL_law_1671 : decode cL_law 1671 = .ok (.iadd, 1) := dgq (p := 3) daL_law_1668 dbL_law_1668.2.2.1
theorem dL_law_1672 : decode cL_law 1672 = .ok (.iaload, 1) := dgq (p := 4) daL_law_1668 dbL_law_1668.2.2.2.1
theorem dL_law_1673 : decode cL_law 1673 = .ok (.aload_n 0, 1) := dgq (p := 5) daL_law_1668 dbL_law_1668.2.2.2.2.1
theorem dL_law_1674 : decode cL_law 1674 = .ok (.iload 5, 2) := dgq (p := 6) daL_law_1668 dbL_law_1668.2.2.2.2.2.1
theorem dL_law_1676 : decode cL_law 1676 = .ok (.iconst 3, 1) := dgq (p := 8) daL_law_1668 dbL_law_1668.2.2.2.2.2.2.1
theorem dL_law_1677 : decode cL_law 1677 = .ok (.iadd, 1) := dgq (p := 9) daL_law_1668 dbL_law_1668.2.2.2.2.2.2.2.1
theorem dL_law_1678 : decode cL_law 1678 = .ok (.iaload, 1) := dgq (p := 10) daL_law_1668 dbL_law_1668.2.2.2.2.2.2.2.2.1
theorem dL_law_1679 : decode cL_law 1679 = .ok (.aload_n 0, 1) := dgq (p := 11) daL_law_1668 dbL_law_1668.2.2.2.2.2.2.2.2.2
def dsL_law_1680 : ByteArray := ⟨#[21, 5, 7, 96, 46, 45, 184, 1, 69, 54, 6, 44, 42, 21, 5]⟩
theorem daL_law_1680 : agB cL_law dsL_law_1680 1680 := agB_of (n := 15) (by decide +kernel)
theorem dbL_law_1680 : (decode dsL_law_1680 0 = .ok (.iload 5, 2) ∧ okop dsL_law_1680 0 = true) ∧ (decode dsL_law_1680 2 = .ok (.iconst 4, 1) ∧ okop dsL_law_1680 2 = true) ∧ (decode dsL_law_1680 3 = .ok (.iadd, 1) ∧ okop dsL_law_1680 3 = true) ∧ (decode dsL_law_1680 4 = .ok (.iaload, 1) ∧ okop dsL_law_1680 4 = true) ∧ (decode dsL_law_1680 5 = .ok (.aload_n 3, 1) ∧ okop dsL_law_1680 5 = true) ∧ (decode dsL_law_1680 6 = .ok (.invokestatic 325, 3) ∧ okop dsL_law_1680 6 = true) ∧ (decode dsL_law_1680 9 = .ok (.istore 6, 2) ∧ okop dsL_law_1680 9 = true) ∧ (decode dsL_law_1680 11 = .ok (.aload_n 2, 1) ∧ okop dsL_law_1680 11 = true) ∧ (decode dsL_law_1680 12 = .ok (.aload_n 0, 1) ∧ okop dsL_law_1680 12 = true) ∧ (decode dsL_law_1680 13 = .ok (.iload 5, 2) ∧ okop dsL_law_1680 13 = true) := by decide +kernel
theorem dL_law_1680 : decode cL_law 1680 = .ok (.iload 5, 2) := dgq (p := 0) daL_law_1680 dbL_law_1680.1
theorem dL_law_1682 : decode cL_law 1682 = .ok (.iconst 4, 1) := dgq (p := 2) daL_law_1680 dbL_law_1680.2.1
theorem dL_law_1683 : decode cL_law 1683 = .ok (.iadd, 1) := dgq (p := 3) daL_law_1680 dbL_law_1680.2.2.1
theorem dL_law_1684 : decode cL_law 1684 = .ok (.iaload, 1) := dgq (p := 4) daL_law_1680 dbL_law_1680.2.2.2.1
theorem dL_law_1685 : decode cL_law 1685 = .ok (.aload_n 3, 1) := dgq (p := 5) daL_law_1680 dbL_law_1680.2.2.2.2.1
theorem dL_law_1686 : decode cL_law 1686 = .ok (.invokestatic 325, 3) := dgq (p := 6) daL_law_1680 dbL_law_1680.2.2.2.2.2.1
theorem dL_law_1689 : decode cL_law 1689 = .ok (.istore 6, 2) := dgq (p := 9) daL_law_1680 dbL_law_1680.2.2.2.2.2.2.1
theorem dL_law_1691 : decode cL_law 1691 = .ok (.aload_n 2, 1) := dgq (p := 11) daL_law_1680 dbL_law_1680.2.2.2.2.2.2.2.1
theorem dL_law_1692 : decode cL_law 1692 = .ok (.aload_n 0, 1) := dgq (p := 12) daL_law_1680 dbL_law_1680.2.2.2.2.2.2.2.2.1
theorem dL_law_1693 : decode cL_law 1693 = .ok (.iload 5, 2) := dgq (p := 13) daL_law_1680 dbL_law_1680.2.2.2.2.2.2.2.2.2
def dsL_law_1695 : ByteArray := ⟨#[4, 96, 46, 42, 21, 5, 5, 96, 46, 42, 21, 5]⟩
theorem daL_law_1695 : agB cL_law dsL_law_1695 1695 := agB_of (n := 12) (by decide +kernel)
theorem dbL_law_1695 : (decode dsL_law_1695 0 = .ok (.iconst 1, 1) ∧ okop dsL_law_1695 0 = true) ∧ (decode dsL_law_1695 1 = .ok (.iadd, 1) ∧ okop dsL_law_1695 1 = true) ∧ (decode dsL_law_1695 2 = .ok (.iaload, 1) ∧ okop dsL_law_1695 2 = true) ∧ (decode dsL_law_1695 3 = .ok (.aload_n 0, 1) ∧ okop dsL_law_1695 3 = true) ∧ (decode dsL_law_1695 4 = .ok (.iload 5, 2) ∧ okop dsL_law_1695 4 = true) ∧ (decode dsL_law_1695 6 = .ok (.iconst 2, 1) ∧ okop dsL_law_1695 6 = true) ∧ (decode dsL_law_1695 7 = .ok (.iadd, 1) ∧ okop dsL_law_1695 7 = true) ∧ (decode dsL_law_1695 8 = .ok (.iaload, 1) ∧ okop dsL_law_1695 8 = true) ∧ (decode dsL_law_1695 9 = .ok (.aload_n 0, 1) ∧ okop dsL_law_1695 9 = true) ∧ (decode dsL_law_1695 10 = .ok (.iload 5, 2) ∧ okop dsL_law_1695 10 = true) := by decide +kernel
theorem dL_law_1695 : decode cL_law 1695 = .ok (.iconst 1, 1) := dgq (p := 0) daL_law_1695 dbL_law_1695.1
theorem dL_law_1696 : decode cL_law 1696 = .ok (.iadd, 1) := dgq (p := 1) daL_law_1695 dbL_law_1695.2.1
theorem dL_law_1697 : decode cL_law 1697 = .ok (.iaload, 1) := dgq (p := 2) daL_law_1695 dbL_law_1695.2.2.1
theorem dL_law_1698 : decode cL_law 1698 = .ok (.aload_n 0, 1) := dgq (p := 3) daL_law_1695 dbL_law_1695.2.2.2.1
theorem dL_law_1699 : decode cL_law 1699 = .ok (.iload 5, 2) := dgq (p := 4) daL_law_1695 dbL_law_1695.2.2.2.2.1
theorem dL_law_1701 : decode cL_law 1701 = .ok (.iconst 2, 1) := dgq (p := 6) daL_law_1695 dbL_law_1695.2.2.2.2.2.1
theorem dL_law_1702 : decode cL_law 1702 = .ok (.iadd, 1) := dgq (p := 7) daL_law_1695 dbL_law_1695.2.2.2.2.2.2.1
theorem dL_law_1703 : decode cL_law 1703 = .ok (.iaload, 1) := dgq (p := 8) daL_law_1695 dbL_law_1695.2.2.2.2.2.2.2.1
theorem dL_law_1704 : decode cL_law 1704 = .ok (.aload_n 0, 1) := dgq (p := 9) daL_law_1695 dbL_law_1695.2.2.2.2.2.2.2.2.1
theorem dL_law_1705 : decode cL_law 1705 = .ok (.iload 5, 2) := dgq (p := 10) daL_law_1695 dbL_law_1695.2.2.2.2.2.2.2.2.2
def dsL_law_1707 : ByteArray := ⟨#[6, 96, 46, 42, 21, 5, 7, 96, 46, 182, 1, 71, 54, 7]⟩
theorem daL_law_1707 : agB cL_law dsL_law_1707 1707 := agB_of (n := 14) (by decide +kernel)
theorem dbL_law_1707 : (decode dsL_law_1707 0 = .ok (.iconst 3, 1) ∧ okop dsL_law_1707 0 = true) ∧ (decode dsL_law_1707 1 = .ok (.iadd, 1) ∧ okop dsL_law_1707 1 = true) ∧ (decode dsL_law_1707 2 = .ok (.iaload, 1) ∧ okop dsL_law_1707 2 = true) ∧ (decode dsL_law_1707 3 = .ok (.aload_n 0, 1) ∧ okop dsL_law_1707 3 = true) ∧ (decode dsL_law_1707 4 = .ok (.iload 5, 2) ∧ okop dsL_law_1707 4 = true) ∧ (decode dsL_law_1707 6 = .ok (.iconst 4, 1) ∧ okop dsL_law_1707 6 = true) ∧ (decode dsL_law_1707 7 = .ok (.iadd, 1) ∧ okop dsL_law_1707 7 = true) ∧ (decode dsL_law_1707 8 = .ok (.iaload, 1) ∧ okop dsL_law_1707 8 = true) ∧ (decode dsL_law_1707 9 = .ok (.invokevirtual 327, 3) ∧ okop dsL_law_1707 9 = true) ∧ (decode dsL_law_1707 12 = .ok (.istore 7, 2) ∧ okop dsL_law_1707 12 = true) := by decide +kernel
theorem dL_law_1707 : decode cL_law 1707 = .ok (.iconst 3, 1) := dgq (p := 0) daL_law_1707 dbL_law_1707.1
theorem dL_law_1708 : decode cL_law 1708 = .ok (.iadd, 1) := dgq (p := 1) daL_law_1707 dbL_law_1707.2.1
theorem dL_law_1709 : decode cL_law 1709 = .ok (.iaload, 1) := dgq (p := 2) daL_law_1707 dbL_law_1707.2.2.1
theorem dL_law_1710 : decode cL_law 1710 = .ok (.aload_n 0, 1) := dgq (p := 3) daL_law_1707 dbL_law_1707.2.2.2.1
theorem dL_law_1711 : decode cL_law 1711 = .ok (.iload 5, 2) := dgq (p := 4) daL_law_1707 dbL_law_1707.2.2.2.2.1
theorem dL_law_1713 : decode cL_law 1713 = .ok (.iconst 4, 1) := dgq (p := 6) daL_law_1707 dbL_law_1707.2.2.2.2.2.1
theorem dL_law_1714 : decode cL_law 1714 = .ok (.iadd, 1) := dgq (p := 7) daL_law_1707 dbL_law_1707.2.2.2.2.2.2.1
theorem dL_law_1715 : decode cL_law 1715 = .ok (.iaload, 1) := dgq (p := 8) daL_law_1707 dbL_law_1707.2.2.2.2.2.2.2.1
theorem dL_law_1716 : decode cL_law 1716 = .ok (.invokevirtual 327, 3) := dgq (p := 9) daL_law_1707 dbL_law_1707.2.2.2.2.2.2.2.2.1
theorem dL_law_1719 : decode cL_law 1719 = .ok (.istore 7, 2) := dgq (p := 12) daL_law_1707 dbL_law_1707.2.2.2.2.2.2.2.2.2
def dsL_law_1721 : ByteArray := ⟨#[167, 4, 179, 43, 42, 21, 5, 4, 96, 46, 42, 21, 5, 5]⟩
theorem daL_law_1721 : agB cL_law dsL_law_1721 1721 := agB_of (n := 14) (by decide +kernel)
theorem dbL_law_1721 : (decode dsL_law_1721 0 = .ok (.goto 1203, 3) ∧ okop dsL_law_1721 0 = true) ∧ (decode dsL_law_1721 3 = .ok (.aload_n 1, 1) ∧ okop dsL_law_1721 3 = true) ∧ (decode dsL_law_1721 4 = .ok (.aload_n 0, 1) ∧ okop dsL_law_1721 4 = true) ∧ (decode dsL_law_1721 5 = .ok (.iload 5, 2) ∧ okop dsL_law_1721 5 = true) ∧ (decode dsL_law_1721 7 = .ok (.iconst 1, 1) ∧ okop dsL_law_1721 7 = true) ∧ (decode dsL_law_1721 8 = .ok (.iadd, 1) ∧ okop dsL_law_1721 8 = true) ∧ (decode dsL_law_1721 9 = .ok (.iaload, 1) ∧ okop dsL_law_1721 9 = true) ∧ (decode dsL_law_1721 10 = .ok (.aload_n 0, 1) ∧ okop dsL_law_1721 10 = true) ∧ (decode dsL_law_1721 11 = .ok (.iload 5, 2) ∧ okop dsL_law_1721 11 = true) ∧ (decode dsL_law_1721 13 = .ok (.iconst 2, 1) ∧ okop dsL_law_1721 13 = true) := by decide +kernel
theorem dL_law_1721 : decode cL_law 1721 = .ok (.goto 1203, 3) := dgq (p := 0) daL_law_1721 dbL_law_1721.1
theorem dL_law_1724 : decode cL_law 1724 = .ok (.aload_n 1, 1) := dgq (p := 3) daL_law_1721 dbL_law_1721.2.1
theorem dL_law_1725 : decode cL_law 1725 = .ok (.aload_n 0, 1) := dgq (p := 4) daL_law_1721 dbL_law_1721.2.2.1
theorem dL_law_1726 : decode cL_law 1726 = .ok (.iload 5, 2) := dgq (p := 5) daL_law_1721 dbL_law_1721.2.2.2.1
theorem dL_law_1728 : decode cL_law 1728 = .ok (.iconst 1, 1) := dgq (p := 7) daL_law_1721 dbL_law_1721.2.2.2.2.1
theorem dL_law_1729 : decode cL_law 1729 = .ok (.iadd, 1) := dgq (p := 8) daL_law_1721 dbL_law_1721.2.2.2.2.2.1
theorem dL_law_1730 : decode cL_law 1730 = .ok (.iaload, 1) := dgq (p := 9) daL_law_1721 dbL_law_1721.2.2.2.2.2.2.1
theorem dL_law_1731 : decode cL_law 1731 = .ok (.aload_n 0, 1) := dgq (p := 10) daL_law_1721 dbL_law_1721.2.2.2.2.2.2.2.1
theorem dL_law_1732 : decode cL_law 1732 = .ok (.iload 5, 2) := dgq (p := 11) daL_law_1721 dbL_law_1721.2.2.2.2.2.2.2.2.1
theorem dL_law_1734 : decode cL_law 1734 = .ok (.iconst 2, 1) := dgq (p := 13) daL_law_1721 dbL_law_1721.2.2.2.2.2.2.2.2.2
def dsL_law_1735 : ByteArray := ⟨#[96, 46, 42, 21, 5, 6, 96, 46, 45, 184, 1, 72, 54, 6]⟩
theorem daL_law_1735 : agB cL_law dsL_law_1735 1735 := agB_of (n := 14) (by decide +kernel)
theorem dbL_law_1735 : (decode dsL_law_1735 0 = .ok (.iadd, 1) ∧ okop dsL_law_1735 0 = true) ∧ (decode dsL_law_1735 1 = .ok (.iaload, 1) ∧ okop dsL_law_1735 1 = true) ∧ (decode dsL_law_1735 2 = .ok (.aload_n 0, 1) ∧ okop dsL_law_1735 2 = true) ∧ (decode dsL_law_1735 3 = .ok (.iload 5, 2) ∧ okop dsL_law_1735 3 = true) ∧ (decode dsL_law_1735 5 = .ok (.iconst 3, 1) ∧ okop dsL_law_1735 5 = true) ∧ (decode dsL_law_1735 6 = .ok (.iadd, 1) ∧ okop dsL_law_1735 6 = true) ∧ (decode dsL_law_1735 7 = .ok (.iaload, 1) ∧ okop dsL_law_1735 7 = true) ∧ (decode dsL_law_1735 8 = .ok (.aload_n 3, 1) ∧ okop dsL_law_1735 8 = true) ∧ (decode dsL_law_1735 9 = .ok (.invokestatic 328, 3) ∧ okop dsL_law_1735 9 = true) ∧ (decode dsL_law_1735 12 = .ok (.istore 6, 2) ∧ okop dsL_law_1735 12 = true) := by decide +kernel
theorem dL_law_1735 : decode cL_law 1735 = .ok (.iadd, 1) := dgq (p := 0) daL_law_1735 dbL_law_1735.1
theorem dL_law_1736 : decode cL_law 1736 = .ok (.iaload, 1) := dgq (p := 1) daL_law_1735 dbL_law_1735.2.1
theorem dL_law_1737 : decode cL_law 1737 = .ok (.aload_n 0, 1) := dgq (p := 2) daL_law_1735 dbL_law_1735.2.2.1
theorem dL_law_1738 : decode cL_law 1738 = .ok (.iload 5, 2) := dgq (p := 3) daL_law_1735 dbL_law_1735.2.2.2.1
theorem dL_law_1740 : decode cL_law 1740 = .ok (.iconst 3, 1) := dgq (p := 5) daL_law_1735 dbL_law_1735.2.2.2.2.1
theorem dL_law_1741 : decode cL_law 1741 = .ok (.iadd, 1) := dgq (p := 6) daL_law_1735 dbL_law_1735.2.2.2.2.2.1
theorem dL_law_1742 : decode cL_law 1742 = .ok (.iaload, 1) := dgq (p := 7) daL_law_1735 dbL_law_1735.2.2.2.2.2.2.1
theorem dL_law_1743 : decode cL_law 1743 = .ok (.aload_n 3, 1) := dgq (p := 8) daL_law_1735 dbL_law_1735.2.2.2.2.2.2.2.1
theorem dL_law_1744 : decode cL_law 1744 = .ok (.invokestatic 328, 3) := dgq (p := 9) daL_law_1735 dbL_law_1735.2.2.2.2.2.2.2.2.1
theorem dL_law_1747 : decode cL_law 1747 = .ok (.istore 6, 2) := dgq (p := 12) daL_law_1735 dbL_law_1735.2.2.2.2.2.2.2.2.2
def dsL_law_1749 : ByteArray := ⟨#[44, 42, 21, 5, 4, 96, 46, 42, 21, 5, 5, 96]⟩
theorem daL_law_1749 : agB cL_law dsL_law_1749 1749 := agB_of (n := 12) (by decide +kernel)
theorem dbL_law_1749 : (decode dsL_law_1749 0 = .ok (.aload_n 2, 1) ∧ okop dsL_law_1749 0 = true) ∧ (decode dsL_law_1749 1 = .ok (.aload_n 0, 1) ∧ okop dsL_law_1749 1 = true) ∧ (decode dsL_law_1749 2 = .ok (.iload 5, 2) ∧ okop dsL_law_1749 2 = true) ∧ (decode dsL_law_1749 4 = .ok (.iconst 1, 1) ∧ okop dsL_law_1749 4 = true) ∧ (decode dsL_law_1749 5 = .ok (.iadd, 1) ∧ okop dsL_law_1749 5 = true) ∧ (decode dsL_law_1749 6 = .ok (.iaload, 1) ∧ okop dsL_law_1749 6 = true) ∧ (decode dsL_law_1749 7 = .ok (.aload_n 0, 1) ∧ okop dsL_law_1749 7 = true) ∧ (decode dsL_law_1749 8 = .ok (.iload 5, 2) ∧ okop dsL_law_1749 8 = true) ∧ (decode dsL_law_1749 10 = .ok (.iconst 2, 1) ∧ okop dsL_law_1749 10 = true) ∧ (decode dsL_law_1749 11 = .ok (.iadd, 1) ∧ okop dsL_law_1749 11 = true) := by decide +kernel
theorem dL_law_1749 : decode cL_law 1749 = .ok (.aload_n 2, 1) := dgq (p := 0) daL_law_1749 dbL_law_1749.1
theorem dL_law_1750 : decode cL_law 1750 = .ok (.aload_n 0, 1) := dgq (p := 1) daL_law_1749 dbL_law_1749.2.1
theorem dL_law_1751 : decode cL_law 1751 = .ok (.iload 5, 2) := dgq (p := 2) daL_law_1749 dbL_law_1749.2.2.1
theorem dL_law_1753 : decode cL_law 1753 = .ok (.iconst 1, 1) := dgq (p := 4) daL_law_1749 dbL_law_1749.2.2.2.1
theorem dL_law_1754 : decode cL_law 1754 = .ok (.iadd, 1) := dgq (p := 5) daL_law_1749 dbL_law_1749.2.2.2.2.1
theorem dL_law_1755 : decode cL_law 1755 = .ok (.iaload, 1) := dgq (p := 6) daL_law_1749 dbL_law_1749.2.2.2.2.2.1
theorem dL_law_1756 : decode cL_law 1756 = .ok (.aload_n 0, 1) := dgq (p := 7) daL_law_1749 dbL_law_1749.2.2.2.2.2.2.1
theorem dL_law_1757 : decode cL_law 1757 = .ok (.iload 5, 2) := dgq (p := 8) daL_law_1749 dbL_law_1749.2.2.2.2.2.2.2.1
theorem dL_law_1759 : decode cL_law 1759 = .ok (.iconst 2, 1) := dgq (p := 10) daL_law_1749 dbL_law_1749.2.2.2.2.2.2.2.2.1
theorem dL_law_1760 : decode cL_law 1760 = .ok (.iadd, 1) := dgq (p := 11) daL_law_1749 dbL_law_1749.2.2.2.2.2.2.2.2.2
def dsL_law_1761 : ByteArray := ⟨#[46, 42, 21, 5, 6, 96, 46, 182, 1, 74, 54, 7, 167, 4, 127, 43]⟩
theorem daL_law_1761 : agB cL_law dsL_law_1761 1761 := agB_of (n := 16) (by decide +kernel)
theorem dbL_law_1761 : (decode dsL_law_1761 0 = .ok (.iaload, 1) ∧ okop dsL_law_1761 0 = true) ∧ (decode dsL_law_1761 1 = .ok (.aload_n 0, 1) ∧ okop dsL_law_1761 1 = true) ∧ (decode dsL_law_1761 2 = .ok (.iload 5, 2) ∧ okop dsL_law_1761 2 = true) ∧ (decode dsL_law_1761 4 = .ok (.iconst 3, 1) ∧ okop dsL_law_1761 4 = true) ∧ (decode dsL_law_1761 5 = .ok (.iadd, 1) ∧ okop dsL_law_1761 5 = true) ∧ (decode dsL_law_1761 6 = .ok (.iaload, 1) ∧ okop dsL_law_1761 6 = true) ∧ (decode dsL_law_1761 7 = .ok (.invokevirtual 330, 3) ∧ okop dsL_law_1761 7 = true) ∧ (decode dsL_law_1761 10 = .ok (.istore 7, 2) ∧ okop dsL_law_1761 10 = true) ∧ (decode dsL_law_1761 12 = .ok (.goto 1151, 3) ∧ okop dsL_law_1761 12 = true) ∧ (decode dsL_law_1761 15 = .ok (.aload_n 1, 1) ∧ okop dsL_law_1761 15 = true) := by decide +kernel
theorem dL_law_1761 : decode cL_law 1761 = .ok (.iaload, 1) := dgq (p := 0) daL_law_1761 dbL_law_1761.1
theorem dL_law_1762 : decode cL_law 1762 = .ok (.aload_n 0, 1) := dgq (p := 1) daL_law_1761 dbL_law_1761.2.1
theorem dL_law_1763 : decode cL_law 1763 = .ok (.iload 5, 2) := dgq (p := 2) daL_law_1761 dbL_law_1761.2.2.1
theorem dL_law_1765 : decode cL_law 1765 = .ok (.iconst 3, 1) := dgq (p := 4) daL_law_1761 dbL_law_1761.2.2.2.1
theorem dL_law_1766 : decode cL_law 1766 = .ok (.iadd, 1) := dgq (p := 5) daL_law_1761 dbL_law_1761.2.2.2.2.1
theorem dL_law_1767 : decode cL_law 1767 = .ok (.iaload, 1) := dgq (p := 6) daL_law_1761 dbL_law_1761.2.2.2.2.2.1
theorem dL_law_1768 : decode cL_law 1768 = .ok (.invokevirtual 330, 3) := dgq (p := 7) daL_law_1761 dbL_law_1761.2.2.2.2.2.2.1
theorem dL_law_1771 : decode cL_law 1771 = .ok (.istore 7, 2) := dgq (p := 10) daL_law_1761 dbL_law_1761.2.2.2.2.2.2.2.1
theorem dL_law_1773 : decode cL_law 1773 = .ok (.goto 1151, 3) := dgq (p := 12) daL_law_1761 dbL_law_1761.2.2.2.2.2.2.2.2.1
theorem dL_law_1776 : decode cL_law 1776 = .ok (.aload_n 1, 1) := dgq (p := 15) daL_law_1761 dbL_law_1761.2.2.2.2.2.2.2.2.2
def dsL_law_1777 : ByteArray := ⟨#[42, 21, 5, 4, 96, 46, 42, 21, 5, 5, 96, 46]⟩
theorem daL_law_1777 : agB cL_law dsL_law_1777 1777 := agB_of (n := 12) (by decide +kernel)
theorem dbL_law_1777 : (decode dsL_law_1777 0 = .ok (.aload_n 0, 1) ∧ okop dsL_law_1777 0 = true) ∧ (decode dsL_law_1777 1 = .ok (.iload 5, 2) ∧ okop dsL_law_1777 1 = true) ∧ (decode dsL_law_1777 3 = .ok (.iconst 1, 1) ∧ okop dsL_law_1777 3 = true) ∧ (decode dsL_law_1777 4 = .ok (.iadd, 1) ∧ okop dsL_law_1777 4 = true) ∧ (decode dsL_law_1777 5 = .ok (.iaload, 1) ∧ okop dsL_law_1777 5 = true) ∧ (decode dsL_law_1777 6 = .ok (.aload_n 0, 1) ∧ okop dsL_law_1777 6 = true) ∧ (decode dsL_law_1777 7 = .ok (.iload 5, 2) ∧ okop dsL_law_1777 7 = true) ∧ (decode dsL_law_1777 9 = .ok (.iconst 2, 1) ∧ okop dsL_law_1777 9 = true) ∧ (decode dsL_law_1777 10 = .ok (.iadd, 1) ∧ okop dsL_law_1777 10 = true) ∧ (decode dsL_law_1777 11 = .ok (.iaload, 1) ∧ okop dsL_law_1777 11 = true) := by decide +kernel
theorem dL_law_1777 : decode cL_law 1777 = .ok (.aload_n 0, 1) := dgq (p := 0) daL_law_1777 dbL_law_1777.1
theorem dL_law_1778 : decode cL_law 1778 = .ok (.iload 5, 2) := dgq (p := 1) daL_law_1777 dbL_law_1777.2.1
theorem dL_law_1780 : decode cL_law 1780 = .ok (.iconst 1, 1) := dgq (p := 3) daL_law_1777 dbL_law_1777.2.2.1
theorem dL_law_1781 : decode cL_law 1781 = .ok (.iadd, 1) := dgq (p := 4) daL_law_1777 dbL_law_1777.2.2.2.1
theorem dL_law_1782 : decode cL_law 1782 = .ok (.iaload, 1) := dgq (p := 5) daL_law_1777 dbL_law_1777.2.2.2.2.1
theorem dL_law_1783 : decode cL_law 1783 = .ok (.aload_n 0, 1) := dgq (p := 6) daL_law_1777 dbL_law_1777.2.2.2.2.2.1
theorem dL_law_1784 : decode cL_law 1784 = .ok (.iload 5, 2) := dgq (p := 7) daL_law_1777 dbL_law_1777.2.2.2.2.2.2.1
theorem dL_law_1786 : decode cL_law 1786 = .ok (.iconst 2, 1) := dgq (p := 9) daL_law_1777 dbL_law_1777.2.2.2.2.2.2.2.1
theorem dL_law_1787 : decode cL_law 1787 = .ok (.iadd, 1) := dgq (p := 10) daL_law_1777 dbL_law_1777.2.2.2.2.2.2.2.2.1
theorem dL_law_1788 : decode cL_law 1788 = .ok (.iaload, 1) := dgq (p := 11) daL_law_1777 dbL_law_1777.2.2.2.2.2.2.2.2.2
def dsL_law_1789 : ByteArray := ⟨#[42, 21, 5, 6, 96, 46, 153, 0, 7, 4, 167, 0, 4, 3, 45]⟩
theorem daL_law_1789 : agB cL_law dsL_law_1789 1789 := agB_of (n := 15) (by decide +kernel)
theorem dbL_law_1789 : (decode dsL_law_1789 0 = .ok (.aload_n 0, 1) ∧ okop dsL_law_1789 0 = true) ∧ (decode dsL_law_1789 1 = .ok (.iload 5, 2) ∧ okop dsL_law_1789 1 = true) ∧ (decode dsL_law_1789 3 = .ok (.iconst 3, 1) ∧ okop dsL_law_1789 3 = true) ∧ (decode dsL_law_1789 4 = .ok (.iadd, 1) ∧ okop dsL_law_1789 4 = true) ∧ (decode dsL_law_1789 5 = .ok (.iaload, 1) ∧ okop dsL_law_1789 5 = true) ∧ (decode dsL_law_1789 6 = .ok (.ifCond .eq 7, 3) ∧ okop dsL_law_1789 6 = true) ∧ (decode dsL_law_1789 9 = .ok (.iconst 1, 1) ∧ okop dsL_law_1789 9 = true) ∧ (decode dsL_law_1789 10 = .ok (.goto 4, 3) ∧ okop dsL_law_1789 10 = true) ∧ (decode dsL_law_1789 13 = .ok (.iconst 0, 1) ∧ okop dsL_law_1789 13 = true) ∧ (decode dsL_law_1789 14 = .ok (.aload_n 3, 1) ∧ okop dsL_law_1789 14 = true) := by decide +kernel
theorem dL_law_1789 : decode cL_law 1789 = .ok (.aload_n 0, 1) := dgq (p := 0) daL_law_1789 dbL_law_1789.1
theorem dL_law_1790 : decode cL_law 1790 = .ok (.iload 5, 2) := dgq (p := 1) daL_law_1789 dbL_law_1789.2.1
theorem dL_law_1792 : decode cL_law 1792 = .ok (.iconst 3, 1) := dgq (p := 3) daL_law_1789 dbL_law_1789.2.2.1
theorem dL_law_1793 : decode cL_law 1793 = .ok (.iadd, 1) := dgq (p := 4) daL_law_1789 dbL_law_1789.2.2.2.1
theorem dL_law_1794 : decode cL_law 1794 = .ok (.iaload, 1) := dgq (p := 5) daL_law_1789 dbL_law_1789.2.2.2.2.1
theorem dL_law_1795 : decode cL_law 1795 = .ok (.ifCond .eq 7, 3) := dgq (p := 6) daL_law_1789 dbL_law_1789.2.2.2.2.2.1
theorem dL_law_1798 : decode cL_law 1798 = .ok (.iconst 1, 1) := dgq (p := 9) daL_law_1789 dbL_law_1789.2.2.2.2.2.2.1
theorem dL_law_1799 : decode cL_law 1799 = .ok (.goto 4, 3) := dgq (p := 10) daL_law_1789 dbL_law_1789.2.2.2.2.2.2.2.1
theorem dL_law_1802 : decode cL_law 1802 = .ok (.iconst 0, 1) := dgq (p := 13) daL_law_1789 dbL_law_1789.2.2.2.2.2.2.2.2.1
theorem dL_law_1803 : decode cL_law 1803 = .ok (.aload_n 3, 1) := dgq (p := 14) daL_law_1789 dbL_law_1789.2.2.2.2.2.2.2.2.2
def dsL_law_1804 : ByteArray := ⟨#[184, 1, 75, 54, 6, 44, 42, 21, 5, 4, 96, 46, 42, 21, 5]⟩
theorem daL_law_1804 : agB cL_law dsL_law_1804 1804 := agB_of (n := 15) (by decide +kernel)
theorem dbL_law_1804 : (decode dsL_law_1804 0 = .ok (.invokestatic 331, 3) ∧ okop dsL_law_1804 0 = true) ∧ (decode dsL_law_1804 3 = .ok (.istore 6, 2) ∧ okop dsL_law_1804 3 = true) ∧ (decode dsL_law_1804 5 = .ok (.aload_n 2, 1) ∧ okop dsL_law_1804 5 = true) ∧ (decode dsL_law_1804 6 = .ok (.aload_n 0, 1) ∧ okop dsL_law_1804 6 = true) ∧ (decode dsL_law_1804 7 = .ok (.iload 5, 2) ∧ okop dsL_law_1804 7 = true) ∧ (decode dsL_law_1804 9 = .ok (.iconst 1, 1) ∧ okop dsL_law_1804 9 = true) ∧ (decode dsL_law_1804 10 = .ok (.iadd, 1) ∧ okop dsL_law_1804 10 = true) ∧ (decode dsL_law_1804 11 = .ok (.iaload, 1) ∧ okop dsL_law_1804 11 = true) ∧ (decode dsL_law_1804 12 = .ok (.aload_n 0, 1) ∧ okop dsL_law_1804 12 = true) ∧ (decode dsL_law_1804 13 = .ok (.iload 5, 2) ∧ okop dsL_law_1804 13 = true) := by decide +kernel
theorem dL_law_1804 : decode cL_law 1804 = .ok (.invokestatic 331, 3) := dgq (p := 0) daL_law_1804 dbL_law_1804.1
theorem dL_law_1807 : decode cL_law 1807 = .ok (.istore 6, 2) := dgq (p := 3) daL_law_1804 dbL_law_1804.2.1
theorem dL_law_1809 : decode cL_law 1809 = .ok (.aload_n 2, 1) := dgq (p := 5) daL_law_1804 dbL_law_1804.2.2.1
theorem dL_law_1810 : decode cL_law 1810 = .ok (.aload_n 0, 1) := dgq (p := 6) daL_law_1804 dbL_law_1804.2.2.2.1
theorem dL_law_1811 : decode cL_law 1811 = .ok (.iload 5, 2) := dgq (p := 7) daL_law_1804 dbL_law_1804.2.2.2.2.1
theorem dL_law_1813 : decode cL_law 1813 = .ok (.iconst 1, 1) := dgq (p := 9) daL_law_1804 dbL_law_1804.2.2.2.2.2.1
theorem dL_law_1814 : decode cL_law 1814 = .ok (.iadd, 1) := dgq (p := 10) daL_law_1804 dbL_law_1804.2.2.2.2.2.2.1
theorem dL_law_1815 : decode cL_law 1815 = .ok (.iaload, 1) := dgq (p := 11) daL_law_1804 dbL_law_1804.2.2.2.2.2.2.2.1
theorem dL_law_1816 : decode cL_law 1816 = .ok (.aload_n 0, 1) := dgq (p := 12) daL_law_1804 dbL_law_1804.2.2.2.2.2.2.2.2.1
theorem dL_law_1817 : decode cL_law 1817 = .ok (.iload 5, 2) := dgq (p := 13) daL_law_1804 dbL_law_1804.2.2.2.2.2.2.2.2.2
def dsL_law_1819 : ByteArray := ⟨#[5, 96, 46, 42, 21, 5, 6, 96, 46, 153, 0, 7, 4]⟩
theorem daL_law_1819 : agB cL_law dsL_law_1819 1819 := agB_of (n := 13) (by decide +kernel)
theorem dbL_law_1819 : (decode dsL_law_1819 0 = .ok (.iconst 2, 1) ∧ okop dsL_law_1819 0 = true) ∧ (decode dsL_law_1819 1 = .ok (.iadd, 1) ∧ okop dsL_law_1819 1 = true) ∧ (decode dsL_law_1819 2 = .ok (.iaload, 1) ∧ okop dsL_law_1819 2 = true) ∧ (decode dsL_law_1819 3 = .ok (.aload_n 0, 1) ∧ okop dsL_law_1819 3 = true) ∧ (decode dsL_law_1819 4 = .ok (.iload 5, 2) ∧ okop dsL_law_1819 4 = true) ∧ (decode dsL_law_1819 6 = .ok (.iconst 3, 1) ∧ okop dsL_law_1819 6 = true) ∧ (decode dsL_law_1819 7 = .ok (.iadd, 1) ∧ okop dsL_law_1819 7 = true) ∧ (decode dsL_law_1819 8 = .ok (.iaload, 1) ∧ okop dsL_law_1819 8 = true) ∧ (decode dsL_law_1819 9 = .ok (.ifCond .eq 7, 3) ∧ okop dsL_law_1819 9 = true) ∧ (decode dsL_law_1819 12 = .ok (.iconst 1, 1) ∧ okop dsL_law_1819 12 = true) := by decide +kernel
theorem dL_law_1819 : decode cL_law 1819 = .ok (.iconst 2, 1) := dgq (p := 0) daL_law_1819 dbL_law_1819.1
theorem dL_law_1820 : decode cL_law 1820 = .ok (.iadd, 1) := dgq (p := 1) daL_law_1819 dbL_law_1819.2.1
theorem dL_law_1821 : decode cL_law 1821 = .ok (.iaload, 1) := dgq (p := 2) daL_law_1819 dbL_law_1819.2.2.1
theorem dL_law_1822 : decode cL_law 1822 = .ok (.aload_n 0, 1) := dgq (p := 3) daL_law_1819 dbL_law_1819.2.2.2.1
theorem dL_law_1823 : decode cL_law 1823 = .ok (.iload 5, 2) := dgq (p := 4) daL_law_1819 dbL_law_1819.2.2.2.2.1
theorem dL_law_1825 : decode cL_law 1825 = .ok (.iconst 3, 1) := dgq (p := 6) daL_law_1819 dbL_law_1819.2.2.2.2.2.1
theorem dL_law_1826 : decode cL_law 1826 = .ok (.iadd, 1) := dgq (p := 7) daL_law_1819 dbL_law_1819.2.2.2.2.2.2.1
theorem dL_law_1827 : decode cL_law 1827 = .ok (.iaload, 1) := dgq (p := 8) daL_law_1819 dbL_law_1819.2.2.2.2.2.2.2.1
theorem dL_law_1828 : decode cL_law 1828 = .ok (.ifCond .eq 7, 3) := dgq (p := 9) daL_law_1819 dbL_law_1819.2.2.2.2.2.2.2.2.1
theorem dL_law_1831 : decode cL_law 1831 = .ok (.iconst 1, 1) := dgq (p := 12) daL_law_1819 dbL_law_1819.2.2.2.2.2.2.2.2.2
def dsL_law_1832 : ByteArray := ⟨#[167, 0, 4, 3, 182, 1, 78, 54, 7, 167, 4, 59, 43, 42, 21, 5, 4, 96]⟩
theorem daL_law_1832 : agB cL_law dsL_law_1832 1832 := agB_of (n := 18) (by decide +kernel)
theorem dbL_law_1832 : (decode dsL_law_1832 0 = .ok (.goto 4, 3) ∧ okop dsL_law_1832 0 = true) ∧ (decode dsL_law_1832 3 = .ok (.iconst 0, 1) ∧ okop dsL_law_1832 3 = true) ∧ (decode dsL_law_1832 4 = .ok (.invokevirtual 334, 3) ∧ okop dsL_law_1832 4 = true) ∧ (decode dsL_law_1832 7 = .ok (.istore 7, 2) ∧ okop dsL_law_1832 7 = true) ∧ (decode dsL_law_1832 9 = .ok (.goto 1083, 3) ∧ okop dsL_law_1832 9 = true) ∧ (decode dsL_law_1832 12 = .ok (.aload_n 1, 1) ∧ okop dsL_law_1832 12 = true) ∧ (decode dsL_law_1832 13 = .ok (.aload_n 0, 1) ∧ okop dsL_law_1832 13 = true) ∧ (decode dsL_law_1832 14 = .ok (.iload 5, 2) ∧ okop dsL_law_1832 14 = true) ∧ (decode dsL_law_1832 16 = .ok (.iconst 1, 1) ∧ okop dsL_law_1832 16 = true) ∧ (decode dsL_law_1832 17 = .ok (.iadd, 1) ∧ okop dsL_law_1832 17 = true) := by decide +kernel
theorem dL_law_1832 : decode cL_law 1832 = .ok (.goto 4, 3) := dgq (p := 0) daL_law_1832 dbL_law_1832.1
theorem dL_law_1835 : decode cL_law 1835 = .ok (.iconst 0, 1) := dgq (p := 3) daL_law_1832 dbL_law_1832.2.1
theorem dL_law_1836 : decode cL_law 1836 = .ok (.invokevirtual 334, 3) := dgq (p := 4) daL_law_1832 dbL_law_1832.2.2.1
theorem dL_law_1839 : decode cL_law 1839 = .ok (.istore 7, 2) := dgq (p := 7) daL_law_1832 dbL_law_1832.2.2.2.1
theorem dL_law_1841 : decode cL_law 1841 = .ok (.goto 1083, 3) := dgq (p := 9) daL_law_1832 dbL_law_1832.2.2.2.2.1
theorem dL_law_1844 : decode cL_law 1844 = .ok (.aload_n 1, 1) := dgq (p := 12) daL_law_1832 dbL_law_1832.2.2.2.2.2.1
theorem dL_law_1845 : decode cL_law 1845 = .ok (.aload_n 0, 1) := dgq (p := 13) daL_law_1832 dbL_law_1832.2.2.2.2.2.2.1
theorem dL_law_1846 : decode cL_law 1846 = .ok (.iload 5, 2) := dgq (p := 14) daL_law_1832 dbL_law_1832.2.2.2.2.2.2.2.1
theorem dL_law_1848 : decode cL_law 1848 = .ok (.iconst 1, 1) := dgq (p := 16) daL_law_1832 dbL_law_1832.2.2.2.2.2.2.2.2.1
theorem dL_law_1849 : decode cL_law 1849 = .ok (.iadd, 1) := dgq (p := 17) daL_law_1832 dbL_law_1832.2.2.2.2.2.2.2.2.2
def dsL_law_1850 : ByteArray := ⟨#[46, 45, 184, 1, 79, 54, 6, 44, 42, 21, 5, 4, 96, 46]⟩
theorem daL_law_1850 : agB cL_law dsL_law_1850 1850 := agB_of (n := 14) (by decide +kernel)
theorem dbL_law_1850 : (decode dsL_law_1850 0 = .ok (.iaload, 1) ∧ okop dsL_law_1850 0 = true) ∧ (decode dsL_law_1850 1 = .ok (.aload_n 3, 1) ∧ okop dsL_law_1850 1 = true) ∧ (decode dsL_law_1850 2 = .ok (.invokestatic 335, 3) ∧ okop dsL_law_1850 2 = true) ∧ (decode dsL_law_1850 5 = .ok (.istore 6, 2) ∧ okop dsL_law_1850 5 = true) ∧ (decode dsL_law_1850 7 = .ok (.aload_n 2, 1) ∧ okop dsL_law_1850 7 = true) ∧ (decode dsL_law_1850 8 = .ok (.aload_n 0, 1) ∧ okop dsL_law_1850 8 = true) ∧ (decode dsL_law_1850 9 = .ok (.iload 5, 2) ∧ okop dsL_law_1850 9 = true) ∧ (decode dsL_law_1850 11 = .ok (.iconst 1, 1) ∧ okop dsL_law_1850 11 = true) ∧ (decode dsL_law_1850 12 = .ok (.iadd, 1) ∧ okop dsL_law_1850 12 = true) ∧ (decode dsL_law_1850 13 = .ok (.iaload, 1) ∧ okop dsL_law_1850 13 = true) := by decide +kernel
theorem dL_law_1850 : decode cL_law 1850 = .ok (.iaload, 1) := dgq (p := 0) daL_law_1850 dbL_law_1850.1
theorem dL_law_1851 : decode cL_law 1851 = .ok (.aload_n 3, 1) := dgq (p := 1) daL_law_1850 dbL_law_1850.2.1
theorem dL_law_1852 : decode cL_law 1852 = .ok (.invokestatic 335, 3) := dgq (p := 2) daL_law_1850 dbL_law_1850.2.2.1
theorem dL_law_1855 : decode cL_law 1855 = .ok (.istore 6, 2) := dgq (p := 5) daL_law_1850 dbL_law_1850.2.2.2.1
theorem dL_law_1857 : decode cL_law 1857 = .ok (.aload_n 2, 1) := dgq (p := 7) daL_law_1850 dbL_law_1850.2.2.2.2.1
theorem dL_law_1858 : decode cL_law 1858 = .ok (.aload_n 0, 1) := dgq (p := 8) daL_law_1850 dbL_law_1850.2.2.2.2.2.1
theorem dL_law_1859 : decode cL_law 1859 = .ok (.iload 5, 2) := dgq (p := 9) daL_law_1850 dbL_law_1850.2.2.2.2.2.2.1
theorem dL_law_1861 : decode cL_law 1861 = .ok (.iconst 1, 1) := dgq (p := 11) daL_law_1850 dbL_law_1850.2.2.2.2.2.2.2.1
theorem dL_law_1862 : decode cL_law 1862 = .ok (.iadd, 1) := dgq (p := 12) daL_law_1850 dbL_law_1850.2.2.2.2.2.2.2.2.1
theorem dL_law_1863 : decode cL_law 1863 = .ok (.iaload, 1) := dgq (p := 13) daL_law_1850 dbL_law_1850.2.2.2.2.2.2.2.2.2
def dsL_law_1864 : ByteArray := ⟨#[182, 1, 81, 54, 7, 167, 4, 31, 43, 42, 21, 5, 4, 96, 46, 45]⟩
theorem daL_law_1864 : agB cL_law dsL_law_1864 1864 := agB_of (n := 16) (by decide +kernel)
theorem dbL_law_1864 : (decode dsL_law_1864 0 = .ok (.invokevirtual 337, 3) ∧ okop dsL_law_1864 0 = true) ∧ (decode dsL_law_1864 3 = .ok (.istore 7, 2) ∧ okop dsL_law_1864 3 = true) ∧ (decode dsL_law_1864 5 = .ok (.goto 1055, 3) ∧ okop dsL_law_1864 5 = true) ∧ (decode dsL_law_1864 8 = .ok (.aload_n 1, 1) ∧ okop dsL_law_1864 8 = true) ∧ (decode dsL_law_1864 9 = .ok (.aload_n 0, 1) ∧ okop dsL_law_1864 9 = true) ∧ (decode dsL_law_1864 10 = .ok (.iload 5, 2) ∧ okop dsL_law_1864 10 = true) ∧ (decode dsL_law_1864 12 = .ok (.iconst 1, 1) ∧ okop dsL_law_1864 12 = true) ∧ (decode dsL_law_1864 13 = .ok (.iadd, 1) ∧ okop dsL_law_1864 13 = true) ∧ (decode dsL_law_1864 14 = .ok (.iaload, 1) ∧ okop dsL_law_1864 14 = true) ∧ (decode dsL_law_1864 15 = .ok (.aload_n 3, 1) ∧ okop dsL_law_1864 15 = true) := by decide +kernel
theorem dL_law_1864 : decode cL_law 1864 = .ok (.invokevirtual 337, 3) := dgq (p := 0) daL_law_1864 dbL_law_1864.1
theorem dL_law_1867 : decode cL_law 1867 = .ok (.istore 7, 2) := dgq (p := 3) daL_law_1864 dbL_law_1864.2.1
theorem dL_law_1869 : decode cL_law 1869 = .ok (.goto 1055, 3) := dgq (p := 5) daL_law_1864 dbL_law_1864.2.2.1
theorem dL_law_1872 : decode cL_law 1872 = .ok (.aload_n 1, 1) := dgq (p := 8) daL_law_1864 dbL_law_1864.2.2.2.1
theorem dL_law_1873 : decode cL_law 1873 = .ok (.aload_n 0, 1) := dgq (p := 9) daL_law_1864 dbL_law_1864.2.2.2.2.1
theorem dL_law_1874 : decode cL_law 1874 = .ok (.iload 5, 2) := dgq (p := 10) daL_law_1864 dbL_law_1864.2.2.2.2.2.1
theorem dL_law_1876 : decode cL_law 1876 = .ok (.iconst 1, 1) := dgq (p := 12) daL_law_1864 dbL_law_1864.2.2.2.2.2.2.1
theorem dL_law_1877 : decode cL_law 1877 = .ok (.iadd, 1) := dgq (p := 13) daL_law_1864 dbL_law_1864.2.2.2.2.2.2.2.1
theorem dL_law_1878 : decode cL_law 1878 = .ok (.iaload, 1) := dgq (p := 14) daL_law_1864 dbL_law_1864.2.2.2.2.2.2.2.2.1
theorem dL_law_1879 : decode cL_law 1879 = .ok (.aload_n 3, 1) := dgq (p := 15) daL_law_1864 dbL_law_1864.2.2.2.2.2.2.2.2.2
def dsL_law_1880 : ByteArray := ⟨#[184, 1, 82, 54, 6, 44, 42, 21, 5, 4, 96, 46, 182, 1, 84, 54, 7]⟩
theorem daL_law_1880 : agB cL_law dsL_law_1880 1880 := agB_of (n := 17) (by decide +kernel)
theorem dbL_law_1880 : (decode dsL_law_1880 0 = .ok (.invokestatic 338, 3) ∧ okop dsL_law_1880 0 = true) ∧ (decode dsL_law_1880 3 = .ok (.istore 6, 2) ∧ okop dsL_law_1880 3 = true) ∧ (decode dsL_law_1880 5 = .ok (.aload_n 2, 1) ∧ okop dsL_law_1880 5 = true) ∧ (decode dsL_law_1880 6 = .ok (.aload_n 0, 1) ∧ okop dsL_law_1880 6 = true) ∧ (decode dsL_law_1880 7 = .ok (.iload 5, 2) ∧ okop dsL_law_1880 7 = true) ∧ (decode dsL_law_1880 9 = .ok (.iconst 1, 1) ∧ okop dsL_law_1880 9 = true) ∧ (decode dsL_law_1880 10 = .ok (.iadd, 1) ∧ okop dsL_law_1880 10 = true) ∧ (decode dsL_law_1880 11 = .ok (.iaload, 1) ∧ okop dsL_law_1880 11 = true) ∧ (decode dsL_law_1880 12 = .ok (.invokevirtual 340, 3) ∧ okop dsL_law_1880 12 = true) ∧ (decode dsL_law_1880 15 = .ok (.istore 7, 2) ∧ okop dsL_law_1880 15 = true) := by decide +kernel
theorem dL_law_1880 : decode cL_law 1880 = .ok (.invokestatic 338, 3) := dgq (p := 0) daL_law_1880 dbL_law_1880.1
theorem dL_law_1883 : decode cL_law 1883 = .ok (.istore 6, 2) := dgq (p := 3) daL_law_1880 dbL_law_1880.2.1
theorem dL_law_1885 : decode cL_law 1885 = .ok (.aload_n 2, 1) := dgq (p := 5) daL_law_1880 dbL_law_1880.2.2.1
theorem dL_law_1886 : decode cL_law 1886 = .ok (.aload_n 0, 1) := dgq (p := 6) daL_law_1880 dbL_law_1880.2.2.2.1
theorem dL_law_1887 : decode cL_law 1887 = .ok (.iload 5, 2) := dgq (p := 7) daL_law_1880 dbL_law_1880.2.2.2.2.1
theorem dL_law_1889 : decode cL_law 1889 = .ok (.iconst 1, 1) := dgq (p := 9) daL_law_1880 dbL_law_1880.2.2.2.2.2.1
theorem dL_law_1890 : decode cL_law 1890 = .ok (.iadd, 1) := dgq (p := 10) daL_law_1880 dbL_law_1880.2.2.2.2.2.2.1
theorem dL_law_1891 : decode cL_law 1891 = .ok (.iaload, 1) := dgq (p := 11) daL_law_1880 dbL_law_1880.2.2.2.2.2.2.2.1
theorem dL_law_1892 : decode cL_law 1892 = .ok (.invokevirtual 340, 3) := dgq (p := 12) daL_law_1880 dbL_law_1880.2.2.2.2.2.2.2.2.1
theorem dL_law_1895 : decode cL_law 1895 = .ok (.istore 7, 2) := dgq (p := 15) daL_law_1880 dbL_law_1880.2.2.2.2.2.2.2.2.2
def dsL_law_1897 : ByteArray := ⟨#[167, 4, 3, 43, 42, 21, 5, 4, 96, 46, 42, 21, 5, 5]⟩
theorem daL_law_1897 : agB cL_law dsL_law_1897 1897 := agB_of (n := 14) (by decide +kernel)
theorem dbL_law_1897 : (decode dsL_law_1897 0 = .ok (.goto 1027, 3) ∧ okop dsL_law_1897 0 = true) ∧ (decode dsL_law_1897 3 = .ok (.aload_n 1, 1) ∧ okop dsL_law_1897 3 = true) ∧ (decode dsL_law_1897 4 = .ok (.aload_n 0, 1) ∧ okop dsL_law_1897 4 = true) ∧ (decode dsL_law_1897 5 = .ok (.iload 5, 2) ∧ okop dsL_law_1897 5 = true) ∧ (decode dsL_law_1897 7 = .ok (.iconst 1, 1) ∧ okop dsL_law_1897 7 = true) ∧ (decode dsL_law_1897 8 = .ok (.iadd, 1) ∧ okop dsL_law_1897 8 = true) ∧ (decode dsL_law_1897 9 = .ok (.iaload, 1) ∧ okop dsL_law_1897 9 = true) ∧ (decode dsL_law_1897 10 = .ok (.aload_n 0, 1) ∧ okop dsL_law_1897 10 = true) ∧ (decode dsL_law_1897 11 = .ok (.iload 5, 2) ∧ okop dsL_law_1897 11 = true) ∧ (decode dsL_law_1897 13 = .ok (.iconst 2, 1) ∧ okop dsL_law_1897 13 = true) := by decide +kernel
theorem dL_law_1897 : decode cL_law 1897 = .ok (.goto 1027, 3) := dgq (p := 0) daL_law_1897 dbL_law_1897.1
theorem dL_law_1900 : decode cL_law 1900 = .ok (.aload_n 1, 1) := dgq (p := 3) daL_law_1897 dbL_law_1897.2.1
theorem dL_law_1901 : decode cL_law 1901 = .ok (.aload_n 0, 1) := dgq (p := 4) daL_law_1897 dbL_law_1897.2.2.1
theorem dL_law_1902 : decode cL_law 1902 = .ok (.iload 5, 2) := dgq (p := 5) daL_law_1897 dbL_law_1897.2.2.2.1
theorem dL_law_1904 : decode cL_law 1904 = .ok (.iconst 1, 1) := dgq (p := 7) daL_law_1897 dbL_law_1897.2.2.2.2.1
theorem dL_law_1905 : decode cL_law 1905 = .ok (.iadd, 1) := dgq (p := 8) daL_law_1897 dbL_law_1897.2.2.2.2.2.1
theorem dL_law_1906 : decode cL_law 1906 = .ok (.iaload, 1) := dgq (p := 9) daL_law_1897 dbL_law_1897.2.2.2.2.2.2.1
theorem dL_law_1907 : decode cL_law 1907 = .ok (.aload_n 0, 1) := dgq (p := 10) daL_law_1897 dbL_law_1897.2.2.2.2.2.2.2.1
theorem dL_law_1908 : decode cL_law 1908 = .ok (.iload 5, 2) := dgq (p := 11) daL_law_1897 dbL_law_1897.2.2.2.2.2.2.2.2.1
theorem dL_law_1910 : decode cL_law 1910 = .ok (.iconst 2, 1) := dgq (p := 13) daL_law_1897 dbL_law_1897.2.2.2.2.2.2.2.2.2
def dsL_law_1911 : ByteArray := ⟨#[96, 46, 42, 21, 5, 6, 96, 46, 45, 184, 1, 85, 54, 6]⟩
theorem daL_law_1911 : agB cL_law dsL_law_1911 1911 := agB_of (n := 14) (by decide +kernel)
theorem dbL_law_1911 : (decode dsL_law_1911 0 = .ok (.iadd, 1) ∧ okop dsL_law_1911 0 = true) ∧ (decode dsL_law_1911 1 = .ok (.iaload, 1) ∧ okop dsL_law_1911 1 = true) ∧ (decode dsL_law_1911 2 = .ok (.aload_n 0, 1) ∧ okop dsL_law_1911 2 = true) ∧ (decode dsL_law_1911 3 = .ok (.iload 5, 2) ∧ okop dsL_law_1911 3 = true) ∧ (decode dsL_law_1911 5 = .ok (.iconst 3, 1) ∧ okop dsL_law_1911 5 = true) ∧ (decode dsL_law_1911 6 = .ok (.iadd, 1) ∧ okop dsL_law_1911 6 = true) ∧ (decode dsL_law_1911 7 = .ok (.iaload, 1) ∧ okop dsL_law_1911 7 = true) ∧ (decode dsL_law_1911 8 = .ok (.aload_n 3, 1) ∧ okop dsL_law_1911 8 = true) ∧ (decode dsL_law_1911 9 = .ok (.invokestatic 341, 3) ∧ okop dsL_law_1911 9 = true) ∧ (decode dsL_law_1911 12 = .ok (.istore 6, 2) ∧ okop dsL_law_1911 12 = true) := by decide +kernel
theorem dL_law_1911 : decode cL_law 1911 = .ok (.iadd, 1) := dgq (p := 0) daL_law_1911 dbL_law_1911.1
theorem dL_law_1912 : decode cL_law 1912 = .ok (.iaload, 1) := dgq (p := 1) daL_law_1911 dbL_law_1911.2.1
theorem dL_law_1913 : decode cL_law 1913 = .ok (.aload_n 0, 1) := dgq (p := 2) daL_law_1911 dbL_law_1911.2.2.1
theorem dL_law_1914 : decode cL_law 1914 = .ok (.iload 5, 2) := dgq (p := 3) daL_law_1911 dbL_law_1911.2.2.2.1
theorem dL_law_1916 : decode cL_law 1916 = .ok (.iconst 3, 1) := dgq (p := 5) daL_law_1911 dbL_law_1911.2.2.2.2.1
theorem dL_law_1917 : decode cL_law 1917 = .ok (.iadd, 1) := dgq (p := 6) daL_law_1911 dbL_law_1911.2.2.2.2.2.1
theorem dL_law_1918 : decode cL_law 1918 = .ok (.iaload, 1) := dgq (p := 7) daL_law_1911 dbL_law_1911.2.2.2.2.2.2.1
theorem dL_law_1919 : decode cL_law 1919 = .ok (.aload_n 3, 1) := dgq (p := 8) daL_law_1911 dbL_law_1911.2.2.2.2.2.2.2.1
theorem dL_law_1920 : decode cL_law 1920 = .ok (.invokestatic 341, 3) := dgq (p := 9) daL_law_1911 dbL_law_1911.2.2.2.2.2.2.2.2.1
theorem dL_law_1923 : decode cL_law 1923 = .ok (.istore 6, 2) := dgq (p := 12) daL_law_1911 dbL_law_1911.2.2.2.2.2.2.2.2.2
def dsL_law_1925 : ByteArray := ⟨#[44, 42, 21, 5, 4, 96, 46, 42, 21, 5, 5, 96]⟩
theorem daL_law_1925 : agB cL_law dsL_law_1925 1925 := agB_of (n := 12) (by decide +kernel)
theorem dbL_law_1925 : (decode dsL_law_1925 0 = .ok (.aload_n 2, 1) ∧ okop dsL_law_1925 0 = true) ∧ (decode dsL_law_1925 1 = .ok (.aload_n 0, 1) ∧ okop dsL_law_1925 1 = true) ∧ (decode dsL_law_1925 2 = .ok (.iload 5, 2) ∧ okop dsL_law_1925 2 = true) ∧ (decode dsL_law_1925 4 = .ok (.iconst 1, 1) ∧ okop dsL_law_1925 4 = true) ∧ (decode dsL_law_1925 5 = .ok (.iadd, 1) ∧ okop dsL_law_1925 5 = true) ∧ (decode dsL_law_1925 6 = .ok (.iaload, 1) ∧ okop dsL_law_1925 6 = true) ∧ (decode dsL_law_1925 7 = .ok (.aload_n 0, 1) ∧ okop dsL_law_1925 7 = true) ∧ (decode dsL_law_1925 8 = .ok (.iload 5, 2) ∧ okop dsL_law_1925 8 = true) ∧ (decode dsL_law_1925 10 = .ok (.iconst 2, 1) ∧ okop dsL_law_1925 10 = true) ∧ (decode dsL_law_1925 11 = .ok (.iadd, 1) ∧ okop dsL_law_1925 11 = true) := by decide +kernel
theorem dL_law_1925 : decode cL_law 1925 = .ok (.aload_n 2, 1) := dgq (p := 0) daL_law_1925 dbL_law_1925.1
theorem dL_law_1926 : decode cL_law 1926 = .ok (.aload_n 0, 1) := dgq (p := 1) daL_law_1925 dbL_law_1925.2.1
theorem dL_law_1927 : decode cL_law 1927 = .ok (.iload 5, 2) := dgq (p := 2) daL_law_1925 dbL_law_1925.2.2.1
theorem dL_law_1929 : decode cL_law 1929 = .ok (.iconst 1, 1) := dgq (p := 4) daL_law_1925 dbL_law_1925.2.2.2.1
theorem dL_law_1930 : decode cL_law 1930 = .ok (.iadd, 1) := dgq (p := 5) daL_law_1925 dbL_law_1925.2.2.2.2.1
theorem dL_law_1931 : decode cL_law 1931 = .ok (.iaload, 1) := dgq (p := 6) daL_law_1925 dbL_law_1925.2.2.2.2.2.1
theorem dL_law_1932 : decode cL_law 1932 = .ok (.aload_n 0, 1) := dgq (p := 7) daL_law_1925 dbL_law_1925.2.2.2.2.2.2.1
theorem dL_law_1933 : decode cL_law 1933 = .ok (.iload 5, 2) := dgq (p := 8) daL_law_1925 dbL_law_1925.2.2.2.2.2.2.2.1
theorem dL_law_1935 : decode cL_law 1935 = .ok (.iconst 2, 1) := dgq (p := 10) daL_law_1925 dbL_law_1925.2.2.2.2.2.2.2.2.1
theorem dL_law_1936 : decode cL_law 1936 = .ok (.iadd, 1) := dgq (p := 11) daL_law_1925 dbL_law_1925.2.2.2.2.2.2.2.2.2

