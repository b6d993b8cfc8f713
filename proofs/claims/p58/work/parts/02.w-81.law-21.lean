def dsL_law_681 : ByteArray := ⟨#[96, 46, 42, 21, 5, 5, 96, 46, 45, 184, 1, 4, 54, 6]⟩
theorem daL_law_681 : agB cL_law dsL_law_681 681 := agB_of (n := 14) (by decide +kernel)
theorem dbL_law_681 : (decode dsL_law_681 0 = .ok (.iadd, 1) ∧ okop dsL_law_681 0 = true) ∧ (decode dsL_law_681 1 = .ok (.iaload, 1) ∧ okop dsL_law_681 1 = true) ∧ (decode dsL_law_681 2 = .ok (.aload_n 0, 1) ∧ okop dsL_law_681 2 = true) ∧ (decode dsL_law_681 3 = .ok (.iload 5, 2) ∧ okop dsL_law_681 3 = true) ∧ (decode dsL_law_681 5 = .ok (.iconst 2, 1) ∧ okop dsL_law_681 5 = true) ∧ (decode dsL_law_681 6 = .ok (.iadd, 1) ∧ okop dsL_law_681 6 = true) ∧ (decode dsL_law_681 7 = .ok (.iaload, 1) ∧ okop dsL_law_681 7 = true) ∧ (decode dsL_law_681 8 = .ok (.aload_n 3, 1) ∧ okop dsL_law_681 8 = true) ∧ (decode dsL_law_681 9 = .ok (.invokestatic 260, 3) ∧ okop dsL_law_681 9 = true) ∧ (decode dsL_law_681 12 = .ok (.istore 6, 2) ∧ okop dsL_law_681 12 = true) := by decide +kernel
theorem dL_law_681 : decode cL_law 681 = .ok (.iadd, 1) := dgq (p := 0) daL_law_681 dbL_law_681.1
theorem dL_law_682 : decode cL_law 682 = .ok (.iaload, 1) := dgq (p := 1) daL_law_681 dbL_law_681.2.1
theorem dL_law_683 : decode cL_law 683 = .ok (.aload_n 0, 1) := dgq (p := 2) daL_law_681 dbL_law_681.2.2.1
theorem dL_law_684 : decode cL_law 684 = .ok (.iload 5, 2) := dgq (p := 3) daL_law_681 dbL_law_681.2.2.2.1
theorem dL_law_686 : decode cL_law 686 = .ok (.iconst 2, 1) := dgq (p := 5) daL_law_681 dbL_law_681.2.2.2.2.1
theorem dL_law_687 : decode cL_law 687 = .ok (.iadd, 1) := dgq (p := 6) daL_law_681 dbL_law_681.2.2.2.2.2.1
theorem dL_law_688 : decode cL_law 688 = .ok (.iaload, 1) := dgq (p := 7) daL_law_681 dbL_law_681.2.2.2.2.2.2.1
theorem dL_law_689 : decode cL_law 689 = .ok (.aload_n 3, 1) := dgq (p := 8) daL_law_681 dbL_law_681.2.2.2.2.2.2.2.1
theorem dL_law_690 : decode cL_law 690 = .ok (.invokestatic 260, 3) := dgq (p := 9) daL_law_681 dbL_law_681.2.2.2.2.2.2.2.2.1
theorem dL_law_693 : decode cL_law 693 = .ok (.istore 6, 2) := dgq (p := 12) daL_law_681 dbL_law_681.2.2.2.2.2.2.2.2.2
def dsL_law_695 : ByteArray := ⟨#[44, 42, 21, 5, 4, 96, 46, 42, 21, 5, 5, 96]⟩
theorem daL_law_695 : agB cL_law dsL_law_695 695 := agB_of (n := 12) (by decide +kernel)
theorem dbL_law_695 : (decode dsL_law_695 0 = .ok (.aload_n 2, 1) ∧ okop dsL_law_695 0 = true) ∧ (decode dsL_law_695 1 = .ok (.aload_n 0, 1) ∧ okop dsL_law_695 1 = true) ∧ (decode dsL_law_695 2 = .ok (.iload 5, 2) ∧ okop dsL_law_695 2 = true) ∧ (decode dsL_law_695 4 = .ok (.iconst 1, 1) ∧ okop dsL_law_695 4 = true) ∧ (decode dsL_law_695 5 = .ok (.iadd, 1) ∧ okop dsL_law_695 5 = true) ∧ (decode dsL_law_695 6 = .ok (.iaload, 1) ∧ okop dsL_law_695 6 = true) ∧ (decode dsL_law_695 7 = .ok (.aload_n 0, 1) ∧ okop dsL_law_695 7 = true) ∧ (decode dsL_law_695 8 = .ok (.iload 5, 2) ∧ okop dsL_law_695 8 = true) ∧ (decode dsL_law_695 10 = .ok (.iconst 2, 1) ∧ okop dsL_law_695 10 = true) ∧ (decode dsL_law_695 11 = .ok (.iadd, 1) ∧ okop dsL_law_695 11 = true) := by decide +kernel
theorem dL_law_695 : decode cL_law 695 = .ok (.aload_n 2, 1) := dgq (p := 0) daL_law_695 dbL_law_695.1
theorem dL_law_696 : decode cL_law 696 = .ok (.aload_n 0, 1) := dgq (p := 1) daL_law_695 dbL_law_695.2.1
theorem dL_law_697 : decode cL_law 697 = .ok (.iload 5, 2) := dgq (p := 2) daL_law_695 dbL_law_695.2.2.1
theorem dL_law_699 : decode cL_law 699 = .ok (.iconst 1, 1) := dgq (p := 4) daL_law_695 dbL_law_695.2.2.2.1
theorem dL_law_700 : decode cL_law 700 = .ok (.iadd, 1) := dgq (p := 5) daL_law_695 dbL_law_695.2.2.2.2.1
theorem dL_law_701 : decode cL_law 701 = .ok (.iaload, 1) := dgq (p := 6) daL_law_695 dbL_law_695.2.2.2.2.2.1
theorem dL_law_702 : decode cL_law 702 = .ok (.aload_n 0, 1) := dgq (p := 7) daL_law_695 dbL_law_695.2.2.2.2.2.2.1
theorem dL_law_703 : decode cL_law 703 = .ok (.iload 5, 2) := dgq (p := 8) daL_law_695 dbL_law_695.2.2.2.2.2.2.2.1
theorem dL_law_705 : decode cL_law 705 = .ok (.iconst 2, 1) := dgq (p := 10) daL_law_695 dbL_law_695.2.2.2.2.2.2.2.2.1
theorem dL_law_706 : decode cL_law 706 = .ok (.iadd, 1) := dgq (p := 11) daL_law_695 dbL_law_695.2.2.2.2.2.2.2.2.2
def dsL_law_707 : ByteArray := ⟨#[46, 182, 1, 6, 54, 7, 167, 8, 163, 43, 42, 21, 5, 4, 96, 46]⟩
theorem daL_law_707 : agB cL_law dsL_law_707 707 := agB_of (n := 16) (by decide +kernel)
theorem dbL_law_707 : (decode dsL_law_707 0 = .ok (.iaload, 1) ∧ okop dsL_law_707 0 = true) ∧ (decode dsL_law_707 1 = .ok (.invokevirtual 262, 3) ∧ okop dsL_law_707 1 = true) ∧ (decode dsL_law_707 4 = .ok (.istore 7, 2) ∧ okop dsL_law_707 4 = true) ∧ (decode dsL_law_707 6 = .ok (.goto 2211, 3) ∧ okop dsL_law_707 6 = true) ∧ (decode dsL_law_707 9 = .ok (.aload_n 1, 1) ∧ okop dsL_law_707 9 = true) ∧ (decode dsL_law_707 10 = .ok (.aload_n 0, 1) ∧ okop dsL_law_707 10 = true) ∧ (decode dsL_law_707 11 = .ok (.iload 5, 2) ∧ okop dsL_law_707 11 = true) ∧ (decode dsL_law_707 13 = .ok (.iconst 1, 1) ∧ okop dsL_law_707 13 = true) ∧ (decode dsL_law_707 14 = .ok (.iadd, 1) ∧ okop dsL_law_707 14 = true) ∧ (decode dsL_law_707 15 = .ok (.iaload, 1) ∧ okop dsL_law_707 15 = true) := by decide +kernel
theorem dL_law_707 : decode cL_law 707 = .ok (.iaload, 1) := dgq (p := 0) daL_law_707 dbL_law_707.1
theorem dL_law_708 : decode cL_law 708 = .ok (.invokevirtual 262, 3) := dgq (p := 1) daL_law_707 dbL_law_707.2.1
theorem dL_law_711 : decode cL_law 711 = .ok (.istore 7, 2) := dgq (p := 4) daL_law_707 dbL_law_707.2.2.1
theorem dL_law_713 : decode cL_law 713 = .ok (.goto 2211, 3) := dgq (p := 6) daL_law_707 dbL_law_707.2.2.2.1
theorem dL_law_716 : decode cL_law 716 = .ok (.aload_n 1, 1) := dgq (p := 9) daL_law_707 dbL_law_707.2.2.2.2.1
theorem dL_law_717 : decode cL_law 717 = .ok (.aload_n 0, 1) := dgq (p := 10) daL_law_707 dbL_law_707.2.2.2.2.2.1
theorem dL_law_718 : decode cL_law 718 = .ok (.iload 5, 2) := dgq (p := 11) daL_law_707 dbL_law_707.2.2.2.2.2.2.1
theorem dL_law_720 : decode cL_law 720 = .ok (.iconst 1, 1) := dgq (p := 13) daL_law_707 dbL_law_707.2.2.2.2.2.2.2.1
theorem dL_law_721 : decode cL_law 721 = .ok (.iadd, 1) := dgq (p := 14) daL_law_707 dbL_law_707.2.2.2.2.2.2.2.2.1
theorem dL_law_722 : decode cL_law 722 = .ok (.iaload, 1) := dgq (p := 15) daL_law_707 dbL_law_707.2.2.2.2.2.2.2.2.2
def dsL_law_723 : ByteArray := ⟨#[42, 21, 5, 5, 96, 46, 45, 184, 1, 7, 54, 6, 44, 42]⟩
theorem daL_law_723 : agB cL_law dsL_law_723 723 := agB_of (n := 14) (by decide +kernel)
theorem dbL_law_723 : (decode dsL_law_723 0 = .ok (.aload_n 0, 1) ∧ okop dsL_law_723 0 = true) ∧ (decode dsL_law_723 1 = .ok (.iload 5, 2) ∧ okop dsL_law_723 1 = true) ∧ (decode dsL_law_723 3 = .ok (.iconst 2, 1) ∧ okop dsL_law_723 3 = true) ∧ (decode dsL_law_723 4 = .ok (.iadd, 1) ∧ okop dsL_law_723 4 = true) ∧ (decode dsL_law_723 5 = .ok (.iaload, 1) ∧ okop dsL_law_723 5 = true) ∧ (decode dsL_law_723 6 = .ok (.aload_n 3, 1) ∧ okop dsL_law_723 6 = true) ∧ (decode dsL_law_723 7 = .ok (.invokestatic 263, 3) ∧ okop dsL_law_723 7 = true) ∧ (decode dsL_law_723 10 = .ok (.istore 6, 2) ∧ okop dsL_law_723 10 = true) ∧ (decode dsL_law_723 12 = .ok (.aload_n 2, 1) ∧ okop dsL_law_723 12 = true) ∧ (decode dsL_law_723 13 = .ok (.aload_n 0, 1) ∧ okop dsL_law_723 13 = true) := by decide +kernel
theorem dL_law_723 : decode cL_law 723 = .ok (.aload_n 0, 1) := dgq (p := 0) daL_law_723 dbL_law_723.1
theorem dL_law_724 : decode cL_law 724 = .ok (.iload 5, 2) := dgq (p := 1) daL_law_723 dbL_law_723.2.1
theorem dL_law_726 : decode cL_law 726 = .ok (.iconst 2, 1) := dgq (p := 3) daL_law_723 dbL_law_723.2.2.1
theorem dL_law_727 : decode cL_law 727 = .ok (.iadd, 1) := dgq (p := 4) daL_law_723 dbL_law_723.2.2.2.1
theorem dL_law_728 : decode cL_law 728 = .ok (.iaload, 1) := dgq (p := 5) daL_law_723 dbL_law_723.2.2.2.2.1
theorem dL_law_729 : decode cL_law 729 = .ok (.aload_n 3, 1) := dgq (p := 6) daL_law_723 dbL_law_723.2.2.2.2.2.1
theorem dL_law_730 : decode cL_law 730 = .ok (.invokestatic 263, 3) := dgq (p := 7) daL_law_723 dbL_law_723.2.2.2.2.2.2.1
theorem dL_law_733 : decode cL_law 733 = .ok (.istore 6, 2) := dgq (p := 10) daL_law_723 dbL_law_723.2.2.2.2.2.2.2.1
theorem dL_law_735 : decode cL_law 735 = .ok (.aload_n 2, 1) := dgq (p := 12) daL_law_723 dbL_law_723.2.2.2.2.2.2.2.2.1
theorem dL_law_736 : decode cL_law 736 = .ok (.aload_n 0, 1) := dgq (p := 13) daL_law_723 dbL_law_723.2.2.2.2.2.2.2.2.2
def dsL_law_737 : ByteArray := ⟨#[21, 5, 4, 96, 46, 42, 21, 5, 5, 96, 46, 182, 1, 9]⟩
theorem daL_law_737 : agB cL_law dsL_law_737 737 := agB_of (n := 14) (by decide +kernel)
theorem dbL_law_737 : (decode dsL_law_737 0 = .ok (.iload 5, 2) ∧ okop dsL_law_737 0 = true) ∧ (decode dsL_law_737 2 = .ok (.iconst 1, 1) ∧ okop dsL_law_737 2 = true) ∧ (decode dsL_law_737 3 = .ok (.iadd, 1) ∧ okop dsL_law_737 3 = true) ∧ (decode dsL_law_737 4 = .ok (.iaload, 1) ∧ okop dsL_law_737 4 = true) ∧ (decode dsL_law_737 5 = .ok (.aload_n 0, 1) ∧ okop dsL_law_737 5 = true) ∧ (decode dsL_law_737 6 = .ok (.iload 5, 2) ∧ okop dsL_law_737 6 = true) ∧ (decode dsL_law_737 8 = .ok (.iconst 2, 1) ∧ okop dsL_law_737 8 = true) ∧ (decode dsL_law_737 9 = .ok (.iadd, 1) ∧ okop dsL_law_737 9 = true) ∧ (decode dsL_law_737 10 = .ok (.iaload, 1) ∧ okop dsL_law_737 10 = true) ∧ (decode dsL_law_737 11 = .ok (.invokevirtual 265, 3) ∧ okop dsL_law_737 11 = true) := by decide +kernel
theorem dL_law_737 : decode cL_law 737 = .ok (.iload 5, 2) := dgq (p := 0) daL_law_737 dbL_law_737.1
theorem dL_law_739 : decode cL_law 739 = .ok (.iconst 1, 1) := dgq (p := 2) daL_law_737 dbL_law_737.2.1
theorem dL_law_740 : decode cL_law 740 = .ok (.iadd, 1) := dgq (p := 3) daL_law_737 dbL_law_737.2.2.1
theorem dL_law_741 : decode cL_law 741 = .ok (.iaload, 1) := dgq (p := 4) daL_law_737 dbL_law_737.2.2.2.1
theorem dL_law_742 : decode cL_law 742 = .ok (.aload_n 0, 1) := dgq (p := 5) daL_law_737 dbL_law_737.2.2.2.2.1
theorem dL_law_743 : decode cL_law 743 = .ok (.iload 5, 2) := dgq (p := 6) daL_law_737 dbL_law_737.2.2.2.2.2.1
theorem dL_law_745 : decode cL_law 745 = .ok (.iconst 2, 1) := dgq (p := 8) daL_law_737 dbL_law_737.2.2.2.2.2.2.1
theorem dL_law_746 : decode cL_law 746 = .ok (.iadd, 1) := dgq (p := 9) daL_law_737 dbL_law_737.2.2.2.2.2.2.2.1
theorem dL_law_747 : decode cL_law 747 = .ok (.iaload, 1) := dgq (p := 10) daL_law_737 dbL_law_737.2.2.2.2.2.2.2.2.1
theorem dL_law_748 : decode cL_law 748 = .ok (.invokevirtual 265, 3) := dgq (p := 11) daL_law_737 dbL_law_737.2.2.2.2.2.2.2.2.2
def dsL_law_751 : ByteArray := ⟨#[55, 7, 167, 8, 123, 43, 42, 21, 5, 4, 96, 46, 42, 21, 5]⟩
theorem daL_law_751 : agB cL_law dsL_law_751 751 := agB_of (n := 15) (by decide +kernel)
theorem dbL_law_751 : (decode dsL_law_751 0 = .ok (.lstore 7, 2) ∧ okop dsL_law_751 0 = true) ∧ (decode dsL_law_751 2 = .ok (.goto 2171, 3) ∧ okop dsL_law_751 2 = true) ∧ (decode dsL_law_751 5 = .ok (.aload_n 1, 1) ∧ okop dsL_law_751 5 = true) ∧ (decode dsL_law_751 6 = .ok (.aload_n 0, 1) ∧ okop dsL_law_751 6 = true) ∧ (decode dsL_law_751 7 = .ok (.iload 5, 2) ∧ okop dsL_law_751 7 = true) ∧ (decode dsL_law_751 9 = .ok (.iconst 1, 1) ∧ okop dsL_law_751 9 = true) ∧ (decode dsL_law_751 10 = .ok (.iadd, 1) ∧ okop dsL_law_751 10 = true) ∧ (decode dsL_law_751 11 = .ok (.iaload, 1) ∧ okop dsL_law_751 11 = true) ∧ (decode dsL_law_751 12 = .ok (.aload_n 0, 1) ∧ okop dsL_law_751 12 = true) ∧ (decode dsL_law_751 13 = .ok (.iload 5, 2) ∧ okop dsL_law_751 13 = true) := by decide +kernel
theorem dL_law_751 : decode cL_law 751 = .ok (.lstore 7, 2) := dgq (p := 0) daL_law_751 dbL_law_751.1
theorem dL_law_753 : decode cL_law 753 = .ok (.goto 2171, 3) := dgq (p := 2) daL_law_751 dbL_law_751.2.1
theorem dL_law_756 : decode cL_law 756 = .ok (.aload_n 1, 1) := dgq (p := 5) daL_law_751 dbL_law_751.2.2.1
theorem dL_law_757 : decode cL_law 757 = .ok (.aload_n 0, 1) := dgq (p := 6) daL_law_751 dbL_law_751.2.2.2.1
theorem dL_law_758 : decode cL_law 758 = .ok (.iload 5, 2) := dgq (p := 7) daL_law_751 dbL_law_751.2.2.2.2.1
theorem dL_law_760 : decode cL_law 760 = .ok (.iconst 1, 1) := dgq (p := 9) daL_law_751 dbL_law_751.2.2.2.2.2.1
theorem dL_law_761 : decode cL_law 761 = .ok (.iadd, 1) := dgq (p := 10) daL_law_751 dbL_law_751.2.2.2.2.2.2.1
theorem dL_law_762 : decode cL_law 762 = .ok (.iaload, 1) := dgq (p := 11) daL_law_751 dbL_law_751.2.2.2.2.2.2.2.1
theorem dL_law_763 : decode cL_law 763 = .ok (.aload_n 0, 1) := dgq (p := 12) daL_law_751 dbL_law_751.2.2.2.2.2.2.2.2.1
theorem dL_law_764 : decode cL_law 764 = .ok (.iload 5, 2) := dgq (p := 13) daL_law_751 dbL_law_751.2.2.2.2.2.2.2.2.2
def dsL_law_766 : ByteArray := ⟨#[5, 96, 46, 45, 184, 1, 10, 54, 6, 44, 42, 21, 5, 4]⟩
theorem daL_law_766 : agB cL_law dsL_law_766 766 := agB_of (n := 14) (by decide +kernel)
theorem dbL_law_766 : (decode dsL_law_766 0 = .ok (.iconst 2, 1) ∧ okop dsL_law_766 0 = true) ∧ (decode dsL_law_766 1 = .ok (.iadd, 1) ∧ okop dsL_law_766 1 = true) ∧ (decode dsL_law_766 2 = .ok (.iaload, 1) ∧ okop dsL_law_766 2 = true) ∧ (decode dsL_law_766 3 = .ok (.aload_n 3, 1) ∧ okop dsL_law_766 3 = true) ∧ (decode dsL_law_766 4 = .ok (.invokestatic 266, 3) ∧ okop dsL_law_766 4 = true) ∧ (decode dsL_law_766 7 = .ok (.istore 6, 2) ∧ okop dsL_law_766 7 = true) ∧ (decode dsL_law_766 9 = .ok (.aload_n 2, 1) ∧ okop dsL_law_766 9 = true) ∧ (decode dsL_law_766 10 = .ok (.aload_n 0, 1) ∧ okop dsL_law_766 10 = true) ∧ (decode dsL_law_766 11 = .ok (.iload 5, 2) ∧ okop dsL_law_766 11 = true) ∧ (decode dsL_law_766 13 = .ok (.iconst 1, 1) ∧ okop dsL_law_766 13 = true) := by decide +kernel
theorem dL_law_766 : decode cL_law 766 = .ok (.iconst 2, 1) := dgq (p := 0) daL_law_766 dbL_law_766.1
theorem dL_law_767 : decode cL_law 767 = .ok (.iadd, 1) := dgq (p := 1) daL_law_766 dbL_law_766.2.1
theorem dL_law_768 : decode cL_law 768 = .ok (.iaload, 1) := dgq (p := 2) daL_law_766 dbL_law_766.2.2.1
theorem dL_law_769 : decode cL_law 769 = .ok (.aload_n 3, 1) := dgq (p := 3) daL_law_766 dbL_law_766.2.2.2.1
theorem dL_law_770 : decode cL_law 770 = .ok (.invokestatic 266, 3) := dgq (p := 4) daL_law_766 dbL_law_766.2.2.2.2.1
theorem dL_law_773 : decode cL_law 773 = .ok (.istore 6, 2) := dgq (p := 7) daL_law_766 dbL_law_766.2.2.2.2.2.1
theorem dL_law_775 : decode cL_law 775 = .ok (.aload_n 2, 1) := dgq (p := 9) daL_law_766 dbL_law_766.2.2.2.2.2.2.1
theorem dL_law_776 : decode cL_law 776 = .ok (.aload_n 0, 1) := dgq (p := 10) daL_law_766 dbL_law_766.2.2.2.2.2.2.2.1
theorem dL_law_777 : decode cL_law 777 = .ok (.iload 5, 2) := dgq (p := 11) daL_law_766 dbL_law_766.2.2.2.2.2.2.2.2.1
theorem dL_law_779 : decode cL_law 779 = .ok (.iconst 1, 1) := dgq (p := 13) daL_law_766 dbL_law_766.2.2.2.2.2.2.2.2.2
def dsL_law_780 : ByteArray := ⟨#[96, 46, 42, 21, 5, 5, 96, 46, 182, 1, 12, 54, 7, 167, 8, 83]⟩
theorem daL_law_780 : agB cL_law dsL_law_780 780 := agB_of (n := 16) (by decide +kernel)
theorem dbL_law_780 : (decode dsL_law_780 0 = .ok (.iadd, 1) ∧ okop dsL_law_780 0 = true) ∧ (decode dsL_law_780 1 = .ok (.iaload, 1) ∧ okop dsL_law_780 1 = true) ∧ (decode dsL_law_780 2 = .ok (.aload_n 0, 1) ∧ okop dsL_law_780 2 = true) ∧ (decode dsL_law_780 3 = .ok (.iload 5, 2) ∧ okop dsL_law_780 3 = true) ∧ (decode dsL_law_780 5 = .ok (.iconst 2, 1) ∧ okop dsL_law_780 5 = true) ∧ (decode dsL_law_780 6 = .ok (.iadd, 1) ∧ okop dsL_law_780 6 = true) ∧ (decode dsL_law_780 7 = .ok (.iaload, 1) ∧ okop dsL_law_780 7 = true) ∧ (decode dsL_law_780 8 = .ok (.invokevirtual 268, 3) ∧ okop dsL_law_780 8 = true) ∧ (decode dsL_law_780 11 = .ok (.istore 7, 2) ∧ okop dsL_law_780 11 = true) ∧ (decode dsL_law_780 13 = .ok (.goto 2131, 3) ∧ okop dsL_law_780 13 = true) := by decide +kernel
theorem dL_law_780 : decode cL_law 780 = .ok (.iadd, 1) := dgq (p := 0) daL_law_780 dbL_law_780.1
theorem dL_law_781 : decode cL_law 781 = .ok (.iaload, 1) := dgq (p := 1) daL_law_780 dbL_law_780.2.1
theorem dL_law_782 : decode cL_law 782 = .ok (.aload_n 0, 1) := dgq (p := 2) daL_law_780 dbL_law_780.2.2.1
theorem dL_law_783 : decode cL_law 783 = .ok (.iload 5, 2) := dgq (p := 3) daL_law_780 dbL_law_780.2.2.2.1
theorem dL_law_785 : decode cL_law 785 = .ok (.iconst 2, 1) := dgq (p := 5) daL_law_780 dbL_law_780.2.2.2.2.1
theorem dL_law_786 : decode cL_law 786 = .ok (.iadd, 1) := dgq (p := 6) daL_law_780 dbL_law_780.2.2.2.2.2.1
theorem dL_law_787 : decode cL_law 787 = .ok (.iaload, 1) := dgq (p := 7) daL_law_780 dbL_law_780.2.2.2.2.2.2.1
theorem dL_law_788 : decode cL_law 788 = .ok (.invokevirtual 268, 3) := dgq (p := 8) daL_law_780 dbL_law_780.2.2.2.2.2.2.2.1
theorem dL_law_791 : decode cL_law 791 = .ok (.istore 7, 2) := dgq (p := 11) daL_law_780 dbL_law_780.2.2.2.2.2.2.2.2.1
theorem dL_law_793 : decode cL_law 793 = .ok (.goto 2131, 3) := dgq (p := 13) daL_law_780 dbL_law_780.2.2.2.2.2.2.2.2.2
def dsL_law_796 : ByteArray := ⟨#[43, 42, 21, 5, 4, 96, 46, 42, 21, 5, 5, 96]⟩
theorem daL_law_796 : agB cL_law dsL_law_796 796 := agB_of (n := 12) (by decide +kernel)
theorem dbL_law_796 : (decode dsL_law_796 0 = .ok (.aload_n 1, 1) ∧ okop dsL_law_796 0 = true) ∧ (decode dsL_law_796 1 = .ok (.aload_n 0, 1) ∧ okop dsL_law_796 1 = true) ∧ (decode dsL_law_796 2 = .ok (.iload 5, 2) ∧ okop dsL_law_796 2 = true) ∧ (decode dsL_law_796 4 = .ok (.iconst 1, 1) ∧ okop dsL_law_796 4 = true) ∧ (decode dsL_law_796 5 = .ok (.iadd, 1) ∧ okop dsL_law_796 5 = true) ∧ (decode dsL_law_796 6 = .ok (.iaload, 1) ∧ okop dsL_law_796 6 = true) ∧ (decode dsL_law_796 7 = .ok (.aload_n 0, 1) ∧ okop dsL_law_796 7 = true) ∧ (decode dsL_law_796 8 = .ok (.iload 5, 2) ∧ okop dsL_law_796 8 = true) ∧ (decode dsL_law_796 10 = .ok (.iconst 2, 1) ∧ okop dsL_law_796 10 = true) ∧ (decode dsL_law_796 11 = .ok (.iadd, 1) ∧ okop dsL_law_796 11 = true) := by decide +kernel
theorem dL_law_796 : decode cL_law 796 = .ok (.aload_n 1, 1) := dgq (p := 0) daL_law_796 dbL_law_796.1
theorem dL_law_797 : decode cL_law 797 = .ok (.aload_n 0, 1) := dgq (p := 1) daL_law_796 dbL_law_796.2.1
theorem dL_law_798 : decode cL_law 798 = .ok (.iload 5, 2) := dgq (p := 2) daL_law_796 dbL_law_796.2.2.1
theorem dL_law_800 : decode cL_law 800 = .ok (.iconst 1, 1) := dgq (p := 4) daL_law_796 dbL_law_796.2.2.2.1
theorem dL_law_801 : decode cL_law 801 = .ok (.iadd, 1) := dgq (p := 5) daL_law_796 dbL_law_796.2.2.2.2.1
theorem dL_law_802 : decode cL_law 802 = .ok (.iaload, 1) := dgq (p := 6) daL_law_796 dbL_law_796.2.2.2.2.2.1
theorem dL_law_803 : decode cL_law 803 = .ok (.aload_n 0, 1) := dgq (p := 7) daL_law_796 dbL_law_796.2.2.2.2.2.2.1
theorem dL_law_804 : decode cL_law 804 = .ok (.iload 5, 2) := dgq (p := 8) daL_law_796 dbL_law_796.2.2.2.2.2.2.2.1
theorem dL_law_806 : decode cL_law 806 = .ok (.iconst 2, 1) := dgq (p := 10) daL_law_796 dbL_law_796.2.2.2.2.2.2.2.2.1
theorem dL_law_807 : decode cL_law 807 = .ok (.iadd, 1) := dgq (p := 11) daL_law_796 dbL_law_796.2.2.2.2.2.2.2.2.2
def dsL_law_808 : ByteArray := ⟨#[46, 42, 21, 5, 6, 96, 46, 42, 21, 5, 7, 96]⟩
theorem daL_law_808 : agB cL_law dsL_law_808 808 := agB_of (n := 12) (by decide +kernel)
theorem dbL_law_808 : (decode dsL_law_808 0 = .ok (.iaload, 1) ∧ okop dsL_law_808 0 = true) ∧ (decode dsL_law_808 1 = .ok (.aload_n 0, 1) ∧ okop dsL_law_808 1 = true) ∧ (decode dsL_law_808 2 = .ok (.iload 5, 2) ∧ okop dsL_law_808 2 = true) ∧ (decode dsL_law_808 4 = .ok (.iconst 3, 1) ∧ okop dsL_law_808 4 = true) ∧ (decode dsL_law_808 5 = .ok (.iadd, 1) ∧ okop dsL_law_808 5 = true) ∧ (decode dsL_law_808 6 = .ok (.iaload, 1) ∧ okop dsL_law_808 6 = true) ∧ (decode dsL_law_808 7 = .ok (.aload_n 0, 1) ∧ okop dsL_law_808 7 = true) ∧ (decode dsL_law_808 8 = .ok (.iload 5, 2) ∧ okop dsL_law_808 8 = true) ∧ (decode dsL_law_808 10 = .ok (.iconst 4, 1) ∧ okop dsL_law_808 10 = true) ∧ (decode dsL_law_808 11 = .ok (.iadd, 1) ∧ okop dsL_law_808 11 = true) := by decide +kernel
theorem dL_law_808 : decode cL_law 808 = .ok (.iaload, 1) := dgq (p := 0) daL_law_808 dbL_law_808.1
theorem dL_law_809 : decode cL_law 809 = .ok (.aload_n 0, 1) := dgq (p := 1) daL_law_808 dbL_law_808.2.1
theorem dL_law_810 : decode cL_law 810 = .ok (.iload 5, 2) := dgq (p := 2) daL_law_808 dbL_law_808.2.2.1
theorem dL_law_812 : decode cL_law 812 = .ok (.iconst 3, 1) := dgq (p := 4) daL_law_808 dbL_law_808.2.2.2.1
theorem dL_law_813 : decode cL_law 813 = .ok (.iadd, 1) := dgq (p := 5) daL_law_808 dbL_law_808.2.2.2.2.1
theorem dL_law_814 : decode cL_law 814 = .ok (.iaload, 1) := dgq (p := 6) daL_law_808 dbL_law_808.2.2.2.2.2.1
theorem dL_law_815 : decode cL_law 815 = .ok (.aload_n 0, 1) := dgq (p := 7) daL_law_808 dbL_law_808.2.2.2.2.2.2.1
theorem dL_law_816 : decode cL_law 816 = .ok (.iload 5, 2) := dgq (p := 8) daL_law_808 dbL_law_808.2.2.2.2.2.2.2.1
theorem dL_law_818 : decode cL_law 818 = .ok (.iconst 4, 1) := dgq (p := 10) daL_law_808 dbL_law_808.2.2.2.2.2.2.2.2.1
theorem dL_law_819 : decode cL_law 819 = .ok (.iadd, 1) := dgq (p := 11) daL_law_808 dbL_law_808.2.2.2.2.2.2.2.2.2
def dsL_law_820 : ByteArray := ⟨#[46, 45, 184, 1, 13, 54, 6, 44, 42, 21, 5, 4, 96, 46]⟩
theorem daL_law_820 : agB cL_law dsL_law_820 820 := agB_of (n := 14) (by decide +kernel)
theorem dbL_law_820 : (decode dsL_law_820 0 = .ok (.iaload, 1) ∧ okop dsL_law_820 0 = true) ∧ (decode dsL_law_820 1 = .ok (.aload_n 3, 1) ∧ okop dsL_law_820 1 = true) ∧ (decode dsL_law_820 2 = .ok (.invokestatic 269, 3) ∧ okop dsL_law_820 2 = true) ∧ (decode dsL_law_820 5 = .ok (.istore 6, 2) ∧ okop dsL_law_820 5 = true) ∧ (decode dsL_law_820 7 = .ok (.aload_n 2, 1) ∧ okop dsL_law_820 7 = true) ∧ (decode dsL_law_820 8 = .ok (.aload_n 0, 1) ∧ okop dsL_law_820 8 = true) ∧ (decode dsL_law_820 9 = .ok (.iload 5, 2) ∧ okop dsL_law_820 9 = true) ∧ (decode dsL_law_820 11 = .ok (.iconst 1, 1) ∧ okop dsL_law_820 11 = true) ∧ (decode dsL_law_820 12 = .ok (.iadd, 1) ∧ okop dsL_law_820 12 = true) ∧ (decode dsL_law_820 13 = .ok (.iaload, 1) ∧ okop dsL_law_820 13 = true) := by decide +kernel
theorem dL_law_820 : decode cL_law 820 = .ok (.iaload, 1) := dgq (p := 0) daL_law_820 dbL_law_820.1
theorem dL_law_821 : decode cL_law 821 = .ok (.aload_n 3, 1) := dgq (p := 1) daL_law_820 dbL_law_820.2.1
theorem dL_law_822 : decode cL_law 822 = .ok (.invokestatic 269, 3) := dgq (p := 2) daL_law_820 dbL_law_820.2.2.1
theorem dL_law_825 : decode cL_law 825 = .ok (.istore 6, 2) := dgq (p := 5) daL_law_820 dbL_law_820.2.2.2.1
theorem dL_law_827 : decode cL_law 827 = .ok (.aload_n 2, 1) := dgq (p := 7) daL_law_820 dbL_law_820.2.2.2.2.1
theorem dL_law_828 : decode cL_law 828 = .ok (.aload_n 0, 1) := dgq (p := 8) daL_law_820 dbL_law_820.2.2.2.2.2.1
theorem dL_law_829 : decode cL_law 829 = .ok (.iload 5, 2) := dgq (p := 9) daL_law_820 dbL_law_820.2.2.2.2.2.2.1
theorem dL_law_831 : decode cL_law 831 = .ok (.iconst 1, 1) := dgq (p := 11) daL_law_820 dbL_law_820.2.2.2.2.2.2.2.1
theorem dL_law_832 : decode cL_law 832 = .ok (.iadd, 1) := dgq (p := 12) daL_law_820 dbL_law_820.2.2.2.2.2.2.2.2.1
theorem dL_law_833 : decode cL_law 833 = .ok (.iaload, 1) := dgq (p := 13) daL_law_820 dbL_law_820.2.2.2.2.2.2.2.2.2
def dsL_law_834 : ByteArray := ⟨#[42, 21, 5, 5, 96, 46, 42, 21, 5, 6, 96, 46]⟩
theorem daL_law_834 : agB cL_law dsL_law_834 834 := agB_of (n := 12) (by decide +kernel)
theorem dbL_law_834 : (decode dsL_law_834 0 = .ok (.aload_n 0, 1) ∧ okop dsL_law_834 0 = true) ∧ (decode dsL_law_834 1 = .ok (.iload 5, 2) ∧ okop dsL_law_834 1 = true) ∧ (decode dsL_law_834 3 = .ok (.iconst 2, 1) ∧ okop dsL_law_834 3 = true) ∧ (decode dsL_law_834 4 = .ok (.iadd, 1) ∧ okop dsL_law_834 4 = true) ∧ (decode dsL_law_834 5 = .ok (.iaload, 1) ∧ okop dsL_law_834 5 = true) ∧ (decode dsL_law_834 6 = .ok (.aload_n 0, 1) ∧ okop dsL_law_834 6 = true) ∧ (decode dsL_law_834 7 = .ok (.iload 5, 2) ∧ okop dsL_law_834 7 = true) ∧ (decode dsL_law_834 9 = .ok (.iconst 3, 1) ∧ okop dsL_law_834 9 = true) ∧ (decode dsL_law_834 10 = .ok (.iadd, 1) ∧ okop dsL_law_834 10 = true) ∧ (decode dsL_law_834 11 = .ok (.iaload, 1) ∧ okop dsL_law_834 11 = true) := by decide +kernel
theorem dL_law_834 : decode cL_law 834 = .ok (.aload_n 0, 1) := dgq (p := 0) daL_law_834 dbL_law_834.1
theorem dL_law_835 : decode cL_law 835 = .ok (.iload 5, 2) := dgq (p := 1) daL_law_834 dbL_law_834.2.1
theorem dL_law_837 : decode cL_law 837 = .ok (.iconst 2, 1) := dgq (p := 3) daL_law_834 dbL_law_834.2.2.1
theorem dL_law_838 : decode cL_law 838 = .ok (.iadd, 1) := dgq (p := 4) daL_law_834 dbL_law_834.2.2.2.1
theorem dL_law_839 : decode cL_law 839 = .ok (.iaload, 1) := dgq (p := 5) daL_law_834 dbL_law_834.2.2.2.2.1
theorem dL_law_840 : decode cL_law 840 = .ok (.aload_n 0, 1) := dgq (p := 6) daL_law_834 dbL_law_834.2.2.2.2.2.1
theorem dL_law_841 : decode cL_law 841 = .ok (.iload 5, 2) := dgq (p := 7) daL_law_834 dbL_law_834.2.2.2.2.2.2.1
theorem dL_law_843 : decode cL_law 843 = .ok (.iconst 3, 1) := dgq (p := 9) daL_law_834 dbL_law_834.2.2.2.2.2.2.2.1
theorem dL_law_844 : decode cL_law 844 = .ok (.iadd, 1) := dgq (p := 10) daL_law_834 dbL_law_834.2.2.2.2.2.2.2.2.1
theorem dL_law_845 : decode cL_law 845 = .ok (.iaload, 1) := dgq (p := 11) daL_law_834 dbL_law_834.2.2.2.2.2.2.2.2.2
def dsL_law_846 : ByteArray := ⟨#[42, 21, 5, 7, 96, 46, 182, 1, 15, 54, 7, 167, 8, 19, 43, 42]⟩
theorem daL_law_846 : agB cL_law dsL_law_846 846 := agB_of (n := 16) (by decide +kernel)
theorem dbL_law_846 : (decode dsL_law_846 0 = .ok (.aload_n 0, 1) ∧ okop dsL_law_846 0 = true) ∧ (decode dsL_law_846 1 = .ok (.iload 5, 2) ∧ okop dsL_law_846 1 = true) ∧ (decode dsL_law_846 3 = .ok (.iconst 4, 1) ∧ okop dsL_law_846 3 = true) ∧ (decode dsL_law_846 4 = .ok (.iadd, 1) ∧ okop dsL_law_846 4 = true) ∧ (decode dsL_law_846 5 = .ok (.iaload, 1) ∧ okop dsL_law_846 5 = true) ∧ (decode dsL_law_846 6 = .ok (.invokevirtual 271, 3) ∧ okop dsL_law_846 6 = true) ∧ (decode dsL_law_846 9 = .ok (.istore 7, 2) ∧ okop dsL_law_846 9 = true) ∧ (decode dsL_law_846 11 = .ok (.goto 2067, 3) ∧ okop dsL_law_846 11 = true) ∧ (decode dsL_law_846 14 = .ok (.aload_n 1, 1) ∧ okop dsL_law_846 14 = true) ∧ (decode dsL_law_846 15 = .ok (.aload_n 0, 1) ∧ okop dsL_law_846 15 = true) := by decide +kernel
theorem dL_law_846 : decode cL_law 846 = .ok (.aload_n 0, 1) := dgq (p := 0) daL_law_846 dbL_law_846.1
theorem dL_law_847 : decode cL_law 847 = .ok (.iload 5, 2) := dgq (p := 1) daL_law_846 dbL_law_846.2.1
theorem dL_law_849 : decode cL_law 849 = .ok (.iconst 4, 1) := dgq (p := 3) daL_law_846 dbL_law_846.2.2.1
theorem dL_law_850 : decode cL_law 850 = .ok (.iadd, 1) := dgq (p := 4) daL_law_846 dbL_law_846.2.2.2.1
theorem dL_law_851 : decode cL_law 851 = .ok (.iaload, 1) := dgq (p := 5) daL_law_846 dbL_law_846.2.2.2.2.1
theorem dL_law_852 : decode cL_law 852 = .ok (.invokevirtual 271, 3) := dgq (p := 6) daL_law_846 dbL_law_846.2.2.2.2.2.1
theorem dL_law_855 : decode cL_law 855 = .ok (.istore 7, 2) := dgq (p := 9) daL_law_846 dbL_law_846.2.2.2.2.2.2.1
theorem dL_law_857 : decode cL_law 857 = .ok (.goto 2067, 3) := dgq (p := 11) daL_law_846 dbL_law_846.2.2.2.2.2.2.2.1
theorem dL_law_860 : decode cL_law 860 = .ok (.aload_n 1, 1) := dgq (p := 14) daL_law_846 dbL_law_846.2.2.2.2.2.2.2.2.1
theorem dL_law_861 : decode cL_law 861 = .ok (.aload_n 0, 1) := dgq (p := 15) daL_law_846 dbL_law_846.2.2.2.2.2.2.2.2.2
def dsL_law_862 : ByteArray := ⟨#[21, 5, 4, 96, 46, 42, 21, 5, 5, 96, 46, 42]⟩
theorem daL_law_862 : agB cL_law dsL_law_862 862 := agB_of (n := 12) (by decide +kernel)
theorem dbL_law_862 : (decode dsL_law_862 0 = .ok (.iload 5, 2) ∧ okop dsL_law_862 0 = true) ∧ (decode dsL_law_862 2 = .ok (.iconst 1, 1) ∧ okop dsL_law_862 2 = true) ∧ (decode dsL_law_862 3 = .ok (.iadd, 1) ∧ okop dsL_law_862 3 = true) ∧ (decode dsL_law_862 4 = .ok (.iaload, 1) ∧ okop dsL_law_862 4 = true) ∧ (decode dsL_law_862 5 = .ok (.aload_n 0, 1) ∧ okop dsL_law_862 5 = true) ∧ (decode dsL_law_862 6 = .ok (.iload 5, 2) ∧ okop dsL_law_862 6 = true) ∧ (decode dsL_law_862 8 = .ok (.iconst 2, 1) ∧ okop dsL_law_862 8 = true) ∧ (decode dsL_law_862 9 = .ok (.iadd, 1) ∧ okop dsL_law_862 9 = true) ∧ (decode dsL_law_862 10 = .ok (.iaload, 1) ∧ okop dsL_law_862 10 = true) ∧ (decode dsL_law_862 11 = .ok (.aload_n 0, 1) ∧ okop dsL_law_862 11 = true) := by decide +kernel
theorem dL_law_862 : decode cL_law 862 = .ok (.iload 5, 2) := dgq (p := 0) daL_law_862 dbL_law_862.1
theorem dL_law_864 : decode cL_law 864 = .ok (.iconst 1, 1) := dgq (p := 2) daL_law_862 dbL_law_862.2.1
theorem dL_law_865 : decode cL_law 865 = .ok (.iadd, 1) := dgq (p := 3) daL_law_862 dbL_law_862.2.2.1
theorem dL_law_866 : decode cL_law 866 = .ok (.iaload, 1) := dgq (p := 4) daL_law_862 dbL_law_862.2.2.2.1
theorem dL_law_867 : decode cL_law 867 = .ok (.aload_n 0, 1) := dgq (p := 5) daL_law_862 dbL_law_862.2.2.2.2.1
theorem dL_law_868 : decode cL_law 868 = .ok (.iload 5, 2) := dgq (p := 6) daL_law_862 dbL_law_862.2.2.2.2.2.1
theorem dL_law_870 : decode cL_law 870 = .ok (.iconst 2, 1) := dgq (p := 8) daL_law_862 dbL_law_862.2.2.2.2.2.2.1
theorem dL_law_871 : decode cL_law 871 = .ok (.iadd, 1) := dgq (p := 9) daL_law_862 dbL_law_862.2.2.2.2.2.2.2.1
theorem dL_law_872 : decode cL_law 872 = .ok (.iaload, 1) := dgq (p := 10) daL_law_862 dbL_law_862.2.2.2.2.2.2.2.2.1
theorem dL_law_873 : decode cL_law 873 = .ok (.aload_n 0, 1) := dgq (p := 11) daL_law_862 dbL_law_862.2.2.2.2.2.2.2.2.2
def dsL_law_874 : ByteArray := ⟨#[21, 5, 6, 96, 46, 42, 21, 5, 7, 96, 46, 45]⟩
theorem daL_law_874 : agB cL_law dsL_law_874 874 := agB_of (n := 12) (by decide +kernel)
theorem dbL_law_874 : (decode dsL_law_874 0 = .ok (.iload 5, 2) ∧ okop dsL_law_874 0 = true) ∧ (decode dsL_law_874 2 = .ok (.iconst 3, 1) ∧ okop dsL_law_874 2 = true) ∧ (decode dsL_law_874 3 = .ok (.iadd, 1) ∧ okop dsL_law_874 3 = true) ∧ (decode dsL_law_874 4 = .ok (.iaload, 1) ∧ okop dsL_law_874 4 = true) ∧ (decode dsL_law_874 5 = .ok (.aload_n 0, 1) ∧ okop dsL_law_874 5 = true) ∧ (decode dsL_law_874 6 = .ok (.iload 5, 2) ∧ okop dsL_law_874 6 = true) ∧ (decode dsL_law_874 8 = .ok (.iconst 4, 1) ∧ okop dsL_law_874 8 = true) ∧ (decode dsL_law_874 9 = .ok (.iadd, 1) ∧ okop dsL_law_874 9 = true) ∧ (decode dsL_law_874 10 = .ok (.iaload, 1) ∧ okop dsL_law_874 10 = true) ∧ (decode dsL_law_874 11 = .ok (.aload_n 3, 1) ∧ okop dsL_law_874 11 = true) := by decide +kernel
theorem dL_law_874 : decode cL_law 874 = .ok (.iload 5, 2) := dgq (p := 0) daL_law_874 dbL_law_874.1
theorem dL_law_876 : decode cL_law 876 = .ok (.iconst 3, 1) := dgq (p := 2) daL_law_874 dbL_law_874.2.1
theorem dL_law_877 : decode cL_law 877 = .ok (.iadd, 1) := dgq (p := 3) daL_law_874 dbL_law_874.2.2.1
theorem dL_law_878 : decode cL_law 878 = .ok (.iaload, 1) := dgq (p := 4) daL_law_874 dbL_law_874.2.2.2.1
theorem dL_law_879 : decode cL_law 879 = .ok (.aload_n 0, 1) := dgq (p := 5) daL_law_874 dbL_law_874.2.2.2.2.1
theorem dL_law_880 : decode cL_law 880 = .ok (.iload 5, 2) := dgq (p := 6) daL_law_874 dbL_law_874.2.2.2.2.2.1
theorem dL_law_882 : decode cL_law 882 = .ok (.iconst 4, 1) := dgq (p := 8) daL_law_874 dbL_law_874.2.2.2.2.2.2.1
theorem dL_law_883 : decode cL_law 883 = .ok (.iadd, 1) := dgq (p := 9) daL_law_874 dbL_law_874.2.2.2.2.2.2.2.1
theorem dL_law_884 : decode cL_law 884 = .ok (.iaload, 1) := dgq (p := 10) daL_law_874 dbL_law_874.2.2.2.2.2.2.2.2.1
theorem dL_law_885 : decode cL_law 885 = .ok (.aload_n 3, 1) := dgq (p := 11) daL_law_874 dbL_law_874.2.2.2.2.2.2.2.2.2
def dsL_law_886 : ByteArray := ⟨#[184, 1, 16, 54, 6, 44, 42, 21, 5, 4, 96, 46, 42, 21, 5]⟩
theorem daL_law_886 : agB cL_law dsL_law_886 886 := agB_of (n := 15) (by decide +kernel)
theorem dbL_law_886 : (decode dsL_law_886 0 = .ok (.invokestatic 272, 3) ∧ okop dsL_law_886 0 = true) ∧ (decode dsL_law_886 3 = .ok (.istore 6, 2) ∧ okop dsL_law_886 3 = true) ∧ (decode dsL_law_886 5 = .ok (.aload_n 2, 1) ∧ okop dsL_law_886 5 = true) ∧ (decode dsL_law_886 6 = .ok (.aload_n 0, 1) ∧ okop dsL_law_886 6 = true) ∧ (decode dsL_law_886 7 = .ok (.iload 5, 2) ∧ okop dsL_law_886 7 = true) ∧ (decode dsL_law_886 9 = .ok (.iconst 1, 1) ∧ okop dsL_law_886 9 = true) ∧ (decode dsL_law_886 10 = .ok (.iadd, 1) ∧ okop dsL_law_886 10 = true) ∧ (decode dsL_law_886 11 = .ok (.iaload, 1) ∧ okop dsL_law_886 11 = true) ∧ (decode dsL_law_886 12 = .ok (.aload_n 0, 1) ∧ okop dsL_law_886 12 = true) ∧ (decode dsL_law_886 13 = .ok (.iload 5, 2) ∧ okop dsL_law_886 13 = true) := by decide +kernel
theorem dL_law_886 : decode cL_law 886 = .ok (.invokestatic 272, 3) := dgq (p := 0) daL_law_886 dbL_law_886.1
theorem dL_law_889 : decode cL_law 889 = .ok (.istore 6, 2) := dgq (p := 3) daL_law_886 dbL_law_886.2.1
theorem dL_law_891 : decode cL_law 891 = .ok (.aload_n 2, 1) := dgq (p := 5) daL_law_886 dbL_law_886.2.2.1
theorem dL_law_892 : decode cL_law 892 = .ok (.aload_n 0, 1) := dgq (p := 6) daL_law_886 dbL_law_886.2.2.2.1
theorem dL_law_893 : decode cL_law 893 = .ok (.iload 5, 2) := dgq (p := 7) daL_law_886 dbL_law_886.2.2.2.2.1
theorem dL_law_895 : decode cL_law 895 = .ok (.iconst 1, 1) := dgq (p := 9) daL_law_886 dbL_law_886.2.2.2.2.2.1
theorem dL_law_896 : decode cL_law 896 = .ok (.iadd, 1) := dgq (p := 10) daL_law_886 dbL_law_886.2.2.2.2.2.2.1
theorem dL_law_897 : decode cL_law 897 = .ok (.iaload, 1) := dgq (p := 11) daL_law_886 dbL_law_886.2.2.2.2.2.2.2.1
theorem dL_law_898 : decode cL_law 898 = .ok (.aload_n 0, 1) := dgq (p := 12) daL_law_886 dbL_law_886.2.2.2.2.2.2.2.2.1
theorem dL_law_899 : decode cL_law 899 = .ok (.iload 5, 2) := dgq (p := 13) daL_law_886 dbL_law_886.2.2.2.2.2.2.2.2.2
def dsL_law_901 : ByteArray := ⟨#[5, 96, 46, 42, 21, 5, 6, 96, 46, 42, 21, 5]⟩
theorem daL_law_901 : agB cL_law dsL_law_901 901 := agB_of (n := 12) (by decide +kernel)
theorem dbL_law_901 : (decode dsL_law_901 0 = .ok (.iconst 2, 1) ∧ okop dsL_law_901 0 = true) ∧ (decode dsL_law_901 1 = .ok (.iadd, 1) ∧ okop dsL_law_901 1 = true) ∧ (decode dsL_law_901 2 = .ok (.iaload, 1) ∧ okop dsL_law_901 2 = true) ∧ (decode dsL_law_901 3 = .ok (.aload_n 0, 1) ∧ okop dsL_law_901 3 = true) ∧ (decode dsL_law_901 4 = .ok (.iload 5, 2) ∧ okop dsL_law_901 4 = true) ∧ (decode dsL_law_901 6 = .ok (.iconst 3, 1) ∧ okop dsL_law_901 6 = true) ∧ (decode dsL_law_901 7 = .ok (.iadd, 1) ∧ okop dsL_law_901 7 = true) ∧ (decode dsL_law_901 8 = .ok (.iaload, 1) ∧ okop dsL_law_901 8 = true) ∧ (decode dsL_law_901 9 = .ok (.aload_n 0, 1) ∧ okop dsL_law_901 9 = true) ∧ (decode dsL_law_901 10 = .ok (.iload 5, 2) ∧ okop dsL_law_901 10 = true) := by decide +kernel
theorem dL_law_901 : decode cL_law 901 = .ok (.iconst 2, 1) := dgq (p := 0) daL_law_901 dbL_law_901.1
theorem dL_law_902 : decode cL_law 902 = .ok (.iadd, 1) := dgq (p := 1) daL_law_901 dbL_law_901.2.1
theorem dL_law_903 : decode cL_law 903 = .ok (.iaload, 1) := dgq (p := 2) daL_law_901 dbL_law_901.2.2.1
theorem dL_law_904 : decode cL_law 904 = .ok (.aload_n 0, 1) := dgq (p := 3) daL_law_901 dbL_law_901.2.2.2.1
theorem dL_law_905 : decode cL_law 905 = .ok (.iload 5, 2) := dgq (p := 4) daL_law_901 dbL_law_901.2.2.2.2.1
theorem dL_law_907 : decode cL_law 907 = .ok (.iconst 3, 1) := dgq (p := 6) daL_law_901 dbL_law_901.2.2.2.2.2.1
theorem dL_law_908 : decode cL_law 908 = .ok (.iadd, 1) := dgq (p := 7) daL_law_901 dbL_law_901.2.2.2.2.2.2.1
theorem dL_law_909 : decode cL_law 909 = .ok (.iaload, 1) := dgq (p := 8) daL_law_901 dbL_law_901.2.2.2.2.2.2.2.1
theorem dL_law_910 : decode cL_law 910 = .ok (.aload_n 0, 1) := dgq (p := 9) daL_law_901 dbL_law_901.2.2.2.2.2.2.2.2.1
theorem dL_law_911 : decode cL_law 911 = .ok (.iload 5, 2) := dgq (p := 10) daL_law_901 dbL_law_901.2.2.2.2.2.2.2.2.2
def dsL_law_913 : ByteArray := ⟨#[7, 96, 46, 182, 1, 18, 54, 7, 167, 7, 211, 43, 42, 21, 5, 4]⟩
theorem daL_law_913 : agB cL_law dsL_law_913 913 := agB_of (n := 16) (by decide +kernel)
theorem dbL_law_913 : (decode dsL_law_913 0 = .ok (.iconst 4, 1) ∧ okop dsL_law_913 0 = true) ∧ (decode dsL_law_913 1 = .ok (.iadd, 1) ∧ okop dsL_law_913 1 = true) ∧ (decode dsL_law_913 2 = .ok (.iaload, 1) ∧ okop dsL_law_913 2 = true) ∧ (decode dsL_law_913 3 = .ok (.invokevirtual 274, 3) ∧ okop dsL_law_913 3 = true) ∧ (decode dsL_law_913 6 = .ok (.istore 7, 2) ∧ okop dsL_law_913 6 = true) ∧ (decode dsL_law_913 8 = .ok (.goto 2003, 3) ∧ okop dsL_law_913 8 = true) ∧ (decode dsL_law_913 11 = .ok (.aload_n 1, 1) ∧ okop dsL_law_913 11 = true) ∧ (decode dsL_law_913 12 = .ok (.aload_n 0, 1) ∧ okop dsL_law_913 12 = true) ∧ (decode dsL_law_913 13 = .ok (.iload 5, 2) ∧ okop dsL_law_913 13 = true) ∧ (decode dsL_law_913 15 = .ok (.iconst 1, 1) ∧ okop dsL_law_913 15 = true) := by decide +kernel
theorem dL_law_913 : decode cL_law 913 = .ok (.iconst 4, 1) := dgq (p := 0) daL_law_913 dbL_law_913.1
theorem dL_law_914 : decode cL_law 914 = .ok (.iadd, 1) := dgq (p := 1) daL_law_913 dbL_law_913.2.1
theorem dL_law_915 : decode cL_law 915 = .ok (.iaload, 1) := dgq (p := 2) daL_law_913 dbL_law_913.2.2.1
theorem dL_law_916 : decode cL_law 916 = .ok (.invokevirtual 274, 3) := dgq (p := 3) daL_law_913 dbL_law_913.2.2.2.1
theorem dL_law_919 : decode cL_law 919 = .ok (.istore 7, 2) := dgq (p := 6) daL_law_913 dbL_law_913.2.2.2.2.1
theorem dL_law_921 : decode cL_law 921 = .ok (.goto 2003, 3) := dgq (p := 8) daL_law_913 dbL_law_913.2.2.2.2.2.1
theorem dL_law_924 : decode cL_law 924 = .ok (.aload_n 1, 1) := dgq (p := 11) daL_law_913 dbL_law_913.2.2.2.2.2.2.1
theorem dL_law_925 : decode cL_law 925 = .ok (.aload_n 0, 1) := dgq (p := 12) daL_law_913 dbL_law_913.2.2.2.2.2.2.2.1
theorem dL_law_926 : decode cL_law 926 = .ok (.iload 5, 2) := dgq (p := 13) daL_law_913 dbL_law_913.2.2.2.2.2.2.2.2.1
theorem dL_law_928 : decode cL_law 928 = .ok (.iconst 1, 1) := dgq (p := 15) daL_law_913 dbL_law_913.2.2.2.2.2.2.2.2.2
def dsL_law_929 : ByteArray := ⟨#[96, 46, 42, 21, 5, 5, 96, 46, 42, 21, 5, 6]⟩
theorem daL_law_929 : agB cL_law dsL_law_929 929 := agB_of (n := 12) (by decide +kernel)
theorem dbL_law_929 : (decode dsL_law_929 0 = .ok (.iadd, 1) ∧ okop dsL_law_929 0 = true) ∧ (decode dsL_law_929 1 = .ok (.iaload, 1) ∧ okop dsL_law_929 1 = true) ∧ (decode dsL_law_929 2 = .ok (.aload_n 0, 1) ∧ okop dsL_law_929 2 = true) ∧ (decode dsL_law_929 3 = .ok (.iload 5, 2) ∧ okop dsL_law_929 3 = true) ∧ (decode dsL_law_929 5 = .ok (.iconst 2, 1) ∧ okop dsL_law_929 5 = true) ∧ (decode dsL_law_929 6 = .ok (.iadd, 1) ∧ okop dsL_law_929 6 = true) ∧ (decode dsL_law_929 7 = .ok (.iaload, 1) ∧ okop dsL_law_929 7 = true) ∧ (decode dsL_law_929 8 = .ok (.aload_n 0, 1) ∧ okop dsL_law_929 8 = true) ∧ (decode dsL_law_929 9 = .ok (.iload 5, 2) ∧ okop dsL_law_929 9 = true) ∧ (decode dsL_law_929 11 = .ok (.iconst 3, 1) ∧ okop dsL_law_929 11 = true) := by decide +kernel
theorem dL_law_929 : decode cL_law 929 = .ok (.iadd, 1) := dgq (p := 0) daL_law_929 dbL_law_929.1
theorem dL_law_930 : decode cL_law 930 = .ok (.iaload, 1) := dgq (p := 1) daL_law_929 dbL_law_929.2.1
theorem dL_law_931 : decode cL_law 931 = .ok (.aload_n 0, 1) := dgq (p := 2) daL_law_929 dbL_law_929.2.2.1
theorem dL_law_932 : decode cL_law 932 = .ok (.iload 5, 2) := dgq (p := 3) daL_law_929 dbL_law_929.2.2.2.1
theorem dL_law_934 : decode cL_law 934 = .ok (.iconst 2, 1) := dgq (p := 5) daL_law_929 dbL_law_929.2.2.2.2.1
theorem dL_law_935 : decode cL_law 935 = .ok (.iadd, 1) := dgq (p := 6) daL_law_929 dbL_law_929.2.2.2.2.2.1
theorem dL_law_936 : decode cL_law 936 = .ok (.iaload, 1) := dgq (p := 7) daL_law_929 dbL_law_929.2.2.2.2.2.2.1
theorem dL_law_937 : decode cL_law 937 = .ok (.aload_n 0, 1) := dgq (p := 8) daL_law_929 dbL_law_929.2.2.2.2.2.2.2.1
theorem dL_law_938 : decode cL_law 938 = .ok (.iload 5, 2) := dgq (p := 9) daL_law_929 dbL_law_929.2.2.2.2.2.2.2.2.1
theorem dL_law_940 : decode cL_law 940 = .ok (.iconst 3, 1) := dgq (p := 11) daL_law_929 dbL_law_929.2.2.2.2.2.2.2.2.2
def dsL_law_941 : ByteArray := ⟨#[96, 46, 42, 21, 5, 7, 96, 46, 45, 184, 1, 19, 54, 6]⟩
theorem daL_law_941 : agB cL_law dsL_law_941 941 := agB_of (n := 14) (by decide +kernel)
theorem dbL_law_941 : (decode dsL_law_941 0 = .ok (.iadd, 1) ∧ okop dsL_law_941 0 = true) ∧ (decode dsL_law_941 1 = .ok (.iaload, 1) ∧ okop dsL_law_941 1 = true) ∧ (decode dsL_law_941 2 = .ok (.aload_n 0, 1) ∧ okop dsL_law_941 2 = true) ∧ (decode dsL_law_941 3 = .ok (.iload 5, 2) ∧ okop dsL_law_941 3 = true) ∧ (decode dsL_law_941 5 = .ok (.iconst 4, 1) ∧ okop dsL_law_941 5 = true) ∧ (decode dsL_law_941 6 = .ok (.iadd, 1) ∧ okop dsL_law_941 6 = true) ∧ (decode dsL_law_941 7 = .ok (.iaload, 1) ∧ okop dsL_law_941 7 = true) ∧ (decode dsL_law_941 8 = .ok (.aload_n 3, 1) ∧ okop dsL_law_941 8 = true) ∧ (decode dsL_law_941 9 = .ok (.invokestatic 275, 3) ∧ okop dsL_law_941 9 = true) ∧ (decode dsL_law_941 12 = .ok (.istore 6, 2) ∧ okop dsL_law_941 12 = true) := by decide +kernel
theorem dL_law_941 : decode cL_law 941 = .ok (.iadd, 1) := dgq (p := 0) daL_law_941 dbL_law_941.1
theorem dL_law_942 : decode cL_law 942 = .ok (.iaload, 1) := dgq (p := 1) daL_law_941 dbL_law_941.2.1
theorem dL_law_943 : decode cL_law 943 = .ok (.aload_n 0, 1) := dgq (p := 2) daL_law_941 dbL_law_941.2.2.1
theorem dL_law_944 : decode cL_law 944 = .ok (.iload 5, 2) := dgq (p := 3) daL_law_941 dbL_law_941.2.2.2.1
theorem dL_law_946 : decode cL_law 946 = .ok (.iconst 4, 1) := dgq (p := 5) daL_law_941 dbL_law_941.2.2.2.2.1
theorem dL_law_947 : decode cL_law 947 = .ok (.iadd, 1) := dgq (p := 6) daL_law_941 dbL_law_941.2.2.2.2.2.1
theorem dL_law_948 : decode cL_law 948 = .ok (.iaload, 1) := dgq (p := 7) daL_law_941 dbL_law_941.2.2.2.2.2.2.1
theorem dL_law_949 : decode cL_law 949 = .ok (.aload_n 3, 1) := dgq (p := 8) daL_law_941 dbL_law_941.2.2.2.2.2.2.2.1
theorem dL_law_950 : decode cL_law 950 = .ok (.invokestatic 275, 3) := dgq (p := 9) daL_law_941 dbL_law_941.2.2.2.2.2.2.2.2.1
theorem dL_law_953 : decode cL_law 953 = .ok (.istore 6, 2) := dgq (p := 12) daL_law_941 dbL_law_941.2.2.2.2.2.2.2.2.2
def dsL_law_955 : ByteArray := ⟨#[44, 42, 21, 5, 4, 96, 46, 42, 21, 5, 5, 96]⟩
theorem daL_law_955 : agB cL_law dsL_law_955 955 := agB_of (n := 12) (by decide +kernel)
theorem dbL_law_955 : (decode dsL_law_955 0 = .ok (.aload_n 2, 1) ∧ okop dsL_law_955 0 = true) ∧ (decode dsL_law_955 1 = .ok (.aload_n 0, 1) ∧ okop dsL_law_955 1 = true) ∧ (decode dsL_law_955 2 = .ok (.iload 5, 2) ∧ okop dsL_law_955 2 = true) ∧ (decode dsL_law_955 4 = .ok (.iconst 1, 1) ∧ okop dsL_law_955 4 = true) ∧ (decode dsL_law_955 5 = .ok (.iadd, 1) ∧ okop dsL_law_955 5 = true) ∧ (decode dsL_law_955 6 = .ok (.iaload, 1) ∧ okop dsL_law_955 6 = true) ∧ (decode dsL_law_955 7 = .ok (.aload_n 0, 1) ∧ okop dsL_law_955 7 = true) ∧ (decode dsL_law_955 8 = .ok (.iload 5, 2) ∧ okop dsL_law_955 8 = true) ∧ (decode dsL_law_955 10 = .ok (.iconst 2, 1) ∧ okop dsL_law_955 10 = true) ∧ (decode dsL_law_955 11 = .ok (.iadd, 1) ∧ okop dsL_law_955 11 = true) := by decide +kernel
theorem dL_law_955 : decode cL_law 955 = .ok (.aload_n 2, 1) := dgq (p := 0) daL_law_955 dbL_law_955.1
theorem dL_law_956 : decode cL_law 956 = .ok (.aload_n 0, 1) := dgq (p := 1) daL_law_955 dbL_law_955.2.1
theorem dL_law_957 : decode cL_law 957 = .ok (.iload 5, 2) := dgq (p := 2) daL_law_955 dbL_law_955.2.2.1
theorem dL_law_959 : decode cL_law 959 = .ok (.iconst 1, 1) := dgq (p := 4) daL_law_955 dbL_law_955.2.2.2.1
theorem dL_law_960 : decode cL_law 960 = .ok (.iadd, 1) := dgq (p := 5) daL_law_955 dbL_law_955.2.2.2.2.1
theorem dL_law_961 : decode cL_law 961 = .ok (.iaload, 1) := dgq (p := 6) daL_law_955 dbL_law_955.2.2.2.2.2.1
theorem dL_law_962 : decode cL_law 962 = .ok (.aload_n 0, 1) := dgq (p := 7) daL_law_955 dbL_law_955.2.2.2.2.2.2.1
theorem dL_law_963 : decode cL_law 963 = .ok (.iload 5, 2) := dgq (p := 8) daL_law_955 dbL_law_955.2.2.2.2.2.2.2.1
theorem dL_law_965 : decode cL_law 965 = .ok (.iconst 2, 1) := dgq (p := 10) daL_law_955 dbL_law_955.2.2.2.2.2.2.2.2.1
theorem dL_law_966 : decode cL_law 966 = .ok (.iadd, 1) := dgq (p := 11) daL_law_955 dbL_law_955.2.2.2.2.2.2.2.2.2
def dsL_law_967 : ByteArray := ⟨#[46, 42, 21, 5, 6, 96, 46, 42, 21, 5, 7, 96]⟩
theorem daL_law_967 : agB cL_law dsL_law_967 967 := agB_of (n := 12) (by decide +kernel)
theorem dbL_law_967 : (decode dsL_law_967 0 = .ok (.iaload, 1) ∧ okop dsL_law_967 0 = true) ∧ (decode dsL_law_967 1 = .ok (.aload_n 0, 1) ∧ okop dsL_law_967 1 = true) ∧ (decode dsL_law_967 2 = .ok (.iload 5, 2) ∧ okop dsL_law_967 2 = true) ∧ (decode dsL_law_967 4 = .ok (.iconst 3, 1) ∧ okop dsL_law_967 4 = true) ∧ (decode dsL_law_967 5 = .ok (.iadd, 1) ∧ okop dsL_law_967 5 = true) ∧ (decode dsL_law_967 6 = .ok (.iaload, 1) ∧ okop dsL_law_967 6 = true) ∧ (decode dsL_law_967 7 = .ok (.aload_n 0, 1) ∧ okop dsL_law_967 7 = true) ∧ (decode dsL_law_967 8 = .ok (.iload 5, 2) ∧ okop dsL_law_967 8 = true) ∧ (decode dsL_law_967 10 = .ok (.iconst 4, 1) ∧ okop dsL_law_967 10 = true) ∧ (decode dsL_law_967 11 = .ok (.iadd, 1) ∧ okop dsL_law_967 11 = true) := by decide +kernel
theorem dL_law_967 : decode cL_law 967 = .ok (.iaload, 1) := dgq (p := 0) daL_law_967 dbL_law_967.1
theorem dL_law_968 : decode cL_law 968 = .ok (.aload_n 0, 1) := dgq (p := 1) daL_law_967 dbL_law_967.2.1
theorem dL_law_969 : decode cL_law 969 = .ok (.iload 5, 2) := dgq (p := 2) daL_law_967 dbL_law_967.2.2.1
theorem dL_law_971 : decode cL_law 971 = .ok (.iconst 3, 1) := dgq (p := 4) daL_law_967 dbL_law_967.2.2.2.1
theorem dL_law_972 : decode cL_law 972 = .ok (.iadd, 1) := dgq (p := 5) daL_law_967 dbL_law_967.2.2.2.2.1
theorem dL_law_973 : decode cL_law 973 = .ok (.iaload, 1) := dgq (p := 6) daL_law_967 dbL_law_967.2.2.2.2.2.1
theorem dL_law_974 : decode cL_law 974 = .ok (.aload_n 0, 1) := dgq (p := 7) daL_law_967 dbL_law_967.2.2.2.2.2.2.1
theorem dL_law_975 : decode cL_law 975 = .ok (.iload 5, 2) := dgq (p := 8) daL_law_967 dbL_law_967.2.2.2.2.2.2.2.1
theorem dL_law_977 : decode cL_law 977 = .ok (.iconst 4, 1) := dgq (p := 10) daL_law_967 dbL_law_967.2.2.2.2.2.2.2.2.1
theorem dL_law_978 : decode cL_law 978 = .ok (.iadd, 1) := dgq (p := 11) daL_law_967 dbL_law_967.2.2.2.2.2.2.2.2.2
def dsL_law_979 : ByteArray := ⟨#[46, 182, 1, 21, 54, 7, 167, 7, 147, 43, 42, 21, 5, 4, 96, 46]⟩
theorem daL_law_979 : agB cL_law dsL_law_979 979 := agB_of (n := 16) (by decide +kernel)
theorem dbL_law_979 : (decode dsL_law_979 0 = .ok (.iaload, 1) ∧ okop dsL_law_979 0 = true) ∧ (decode dsL_law_979 1 = .ok (.invokevirtual 277, 3) ∧ okop dsL_law_979 1 = true) ∧ (decode dsL_law_979 4 = .ok (.istore 7, 2) ∧ okop dsL_law_979 4 = true) ∧ (decode dsL_law_979 6 = .ok (.goto 1939, 3) ∧ okop dsL_law_979 6 = true) ∧ (decode dsL_law_979 9 = .ok (.aload_n 1, 1) ∧ okop dsL_law_979 9 = true) ∧ (decode dsL_law_979 10 = .ok (.aload_n 0, 1) ∧ okop dsL_law_979 10 = true) ∧ (decode dsL_law_979 11 = .ok (.iload 5, 2) ∧ okop dsL_law_979 11 = true) ∧ (decode dsL_law_979 13 = .ok (.iconst 1, 1) ∧ okop dsL_law_979 13 = true) ∧ (decode dsL_law_979 14 = .ok (.iadd, 1) ∧ okop dsL_law_979 14 = true) ∧ (decode dsL_law_979 15 = .ok (.iaload, 1) ∧ okop dsL_law_979 15 = true) := by decide +kernel
theorem dL_law_979 : decode cL_law 979 = .ok (.iaload, 1) := dgq (p := 0) daL_law_979 dbL_law_979.1
theorem dL_law_980 : decode cL_law 980 = .ok (.invokevirtual 277, 3) := dgq (p := 1) daL_law_979 dbL_law_979.2.1
theorem dL_law_983 : decode cL_law 983 = .ok (.istore 7, 2) := dgq (p := 4) daL_law_979 dbL_law_979.2.2.1
theorem dL_law_985 : decode cL_law 985 = .ok (.goto 1939, 3) := dgq (p := 6) daL_law_979 dbL_law_979.2.2.2.1
theorem dL_law_988 : decode cL_law 988 = .ok (.aload_n 1, 1) := dgq (p := 9) daL_law_979 dbL_law_979.2.2.2.2.1
theorem dL_law_989 : decode cL_law 989 = .ok (.aload_n 0, 1) := dgq (p := 10) daL_law_979 dbL_law_979.2.2.2.2.2.1
theorem dL_law_990 : decode cL_law 990 = .ok (.iload 5, 2) := dgq (p := 11) daL_law_979 dbL_law_979.2.2.2.2.2.2.1
theorem dL_law_992 : decode cL_law 992 = .ok (.iconst 1, 1) := dgq (p := 13) daL_law_979 dbL_law_979.2.2.2.2.2.2.2.1
theorem dL_law_993 : decode cL_law 993 = .ok (.iadd, 1) := dgq (p := 14) daL_law_979 dbL_law_979.2.2.2.2.2.2.2.2.1
theorem dL_law_994 : decode cL_law 994 = .ok (.iaload, 1) := dgq (p := 15) daL_law_979 dbL_law_979.2.2.2.2.2.2.2.2.2
def dsL_law_995 : ByteArray := ⟨#[42, 21, 5, 5, 96, 46, 42, 21, 5, 6, 96, 46]⟩
theorem daL_law_995 : agB cL_law dsL_law_995 995 := agB_of (n := 12) (by decide +kernel)
theorem dbL_law_995 : (decode dsL_law_995 0 = .ok (.aload_n 0, 1) ∧ okop dsL_law_995 0 = true) ∧ (decode dsL_law_995 1 = .ok (.iload 5, 2) ∧ okop dsL_law_995 1 = true) ∧ (decode dsL_law_995 3 = .ok (.iconst 2, 1) ∧ okop dsL_law_995 3 = true) ∧ (decode dsL_law_995 4 = .ok (.iadd, 1) ∧ okop dsL_law_995 4 = true) ∧ (decode dsL_law_995 5 = .ok (.iaload, 1) ∧ okop dsL_law_995 5 = true) ∧ (decode dsL_law_995 6 = .ok (.aload_n 0, 1) ∧ okop dsL_law_995 6 = true) ∧ (decode dsL_law_995 7 = .ok (.iload 5, 2) ∧ okop dsL_law_995 7 = true) ∧ (decode dsL_law_995 9 = .ok (.iconst 3, 1) ∧ okop dsL_law_995 9 = true) ∧ (decode dsL_law_995 10 = .ok (.iadd, 1) ∧ okop dsL_law_995 10 = true) ∧ (decode dsL_law_995 11 = .ok (.iaload, 1) ∧ okop dsL_law_995 11 = true) := by decide +kernel
theorem dL_law_995 : decode cL_law 995 = .ok (.aload_n 0, 1) := dgq (p := 0) daL_law_995 dbL_law_995.1
theorem dL_law_996 : decode cL_law 996 = .ok (.iload 5, 2) := dgq (p := 1) daL_law_995 dbL_law_995.2.1
theorem dL_law_998 : decode cL_law 998 = .ok (.iconst 2, 1) := dgq (p := 3) daL_law_995 dbL_law_995.2.2.1
theorem dL_law_999 : decode cL_law 999 = .ok (.iadd, 1) := dgq (p := 4) daL_law_995 dbL_law_995.2.2.2.1
theorem dL_law_1000 : decode cL_law 1000 = .ok (.iaload, 1) := dgq (p := 5) daL_law_995 dbL_law_995.2.2.2.2.1
theorem dL_law_1001 : decode cL_law 1001 = .ok (.aload_n 0, 1) := dgq (p := 6) daL_law_995 dbL_law_995.2.2.2.2.2.1
theorem dL_law_1002 : decode cL_law 1002 = .ok (.iload 5, 2) := dgq (p := 7) daL_law_995 dbL_law_995.2.2.2.2.2.2.1
theorem dL_law_1004 : decode cL_law 1004 = .ok (.iconst 3, 1) := dgq (p := 9) daL_law_995 dbL_law_995.2.2.2.2.2.2.2.1
theorem dL_law_1005 : decode cL_law 1005 = .ok (.iadd, 1) := dgq (p := 10) daL_law_995 dbL_law_995.2.2.2.2.2.2.2.2.1
theorem dL_law_1006 : decode cL_law 1006 = .ok (.iaload, 1) := dgq (p := 11) daL_law_995 dbL_law_995.2.2.2.2.2.2.2.2.2
def dsL_law_1007 : ByteArray := ⟨#[45, 184, 1, 22, 54, 6, 44, 42, 21, 5, 4, 96, 46, 42]⟩
theorem daL_law_1007 : agB cL_law dsL_law_1007 1007 := agB_of (n := 14) (by decide +kernel)
theorem dbL_law_1007 : (decode dsL_law_1007 0 = .ok (.aload_n 3, 1) ∧ okop dsL_law_1007 0 = true) ∧ (decode dsL_law_1007 1 = .ok (.invokestatic 278, 3) ∧ okop dsL_law_1007 1 = true) ∧ (decode dsL_law_1007 4 = .ok (.istore 6, 2) ∧ okop dsL_law_1007 4 = true) ∧ (decode dsL_law_1007 6 = .ok (.aload_n 2, 1) ∧ okop dsL_law_1007 6 = true) ∧ (decode dsL_law_1007 7 = .ok (.aload_n 0, 1) ∧ okop dsL_law_1007 7 = true) ∧ (decode dsL_law_1007 8 = .ok (.iload 5, 2) ∧ okop dsL_law_1007 8 = true) ∧ (decode dsL_law_1007 10 = .ok (.iconst 1, 1) ∧ okop dsL_law_1007 10 = true) ∧ (decode dsL_law_1007 11 = .ok (.iadd, 1) ∧ okop dsL_law_1007 11 = true) ∧ (decode dsL_law_1007 12 = .ok (.iaload, 1) ∧ okop dsL_law_1007 12 = true) ∧ (decode dsL_law_1007 13 = .ok (.aload_n 0, 1) ∧ okop dsL_law_1007 13 = true) := by decide +kernel
theorem dL_law_1007 : decode cL_law 1007 = .ok (.aload_n 3, 1) := dgq (p := 0) daL_law_1007 dbL_law_1007.1
theorem dL_law_1008 : decode cL_law 1008 = .ok (.invokestatic 278, 3) := dgq (p := 1) daL_law_1007 dbL_law_1007.2.1
theorem dL_law_1011 : decode cL_law 1011 = .ok (.istore 6, 2) := dgq (p := 4) daL_law_1007 dbL_law_1007.2.2.1
theorem dL_law_1013 : decode cL_law 1013 = .ok (.aload_n 2, 1) := dgq (p := 6) daL_law_1007 dbL_law_1007.2.2.2.1
theorem dL_law_1014 : decode cL_law 1014 = .ok (.aload_n 0, 1) := dgq (p := 7) daL_law_1007 dbL_law_1007.2.2.2.2.1
theorem dL_law_1015 : decode cL_law 1015 = .ok (.iload 5, 2) := dgq (p := 8) daL_law_1007 dbL_law_1007.2.2.2.2.2.1
theorem dL_law_1017 : decode cL_law 1017 = .ok (.iconst 1, 1) := dgq (p := 10) daL_law_1007 dbL_law_1007.2.2.2.2.2.2.1
theorem dL_law_1018 : decode cL_law 1018 = .ok (.iadd, 1) := dgq (p := 11) daL_law_1007 dbL_law_1007.2.2.2.2.2.2.2.1
theorem dL_law_1019 : decode cL_law 1019 = .ok (.iaload, 1) := dgq (p := 12) daL_law_1007 dbL_law_1007.2.2.2.2.2.2.2.2.1
theorem dL_law_1020 : decode cL_law 1020 = .ok (.aload_n 0, 1) := dgq (p := 13) daL_law_1007 dbL_law_1007.2.2.2.2.2.2.2.2.2
def dsL_law_1021 : ByteArray := ⟨#[21, 5, 5, 96, 46, 42, 21, 5, 6, 96, 46, 182, 1, 25]⟩
theorem daL_law_1021 : agB cL_law dsL_law_1021 1021 := agB_of (n := 14) (by decide +kernel)
theorem dbL_law_1021 : (decode dsL_law_1021 0 = .ok (.iload 5, 2) ∧ okop dsL_law_1021 0 = true) ∧ (decode dsL_law_1021 2 = .ok (.iconst 2, 1) ∧ okop dsL_law_1021 2 = true) ∧ (decode dsL_law_1021 3 = .ok (.iadd, 1) ∧ okop dsL_law_1021 3 = true) ∧ (decode dsL_law_1021 4 = .ok (.iaload, 1) ∧ okop dsL_law_1021 4 = true) ∧ (decode dsL_law_1021 5 = .ok (.aload_n 0, 1) ∧ okop dsL_law_1021 5 = true) ∧ (decode dsL_law_1021 6 = .ok (.iload 5, 2) ∧ okop dsL_law_1021 6 = true) ∧ (decode dsL_law_1021 8 = .ok (.iconst 3, 1) ∧ okop dsL_law_1021 8 = true) ∧ (decode dsL_law_1021 9 = .ok (.iadd, 1) ∧ okop dsL_law_1021 9 = true) ∧ (decode dsL_law_1021 10 = .ok (.iaload, 1) ∧ okop dsL_law_1021 10 = true) ∧ (decode dsL_law_1021 11 = .ok (.invokevirtual 281, 3) ∧ okop dsL_law_1021 11 = true) := by decide +kernel
theorem dL_law_1021 : decode cL_law 1021 = .ok (.iload 5, 2) := dgq (p := 0) daL_law_1021 dbL_law_1021.1
theorem dL_law_1023 : decode cL_law 1023 = .ok (.iconst 2, 1) := dgq (p := 2) daL_law_1021 dbL_law_1021.2.1
theorem dL_law_1024 : decode cL_law 1024 = .ok (.iadd, 1) := dgq (p := 3) daL_law_1021 dbL_law_1021.2.2.1
theorem dL_law_1025 : decode cL_law 1025 = .ok (.iaload, 1) := dgq (p := 4) daL_law_1021 dbL_law_1021.2.2.2.1
theorem dL_law_1026 : decode cL_law 1026 = .ok (.aload_n 0, 1) := dgq (p := 5) daL_law_1021 dbL_law_1021.2.2.2.2.1
theorem dL_law_1027 : decode cL_law 1027 = .ok (.iload 5, 2) := dgq (p := 6) daL_law_1021 dbL_law_1021.2.2.2.2.2.1
theorem dL_law_1029 : decode cL_law 1029 = .ok (.iconst 3, 1) := dgq (p := 8) daL_law_1021 dbL_law_1021.2.2.2.2.2.2.1
theorem dL_law_1030 : decode cL_law 1030 = .ok (.iadd, 1) := dgq (p := 9) daL_law_1021 dbL_law_1021.2.2.2.2.2.2.2.1
theorem dL_law_1031 : decode cL_law 1031 = .ok (.iaload, 1) := dgq (p := 10) daL_law_1021 dbL_law_1021.2.2.2.2.2.2.2.2.1
theorem dL_law_1032 : decode cL_law 1032 = .ok (.invokevirtual 281, 3) := dgq (p := 11) daL_law_1021 dbL_law_1021.2.2.2.2.2.2.2.2.2
def dsL_law_1035 : ByteArray := ⟨#[54, 7, 167, 7, 95, 43, 42, 21, 5, 4, 96, 46, 42, 21, 5]⟩
theorem daL_law_1035 : agB cL_law dsL_law_1035 1035 := agB_of (n := 15) (by decide +kernel)
theorem dbL_law_1035 : (decode dsL_law_1035 0 = .ok (.istore 7, 2) ∧ okop dsL_law_1035 0 = true) ∧ (decode dsL_law_1035 2 = .ok (.goto 1887, 3) ∧ okop dsL_law_1035 2 = true) ∧ (decode dsL_law_1035 5 = .ok (.aload_n 1, 1) ∧ okop dsL_law_1035 5 = true) ∧ (decode dsL_law_1035 6 = .ok (.aload_n 0, 1) ∧ okop dsL_law_1035 6 = true) ∧ (decode dsL_law_1035 7 = .ok (.iload 5, 2) ∧ okop dsL_law_1035 7 = true) ∧ (decode dsL_law_1035 9 = .ok (.iconst 1, 1) ∧ okop dsL_law_1035 9 = true) ∧ (decode dsL_law_1035 10 = .ok (.iadd, 1) ∧ okop dsL_law_1035 10 = true) ∧ (decode dsL_law_1035 11 = .ok (.iaload, 1) ∧ okop dsL_law_1035 11 = true) ∧ (decode dsL_law_1035 12 = .ok (.aload_n 0, 1) ∧ okop dsL_law_1035 12 = true) ∧ (decode dsL_law_1035 13 = .ok (.iload 5, 2) ∧ okop dsL_law_1035 13 = true) := by decide +kernel
theorem dL_law_1035 : decode cL_law 1035 = .ok (.istore 7, 2) := dgq (p := 0) daL_law_1035 dbL_law_1035.1
theorem dL_law_1037 : decode cL_law 1037 = .ok (.goto 1887, 3) := dgq (p := 2) daL_law_1035 dbL_law_1035.2.1
theorem dL_law_1040 : decode cL_law 1040 = .ok (.aload_n 1, 1) := dgq (p := 5) daL_law_1035 dbL_law_1035.2.2.1
theorem dL_law_1041 : decode cL_law 1041 = .ok (.aload_n 0, 1) := dgq (p := 6) daL_law_1035 dbL_law_1035.2.2.2.1
theorem dL_law_1042 : decode cL_law 1042 = .ok (.iload 5, 2) := dgq (p := 7) daL_law_1035 dbL_law_1035.2.2.2.2.1
theorem dL_law_1044 : decode cL_law 1044 = .ok (.iconst 1, 1) := dgq (p := 9) daL_law_1035 dbL_law_1035.2.2.2.2.2.1
theorem dL_law_1045 : decode cL_law 1045 = .ok (.iadd, 1) := dgq (p := 10) daL_law_1035 dbL_law_1035.2.2.2.2.2.2.1
theorem dL_law_1046 : decode cL_law 1046 = .ok (.iaload, 1) := dgq (p := 11) daL_law_1035 dbL_law_1035.2.2.2.2.2.2.2.1
theorem dL_law_1047 : decode cL_law 1047 = .ok (.aload_n 0, 1) := dgq (p := 12) daL_law_1035 dbL_law_1035.2.2.2.2.2.2.2.2.1
theorem dL_law_1048 : decode cL_law 1048 = .ok (.iload 5, 2) := dgq (p := 13) daL_law_1035 dbL_law_1035.2.2.2.2.2.2.2.2.2
def dsL_law_1050 : ByteArray := ⟨#[5, 96, 46, 42, 21, 5, 6, 96, 46, 42, 21, 5]⟩
theorem daL_law_1050 : agB cL_law dsL_law_1050 1050 := agB_of (n := 12) (by decide +kernel)
theorem dbL_law_1050 : (decode dsL_law_1050 0 = .ok (.iconst 2, 1) ∧ okop dsL_law_1050 0 = true) ∧ (decode dsL_law_1050 1 = .ok (.iadd, 1) ∧ okop dsL_law_1050 1 = true) ∧ (decode dsL_law_1050 2 = .ok (.iaload, 1) ∧ okop dsL_law_1050 2 = true) ∧ (decode dsL_law_1050 3 = .ok (.aload_n 0, 1) ∧ okop dsL_law_1050 3 = true) ∧ (decode dsL_law_1050 4 = .ok (.iload 5, 2) ∧ okop dsL_law_1050 4 = true) ∧ (decode dsL_law_1050 6 = .ok (.iconst 3, 1) ∧ okop dsL_law_1050 6 = true) ∧ (decode dsL_law_1050 7 = .ok (.iadd, 1) ∧ okop dsL_law_1050 7 = true) ∧ (decode dsL_law_1050 8 = .ok (.iaload, 1) ∧ okop dsL_law_1050 8 = true) ∧ (decode dsL_law_1050 9 = .ok (.aload_n 0, 1) ∧ okop dsL_law_1050 9 = true) ∧ (decode dsL_law_1050 10 = .ok (.iload 5, 2) ∧ okop dsL_law_1050 10 = true) := by decide +kernel
theorem dL_law_1050 : decode cL_law 1050 = .ok (.iconst 2, 1) := dgq (p := 0) daL_law_1050 dbL_law_1050.1
theorem dL_law_1051 : decode cL_law 1051 = .ok (.iadd, 1) := dgq (p := 1) daL_law_1050 dbL_law_1050.2.1
theorem dL_law_1052 : decode cL_law 1052 = .ok (.iaload, 1) := dgq (p := 2) daL_law_1050 dbL_law_1050.2.2.1
theorem dL_law_1053 : decode cL_law 1053 = .ok (.aload_n 0, 1) := dgq (p := 3) daL_law_1050 dbL_law_1050.2.2.2.1
theorem dL_law_1054 : decode cL_law 1054 = .ok (.iload 5, 2) := dgq (p := 4) daL_law_1050 dbL_law_1050.2.2.2.2.1
theorem dL_law_1056 : decode cL_law 1056 = .ok (.iconst 3, 1) := dgq (p := 6) daL_law_1050 dbL_law_1050.2.2.2.2.2.1
theorem dL_law_1057 : decode cL_law 1057 = .ok (.iadd, 1) := dgq (p := 7) daL_law_1050 dbL_law_1050.2.2.2.2.2.2.1
theorem dL_law_1058 : decode cL_law 1058 = .ok (.iaload, 1) := dgq (p := 8) daL_law_1050 dbL_law_1050.2.2.2.2.2.2.2.1
theorem dL_law_1059 : decode cL_law 1059 = .ok (.aload_n 0, 1) := dgq (p := 9) daL_law_1050 dbL_law_1050.2.2.2.2.2.2.2.2.1
theorem dL_law_1060 : decode cL_law 1060 = .ok (.iload 5, 2) := dgq (p := 10) daL_law_1050 dbL_law_1050.2.2.2.2.2.2.2.2.2
def dsL_law_1062 : ByteArray := ⟨#[7, 96, 46, 45, 184, 1, 26, 54, 6, 44, 42, 21, 5, 4]⟩
theorem daL_law_1062 : agB cL_law dsL_law_1062 1062 := agB_of (n := 14) (by decide +kernel)
theorem dbL_law_1062 : (decode dsL_law_1062 0 = .ok (.iconst 4, 1) ∧ okop dsL_law_1062 0 = true) ∧ (decode dsL_law_1062 1 = .ok (.iadd, 1) ∧ okop dsL_law_1062 1 = true) ∧ (decode dsL_law_1062 2 = .ok (.iaload, 1) ∧ okop dsL_law_1062 2 = true) ∧ (decode dsL_law_1062 3 = .ok (.aload_n 3, 1) ∧ okop dsL_law_1062 3 = true) ∧ (decode dsL_law_1062 4 = .ok (.invokestatic 282, 3) ∧ okop dsL_law_1062 4 = true) ∧ (decode dsL_law_1062 7 = .ok (.istore 6, 2) ∧ okop dsL_law_1062 7 = true) ∧ (decode dsL_law_1062 9 = .ok (.aload_n 2, 1) ∧ okop dsL_law_1062 9 = true) ∧ (decode dsL_law_1062 10 = .ok (.aload_n 0, 1) ∧ okop dsL_law_1062 10 = true) ∧ (decode dsL_law_1062 11 = .ok (.iload 5, 2) ∧ okop dsL_law_1062 11 = true) ∧ (decode dsL_law_1062 13 = .ok (.iconst 1, 1) ∧ okop dsL_law_1062 13 = true) := by decide +kernel
theorem dL_law_1062 : decode cL_law 1062 = .ok (.iconst 4, 1) := dgq (p := 0) daL_law_1062 dbL_law_1062.1
theorem dL_law_1063 : decode cL_law 1063 = .ok (.iadd, 1) := dgq (p := 1) daL_law_1062 dbL_law_1062.2.1
theorem dL_law_1064 : decode cL_law 1064 = .ok (.iaload, 1) := dgq (p := 2) daL_law_1062 dbL_law_1062.2.2.1
theorem dL_law_1065 : decode cL_law 1065 = .ok (.aload_n 3, 1) := dgq (p := 3) daL_law_1062 dbL_law_1062.2.2.2.1
theorem dL_law_1066 : decode cL_law 1066 = .ok (.invokestatic 282, 3) := dgq (p := 4) daL_law_1062 dbL_law_1062.2.2.2.2.1
theorem dL_law_1069 : decode cL_law 1069 = .ok (.istore 6, 2) := dgq (p := 7) daL_law_1062 dbL_law_1062.2.2.2.2.2.1
theorem dL_law_1071 : decode cL_law 1071 = .ok (.aload_n 2, 1) := dgq (p := 9) daL_law_1062 dbL_law_1062.2.2.2.2.2.2.1
theorem dL_law_1072 : decode cL_law 1072 = .ok (.aload_n 0, 1) := dgq (p := 10) daL_law_1062 dbL_law_1062.2.2.2.2.2.2.2.1
theorem dL_law_1073 : decode cL_law 1073 = .ok (.iload 5, 2) := dgq (p := 11) daL_law_1062 dbL_law_1062.2.2.2.2.2.2.2.2.1
theorem dL_law_1075 : decode cL_law 1075 = .ok (.iconst 1, 1) := dgq (p := 13) daL_law_1062 dbL_law_1062.2.2.2.2.2.2.2.2.2
def dsL_law_1076 : ByteArray := ⟨#[96, 46, 42, 21, 5, 5, 96, 46, 42, 21, 5, 6]⟩
theorem daL_law_1076 : agB cL_law dsL_law_1076 1076 := agB_of (n := 12) (by decide +kernel)
theorem dbL_law_1076 : (decode dsL_law_1076 0 = .ok (.iadd, 1) ∧ okop dsL_law_1076 0 = true) ∧ (decode dsL_law_1076 1 = .ok (.iaload, 1) ∧ okop dsL_law_1076 1 = true) ∧ (decode dsL_law_1076 2 = .ok (.aload_n 0, 1) ∧ okop dsL_law_1076 2 = true) ∧ (decode dsL_law_1076 3 = .ok (.iload 5, 2) ∧ okop dsL_law_1076 3 = true) ∧ (decode dsL_law_1076 5 = .ok (.iconst 2, 1) ∧ okop dsL_law_1076 5 = true) ∧ (decode dsL_law_1076 6 = .ok (.iadd, 1) ∧ okop dsL_law_1076 6 = true) ∧ (decode dsL_law_1076 7 = .ok (.iaload, 1) ∧ okop dsL_law_1076 7 = true) ∧ (decode dsL_law_1076 8 = .ok (.aload_n 0, 1) ∧ okop dsL_law_1076 8 = true) ∧ (decode dsL_law_1076 9 = .ok (.iload 5, 2) ∧ okop dsL_law_1076 9 = true) ∧ (decode dsL_law_1076 11 = .ok (.iconst 3, 1) ∧ okop dsL_law_1076 11 = true) := by decide +kernel
theorem dL_law_1076 : decode cL_law 1076 = .ok (.iadd, 1) := dgq (p := 0) daL_law_1076 dbL_law_1076.1
theorem dL_law_1077 : decode cL_law 1077 = .ok (.iaload, 1) := dgq (p := 1) daL_law_1076 dbL_law_1076.2.1
theorem dL_law_1078 : decode cL_law 1078 = .ok (.aload_n 0, 1) := dgq (p := 2) daL_law_1076 dbL_law_1076.2.2.1
theorem dL_law_1079 : decode cL_law 1079 = .ok (.iload 5, 2) := dgq (p := 3) daL_law_1076 dbL_law_1076.2.2.2.1
theorem dL_law_1081 : decode cL_law 1081 = .ok (.iconst 2, 1) := dgq (p := 5) daL_law_1076 dbL_law_1076.2.2.2.2.1
theorem dL_law_1082 : decode cL_law 1082 = .ok (.iadd, 1) := dgq (p := 6) daL_law_1076 dbL_law_1076.2.2.2.2.2.1
theorem dL_law_1083 : decode cL_law 1083 = .ok (.iaload, 1) := dgq (p := 7) daL_law_1076 dbL_law_1076.2.2.2.2.2.2.1
theorem dL_law_1084 : decode cL_law 1084 = .ok (.aload_n 0, 1) := dgq (p := 8) daL_law_1076 dbL_law_1076.2.2.2.2.2.2.2.1
theorem dL_law_1085 : decode cL_law 1085 = .ok (.iload 5, 2) := dgq (p := 9) daL_law_1076 dbL_law_1076.2.2.2.2.2.2.2.2.1
theorem dL_law_1087 : decode cL_law 1087 = .ok (.iconst 3, 1) := dgq (p := 11) daL_law_1076 dbL_law_1076.2.2.2.2.2.2.2.2.2
def dsL_law_1088 : ByteArray := ⟨#[96, 46, 42, 21, 5, 7, 96, 46, 182, 1, 28, 54, 7, 167, 7, 31]⟩
theorem daL_law_1088 : agB cL_law dsL_law_1088 1088 := agB_of (n := 16) (by decide +kernel)
theorem dbL_law_1088 : (decode dsL_law_1088 0 = .ok (.iadd, 1) ∧ okop dsL_law_1088 0 = true) ∧ (decode dsL_law_1088 1 = .ok (.iaload, 1) ∧ okop dsL_law_1088 1 = true) ∧ (decode dsL_law_1088 2 = .ok (.aload_n 0, 1) ∧ okop dsL_law_1088 2 = true) ∧ (decode dsL_law_1088 3 = .ok (.iload 5, 2) ∧ okop dsL_law_1088 3 = true) ∧ (decode dsL_law_1088 5 = .ok (.iconst 4, 1) ∧ okop dsL_law_1088 5 = true) ∧ (decode dsL_law_1088 6 = .ok (.iadd, 1) ∧ okop dsL_law_1088 6 = true) ∧ (decode dsL_law_1088 7 = .ok (.iaload, 1) ∧ okop dsL_law_1088 7 = true) ∧ (decode dsL_law_1088 8 = .ok (.invokevirtual 284, 3) ∧ okop dsL_law_1088 8 = true) ∧ (decode dsL_law_1088 11 = .ok (.istore 7, 2) ∧ okop dsL_law_1088 11 = true) ∧ (decode dsL_law_1088 13 = .ok (.goto 1823, 3) ∧ okop dsL_law_1088 13 = true) := by decide +kernel
theorem dL_law_1088 : decode cL_law 1088 = .ok (.iadd, 1) := dgq (p := 0) daL_law_1088 dbL_law_1088.1
theorem dL_law_1089 : decode cL_law 1089 = .ok (.iaload, 1) := dgq (p := 1) daL_law_1088 dbL_law_1088.2.1
theorem dL_law_1090 : decode cL_law 1090 = .ok (.aload_n 0, 1) := dgq (p := 2) daL_law_1088 dbL_law_1088.2.2.1
theorem dL_law_1091 : decode cL_law 1091 = .ok (.iload 5, 2) := dgq (p := 3) daL_law_1088 dbL_law_1088.2.2.2.1
theorem dL_law_1093 : decode cL_law 1093 = .ok (.iconst 4, 1) := dgq (p := 5) daL_law_1088 dbL_law_1088.2.2.2.2.1
theorem dL_law_1094 : decode cL_law 1094 = .ok (.iadd, 1) := dgq (p := 6) daL_law_1088 dbL_law_1088.2.2.2.2.2.1
theorem dL_law_1095 : decode cL_law 1095 = .ok (.iaload, 1) := dgq (p := 7) daL_law_1088 dbL_law_1088.2.2.2.2.2.2.1
theorem dL_law_1096 : decode cL_law 1096 = .ok (.invokevirtual 284, 3) := dgq (p := 8) daL_law_1088 dbL_law_1088.2.2.2.2.2.2.2.1
theorem dL_law_1099 : decode cL_law 1099 = .ok (.istore 7, 2) := dgq (p := 11) daL_law_1088 dbL_law_1088.2.2.2.2.2.2.2.2.1
theorem dL_law_1101 : decode cL_law 1101 = .ok (.goto 1823, 3) := dgq (p := 13) daL_law_1088 dbL_law_1088.2.2.2.2.2.2.2.2.2
def dsL_law_1104 : ByteArray := ⟨#[43, 42, 21, 5, 4, 96, 46, 45, 184, 1, 29, 54, 6, 44]⟩
theorem daL_law_1104 : agB cL_law dsL_law_1104 1104 := agB_of (n := 14) (by decide +kernel)
theorem dbL_law_1104 : (decode dsL_law_1104 0 = .ok (.aload_n 1, 1) ∧ okop dsL_law_1104 0 = true) ∧ (decode dsL_law_1104 1 = .ok (.aload_n 0, 1) ∧ okop dsL_law_1104 1 = true) ∧ (decode dsL_law_1104 2 = .ok (.iload 5, 2) ∧ okop dsL_law_1104 2 = true) ∧ (decode dsL_law_1104 4 = .ok (.iconst 1, 1) ∧ okop dsL_law_1104 4 = true) ∧ (decode dsL_law_1104 5 = .ok (.iadd, 1) ∧ okop dsL_law_1104 5 = true) ∧ (decode dsL_law_1104 6 = .ok (.iaload, 1) ∧ okop dsL_law_1104 6 = true) ∧ (decode dsL_law_1104 7 = .ok (.aload_n 3, 1) ∧ okop dsL_law_1104 7 = true) ∧ (decode dsL_law_1104 8 = .ok (.invokestatic 285, 3) ∧ okop dsL_law_1104 8 = true) ∧ (decode dsL_law_1104 11 = .ok (.istore 6, 2) ∧ okop dsL_law_1104 11 = true) ∧ (decode dsL_law_1104 13 = .ok (.aload_n 2, 1) ∧ okop dsL_law_1104 13 = true) := by decide +kernel
theorem dL_law_1104 : decode cL_law 1104 = .ok (.aload_n 1, 1) := dgq (p := 0) daL_law_1104 dbL_law_1104.1
theorem dL_law_1105 : decode cL_law 1105 = .ok (.aload_n 0, 1) := dgq (p := 1) daL_law_1104 dbL_law_1104.2.1
theorem dL_law_1106 : decode cL_law 1106 = .ok (.iload 5, 2) := dgq (p := 2) daL_law_1104 dbL_law_1104.2.2.1
theorem dL_law_1108 : decode cL_law 1108 = .ok (.iconst 1, 1) := dgq (p := 4) daL_law_1104 dbL_law_1104.2.2.2.1
theorem dL_law_1109 : decode cL_law 1109 = .ok (.iadd, 1) := dgq (p := 5) daL_law_1104 dbL_law_1104.2.2.2.2.1
theorem dL_law_1110 : decode cL_law 1110 = .ok (.iaload, 1) := dgq (p := 6) daL_law_1104 dbL_law_1104.2.2.2.2.2.1
theorem dL_law_1111 : decode cL_law 1111 = .ok (.aload_n 3, 1) := dgq (p := 7) daL_law_1104 dbL_law_1104.2.2.2.2.2.2.1
theorem dL_law_1112 : decode cL_law 1112 = .ok (.invokestatic 285, 3) := dgq (p := 8) daL_law_1104 dbL_law_1104.2.2.2.2.2.2.2.1
theorem dL_law_1115 : decode cL_law 1115 = .ok (.istore 6, 2) := dgq (p := 11) daL_law_1104 dbL_law_1104.2.2.2.2.2.2.2.2.1
theorem dL_law_1117 : decode cL_law 1117 = .ok (.aload_n 2, 1) := dgq (p := 13) daL_law_1104 dbL_law_1104.2.2.2.2.2.2.2.2.2
def dsL_law_1118 : ByteArray := ⟨#[42, 21, 5, 4, 96, 46, 182, 1, 31, 54, 7, 167, 7, 3, 43, 42]⟩
theorem daL_law_1118 : agB cL_law dsL_law_1118 1118 := agB_of (n := 16) (by decide +kernel)
theorem dbL_law_1118 : (decode dsL_law_1118 0 = .ok (.aload_n 0, 1) ∧ okop dsL_law_1118 0 = true) ∧ (decode dsL_law_1118 1 = .ok (.iload 5, 2) ∧ okop dsL_law_1118 1 = true) ∧ (decode dsL_law_1118 3 = .ok (.iconst 1, 1) ∧ okop dsL_law_1118 3 = true) ∧ (decode dsL_law_1118 4 = .ok (.iadd, 1) ∧ okop dsL_law_1118 4 = true) ∧ (decode dsL_law_1118 5 = .ok (.iaload, 1) ∧ okop dsL_law_1118 5 = true) ∧ (decode dsL_law_1118 6 = .ok (.invokevirtual 287, 3) ∧ okop dsL_law_1118 6 = true) ∧ (decode dsL_law_1118 9 = .ok (.istore 7, 2) ∧ okop dsL_law_1118 9 = true) ∧ (decode dsL_law_1118 11 = .ok (.goto 1795, 3) ∧ okop dsL_law_1118 11 = true) ∧ (decode dsL_law_1118 14 = .ok (.aload_n 1, 1) ∧ okop dsL_law_1118 14 = true) ∧ (decode dsL_law_1118 15 = .ok (.aload_n 0, 1) ∧ okop dsL_law_1118 15 = true) := by decide +kernel
theorem dL_law_1118 : decode cL_law 1118 = .ok (.aload_n 0, 1) := dgq (p := 0) daL_law_1118 dbL_law_1118.1
theorem dL_law_1119 : decode cL_law 1119 = .ok (.iload 5, 2) := dgq (p := 1) daL_law_1118 dbL_law_1118.2.1
theorem dL_law_1121 : decode cL_law 1121 = .ok (.iconst 1, 1) := dgq (p := 3) daL_law_1118 dbL_law_1118.2.2.1
theorem dL_law_1122 : decode cL_law 1122 = .ok (.iadd, 1) := dgq (p := 4) daL_law_1118 dbL_law_1118.2.2.2.1
theorem dL_law_1123 : decode cL_law 1123 = .ok (.iaload, 1) := dgq (p := 5) daL_law_1118 dbL_law_1118.2.2.2.2.1
theorem dL_law_1124 : decode cL_law 1124 = .ok (.invokevirtual 287, 3) := dgq (p := 6) daL_law_1118 dbL_law_1118.2.2.2.2.2.1
theorem dL_law_1127 : decode cL_law 1127 = .ok (.istore 7, 2) := dgq (p := 9) daL_law_1118 dbL_law_1118.2.2.2.2.2.2.1
theorem dL_law_1129 : decode cL_law 1129 = .ok (.goto 1795, 3) := dgq (p := 11) daL_law_1118 dbL_law_1118.2.2.2.2.2.2.2.1
theorem dL_law_1132 : decode cL_law 1132 = .ok (.aload_n 1, 1) := dgq (p := 14) daL_law_1118 dbL_law_1118.2.2.2.2.2.2.2.2.1
theorem dL_law_1133 : decode cL_law 1133 = .ok (.aload_n 0, 1) := dgq (p := 15) daL_law_1118 dbL_law_1118.2.2.2.2.2.2.2.2.2
def dsL_law_1134 : ByteArray := ⟨#[21, 5, 4, 96, 46, 42, 21, 5, 5, 96, 46, 42]⟩
theorem daL_law_1134 : agB cL_law dsL_law_1134 1134 := agB_of (n := 12) (by decide +kernel)
theorem dbL_law_1134 : (decode dsL_law_1134 0 = .ok (.iload 5, 2) ∧ okop dsL_law_1134 0 = true) ∧ (decode dsL_law_1134 2 = .ok (.iconst 1, 1) ∧ okop dsL_law_1134 2 = true) ∧ (decode dsL_law_1134 3 = .ok (.iadd, 1) ∧ okop dsL_law_1134 3 = true) ∧ (decode dsL_law_1134 4 = .ok (.iaload, 1) ∧ okop dsL_law_1134 4 = true) ∧ (decode dsL_law_1134 5 = .ok (.aload_n 0, 1) ∧ okop dsL_law_1134 5 = true) ∧ (decode dsL_law_1134 6 = .ok (.iload 5, 2) ∧ okop dsL_law_1134 6 = true) ∧ (decode dsL_law_1134 8 = .ok (.iconst 2, 1) ∧ okop dsL_law_1134 8 = true) ∧ (decode dsL_law_1134 9 = .ok (.iadd, 1) ∧ okop dsL_law_1134 9 = true) ∧ (decode dsL_law_1134 10 = .ok (.iaload, 1) ∧ okop dsL_law_1134 10 = true) ∧ (decode dsL_law_1134 11 = .ok (.aload_n 0, 1) ∧ okop dsL_law_1134 11 = true) := by decide +kernel
theorem dL_law_1134 : decode cL_law 1134 = .ok (.iload 5, 2) := dgq (p := 0) daL_law_1134 dbL_law_1134.1
theorem dL_law_1136 : decode cL_law 1136 = .ok (.iconst 1, 1) := dgq (p := 2) daL_law_1134 dbL_law_1134.2.1
theorem dL_law_1137 : decode cL_law 1137 = .ok (.iadd, 1) := dgq (p := 3) daL_law_1134 dbL_law_1134.2.2.1
theorem dL_law_1138 : decode cL_law 1138 = .ok (.iaload, 1) := dgq (p := 4) daL_law_1134 dbL_law_1134.2.2.2.1
theorem dL_law_1139 : decode cL_law 1139 = .ok (.aload_n 0, 1) := dgq (p := 5) daL_law_1134 dbL_law_1134.2.2.2.2.1
theorem dL_law_1140 : decode cL_law 1140 = .ok (.iload 5, 2) := dgq (p := 6) daL_law_1134 dbL_law_1134.2.2.2.2.2.1
theorem dL_law_1142 : decode cL_law 1142 = .ok (.iconst 2, 1) := dgq (p := 8) daL_law_1134 dbL_law_1134.2.2.2.2.2.2.1
theorem dL_law_1143 : decode cL_law 1143 = .ok (.iadd, 1) := dgq (p := 9) daL_law_1134 dbL_law_1134.2.2.2.2.2.2.2.1
theorem dL_law_1144 : decode cL_law 1144 = .ok (.iaload, 1) := dgq (p := 10) daL_law_1134 dbL_law_1134.2.2.2.2.2.2.2.2.1
theorem dL_law_1145 : decode cL_law 1145 = .ok (.aload_n 0, 1) := dgq (p := 11) daL_law_1134 dbL_law_1134.2.2.2.2.2.2.2.2.2
def dsL_law_1146 : ByteArray := ⟨#[21, 5, 6, 96, 46, 45, 184, 1, 32, 54, 6, 44, 42, 21, 5]⟩
theorem daL_law_1146 : agB cL_law dsL_law_1146 1146 := agB_of (n := 15) (by decide +kernel)
theorem dbL_law_1146 : (decode dsL_law_1146 0 = .ok (.iload 5, 2) ∧ okop dsL_law_1146 0 = true) ∧ (decode dsL_law_1146 2 = .ok (.iconst 3, 1) ∧ okop dsL_law_1146 2 = true) ∧ (decode dsL_law_1146 3 = .ok (.iadd, 1) ∧ okop dsL_law_1146 3 = true) ∧ (decode dsL_law_1146 4 = .ok (.iaload, 1) ∧ okop dsL_law_1146 4 = true) ∧ (decode dsL_law_1146 5 = .ok (.aload_n 3, 1) ∧ okop dsL_law_1146 5 = true) ∧ (decode dsL_law_1146 6 = .ok (.invokestatic 288, 3) ∧ okop dsL_law_1146 6 = true) ∧ (decode dsL_law_1146 9 = .ok (.istore 6, 2) ∧ okop dsL_law_1146 9 = true) ∧ (decode dsL_law_1146 11 = .ok (.aload_n 2, 1) ∧ okop dsL_law_1146 11 = true) ∧ (decode dsL_law_1146 12 = .ok (.aload_n 0, 1) ∧ okop dsL_law_1146 12 = true) ∧ (decode dsL_law_1146 13 = .ok (.iload 5, 2) ∧ okop dsL_law_1146 13 = true) := by decide +kernel
theorem dL_law_1146 : decode cL_law 1146 = .ok (.iload 5, 2) := dgq (p := 0) daL_law_1146 dbL_law_1146.1
theorem dL_law_1148 : decode cL_law 1148 = .ok (.iconst 3, 1) := dgq (p := 2) daL_law_1146 dbL_law_1146.2.1
theorem dL_law_1149 : decode cL_law 1149 = .ok (.iadd, 1) := dgq (p := 3) daL_law_1146 dbL_law_1146.2.2.1
theorem dL_law_1150 : decode cL_law 1150 = .ok (.iaload, 1) := dgq (p := 4) daL_law_1146 dbL_law_1146.2.2.2.1
theorem dL_law_1151 : decode cL_law 1151 = .ok (.aload_n 3, 1) := dgq (p := 5) daL_law_1146 dbL_law_1146.2.2.2.2.1
theorem dL_law_1152 : decode cL_law 1152 = .ok (.invokestatic 288, 3) := dgq (p := 6) daL_law_1146 dbL_law_1146.2.2.2.2.2.1
theorem dL_law_1155 : decode cL_law 1155 = .ok (.istore 6, 2) := dgq (p := 9) daL_law_1146 dbL_law_1146.2.2.2.2.2.2.1
theorem dL_law_1157 : decode cL_law 1157 = .ok (.aload_n 2, 1) := dgq (p := 11) daL_law_1146 dbL_law_1146.2.2.2.2.2.2.2.1
theorem dL_law_1158 : decode cL_law 1158 = .ok (.aload_n 0, 1) := dgq (p := 12) daL_law_1146 dbL_law_1146.2.2.2.2.2.2.2.2.1
theorem dL_law_1159 : decode cL_law 1159 = .ok (.iload 5, 2) := dgq (p := 13) daL_law_1146 dbL_law_1146.2.2.2.2.2.2.2.2.2
def dsL_law_1161 : ByteArray := ⟨#[4, 96, 46, 42, 21, 5, 5, 96, 46, 42, 21, 5]⟩
theorem daL_law_1161 : agB cL_law dsL_law_1161 1161 := agB_of (n := 12) (by decide +kernel)
theorem dbL_law_1161 : (decode dsL_law_1161 0 = .ok (.iconst 1, 1) ∧ okop dsL_law_1161 0 = true) ∧ (decode dsL_law_1161 1 = .ok (.iadd, 1) ∧ okop dsL_law_1161 1 = true) ∧ (decode dsL_law_1161 2 = .ok (.iaload, 1) ∧ okop dsL_law_1161 2 = true) ∧ (decode dsL_law_1161 3 = .ok (.aload_n 0, 1) ∧ okop dsL_law_1161 3 = true) ∧ (decode dsL_law_1161 4 = .ok (.iload 5, 2) ∧ okop dsL_law_1161 4 = true) ∧ (decode dsL_law_1161 6 = .ok (.iconst 2, 1) ∧ okop dsL_law_1161 6 = true) ∧ (decode dsL_law_1161 7 = .ok (.iadd, 1) ∧ okop dsL_law_1161 7 = true) ∧ (decode dsL_law_1161 8 = .ok (.iaload, 1) ∧ okop dsL_law_1161 8 = true) ∧ (decode dsL_law_1161 9 = .ok (.aload_n 0, 1) ∧ okop dsL_law_1161 9 = true) ∧ (decode dsL_law_1161 10 = .ok (.iload 5, 2) ∧ okop dsL_law_1161 10 = true) := by decide +kernel
theorem dL_law_1161 : decode cL_law 1161 = .ok (.iconst 1, 1) := dgq (p := 0) daL_law_1161 dbL_law_1161.1
theorem dL_law_1162 : decode cL_law 1162 = .ok (.iadd, 1) := dgq (p := 1) daL_law_1161 dbL_law_1161.2.1
theorem dL_law_1163 : decode cL_law 1163 = .ok (.iaload, 1) := dgq (p := 2) daL_law_1161 dbL_law_1161.2.2.1
theorem dL_law_1164 : decode cL_law 1164 = .ok (.aload_n 0, 1) := dgq (p := 3) daL_law_1161 dbL_law_1161.2.2.2.1
theorem dL_law_1165 : decode cL_law 1165 = .ok (.iload 5, 2) := dgq (p := 4) daL_law_1161 dbL_law_1161.2.2.2.2.1
theorem dL_law_1167 : decode cL_law 1167 = .ok (.iconst 2, 1) := dgq (p := 6) daL_law_1161 dbL_law_1161.2.2.2.2.2.1
theorem dL_law_1168 : decode cL_law 1168 = .ok (.iadd, 1) := dgq (p := 7) daL_law_1161 dbL_law_1161.2.2.2.2.2.2.1
theorem dL_law_1169 : decode cL_law 1169 = .ok (.iaload, 1) := dgq (p := 8) daL_law_1161 dbL_law_1161.2.2.2.2.2.2.2.1
theorem dL_law_1170 : decode cL_law 1170 = .ok (.aload_n 0, 1) := dgq (p := 9) daL_law_1161 dbL_law_1161.2.2.2.2.2.2.2.2.1
theorem dL_law_1171 : decode cL_law 1171 = .ok (.iload 5, 2) := dgq (p := 10) daL_law_1161 dbL_law_1161.2.2.2.2.2.2.2.2.2
def dsL_law_1173 : ByteArray := ⟨#[6, 96, 46, 182, 1, 34, 54, 7, 167, 6, 207, 43, 42, 21, 5, 4]⟩
theorem daL_law_1173 : agB cL_law dsL_law_1173 1173 := agB_of (n := 16) (by decide +kernel)
theorem dbL_law_1173 : (decode dsL_law_1173 0 = .ok (.iconst 3, 1) ∧ okop dsL_law_1173 0 = true) ∧ (decode dsL_law_1173 1 = .ok (.iadd, 1) ∧ okop dsL_law_1173 1 = true) ∧ (decode dsL_law_1173 2 = .ok (.iaload, 1) ∧ okop dsL_law_1173 2 = true) ∧ (decode dsL_law_1173 3 = .ok (.invokevirtual 290, 3) ∧ okop dsL_law_1173 3 = true) ∧ (decode dsL_law_1173 6 = .ok (.istore 7, 2) ∧ okop dsL_law_1173 6 = true) ∧ (decode dsL_law_1173 8 = .ok (.goto 1743, 3) ∧ okop dsL_law_1173 8 = true) ∧ (decode dsL_law_1173 11 = .ok (.aload_n 1, 1) ∧ okop dsL_law_1173 11 = true) ∧ (decode dsL_law_1173 12 = .ok (.aload_n 0, 1) ∧ okop dsL_law_1173 12 = true) ∧ (decode dsL_law_1173 13 = .ok (.iload 5, 2) ∧ okop dsL_law_1173 13 = true) ∧ (decode dsL_law_1173 15 = .ok (.iconst 1, 1) ∧ okop dsL_law_1173 15 = true) := by decide +kernel
theorem dL_law_1173 : decode cL_law 1173 = .ok (.iconst 3, 1) := dgq (p := 0) daL_law_1173 dbL_law_1173.1
theorem dL_law_1174 : decode cL_law 1174 = .ok (.iadd, 1) := dgq (p := 1) daL_law_1173 dbL_law_1173.2.1
theorem dL_law_1175 : decode cL_law 1175 = .ok (.iaload, 1) := dgq (p := 2) daL_law_1173 dbL_law_1173.2.2.1
theorem dL_law_1176 : decode cL_law 1176 = .ok (.invokevirtual 290, 3) := dgq (p := 3) daL_law_1173 dbL_law_1173.2.2.2.1
theorem dL_law_1179 : decode cL_law 1179 = .ok (.istore 7, 2) := dgq (p := 6) daL_law_1173 dbL_law_1173.2.2.2.2.1
theorem dL_law_1181 : decode cL_law 1181 = .ok (.goto 1743, 3) := dgq (p := 8) daL_law_1173 dbL_law_1173.2.2.2.2.2.1
theorem dL_law_1184 : decode cL_law 1184 = .ok (.aload_n 1, 1) := dgq (p := 11) daL_law_1173 dbL_law_1173.2.2.2.2.2.2.1
theorem dL_law_1185 : decode cL_law 1185 = .ok (.aload_n 0, 1) := dgq (p := 12) daL_law_1173 dbL_law_1173.2.2.2.2.2.2.2.1
theorem dL_law_1186 : decode cL_law 1186 = .ok (.iload 5, 2) := dgq (p := 13) daL_law_1173 dbL_law_1173.2.2.2.2.2.2.2.2.1
theorem dL_law_1188 : decode cL_law 1188 = .ok (.iconst 1, 1) := dgq (p := 15) daL_law_1173 dbL_law_1173.2.2.2.2.2.2.2.2.2
def dsL_law_1189 : ByteArray := ⟨#[96, 46, 42, 21, 5, 5, 96, 46, 42, 21, 5, 6]⟩
theorem daL_law_1189 : agB cL_law dsL_law_1189 1189 := agB_of (n := 12) (by decide +kernel)
theorem dbL_law_1189 : (decode dsL_law_1189 0 = .ok (.iadd, 1) ∧ okop dsL_law_1189 0 = true) ∧ (decode dsL_law_1189 1 = .ok (.iaload, 1) ∧ okop dsL_law_1189 1 = true) ∧ (decode dsL_law_1189 2 = .ok (.aload_n 0, 1) ∧ okop dsL_law_1189 2 = true) ∧ (decode dsL_law_1189 3 = .ok (.iload 5, 2) ∧ okop dsL_law_1189 3 = true) ∧ (decode dsL_law_1189 5 = .ok (.iconst 2, 1) ∧ okop dsL_law_1189 5 = true) ∧ (decode dsL_law_1189 6 = .ok (.iadd, 1) ∧ okop dsL_law_1189 6 = true) ∧ (decode dsL_law_1189 7 = .ok (.iaload, 1) ∧ okop dsL_law_1189 7 = true) ∧ (decode dsL_law_1189 8 = .ok (.aload_n 0, 1) ∧ okop dsL_law_1189 8 = true) ∧ (decode dsL_law_1189 9 = .ok (.iload 5, 2) ∧ okop dsL_law_1189 9 = true) ∧ (decode dsL_law_1189 11 = .ok (.iconst 3, 1) ∧ okop dsL_law_1189 11 = true) := by decide +kernel
theorem dL_law_1189 : decode cL_law 1189 = .ok (.iadd, 1) := dgq (p := 0) daL_law_1189 dbL_law_1189.1
theorem dL_law_1190 : decode cL_law 1190 = .ok (.iaload, 1) := dgq (p := 1) daL_law_1189 dbL_law_1189.2.1
theorem dL_law_1191 : decode cL_law 1191 = .ok (.aload_n 0, 1) := dgq (p := 2) daL_law_1189 dbL_law_1189.2.2.1
theorem dL_law_1192 : decode cL_law 1192 = .ok (.iload 5, 2) := dgq (p := 3) daL_law_1189 dbL_law_1189.2.2.2.1
theorem dL_law_1194 : decode cL_law 1194 = .ok (.iconst 2, 1) := dgq (p := 5) daL_law_1189 dbL_law_1189.2.2.2.2.1
theorem dL_law_1195 : decode cL_law 1195 = .ok (.iadd, 1) := dgq (p := 6) daL_law_1189 dbL_law_1189.2.2.2.2.2.1
theorem dL_law_1196 : decode cL_law 1196 = .ok (.iaload, 1) := dgq (p := 7) daL_law_1189 dbL_law_1189.2.2.2.2.2.2.1
theorem dL_law_1197 : decode cL_law 1197 = .ok (.aload_n 0, 1) := dgq (p := 8) daL_law_1189 dbL_law_1189.2.2.2.2.2.2.2.1
theorem dL_law_1198 : decode cL_law 1198 = .ok (.iload 5, 2) := dgq (p := 9) daL_law_1189 dbL_law_1189.2.2.2.2.2.2.2.2.1
theorem dL_law_1200 : decode cL_law 1200 = .ok (.iconst 3, 1) := dgq (p := 11) daL_law_1189 dbL_law_1189.2.2.2.2.2.2.2.2.2
def dsL_law_1201 : ByteArray := ⟨#[96, 46, 45, 184, 1, 35, 54, 6, 44, 42, 21, 5, 4, 96]⟩
theorem daL_law_1201 : agB cL_law dsL_law_1201 1201 := agB_of (n := 14) (by decide +kernel)
theorem dbL_law_1201 : (decode dsL_law_1201 0 = .ok (.iadd, 1) ∧ okop dsL_law_1201 0 = true) ∧ (decode dsL_law_1201 1 = .ok (.iaload, 1) ∧ okop dsL_law_1201 1 = true) ∧ (decode dsL_law_1201 2 = .ok (.aload_n 3, 1) ∧ okop dsL_law_1201 2 = true) ∧ (decode dsL_law_1201 3 = .ok (.invokestatic 291, 3) ∧ okop dsL_law_1201 3 = true) ∧ (decode dsL_law_1201 6 = .ok (.istore 6, 2) ∧ okop dsL_law_1201 6 = true) ∧ (decode dsL_law_1201 8 = .ok (.aload_n 2, 1) ∧ okop dsL_law_1201 8 = true) ∧ (decode dsL_law_1201 9 = .ok (.aload_n 0, 1) ∧ okop dsL_law_1201 9 = true) ∧ (decode dsL_law_1201 10 = .ok (.iload 5, 2) ∧ okop dsL_law_1201 10 = true) ∧ (decode dsL_law_1201 12 = .ok (.iconst 1, 1) ∧ okop dsL_law_1201 12 = true) ∧ (decode dsL_law_1201 13 = .ok (.iadd, 1) ∧ okop dsL_law_1201 13 = true) := by decide +kernel
theorem dL_law_1201 : decode cL_law 1201 = .ok (.iadd, 1) := dgq (p := 0) daL_law_1201 dbL_law_1201.1
theorem dL_law_1202 : decode cL_law 1202 = .ok (.iaload, 1) := dgq (p := 1) daL_law_1201 dbL_law_1201.2.1
theorem dL_law_1203 : decode cL_law 1203 = .ok (.aload_n 3, 1) := dgq (p := 2) daL_law_1201 dbL_law_1201.2.2.1
theorem dL_law_1204 : decode cL_law 1204 = .ok (.invokestatic 291, 3) := dgq (p := 3) daL_law_1201 dbL_law_1201.2.2.2.1
theorem dL_law_1207 : decode cL_law 1207 = .ok (.istore 6, 2) := dgq (p := 6) daL_law_1201 dbL_law_1201.2.2.2.2.1
theorem dL_law_1209 : decode cL_law 1209 = .ok (.aload_n 2, 1) := dgq (p := 8) daL_law_1201 dbL_law_1201.2.2.2.2.2.1
theorem dL_law_1210 : decode cL_law 1210 = .ok (.aload_n 0, 1) := dgq (p := 9) daL_law_1201 dbL_law_1201.2.2.2.2.2.2.1
theorem dL_law_1211 : decode cL_law 1211 = .ok (.iload 5, 2) := dgq (p := 10) daL_law_1201 dbL_law_1201.2.2.2.2.2.2.2.1
theorem dL_law_1213 : decode cL_law 1213 = .ok (.iconst 1, 1) := dgq (p := 12) daL_law_1201 dbL_law_1201.2.2.2.2.2.2.2.2.1
theorem dL_law_1214 : decode cL_law 1214 = .ok (.iadd, 1) := dgq (p := 13) daL_law_1201 dbL_law_1201.2.2.2.2.2.2.2.2.2
def dsL_law_1215 : ByteArray := ⟨#[46, 42, 21, 5, 5, 96, 46, 42, 21, 5, 6, 96]⟩
theorem daL_law_1215 : agB cL_law dsL_law_1215 1215 := agB_of (n := 12) (by decide +kernel)
theorem dbL_law_1215 : (decode dsL_law_1215 0 = .ok (.iaload, 1) ∧ okop dsL_law_1215 0 = true) ∧ (decode dsL_law_1215 1 = .ok (.aload_n 0, 1) ∧ okop dsL_law_1215 1 = true) ∧ (decode dsL_law_1215 2 = .ok (.iload 5, 2) ∧ okop dsL_law_1215 2 = true) ∧ (decode dsL_law_1215 4 = .ok (.iconst 2, 1) ∧ okop dsL_law_1215 4 = true) ∧ (decode dsL_law_1215 5 = .ok (.iadd, 1) ∧ okop dsL_law_1215 5 = true) ∧ (decode dsL_law_1215 6 = .ok (.iaload, 1) ∧ okop dsL_law_1215 6 = true) ∧ (decode dsL_law_1215 7 = .ok (.aload_n 0, 1) ∧ okop dsL_law_1215 7 = true) ∧ (decode dsL_law_1215 8 = .ok (.iload 5, 2) ∧ okop dsL_law_1215 8 = true) ∧ (decode dsL_law_1215 10 = .ok (.iconst 3, 1) ∧ okop dsL_law_1215 10 = true) ∧ (decode dsL_law_1215 11 = .ok (.iadd, 1) ∧ okop dsL_law_1215 11 = true) := by decide +kernel
theorem dL_law_1215 : decode cL_law 1215 = .ok (.iaload, 1) := dgq (p := 0) daL_law_1215 dbL_law_1215.1
theorem dL_law_1216 : decode cL_law 1216 = .ok (.aload_n 0, 1) := dgq (p := 1) daL_law_1215 dbL_law_1215.2.1
theorem dL_law_1217 : decode cL_law 1217 = .ok (.iload 5, 2) := dgq (p := 2) daL_law_1215 dbL_law_1215.2.2.1
theorem dL_law_1219 : decode cL_law 1219 = .ok (.iconst 2, 1) := dgq (p := 4) daL_law_1215 dbL_law_1215.2.2.2.1
theorem dL_law_1220 : decode cL_law 1220 = .ok (.iadd, 1) := dgq (p := 5) daL_law_1215 dbL_law_1215.2.2.2.2.1
theorem dL_law_1221 : decode cL_law 1221 = .ok (.iaload, 1) := dgq (p := 6) daL_law_1215 dbL_law_1215.2.2.2.2.2.1
theorem dL_law_1222 : decode cL_law 1222 = .ok (.aload_n 0, 1) := dgq (p := 7) daL_law_1215 dbL_law_1215.2.2.2.2.2.2.1
theorem dL_law_1223 : decode cL_law 1223 = .ok (.iload 5, 2) := dgq (p := 8) daL_law_1215 dbL_law_1215.2.2.2.2.2.2.2.1
theorem dL_law_1225 : decode cL_law 1225 = .ok (.iconst 3, 1) := dgq (p := 10) daL_law_1215 dbL_law_1215.2.2.2.2.2.2.2.2.1
theorem dL_law_1226 : decode cL_law 1226 = .ok (.iadd, 1) := dgq (p := 11) daL_law_1215 dbL_law_1215.2.2.2.2.2.2.2.2.2
def dsL_law_1227 : ByteArray := ⟨#[46, 182, 1, 37, 54, 7, 167, 6, 155, 43, 42, 21, 5, 4, 96, 46]⟩
theorem daL_law_1227 : agB cL_law dsL_law_1227 1227 := agB_of (n := 16) (by decide +kernel)
theorem dbL_law_1227 : (decode dsL_law_1227 0 = .ok (.iaload, 1) ∧ okop dsL_law_1227 0 = true) ∧ (decode dsL_law_1227 1 = .ok (.invokevirtual 293, 3) ∧ okop dsL_law_1227 1 = true) ∧ (decode dsL_law_1227 4 = .ok (.istore 7, 2) ∧ okop dsL_law_1227 4 = true) ∧ (decode dsL_law_1227 6 = .ok (.goto 1691, 3) ∧ okop dsL_law_1227 6 = true) ∧ (decode dsL_law_1227 9 = .ok (.aload_n 1, 1) ∧ okop dsL_law_1227 9 = true) ∧ (decode dsL_law_1227 10 = .ok (.aload_n 0, 1) ∧ okop dsL_law_1227 10 = true) ∧ (decode dsL_law_1227 11 = .ok (.iload 5, 2) ∧ okop dsL_law_1227 11 = true) ∧ (decode dsL_law_1227 13 = .ok (.iconst 1, 1) ∧ okop dsL_law_1227 13 = true) ∧ (decode dsL_law_1227 14 = .ok (.iadd, 1) ∧ okop dsL_law_1227 14 = true) ∧ (decode dsL_law_1227 15 = .ok (.iaload, 1) ∧ okop dsL_law_1227 15 = true) := by decide +kernel
theorem dL_law_1227 : decode cL_law 1227 = .ok (.iaload, 1) := dgq (p := 0) daL_law_1227 dbL_law_1227.1
theorem dL_law_1228 : decode cL_law 1228 = .ok (.invokevirtual 293, 3) := dgq (p := 1) daL_law_1227 dbL_law_1227.2.1
theorem dL_law_1231 : decode cL_law 1231 = .ok (.istore 7, 2) := dgq (p := 4) daL_law_1227 dbL_law_1227.2.2.1
theorem dL_law_1233 : decode cL_law 1233 = .ok (.goto 1691, 3) := dgq (p := 6) daL_law_1227 dbL_law_1227.2.2.2.1
theorem dL_law_1236 : decode cL_law 1236 = .ok (.aload_n 1, 1) := dgq (p := 9) daL_law_1227 dbL_law_1227.2.2.2.2.1
theorem dL_law_1237 : decode cL_law 1237 = .ok (.aload_n 0, 1) := dgq (p := 10) daL_law_1227 dbL_law_1227.2.2.2.2.2.1
theorem dL_law_1238 : decode cL_law 1238 = .ok (.iload 5, 2) := dgq (p := 11) daL_law_1227 dbL_law_1227.2.2.2.2.2.2.1
theorem dL_law_1240 : decode cL_law 1240 = .ok (.iconst 1, 1) := dgq (p := 13) daL_law_1227 dbL_law_1227.2.2.2.2.2.2.2.1
theorem dL_law_1241 : decode cL_law 1241 = .ok (.iadd, 1) := dgq (p := 14) daL_law_1227 dbL_law_1227.2.2.2.2.2.2.2.2.1
theorem dL_law_1242 : decode cL_law 1242 = .ok (.iaload, 1) := dgq (p := 15) daL_law_1227 dbL_law_1227.2.2.2.2.2.2.2.2.2
def dsL_law_1243 : ByteArray := ⟨#[42, 21, 5, 5, 96, 46, 45, 184, 1, 38, 54, 6, 44, 42]⟩
theorem daL_law_1243 : agB cL_law dsL_law_1243 1243 := agB_of (n := 14) (by decide +kernel)
theorem dbL_law_1243 : (decode dsL_law_1243 0 = .ok (.aload_n 0, 1) ∧ okop dsL_law_1243 0 = true) ∧ (decode dsL_law_1243 1 = .ok (.iload 5, 2) ∧ okop dsL_law_1243 1 = true) ∧ (decode dsL_law_1243 3 = .ok (.iconst 2, 1) ∧ okop dsL_law_1243 3 = true) ∧ (decode dsL_law_1243 4 = .ok (.iadd, 1) ∧ okop dsL_law_1243 4 = true) ∧ (decode dsL_law_1243 5 = .ok (.iaload, 1) ∧ okop dsL_law_1243 5 = true) ∧ (decode dsL_law_1243 6 = .ok (.aload_n 3, 1) ∧ okop dsL_law_1243 6 = true) ∧ (decode dsL_law_1243 7 = .ok (.invokestatic 294, 3) ∧ okop dsL_law_1243 7 = true) ∧ (decode dsL_law_1243 10 = .ok (.istore 6, 2) ∧ okop dsL_law_1243 10 = true) ∧ (decode dsL_law_1243 12 = .ok (.aload_n 2, 1) ∧ okop dsL_law_1243 12 = true) ∧ (decode dsL_law_1243 13 = .ok (.aload_n 0, 1) ∧ okop dsL_law_1243 13 = true) := by decide +kernel
theorem dL_law_1243 : decode cL_law 1243 = .ok (.aload_n 0, 1) := dgq (p := 0) daL_law_1243 dbL_law_1243.1
theorem dL_law_1244 : decode cL_law 1244 = .ok (.iload 5, 2) := dgq (p := 1) daL_law_1243 dbL_law_1243.2.1
theorem dL_law_1246 : decode cL_law 1246 = .ok (.iconst 2, 1) := dgq (p := 3) daL_law_1243 dbL_law_1243.2.2.1
theorem dL_law_1247 : decode cL_law 1247 = .ok (.iadd, 1) := dgq (p := 4) daL_law_1243 dbL_law_1243.2.2.2.1
theorem dL_law_1248 : decode cL_law 1248 = .ok (.iaload, 1) := dgq (p := 5) daL_law_1243 dbL_law_1243.2.2.2.2.1
theorem dL_law_1249 : decode cL_law 1249 = .ok (.aload_n 3, 1) := dgq (p := 6) daL_law_1243 dbL_law_1243.2.2.2.2.2.1
theorem dL_law_1250 : decode cL_law 1250 = .ok (.invokestatic 294, 3) := dgq (p := 7) daL_law_1243 dbL_law_1243.2.2.2.2.2.2.1
theorem dL_law_1253 : decode cL_law 1253 = .ok (.istore 6, 2) := dgq (p := 10) daL_law_1243 dbL_law_1243.2.2.2.2.2.2.2.1
theorem dL_law_1255 : decode cL_law 1255 = .ok (.aload_n 2, 1) := dgq (p := 12) daL_law_1243 dbL_law_1243.2.2.2.2.2.2.2.2.1
theorem dL_law_1256 : decode cL_law 1256 = .ok (.aload_n 0, 1) := dgq (p := 13) daL_law_1243 dbL_law_1243.2.2.2.2.2.2.2.2.2
def dsL_law_1257 : ByteArray := ⟨#[21, 5, 4, 96, 46, 42, 21, 5, 5, 96, 46, 182, 1, 40]⟩
theorem daL_law_1257 : agB cL_law dsL_law_1257 1257 := agB_of (n := 14) (by decide +kernel)
theorem dbL_law_1257 : (decode dsL_law_1257 0 = .ok (.iload 5, 2) ∧ okop dsL_law_1257 0 = true) ∧ (decode dsL_law_1257 2 = .ok (.iconst 1, 1) ∧ okop dsL_law_1257 2 = true) ∧ (decode dsL_law_1257 3 = .ok (.iadd, 1) ∧ okop dsL_law_1257 3 = true) ∧ (decode dsL_law_1257 4 = .ok (.iaload, 1) ∧ okop dsL_law_1257 4 = true) ∧ (decode dsL_law_1257 5 = .ok (.aload_n 0, 1) ∧ okop dsL_law_1257 5 = true) ∧ (decode dsL_law_1257 6 = .ok (.iload 5, 2) ∧ okop dsL_law_1257 6 = true) ∧ (decode dsL_law_1257 8 = .ok (.iconst 2, 1) ∧ okop dsL_law_1257 8 = true) ∧ (decode dsL_law_1257 9 = .ok (.iadd, 1) ∧ okop dsL_law_1257 9 = true) ∧ (decode dsL_law_1257 10 = .ok (.iaload, 1) ∧ okop dsL_law_1257 10 = true) ∧ (decode dsL_law_1257 11 = .ok (.invokevirtual 296, 3) ∧ okop dsL_law_1257 11 = true) := by decide +kernel
theorem dL_law_1257 : decode cL_law 1257 = .ok (.iload 5, 2) := dgq (p := 0) daL_law_1257 dbL_law_1257.1
theorem dL_law_1259 : decode cL_law 1259 = .ok (.iconst 1, 1) := dgq (p := 2) daL_law_1257 dbL_law_1257.2.1
theorem dL_law_1260 : decode cL_law 1260 = .ok (.iadd, 1) := dgq (p := 3) daL_law_1257 dbL_law_1257.2.2.1
theorem dL_law_1261 : decode cL_law 1261 = .ok (.iaload, 1) := dgq (p := 4) daL_law_1257 dbL_law_1257.2.2.2.1
theorem dL_law_1262 : decode cL_law 1262 = .ok (.aload_n 0, 1) := dgq (p := 5) daL_law_1257 dbL_law_1257.2.2.2.2.1
theorem dL_law_1263 : decode cL_law 1263 = .ok (.iload 5, 2) := dgq (p := 6) daL_law_1257 dbL_law_1257.2.2.2.2.2.1
theorem dL_law_1265 : decode cL_law 1265 = .ok (.iconst 2, 1) := dgq (p := 8) daL_law_1257 dbL_law_1257.2.2.2.2.2.2.1
theorem dL_law_1266 : decode cL_law 1266 = .ok (.iadd, 1) := dgq (p := 9) daL_law_1257 dbL_law_1257.2.2.2.2.2.2.2.1
theorem dL_law_1267 : decode cL_law 1267 = .ok (.iaload, 1) := dgq (p := 10) daL_law_1257 dbL_law_1257.2.2.2.2.2.2.2.2.1
theorem dL_law_1268 : decode cL_law 1268 = .ok (.invokevirtual 296, 3) := dgq (p := 11) daL_law_1257 dbL_law_1257.2.2.2.2.2.2.2.2.2
def dsL_law_1271 : ByteArray := ⟨#[54, 7, 167, 6, 115, 43, 42, 21, 5, 4, 96, 46, 42, 21, 5]⟩
theorem daL_law_1271 : agB cL_law dsL_law_1271 1271 := agB_of (n := 15) (by decide +kernel)
theorem dbL_law_1271 : (decode dsL_law_1271 0 = .ok (.istore 7, 2) ∧ okop dsL_law_1271 0 = true) ∧ (decode dsL_law_1271 2 = .ok (.goto 1651, 3) ∧ okop dsL_law_1271 2 = true) ∧ (decode dsL_law_1271 5 = .ok (.aload_n 1, 1) ∧ okop dsL_law_1271 5 = true) ∧ (decode dsL_law_1271 6 = .ok (.aload_n 0, 1) ∧ okop dsL_law_1271 6 = true) ∧ (decode dsL_law_1271 7 = .ok (.iload 5, 2) ∧ okop dsL_law_1271 7 = true) ∧ (decode dsL_law_1271 9 = .ok (.iconst 1, 1) ∧ okop dsL_law_1271 9 = true) ∧ (decode dsL_law_1271 10 = .ok (.iadd, 1) ∧ okop dsL_law_1271 10 = true) ∧ (decode dsL_law_1271 11 = .ok (.iaload, 1) ∧ okop dsL_law_1271 11 = true) ∧ (decode dsL_law_1271 12 = .ok (.aload_n 0, 1) ∧ okop dsL_law_1271 12 = true) ∧ (decode dsL_law_1271 13 = .ok (.iload 5, 2) ∧ okop dsL_law_1271 13 = true) := by decide +kernel
theorem dL_law_1271 : decode cL_law 1271 = .ok (.istore 7, 2) := dgq (p := 0) daL_law_1271 dbL_law_1271.1
theorem dL_law_1273 : decode cL_law 1273 = .ok (.goto 1651, 3) := dgq (p := 2) daL_law_1271 dbL_law_1271.2.1
theorem dL_law_1276 : decode cL_law 1276 = .ok (.aload_n 1, 1) := dgq (p := 5) daL_law_1271 dbL_law_1271.2.2.1
theorem dL_law_1277 : decode cL_law 1277 = .ok (.aload_n 0, 1) := dgq (p := 6) daL_law_1271 dbL_law_1271.2.2.2.1
theorem dL_law_1278 : decode cL_law 1278 = .ok (.iload 5, 2) := dgq (p := 7) daL_law_1271 dbL_law_1271.2.2.2.2.1
theorem dL_law_1280 : decode cL_law 1280 = .ok (.iconst 1, 1) := dgq (p := 9) daL_law_1271 dbL_law_1271.2.2.2.2.2.1
theorem dL_law_1281 : decode cL_law 1281 = .ok (.iadd, 1) := dgq (p := 10) daL_law_1271 dbL_law_1271.2.2.2.2.2.2.1
theorem dL_law_1282 : decode cL_law 1282 = .ok (.iaload, 1) := dgq (p := 11) daL_law_1271 dbL_law_1271.2.2.2.2.2.2.2.1
theorem dL_law_1283 : decode cL_law 1283 = .ok (.aload_n 0, 1) := dgq (p := 12) daL_law_1271 dbL_law_1271.2.2.2.2.2.2.2.2.1
theorem dL_law_1284 : decode cL_law 1284 = .ok (.iload 5, 2) := dgq (p := 13) daL_law_1271 dbL_law_1271.2.2.2.2.2.2.2.2.2
def dsL_law_1286 : ByteArray := ⟨#[5, 96, 46, 42, 21, 5, 6, 96, 46, 42, 21, 5]⟩
theorem daL_law_1286 : agB cL_law dsL_law_1286 1286 := agB_of (n := 12) (by decide +kernel)
theorem dbL_law_1286 : (decode dsL_law_1286 0 = .ok (.iconst 2, 1) ∧ okop dsL_law_1286 0 = true) ∧ (decode dsL_law_1286 1 = .ok (.iadd, 1) ∧ okop dsL_law_1286 1 = true) ∧ (decode dsL_law_1286 2 = .ok (.iaload, 1) ∧ okop dsL_law_1286 2 = true) ∧ (decode dsL_law_1286 3 = .ok (.aload_n 0, 1) ∧ okop dsL_law_1286 3 = true) ∧ (decode dsL_law_1286 4 = .ok (.iload 5, 2) ∧ okop dsL_law_1286 4 = true) ∧ (decode dsL_law_1286 6 = .ok (.iconst 3, 1) ∧ okop dsL_law_1286 6 = true) ∧ (decode dsL_law_1286 7 = .ok (.iadd, 1) ∧ okop dsL_law_1286 7 = true) ∧ (decode dsL_law_1286 8 = .ok (.iaload, 1) ∧ okop dsL_law_1286 8 = true) ∧ (decode dsL_law_1286 9 = .ok (.aload_n 0, 1) ∧ okop dsL_law_1286 9 = true) ∧ (decode dsL_law_1286 10 = .ok (.iload 5, 2) ∧ okop dsL_law_1286 10 = true) := by decide +kernel
theorem dL_law_1286 : decode cL_law 1286 = .ok (.iconst 2, 1) := dgq (p := 0) daL_law_1286 dbL_law_1286.1
theorem dL_law_1287 : decode cL_law 1287 = .ok (.iadd, 1) := dgq (p := 1) daL_law_1286 dbL_law_1286.2.1
theorem dL_law_1288 : decode cL_law 1288 = .ok (.iaload, 1) := dgq (p := 2) daL_law_1286 dbL_law_1286.2.2.1
theorem dL_law_1289 : decode cL_law 1289 = .ok (.aload_n 0, 1) := dgq (p := 3) daL_law_1286 dbL_law_1286.2.2.2.1
theorem dL_law_1290 : decode cL_law 1290 = .ok (.iload 5, 2) := dgq (p := 4) daL_law_1286 dbL_law_1286.2.2.2.2.1
theorem dL_law_1292 : decode cL_law 1292 = .ok (.iconst 3, 1) := dgq (p := 6) daL_law_1286 dbL_law_1286.2.2.2.2.2.1
theorem dL_law_1293 : decode cL_law 1293 = .ok (.iadd, 1) := dgq (p := 7) daL_law_1286 dbL_law_1286.2.2.2.2.2.2.1
theorem dL_law_1294 : decode cL_law 1294 = .ok (.iaload, 1) := dgq (p := 8) daL_law_1286 dbL_law_1286.2.2.2.2.2.2.2.1
theorem dL_law_1295 : decode cL_law 1295 = .ok (.aload_n 0, 1) := dgq (p := 9) daL_law_1286 dbL_law_1286.2.2.2.2.2.2.2.2.1
theorem dL_law_1296 : decode cL_law 1296 = .ok (.iload 5, 2) := dgq (p := 10) daL_law_1286 dbL_law_1286.2.2.2.2.2.2.2.2.2
def dsL_law_1298 : ByteArray := ⟨#[7, 96, 46, 45, 184, 1, 41, 54, 6, 44, 42, 21, 5, 4]⟩
theorem daL_law_1298 : agB cL_law dsL_law_1298 1298 := agB_of (n := 14) (by decide +kernel)
theorem dbL_law_1298 : (decode dsL_law_1298 0 = .ok (.iconst 4, 1) ∧ okop dsL_law_1298 0 = true) ∧ (decode dsL_law_1298 1 = .ok (.iadd, 1) ∧ okop dsL_law_1298 1 = true) ∧ (decode dsL_law_1298 2 = .ok (.iaload, 1) ∧ okop dsL_law_1298 2 = true) ∧ (decode dsL_law_1298 3 = .ok (.aload_n 3, 1) ∧ okop dsL_law_1298 3 = true) ∧ (decode dsL_law_1298 4 = .ok (.invokestatic 297, 3) ∧ okop dsL_law_1298 4 = true) ∧ (decode dsL_law_1298 7 = .ok (.istore 6, 2) ∧ okop dsL_law_1298 7 = true) ∧ (decode dsL_law_1298 9 = .ok (.aload_n 2, 1) ∧ okop dsL_law_1298 9 = true) ∧ (decode dsL_law_1298 10 = .ok (.aload_n 0, 1) ∧ okop dsL_law_1298 10 = true) ∧ (decode dsL_law_1298 11 = .ok (.iload 5, 2) ∧ okop dsL_law_1298 11 = true) ∧ (decode dsL_law_1298 13 = .ok (.iconst 1, 1) ∧ okop dsL_law_1298 13 = true) := by decide +kernel
theorem dL_law_1298 : decode cL_law 1298 = .ok (.iconst 4, 1) := dgq (p := 0) daL_law_1298 dbL_law_1298.1
theorem dL_law_1299 : decode cL_law 1299 = .ok (.iadd, 1) := dgq (p := 1) daL_law_1298 dbL_law_1298.2.1
theorem dL_law_1300 : decode cL_law 1300 = .ok (.iaload, 1) := dgq (p := 2) daL_law_1298 dbL_law_1298.2.2.1
theorem dL_law_1301 : decode cL_law 1301 = .ok (.aload_n 3, 1) := dgq (p := 3) daL_law_1298 dbL_law_1298.2.2.2.1
theorem dL_law_1302 : decode cL_law 1302 = .ok (.invokestatic 297, 3) := dgq (p := 4) daL_law_1298 dbL_law_1298.2.2.2.2.1
theorem dL_law_1305 : decode cL_law 1305 = .ok (.istore 6, 2) := dgq (p := 7) daL_law_1298 dbL_law_1298.2.2.2.2.2.1
theorem dL_law_1307 : decode cL_law 1307 = .ok (.aload_n 2, 1) := dgq (p := 9) daL_law_1298 dbL_law_1298.2.2.2.2.2.2.1
theorem dL_law_1308 : decode cL_law 1308 = .ok (.aload_n 0, 1) := dgq (p := 10) daL_law_1298 dbL_law_1298.2.2.2.2.2.2.2.1
theorem dL_law_1309 : decode cL_law 1309 = .ok (.iload 5, 2) := dgq (p := 11) daL_law_1298 dbL_law_1298.2.2.2.2.2.2.2.2.1
theorem dL_law_1311 : decode cL_law 1311 = .ok (.iconst 1, 1) := dgq (p := 13) daL_law_1298 dbL_law_1298.2.2.2.2.2.2.2.2.2
def dsL_law_1312 : ByteArray := ⟨#[96, 46, 42, 21, 5, 5, 96, 46, 42, 21, 5, 6]⟩
theorem daL_law_1312 : agB cL_law dsL_law_1312 1312 := agB_of (n := 12) (by decide +kernel)
theorem dbL_law_1312 : (decode dsL_law_1312 0 = .ok (.iadd, 1) ∧ okop dsL_law_1312 0 = true) ∧ (decode dsL_law_1312 1 = .ok (.iaload, 1) ∧ okop dsL_law_1312 1 = true) ∧ (decode dsL_law_1312 2 = .ok (.aload_n 0, 1) ∧ okop dsL_law_1312 2 = true) ∧ (decode dsL_law_1312 3 = .ok (.iload 5, 2) ∧ okop dsL_law_1312 3 = true) ∧ (decode dsL_law_1312 5 = .ok (.iconst 2, 1) ∧ okop dsL_law_1312 5 = true) ∧ (decode dsL_law_1312 6 = .ok (.iadd, 1) ∧ okop dsL_law_1312 6 = true) ∧ (decode dsL_law_1312 7 = .ok (.iaload, 1) ∧ okop dsL_law_1312 7 = true) ∧ (decode dsL_law_1312 8 = .ok (.aload_n 0, 1) ∧ okop dsL_law_1312 8 = true) ∧ (decode dsL_law_1312 9 = .ok (.iload 5, 2) ∧ okop dsL_law_1312 9 = true) ∧ (decode dsL_law_1312 11 = .ok (.iconst 3, 1) ∧ okop dsL_law_1312 11 = true) := by decide +kernel
theorem dL_law_1312 : decode cL_law 1312 = .ok (.iadd, 1) := dgq (p := 0) daL_law_1312 dbL_law_1312.1
theorem dL_law_1313 : decode cL_law 1313 = .ok (.iaload, 1) := dgq (p := 1) daL_law_1312 dbL_law_1312.2.1
theorem dL_law_1314 : decode cL_law 1314 = .ok (.aload_n 0, 1) := dgq (p := 2) daL_law_1312 dbL_law_1312.2.2.1
theorem dL_law_1315 : decode cL_law 1315 = .ok (.iload 5, 2) := dgq (p := 3) daL_law_1312 dbL_law_1312.2.2.2.1
theorem dL_law_1317 : decode cL_law 1317 = .ok (.iconst 2, 1) := dgq (p := 5) daL_law_1312 dbL_law_1312.2.2.2.2.1
theorem dL_law_1318 : decode cL_law 1318 = .ok (.iadd, 1) := dgq (p := 6) daL_law_1312 dbL_law_1312.2.2.2.2.2.1
theorem dL_law_1319 : decode cL_law 1319 = .ok (.iaload, 1) := dgq (p := 7) daL_law_1312 dbL_law_1312.2.2.2.2.2.2.1
theorem dL_law_1320 : decode cL_law 1320 = .ok (.aload_n 0, 1) := dgq (p := 8) daL_law_1312 dbL_law_1312.2.2.2.2.2.2.2.1
theorem dL_law_1321 : decode cL_law 1321 = .ok (.iload 5, 2) := dgq (p := 9) daL_law_1312 dbL_law_1312.2.2.2.2.2.2.2.2.1
theorem dL_law_1323 : decode cL_law 1323 = .ok (.iconst 3, 1) := dgq (p := 11) daL_law_1312 dbL_law_1312.2.2.2.2.2.2.2.2.2
def dsL_law_1324 : ByteArray := ⟨#[96, 46, 42, 21, 5, 7, 96, 46, 182, 1, 43, 54, 7, 167, 6, 51]⟩
theorem daL_law_1324 : agB cL_law dsL_law_1324 1324 := agB_of (n := 16) (by decide +kernel)
theorem dbL_law_1324 : (decode dsL_law_1324 0 = .ok (.iadd, 1) ∧ okop dsL_law_1324 0 = true) ∧ (decode dsL_law_1324 1 = .ok (.iaload, 1) ∧ okop dsL_law_1324 1 = true) ∧ (decode dsL_law_1324 2 = .ok (.aload_n 0, 1) ∧ okop dsL_law_1324 2 = true) ∧ (decode dsL_law_1324 3 = .ok (.iload 5, 2) ∧ okop dsL_law_1324 3 = true) ∧ (decode dsL_law_1324 5 = .ok (.iconst 4, 1) ∧ okop dsL_law_1324 5 = true) ∧ (decode dsL_law_1324 6 = .ok (.iadd, 1) ∧ okop dsL_law_1324 6 = true) ∧ (decode dsL_law_1324 7 = .ok (.iaload, 1) ∧ okop dsL_law_1324 7 = true) ∧ (decode dsL_law_1324 8 = .ok (.invokevirtual 299, 3) ∧ okop dsL_law_1324 8 = true) ∧ (decode dsL_law_1324 11 = .ok (.istore 7, 2) ∧ okop dsL_law_1324 11 = true) ∧ (decode dsL_law_1324 13 = .ok (.goto 1587, 3) ∧ okop dsL_law_1324 13 = true) := by decide +kernel
theorem dL_law_1324 : decode cL_law 1324 = .ok (.iadd, 1) := dgq (p := 0) daL_law_1324 dbL_law_1324.1
theorem dL_law_1325 : decode cL_law 1325 = .ok (.iaload, 1) := dgq (p := 1) daL_law_1324 dbL_law_1324.2.1
theorem dL_law_1326 : decode cL_law 1326 = .ok (.aload_n 0, 1) := dgq (p := 2) daL_law_1324 dbL_law_1324.2.2.1
theorem dL_law_1327 : decode cL_law 1327 = .ok (.iload 5, 2) := dgq (p := 3) daL_law_1324 dbL_law_1324.2.2.2.1
theorem dL_law_1329 : decode cL_law 1329 = .ok (.iconst 4, 1) := dgq (p := 5) daL_law_1324 dbL_law_1324.2.2.2.2.1
theorem dL_law_1330 : decode cL_law 1330 = .ok (.iadd, 1) := dgq (p := 6) daL_law_1324 dbL_law_1324.2.2.2.2.2.1
theorem dL_law_1331 : decode cL_law 1331 = .ok (.iaload, 1) := dgq (p := 7) daL_law_1324 dbL_law_1324.2.2.2.2.2.2.1
theorem dL_law_1332 : decode cL_law 1332 = .ok (.invokevirtual 299, 3) := dgq (p := 8) daL_law_1324 dbL_law_1324.2.2.2.2.2.2.2.1
theorem dL_law_1335 : decode cL_law 1335 = .ok (.istore 7, 2) := dgq (p := 11) daL_law_1324 dbL_law_1324.2.2.2.2.2.2.2.2.1
theorem dL_law_1337 : decode cL_law 1337 = .ok (.goto 1587, 3) := dgq (p := 13) daL_law_1324 dbL_law_1324.2.2.2.2.2.2.2.2.2
def dsL_law_1340 : ByteArray := ⟨#[43, 42, 21, 5, 4, 96, 46, 42, 21, 5, 5, 96]⟩
theorem daL_law_1340 : agB cL_law dsL_law_1340 1340 := agB_of (n := 12) (by decide +kernel)
theorem dbL_law_1340 : (decode dsL_law_1340 0 = .ok (.aload_n 1, 1) ∧ okop dsL_law_1340 0 = true) ∧ (decode dsL_law_1340 1 = .ok (.aload_n 0, 1) ∧ okop dsL_law_1340 1 = true) ∧ (decode dsL_law_1340 2 = .ok (.iload 5, 2) ∧ okop dsL_law_1340 2 = true) ∧ (decode dsL_law_1340 4 = .ok (.iconst 1, 1) ∧ okop dsL_law_1340 4 = true) ∧ (decode dsL_law_1340 5 = .ok (.iadd, 1) ∧ okop dsL_law_1340 5 = true) ∧ (decode dsL_law_1340 6 = .ok (.iaload, 1) ∧ okop dsL_law_1340 6 = true) ∧ (decode dsL_law_1340 7 = .ok (.aload_n 0, 1) ∧ okop dsL_law_1340 7 = true) ∧ (decode dsL_law_1340 8 = .ok (.iload 5, 2) ∧ okop dsL_law_1340 8 = true) ∧ (decode dsL_law_1340 10 = .ok (.iconst 2, 1) ∧ okop dsL_law_1340 10 = true) ∧ (decode dsL_law_1340 11 = .ok (.iadd, 1) ∧ okop dsL_law_1340 11 = true) := by decide +kernel
theorem dL_law_1340 : decode cL_law 1340 = .ok (.aload_n 1, 1) := dgq (p := 0) daL_law_1340 dbL_law_1340.1
theorem dL_law_1341 : decode cL_law 1341 = .ok (.aload_n 0, 1) := dgq (p := 1) daL_law_1340 dbL_law_1340.2.1
theorem dL_law_1342 : decode cL_law 1342 = .ok (.iload 5, 2) := dgq (p := 2) daL_law_1340 dbL_law_1340.2.2.1
theorem dL_law_1344 : decode cL_law 1344 = .ok (.iconst 1, 1) := dgq (p := 4) daL_law_1340 dbL_law_1340.2.2.2.1
theorem dL_law_1345 : decode cL_law 1345 = .ok (.iadd, 1) := dgq (p := 5) daL_law_1340 dbL_law_1340.2.2.2.2.1
theorem dL_law_1346 : decode cL_law 1346 = .ok (.iaload, 1) := dgq (p := 6) daL_law_1340 dbL_law_1340.2.2.2.2.2.1
theorem dL_law_1347 : decode cL_law 1347 = .ok (.aload_n 0, 1) := dgq (p := 7) daL_law_1340 dbL_law_1340.2.2.2.2.2.2.1
theorem dL_law_1348 : decode cL_law 1348 = .ok (.iload 5, 2) := dgq (p := 8) daL_law_1340 dbL_law_1340.2.2.2.2.2.2.2.1
theorem dL_law_1350 : decode cL_law 1350 = .ok (.iconst 2, 1) := dgq (p := 10) daL_law_1340 dbL_law_1340.2.2.2.2.2.2.2.2.1
theorem dL_law_1351 : decode cL_law 1351 = .ok (.iadd, 1) := dgq (p := 11) daL_law_1340 dbL_law_1340.2.2.2.2.2.2.2.2.2
def dsL_law_1352 : ByteArray := ⟨#[46, 42, 21, 5, 6, 96, 46, 45, 184, 1, 44, 54, 6, 44]⟩
theorem daL_law_1352 : agB cL_law dsL_law_1352 1352 := agB_of (n := 14) (by decide +kernel)
theorem dbL_law_1352 : (decode dsL_law_1352 0 = .ok (.iaload, 1) ∧ okop dsL_law_1352 0 = true) ∧ (decode dsL_law_1352 1 = .ok (.aload_n 0, 1) ∧ okop dsL_law_1352 1 = true) ∧ (decode dsL_law_1352 2 = .ok (.iload 5, 2) ∧ okop dsL_law_1352 2 = true) ∧ (decode dsL_law_1352 4 = .ok (.iconst 3, 1) ∧ okop dsL_law_1352 4 = true) ∧ (decode dsL_law_1352 5 = .ok (.iadd, 1) ∧ okop dsL_law_1352 5 = true) ∧ (decode dsL_law_1352 6 = .ok (.iaload, 1) ∧ okop dsL_law_1352 6 = true) ∧ (decode dsL_law_1352 7 = .ok (.aload_n 3, 1) ∧ okop dsL_law_1352 7 = true) ∧ (decode dsL_law_1352 8 = .ok (.invokestatic 300, 3) ∧ okop dsL_law_1352 8 = true) ∧ (decode dsL_law_1352 11 = .ok (.istore 6, 2) ∧ okop dsL_law_1352 11 = true) ∧ (decode dsL_law_1352 13 = .ok (.aload_n 2, 1) ∧ okop dsL_law_1352 13 = true) := by decide +kernel
theorem dL_law_1352 : decode cL_law 1352 = .ok (.iaload, 1) := dgq (p := 0) daL_law_1352 dbL_law_1352.1
theorem dL_law_1353 : decode cL_law 1353 = .ok (.aload_n 0, 1) := dgq (p := 1) daL_law_1352 dbL_law_1352.2.1
theorem dL_law_1354 : decode cL_law 1354 = .ok (.iload 5, 2) := dgq (p := 2) daL_law_1352 dbL_law_1352.2.2.1
theorem dL_law_1356 : decode cL_law 1356 = .ok (.iconst 3, 1) := dgq (p := 4) daL_law_1352 dbL_law_1352.2.2.2.1
theorem dL_law_1357 : decode cL_law 1357 = .ok (.iadd, 1) := dgq (p := 5) daL_law_1352 dbL_law_1352.2.2.2.2.1
theorem dL_law_1358 : decode cL_law 1358 = .ok (.iaload, 1) := dgq (p := 6) daL_law_1352 dbL_law_1352.2.2.2.2.2.1
theorem dL_law_1359 : decode cL_law 1359 = .ok (.aload_n 3, 1) := dgq (p := 7) daL_law_1352 dbL_law_1352.2.2.2.2.2.2.1
theorem dL_law_1360 : decode cL_law 1360 = .ok (.invokestatic 300, 3) := dgq (p := 8) daL_law_1352 dbL_law_1352.2.2.2.2.2.2.2.1
theorem dL_law_1363 : decode cL_law 1363 = .ok (.istore 6, 2) := dgq (p := 11) daL_law_1352 dbL_law_1352.2.2.2.2.2.2.2.2.1
theorem dL_law_1365 : decode cL_law 1365 = .ok (.aload_n 2, 1) := dgq (p := 13) daL_law_1352 dbL_law_1352.2.2.2.2.2.2.2.2.2
def dsL_law_1366 : ByteArray := ⟨#[42, 21, 5, 4, 96, 46, 42, 21, 5, 5, 96, 46]⟩
theorem daL_law_1366 : agB cL_law dsL_law_1366 1366 := agB_of (n := 12) (by decide +kernel)
theorem dbL_law_1366 : (decode dsL_law_1366 0 = .ok (.aload_n 0, 1) ∧ okop dsL_law_1366 0 = true) ∧ (decode dsL_law_1366 1 = .ok (.iload 5, 2) ∧ okop dsL_law_1366 1 = true) ∧ (decode dsL_law_1366 3 = .ok (.iconst 1, 1) ∧ okop dsL_law_1366 3 = true) ∧ (decode dsL_law_1366 4 = .ok (.iadd, 1) ∧ okop dsL_law_1366 4 = true) ∧ (decode dsL_law_1366 5 = .ok (.iaload, 1) ∧ okop dsL_law_1366 5 = true) ∧ (decode dsL_law_1366 6 = .ok (.aload_n 0, 1) ∧ okop dsL_law_1366 6 = true) ∧ (decode dsL_law_1366 7 = .ok (.iload 5, 2) ∧ okop dsL_law_1366 7 = true) ∧ (decode dsL_law_1366 9 = .ok (.iconst 2, 1) ∧ okop dsL_law_1366 9 = true) ∧ (decode dsL_law_1366 10 = .ok (.iadd, 1) ∧ okop dsL_law_1366 10 = true) ∧ (decode dsL_law_1366 11 = .ok (.iaload, 1) ∧ okop dsL_law_1366 11 = true) := by decide +kernel
theorem dL_law_1366 : decode cL_law 1366 = .ok (.aload_n 0, 1) := dgq (p := 0) daL_law_1366 dbL_law_1366.1
theorem dL_law_1367 : decode cL_law 1367 = .ok (.iload 5, 2) := dgq (p := 1) daL_law_1366 dbL_law_1366.2.1
theorem dL_law_1369 : decode cL_law 1369 = .ok (.iconst 1, 1) := dgq (p := 3) daL_law_1366 dbL_law_1366.2.2.1
theorem dL_law_1370 : decode cL_law 1370 = .ok (.iadd, 1) := dgq (p := 4) daL_law_1366 dbL_law_1366.2.2.2.1
theorem dL_law_1371 : decode cL_law 1371 = .ok (.iaload, 1) := dgq (p := 5) daL_law_1366 dbL_law_1366.2.2.2.2.1
theorem dL_law_1372 : decode cL_law 1372 = .ok (.aload_n 0, 1) := dgq (p := 6) daL_law_1366 dbL_law_1366.2.2.2.2.2.1
theorem dL_law_1373 : decode cL_law 1373 = .ok (.iload 5, 2) := dgq (p := 7) daL_law_1366 dbL_law_1366.2.2.2.2.2.2.1
theorem dL_law_1375 : decode cL_law 1375 = .ok (.iconst 2, 1) := dgq (p := 9) daL_law_1366 dbL_law_1366.2.2.2.2.2.2.2.1
theorem dL_law_1376 : decode cL_law 1376 = .ok (.iadd, 1) := dgq (p := 10) daL_law_1366 dbL_law_1366.2.2.2.2.2.2.2.2.1
theorem dL_law_1377 : decode cL_law 1377 = .ok (.iaload, 1) := dgq (p := 11) daL_law_1366 dbL_law_1366.2.2.2.2.2.2.2.2.2
def dsL_law_1378 : ByteArray := ⟨#[42, 21, 5, 6, 96, 46, 182, 1, 46, 54, 7, 167, 5, 255, 43, 42]⟩
theorem daL_law_1378 : agB cL_law dsL_law_1378 1378 := agB_of (n := 16) (by decide +kernel)
theorem dbL_law_1378 : (decode dsL_law_1378 0 = .ok (.aload_n 0, 1) ∧ okop dsL_law_1378 0 = true) ∧ (decode dsL_law_1378 1 = .ok (.iload 5, 2) ∧ okop dsL_law_1378 1 = true) ∧ (decode dsL_law_1378 3 = .ok (.iconst 3, 1) ∧ okop dsL_law_1378 3 = true) ∧ (decode dsL_law_1378 4 = .ok (.iadd, 1) ∧ okop dsL_law_1378 4 = true) ∧ (decode dsL_law_1378 5 = .ok (.iaload, 1) ∧ okop dsL_law_1378 5 = true) ∧ (decode dsL_law_1378 6 = .ok (.invokevirtual 302, 3) ∧ okop dsL_law_1378 6 = true) ∧ (decode dsL_law_1378 9 = .ok (.istore 7, 2) ∧ okop dsL_law_1378 9 = true) ∧ (decode dsL_law_1378 11 = .ok (.goto 1535, 3) ∧ okop dsL_law_1378 11 = true) ∧ (decode dsL_law_1378 14 = .ok (.aload_n 1, 1) ∧ okop dsL_law_1378 14 = true) ∧ (decode dsL_law_1378 15 = .ok (.aload_n 0, 1) ∧ okop dsL_law_1378 15 = true) := by decide +kernel
theorem dL_law_1378 : decode cL_law 1378 = .ok (.aload_n 0, 1) := dgq (p := 0) daL_law_1378 dbL_law_1378.1
theorem dL_law_1379 : decode cL_law 1379 = .ok (.iload 5, 2) := dgq (p := 1) daL_law_1378 dbL_law_1378.2.1
theorem dL_law_1381 : decode cL_law 1381 = .ok (.iconst 3, 1) := dgq (p := 3) daL_law_1378 dbL_law_1378.2.2.1
theorem dL_law_1382 : decode cL_law 1382 = .ok (.iadd, 1) := dgq (p := 4) daL_law_1378 dbL_law_1378.2.2.2.1
theorem dL_law_1383 : decode cL_law 1383 = .ok (.iaload, 1) := dgq (p := 5) daL_law_1378 dbL_law_1378.2.2.2.2.1
theorem dL_law_1384 : decode cL_law 1384 = .ok (.invokevirtual 302, 3) := dgq (p := 6) daL_law_1378 dbL_law_1378.2.2.2.2.2.1
theorem dL_law_1387 : decode cL_law 1387 = .ok (.istore 7, 2) := dgq (p := 9) daL_law_1378 dbL_law_1378.2.2.2.2.2.2.1
theorem dL_law_1389 : decode cL_law 1389 = .ok (.goto 1535, 3) := dgq (p := 11) daL_law_1378 dbL_law_1378.2.2.2.2.2.2.2.1
theorem dL_law_1392 : decode cL_law 1392 = .ok (.aload_n 1, 1) := dgq (p := 14) daL_law_1378 dbL_law_1378.2.2.2.2.2.2.2.2.1
theorem dL_law_1393 : decode cL_law 1393 = .ok (.aload_n 0, 1) := dgq (p := 15) daL_law_1378 dbL_law_1378.2.2.2.2.2.2.2.2.2
def dsL_law_1394 : ByteArray := ⟨#[21, 5, 4, 96, 46, 42, 21, 5, 5, 96, 46, 42]⟩
theorem daL_law_1394 : agB cL_law dsL_law_1394 1394 := agB_of (n := 12) (by decide +kernel)
theorem dbL_law_1394 : (decode dsL_law_1394 0 = .ok (.iload 5, 2) ∧ okop dsL_law_1394 0 = true) ∧ (decode dsL_law_1394 2 = .ok (.iconst 1, 1) ∧ okop dsL_law_1394 2 = true) ∧ (decode dsL_law_1394 3 = .ok (.iadd, 1) ∧ okop dsL_law_1394 3 = true) ∧ (decode dsL_law_1394 4 = .ok (.iaload, 1) ∧ okop dsL_law_1394 4 = true) ∧ (decode dsL_law_1394 5 = .ok (.aload_n 0, 1) ∧ okop dsL_law_1394 5 = true) ∧ (decode dsL_law_1394 6 = .ok (.iload 5, 2) ∧ okop dsL_law_1394 6 = true) ∧ (decode dsL_law_1394 8 = .ok (.iconst 2, 1) ∧ okop dsL_law_1394 8 = true) ∧ (decode dsL_law_1394 9 = .ok (.iadd, 1) ∧ okop dsL_law_1394 9 = true) ∧ (decode dsL_law_1394 10 = .ok (.iaload, 1) ∧ okop dsL_law_1394 10 = true) ∧ (decode dsL_law_1394 11 = .ok (.aload_n 0, 1) ∧ okop dsL_law_1394 11 = true) := by decide +kernel
theorem dL_law_1394 : decode cL_law 1394 = .ok (.iload 5, 2) := dgq (p := 0) daL_law_1394 dbL_law_1394.1
theorem dL_law_1396 : decode cL_law 1396 = .ok (.iconst 1, 1) := dgq (p := 2) daL_law_1394 dbL_law_1394.2.1
theorem dL_law_1397 : decode cL_law 1397 = .ok (.iadd, 1) := dgq (p := 3) daL_law_1394 dbL_law_1394.2.2.1
theorem dL_law_1398 : decode cL_law 1398 = .ok (.iaload, 1) := dgq (p := 4) daL_law_1394 dbL_law_1394.2.2.2.1
theorem dL_law_1399 : decode cL_law 1399 = .ok (.aload_n 0, 1) := dgq (p := 5) daL_law_1394 dbL_law_1394.2.2.2.2.1
theorem dL_law_1400 : decode cL_law 1400 = .ok (.iload 5, 2) := dgq (p := 6) daL_law_1394 dbL_law_1394.2.2.2.2.2.1
theorem dL_law_1402 : decode cL_law 1402 = .ok (.iconst 2, 1) := dgq (p := 8) daL_law_1394 dbL_law_1394.2.2.2.2.2.2.1
theorem dL_law_1403 : decode cL_law 1403 = .ok (.iadd, 1) := dgq (p := 9) daL_law_1394 dbL_law_1394.2.2.2.2.2.2.2.1
theorem dL_law_1404 : decode cL_law 1404 = .ok (.iaload, 1) := dgq (p := 10) daL_law_1394 dbL_law_1394.2.2.2.2.2.2.2.2.1
theorem dL_law_1405 : decode cL_law 1405 = .ok (.aload_n 0, 1) := dgq (p := 11) daL_law_1394 dbL_law_1394.2.2.2.2.2.2.2.2.2
def dsL_law_1406 : ByteArray := ⟨#[21, 5, 6, 96, 46, 45, 184, 1, 47, 54, 6, 44, 42, 21, 5]⟩
theorem daL_law_1406 : agB cL_law dsL_law_1406 1406 := agB_of (n := 15) (by decide +kernel)
theorem dbL_law_1406 : (decode dsL_law_1406 0 = .ok (.iload 5, 2) ∧ okop dsL_law_1406 0 = true) ∧ (decode dsL_law_1406 2 = .ok (.iconst 3, 1) ∧ okop dsL_law_1406 2 = true) ∧ (decode dsL_law_1406 3 = .ok (.iadd, 1) ∧ okop dsL_law_1406 3 = true) ∧ (decode dsL_law_1406 4 = .ok (.iaload, 1) ∧ okop dsL_law_1406 4 = true) ∧ (decode dsL_law_1406 5 = .ok (.aload_n 3, 1) ∧ okop dsL_law_1406 5 = true) ∧ (decode dsL_law_1406 6 = .ok (.invokestatic 303, 3) ∧ okop dsL_law_1406 6 = true) ∧ (decode dsL_law_1406 9 = .ok (.istore 6, 2) ∧ okop dsL_law_1406 9 = true) ∧ (decode dsL_law_1406 11 = .ok (.aload_n 2, 1) ∧ okop dsL_law_1406 11 = true) ∧ (decode dsL_law_1406 12 = .ok (.aload_n 0, 1) ∧ okop dsL_law_1406 12 = true) ∧ (decode dsL_law_1406 13 = .ok (.iload 5, 2) ∧ okop dsL_law_1406 13 = true) := by decide +kernel
theorem dL_law_1406 : decode cL_law 1406 = .ok (.iload 5, 2) := dgq (p := 0) daL_law_1406 dbL_law_1406.1
theorem dL_law_1408 : decode cL_law 1408 = .ok (.iconst 3, 1) := dgq (p := 2) daL_law_1406 dbL_law_1406.2.1
theorem dL_law_1409 : decode cL_law 1409 = .ok (.iadd, 1) := dgq (p := 3) daL_law_1406 dbL_law_1406.2.2.1
theorem dL_law_1410 : decode cL_law 1410 = .ok (.iaload, 1) := dgq (p := 4) daL_law_1406 dbL_law_1406.2.2.2.1
theorem dL_law_1411 : decode cL_law 1411 = .ok (.aload_n 3, 1) := dgq (p := 5) daL_law_1406 dbL_law_1406.2.2.2.2.1
theorem dL_law_1412 : decode cL_law 1412 = .ok (.invokestatic 303, 3) := dgq (p := 6) daL_law_1406 dbL_law_1406.2.2.2.2.2.1
theorem dL_law_1415 : decode cL_law 1415 = .ok (.istore 6, 2) := dgq (p := 9) daL_law_1406 dbL_law_1406.2.2.2.2.2.2.1
theorem dL_law_1417 : decode cL_law 1417 = .ok (.aload_n 2, 1) := dgq (p := 11) daL_law_1406 dbL_law_1406.2.2.2.2.2.2.2.1
theorem dL_law_1418 : decode cL_law 1418 = .ok (.aload_n 0, 1) := dgq (p := 12) daL_law_1406 dbL_law_1406.2.2.2.2.2.2.2.2.1
theorem dL_law_1419 : decode cL_law 1419 = .ok (.iload 5, 2) := dgq (p := 13) daL_law_1406 dbL_law_1406.2.2.2.2.2.2.2.2.2
def dsL_law_1421 : ByteArray := ⟨#[4, 96, 46, 42, 21, 5, 5, 96, 46, 42, 21, 5]⟩
theorem daL_law_1421 : agB cL_law dsL_law_1421 1421 := agB_of (n := 12) (by decide +kernel)
theorem dbL_law_1421 : (decode dsL_law_1421 0 = .ok (.iconst 1, 1) ∧ okop dsL_law_1421 0 = true) ∧ (decode dsL_law_1421 1 = .ok (.iadd, 1) ∧ okop dsL_law_1421 1 = true) ∧ (decode dsL_law_1421 2 = .ok (.iaload, 1) ∧ okop dsL_law_1421 2 = true) ∧ (decode dsL_law_1421 3 = .ok (.aload_n 0, 1) ∧ okop dsL_law_1421 3 = true) ∧ (decode dsL_law_1421 4 = .ok (.iload 5, 2) ∧ okop dsL_law_1421 4 = true) ∧ (decode dsL_law_1421 6 = .ok (.iconst 2, 1) ∧ okop dsL_law_1421 6 = true) ∧ (decode dsL_law_1421 7 = .ok (.iadd, 1) ∧ okop dsL_law_1421 7 = true) ∧ (decode dsL_law_1421 8 = .ok (.iaload, 1) ∧ okop dsL_law_1421 8 = true) ∧ (decode dsL_law_1421 9 = .ok (.aload_n 0, 1) ∧ okop dsL_law_1421 9 = true) ∧ (decode dsL_law_1421 10 = .ok (.iload 5, 2) ∧ okop dsL_law_1421 10 = true) := by decide +kernel
theorem dL_law_1421 : decode cL_law 1421 = .ok (.iconst 1, 1) := dgq (p := 0) daL_law_1421 dbL_law_1421.1
theorem dL_law_1422 : decode cL_law 1422 = .ok (.iadd, 1) := dgq (p := 1) daL_law_1421 dbL_law_1421.2.1
theorem dL_law_1423 : decode cL_law 1423 = .ok (.iaload, 1) := dgq (p := 2) daL_law_1421 dbL_law_1421.2.2.1
theorem dL_law_1424 : decode cL_law 1424 = .ok (.aload_n 0, 1) := dgq (p := 3) daL_law_1421 dbL_law_1421.2.2.2.1
theorem dL_law_1425 : decode cL_law 1425 = .ok (.iload 5, 2) := dgq (p := 4) daL_law_1421 dbL_law_1421.2.2.2.2.1
theorem dL_law_1427 : decode cL_law 1427 = .ok (.iconst 2, 1) := dgq (p := 6) daL_law_1421 dbL_law_1421.2.2.2.2.2.1
theorem dL_law_1428 : decode cL_law 1428 = .ok (.iadd, 1) := dgq (p := 7) daL_law_1421 dbL_law_1421.2.2.2.2.2.2.1
theorem dL_law_1429 : decode cL_law 1429 = .ok (.iaload, 1) := dgq (p := 8) daL_law_1421 dbL_law_1421.2.2.2.2.2.2.2.1
theorem dL_law_1430 : decode cL_law 1430 = .ok (.aload_n 0, 1) := dgq (p := 9) daL_law_1421 dbL_law_1421.2.2.2.2.2.2.2.2.1
theorem dL_law_1431 : decode cL_law 1431 = .ok (.iload 5, 2) := dgq (p := 10) daL_law_1421 dbL_law_1421.2.2.2.2.2.2.2.2.2
def dsL_law_1433 : ByteArray := ⟨#[6, 96, 46, 182, 1, 49, 54, 7, 167, 5, 203, 43, 42, 21, 5, 4]⟩
theorem daL_law_1433 : agB cL_law dsL_law_1433 1433 := agB_of (n := 16) (by decide +kernel)
theorem dbL_law_1433 : (decode dsL_law_1433 0 = .ok (.iconst 3, 1) ∧ okop dsL_law_1433 0 = true) ∧ (decode dsL_law_1433 1 = .ok (.iadd, 1) ∧ okop dsL_law_1433 1 = true) ∧ (decode dsL_law_1433 2 = .ok (.iaload, 1) ∧ okop dsL_law_1433 2 = true) ∧ (decode dsL_law_1433 3 = .ok (.invokevirtual 305, 3) ∧ okop dsL_law_1433 3 = true) ∧ (decode dsL_law_1433 6 = .ok (.istore 7, 2) ∧ okop dsL_law_1433 6 = true) ∧ (decode dsL_law_1433 8 = .ok (.goto 1483, 3) ∧ okop dsL_law_1433 8 = true) ∧ (decode dsL_law_1433 11 = .ok (.aload_n 1, 1) ∧ okop dsL_law_1433 11 = true) ∧ (decode dsL_law_1433 12 = .ok (.aload_n 0, 1) ∧ okop dsL_law_1433 12 = true) ∧ (decode dsL_law_1433 13 = .ok (.iload 5, 2) ∧ okop dsL_law_1433 13 = true) ∧ (decode dsL_law_1433 15 = .ok (.iconst 1, 1) ∧ okop dsL_law_1433 15 = true) := by decide +kernel
theorem dL_law_1433 : decode cL_law 1433 = .ok (.iconst 3, 1) := dgq (p := 0) daL_law_1433 dbL_law_1433.1
theorem dL_law_1434 : decode cL_law 1434 = .ok (.iadd, 1) := dgq (p := 1) daL_law_1433 dbL_law_1433.2.1
theorem dL_law_1435 : decode cL_law 1435 = .ok (.iaload, 1) := dgq (p := 2) daL_law_1433 dbL_law_1433.2.2.1
theorem dL_law_1436 : decode cL_law 1436 = .ok (.invokevirtual 305, 3) := dgq (p := 3) daL_law_1433 dbL_law_1433.2.2.2.1
theorem dL_law_1439 : decode cL_law 1439 = .ok (.istore 7, 2) := dgq (p := 6) daL_law_1433 dbL_law_1433.2.2.2.2.1
theorem dL_law_1441 : decode cL_law 1441 = .ok (.goto 1483, 3) := dgq (p := 8) daL_law_1433 dbL_law_1433.2.2.2.2.2.1
theorem dL_law_1444 : decode cL_law 1444 = .ok (.aload_n 1, 1) := dgq (p := 11) daL_law_1433 dbL_law_1433.2.2.2.2.2.2.1
theorem dL_law_1445 : decode cL_law 1445 = .ok (.aload_n 0, 1) := dgq (p := 12) daL_law_1433 dbL_law_1433.2.2.2.2.2.2.2.1
theorem dL_law_1446 : decode cL_law 1446 = .ok (.iload 5, 2) := dgq (p := 13) daL_law_1433 dbL_law_1433.2.2.2.2.2.2.2.2.1
theorem dL_law_1448 : decode cL_law 1448 = .ok (.iconst 1, 1) := dgq (p := 15) daL_law_1433 dbL_law_1433.2.2.2.2.2.2.2.2.2
def dsL_law_1449 : ByteArray := ⟨#[96, 46, 42, 21, 5, 5, 96, 46, 45, 184, 1, 50, 54, 6]⟩
theorem daL_law_1449 : agB cL_law dsL_law_1449 1449 := agB_of (n := 14) (by decide +kernel)
theorem dbL_law_1449 : (decode dsL_law_1449 0 = .ok (.iadd, 1) ∧ okop dsL_law_1449 0 = true) ∧ (decode dsL_law_1449 1 = .ok (.iaload, 1) ∧ okop dsL_law_1449 1 = true) ∧ (decode dsL_law_1449 2 = .ok (.aload_n 0, 1) ∧ okop dsL_law_1449 2 = true) ∧ (decode dsL_law_1449 3 = .ok (.iload 5, 2) ∧ okop dsL_law_1449 3 = true) ∧ (decode dsL_law_1449 5 = .ok (.iconst 2, 1) ∧ okop dsL_law_1449 5 = true) ∧ (decode dsL_law_1449 6 = .ok (.iadd, 1) ∧ okop dsL_law_1449 6 = true) ∧ (decode dsL_law_1449 7 = .ok (.iaload, 1) ∧ okop dsL_law_1449 7 = true) ∧ (decode dsL_law_1449 8 = .ok (.aload_n 3, 1) ∧ okop dsL_law_1449 8 = true) ∧ (decode dsL_law_1449 9 = .ok (.invokestatic 306, 3) ∧ okop dsL_law_1449 9 = true) ∧ (decode dsL_law_1449 12 = .ok (.istore 6, 2) ∧ okop dsL_law_1449 12 = true) := by decide +kernel
theorem dL_law_1449 : decode cL_law 1449 = .ok (.iadd, 1) := dgq (p := 0) daL_law_1449 dbL_law_1449.1
theorem dL_law_1450 : decode cL_law 1450 = .ok (.iaload, 1) := dgq (p := 1) daL_law_1449 dbL_law_1449.2.1
theorem dL_law_1451 : decode cL_law 1451 = .ok (.aload_n 0, 1) := dgq (p := 2) daL_law_1449 dbL_law_1449.2.2.1
theorem dL_law_1452 : decode cL_law 1452 = .ok (.iload 5, 2) := dgq (p := 3) daL_law_1449 dbL_law_1449.2.2.2.1
theorem dL_law_1454 : decode cL_law 1454 = .ok (.iconst 2, 1) := dgq (p := 5) daL_law_1449 dbL_law_1449.2.2.2.2.1
theorem dL_law_1455 : decode cL_law 1455 = .ok (.iadd, 1) := dgq (p := 6) daL_law_1449 dbL_law_1449.2.2.2.2.2.1
theorem dL_law_1456 : decode cL_law 1456 = .ok (.iaload, 1) := dgq (p := 7) daL_law_1449 dbL_law_1449.2.2.2.2.2.2.1
theorem dL_law_1457 : decode cL_law 1457 = .ok (.aload_n 3, 1) := dgq (p := 8) daL_law_1449 dbL_law_1449.2.2.2.2.2.2.2.1
theorem dL_law_1458 : decode cL_law 1458 = .ok (.invokestatic 306, 3) := dgq (p := 9) daL_law_1449 dbL_law_1449.2.2.2.2.2.2.2.2.1
theorem dL_law_1461 : decode cL_law 1461 = .ok (.istore 6, 2) := dgq (p := 12) daL_law_1449 dbL_law_1449.2.2.2.2.2.2.2.2.2
def dsL_law_1463 : ByteArray := ⟨#[44, 42, 21, 5, 4, 96, 46, 42, 21, 5, 5, 96]⟩
theorem daL_law_1463 : agB cL_law dsL_law_1463 1463 := agB_of (n := 12) (by decide +kernel)
theorem dbL_law_1463 : (decode dsL_law_1463 0 = .ok (.aload_n 2, 1) ∧ okop dsL_law_1463 0 = true) ∧ (decode dsL_law_1463 1 = .ok (.aload_n 0, 1) ∧ okop dsL_law_1463 1 = true) ∧ (decode dsL_law_1463 2 = .ok (.iload 5, 2) ∧ okop dsL_law_1463 2 = true) ∧ (decode dsL_law_1463 4 = .ok (.iconst 1, 1) ∧ okop dsL_law_1463 4 = true) ∧ (decode dsL_law_1463 5 = .ok (.iadd, 1) ∧ okop dsL_law_1463 5 = true) ∧ (decode dsL_law_1463 6 = .ok (.iaload, 1) ∧ okop dsL_law_1463 6 = true) ∧ (decode dsL_law_1463 7 = .ok (.aload_n 0, 1) ∧ okop dsL_law_1463 7 = true) ∧ (decode dsL_law_1463 8 = .ok (.iload 5, 2) ∧ okop dsL_law_1463 8 = true) ∧ (decode dsL_law_1463 10 = .ok (.iconst 2, 1) ∧ okop dsL_law_1463 10 = true) ∧ (decode dsL_law_1463 11 = .ok (.iadd, 1) ∧ okop dsL_law_1463 11 = true) := by decide +kernel
theorem dL_law_1463 : decode cL_law 1463 = .ok (.aload_n 2, 1) := dgq (p := 0) daL_law_1463 dbL_law_1463.1
theorem dL_law_1464 : decode cL_law 1464 = .ok (.aload_n 0, 1) := dgq (p := 1) daL_law_1463 dbL_law_1463.2.1
theorem dL_law_1465 : decode cL_law 1465 = .ok (.iload 5, 2) := dgq (p := 2) daL_law_1463 dbL_law_1463.2.2.1
theorem dL_law_1467 : decode cL_law 1467 = .ok (.iconst 1, 1) := dgq (p := 4) daL_law_1463 dbL_law_1463.2.2.2.1
theorem dL_law_1468 : decode cL_law 1468 = .ok (.iadd, 1) := dgq (p := 5) daL_law_1463 dbL_law_1463.2.2.2.2.1
theorem dL_law_1469 : decode cL_law 1469 = .ok (.iaload, 1) := dgq (p := 6) daL_law_1463 dbL_law_1463.2.2.2.2.2.1
theorem dL_law_1470 : decode cL_law 1470 = .ok (.aload_n 0, 1) := dgq (p := 7) daL_law_1463 dbL_law_1463.2.2.2.2.2.2.1
theorem dL_law_1471 : decode cL_law 1471 = .ok (.iload 5, 2) := dgq (p := 8) daL_law_1463 dbL_law_1463.2.2.2.2.2.2.2.1
theorem dL_law_1473 : decode cL_law 1473 = .ok (.iconst 2, 1) := dgq (p := 10) daL_law_1463 dbL_law_1463.2.2.2.2.2.2.2.2.1
theorem dL_law_1474 : decode cL_law 1474 = .ok (.iadd, 1) := dgq (p := 11) daL_law_1463 dbL_law_1463.2.2.2.2.2.2.2.2.2
def dsL_law_1475 : ByteArray := ⟨#[46, 182, 1, 52, 54, 7, 167, 5, 163, 43, 42, 21, 5, 4, 96, 46]⟩
theorem daL_law_1475 : agB cL_law dsL_law_1475 1475 := agB_of (n := 16) (by decide +kernel)
theorem dbL_law_1475 : (decode dsL_law_1475 0 = .ok (.iaload, 1) ∧ okop dsL_law_1475 0 = true) ∧ (decode dsL_law_1475 1 = .ok (.invokevirtual 308, 3) ∧ okop dsL_law_1475 1 = true) ∧ (decode dsL_law_1475 4 = .ok (.istore 7, 2) ∧ okop dsL_law_1475 4 = true) ∧ (decode dsL_law_1475 6 = .ok (.goto 1443, 3) ∧ okop dsL_law_1475 6 = true) ∧ (decode dsL_law_1475 9 = .ok (.aload_n 1, 1) ∧ okop dsL_law_1475 9 = true) ∧ (decode dsL_law_1475 10 = .ok (.aload_n 0, 1) ∧ okop dsL_law_1475 10 = true) ∧ (decode dsL_law_1475 11 = .ok (.iload 5, 2) ∧ okop dsL_law_1475 11 = true) ∧ (decode dsL_law_1475 13 = .ok (.iconst 1, 1) ∧ okop dsL_law_1475 13 = true) ∧ (decode dsL_law_1475 14 = .ok (.iadd, 1) ∧ okop dsL_law_1475 14 = true) ∧ (decode dsL_law_1475 15 = .ok (.iaload, 1) ∧ okop dsL_law_1475 15 = true) := by decide +kernel
theorem dL_law_1475 : decode cL_law 1475 = .ok (.iaload, 1) := dgq (p := 0) daL_law_1475 dbL_law_1475.1
theorem dL_law_1476 : decode cL_law 1476 = .ok (.invokevirtual 308, 3) := dgq (p := 1) daL_law_1475 dbL_law_1475.2.1
theorem dL_law_1479 : decode cL_law 1479 = .ok (.istore 7, 2) := dgq (p := 4) daL_law_1475 dbL_law_1475.2.2.1
theorem dL_law_1481 : decode cL_law 1481 = .ok (.goto 1443, 3) := dgq (p := 6) daL_law_1475 dbL_law_1475.2.2.2.1
theorem dL_law_1484 : decode cL_law 1484 = .ok (.aload_n 1, 1) := dgq (p := 9) daL_law_1475 dbL_law_1475.2.2.2.2.1
theorem dL_law_1485 : decode cL_law 1485 = .ok (.aload_n 0, 1) := dgq (p := 10) daL_law_1475 dbL_law_1475.2.2.2.2.2.1
theorem dL_law_1486 : decode cL_law 1486 = .ok (.iload 5, 2) := dgq (p := 11) daL_law_1475 dbL_law_1475.2.2.2.2.2.2.1
theorem dL_law_1488 : decode cL_law 1488 = .ok (.iconst 1, 1) := dgq (p := 13) daL_law_1475 dbL_law_1475.2.2.2.2.2.2.2.1
theorem dL_law_1489 : decode cL_law 1489 = .ok (.iadd, 1) := dgq (p := 14) daL_law_1475 dbL_law_1475.2.2.2.2.2.2.2.2.1
theorem dL_law_1490 : decode cL_law 1490 = .ok (.iaload, 1) := dgq (p := 15) daL_law_1475 dbL_law_1475.2.2.2.2.2.2.2.2.2
def dsL_law_1491 : ByteArray := ⟨#[45, 184, 1, 53, 54, 6, 44, 42, 21, 5, 4, 96, 46, 182, 1, 55]⟩
theorem daL_law_1491 : agB cL_law dsL_law_1491 1491 := agB_of (n := 16) (by decide +kernel)
theorem dbL_law_1491 : (decode dsL_law_1491 0 = .ok (.aload_n 3, 1) ∧ okop dsL_law_1491 0 = true) ∧ (decode dsL_law_1491 1 = .ok (.invokestatic 309, 3) ∧ okop dsL_law_1491 1 = true) ∧ (decode dsL_law_1491 4 = .ok (.istore 6, 2) ∧ okop dsL_law_1491 4 = true) ∧ (decode dsL_law_1491 6 = .ok (.aload_n 2, 1) ∧ okop dsL_law_1491 6 = true) ∧ (decode dsL_law_1491 7 = .ok (.aload_n 0, 1) ∧ okop dsL_law_1491 7 = true) ∧ (decode dsL_law_1491 8 = .ok (.iload 5, 2) ∧ okop dsL_law_1491 8 = true) ∧ (decode dsL_law_1491 10 = .ok (.iconst 1, 1) ∧ okop dsL_law_1491 10 = true) ∧ (decode dsL_law_1491 11 = .ok (.iadd, 1) ∧ okop dsL_law_1491 11 = true) ∧ (decode dsL_law_1491 12 = .ok (.iaload, 1) ∧ okop dsL_law_1491 12 = true) ∧ (decode dsL_law_1491 13 = .ok (.invokevirtual 311, 3) ∧ okop dsL_law_1491 13 = true) := by decide +kernel
theorem dL_law_1491 : decode cL_law 1491 = .ok (.aload_n 3, 1) := dgq (p := 0) daL_law_1491 dbL_law_1491.1
theorem dL_law_1492 : decode cL_law 1492 = .ok (.invokestatic 309, 3) := dgq (p := 1) daL_law_1491 dbL_law_1491.2.1
theorem dL_law_1495 : decode cL_law 1495 = .ok (.istore 6, 2) := dgq (p := 4) daL_law_1491 dbL_law_1491.2.2.1
theorem dL_law_1497 : decode cL_law 1497 = .ok (.aload_n 2, 1) := dgq (p := 6) daL_law_1491 dbL_law_1491.2.2.2.1
theorem dL_law_1498 : decode cL_law 1498 = .ok (.aload_n 0, 1) := dgq (p := 7) daL_law_1491 dbL_law_1491.2.2.2.2.1
theorem dL_law_1499 : decode cL_law 1499 = .ok (.iload 5, 2) := dgq (p := 8) daL_law_1491 dbL_law_1491.2.2.2.2.2.1
theorem dL_law_1501 : decode cL_law 1501 = .ok (.iconst 1, 1) := dgq (p := 10) daL_law_1491 dbL_law_1491.2.2.2.2.2.2.1
theorem dL_law_1502 : decode cL_law 1502 = .ok (.iadd, 1) := dgq (p := 11) daL_law_1491 dbL_law_1491.2.2.2.2.2.2.2.1
theorem dL_law_1503 : decode cL_law 1503 = .ok (.iaload, 1) := dgq (p := 12) daL_law_1491 dbL_law_1491.2.2.2.2.2.2.2.2.1
theorem dL_law_1504 : decode cL_law 1504 = .ok (.invokevirtual 311, 3) := dgq (p := 13) daL_law_1491 dbL_law_1491.2.2.2.2.2.2.2.2.2
def dsL_law_1507 : ByteArray := ⟨#[54, 7, 167, 5, 135, 43, 42, 21, 5, 4, 96, 46, 42, 21, 5]⟩
theorem daL_law_1507 : agB cL_law dsL_law_1507 1507 := agB_of (n := 15) (by decide +kernel)
theorem dbL_law_1507 : (decode dsL_law_1507 0 = .ok (.istore 7, 2) ∧ okop dsL_law_1507 0 = true) ∧ (decode dsL_law_1507 2 = .ok (.goto 1415, 3) ∧ okop dsL_law_1507 2 = true) ∧ (decode dsL_law_1507 5 = .ok (.aload_n 1, 1) ∧ okop dsL_law_1507 5 = true) ∧ (decode dsL_law_1507 6 = .ok (.aload_n 0, 1) ∧ okop dsL_law_1507 6 = true) ∧ (decode dsL_law_1507 7 = .ok (.iload 5, 2) ∧ okop dsL_law_1507 7 = true) ∧ (decode dsL_law_1507 9 = .ok (.iconst 1, 1) ∧ okop dsL_law_1507 9 = true) ∧ (decode dsL_law_1507 10 = .ok (.iadd, 1) ∧ okop dsL_law_1507 10 = true) ∧ (decode dsL_law_1507 11 = .ok (.iaload, 1) ∧ okop dsL_law_1507 11 = true) ∧ (decode dsL_law_1507 12 = .ok (.aload_n 0, 1) ∧ okop dsL_law_1507 12 = true) ∧ (decode dsL_law_1507 13 = .ok (.iload 5, 2) ∧ okop dsL_law_1507 13 = true) := by decide +kernel
theorem dL_law_1507 : decode cL_law 1507 = .ok (.istore 7, 2) := dgq (p := 0) daL_law_1507 dbL_law_1507.1
theorem dL_law_1509 : decode cL_law 1509 = .ok (.goto 1415, 3) := dgq (p := 2) daL_law_1507 dbL_law_1507.2.1
theorem dL_law_1512 : decode cL_law 1512 = .ok (.aload_n 1, 1) := dgq (p := 5) daL_law_1507 dbL_law_1507.2.2.1
theorem dL_law_1513 : decode cL_law 1513 = .ok (.aload_n 0, 1) := dgq (p := 6) daL_law_1507 dbL_law_1507.2.2.2.1
theorem dL_law_1514 : decode cL_law 1514 = .ok (.iload 5, 2) := dgq (p := 7) daL_law_1507 dbL_law_1507.2.2.2.2.1
theorem dL_law_1516 : decode cL_law 1516 = .ok (.iconst 1, 1) := dgq (p := 9) daL_law_1507 dbL_law_1507.2.2.2.2.2.1
theorem dL_law_1517 : decode cL_law 1517 = .ok (.iadd, 1) := dgq (p := 10) daL_law_1507 dbL_law_1507.2.2.2.2.2.2.1
theorem dL_law_1518 : decode cL_law 1518 = .ok (.iaload, 1) := dgq (p := 11) daL_law_1507 dbL_law_1507.2.2.2.2.2.2.2.1
theorem dL_law_1519 : decode cL_law 1519 = .ok (.aload_n 0, 1) := dgq (p := 12) daL_law_1507 dbL_law_1507.2.2.2.2.2.2.2.2.1
theorem dL_law_1520 : decode cL_law 1520 = .ok (.iload 5, 2) := dgq (p := 13) daL_law_1507 dbL_law_1507.2.2.2.2.2.2.2.2.2
def dsL_law_1522 : ByteArray := ⟨#[5, 96, 46, 42, 21, 5, 6, 96, 46, 45, 184, 1, 56]⟩
theorem daL_law_1522 : agB cL_law dsL_law_1522 1522 := agB_of (n := 13) (by decide +kernel)
theorem dbL_law_1522 : (decode dsL_law_1522 0 = .ok (.iconst 2, 1) ∧ okop dsL_law_1522 0 = true) ∧ (decode dsL_law_1522 1 = .ok (.iadd, 1) ∧ okop dsL_law_1522 1 = true) ∧ (decode dsL_law_1522 2 = .ok (.iaload, 1) ∧ okop dsL_law_1522 2 = true) ∧ (decode dsL_law_1522 3 = .ok (.aload_n 0, 1) ∧ okop dsL_law_1522 3 = true) ∧ (decode dsL_law_1522 4 = .ok (.iload 5, 2) ∧ okop dsL_law_1522 4 = true) ∧ (decode dsL_law_1522 6 = .ok (.iconst 3, 1) ∧ okop dsL_law_1522 6 = true) ∧ (decode dsL_law_1522 7 = .ok (.iadd, 1) ∧ okop dsL_law_1522 7 = true) ∧ (decode dsL_law_1522 8 = .ok (.iaload, 1) ∧ okop dsL_law_1522 8 = true) ∧ (decode dsL_law_1522 9 = .ok (.aload_n 3, 1) ∧ okop dsL_law_1522 9 = true) ∧ (decode dsL_law_1522 10 = .ok (.invokestatic 312, 3) ∧ okop dsL_law_1522 10 = true) := by decide +kernel
theorem dL_law_1522 : decode cL_law 1522 = .ok (.iconst 2, 1) := dgq (p := 0) daL_law_1522 dbL_law_1522.1
theorem dL_law_1523 : decode cL_law 1523 = .ok (.iadd, 1) := dgq (p := 1) daL_law_1522 dbL_law_1522.2.1
theorem dL_law_1524 : decode cL_law 1524 = .ok (.iaload, 1) := dgq (p := 2) daL_law_1522 dbL_law_1522.2.2.1
theorem dL_law_1525 : decode cL_law 1525 = .ok (.aload_n 0, 1) := dgq (p := 3) daL_law_1522 dbL_law_1522.2.2.2.1
theorem dL_law_1526 : decode cL_law 1526 = .ok (.iload 5, 2) := dgq (p := 4) daL_law_1522 dbL_law_1522.2.2.2.2.1
theorem dL_law_1528 : decode cL_law 1528 = .ok (.iconst 3, 1) := dgq (p := 6) daL_law_1522 dbL_law_1522.2.2.2.2.2.1
theorem dL_law_1529 : decode cL_law 1529 = .ok (.iadd, 1) := dgq (p := 7) daL_law_1522 dbL_law_1522.2.2.2.2.2.2.1
theorem dL_law_1530 : decode cL_law 1530 = .ok (.iaload, 1) := dgq (p := 8) daL_law_1522 dbL_law_1522.2.2.2.2.2.2.2.1
theorem dL_law_1531 : decode cL_law 1531 = .ok (.aload_n 3, 1) := dgq (p := 9) daL_law_1522 dbL_law_1522.2.2.2.2.2.2.2.2.1
theorem dL_law_1532 : decode cL_law 1532 = .ok (.invokestatic 312, 3) := dgq (p := 10) daL_law_1522 dbL_law_1522.2.2.2.2.2.2.2.2.2
def dsL_law_1535 : ByteArray := ⟨#[54, 6, 44, 42, 21, 5, 4, 96, 46, 42, 21, 5, 5]⟩
theorem daL_law_1535 : agB cL_law dsL_law_1535 1535 := agB_of (n := 13) (by decide +kernel)
theorem dbL_law_1535 : (decode dsL_law_1535 0 = .ok (.istore 6, 2) ∧ okop dsL_law_1535 0 = true) ∧ (decode dsL_law_1535 2 = .ok (.aload_n 2, 1) ∧ okop dsL_law_1535 2 = true) ∧ (decode dsL_law_1535 3 = .ok (.aload_n 0, 1) ∧ okop dsL_law_1535 3 = true) ∧ (decode dsL_law_1535 4 = .ok (.iload 5, 2) ∧ okop dsL_law_1535 4 = true) ∧ (decode dsL_law_1535 6 = .ok (.iconst 1, 1) ∧ okop dsL_law_1535 6 = true) ∧ (decode dsL_law_1535 7 = .ok (.iadd, 1) ∧ okop dsL_law_1535 7 = true) ∧ (decode dsL_law_1535 8 = .ok (.iaload, 1) ∧ okop dsL_law_1535 8 = true) ∧ (decode dsL_law_1535 9 = .ok (.aload_n 0, 1) ∧ okop dsL_law_1535 9 = true) ∧ (decode dsL_law_1535 10 = .ok (.iload 5, 2) ∧ okop dsL_law_1535 10 = true) ∧ (decode dsL_law_1535 12 = .ok (.iconst 2, 1) ∧ okop dsL_law_1535 12 = true) := by decide +kernel
theorem dL_law_1535 : decode cL_law 1535 = .ok (.istore 6, 2) := dgq (p := 0) daL_law_1535 dbL_law_1535.1
theorem dL_law_1537 : decode cL_law 1537 = .ok (.aload_n 2, 1) := dgq (p := 2) daL_law_1535 dbL_law_1535.2.1
theorem dL_law_1538 : decode cL_law 1538 = .ok (.aload_n 0, 1) := dgq (p := 3) daL_law_1535 dbL_law_1535.2.2.1
theorem dL_law_1539 : decode cL_law 1539 = .ok (.iload 5, 2) := dgq (p := 4) daL_law_1535 dbL_law_1535.2.2.2.1
theorem dL_law_1541 : decode cL_law 1541 = .ok (.iconst 1, 1) := dgq (p := 6) daL_law_1535 dbL_law_1535.2.2.2.2.1
theorem dL_law_1542 : decode cL_law 1542 = .ok (.iadd, 1) := dgq (p := 7) daL_law_1535 dbL_law_1535.2.2.2.2.2.1
theorem dL_law_1543 : decode cL_law 1543 = .ok (.iaload, 1) := dgq (p := 8) daL_law_1535 dbL_law_1535.2.2.2.2.2.2.1
theorem dL_law_1544 : decode cL_law 1544 = .ok (.aload_n 0, 1) := dgq (p := 9) daL_law_1535 dbL_law_1535.2.2.2.2.2.2.2.1
theorem dL_law_1545 : decode cL_law 1545 = .ok (.iload 5, 2) := dgq (p := 10) daL_law_1535 dbL_law_1535.2.2.2.2.2.2.2.2.1
theorem dL_law_1547 : decode cL_law 1547 = .ok (.iconst 2, 1) := dgq (p := 12) daL_law_1535 dbL_law_1535.2.2.2.2.2.2.2.2.2
def dsL_law_1548 : ByteArray := ⟨#[96, 46, 42, 21, 5, 6, 96, 46, 182, 1, 58, 54, 7, 167, 5, 83]⟩
theorem daL_law_1548 : agB cL_law dsL_law_1548 1548 := agB_of (n := 16) (by decide +kernel)
theorem dbL_law_1548 : (decode dsL_law_1548 0 = .ok (.iadd, 1) ∧ okop dsL_law_1548 0 = true) ∧ (decode dsL_law_1548 1 = .ok (.iaload, 1) ∧ okop dsL_law_1548 1 = true) ∧ (decode dsL_law_1548 2 = .ok (.aload_n 0, 1) ∧ okop dsL_law_1548 2 = true) ∧ (decode dsL_law_1548 3 = .ok (.iload 5, 2) ∧ okop dsL_law_1548 3 = true) ∧ (decode dsL_law_1548 5 = .ok (.iconst 3, 1) ∧ okop dsL_law_1548 5 = true) ∧ (decode dsL_law_1548 6 = .ok (.iadd, 1) ∧ okop dsL_law_1548 6 = true) ∧ (decode dsL_law_1548 7 = .ok (.iaload, 1) ∧ okop dsL_law_1548 7 = true) ∧ (decode dsL_law_1548 8 = .ok (.invokevirtual 314, 3) ∧ okop dsL_law_1548 8 = true) ∧ (decode dsL_law_1548 11 = .ok (.istore 7, 2) ∧ okop dsL_law_1548 11 = true) ∧ (decode dsL_law_1548 13 = .ok (.goto 1363, 3) ∧ okop dsL_law_1548 13 = true) := by decide +kernel
theorem dL_law_1548 : decode cL_law 1548 = .ok (.iadd, 1) := dgq (p := 0) daL_law_1548 dbL_law_1548.1
theorem dL_law_1549 : decode cL_law 1549 = .ok (.iaload, 1) := dgq (p := 1) daL_law_1548 dbL_law_1548.2.1
theorem dL_law_1550 : decode cL_law 1550 = .ok (.aload_n 0, 1) := dgq (p := 2) daL_law_1548 dbL_law_1548.2.2.1
theorem dL_law_1551 : decode cL_law 1551 = .ok (.iload 5, 2) := dgq (p := 3) daL_law_1548 dbL_law_1548.2.2.2.1
theorem dL_law_1553 : decode cL_law 1553 = .ok (.iconst 3, 1) := dgq (p := 5) daL_law_1548 dbL_law_1548.2.2.2.2.1
theorem dL_law_1554 : decode cL_law 1554 = .ok (.iadd, 1) := dgq (p := 6) daL_law_1548 dbL_law_1548.2.2.2.2.2.1
theorem dL_law_1555 : decode cL_law 1555 = .ok (.iaload, 1) := dgq (p := 7) daL_law_1548 dbL_law_1548.2.2.2.2.2.2.1
theorem dL_law_1556 : decode cL_law 1556 = .ok (.invokevirtual 314, 3) := dgq (p := 8) daL_law_1548 dbL_law_1548.2.2.2.2.2.2.2.1
theorem dL_law_1559 : decode cL_law 1559 = .ok (.istore 7, 2) := dgq (p := 11) daL_law_1548 dbL_law_1548.2.2.2.2.2.2.2.2.1
theorem dL_law_1561 : decode cL_law 1561 = .ok (.goto 1363, 3) := dgq (p := 13) daL_law_1548 dbL_law_1548.2.2.2.2.2.2.2.2.2
def dsL_law_1564 : ByteArray := ⟨#[43, 42, 21, 5, 4, 96, 46, 42, 21, 5, 5, 96]⟩
theorem daL_law_1564 : agB cL_law dsL_law_1564 1564 := agB_of (n := 12) (by decide +kernel)
theorem dbL_law_1564 : (decode dsL_law_1564 0 = .ok (.aload_n 1, 1) ∧ okop dsL_law_1564 0 = true) ∧ (decode dsL_law_1564 1 = .ok (.aload_n 0, 1) ∧ okop dsL_law_1564 1 = true) ∧ (decode dsL_law_1564 2 = .ok (.iload 5, 2) ∧ okop dsL_law_1564 2 = true) ∧ (decode dsL_law_1564 4 = .ok (.iconst 1, 1) ∧ okop dsL_law_1564 4 = true) ∧ (decode dsL_law_1564 5 = .ok (.iadd, 1) ∧ okop dsL_law_1564 5 = true) ∧ (decode dsL_law_1564 6 = .ok (.iaload, 1) ∧ okop dsL_law_1564 6 = true) ∧ (decode dsL_law_1564 7 = .ok (.aload_n 0, 1) ∧ okop dsL_law_1564 7 = true) ∧ (decode dsL_law_1564 8 = .ok (.iload 5, 2) ∧ okop dsL_law_1564 8 = true) ∧ (decode dsL_law_1564 10 = .ok (.iconst 2, 1) ∧ okop dsL_law_1564 10 = true) ∧ (decode dsL_law_1564 11 = .ok (.iadd, 1) ∧ okop dsL_law_1564 11 = true) := by decide +kernel
theorem dL_law_1564 : decode cL_law 1564 = .ok (.aload_n 1, 1) := dgq (p := 0) daL_law_1564 dbL_law_1564.1
theorem dL_law_1565 : decode cL_law 1565 = .ok (.aload_n 0, 1) := dgq (p := 1) daL_law_1564 dbL_law_1564.2.1
theorem dL_law_1566 : decode cL_law 1566 = .ok (.iload 5, 2) := dgq (p := 2) daL_law_1564 dbL_law_1564.2.2.1
theorem dL_law_1568 : decode cL_law 1568 = .ok (.iconst 1, 1) := dgq (p := 4) daL_law_1564 dbL_law_1564.2.2.2.1
theorem dL_law_1569 : decode cL_law 1569 = .ok (.iadd, 1) := dgq (p := 5) daL_law_1564 dbL_law_1564.2.2.2.2.1
theorem dL_law_1570 : decode cL_law 1570 = .ok (.iaload, 1) := dgq (p := 6) daL_law_1564 dbL_law_1564.2.2.2.2.2.1
theorem dL_law_1571 : decode cL_law 1571 = .ok (.aload_n 0, 1) := dgq (p := 7) daL_law_1564 dbL_law_1564.2.2.2.2.2.2.1
theorem dL_law_1572 : decode cL_law 1572 = .ok (.iload 5, 2) := dgq (p := 8) daL_law_1564 dbL_law_1564.2.2.2.2.2.2.2.1
theorem dL_law_1574 : decode cL_law 1574 = .ok (.iconst 2, 1) := dgq (p := 10) daL_law_1564 dbL_law_1564.2.2.2.2.2.2.2.2.1
theorem dL_law_1575 : decode cL_law 1575 = .ok (.iadd, 1) := dgq (p := 11) daL_law_1564 dbL_law_1564.2.2.2.2.2.2.2.2.2
def dsL_law_1576 : ByteArray := ⟨#[46, 45, 184, 1, 59, 54, 6, 44, 42, 21, 5, 4, 96, 46]⟩
theorem daL_law_1576 : agB cL_law dsL_law_1576 1576 := agB_of (n := 14) (by decide +kernel)
theorem dbL_law_1576 : (decode dsL_law_1576 0 = .ok (.iaload, 1) ∧ okop dsL_law_1576 0 = true) ∧ (decode dsL_law_1576 1 = .ok (.aload_n 3, 1) ∧ okop dsL_law_1576 1 = true) ∧ (decode dsL_law_1576 2 = .ok (.invokestatic 315, 3) ∧ okop dsL_law_1576 2 = true) ∧ (decode dsL_law_1576 5 = .ok (.istore 6, 2) ∧ okop dsL_law_1576 5 = true) ∧ (decode dsL_law_1576 7 = .ok (.aload_n 2, 1) ∧ okop dsL_law_1576 7 = true) ∧ (decode dsL_law_1576 8 = .ok (.aload_n 0, 1) ∧ okop dsL_law_1576 8 = true) ∧ (decode dsL_law_1576 9 = .ok (.iload 5, 2) ∧ okop dsL_law_1576 9 = true) ∧ (decode dsL_law_1576 11 = .ok (.iconst 1, 1) ∧ okop dsL_law_1576 11 = true) ∧ (decode dsL_law_1576 12 = .ok (.iadd, 1) ∧ okop dsL_law_1576 12 = true) ∧ (decode dsL_law_1576 13 = .ok (.iaload, 1) ∧ okop dsL_law_1576 13 = true) := by decide +kernel
theorem dL_law_1576 : decode cL_law 1576 = .ok (.iaload, 1) := dgq (p := 0) daL_law_1576 dbL_law_1576.1
theorem dL_law_1577 : decode cL_law 1577 = .ok (.aload_n 3, 1) := dgq (p := 1) daL_law_1576 dbL_law_1576.2.1
theorem dL_law_1578 : decode cL_law 1578 = .ok (.invokestatic 315, 3) := dgq (p := 2) daL_law_1576 dbL_law_1576.2.2.1
theorem dL_law_1581 : decode cL_law 1581 = .ok (.istore 6, 2) := dgq (p := 5) daL_law_1576 dbL_law_1576.2.2.2.1
theorem dL_law_1583 : decode cL_law 1583 = .ok (.aload_n 2, 1) := dgq (p := 7) daL_law_1576 dbL_law_1576.2.2.2.2.1
theorem dL_law_1584 : decode cL_law 1584 = .ok (.aload_n 0, 1) := dgq (p := 8) daL_law_1576 dbL_law_1576.2.2.2.2.2.1
theorem dL_law_1585 : decode cL_law 1585 = .ok (.iload 5, 2) := dgq (p := 9) daL_law_1576 dbL_law_1576.2.2.2.2.2.2.1
theorem dL_law_1587 : decode cL_law 1587 = .ok (.iconst 1, 1) := dgq (p := 11) daL_law_1576 dbL_law_1576.2.2.2.2.2.2.2.1
theorem dL_law_1588 : decode cL_law 1588 = .ok (.iadd, 1) := dgq (p := 12) daL_law_1576 dbL_law_1576.2.2.2.2.2.2.2.2.1
theorem dL_law_1589 : decode cL_law 1589 = .ok (.iaload, 1) := dgq (p := 13) daL_law_1576 dbL_law_1576.2.2.2.2.2.2.2.2.2
def dsL_law_1590 : ByteArray := ⟨#[42, 21, 5, 5, 96, 46, 182, 1, 61, 54, 7, 167, 5, 43, 43, 42]⟩
theorem daL_law_1590 : agB cL_law dsL_law_1590 1590 := agB_of (n := 16) (by decide +kernel)
theorem dbL_law_1590 : (decode dsL_law_1590 0 = .ok (.aload_n 0, 1) ∧ okop dsL_law_1590 0 = true) ∧ (decode dsL_law_1590 1 = .ok (.iload 5, 2) ∧ okop dsL_law_1590 1 = true) ∧ (decode dsL_law_1590 3 = .ok (.iconst 2, 1) ∧ okop dsL_law_1590 3 = true) ∧ (decode dsL_law_1590 4 = .ok (.iadd, 1) ∧ okop dsL_law_1590 4 = true) ∧ (decode dsL_law_1590 5 = .ok (.iaload, 1) ∧ okop dsL_law_1590 5 = true) ∧ (decode dsL_law_1590 6 = .ok (.invokevirtual 317, 3) ∧ okop dsL_law_1590 6 = true) ∧ (decode dsL_law_1590 9 = .ok (.istore 7, 2) ∧ okop dsL_law_1590 9 = true) ∧ (decode dsL_law_1590 11 = .ok (.goto 1323, 3) ∧ okop dsL_law_1590 11 = true) ∧ (decode dsL_law_1590 14 = .ok (.aload_n 1, 1) ∧ okop dsL_law_1590 14 = true) ∧ (decode dsL_law_1590 15 = .ok (.aload_n 0, 1) ∧ okop dsL_law_1590 15 = true) := by decide +kernel
theorem dL_law_1590 : decode cL_law 1590 = .ok (.aload_n 0, 1) := dgq (p := 0) daL_law_1590 dbL_law_1590.1
theorem dL_law_1591 : decode cL_law 1591 = .ok (.iload 5, 2) := dgq (p := 1) daL_law_1590 dbL_law_1590.2.1
theorem dL_law_1593 : decode cL_law 1593 = .ok (.iconst 2, 1) := dgq (p := 3) daL_law_1590 dbL_law_1590.2.2.1
theorem dL_law_1594 : decode cL_law 1594 = .ok (.iadd, 1) := dgq (p := 4) daL_law_1590 dbL_law_1590.2.2.2.1
theorem dL_law_1595 : decode cL_law 1595 = .ok (.iaload, 1) := dgq (p := 5) daL_law_1590 dbL_law_1590.2.2.2.2.1
theorem dL_law_1596 : decode cL_law 1596 = .ok (.invokevirtual 317, 3) := dgq (p := 6) daL_law_1590 dbL_law_1590.2.2.2.2.2.1
theorem dL_law_1599 : decode cL_law 1599 = .ok (.istore 7, 2) := dgq (p := 9) daL_law_1590 dbL_law_1590.2.2.2.2.2.2.1
theorem dL_law_1601 : decode cL_law 1601 = .ok (.goto 1323, 3) := dgq (p := 11) daL_law_1590 dbL_law_1590.2.2.2.2.2.2.2.1
theorem dL_law_1604 : decode cL_law 1604 = .ok (.aload_n 1, 1) := dgq (p := 14) daL_law_1590 dbL_law_1590.2.2.2.2.2.2.2.2.1
theorem dL_law_1605 : decode cL_law 1605 = .ok (.aload_n 0, 1) := dgq (p := 15) daL_law_1590 dbL_law_1590.2.2.2.2.2.2.2.2.2
def dsL_law_1606 : ByteArray := ⟨#[21, 5, 4, 96, 46, 45, 184, 1, 62, 54, 6, 44, 42, 21, 5]⟩
theorem daL_law_1606 : agB cL_law dsL_law_1606 1606 := agB_of (n := 15) (by decide +kernel)
theorem dbL_law_1606 : (decode dsL_law_1606 0 = .ok (.iload 5, 2) ∧ okop dsL_law_1606 0 = true) ∧ (decode dsL_law_1606 2 = .ok (.iconst 1, 1) ∧ okop dsL_law_1606 2 = true) ∧ (decode dsL_law_1606 3 = .ok (.iadd, 1) ∧ okop dsL_law_1606 3 = true) ∧ (decode dsL_law_1606 4 = .ok (.iaload, 1) ∧ okop dsL_law_1606 4 = true) ∧ (decode dsL_law_1606 5 = .ok (.aload_n 3, 1) ∧ okop dsL_law_1606 5 = true) ∧ (decode dsL_law_1606 6 = .ok (.invokestatic 318, 3) ∧ okop dsL_law_1606 6 = true) ∧ (decode dsL_law_1606 9 = .ok (.istore 6, 2) ∧ okop dsL_law_1606 9 = true) ∧ (decode dsL_law_1606 11 = .ok (.aload_n 2, 1) ∧ okop dsL_law_1606 11 = true) ∧ (decode dsL_law_1606 12 = .ok (.aload_n 0, 1) ∧ okop dsL_law_1606 12 = true) ∧ (decode dsL_law_1606 13 = .ok (.iload 5, 2) ∧ okop dsL_law_1606 13 = true) := by decide +kernel
theorem dL_law_1606 : decode cL_law 1606 = .ok (.iload 5, 2) := dgq (p := 0) daL_law_1606 dbL_law_1606.1
theorem dL_law_1608 : decode cL_law 1608 = .ok (.iconst 1, 1) := dgq (p := 2) daL_law_1606 dbL_law_1606.2.1
theorem dL_law_1609 : decode cL_law 1609 = .ok (.iadd, 1) := dgq (p := 3) daL_law_1606 dbL_law_1606.2.2.1
theorem dL_law_1610 : decode cL_law 1610 = .ok (.iaload, 1) := dgq (p := 4) daL_law_1606 dbL_law_1606.2.2.2.1
theorem dL_law_1611 : decode cL_law 1611 = .ok (.aload_n 3, 1) := dgq (p := 5) daL_law_1606 dbL_law_1606.2.2.2.2.1
theorem dL_law_1612 : decode cL_law 1612 = .ok (.invokestatic 318, 3) := dgq (p := 6) daL_law_1606 dbL_law_1606.2.2.2.2.2.1
theorem dL_law_1615 : decode cL_law 1615 = .ok (.istore 6, 2) := dgq (p := 9) daL_law_1606 dbL_law_1606.2.2.2.2.2.2.1
theorem dL_law_1617 : decode cL_law 1617 = .ok (.aload_n 2, 1) := dgq (p := 11) daL_law_1606 dbL_law_1606.2.2.2.2.2.2.2.1
theorem dL_law_1618 : decode cL_law 1618 = .ok (.aload_n 0, 1) := dgq (p := 12) daL_law_1606 dbL_law_1606.2.2.2.2.2.2.2.2.1
theorem dL_law_1619 : decode cL_law 1619 = .ok (.iload 5, 2) := dgq (p := 13) daL_law_1606 dbL_law_1606.2.2.2.2.2.2.2.2.2
def dsL_law_1621 : ByteArray := ⟨#[4, 96, 46, 182, 1, 64, 54, 7, 167, 5, 15, 43, 42, 21, 5, 4]⟩
theorem daL_law_1621 : agB cL_law dsL_law_1621 1621 := agB_of (n := 16) (by decide +kernel)
theorem dbL_law_1621 : (decode dsL_law_1621 0 = .ok (.iconst 1, 1) ∧ okop dsL_law_1621 0 = true) ∧ (decode dsL_law_1621 1 = .ok (.iadd, 1) ∧ okop dsL_law_1621 1 = true) ∧ (decode dsL_law_1621 2 = .ok (.iaload, 1) ∧ okop dsL_law_1621 2 = true) ∧ (decode dsL_law_1621 3 = .ok (.invokevirtual 320, 3) ∧ okop dsL_law_1621 3 = true) ∧ (decode dsL_law_1621 6 = .ok (.istore 7, 2) ∧ okop dsL_law_1621 6 = true) ∧ (decode dsL_law_1621 8 = .ok (.goto 1295, 3) ∧ okop dsL_law_1621 8 = true) ∧ (decode dsL_law_1621 11 = .ok (.aload_n 1, 1) ∧ okop dsL_law_1621 11 = true) ∧ (decode dsL_law_1621 12 = .ok (.aload_n 0, 1) ∧ okop dsL_law_1621 12 = true) ∧ (decode dsL_law_1621 13 = .ok (.iload 5, 2) ∧ okop dsL_law_1621 13 = true) ∧ (decode dsL_law_1621 15 = .ok (.iconst 1, 1) ∧ okop dsL_law_1621 15 = true) := by decide +kernel
theorem dL_law_1621 : decode cL_law 1621 = .ok (.iconst 1, 1) := dgq (p := 0) daL_law_1621 dbL_law_1621.1
theorem dL_law_1622 : decode cL_law 1622 = .ok (.iadd, 1) := dgq (p := 1) daL_law_1621 dbL_law_1621.2.1
theorem dL_law_1623 : decode cL_law 1623 = .ok (.iaload, 1) := dgq (p := 2) daL_law_1621 dbL_law_1621.2.2.1
theorem dL_law_1624 : decode cL_law 1624 = .ok (.invokevirtual 320, 3) := dgq (p := 3) daL_law_1621 dbL_law_1621.2.2.2.1
theorem dL_law_1627 : decode cL_law 1627 = .ok (.istore 7, 2) := dgq (p := 6) daL_law_1621 dbL_law_1621.2.2.2.2.1
theorem dL_law_1629 : decode cL_law 1629 = .ok (.goto 1295, 3) := dgq (p := 8) daL_law_1621 dbL_law_1621.2.2.2.2.2.1
theorem dL_law_1632 : decode cL_law 1632 = .ok (.aload_n 1, 1) := dgq (p := 11) daL_law_1621 dbL_law_1621.2.2.2.2.2.2.1
theorem dL_law_1633 : decode cL_law 1633 = .ok (.aload_n 0, 1) := dgq (p := 12) daL_law_1621 dbL_law_1621.2.2.2.2.2.2.2.1
theorem dL_law_1634 : decode cL_law 1634 = .ok (.iload 5, 2) := dgq (p := 13) daL_law_1621 dbL_law_1621.2.2.2.2.2.2.2.2.1
theorem dL_law_1636 : decode cL_law 1636 = .ok (.iconst 1, 1) := dgq (p := 15) daL_law_1621 dbL_law_1621.2.2.2.2.2.2.2.2.2
def dsL_law_1637 : ByteArray := ⟨#[96, 46, 42, 21, 5, 5, 96, 46, 42, 21, 5, 6]⟩
theorem daL_law_1637 : agB cL_law dsL_law_1637 1637 := agB_of (n := 12) (by decide +kernel)
theorem dbL_law_1637 : (decode dsL_law_1637 0 = .ok (.iadd, 1) ∧ okop dsL_law_1637 0 = true) ∧ (decode dsL_law_1637 1 = .ok (.iaload, 1) ∧ okop dsL_law_1637 1 = true) ∧ (decode dsL_law_1637 2 = .ok (.aload_n 0, 1) ∧ okop dsL_law_1637 2 = true) ∧ (decode dsL_law_1637 3 = .ok (.iload 5, 2) ∧ okop dsL_law_1637 3 = true) ∧ (decode dsL_law_1637 5 = .ok (.iconst 2, 1) ∧ okop dsL_law_1637 5 = true) ∧ (decode dsL_law_1637 6 = .ok (.iadd, 1) ∧ okop dsL_law_1637 6 = true) ∧ (decode dsL_law_1637 7 = .ok (.iaload, 1) ∧ okop dsL_law_1637 7 = true) ∧ (decode dsL_law_1637 8 = .ok (.aload_n 0, 1) ∧ okop dsL_law_1637 8 = true) ∧ (decode dsL_law_1637 9 = .ok (.iload 5, 2) ∧ okop dsL_law_1637 9 = true) ∧ (decode dsL_law_1637 11 = .ok (.iconst 3, 1) ∧ okop dsL_law_1637 11 = true) := by decide +kernel
theorem dL_law_1637 : decode cL_law 1637 = .ok (.iadd, 1) := dgq (p := 0) daL_law_1637 dbL_law_1637.1
theorem dL_law_1638 : decode cL_law 1638 = .ok (.iaload, 1) := dgq (p := 1) daL_law_1637 dbL_law_1637.2.1
theorem dL_law_1639 : decode cL_law 1639 = .ok (.aload_n 0, 1) := dgq (p := 2) daL_law_1637 dbL_law_1637.2.2.1
theorem dL_law_1640 : decode cL_law 1640 = .ok (.iload 5, 2) := dgq (p := 3) daL_law_1637 dbL_law_1637.2.2.2.1
theorem dL_law_1642 : decode cL_law 1642 = .ok (.iconst 2, 1) := dgq (p := 5) daL_law_1637 dbL_law_1637.2.2.2.2.1
theorem dL_law_1643 : decode cL_law 1643 = .ok (.iadd, 1) := dgq (p := 6) daL_law_1637 dbL_law_1637.2.2.2.2.2.1
theorem dL_law_1644 : decode cL_law 1644 = .ok (.iaload, 1) := dgq (p := 7) daL_law_1637 dbL_law_1637.2.2.2.2.2.2.1
theorem dL_law_1645 : decode cL_law 1645 = .ok (.aload_n 0, 1) := dgq (p := 8) daL_law_1637 dbL_law_1637.2.2.2.2.2.2.2.1
theorem dL_law_1646 : decode cL_law 1646 = .ok (.iload 5, 2) := dgq (p := 9) daL_law_1637 dbL_law_1637.2.2.2.2.2.2.2.2.1
theorem dL_law_1648 : decode cL_law 1648 = .ok (.iconst 3, 1) := dgq (p := 11) daL_law_1637 dbL_law_1637.2.2.2.2.2.2.2.2.2
def dsL_law_1649 : ByteArray := ⟨#[96, 46, 42, 21, 5, 7, 96, 46, 45, 184, 1, 65, 54, 6]⟩
theorem daL_law_1649 : agB cL_law dsL_law_1649 1649 := agB_of (n := 14) (by decide +kernel)
theorem dbL_law_1649 : (decode dsL_law_1649 0 = .ok (.iadd, 1) ∧ okop dsL_law_1649 0 = true) ∧ (decode dsL_law_1649 1 = .ok (.iaload, 1) ∧ okop dsL_law_1649 1 = true) ∧ (decode dsL_law_1649 2 = .ok (.aload_n 0, 1) ∧ okop dsL_law_1649 2 = true) ∧ (decode dsL_law_1649 3 = .ok (.iload 5, 2) ∧ okop dsL_law_1649 3 = true) ∧ (decode dsL_law_1649 5 = .ok (.iconst 4, 1) ∧ okop dsL_law_1649 5 = true) ∧ (decode dsL_law_1649 6 = .ok (.iadd, 1) ∧ okop dsL_law_1649 6 = true) ∧ (decode dsL_law_1649 7 = .ok (.iaload, 1) ∧ okop dsL_law_1649 7 = true) ∧ (decode dsL_law_1649 8 = .ok (.aload_n 3, 1) ∧ okop dsL_law_1649 8 = true) ∧ (decode dsL_law_1649 9 = .ok (.invokestatic 321, 3) ∧ okop dsL_law_1649 9 = true) ∧ (decode dsL_law_1649 12 = .ok (.istore 6, 2) ∧ okop dsL_law_1649 12 = true) := by decide +kernel
theorem dL_law_1649 : decode cL_law 1649 = .ok (.iadd, 1) := dgq (p := 0) daL_law_1649 dbL_law_1649.1
theorem dL_law_1650 : decode cL_law 1650 = .ok (.iaload, 1) := dgq (p := 1) daL_law_1649 dbL_law_1649.2.1
theorem dL_law_1651 : decode cL_law 1651 = .ok (.aload_n 0, 1) := dgq (p := 2) daL_law_1649 dbL_law_1649.2.2.1
theorem dL_law_1652 : decode cL_law 1652 = .ok (.iload 5, 2) := dgq (p := 3) daL_law_1649 dbL_law_1649.2.2.2.1
theorem dL_law_1654 : decode cL_law 1654 = .ok (.iconst 4, 1) := dgq (p := 5) daL_law_1649 dbL_law_1649.2.2.2.2.1
theorem dL_law_1655 : decode cL_law 1655 = .ok (.iadd, 1) := dgq (p := 6) daL_law_1649 dbL_law_1649.2.2.2.2.2.1
theorem dL_law_1656 : decode cL_law 1656 = .ok (.iaload, 1) := dgq (p := 7) daL_law_1649 dbL_law_1649.2.2.2.2.2.2.1
theorem dL_law_1657 : decode cL_law 1657 = .ok (.aload_n 3, 1) := dgq (p := 8) daL_law_1649 dbL_law_1649.2.2.2.2.2.2.2.1
theorem dL_law_1658 : decode cL_law 1658 = .ok (.invokestatic 321, 3) := dgq (p := 9) daL_law_1649 dbL_law_1649.2.2.2.2.2.2.2.2.1
theorem dL_law_1661 : decode cL_law 1661 = .ok (.istore 6, 2) := dgq (p := 12) daL_law_1649 dbL_law_1649.2.2.2.2.2.2.2.2.2
def dsL_law_1663 : ByteArray := ⟨#[44, 42, 21, 5, 4, 96, 46, 42, 21, 5, 5, 96]⟩
theorem daL_law_1663 : agB cL_law dsL_law_1663 1663 := agB_of (n := 12) (by decide +kernel)
theorem dbL_law_1663 : (decode dsL_law_1663 0 = .ok (.aload_n 2, 1) ∧ okop dsL_law_1663 0 = true) ∧ (decode dsL_law_1663 1 = .ok (.aload_n 0, 1) ∧ okop dsL_law_1663 1 = true) ∧ (decode dsL_law_1663 2 = .ok (.iload 5, 2) ∧ okop dsL_law_1663 2 = true) ∧ (decode dsL_law_1663 4 = .ok (.iconst 1, 1) ∧ okop dsL_law_1663 4 = true) ∧ (decode dsL_law_1663 5 = .ok (.iadd, 1) ∧ okop dsL_law_1663 5 = true) ∧ (decode dsL_law_1663 6 = .ok (.iaload, 1) ∧ okop dsL_law_1663 6 = true) ∧ (decode dsL_law_1663 7 = .ok (.aload_n 0, 1) ∧ okop dsL_law_1663 7 = true) ∧ (decode dsL_law_1663 8 = .ok (.iload 5, 2) ∧ okop dsL_law_1663 8 = true) ∧ (decode dsL_law_1663 10 = .ok (.iconst 2, 1) ∧ okop dsL_law_1663 10 = true) ∧ (decode dsL_law_1663 11 = .ok (.iadd, 1) ∧ okop dsL_law_1663 11 = true) := by decide +kernel
theorem dL_law_1663 : decode cL_law 1663 = .ok (.aload_n 2, 1) := dgq (p := 0) daL_law_1663 dbL_law_1663.1
theorem dL_law_1664 : decode cL_law 1664 = .ok (.aload_n 0, 1) := dgq (p := 1) daL_law_1663 dbL_law_1663.2.1
theorem dL_law_1665 : decode cL_law 1665 = .ok (.iload 5, 2) := dgq (p := 2) daL_law_1663 dbL_law_1663.2.2.1
theorem dL_law_1667 : decode cL_law 1667 = .ok (.iconst 1, 1) := dgq (p := 4) daL_law_1663 dbL_law_1663.2.2.2.1
theorem dL_law_1668 : decode cL_law 1668 = .ok (.iadd, 1) := dgq (p := 5) daL_law_1663 dbL_law_1663.2.2.2.2.1
theorem dL_law_1669 : decode cL_law 1669 = .ok (.iaload, 1) := dgq (p := 6) daL_law_1663 dbL_law_1663.2.2.2.2.2.1
theorem dL_law_1670 : decode cL_law 1670 = .ok (.aload_n 0, 1) := dgq (p := 7) daL_law_1663 dbL_law_1663.2.2.2.2.2.2.1
theorem dL_law_1671 : decode cL_law 1671 = .ok (.iload 5, 2) := dgq (p := 8) daL_law_1663 dbL_law_1663.2.2.2.2.2.2.2.1
theorem dL_law_1673 : decode cL_law 1673 = .ok (.iconst 2, 1) := dgq (p := 10) daL_law_1663 dbL_law_1663.2.2.2.2.2.2.2.2.1
theorem dL_law_1674 : decode cL_law 1674 = .ok (.iadd, 1) := dgq (p := 11) daL_law_1663 dbL_law_1663.2.2.2.2.2.2.2.2.2
def dsL_law_1675 : ByteArray := ⟨#[46, 42, 21, 5, 6, 96, 46, 42, 21, 5, 7, 96]⟩
theorem daL_law_1675 : agB cL_law dsL_law_1675 1675 := agB_of (n := 12) (by decide +kernel)
theorem dbL_law_1675 : (decode dsL_law_1675 0 = .ok (.iaload, 1) ∧ okop dsL_law_1675 0 = true) ∧ (decode dsL_law_1675 1 = .ok (.aload_n 0, 1) ∧ okop dsL_law_1675 1 = true) ∧ (decode dsL_law_1675 2 = .ok (.iload 5, 2) ∧ okop dsL_law_1675 2 = true) ∧ (decode dsL_law_1675 4 = .ok (.iconst 3, 1) ∧ okop dsL_law_1675 4 = true) ∧ (decode dsL_law_1675 5 = .ok (.iadd, 1) ∧ okop dsL_law_1675 5 = true) ∧ (decode dsL_law_1675 6 = .ok (.iaload, 1) ∧ okop dsL_law_1675 6 = true) ∧ (decode dsL_law_1675 7 = .ok (.aload_n 0, 1) ∧ okop dsL_law_1675 7 = true) ∧ (decode dsL_law_1675 8 = .ok (.iload 5, 2) ∧ okop dsL_law_1675 8 = true) ∧ (decode dsL_law_1675 10 = .ok (.iconst 4, 1) ∧ okop dsL_law_1675 10 = true) ∧ (decode dsL_law_1675 11 = .ok (.iadd, 1) ∧ okop dsL_law_1675 11 = true) := by decide +kernel
theorem dL_law_1675 : decode cL_law 1675 = .ok (.iaload, 1) := dgq (p := 0) daL_law_1675 dbL_law_1675.1
theorem dL_law_1676 : decode cL_law 1676 = .ok (.aload_n 0, 1) := dgq (p := 1) daL_law_1675 dbL_law_1675.2.1
theorem dL_law_1677 : decode cL_law 1677 = .ok (.iload 5, 2) := dgq (p := 2) daL_law_1675 dbL_law_1675.2.2.1
theorem dL_law_1679 : decode cL_law 1679 = .ok (.iconst 3, 1) := dgq (p := 4) daL_law_1675 dbL_law_1675.2.2.2.1
theorem dL_law_1680 : decode cL_law 1680 = .ok (.iadd, 1) := dgq (p := 5) daL_law_1675 dbL_law_1675.2.2.2.2.1
theorem dL_law_1681 : decode cL_law 1681 = .ok (.iaload, 1) := dgq (p := 6) daL_law_1675 dbL_law_1675.2.2.2.2.2.1
theorem dL_law_1682 : decode cL_law 1682 = .ok (.aload_n 0, 1) := dgq (p := 7) daL_law_1675 dbL_law_1675.2.2.2.2.2.2.1
theorem dL_law_1683 : decode cL_law 1683 = .ok (.iload 5, 2) := dgq (p := 8) daL_law_1675 dbL_law_1675.2.2.2.2.2.2.2.1
theorem dL_law_1685 : decode cL_law 1685 = .ok (.iconst 4, 1) := dgq (p := 10) daL_law_1675 dbL_law_1675.2.2.2.2.2.2.2.2.1
theorem dL_law_1686 : decode cL_law 1686 = .ok (.iadd, 1) := dgq (p := 11) daL_law_1675 dbL_law_1675.2.2.2.2.2.2.2.2.2
def dsL_law_1687 : ByteArray := ⟨#[46, 182, 1, 67, 54, 7, 167, 4, 207, 43, 42, 21, 5, 4, 96, 46]⟩
theorem daL_law_1687 : agB cL_law dsL_law_1687 1687 := agB_of (n := 16) (by decide +kernel)
theorem dbL_law_1687 : (decode dsL_law_1687 0 = .ok (.iaload, 1) ∧ okop dsL_law_1687 0 = true) ∧ (decode dsL_law_1687 1 = .ok (.invokevirtual 323, 3) ∧ okop dsL_law_1687 1 = true) ∧ (decode dsL_law_1687 4 = .ok (.istore 7, 2) ∧ okop dsL_law_1687 4 = true) ∧ (decode dsL_law_1687 6 = .ok (.goto 1231, 3) ∧ okop dsL_law_1687 6 = true) ∧ (decode dsL_law_1687 9 = .ok (.aload_n 1, 1) ∧ okop dsL_law_1687 9 = true) ∧ (decode dsL_law_1687 10 = .ok (.aload_n 0, 1) ∧ okop dsL_law_1687 10 = true) ∧ (decode dsL_law_1687 11 = .ok (.iload 5, 2) ∧ okop dsL_law_1687 11 = true) ∧ (decode dsL_law_1687 13 = .ok (.iconst 1, 1) ∧ okop dsL_law_1687 13 = true) ∧ (decode dsL_law_1687 14 = .ok (.iadd, 1) ∧ okop dsL_law_1687 14 = true) ∧ (decode dsL_law_1687 15 = .ok (.iaload, 1) ∧ okop dsL_law_1687 15 = true) := by decide +kernel
theorem dL_law_1687 : decode cL_law 1687 = .ok (.iaload, 1) := dgq (p := 0) daL_law_1687 dbL_law_1687.1
theorem dL_law_1688 : decode cL_law 1688 = .ok (.invokevirtual 323, 3) := dgq (p := 1) daL_law_1687 dbL_law_1687.2.1
theorem dL_law_1691 : decode cL_law 1691 = .ok (.istore 7, 2) := dgq (p := 4) daL_law_1687 dbL_law_1687.2.2.1
theorem dL_law_1693 : decode cL_law 1693 = .ok (.goto 1231, 3) := dgq (p := 6) daL_law_1687 dbL_law_1687.2.2.2.1
theorem dL_law_1696 : decode cL_law 1696 = .ok (.aload_n 1, 1) := dgq (p := 9) daL_law_1687 dbL_law_1687.2.2.2.2.1
theorem dL_law_1697 : decode cL_law 1697 = .ok (.aload_n 0, 1) := dgq (p := 10) daL_law_1687 dbL_law_1687.2.2.2.2.2.1
theorem dL_law_1698 : decode cL_law 1698 = .ok (.iload 5, 2) := dgq (p := 11) daL_law_1687 dbL_law_1687.2.2.2.2.2.2.1
theorem dL_law_1700 : decode cL_law 1700 = .ok (.iconst 1, 1) := dgq (p := 13) daL_law_1687 dbL_law_1687.2.2.2.2.2.2.2.1
theorem dL_law_1701 : decode cL_law 1701 = .ok (.iadd, 1) := dgq (p := 14) daL_law_1687 dbL_law_1687.2.2.2.2.2.2.2.2.1
theorem dL_law_1702 : decode cL_law 1702 = .ok (.iaload, 1) := dgq (p := 15) daL_law_1687 dbL_law_1687.2.2.2.2.2.2.2.2.2
def dsL_law_1703 : ByteArray := ⟨#[42, 21, 5, 5, 96, 46, 42, 21, 5, 6, 96, 46]⟩
theorem daL_law_1703 : agB cL_law dsL_law_1703 1703 := agB_of (n := 12) (by decide +kernel)
theorem dbL_law_1703 : (decode dsL_law_1703 0 = .ok (.aload_n 0, 1) ∧ okop dsL_law_1703 0 = true) ∧ (decode dsL_law_1703 1 = .ok (.iload 5, 2) ∧ okop dsL_law_1703 1 = true) ∧ (decode dsL_law_1703 3 = .ok (.iconst 2, 1) ∧ okop dsL_law_1703 3 = true) ∧ (decode dsL_law_1703 4 = .ok (.iadd, 1) ∧ okop dsL_law_1703 4 = true) ∧ (decode dsL_law_1703 5 = .ok (.iaload, 1) ∧ okop dsL_law_1703 5 = true) ∧ (decode dsL_law_1703 6 = .ok (.aload_n 0, 1) ∧ okop dsL_law_1703 6 = true) ∧ (decode dsL_law_1703 7 = .ok (.iload 5, 2) ∧ okop dsL_law_1703 7 = true) ∧ (decode dsL_law_1703 9 = .ok (.iconst 3, 1) ∧ okop dsL_law_1703 9 = true) ∧ (decode dsL_law_1703 10 = .ok (.iadd, 1) ∧ okop dsL_law_1703 10 = true) ∧ (decode dsL_law_1703 11 = .ok (.iaload, 1) ∧ okop dsL_law_1703 11 = true) := by decide +kernel
theorem dL_law_1703 : decode cL_law 1703 = .ok (.aload_n 0, 1) := dgq (p := 0) daL_law_1703 dbL_law_1703.1
theorem dL_law_1704 : decode cL_law 1704 = .ok (.iload 5, 2) := dgq (p := 1) daL_law_1703 dbL_law_1703.2.1
theorem dL_law_1706 : decode cL_law 1706 = .ok (.iconst 2, 1) := dgq (p := 3) daL_law_1703 dbL_law_1703.2.2.1
theorem dL_law_1707 : decode cL_law 1707 = .ok (.iadd, 1) := dgq (p := 4) daL_law_1703 dbL_law_1703.2.2.2.1
theorem dL_law_1708 : decode cL_law 1708 = .ok (.iaload, 1) := dgq (p := 5) daL_law_1703 dbL_law_1703.2.2.2.2.1
theorem dL_law_1709 : decode cL_law 1709 = .ok (.aload_n 0, 1) := dgq (p := 6) daL_law_1703 dbL_law_1703.2.2.2.2.2.1
theorem dL_law_1710 : decode cL_law 1710 = .ok (.iload 5, 2) := dgq (p := 7) daL_law_1703 dbL_law_1703.2.2.2.2.2.2.1
theorem dL_law_1712 : decode cL_law 1712 = .ok (.iconst 3, 1) := dgq (p := 9) daL_law_1703 dbL_law_1703.2.2.2.2.2.2.2.1
theorem dL_law_1713 : decode cL_law 1713 = .ok (.iadd, 1) := dgq (p := 10) daL_law_1703 dbL_law_1703.2.2.2.2.2.2.2.2.1
theorem dL_law_1714 : decode cL_law 1714 = .ok (.iaload, 1) := dgq (p := 11) daL_law_1703 dbL_law_1703.2.2.2.2.2.2.2.2.2
def dsL_law_1715 : ByteArray := ⟨#[45, 184, 1, 68, 54, 6, 44, 42, 21, 5, 4, 96, 46, 42]⟩
theorem daL_law_1715 : agB cL_law dsL_law_1715 1715 := agB_of (n := 14) (by decide +kernel)
theorem dbL_law_1715 : (decode dsL_law_1715 0 = .ok (.aload_n 3, 1) ∧ okop dsL_law_1715 0 = true) ∧ (decode dsL_law_1715 1 = .ok (.invokestatic 324, 3) ∧ okop dsL_law_1715 1 = true) ∧ (decode dsL_law_1715 4 = .ok (.istore 6, 2) ∧ okop dsL_law_1715 4 = true) ∧ (decode dsL_law_1715 6 = .ok (.aload_n 2, 1) ∧ okop dsL_law_1715 6 = true) ∧ (decode dsL_law_1715 7 = .ok (.aload_n 0, 1) ∧ okop dsL_law_1715 7 = true) ∧ (decode dsL_law_1715 8 = .ok (.iload 5, 2) ∧ okop dsL_law_1715 8 = true) ∧ (decode dsL_law_1715 10 = .ok (.iconst 1, 1) ∧ okop dsL_law_1715 10 = true) ∧ (decode dsL_law_1715 11 = .ok (.iadd, 1) ∧ okop dsL_law_1715 11 = true) ∧ (decode dsL_law_1715 12 = .ok (.iaload, 1) ∧ okop dsL_law_1715 12 = true) ∧ (decode dsL_law_1715 13 = .ok (.aload_n 0, 1) ∧ okop dsL_law_1715 13 = true) := by decide +kernel
theorem dL_law_1715 : decode cL_law 1715 = .ok (.aload_n 3, 1) := dgq (p := 0) daL_law_1715 dbL_law_1715.1
theorem dL_law_1716 : decode cL_law 1716 = .ok (.invokestatic 324, 3) := dgq (p := 1) daL_law_1715 dbL_law_1715.2.1
theorem dL_law_1719 : decode cL_law 1719 = .ok (.istore 6, 2) := dgq (p := 4) daL_law_1715 dbL_law_1715.2.2.1
theorem dL_law_1721 : decode cL_law 1721 = .ok (.aload_n 2, 1) := dgq (p := 6) daL_law_1715 dbL_law_1715.2.2.2.1
theorem dL_law_1722 : decode cL_law 1722 = .ok (.aload_n 0, 1) := dgq (p := 7) daL_law_1715 dbL_law_1715.2.2.2.2.1
theorem dL_law_1723 : decode cL_law 1723 = .ok (.iload 5, 2) := dgq (p := 8) daL_law_1715 dbL_law_1715.2.2.2.2.2.1
theorem dL_law_1725 : decode cL_law 1725 = .ok (.iconst 1, 1) := dgq (p := 10) daL_law_1715 dbL_law_1715.2.2.2.2.2.2.1
theorem dL_law_1726 : decode cL_law 1726 = .ok (.iadd, 1) := dgq (p := 11) daL_law_1715 dbL_law_1715.2.2.2.2.2.2.2.1
theorem dL_law_1727 : decode cL_law 1727 = .ok (.iaload, 1) := dgq (p := 12) daL_law_1715 dbL_law_1715.2.2.2.2.2.2.2.2.1
theorem dL_law_1728 : decode cL_law 1728 = .ok (.aload_n 0, 1) := dgq (p := 13) daL_law_1715 dbL_law_1715.2.2.2.2.2.2.2.2.2
def dsL_law_1729 : ByteArray := ⟨#[21, 5, 5, 96, 46, 42, 21, 5, 6, 96, 46, 182, 1, 70]⟩
theorem daL_law_1729 : agB cL_law dsL_law_1729 1729 := agB_of (n := 14) (by decide +kernel)
theorem dbL_law_1729 : (decode dsL_law_1729 0 = .ok (.iload 5, 2) ∧ okop dsL_law_1729 0 = true) ∧ (decode dsL_law_1729 2 = .ok (.iconst 2, 1) ∧ okop dsL_law_1729 2 = true) ∧ (decode dsL_law_1729 3 = .ok (.iadd, 1) ∧ okop dsL_law_1729 3 = true) ∧ (decode dsL_law_1729 4 = .ok (.iaload, 1) ∧ okop dsL_law_1729 4 = true) ∧ (decode dsL_law_1729 5 = .ok (.aload_n 0, 1) ∧ okop dsL_law_1729 5 = true) ∧ (decode dsL_law_1729 6 = .ok (.iload 5, 2) ∧ okop dsL_law_1729 6 = true) ∧ (decode dsL_law_1729 8 = .ok (.iconst 3, 1) ∧ okop dsL_law_1729 8 = true) ∧ (decode dsL_law_1729 9 = .ok (.iadd, 1) ∧ okop dsL_law_1729 9 = true) ∧ (decode dsL_law_1729 10 = .ok (.iaload, 1) ∧ okop dsL_law_1729 10 = true) ∧ (decode dsL_law_1729 11 = .ok (.invokevirtual 326, 3) ∧ okop dsL_law_1729 11 = true) := by decide +kernel
theorem dL_law_1729 : decode cL_law 1729 = .ok (.iload 5, 2) := dgq (p := 0) daL_law_1729 dbL_law_1729.1
theorem dL_law_1731 : decode cL_law 1731 = .ok (.iconst 2, 1) := dgq (p := 2) daL_law_1729 dbL_law_1729.2.1
theorem dL_law_1732 : decode cL_law 1732 = .ok (.iadd, 1) := dgq (p := 3) daL_law_1729 dbL_law_1729.2.2.1
theorem dL_law_1733 : decode cL_law 1733 = .ok (.iaload, 1) := dgq (p := 4) daL_law_1729 dbL_law_1729.2.2.2.1
theorem dL_law_1734 : decode cL_law 1734 = .ok (.aload_n 0, 1) := dgq (p := 5) daL_law_1729 dbL_law_1729.2.2.2.2.1
theorem dL_law_1735 : decode cL_law 1735 = .ok (.iload 5, 2) := dgq (p := 6) daL_law_1729 dbL_law_1729.2.2.2.2.2.1
theorem dL_law_1737 : decode cL_law 1737 = .ok (.iconst 3, 1) := dgq (p := 8) daL_law_1729 dbL_law_1729.2.2.2.2.2.2.1
theorem dL_law_1738 : decode cL_law 1738 = .ok (.iadd, 1) := dgq (p := 9) daL_law_1729 dbL_law_1729.2.2.2.2.2.2.2.1
theorem dL_law_1739 : decode cL_law 1739 = .ok (.iaload, 1) := dgq (p := 10) daL_law_1729 dbL_law_1729.2.2.2.2.2.2.2.2.1
theorem dL_law_1740 : decode cL_law 1740 = .ok (.invokevirtual 326, 3) := dgq (p := 11) daL_law_1729 dbL_law_1729.2.2.2.2.2.2.2.2.2
def dsL_law_1743 : ByteArray := ⟨#[54, 7, 167, 4, 155, 43, 42, 21, 5, 4, 96, 46, 42, 21, 5]⟩
theorem daL_law_1743 : agB cL_law dsL_law_1743 1743 := agB_of (n := 15) (by decide +kernel)
theorem dbL_law_1743 : (decode dsL_law_1743 0 = .ok (.istore 7, 2) ∧ okop dsL_law_1743 0 = true) ∧ (decode dsL_law_1743 2 = .ok (.goto 1179, 3) ∧ okop dsL_law_1743 2 = true) ∧ (decode dsL_law_1743 5 = .ok (.aload_n 1, 1) ∧ okop dsL_law_1743 5 = true) ∧ (decode dsL_law_1743 6 = .ok (.aload_n 0, 1) ∧ okop dsL_law_1743 6 = true) ∧ (decode dsL_law_1743 7 = .ok (.iload 5, 2) ∧ okop dsL_law_1743 7 = true) ∧ (decode dsL_law_1743 9 = .ok (.iconst 1, 1) ∧ okop dsL_law_1743 9 = true) ∧ (decode dsL_law_1743 10 = .ok (.iadd, 1) ∧ okop dsL_law_1743 10 = true) ∧ (decode dsL_law_1743 11 = .ok (.iaload, 1) ∧ okop dsL_law_1743 11 = true) ∧ (decode dsL_law_1743 12 = .ok (.aload_n 0, 1) ∧ okop dsL_law_1743 12 = true) ∧ (decode dsL_law_1743 13 = .ok (.iload 5, 2) ∧ okop dsL_law_1743 13 = true) := by decide +kernel
theorem dL_law_1743 : decode cL_law 1743 = .ok (.istore 7, 2) := dgq (p := 0) daL_law_1743 dbL_law_1743.1
theorem dL_law_1745 : decode cL_law 1745 = .ok (.goto 1179, 3) := dgq (p := 2) daL_law_1743 dbL_law_1743.2.1
theorem dL_law_1748 : decode cL_law 1748 = .ok (.aload_n 1, 1) := dgq (p := 5) daL_law_1743 dbL_law_1743.2.2.1
theorem dL_law_1749 : decode cL_law 1749 = .ok (.aload_n 0, 1) := dgq (p := 6) daL_law_1743 dbL_law_1743.2.2.2.1
theorem dL_law_1750 : decode cL_law 1750 = .ok (.iload 5, 2) := dgq (p := 7) daL_law_1743 dbL_law_1743.2.2.2.2.1
theorem dL_law_1752 : decode cL_law 1752 = .ok (.iconst 1, 1) := dgq (p := 9) daL_law_1743 dbL_law_1743.2.2.2.2.2.1
theorem dL_law_1753 : decode cL_law 1753 = .ok (.iadd, 1) := dgq (p := 10) daL_law_1743 dbL_law_1743.2.2.2.2.2.2.1
theorem dL_law_1754 : decode cL_law 1754 = .ok (.iaload, 1) := dgq (p := 11) daL_law_1743 dbL_law_1743.2.2.2.2.2.2.2.1
theorem dL_law_1755 : decode cL_law 1755 = .ok (.aload_n 0, 1) := dgq (p := 12) daL_law_1743 dbL_law_1743.2.2.2.2.2.2.2.2.1
theorem dL_law_1756 : decode cL_law 1756 = .ok (.iload 5, 2) := dgq (p := 13) daL_law_1743 dbL_law_1743.2.2.2.2.2.2.2.2.2
def dsL_law_1758 : ByteArray := ⟨#[5, 96, 46, 42, 21, 5, 6, 96, 46, 153, 0, 7, 4]⟩
theorem daL_law_1758 : agB cL_law dsL_law_1758 1758 := agB_of (n := 13) (by decide +kernel)
theorem dbL_law_1758 : (decode dsL_law_1758 0 = .ok (.iconst 2, 1) ∧ okop dsL_law_1758 0 = true) ∧ (decode dsL_law_1758 1 = .ok (.iadd, 1) ∧ okop dsL_law_1758 1 = true) ∧ (decode dsL_law_1758 2 = .ok (.iaload, 1) ∧ okop dsL_law_1758 2 = true) ∧ (decode dsL_law_1758 3 = .ok (.aload_n 0, 1) ∧ okop dsL_law_1758 3 = true) ∧ (decode dsL_law_1758 4 = .ok (.iload 5, 2) ∧ okop dsL_law_1758 4 = true) ∧ (decode dsL_law_1758 6 = .ok (.iconst 3, 1) ∧ okop dsL_law_1758 6 = true) ∧ (decode dsL_law_1758 7 = .ok (.iadd, 1) ∧ okop dsL_law_1758 7 = true) ∧ (decode dsL_law_1758 8 = .ok (.iaload, 1) ∧ okop dsL_law_1758 8 = true) ∧ (decode dsL_law_1758 9 = .ok (.ifCond .eq 7, 3) ∧ okop dsL_law_1758 9 = true) ∧ (decode dsL_law_1758 12 = .ok (.iconst 1, 1) ∧ okop dsL_law_1758 12 = true) := by decide +kernel
theorem dL_law_1758 : decode cL_law 1758 = .ok (.iconst 2, 1) := dgq (p := 0) daL_law_1758 dbL_law_1758.1
theorem dL_law_1759 : decode cL_law 1759 = .ok (.iadd, 1) := dgq (p := 1) daL_law_1758 dbL_law_1758.2.1
theorem dL_law_1760 : decode cL_law 1760 = .ok (.iaload, 1) := dgq (p := 2) daL_law_1758 dbL_law_1758.2.2.1
theorem dL_law_1761 : decode cL_law 1761 = .ok (.aload_n 0, 1) := dgq (p := 3) daL_law_1758 dbL_law_1758.2.2.2.1
theorem dL_law_1762 : decode cL_law 1762 = .ok (.iload 5, 2) := dgq (p := 4) daL_law_1758 dbL_law_1758.2.2.2.2.1
theorem dL_law_1764 : decode cL_law 1764 = .ok (.iconst 3, 1) := dgq (p := 6) daL_law_1758 dbL_law_1758.2.2.2.2.2.1
theorem dL_law_1765 : decode cL_law 1765 = .ok (.iadd, 1) := dgq (p := 7) daL_law_1758 dbL_law_1758.2.2.2.2.2.2.1
theorem dL_law_1766 : decode cL_law 1766 = .ok (.iaload, 1) := dgq (p := 8) daL_law_1758 dbL_law_1758.2.2.2.2.2.2.2.1
theorem dL_law_1767 : decode cL_law 1767 = .ok (.ifCond .eq 7, 3) := dgq (p := 9) daL_law_1758 dbL_law_1758.2.2.2.2.2.2.2.2.1
theorem dL_law_1770 : decode cL_law 1770 = .ok (.iconst 1, 1) := dgq (p := 12) daL_law_1758 dbL_law_1758.2.2.2.2.2.2.2.2.2
def dsL_law_1771 : ByteArray := ⟨#[167, 0, 4, 3, 45, 184, 1, 71, 54, 6, 44, 42, 21, 5, 4, 96]⟩
theorem daL_law_1771 : agB cL_law dsL_law_1771 1771 := agB_of (n := 16) (by decide +kernel)
theorem dbL_law_1771 : (decode dsL_law_1771 0 = .ok (.goto 4, 3) ∧ okop dsL_law_1771 0 = true) ∧ (decode dsL_law_1771 3 = .ok (.iconst 0, 1) ∧ okop dsL_law_1771 3 = true) ∧ (decode dsL_law_1771 4 = .ok (.aload_n 3, 1) ∧ okop dsL_law_1771 4 = true) ∧ (decode dsL_law_1771 5 = .ok (.invokestatic 327, 3) ∧ okop dsL_law_1771 5 = true) ∧ (decode dsL_law_1771 8 = .ok (.istore 6, 2) ∧ okop dsL_law_1771 8 = true) ∧ (decode dsL_law_1771 10 = .ok (.aload_n 2, 1) ∧ okop dsL_law_1771 10 = true) ∧ (decode dsL_law_1771 11 = .ok (.aload_n 0, 1) ∧ okop dsL_law_1771 11 = true) ∧ (decode dsL_law_1771 12 = .ok (.iload 5, 2) ∧ okop dsL_law_1771 12 = true) ∧ (decode dsL_law_1771 14 = .ok (.iconst 1, 1) ∧ okop dsL_law_1771 14 = true) ∧ (decode dsL_law_1771 15 = .ok (.iadd, 1) ∧ okop dsL_law_1771 15 = true) := by decide +kernel
theorem dL_law_1771 : decode cL_law 1771 = .ok (.goto 4, 3) := dgq (p := 0) daL_law_1771 dbL_law_1771.1
theorem dL_law_1774 : decode cL_law 1774 = .ok (.iconst 0, 1) := dgq (p := 3) daL_law_1771 dbL_law_1771.2.1
theorem dL_law_1775 : decode cL_law 1775 = .ok (.aload_n 3, 1) := dgq (p := 4) daL_law_1771 dbL_law_1771.2.2.1
theorem dL_law_1776 : decode cL_law 1776 = .ok (.invokestatic 327, 3) := dgq (p := 5) daL_law_1771 dbL_law_1771.2.2.2.1
theorem dL_law_1779 : decode cL_law 1779 = .ok (.istore 6, 2) := dgq (p := 8) daL_law_1771 dbL_law_1771.2.2.2.2.1
theorem dL_law_1781 : decode cL_law 1781 = .ok (.aload_n 2, 1) := dgq (p := 10) daL_law_1771 dbL_law_1771.2.2.2.2.2.1
theorem dL_law_1782 : decode cL_law 1782 = .ok (.aload_n 0, 1) := dgq (p := 11) daL_law_1771 dbL_law_1771.2.2.2.2.2.2.1
theorem dL_law_1783 : decode cL_law 1783 = .ok (.iload 5, 2) := dgq (p := 12) daL_law_1771 dbL_law_1771.2.2.2.2.2.2.2.1
theorem dL_law_1785 : decode cL_law 1785 = .ok (.iconst 1, 1) := dgq (p := 14) daL_law_1771 dbL_law_1771.2.2.2.2.2.2.2.2.1
theorem dL_law_1786 : decode cL_law 1786 = .ok (.iadd, 1) := dgq (p := 15) daL_law_1771 dbL_law_1771.2.2.2.2.2.2.2.2.2
def dsL_law_1787 : ByteArray := ⟨#[46, 42, 21, 5, 5, 96, 46, 42, 21, 5, 6, 96]⟩
theorem daL_law_1787 : agB cL_law dsL_law_1787 1787 := agB_of (n := 12) (by decide +kernel)
theorem dbL_law_1787 : (decode dsL_law_1787 0 = .ok (.iaload, 1) ∧ okop dsL_law_1787 0 = true) ∧ (decode dsL_law_1787 1 = .ok (.aload_n 0, 1) ∧ okop dsL_law_1787 1 = true) ∧ (decode dsL_law_1787 2 = .ok (.iload 5, 2) ∧ okop dsL_law_1787 2 = true) ∧ (decode dsL_law_1787 4 = .ok (.iconst 2, 1) ∧ okop dsL_law_1787 4 = true) ∧ (decode dsL_law_1787 5 = .ok (.iadd, 1) ∧ okop dsL_law_1787 5 = true) ∧ (decode dsL_law_1787 6 = .ok (.iaload, 1) ∧ okop dsL_law_1787 6 = true) ∧ (decode dsL_law_1787 7 = .ok (.aload_n 0, 1) ∧ okop dsL_law_1787 7 = true) ∧ (decode dsL_law_1787 8 = .ok (.iload 5, 2) ∧ okop dsL_law_1787 8 = true) ∧ (decode dsL_law_1787 10 = .ok (.iconst 3, 1) ∧ okop dsL_law_1787 10 = true) ∧ (decode dsL_law_1787 11 = .ok (.iadd, 1) ∧ okop dsL_law_1787 11 = true) := by decide +kernel
theorem dL_law_1787 : decode cL_law 1787 = .ok (.iaload, 1) := dgq (p := 0) daL_law_1787 dbL_law_1787.1
theorem dL_law_1788 : decode cL_law 1788 = .ok (.aload_n 0, 1) := dgq (p := 1) daL_law_1787 dbL_law_1787.2.1
theorem dL_law_1789 : decode cL_law 1789 = .ok (.iload 5, 2) := dgq (p := 2) daL_law_1787 dbL_law_1787.2.2.1
theorem dL_law_1791 : decode cL_law 1791 = .ok (.iconst 2, 1) := dgq (p := 4) daL_law_1787 dbL_law_1787.2.2.2.1
theorem dL_law_1792 : decode cL_law 1792 = .ok (.iadd, 1) := dgq (p := 5) daL_law_1787 dbL_law_1787.2.2.2.2.1
theorem dL_law_1793 : decode cL_law 1793 = .ok (.iaload, 1) := dgq (p := 6) daL_law_1787 dbL_law_1787.2.2.2.2.2.1
theorem dL_law_1794 : decode cL_law 1794 = .ok (.aload_n 0, 1) := dgq (p := 7) daL_law_1787 dbL_law_1787.2.2.2.2.2.2.1
theorem dL_law_1795 : decode cL_law 1795 = .ok (.iload 5, 2) := dgq (p := 8) daL_law_1787 dbL_law_1787.2.2.2.2.2.2.2.1
theorem dL_law_1797 : decode cL_law 1797 = .ok (.iconst 3, 1) := dgq (p := 10) daL_law_1787 dbL_law_1787.2.2.2.2.2.2.2.2.1
theorem dL_law_1798 : decode cL_law 1798 = .ok (.iadd, 1) := dgq (p := 11) daL_law_1787 dbL_law_1787.2.2.2.2.2.2.2.2.2
def dsL_law_1799 : ByteArray := ⟨#[46, 153, 0, 7, 4, 167, 0, 4, 3, 182, 1, 74, 54, 7, 167, 4, 87, 43, 42]⟩
theorem daL_law_1799 : agB cL_law dsL_law_1799 1799 := agB_of (n := 19) (by decide +kernel)
theorem dbL_law_1799 : (decode dsL_law_1799 0 = .ok (.iaload, 1) ∧ okop dsL_law_1799 0 = true) ∧ (decode dsL_law_1799 1 = .ok (.ifCond .eq 7, 3) ∧ okop dsL_law_1799 1 = true) ∧ (decode dsL_law_1799 4 = .ok (.iconst 1, 1) ∧ okop dsL_law_1799 4 = true) ∧ (decode dsL_law_1799 5 = .ok (.goto 4, 3) ∧ okop dsL_law_1799 5 = true) ∧ (decode dsL_law_1799 8 = .ok (.iconst 0, 1) ∧ okop dsL_law_1799 8 = true) ∧ (decode dsL_law_1799 9 = .ok (.invokevirtual 330, 3) ∧ okop dsL_law_1799 9 = true) ∧ (decode dsL_law_1799 12 = .ok (.istore 7, 2) ∧ okop dsL_law_1799 12 = true) ∧ (decode dsL_law_1799 14 = .ok (.goto 1111, 3) ∧ okop dsL_law_1799 14 = true) ∧ (decode dsL_law_1799 17 = .ok (.aload_n 1, 1) ∧ okop dsL_law_1799 17 = true) ∧ (decode dsL_law_1799 18 = .ok (.aload_n 0, 1) ∧ okop dsL_law_1799 18 = true) := by decide +kernel
theorem dL_law_1799 : decode cL_law 1799 = .ok (.iaload, 1) := dgq (p := 0) daL_law_1799 dbL_law_1799.1
theorem dL_law_1800 : decode cL_law 1800 = .ok (.ifCond .eq 7, 3) := dgq (p := 1) daL_law_1799 dbL_law_1799.2.1
theorem dL_law_1803 : decode cL_law 1803 = .ok (.iconst 1, 1) := dgq (p := 4) daL_law_1799 dbL_law_1799.2.2.1
theorem dL_law_1804 : decode cL_law 1804 = .ok (.goto 4, 3) := dgq (p := 5) daL_law_1799 dbL_law_1799.2.2.2.1
theorem dL_law_1807 : decode cL_law 1807 = .ok (.iconst 0, 1) := dgq (p := 8) daL_law_1799 dbL_law_1799.2.2.2.2.1
theorem dL_law_1808 : decode cL_law 1808 = .ok (.invokevirtual 330, 3) := dgq (p := 9) daL_law_1799 dbL_law_1799.2.2.2.2.2.1
theorem dL_law_1811 : decode cL_law 1811 = .ok (.istore 7, 2) := dgq (p := 12) daL_law_1799 dbL_law_1799.2.2.2.2.2.2.1
theorem dL_law_1813 : decode cL_law 1813 = .ok (.goto 1111, 3) := dgq (p := 14) daL_law_1799 dbL_law_1799.2.2.2.2.2.2.2.1
theorem dL_law_1816 : decode cL_law 1816 = .ok (.aload_n 1, 1) := dgq (p := 17) daL_law_1799 dbL_law_1799.2.2.2.2.2.2.2.2.1
theorem dL_law_1817 : decode cL_law 1817 = .ok (.aload_n 0, 1) := dgq (p := 18) daL_law_1799 dbL_law_1799.2.2.2.2.2.2.2.2.2
def dsL_law_1818 : ByteArray := ⟨#[21, 5, 4, 96, 46, 45, 184, 1, 75, 54, 6, 44, 42, 21, 5]⟩
theorem daL_law_1818 : agB cL_law dsL_law_1818 1818 := agB_of (n := 15) (by decide +kernel)
theorem dbL_law_1818 : (decode dsL_law_1818 0 = .ok (.iload 5, 2) ∧ okop dsL_law_1818 0 = true) ∧ (decode dsL_law_1818 2 = .ok (.iconst 1, 1) ∧ okop dsL_law_1818 2 = true) ∧ (decode dsL_law_1818 3 = .ok (.iadd, 1) ∧ okop dsL_law_1818 3 = true) ∧ (decode dsL_law_1818 4 = .ok (.iaload, 1) ∧ okop dsL_law_1818 4 = true) ∧ (decode dsL_law_1818 5 = .ok (.aload_n 3, 1) ∧ okop dsL_law_1818 5 = true) ∧ (decode dsL_law_1818 6 = .ok (.invokestatic 331, 3) ∧ okop dsL_law_1818 6 = true) ∧ (decode dsL_law_1818 9 = .ok (.istore 6, 2) ∧ okop dsL_law_1818 9 = true) ∧ (decode dsL_law_1818 11 = .ok (.aload_n 2, 1) ∧ okop dsL_law_1818 11 = true) ∧ (decode dsL_law_1818 12 = .ok (.aload_n 0, 1) ∧ okop dsL_law_1818 12 = true) ∧ (decode dsL_law_1818 13 = .ok (.iload 5, 2) ∧ okop dsL_law_1818 13 = true) := by decide +kernel
theorem dL_law_1818 : decode cL_law 1818 = .ok (.iload 5, 2) := dgq (p := 0) daL_law_1818 dbL_law_1818.1
theorem dL_law_1820 : decode cL_law 1820 = .ok (.iconst 1, 1) := dgq (p := 2) daL_law_1818 dbL_law_1818.2.1
theorem dL_law_1821 : decode cL_law 1821 = .ok (.iadd, 1) := dgq (p := 3) daL_law_1818 dbL_law_1818.2.2.1
theorem dL_law_1822 : decode cL_law 1822 = .ok (.iaload, 1) := dgq (p := 4) daL_law_1818 dbL_law_1818.2.2.2.1
theorem dL_law_1823 : decode cL_law 1823 = .ok (.aload_n 3, 1) := dgq (p := 5) daL_law_1818 dbL_law_1818.2.2.2.2.1
theorem dL_law_1824 : decode cL_law 1824 = .ok (.invokestatic 331, 3) := dgq (p := 6) daL_law_1818 dbL_law_1818.2.2.2.2.2.1
theorem dL_law_1827 : decode cL_law 1827 = .ok (.istore 6, 2) := dgq (p := 9) daL_law_1818 dbL_law_1818.2.2.2.2.2.2.1
theorem dL_law_1829 : decode cL_law 1829 = .ok (.aload_n 2, 1) := dgq (p := 11) daL_law_1818 dbL_law_1818.2.2.2.2.2.2.2.1
theorem dL_law_1830 : decode cL_law 1830 = .ok (.aload_n 0, 1) := dgq (p := 12) daL_law_1818 dbL_law_1818.2.2.2.2.2.2.2.2.1
theorem dL_law_1831 : decode cL_law 1831 = .ok (.iload 5, 2) := dgq (p := 13) daL_law_1818 dbL_law_1818.2.2.2.2.2.2.2.2.2
def dsL_law_1833 : ByteArray := ⟨#[4, 96, 46, 182, 1, 77, 54, 7, 167, 4, 59, 43, 42, 21, 5, 4]⟩
theorem daL_law_1833 : agB cL_law dsL_law_1833 1833 := agB_of (n := 16) (by decide +kernel)
theorem dbL_law_1833 : (decode dsL_law_1833 0 = .ok (.iconst 1, 1) ∧ okop dsL_law_1833 0 = true) ∧ (decode dsL_law_1833 1 = .ok (.iadd, 1) ∧ okop dsL_law_1833 1 = true) ∧ (decode dsL_law_1833 2 = .ok (.iaload, 1) ∧ okop dsL_law_1833 2 = true) ∧ (decode dsL_law_1833 3 = .ok (.invokevirtual 333, 3) ∧ okop dsL_law_1833 3 = true) ∧ (decode dsL_law_1833 6 = .ok (.istore 7, 2) ∧ okop dsL_law_1833 6 = true) ∧ (decode dsL_law_1833 8 = .ok (.goto 1083, 3) ∧ okop dsL_law_1833 8 = true) ∧ (decode dsL_law_1833 11 = .ok (.aload_n 1, 1) ∧ okop dsL_law_1833 11 = true) ∧ (decode dsL_law_1833 12 = .ok (.aload_n 0, 1) ∧ okop dsL_law_1833 12 = true) ∧ (decode dsL_law_1833 13 = .ok (.iload 5, 2) ∧ okop dsL_law_1833 13 = true) ∧ (decode dsL_law_1833 15 = .ok (.iconst 1, 1) ∧ okop dsL_law_1833 15 = true) := by decide +kernel
theorem dL_law_1833 : decode cL_law 1833 = .ok (.iconst 1, 1) := dgq (p := 0) daL_law_1833 dbL_law_1833.1
theorem dL_law_1834 : decode cL_law 1834 = .ok (.iadd, 1) := dgq (p := 1) daL_law_1833 dbL_law_1833.2.1
theorem dL_law_1835 : decode cL_law 1835 = .ok (.iaload, 1) := dgq (p := 2) daL_law_1833 dbL_law_1833.2.2.1
theorem dL_law_1836 : decode cL_law 1836 = .ok (.invokevirtual 333, 3) := dgq (p := 3) daL_law_1833 dbL_law_1833.2.2.2.1
theorem dL_law_1839 : decode cL_law 1839 = .ok (.istore 7, 2) := dgq (p := 6) daL_law_1833 dbL_law_1833.2.2.2.2.1
theorem dL_law_1841 : decode cL_law 1841 = .ok (.goto 1083, 3) := dgq (p := 8) daL_law_1833 dbL_law_1833.2.2.2.2.2.1
theorem dL_law_1844 : decode cL_law 1844 = .ok (.aload_n 1, 1) := dgq (p := 11) daL_law_1833 dbL_law_1833.2.2.2.2.2.2.1
theorem dL_law_1845 : decode cL_law 1845 = .ok (.aload_n 0, 1) := dgq (p := 12) daL_law_1833 dbL_law_1833.2.2.2.2.2.2.2.1
theorem dL_law_1846 : decode cL_law 1846 = .ok (.iload 5, 2) := dgq (p := 13) daL_law_1833 dbL_law_1833.2.2.2.2.2.2.2.2.1
theorem dL_law_1848 : decode cL_law 1848 = .ok (.iconst 1, 1) := dgq (p := 15) daL_law_1833 dbL_law_1833.2.2.2.2.2.2.2.2.2
def dsL_law_1849 : ByteArray := ⟨#[96, 46, 45, 184, 1, 78, 54, 6, 44, 42, 21, 5, 4, 96]⟩
theorem daL_law_1849 : agB cL_law dsL_law_1849 1849 := agB_of (n := 14) (by decide +kernel)
theorem dbL_law_1849 : (decode dsL_law_1849 0 = .ok (.iadd, 1) ∧ okop dsL_law_1849 0 = true) ∧ (decode dsL_law_1849 1 = .ok (.iaload, 1) ∧ okop dsL_law_1849 1 = true) ∧ (decode dsL_law_1849 2 = .ok (.aload_n 3, 1) ∧ okop dsL_law_1849 2 = true) ∧ (decode dsL_law_1849 3 = .ok (.invokestatic 334, 3) ∧ okop dsL_law_1849 3 = true) ∧ (decode dsL_law_1849 6 = .ok (.istore 6, 2) ∧ okop dsL_law_1849 6 = true) ∧ (decode dsL_law_1849 8 = .ok (.aload_n 2, 1) ∧ okop dsL_law_1849 8 = true) ∧ (decode dsL_law_1849 9 = .ok (.aload_n 0, 1) ∧ okop dsL_law_1849 9 = true) ∧ (decode dsL_law_1849 10 = .ok (.iload 5, 2) ∧ okop dsL_law_1849 10 = true) ∧ (decode dsL_law_1849 12 = .ok (.iconst 1, 1) ∧ okop dsL_law_1849 12 = true) ∧ (decode dsL_law_1849 13 = .ok (.iadd, 1) ∧ okop dsL_law_1849 13 = true) := by decide +kernel
theorem dL_law_1849 : decode cL_law 1849 = .ok (.iadd, 1) := dgq (p := 0) daL_law_1849 dbL_law_1849.1
theorem dL_law_1850 : decode cL_law 1850 = .ok (.iaload, 1) := dgq (p := 1) daL_law_1849 dbL_law_1849.2.1
theorem dL_law_1851 : decode cL_law 1851 = .ok (.aload_n 3, 1) := dgq (p := 2) daL_law_1849 dbL_law_1849.2.2.1
theorem dL_law_1852 : decode cL_law 1852 = .ok (.invokestatic 334, 3) := dgq (p := 3) daL_law_1849 dbL_law_1849.2.2.2.1
theorem dL_law_1855 : decode cL_law 1855 = .ok (.istore 6, 2) := dgq (p := 6) daL_law_1849 dbL_law_1849.2.2.2.2.1
theorem dL_law_1857 : decode cL_law 1857 = .ok (.aload_n 2, 1) := dgq (p := 8) daL_law_1849 dbL_law_1849.2.2.2.2.2.1
theorem dL_law_1858 : decode cL_law 1858 = .ok (.aload_n 0, 1) := dgq (p := 9) daL_law_1849 dbL_law_1849.2.2.2.2.2.2.1
theorem dL_law_1859 : decode cL_law 1859 = .ok (.iload 5, 2) := dgq (p := 10) daL_law_1849 dbL_law_1849.2.2.2.2.2.2.2.1
theorem dL_law_1861 : decode cL_law 1861 = .ok (.iconst 1, 1) := dgq (p := 12) daL_law_1849 dbL_law_1849.2.2.2.2.2.2.2.2.1
theorem dL_law_1862 : decode cL_law 1862 = .ok (.iadd, 1) := dgq (p := 13) daL_law_1849 dbL_law_1849.2.2.2.2.2.2.2.2.2
def dsL_law_1863 : ByteArray := ⟨#[46, 182, 1, 80, 54, 7, 167, 4, 31, 43, 42, 21, 5, 4, 96, 46]⟩
theorem daL_law_1863 : agB cL_law dsL_law_1863 1863 := agB_of (n := 16) (by decide +kernel)
theorem dbL_law_1863 : (decode dsL_law_1863 0 = .ok (.iaload, 1) ∧ okop dsL_law_1863 0 = true) ∧ (decode dsL_law_1863 1 = .ok (.invokevirtual 336, 3) ∧ okop dsL_law_1863 1 = true) ∧ (decode dsL_law_1863 4 = .ok (.istore 7, 2) ∧ okop dsL_law_1863 4 = true) ∧ (decode dsL_law_1863 6 = .ok (.goto 1055, 3) ∧ okop dsL_law_1863 6 = true) ∧ (decode dsL_law_1863 9 = .ok (.aload_n 1, 1) ∧ okop dsL_law_1863 9 = true) ∧ (decode dsL_law_1863 10 = .ok (.aload_n 0, 1) ∧ okop dsL_law_1863 10 = true) ∧ (decode dsL_law_1863 11 = .ok (.iload 5, 2) ∧ okop dsL_law_1863 11 = true) ∧ (decode dsL_law_1863 13 = .ok (.iconst 1, 1) ∧ okop dsL_law_1863 13 = true) ∧ (decode dsL_law_1863 14 = .ok (.iadd, 1) ∧ okop dsL_law_1863 14 = true) ∧ (decode dsL_law_1863 15 = .ok (.iaload, 1) ∧ okop dsL_law_1863 15 = true) := by decide +kernel
theorem dL_law_1863 : decode cL_law 1863 = .ok (.iaload, 1) := dgq (p := 0) daL_law_1863 dbL_law_1863.1
theorem dL_law_1864 : decode cL_law 1864 = .ok (.invokevirtual 336, 3) := dgq (p := 1) daL_law_1863 dbL_law_1863.2.1
theorem dL_law_1867 : decode cL_law 1867 = .ok (.istore 7, 2) := dgq (p := 4) daL_law_1863 dbL_law_1863.2.2.1
theorem dL_law_1869 : decode cL_law 1869 = .ok (.goto 1055, 3) := dgq (p := 6) daL_law_1863 dbL_law_1863.2.2.2.1
theorem dL_law_1872 : decode cL_law 1872 = .ok (.aload_n 1, 1) := dgq (p := 9) daL_law_1863 dbL_law_1863.2.2.2.2.1
theorem dL_law_1873 : decode cL_law 1873 = .ok (.aload_n 0, 1) := dgq (p := 10) daL_law_1863 dbL_law_1863.2.2.2.2.2.1
theorem dL_law_1874 : decode cL_law 1874 = .ok (.iload 5, 2) := dgq (p := 11) daL_law_1863 dbL_law_1863.2.2.2.2.2.2.1
theorem dL_law_1876 : decode cL_law 1876 = .ok (.iconst 1, 1) := dgq (p := 13) daL_law_1863 dbL_law_1863.2.2.2.2.2.2.2.1
theorem dL_law_1877 : decode cL_law 1877 = .ok (.iadd, 1) := dgq (p := 14) daL_law_1863 dbL_law_1863.2.2.2.2.2.2.2.2.1
theorem dL_law_1878 : decode cL_law 1878 = .ok (.iaload, 1) := dgq (p := 15) daL_law_1863 dbL_law_1863.2.2.2.2.2.2.2.2.2
def dsL_law_1879 : ByteArray := ⟨#[42, 21, 5, 5, 96, 46, 42, 21, 5, 6, 96, 46]⟩
theorem daL_law_1879 : agB cL_law dsL_law_1879 1879 := agB_of (n := 12) (by decide +kernel)
theorem dbL_law_1879 : (decode dsL_law_1879 0 = .ok (.aload_n 0, 1) ∧ okop dsL_law_1879 0 = true) ∧ (decode dsL_law_1879 1 = .ok (.iload 5, 2) ∧ okop dsL_law_1879 1 = true) ∧ (decode dsL_law_1879 3 = .ok (.iconst 2, 1) ∧ okop dsL_law_1879 3 = true) ∧ (decode dsL_law_1879 4 = .ok (.iadd, 1) ∧ okop dsL_law_1879 4 = true) ∧ (decode dsL_law_1879 5 = .ok (.iaload, 1) ∧ okop dsL_law_1879 5 = true) ∧ (decode dsL_law_1879 6 = .ok (.aload_n 0, 1) ∧ okop dsL_law_1879 6 = true) ∧ (decode dsL_law_1879 7 = .ok (.iload 5, 2) ∧ okop dsL_law_1879 7 = true) ∧ (decode dsL_law_1879 9 = .ok (.iconst 3, 1) ∧ okop dsL_law_1879 9 = true) ∧ (decode dsL_law_1879 10 = .ok (.iadd, 1) ∧ okop dsL_law_1879 10 = true) ∧ (decode dsL_law_1879 11 = .ok (.iaload, 1) ∧ okop dsL_law_1879 11 = true) := by decide +kernel
theorem dL_law_1879 : decode cL_law 1879 = .ok (.aload_n 0, 1) := dgq (p := 0) daL_law_1879 dbL_law_1879.1
theorem dL_law_1880 : decode cL_law 1880 = .ok (.iload 5, 2) := dgq (p := 1) daL_law_1879 dbL_law_1879.2.1
theorem dL_law_1882 : decode cL_law 1882 = .ok (.iconst 2, 1) := dgq (p := 3) daL_law_1879 dbL_law_1879.2.2.1
theorem dL_law_1883 : decode cL_law 1883 = .ok (.iadd, 1) := dgq (p := 4) daL_law_1879 dbL_law_1879.2.2.2.1
theorem dL_law_1884 : decode cL_law 1884 = .ok (.iaload, 1) := dgq (p := 5) daL_law_1879 dbL_law_1879.2.2.2.2.1
theorem dL_law_1885 : decode cL_law 1885 = .ok (.aload_n 0, 1) := dgq (p := 6) daL_law_1879 dbL_law_1879.2.2.2.2.2.1
theorem dL_law_1886 : decode cL_law 1886 = .ok (.iload 5, 2) := dgq (p := 7) daL_law_1879 dbL_law_1879.2.2.2.2.2.2.1
theorem dL_law_1888 : decode cL_law 1888 = .ok (.iconst 3, 1) := dgq (p := 9) daL_law_1879 dbL_law_1879.2.2.2.2.2.2.2.1
theorem dL_law_1889 : decode cL_law 1889 = .ok (.iadd, 1) := dgq (p := 10) daL_law_1879 dbL_law_1879.2.2.2.2.2.2.2.2.1
theorem dL_law_1890 : decode cL_law 1890 = .ok (.iaload, 1) := dgq (p := 11) daL_law_1879 dbL_law_1879.2.2.2.2.2.2.2.2.2
def dsL_law_1891 : ByteArray := ⟨#[45, 184, 1, 81, 54, 6, 44, 42, 21, 5, 4, 96, 46, 42]⟩
theorem daL_law_1891 : agB cL_law dsL_law_1891 1891 := agB_of (n := 14) (by decide +kernel)
theorem dbL_law_1891 : (decode dsL_law_1891 0 = .ok (.aload_n 3, 1) ∧ okop dsL_law_1891 0 = true) ∧ (decode dsL_law_1891 1 = .ok (.invokestatic 337, 3) ∧ okop dsL_law_1891 1 = true) ∧ (decode dsL_law_1891 4 = .ok (.istore 6, 2) ∧ okop dsL_law_1891 4 = true) ∧ (decode dsL_law_1891 6 = .ok (.aload_n 2, 1) ∧ okop dsL_law_1891 6 = true) ∧ (decode dsL_law_1891 7 = .ok (.aload_n 0, 1) ∧ okop dsL_law_1891 7 = true) ∧ (decode dsL_law_1891 8 = .ok (.iload 5, 2) ∧ okop dsL_law_1891 8 = true) ∧ (decode dsL_law_1891 10 = .ok (.iconst 1, 1) ∧ okop dsL_law_1891 10 = true) ∧ (decode dsL_law_1891 11 = .ok (.iadd, 1) ∧ okop dsL_law_1891 11 = true) ∧ (decode dsL_law_1891 12 = .ok (.iaload, 1) ∧ okop dsL_law_1891 12 = true) ∧ (decode dsL_law_1891 13 = .ok (.aload_n 0, 1) ∧ okop dsL_law_1891 13 = true) := by decide +kernel
theorem dL_law_1891 : decode cL_law 1891 = .ok (.aload_n 3, 1) := dgq (p := 0) daL_law_1891 dbL_law_1891.1
theorem dL_law_1892 : decode cL_law 1892 = .ok (.invokestatic 337, 3) := dgq (p := 1) daL_law_1891 dbL_law_1891.2.1
theorem dL_law_1895 : decode cL_law 1895 = .ok (.istore 6, 2) := dgq (p := 4) daL_law_1891 dbL_law_1891.2.2.1
theorem dL_law_1897 : decode cL_law 1897 = .ok (.aload_n 2, 1) := dgq (p := 6) daL_law_1891 dbL_law_1891.2.2.2.1
theorem dL_law_1898 : decode cL_law 1898 = .ok (.aload_n 0, 1) := dgq (p := 7) daL_law_1891 dbL_law_1891.2.2.2.2.1
theorem dL_law_1899 : decode cL_law 1899 = .ok (.iload 5, 2) := dgq (p := 8) daL_law_1891 dbL_law_1891.2.2.2.2.2.1
theorem dL_law_1901 : decode cL_law 1901 = .ok (.iconst 1, 1) := dgq (p := 10) daL_law_1891 dbL_law_1891.2.2.2.2.2.2.1
theorem dL_law_1902 : decode cL_law 1902 = .ok (.iadd, 1) := dgq (p := 11) daL_law_1891 dbL_law_1891.2.2.2.2.2.2.2.1
theorem dL_law_1903 : decode cL_law 1903 = .ok (.iaload, 1) := dgq (p := 12) daL_law_1891 dbL_law_1891.2.2.2.2.2.2.2.2.1
theorem dL_law_1904 : decode cL_law 1904 = .ok (.aload_n 0, 1) := dgq (p := 13) daL_law_1891 dbL_law_1891.2.2.2.2.2.2.2.2.2
def dsL_law_1905 : ByteArray := ⟨#[21, 5, 5, 96, 46, 42, 21, 5, 6, 96, 46, 182, 1, 83]⟩
theorem daL_law_1905 : agB cL_law dsL_law_1905 1905 := agB_of (n := 14) (by decide +kernel)
theorem dbL_law_1905 : (decode dsL_law_1905 0 = .ok (.iload 5, 2) ∧ okop dsL_law_1905 0 = true) ∧ (decode dsL_law_1905 2 = .ok (.iconst 2, 1) ∧ okop dsL_law_1905 2 = true) ∧ (decode dsL_law_1905 3 = .ok (.iadd, 1) ∧ okop dsL_law_1905 3 = true) ∧ (decode dsL_law_1905 4 = .ok (.iaload, 1) ∧ okop dsL_law_1905 4 = true) ∧ (decode dsL_law_1905 5 = .ok (.aload_n 0, 1) ∧ okop dsL_law_1905 5 = true) ∧ (decode dsL_law_1905 6 = .ok (.iload 5, 2) ∧ okop dsL_law_1905 6 = true) ∧ (decode dsL_law_1905 8 = .ok (.iconst 3, 1) ∧ okop dsL_law_1905 8 = true) ∧ (decode dsL_law_1905 9 = .ok (.iadd, 1) ∧ okop dsL_law_1905 9 = true) ∧ (decode dsL_law_1905 10 = .ok (.iaload, 1) ∧ okop dsL_law_1905 10 = true) ∧ (decode dsL_law_1905 11 = .ok (.invokevirtual 339, 3) ∧ okop dsL_law_1905 11 = true) := by decide +kernel
theorem dL_law_1905 : decode cL_law 1905 = .ok (.iload 5, 2) := dgq (p := 0) daL_law_1905 dbL_law_1905.1
theorem dL_law_1907 : decode cL_law 1907 = .ok (.iconst 2, 1) := dgq (p := 2) daL_law_1905 dbL_law_1905.2.1
theorem dL_law_1908 : decode cL_law 1908 = .ok (.iadd, 1) := dgq (p := 3) daL_law_1905 dbL_law_1905.2.2.1
theorem dL_law_1909 : decode cL_law 1909 = .ok (.iaload, 1) := dgq (p := 4) daL_law_1905 dbL_law_1905.2.2.2.1
theorem dL_law_1910 : decode cL_law 1910 = .ok (.aload_n 0, 1) := dgq (p := 5) daL_law_1905 dbL_law_1905.2.2.2.2.1
theorem dL_law_1911 : decode cL_law 1911 = .ok (.iload 5, 2) := dgq (p := 6) daL_law_1905 dbL_law_1905.2.2.2.2.2.1
theorem dL_law_1913 : decode cL_law 1913 = .ok (.iconst 3, 1) := dgq (p := 8) daL_law_1905 dbL_law_1905.2.2.2.2.2.2.1
theorem dL_law_1914 : decode cL_law 1914 = .ok (.iadd, 1) := dgq (p := 9) daL_law_1905 dbL_law_1905.2.2.2.2.2.2.2.1
theorem dL_law_1915 : decode cL_law 1915 = .ok (.iaload, 1) := dgq (p := 10) daL_law_1905 dbL_law_1905.2.2.2.2.2.2.2.2.1
theorem dL_law_1916 : decode cL_law 1916 = .ok (.invokevirtual 339, 3) := dgq (p := 11) daL_law_1905 dbL_law_1905.2.2.2.2.2.2.2.2.2
def dsL_law_1919 : ByteArray := ⟨#[54, 7, 167, 3, 235, 43, 42, 21, 5, 4, 96, 46, 45, 184, 1, 84]⟩
theorem daL_law_1919 : agB cL_law dsL_law_1919 1919 := agB_of (n := 16) (by decide +kernel)
theorem dbL_law_1919 : (decode dsL_law_1919 0 = .ok (.istore 7, 2) ∧ okop dsL_law_1919 0 = true) ∧ (decode dsL_law_1919 2 = .ok (.goto 1003, 3) ∧ okop dsL_law_1919 2 = true) ∧ (decode dsL_law_1919 5 = .ok (.aload_n 1, 1) ∧ okop dsL_law_1919 5 = true) ∧ (decode dsL_law_1919 6 = .ok (.aload_n 0, 1) ∧ okop dsL_law_1919 6 = true) ∧ (decode dsL_law_1919 7 = .ok (.iload 5, 2) ∧ okop dsL_law_1919 7 = true) ∧ (decode dsL_law_1919 9 = .ok (.iconst 1, 1) ∧ okop dsL_law_1919 9 = true) ∧ (decode dsL_law_1919 10 = .ok (.iadd, 1) ∧ okop dsL_law_1919 10 = true) ∧ (decode dsL_law_1919 11 = .ok (.iaload, 1) ∧ okop dsL_law_1919 11 = true) ∧ (decode dsL_law_1919 12 = .ok (.aload_n 3, 1) ∧ okop dsL_law_1919 12 = true) ∧ (decode dsL_law_1919 13 = .ok (.invokestatic 340, 3) ∧ okop dsL_law_1919 13 = true) := by decide +kernel
theorem dL_law_1919 : decode cL_law 1919 = .ok (.istore 7, 2) := dgq (p := 0) daL_law_1919 dbL_law_1919.1
theorem dL_law_1921 : decode cL_law 1921 = .ok (.goto 1003, 3) := dgq (p := 2) daL_law_1919 dbL_law_1919.2.1
theorem dL_law_1924 : decode cL_law 1924 = .ok (.aload_n 1, 1) := dgq (p := 5) daL_law_1919 dbL_law_1919.2.2.1
theorem dL_law_1925 : decode cL_law 1925 = .ok (.aload_n 0, 1) := dgq (p := 6) daL_law_1919 dbL_law_1919.2.2.2.1
theorem dL_law_1926 : decode cL_law 1926 = .ok (.iload 5, 2) := dgq (p := 7) daL_law_1919 dbL_law_1919.2.2.2.2.1
theorem dL_law_1928 : decode cL_law 1928 = .ok (.iconst 1, 1) := dgq (p := 9) daL_law_1919 dbL_law_1919.2.2.2.2.2.1
theorem dL_law_1929 : decode cL_law 1929 = .ok (.iadd, 1) := dgq (p := 10) daL_law_1919 dbL_law_1919.2.2.2.2.2.2.1
theorem dL_law_1930 : decode cL_law 1930 = .ok (.iaload, 1) := dgq (p := 11) daL_law_1919 dbL_law_1919.2.2.2.2.2.2.2.1
theorem dL_law_1931 : decode cL_law 1931 = .ok (.aload_n 3, 1) := dgq (p := 12) daL_law_1919 dbL_law_1919.2.2.2.2.2.2.2.2.1
theorem dL_law_1932 : decode cL_law 1932 = .ok (.invokestatic 340, 3) := dgq (p := 13) daL_law_1919 dbL_law_1919.2.2.2.2.2.2.2.2.2

