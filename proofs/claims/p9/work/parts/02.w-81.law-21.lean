def dsL_law_685 : ByteArray := ⟨#[184, 1, 5, 54, 6, 44, 42, 21, 5, 4, 96, 46, 42, 21, 5]⟩
theorem daL_law_685 : agB cL_law dsL_law_685 685 := agB_of (n := 15) (by decide +kernel)
theorem dbL_law_685 : (decode dsL_law_685 0 = .ok (.invokestatic 261, 3) ∧ okop dsL_law_685 0 = true) ∧ (decode dsL_law_685 3 = .ok (.istore 6, 2) ∧ okop dsL_law_685 3 = true) ∧ (decode dsL_law_685 5 = .ok (.aload_n 2, 1) ∧ okop dsL_law_685 5 = true) ∧ (decode dsL_law_685 6 = .ok (.aload_n 0, 1) ∧ okop dsL_law_685 6 = true) ∧ (decode dsL_law_685 7 = .ok (.iload 5, 2) ∧ okop dsL_law_685 7 = true) ∧ (decode dsL_law_685 9 = .ok (.iconst 1, 1) ∧ okop dsL_law_685 9 = true) ∧ (decode dsL_law_685 10 = .ok (.iadd, 1) ∧ okop dsL_law_685 10 = true) ∧ (decode dsL_law_685 11 = .ok (.iaload, 1) ∧ okop dsL_law_685 11 = true) ∧ (decode dsL_law_685 12 = .ok (.aload_n 0, 1) ∧ okop dsL_law_685 12 = true) ∧ (decode dsL_law_685 13 = .ok (.iload 5, 2) ∧ okop dsL_law_685 13 = true) := by decide +kernel
theorem dL_law_685 : decode cL_law 685 = .ok (.invokestatic 261, 3) := dgq (p := 0) daL_law_685 dbL_law_685.1
theorem dL_law_688 : decode cL_law 688 = .ok (.istore 6, 2) := dgq (p := 3) daL_law_685 dbL_law_685.2.1
theorem dL_law_690 : decode cL_law 690 = .ok (.aload_n 2, 1) := dgq (p := 5) daL_law_685 dbL_law_685.2.2.1
theorem dL_law_691 : decode cL_law 691 = .ok (.aload_n 0, 1) := dgq (p := 6) daL_law_685 dbL_law_685.2.2.2.1
theorem dL_law_692 : decode cL_law 692 = .ok (.iload 5, 2) := dgq (p := 7) daL_law_685 dbL_law_685.2.2.2.2.1
theorem dL_law_694 : decode cL_law 694 = .ok (.iconst 1, 1) := dgq (p := 9) daL_law_685 dbL_law_685.2.2.2.2.2.1
theorem dL_law_695 : decode cL_law 695 = .ok (.iadd, 1) := dgq (p := 10) daL_law_685 dbL_law_685.2.2.2.2.2.2.1
theorem dL_law_696 : decode cL_law 696 = .ok (.iaload, 1) := dgq (p := 11) daL_law_685 dbL_law_685.2.2.2.2.2.2.2.1
theorem dL_law_697 : decode cL_law 697 = .ok (.aload_n 0, 1) := dgq (p := 12) daL_law_685 dbL_law_685.2.2.2.2.2.2.2.2.1
theorem dL_law_698 : decode cL_law 698 = .ok (.iload 5, 2) := dgq (p := 13) daL_law_685 dbL_law_685.2.2.2.2.2.2.2.2.2
def dsL_law_700 : ByteArray := ⟨#[5, 96, 46, 182, 1, 7, 55, 7, 167, 8, 175, 43, 42, 21, 5, 4]⟩
theorem daL_law_700 : agB cL_law dsL_law_700 700 := agB_of (n := 16) (by decide +kernel)
theorem dbL_law_700 : (decode dsL_law_700 0 = .ok (.iconst 2, 1) ∧ okop dsL_law_700 0 = true) ∧ (decode dsL_law_700 1 = .ok (.iadd, 1) ∧ okop dsL_law_700 1 = true) ∧ (decode dsL_law_700 2 = .ok (.iaload, 1) ∧ okop dsL_law_700 2 = true) ∧ (decode dsL_law_700 3 = .ok (.invokevirtual 263, 3) ∧ okop dsL_law_700 3 = true) ∧ (decode dsL_law_700 6 = .ok (.lstore 7, 2) ∧ okop dsL_law_700 6 = true) ∧ (decode dsL_law_700 8 = .ok (.goto 2223, 3) ∧ okop dsL_law_700 8 = true) ∧ (decode dsL_law_700 11 = .ok (.aload_n 1, 1) ∧ okop dsL_law_700 11 = true) ∧ (decode dsL_law_700 12 = .ok (.aload_n 0, 1) ∧ okop dsL_law_700 12 = true) ∧ (decode dsL_law_700 13 = .ok (.iload 5, 2) ∧ okop dsL_law_700 13 = true) ∧ (decode dsL_law_700 15 = .ok (.iconst 1, 1) ∧ okop dsL_law_700 15 = true) := by decide +kernel
theorem dL_law_700 : decode cL_law 700 = .ok (.iconst 2, 1) := dgq (p := 0) daL_law_700 dbL_law_700.1
theorem dL_law_701 : decode cL_law 701 = .ok (.iadd, 1) := dgq (p := 1) daL_law_700 dbL_law_700.2.1
theorem dL_law_702 : decode cL_law 702 = .ok (.iaload, 1) := dgq (p := 2) daL_law_700 dbL_law_700.2.2.1
theorem dL_law_703 : decode cL_law 703 = .ok (.invokevirtual 263, 3) := dgq (p := 3) daL_law_700 dbL_law_700.2.2.2.1
theorem dL_law_706 : decode cL_law 706 = .ok (.lstore 7, 2) := dgq (p := 6) daL_law_700 dbL_law_700.2.2.2.2.1
theorem dL_law_708 : decode cL_law 708 = .ok (.goto 2223, 3) := dgq (p := 8) daL_law_700 dbL_law_700.2.2.2.2.2.1
theorem dL_law_711 : decode cL_law 711 = .ok (.aload_n 1, 1) := dgq (p := 11) daL_law_700 dbL_law_700.2.2.2.2.2.2.1
theorem dL_law_712 : decode cL_law 712 = .ok (.aload_n 0, 1) := dgq (p := 12) daL_law_700 dbL_law_700.2.2.2.2.2.2.2.1
theorem dL_law_713 : decode cL_law 713 = .ok (.iload 5, 2) := dgq (p := 13) daL_law_700 dbL_law_700.2.2.2.2.2.2.2.2.1
theorem dL_law_715 : decode cL_law 715 = .ok (.iconst 1, 1) := dgq (p := 15) daL_law_700 dbL_law_700.2.2.2.2.2.2.2.2.2
def dsL_law_716 : ByteArray := ⟨#[96, 46, 42, 21, 5, 5, 96, 46, 45, 184, 1, 8, 54, 6]⟩
theorem daL_law_716 : agB cL_law dsL_law_716 716 := agB_of (n := 14) (by decide +kernel)
theorem dbL_law_716 : (decode dsL_law_716 0 = .ok (.iadd, 1) ∧ okop dsL_law_716 0 = true) ∧ (decode dsL_law_716 1 = .ok (.iaload, 1) ∧ okop dsL_law_716 1 = true) ∧ (decode dsL_law_716 2 = .ok (.aload_n 0, 1) ∧ okop dsL_law_716 2 = true) ∧ (decode dsL_law_716 3 = .ok (.iload 5, 2) ∧ okop dsL_law_716 3 = true) ∧ (decode dsL_law_716 5 = .ok (.iconst 2, 1) ∧ okop dsL_law_716 5 = true) ∧ (decode dsL_law_716 6 = .ok (.iadd, 1) ∧ okop dsL_law_716 6 = true) ∧ (decode dsL_law_716 7 = .ok (.iaload, 1) ∧ okop dsL_law_716 7 = true) ∧ (decode dsL_law_716 8 = .ok (.aload_n 3, 1) ∧ okop dsL_law_716 8 = true) ∧ (decode dsL_law_716 9 = .ok (.invokestatic 264, 3) ∧ okop dsL_law_716 9 = true) ∧ (decode dsL_law_716 12 = .ok (.istore 6, 2) ∧ okop dsL_law_716 12 = true) := by decide +kernel
theorem dL_law_716 : decode cL_law 716 = .ok (.iadd, 1) := dgq (p := 0) daL_law_716 dbL_law_716.1
theorem dL_law_717 : decode cL_law 717 = .ok (.iaload, 1) := dgq (p := 1) daL_law_716 dbL_law_716.2.1
theorem dL_law_718 : decode cL_law 718 = .ok (.aload_n 0, 1) := dgq (p := 2) daL_law_716 dbL_law_716.2.2.1
theorem dL_law_719 : decode cL_law 719 = .ok (.iload 5, 2) := dgq (p := 3) daL_law_716 dbL_law_716.2.2.2.1
theorem dL_law_721 : decode cL_law 721 = .ok (.iconst 2, 1) := dgq (p := 5) daL_law_716 dbL_law_716.2.2.2.2.1
theorem dL_law_722 : decode cL_law 722 = .ok (.iadd, 1) := dgq (p := 6) daL_law_716 dbL_law_716.2.2.2.2.2.1
theorem dL_law_723 : decode cL_law 723 = .ok (.iaload, 1) := dgq (p := 7) daL_law_716 dbL_law_716.2.2.2.2.2.2.1
theorem dL_law_724 : decode cL_law 724 = .ok (.aload_n 3, 1) := dgq (p := 8) daL_law_716 dbL_law_716.2.2.2.2.2.2.2.1
theorem dL_law_725 : decode cL_law 725 = .ok (.invokestatic 264, 3) := dgq (p := 9) daL_law_716 dbL_law_716.2.2.2.2.2.2.2.2.1
theorem dL_law_728 : decode cL_law 728 = .ok (.istore 6, 2) := dgq (p := 12) daL_law_716 dbL_law_716.2.2.2.2.2.2.2.2.2
def dsL_law_730 : ByteArray := ⟨#[44, 42, 21, 5, 4, 96, 46, 42, 21, 5, 5, 96]⟩
theorem daL_law_730 : agB cL_law dsL_law_730 730 := agB_of (n := 12) (by decide +kernel)
theorem dbL_law_730 : (decode dsL_law_730 0 = .ok (.aload_n 2, 1) ∧ okop dsL_law_730 0 = true) ∧ (decode dsL_law_730 1 = .ok (.aload_n 0, 1) ∧ okop dsL_law_730 1 = true) ∧ (decode dsL_law_730 2 = .ok (.iload 5, 2) ∧ okop dsL_law_730 2 = true) ∧ (decode dsL_law_730 4 = .ok (.iconst 1, 1) ∧ okop dsL_law_730 4 = true) ∧ (decode dsL_law_730 5 = .ok (.iadd, 1) ∧ okop dsL_law_730 5 = true) ∧ (decode dsL_law_730 6 = .ok (.iaload, 1) ∧ okop dsL_law_730 6 = true) ∧ (decode dsL_law_730 7 = .ok (.aload_n 0, 1) ∧ okop dsL_law_730 7 = true) ∧ (decode dsL_law_730 8 = .ok (.iload 5, 2) ∧ okop dsL_law_730 8 = true) ∧ (decode dsL_law_730 10 = .ok (.iconst 2, 1) ∧ okop dsL_law_730 10 = true) ∧ (decode dsL_law_730 11 = .ok (.iadd, 1) ∧ okop dsL_law_730 11 = true) := by decide +kernel
theorem dL_law_730 : decode cL_law 730 = .ok (.aload_n 2, 1) := dgq (p := 0) daL_law_730 dbL_law_730.1
theorem dL_law_731 : decode cL_law 731 = .ok (.aload_n 0, 1) := dgq (p := 1) daL_law_730 dbL_law_730.2.1
theorem dL_law_732 : decode cL_law 732 = .ok (.iload 5, 2) := dgq (p := 2) daL_law_730 dbL_law_730.2.2.1
theorem dL_law_734 : decode cL_law 734 = .ok (.iconst 1, 1) := dgq (p := 4) daL_law_730 dbL_law_730.2.2.2.1
theorem dL_law_735 : decode cL_law 735 = .ok (.iadd, 1) := dgq (p := 5) daL_law_730 dbL_law_730.2.2.2.2.1
theorem dL_law_736 : decode cL_law 736 = .ok (.iaload, 1) := dgq (p := 6) daL_law_730 dbL_law_730.2.2.2.2.2.1
theorem dL_law_737 : decode cL_law 737 = .ok (.aload_n 0, 1) := dgq (p := 7) daL_law_730 dbL_law_730.2.2.2.2.2.2.1
theorem dL_law_738 : decode cL_law 738 = .ok (.iload 5, 2) := dgq (p := 8) daL_law_730 dbL_law_730.2.2.2.2.2.2.2.1
theorem dL_law_740 : decode cL_law 740 = .ok (.iconst 2, 1) := dgq (p := 10) daL_law_730 dbL_law_730.2.2.2.2.2.2.2.2.1
theorem dL_law_741 : decode cL_law 741 = .ok (.iadd, 1) := dgq (p := 11) daL_law_730 dbL_law_730.2.2.2.2.2.2.2.2.2
def dsL_law_742 : ByteArray := ⟨#[46, 182, 1, 10, 54, 7, 167, 8, 135, 43, 42, 21, 5, 4, 96, 46]⟩
theorem daL_law_742 : agB cL_law dsL_law_742 742 := agB_of (n := 16) (by decide +kernel)
theorem dbL_law_742 : (decode dsL_law_742 0 = .ok (.iaload, 1) ∧ okop dsL_law_742 0 = true) ∧ (decode dsL_law_742 1 = .ok (.invokevirtual 266, 3) ∧ okop dsL_law_742 1 = true) ∧ (decode dsL_law_742 4 = .ok (.istore 7, 2) ∧ okop dsL_law_742 4 = true) ∧ (decode dsL_law_742 6 = .ok (.goto 2183, 3) ∧ okop dsL_law_742 6 = true) ∧ (decode dsL_law_742 9 = .ok (.aload_n 1, 1) ∧ okop dsL_law_742 9 = true) ∧ (decode dsL_law_742 10 = .ok (.aload_n 0, 1) ∧ okop dsL_law_742 10 = true) ∧ (decode dsL_law_742 11 = .ok (.iload 5, 2) ∧ okop dsL_law_742 11 = true) ∧ (decode dsL_law_742 13 = .ok (.iconst 1, 1) ∧ okop dsL_law_742 13 = true) ∧ (decode dsL_law_742 14 = .ok (.iadd, 1) ∧ okop dsL_law_742 14 = true) ∧ (decode dsL_law_742 15 = .ok (.iaload, 1) ∧ okop dsL_law_742 15 = true) := by decide +kernel
theorem dL_law_742 : decode cL_law 742 = .ok (.iaload, 1) := dgq (p := 0) daL_law_742 dbL_law_742.1
theorem dL_law_743 : decode cL_law 743 = .ok (.invokevirtual 266, 3) := dgq (p := 1) daL_law_742 dbL_law_742.2.1
theorem dL_law_746 : decode cL_law 746 = .ok (.istore 7, 2) := dgq (p := 4) daL_law_742 dbL_law_742.2.2.1
theorem dL_law_748 : decode cL_law 748 = .ok (.goto 2183, 3) := dgq (p := 6) daL_law_742 dbL_law_742.2.2.2.1
theorem dL_law_751 : decode cL_law 751 = .ok (.aload_n 1, 1) := dgq (p := 9) daL_law_742 dbL_law_742.2.2.2.2.1
theorem dL_law_752 : decode cL_law 752 = .ok (.aload_n 0, 1) := dgq (p := 10) daL_law_742 dbL_law_742.2.2.2.2.2.1
theorem dL_law_753 : decode cL_law 753 = .ok (.iload 5, 2) := dgq (p := 11) daL_law_742 dbL_law_742.2.2.2.2.2.2.1
theorem dL_law_755 : decode cL_law 755 = .ok (.iconst 1, 1) := dgq (p := 13) daL_law_742 dbL_law_742.2.2.2.2.2.2.2.1
theorem dL_law_756 : decode cL_law 756 = .ok (.iadd, 1) := dgq (p := 14) daL_law_742 dbL_law_742.2.2.2.2.2.2.2.2.1
theorem dL_law_757 : decode cL_law 757 = .ok (.iaload, 1) := dgq (p := 15) daL_law_742 dbL_law_742.2.2.2.2.2.2.2.2.2
def dsL_law_758 : ByteArray := ⟨#[42, 21, 5, 5, 96, 46, 45, 184, 1, 11, 54, 6, 44, 42]⟩
theorem daL_law_758 : agB cL_law dsL_law_758 758 := agB_of (n := 14) (by decide +kernel)
theorem dbL_law_758 : (decode dsL_law_758 0 = .ok (.aload_n 0, 1) ∧ okop dsL_law_758 0 = true) ∧ (decode dsL_law_758 1 = .ok (.iload 5, 2) ∧ okop dsL_law_758 1 = true) ∧ (decode dsL_law_758 3 = .ok (.iconst 2, 1) ∧ okop dsL_law_758 3 = true) ∧ (decode dsL_law_758 4 = .ok (.iadd, 1) ∧ okop dsL_law_758 4 = true) ∧ (decode dsL_law_758 5 = .ok (.iaload, 1) ∧ okop dsL_law_758 5 = true) ∧ (decode dsL_law_758 6 = .ok (.aload_n 3, 1) ∧ okop dsL_law_758 6 = true) ∧ (decode dsL_law_758 7 = .ok (.invokestatic 267, 3) ∧ okop dsL_law_758 7 = true) ∧ (decode dsL_law_758 10 = .ok (.istore 6, 2) ∧ okop dsL_law_758 10 = true) ∧ (decode dsL_law_758 12 = .ok (.aload_n 2, 1) ∧ okop dsL_law_758 12 = true) ∧ (decode dsL_law_758 13 = .ok (.aload_n 0, 1) ∧ okop dsL_law_758 13 = true) := by decide +kernel
theorem dL_law_758 : decode cL_law 758 = .ok (.aload_n 0, 1) := dgq (p := 0) daL_law_758 dbL_law_758.1
theorem dL_law_759 : decode cL_law 759 = .ok (.iload 5, 2) := dgq (p := 1) daL_law_758 dbL_law_758.2.1
theorem dL_law_761 : decode cL_law 761 = .ok (.iconst 2, 1) := dgq (p := 3) daL_law_758 dbL_law_758.2.2.1
theorem dL_law_762 : decode cL_law 762 = .ok (.iadd, 1) := dgq (p := 4) daL_law_758 dbL_law_758.2.2.2.1
theorem dL_law_763 : decode cL_law 763 = .ok (.iaload, 1) := dgq (p := 5) daL_law_758 dbL_law_758.2.2.2.2.1
theorem dL_law_764 : decode cL_law 764 = .ok (.aload_n 3, 1) := dgq (p := 6) daL_law_758 dbL_law_758.2.2.2.2.2.1
theorem dL_law_765 : decode cL_law 765 = .ok (.invokestatic 267, 3) := dgq (p := 7) daL_law_758 dbL_law_758.2.2.2.2.2.2.1
theorem dL_law_768 : decode cL_law 768 = .ok (.istore 6, 2) := dgq (p := 10) daL_law_758 dbL_law_758.2.2.2.2.2.2.2.1
theorem dL_law_770 : decode cL_law 770 = .ok (.aload_n 2, 1) := dgq (p := 12) daL_law_758 dbL_law_758.2.2.2.2.2.2.2.2.1
theorem dL_law_771 : decode cL_law 771 = .ok (.aload_n 0, 1) := dgq (p := 13) daL_law_758 dbL_law_758.2.2.2.2.2.2.2.2.2
def dsL_law_772 : ByteArray := ⟨#[21, 5, 4, 96, 46, 42, 21, 5, 5, 96, 46, 182, 1, 13]⟩
theorem daL_law_772 : agB cL_law dsL_law_772 772 := agB_of (n := 14) (by decide +kernel)
theorem dbL_law_772 : (decode dsL_law_772 0 = .ok (.iload 5, 2) ∧ okop dsL_law_772 0 = true) ∧ (decode dsL_law_772 2 = .ok (.iconst 1, 1) ∧ okop dsL_law_772 2 = true) ∧ (decode dsL_law_772 3 = .ok (.iadd, 1) ∧ okop dsL_law_772 3 = true) ∧ (decode dsL_law_772 4 = .ok (.iaload, 1) ∧ okop dsL_law_772 4 = true) ∧ (decode dsL_law_772 5 = .ok (.aload_n 0, 1) ∧ okop dsL_law_772 5 = true) ∧ (decode dsL_law_772 6 = .ok (.iload 5, 2) ∧ okop dsL_law_772 6 = true) ∧ (decode dsL_law_772 8 = .ok (.iconst 2, 1) ∧ okop dsL_law_772 8 = true) ∧ (decode dsL_law_772 9 = .ok (.iadd, 1) ∧ okop dsL_law_772 9 = true) ∧ (decode dsL_law_772 10 = .ok (.iaload, 1) ∧ okop dsL_law_772 10 = true) ∧ (decode dsL_law_772 11 = .ok (.invokevirtual 269, 3) ∧ okop dsL_law_772 11 = true) := by decide +kernel
theorem dL_law_772 : decode cL_law 772 = .ok (.iload 5, 2) := dgq (p := 0) daL_law_772 dbL_law_772.1
theorem dL_law_774 : decode cL_law 774 = .ok (.iconst 1, 1) := dgq (p := 2) daL_law_772 dbL_law_772.2.1
theorem dL_law_775 : decode cL_law 775 = .ok (.iadd, 1) := dgq (p := 3) daL_law_772 dbL_law_772.2.2.1
theorem dL_law_776 : decode cL_law 776 = .ok (.iaload, 1) := dgq (p := 4) daL_law_772 dbL_law_772.2.2.2.1
theorem dL_law_777 : decode cL_law 777 = .ok (.aload_n 0, 1) := dgq (p := 5) daL_law_772 dbL_law_772.2.2.2.2.1
theorem dL_law_778 : decode cL_law 778 = .ok (.iload 5, 2) := dgq (p := 6) daL_law_772 dbL_law_772.2.2.2.2.2.1
theorem dL_law_780 : decode cL_law 780 = .ok (.iconst 2, 1) := dgq (p := 8) daL_law_772 dbL_law_772.2.2.2.2.2.2.1
theorem dL_law_781 : decode cL_law 781 = .ok (.iadd, 1) := dgq (p := 9) daL_law_772 dbL_law_772.2.2.2.2.2.2.2.1
theorem dL_law_782 : decode cL_law 782 = .ok (.iaload, 1) := dgq (p := 10) daL_law_772 dbL_law_772.2.2.2.2.2.2.2.2.1
theorem dL_law_783 : decode cL_law 783 = .ok (.invokevirtual 269, 3) := dgq (p := 11) daL_law_772 dbL_law_772.2.2.2.2.2.2.2.2.2
def dsL_law_786 : ByteArray := ⟨#[55, 7, 167, 8, 95, 43, 42, 21, 5, 4, 96, 46, 42, 21, 5]⟩
theorem daL_law_786 : agB cL_law dsL_law_786 786 := agB_of (n := 15) (by decide +kernel)
theorem dbL_law_786 : (decode dsL_law_786 0 = .ok (.lstore 7, 2) ∧ okop dsL_law_786 0 = true) ∧ (decode dsL_law_786 2 = .ok (.goto 2143, 3) ∧ okop dsL_law_786 2 = true) ∧ (decode dsL_law_786 5 = .ok (.aload_n 1, 1) ∧ okop dsL_law_786 5 = true) ∧ (decode dsL_law_786 6 = .ok (.aload_n 0, 1) ∧ okop dsL_law_786 6 = true) ∧ (decode dsL_law_786 7 = .ok (.iload 5, 2) ∧ okop dsL_law_786 7 = true) ∧ (decode dsL_law_786 9 = .ok (.iconst 1, 1) ∧ okop dsL_law_786 9 = true) ∧ (decode dsL_law_786 10 = .ok (.iadd, 1) ∧ okop dsL_law_786 10 = true) ∧ (decode dsL_law_786 11 = .ok (.iaload, 1) ∧ okop dsL_law_786 11 = true) ∧ (decode dsL_law_786 12 = .ok (.aload_n 0, 1) ∧ okop dsL_law_786 12 = true) ∧ (decode dsL_law_786 13 = .ok (.iload 5, 2) ∧ okop dsL_law_786 13 = true) := by decide +kernel
theorem dL_law_786 : decode cL_law 786 = .ok (.lstore 7, 2) := dgq (p := 0) daL_law_786 dbL_law_786.1
theorem dL_law_788 : decode cL_law 788 = .ok (.goto 2143, 3) := dgq (p := 2) daL_law_786 dbL_law_786.2.1
theorem dL_law_791 : decode cL_law 791 = .ok (.aload_n 1, 1) := dgq (p := 5) daL_law_786 dbL_law_786.2.2.1
theorem dL_law_792 : decode cL_law 792 = .ok (.aload_n 0, 1) := dgq (p := 6) daL_law_786 dbL_law_786.2.2.2.1
theorem dL_law_793 : decode cL_law 793 = .ok (.iload 5, 2) := dgq (p := 7) daL_law_786 dbL_law_786.2.2.2.2.1
theorem dL_law_795 : decode cL_law 795 = .ok (.iconst 1, 1) := dgq (p := 9) daL_law_786 dbL_law_786.2.2.2.2.2.1
theorem dL_law_796 : decode cL_law 796 = .ok (.iadd, 1) := dgq (p := 10) daL_law_786 dbL_law_786.2.2.2.2.2.2.1
theorem dL_law_797 : decode cL_law 797 = .ok (.iaload, 1) := dgq (p := 11) daL_law_786 dbL_law_786.2.2.2.2.2.2.2.1
theorem dL_law_798 : decode cL_law 798 = .ok (.aload_n 0, 1) := dgq (p := 12) daL_law_786 dbL_law_786.2.2.2.2.2.2.2.2.1
theorem dL_law_799 : decode cL_law 799 = .ok (.iload 5, 2) := dgq (p := 13) daL_law_786 dbL_law_786.2.2.2.2.2.2.2.2.2
def dsL_law_801 : ByteArray := ⟨#[5, 96, 46, 45, 184, 1, 14, 54, 6, 44, 42, 21, 5, 4]⟩
theorem daL_law_801 : agB cL_law dsL_law_801 801 := agB_of (n := 14) (by decide +kernel)
theorem dbL_law_801 : (decode dsL_law_801 0 = .ok (.iconst 2, 1) ∧ okop dsL_law_801 0 = true) ∧ (decode dsL_law_801 1 = .ok (.iadd, 1) ∧ okop dsL_law_801 1 = true) ∧ (decode dsL_law_801 2 = .ok (.iaload, 1) ∧ okop dsL_law_801 2 = true) ∧ (decode dsL_law_801 3 = .ok (.aload_n 3, 1) ∧ okop dsL_law_801 3 = true) ∧ (decode dsL_law_801 4 = .ok (.invokestatic 270, 3) ∧ okop dsL_law_801 4 = true) ∧ (decode dsL_law_801 7 = .ok (.istore 6, 2) ∧ okop dsL_law_801 7 = true) ∧ (decode dsL_law_801 9 = .ok (.aload_n 2, 1) ∧ okop dsL_law_801 9 = true) ∧ (decode dsL_law_801 10 = .ok (.aload_n 0, 1) ∧ okop dsL_law_801 10 = true) ∧ (decode dsL_law_801 11 = .ok (.iload 5, 2) ∧ okop dsL_law_801 11 = true) ∧ (decode dsL_law_801 13 = .ok (.iconst 1, 1) ∧ okop dsL_law_801 13 = true) := by decide +kernel
theorem dL_law_801 : decode cL_law 801 = .ok (.iconst 2, 1) := dgq (p := 0) daL_law_801 dbL_law_801.1
theorem dL_law_802 : decode cL_law 802 = .ok (.iadd, 1) := dgq (p := 1) daL_law_801 dbL_law_801.2.1
theorem dL_law_803 : decode cL_law 803 = .ok (.iaload, 1) := dgq (p := 2) daL_law_801 dbL_law_801.2.2.1
theorem dL_law_804 : decode cL_law 804 = .ok (.aload_n 3, 1) := dgq (p := 3) daL_law_801 dbL_law_801.2.2.2.1
theorem dL_law_805 : decode cL_law 805 = .ok (.invokestatic 270, 3) := dgq (p := 4) daL_law_801 dbL_law_801.2.2.2.2.1
theorem dL_law_808 : decode cL_law 808 = .ok (.istore 6, 2) := dgq (p := 7) daL_law_801 dbL_law_801.2.2.2.2.2.1
theorem dL_law_810 : decode cL_law 810 = .ok (.aload_n 2, 1) := dgq (p := 9) daL_law_801 dbL_law_801.2.2.2.2.2.2.1
theorem dL_law_811 : decode cL_law 811 = .ok (.aload_n 0, 1) := dgq (p := 10) daL_law_801 dbL_law_801.2.2.2.2.2.2.2.1
theorem dL_law_812 : decode cL_law 812 = .ok (.iload 5, 2) := dgq (p := 11) daL_law_801 dbL_law_801.2.2.2.2.2.2.2.2.1
theorem dL_law_814 : decode cL_law 814 = .ok (.iconst 1, 1) := dgq (p := 13) daL_law_801 dbL_law_801.2.2.2.2.2.2.2.2.2
def dsL_law_815 : ByteArray := ⟨#[96, 46, 42, 21, 5, 5, 96, 46, 182, 1, 16, 54, 7, 167, 8, 55]⟩
theorem daL_law_815 : agB cL_law dsL_law_815 815 := agB_of (n := 16) (by decide +kernel)
theorem dbL_law_815 : (decode dsL_law_815 0 = .ok (.iadd, 1) ∧ okop dsL_law_815 0 = true) ∧ (decode dsL_law_815 1 = .ok (.iaload, 1) ∧ okop dsL_law_815 1 = true) ∧ (decode dsL_law_815 2 = .ok (.aload_n 0, 1) ∧ okop dsL_law_815 2 = true) ∧ (decode dsL_law_815 3 = .ok (.iload 5, 2) ∧ okop dsL_law_815 3 = true) ∧ (decode dsL_law_815 5 = .ok (.iconst 2, 1) ∧ okop dsL_law_815 5 = true) ∧ (decode dsL_law_815 6 = .ok (.iadd, 1) ∧ okop dsL_law_815 6 = true) ∧ (decode dsL_law_815 7 = .ok (.iaload, 1) ∧ okop dsL_law_815 7 = true) ∧ (decode dsL_law_815 8 = .ok (.invokevirtual 272, 3) ∧ okop dsL_law_815 8 = true) ∧ (decode dsL_law_815 11 = .ok (.istore 7, 2) ∧ okop dsL_law_815 11 = true) ∧ (decode dsL_law_815 13 = .ok (.goto 2103, 3) ∧ okop dsL_law_815 13 = true) := by decide +kernel
theorem dL_law_815 : decode cL_law 815 = .ok (.iadd, 1) := dgq (p := 0) daL_law_815 dbL_law_815.1
theorem dL_law_816 : decode cL_law 816 = .ok (.iaload, 1) := dgq (p := 1) daL_law_815 dbL_law_815.2.1
theorem dL_law_817 : decode cL_law 817 = .ok (.aload_n 0, 1) := dgq (p := 2) daL_law_815 dbL_law_815.2.2.1
theorem dL_law_818 : decode cL_law 818 = .ok (.iload 5, 2) := dgq (p := 3) daL_law_815 dbL_law_815.2.2.2.1
theorem dL_law_820 : decode cL_law 820 = .ok (.iconst 2, 1) := dgq (p := 5) daL_law_815 dbL_law_815.2.2.2.2.1
theorem dL_law_821 : decode cL_law 821 = .ok (.iadd, 1) := dgq (p := 6) daL_law_815 dbL_law_815.2.2.2.2.2.1
theorem dL_law_822 : decode cL_law 822 = .ok (.iaload, 1) := dgq (p := 7) daL_law_815 dbL_law_815.2.2.2.2.2.2.1
theorem dL_law_823 : decode cL_law 823 = .ok (.invokevirtual 272, 3) := dgq (p := 8) daL_law_815 dbL_law_815.2.2.2.2.2.2.2.1
theorem dL_law_826 : decode cL_law 826 = .ok (.istore 7, 2) := dgq (p := 11) daL_law_815 dbL_law_815.2.2.2.2.2.2.2.2.1
theorem dL_law_828 : decode cL_law 828 = .ok (.goto 2103, 3) := dgq (p := 13) daL_law_815 dbL_law_815.2.2.2.2.2.2.2.2.2
def dsL_law_831 : ByteArray := ⟨#[43, 42, 21, 5, 4, 96, 46, 42, 21, 5, 5, 96]⟩
theorem daL_law_831 : agB cL_law dsL_law_831 831 := agB_of (n := 12) (by decide +kernel)
theorem dbL_law_831 : (decode dsL_law_831 0 = .ok (.aload_n 1, 1) ∧ okop dsL_law_831 0 = true) ∧ (decode dsL_law_831 1 = .ok (.aload_n 0, 1) ∧ okop dsL_law_831 1 = true) ∧ (decode dsL_law_831 2 = .ok (.iload 5, 2) ∧ okop dsL_law_831 2 = true) ∧ (decode dsL_law_831 4 = .ok (.iconst 1, 1) ∧ okop dsL_law_831 4 = true) ∧ (decode dsL_law_831 5 = .ok (.iadd, 1) ∧ okop dsL_law_831 5 = true) ∧ (decode dsL_law_831 6 = .ok (.iaload, 1) ∧ okop dsL_law_831 6 = true) ∧ (decode dsL_law_831 7 = .ok (.aload_n 0, 1) ∧ okop dsL_law_831 7 = true) ∧ (decode dsL_law_831 8 = .ok (.iload 5, 2) ∧ okop dsL_law_831 8 = true) ∧ (decode dsL_law_831 10 = .ok (.iconst 2, 1) ∧ okop dsL_law_831 10 = true) ∧ (decode dsL_law_831 11 = .ok (.iadd, 1) ∧ okop dsL_law_831 11 = true) := by decide +kernel
theorem dL_law_831 : decode cL_law 831 = .ok (.aload_n 1, 1) := dgq (p := 0) daL_law_831 dbL_law_831.1
theorem dL_law_832 : decode cL_law 832 = .ok (.aload_n 0, 1) := dgq (p := 1) daL_law_831 dbL_law_831.2.1
theorem dL_law_833 : decode cL_law 833 = .ok (.iload 5, 2) := dgq (p := 2) daL_law_831 dbL_law_831.2.2.1
theorem dL_law_835 : decode cL_law 835 = .ok (.iconst 1, 1) := dgq (p := 4) daL_law_831 dbL_law_831.2.2.2.1
theorem dL_law_836 : decode cL_law 836 = .ok (.iadd, 1) := dgq (p := 5) daL_law_831 dbL_law_831.2.2.2.2.1
theorem dL_law_837 : decode cL_law 837 = .ok (.iaload, 1) := dgq (p := 6) daL_law_831 dbL_law_831.2.2.2.2.2.1
theorem dL_law_838 : decode cL_law 838 = .ok (.aload_n 0, 1) := dgq (p := 7) daL_law_831 dbL_law_831.2.2.2.2.2.2.1
theorem dL_law_839 : decode cL_law 839 = .ok (.iload 5, 2) := dgq (p := 8) daL_law_831 dbL_law_831.2.2.2.2.2.2.2.1
theorem dL_law_841 : decode cL_law 841 = .ok (.iconst 2, 1) := dgq (p := 10) daL_law_831 dbL_law_831.2.2.2.2.2.2.2.2.1
theorem dL_law_842 : decode cL_law 842 = .ok (.iadd, 1) := dgq (p := 11) daL_law_831 dbL_law_831.2.2.2.2.2.2.2.2.2
def dsL_law_843 : ByteArray := ⟨#[46, 42, 21, 5, 6, 96, 46, 42, 21, 5, 7, 96]⟩
theorem daL_law_843 : agB cL_law dsL_law_843 843 := agB_of (n := 12) (by decide +kernel)
theorem dbL_law_843 : (decode dsL_law_843 0 = .ok (.iaload, 1) ∧ okop dsL_law_843 0 = true) ∧ (decode dsL_law_843 1 = .ok (.aload_n 0, 1) ∧ okop dsL_law_843 1 = true) ∧ (decode dsL_law_843 2 = .ok (.iload 5, 2) ∧ okop dsL_law_843 2 = true) ∧ (decode dsL_law_843 4 = .ok (.iconst 3, 1) ∧ okop dsL_law_843 4 = true) ∧ (decode dsL_law_843 5 = .ok (.iadd, 1) ∧ okop dsL_law_843 5 = true) ∧ (decode dsL_law_843 6 = .ok (.iaload, 1) ∧ okop dsL_law_843 6 = true) ∧ (decode dsL_law_843 7 = .ok (.aload_n 0, 1) ∧ okop dsL_law_843 7 = true) ∧ (decode dsL_law_843 8 = .ok (.iload 5, 2) ∧ okop dsL_law_843 8 = true) ∧ (decode dsL_law_843 10 = .ok (.iconst 4, 1) ∧ okop dsL_law_843 10 = true) ∧ (decode dsL_law_843 11 = .ok (.iadd, 1) ∧ okop dsL_law_843 11 = true) := by decide +kernel
theorem dL_law_843 : decode cL_law 843 = .ok (.iaload, 1) := dgq (p := 0) daL_law_843 dbL_law_843.1
theorem dL_law_844 : decode cL_law 844 = .ok (.aload_n 0, 1) := dgq (p := 1) daL_law_843 dbL_law_843.2.1
theorem dL_law_845 : decode cL_law 845 = .ok (.iload 5, 2) := dgq (p := 2) daL_law_843 dbL_law_843.2.2.1
theorem dL_law_847 : decode cL_law 847 = .ok (.iconst 3, 1) := dgq (p := 4) daL_law_843 dbL_law_843.2.2.2.1
theorem dL_law_848 : decode cL_law 848 = .ok (.iadd, 1) := dgq (p := 5) daL_law_843 dbL_law_843.2.2.2.2.1
theorem dL_law_849 : decode cL_law 849 = .ok (.iaload, 1) := dgq (p := 6) daL_law_843 dbL_law_843.2.2.2.2.2.1
theorem dL_law_850 : decode cL_law 850 = .ok (.aload_n 0, 1) := dgq (p := 7) daL_law_843 dbL_law_843.2.2.2.2.2.2.1
theorem dL_law_851 : decode cL_law 851 = .ok (.iload 5, 2) := dgq (p := 8) daL_law_843 dbL_law_843.2.2.2.2.2.2.2.1
theorem dL_law_853 : decode cL_law 853 = .ok (.iconst 4, 1) := dgq (p := 10) daL_law_843 dbL_law_843.2.2.2.2.2.2.2.2.1
theorem dL_law_854 : decode cL_law 854 = .ok (.iadd, 1) := dgq (p := 11) daL_law_843 dbL_law_843.2.2.2.2.2.2.2.2.2
def dsL_law_855 : ByteArray := ⟨#[46, 45, 184, 1, 17, 54, 6, 44, 42, 21, 5, 4, 96, 46]⟩
theorem daL_law_855 : agB cL_law dsL_law_855 855 := agB_of (n := 14) (by decide +kernel)
theorem dbL_law_855 : (decode dsL_law_855 0 = .ok (.iaload, 1) ∧ okop dsL_law_855 0 = true) ∧ (decode dsL_law_855 1 = .ok (.aload_n 3, 1) ∧ okop dsL_law_855 1 = true) ∧ (decode dsL_law_855 2 = .ok (.invokestatic 273, 3) ∧ okop dsL_law_855 2 = true) ∧ (decode dsL_law_855 5 = .ok (.istore 6, 2) ∧ okop dsL_law_855 5 = true) ∧ (decode dsL_law_855 7 = .ok (.aload_n 2, 1) ∧ okop dsL_law_855 7 = true) ∧ (decode dsL_law_855 8 = .ok (.aload_n 0, 1) ∧ okop dsL_law_855 8 = true) ∧ (decode dsL_law_855 9 = .ok (.iload 5, 2) ∧ okop dsL_law_855 9 = true) ∧ (decode dsL_law_855 11 = .ok (.iconst 1, 1) ∧ okop dsL_law_855 11 = true) ∧ (decode dsL_law_855 12 = .ok (.iadd, 1) ∧ okop dsL_law_855 12 = true) ∧ (decode dsL_law_855 13 = .ok (.iaload, 1) ∧ okop dsL_law_855 13 = true) := by decide +kernel
theorem dL_law_855 : decode cL_law 855 = .ok (.iaload, 1) := dgq (p := 0) daL_law_855 dbL_law_855.1
theorem dL_law_856 : decode cL_law 856 = .ok (.aload_n 3, 1) := dgq (p := 1) daL_law_855 dbL_law_855.2.1
theorem dL_law_857 : decode cL_law 857 = .ok (.invokestatic 273, 3) := dgq (p := 2) daL_law_855 dbL_law_855.2.2.1
theorem dL_law_860 : decode cL_law 860 = .ok (.istore 6, 2) := dgq (p := 5) daL_law_855 dbL_law_855.2.2.2.1
theorem dL_law_862 : decode cL_law 862 = .ok (.aload_n 2, 1) := dgq (p := 7) daL_law_855 dbL_law_855.2.2.2.2.1
theorem dL_law_863 : decode cL_law 863 = .ok (.aload_n 0, 1) := dgq (p := 8) daL_law_855 dbL_law_855.2.2.2.2.2.1
theorem dL_law_864 : decode cL_law 864 = .ok (.iload 5, 2) := dgq (p := 9) daL_law_855 dbL_law_855.2.2.2.2.2.2.1
theorem dL_law_866 : decode cL_law 866 = .ok (.iconst 1, 1) := dgq (p := 11) daL_law_855 dbL_law_855.2.2.2.2.2.2.2.1
theorem dL_law_867 : decode cL_law 867 = .ok (.iadd, 1) := dgq (p := 12) daL_law_855 dbL_law_855.2.2.2.2.2.2.2.2.1
theorem dL_law_868 : decode cL_law 868 = .ok (.iaload, 1) := dgq (p := 13) daL_law_855 dbL_law_855.2.2.2.2.2.2.2.2.2
def dsL_law_869 : ByteArray := ⟨#[42, 21, 5, 5, 96, 46, 42, 21, 5, 6, 96, 46]⟩
theorem daL_law_869 : agB cL_law dsL_law_869 869 := agB_of (n := 12) (by decide +kernel)
theorem dbL_law_869 : (decode dsL_law_869 0 = .ok (.aload_n 0, 1) ∧ okop dsL_law_869 0 = true) ∧ (decode dsL_law_869 1 = .ok (.iload 5, 2) ∧ okop dsL_law_869 1 = true) ∧ (decode dsL_law_869 3 = .ok (.iconst 2, 1) ∧ okop dsL_law_869 3 = true) ∧ (decode dsL_law_869 4 = .ok (.iadd, 1) ∧ okop dsL_law_869 4 = true) ∧ (decode dsL_law_869 5 = .ok (.iaload, 1) ∧ okop dsL_law_869 5 = true) ∧ (decode dsL_law_869 6 = .ok (.aload_n 0, 1) ∧ okop dsL_law_869 6 = true) ∧ (decode dsL_law_869 7 = .ok (.iload 5, 2) ∧ okop dsL_law_869 7 = true) ∧ (decode dsL_law_869 9 = .ok (.iconst 3, 1) ∧ okop dsL_law_869 9 = true) ∧ (decode dsL_law_869 10 = .ok (.iadd, 1) ∧ okop dsL_law_869 10 = true) ∧ (decode dsL_law_869 11 = .ok (.iaload, 1) ∧ okop dsL_law_869 11 = true) := by decide +kernel
theorem dL_law_869 : decode cL_law 869 = .ok (.aload_n 0, 1) := dgq (p := 0) daL_law_869 dbL_law_869.1
theorem dL_law_870 : decode cL_law 870 = .ok (.iload 5, 2) := dgq (p := 1) daL_law_869 dbL_law_869.2.1
theorem dL_law_872 : decode cL_law 872 = .ok (.iconst 2, 1) := dgq (p := 3) daL_law_869 dbL_law_869.2.2.1
theorem dL_law_873 : decode cL_law 873 = .ok (.iadd, 1) := dgq (p := 4) daL_law_869 dbL_law_869.2.2.2.1
theorem dL_law_874 : decode cL_law 874 = .ok (.iaload, 1) := dgq (p := 5) daL_law_869 dbL_law_869.2.2.2.2.1
theorem dL_law_875 : decode cL_law 875 = .ok (.aload_n 0, 1) := dgq (p := 6) daL_law_869 dbL_law_869.2.2.2.2.2.1
theorem dL_law_876 : decode cL_law 876 = .ok (.iload 5, 2) := dgq (p := 7) daL_law_869 dbL_law_869.2.2.2.2.2.2.1
theorem dL_law_878 : decode cL_law 878 = .ok (.iconst 3, 1) := dgq (p := 9) daL_law_869 dbL_law_869.2.2.2.2.2.2.2.1
theorem dL_law_879 : decode cL_law 879 = .ok (.iadd, 1) := dgq (p := 10) daL_law_869 dbL_law_869.2.2.2.2.2.2.2.2.1
theorem dL_law_880 : decode cL_law 880 = .ok (.iaload, 1) := dgq (p := 11) daL_law_869 dbL_law_869.2.2.2.2.2.2.2.2.2
def dsL_law_881 : ByteArray := ⟨#[42, 21, 5, 7, 96, 46, 182, 1, 19, 54, 7, 167, 7, 247, 43, 42]⟩
theorem daL_law_881 : agB cL_law dsL_law_881 881 := agB_of (n := 16) (by decide +kernel)
theorem dbL_law_881 : (decode dsL_law_881 0 = .ok (.aload_n 0, 1) ∧ okop dsL_law_881 0 = true) ∧ (decode dsL_law_881 1 = .ok (.iload 5, 2) ∧ okop dsL_law_881 1 = true) ∧ (decode dsL_law_881 3 = .ok (.iconst 4, 1) ∧ okop dsL_law_881 3 = true) ∧ (decode dsL_law_881 4 = .ok (.iadd, 1) ∧ okop dsL_law_881 4 = true) ∧ (decode dsL_law_881 5 = .ok (.iaload, 1) ∧ okop dsL_law_881 5 = true) ∧ (decode dsL_law_881 6 = .ok (.invokevirtual 275, 3) ∧ okop dsL_law_881 6 = true) ∧ (decode dsL_law_881 9 = .ok (.istore 7, 2) ∧ okop dsL_law_881 9 = true) ∧ (decode dsL_law_881 11 = .ok (.goto 2039, 3) ∧ okop dsL_law_881 11 = true) ∧ (decode dsL_law_881 14 = .ok (.aload_n 1, 1) ∧ okop dsL_law_881 14 = true) ∧ (decode dsL_law_881 15 = .ok (.aload_n 0, 1) ∧ okop dsL_law_881 15 = true) := by decide +kernel
theorem dL_law_881 : decode cL_law 881 = .ok (.aload_n 0, 1) := dgq (p := 0) daL_law_881 dbL_law_881.1
theorem dL_law_882 : decode cL_law 882 = .ok (.iload 5, 2) := dgq (p := 1) daL_law_881 dbL_law_881.2.1
theorem dL_law_884 : decode cL_law 884 = .ok (.iconst 4, 1) := dgq (p := 3) daL_law_881 dbL_law_881.2.2.1
theorem dL_law_885 : decode cL_law 885 = .ok (.iadd, 1) := dgq (p := 4) daL_law_881 dbL_law_881.2.2.2.1
theorem dL_law_886 : decode cL_law 886 = .ok (.iaload, 1) := dgq (p := 5) daL_law_881 dbL_law_881.2.2.2.2.1
theorem dL_law_887 : decode cL_law 887 = .ok (.invokevirtual 275, 3) := dgq (p := 6) daL_law_881 dbL_law_881.2.2.2.2.2.1
theorem dL_law_890 : decode cL_law 890 = .ok (.istore 7, 2) := dgq (p := 9) daL_law_881 dbL_law_881.2.2.2.2.2.2.1
theorem dL_law_892 : decode cL_law 892 = .ok (.goto 2039, 3) := dgq (p := 11) daL_law_881 dbL_law_881.2.2.2.2.2.2.2.1
theorem dL_law_895 : decode cL_law 895 = .ok (.aload_n 1, 1) := dgq (p := 14) daL_law_881 dbL_law_881.2.2.2.2.2.2.2.2.1
theorem dL_law_896 : decode cL_law 896 = .ok (.aload_n 0, 1) := dgq (p := 15) daL_law_881 dbL_law_881.2.2.2.2.2.2.2.2.2
def dsL_law_897 : ByteArray := ⟨#[21, 5, 4, 96, 46, 42, 21, 5, 5, 96, 46, 42]⟩
theorem daL_law_897 : agB cL_law dsL_law_897 897 := agB_of (n := 12) (by decide +kernel)
theorem dbL_law_897 : (decode dsL_law_897 0 = .ok (.iload 5, 2) ∧ okop dsL_law_897 0 = true) ∧ (decode dsL_law_897 2 = .ok (.iconst 1, 1) ∧ okop dsL_law_897 2 = true) ∧ (decode dsL_law_897 3 = .ok (.iadd, 1) ∧ okop dsL_law_897 3 = true) ∧ (decode dsL_law_897 4 = .ok (.iaload, 1) ∧ okop dsL_law_897 4 = true) ∧ (decode dsL_law_897 5 = .ok (.aload_n 0, 1) ∧ okop dsL_law_897 5 = true) ∧ (decode dsL_law_897 6 = .ok (.iload 5, 2) ∧ okop dsL_law_897 6 = true) ∧ (decode dsL_law_897 8 = .ok (.iconst 2, 1) ∧ okop dsL_law_897 8 = true) ∧ (decode dsL_law_897 9 = .ok (.iadd, 1) ∧ okop dsL_law_897 9 = true) ∧ (decode dsL_law_897 10 = .ok (.iaload, 1) ∧ okop dsL_law_897 10 = true) ∧ (decode dsL_law_897 11 = .ok (.aload_n 0, 1) ∧ okop dsL_law_897 11 = true) := by decide +kernel
theorem dL_law_897 : decode cL_law 897 = .ok (.iload 5, 2) := dgq (p := 0) daL_law_897 dbL_law_897.1
theorem dL_law_899 : decode cL_law 899 = .ok (.iconst 1, 1) := dgq (p := 2) daL_law_897 dbL_law_897.2.1
theorem dL_law_900 : decode cL_law 900 = .ok (.iadd, 1) := dgq (p := 3) daL_law_897 dbL_law_897.2.2.1
theorem dL_law_901 : decode cL_law 901 = .ok (.iaload, 1) := dgq (p := 4) daL_law_897 dbL_law_897.2.2.2.1
theorem dL_law_902 : decode cL_law 902 = .ok (.aload_n 0, 1) := dgq (p := 5) daL_law_897 dbL_law_897.2.2.2.2.1
theorem dL_law_903 : decode cL_law 903 = .ok (.iload 5, 2) := dgq (p := 6) daL_law_897 dbL_law_897.2.2.2.2.2.1
theorem dL_law_905 : decode cL_law 905 = .ok (.iconst 2, 1) := dgq (p := 8) daL_law_897 dbL_law_897.2.2.2.2.2.2.1
theorem dL_law_906 : decode cL_law 906 = .ok (.iadd, 1) := dgq (p := 9) daL_law_897 dbL_law_897.2.2.2.2.2.2.2.1
theorem dL_law_907 : decode cL_law 907 = .ok (.iaload, 1) := dgq (p := 10) daL_law_897 dbL_law_897.2.2.2.2.2.2.2.2.1
theorem dL_law_908 : decode cL_law 908 = .ok (.aload_n 0, 1) := dgq (p := 11) daL_law_897 dbL_law_897.2.2.2.2.2.2.2.2.2
def dsL_law_909 : ByteArray := ⟨#[21, 5, 6, 96, 46, 42, 21, 5, 7, 96, 46, 45]⟩
theorem daL_law_909 : agB cL_law dsL_law_909 909 := agB_of (n := 12) (by decide +kernel)
theorem dbL_law_909 : (decode dsL_law_909 0 = .ok (.iload 5, 2) ∧ okop dsL_law_909 0 = true) ∧ (decode dsL_law_909 2 = .ok (.iconst 3, 1) ∧ okop dsL_law_909 2 = true) ∧ (decode dsL_law_909 3 = .ok (.iadd, 1) ∧ okop dsL_law_909 3 = true) ∧ (decode dsL_law_909 4 = .ok (.iaload, 1) ∧ okop dsL_law_909 4 = true) ∧ (decode dsL_law_909 5 = .ok (.aload_n 0, 1) ∧ okop dsL_law_909 5 = true) ∧ (decode dsL_law_909 6 = .ok (.iload 5, 2) ∧ okop dsL_law_909 6 = true) ∧ (decode dsL_law_909 8 = .ok (.iconst 4, 1) ∧ okop dsL_law_909 8 = true) ∧ (decode dsL_law_909 9 = .ok (.iadd, 1) ∧ okop dsL_law_909 9 = true) ∧ (decode dsL_law_909 10 = .ok (.iaload, 1) ∧ okop dsL_law_909 10 = true) ∧ (decode dsL_law_909 11 = .ok (.aload_n 3, 1) ∧ okop dsL_law_909 11 = true) := by decide +kernel
theorem dL_law_909 : decode cL_law 909 = .ok (.iload 5, 2) := dgq (p := 0) daL_law_909 dbL_law_909.1
theorem dL_law_911 : decode cL_law 911 = .ok (.iconst 3, 1) := dgq (p := 2) daL_law_909 dbL_law_909.2.1
theorem dL_law_912 : decode cL_law 912 = .ok (.iadd, 1) := dgq (p := 3) daL_law_909 dbL_law_909.2.2.1
theorem dL_law_913 : decode cL_law 913 = .ok (.iaload, 1) := dgq (p := 4) daL_law_909 dbL_law_909.2.2.2.1
theorem dL_law_914 : decode cL_law 914 = .ok (.aload_n 0, 1) := dgq (p := 5) daL_law_909 dbL_law_909.2.2.2.2.1
theorem dL_law_915 : decode cL_law 915 = .ok (.iload 5, 2) := dgq (p := 6) daL_law_909 dbL_law_909.2.2.2.2.2.1
theorem dL_law_917 : decode cL_law 917 = .ok (.iconst 4, 1) := dgq (p := 8) daL_law_909 dbL_law_909.2.2.2.2.2.2.1
theorem dL_law_918 : decode cL_law 918 = .ok (.iadd, 1) := dgq (p := 9) daL_law_909 dbL_law_909.2.2.2.2.2.2.2.1
theorem dL_law_919 : decode cL_law 919 = .ok (.iaload, 1) := dgq (p := 10) daL_law_909 dbL_law_909.2.2.2.2.2.2.2.2.1
theorem dL_law_920 : decode cL_law 920 = .ok (.aload_n 3, 1) := dgq (p := 11) daL_law_909 dbL_law_909.2.2.2.2.2.2.2.2.2
def dsL_law_921 : ByteArray := ⟨#[184, 1, 20, 54, 6, 44, 42, 21, 5, 4, 96, 46, 42, 21, 5]⟩
theorem daL_law_921 : agB cL_law dsL_law_921 921 := agB_of (n := 15) (by decide +kernel)
theorem dbL_law_921 : (decode dsL_law_921 0 = .ok (.invokestatic 276, 3) ∧ okop dsL_law_921 0 = true) ∧ (decode dsL_law_921 3 = .ok (.istore 6, 2) ∧ okop dsL_law_921 3 = true) ∧ (decode dsL_law_921 5 = .ok (.aload_n 2, 1) ∧ okop dsL_law_921 5 = true) ∧ (decode dsL_law_921 6 = .ok (.aload_n 0, 1) ∧ okop dsL_law_921 6 = true) ∧ (decode dsL_law_921 7 = .ok (.iload 5, 2) ∧ okop dsL_law_921 7 = true) ∧ (decode dsL_law_921 9 = .ok (.iconst 1, 1) ∧ okop dsL_law_921 9 = true) ∧ (decode dsL_law_921 10 = .ok (.iadd, 1) ∧ okop dsL_law_921 10 = true) ∧ (decode dsL_law_921 11 = .ok (.iaload, 1) ∧ okop dsL_law_921 11 = true) ∧ (decode dsL_law_921 12 = .ok (.aload_n 0, 1) ∧ okop dsL_law_921 12 = true) ∧ (decode dsL_law_921 13 = .ok (.iload 5, 2) ∧ okop dsL_law_921 13 = true) := by decide +kernel
theorem dL_law_921 : decode cL_law 921 = .ok (.invokestatic 276, 3) := dgq (p := 0) daL_law_921 dbL_law_921.1
theorem dL_law_924 : decode cL_law 924 = .ok (.istore 6, 2) := dgq (p := 3) daL_law_921 dbL_law_921.2.1
theorem dL_law_926 : decode cL_law 926 = .ok (.aload_n 2, 1) := dgq (p := 5) daL_law_921 dbL_law_921.2.2.1
theorem dL_law_927 : decode cL_law 927 = .ok (.aload_n 0, 1) := dgq (p := 6) daL_law_921 dbL_law_921.2.2.2.1
theorem dL_law_928 : decode cL_law 928 = .ok (.iload 5, 2) := dgq (p := 7) daL_law_921 dbL_law_921.2.2.2.2.1
theorem dL_law_930 : decode cL_law 930 = .ok (.iconst 1, 1) := dgq (p := 9) daL_law_921 dbL_law_921.2.2.2.2.2.1
theorem dL_law_931 : decode cL_law 931 = .ok (.iadd, 1) := dgq (p := 10) daL_law_921 dbL_law_921.2.2.2.2.2.2.1
theorem dL_law_932 : decode cL_law 932 = .ok (.iaload, 1) := dgq (p := 11) daL_law_921 dbL_law_921.2.2.2.2.2.2.2.1
theorem dL_law_933 : decode cL_law 933 = .ok (.aload_n 0, 1) := dgq (p := 12) daL_law_921 dbL_law_921.2.2.2.2.2.2.2.2.1
theorem dL_law_934 : decode cL_law 934 = .ok (.iload 5, 2) := dgq (p := 13) daL_law_921 dbL_law_921.2.2.2.2.2.2.2.2.2
def dsL_law_936 : ByteArray := ⟨#[5, 96, 46, 42, 21, 5, 6, 96, 46, 42, 21, 5]⟩
theorem daL_law_936 : agB cL_law dsL_law_936 936 := agB_of (n := 12) (by decide +kernel)
theorem dbL_law_936 : (decode dsL_law_936 0 = .ok (.iconst 2, 1) ∧ okop dsL_law_936 0 = true) ∧ (decode dsL_law_936 1 = .ok (.iadd, 1) ∧ okop dsL_law_936 1 = true) ∧ (decode dsL_law_936 2 = .ok (.iaload, 1) ∧ okop dsL_law_936 2 = true) ∧ (decode dsL_law_936 3 = .ok (.aload_n 0, 1) ∧ okop dsL_law_936 3 = true) ∧ (decode dsL_law_936 4 = .ok (.iload 5, 2) ∧ okop dsL_law_936 4 = true) ∧ (decode dsL_law_936 6 = .ok (.iconst 3, 1) ∧ okop dsL_law_936 6 = true) ∧ (decode dsL_law_936 7 = .ok (.iadd, 1) ∧ okop dsL_law_936 7 = true) ∧ (decode dsL_law_936 8 = .ok (.iaload, 1) ∧ okop dsL_law_936 8 = true) ∧ (decode dsL_law_936 9 = .ok (.aload_n 0, 1) ∧ okop dsL_law_936 9 = true) ∧ (decode dsL_law_936 10 = .ok (.iload 5, 2) ∧ okop dsL_law_936 10 = true) := by decide +kernel
theorem dL_law_936 : decode cL_law 936 = .ok (.iconst 2, 1) := dgq (p := 0) daL_law_936 dbL_law_936.1
theorem dL_law_937 : decode cL_law 937 = .ok (.iadd, 1) := dgq (p := 1) daL_law_936 dbL_law_936.2.1
theorem dL_law_938 : decode cL_law 938 = .ok (.iaload, 1) := dgq (p := 2) daL_law_936 dbL_law_936.2.2.1
theorem dL_law_939 : decode cL_law 939 = .ok (.aload_n 0, 1) := dgq (p := 3) daL_law_936 dbL_law_936.2.2.2.1
theorem dL_law_940 : decode cL_law 940 = .ok (.iload 5, 2) := dgq (p := 4) daL_law_936 dbL_law_936.2.2.2.2.1
theorem dL_law_942 : decode cL_law 942 = .ok (.iconst 3, 1) := dgq (p := 6) daL_law_936 dbL_law_936.2.2.2.2.2.1
theorem dL_law_943 : decode cL_law 943 = .ok (.iadd, 1) := dgq (p := 7) daL_law_936 dbL_law_936.2.2.2.2.2.2.1
theorem dL_law_944 : decode cL_law 944 = .ok (.iaload, 1) := dgq (p := 8) daL_law_936 dbL_law_936.2.2.2.2.2.2.2.1
theorem dL_law_945 : decode cL_law 945 = .ok (.aload_n 0, 1) := dgq (p := 9) daL_law_936 dbL_law_936.2.2.2.2.2.2.2.2.1
theorem dL_law_946 : decode cL_law 946 = .ok (.iload 5, 2) := dgq (p := 10) daL_law_936 dbL_law_936.2.2.2.2.2.2.2.2.2
def dsL_law_948 : ByteArray := ⟨#[7, 96, 46, 182, 1, 22, 54, 7, 167, 7, 183, 43, 42, 21, 5, 4]⟩
theorem daL_law_948 : agB cL_law dsL_law_948 948 := agB_of (n := 16) (by decide +kernel)
theorem dbL_law_948 : (decode dsL_law_948 0 = .ok (.iconst 4, 1) ∧ okop dsL_law_948 0 = true) ∧ (decode dsL_law_948 1 = .ok (.iadd, 1) ∧ okop dsL_law_948 1 = true) ∧ (decode dsL_law_948 2 = .ok (.iaload, 1) ∧ okop dsL_law_948 2 = true) ∧ (decode dsL_law_948 3 = .ok (.invokevirtual 278, 3) ∧ okop dsL_law_948 3 = true) ∧ (decode dsL_law_948 6 = .ok (.istore 7, 2) ∧ okop dsL_law_948 6 = true) ∧ (decode dsL_law_948 8 = .ok (.goto 1975, 3) ∧ okop dsL_law_948 8 = true) ∧ (decode dsL_law_948 11 = .ok (.aload_n 1, 1) ∧ okop dsL_law_948 11 = true) ∧ (decode dsL_law_948 12 = .ok (.aload_n 0, 1) ∧ okop dsL_law_948 12 = true) ∧ (decode dsL_law_948 13 = .ok (.iload 5, 2) ∧ okop dsL_law_948 13 = true) ∧ (decode dsL_law_948 15 = .ok (.iconst 1, 1) ∧ okop dsL_law_948 15 = true) := by decide +kernel
theorem dL_law_948 : decode cL_law 948 = .ok (.iconst 4, 1) := dgq (p := 0) daL_law_948 dbL_law_948.1
theorem dL_law_949 : decode cL_law 949 = .ok (.iadd, 1) := dgq (p := 1) daL_law_948 dbL_law_948.2.1
theorem dL_law_950 : decode cL_law 950 = .ok (.iaload, 1) := dgq (p := 2) daL_law_948 dbL_law_948.2.2.1
theorem dL_law_951 : decode cL_law 951 = .ok (.invokevirtual 278, 3) := dgq (p := 3) daL_law_948 dbL_law_948.2.2.2.1
theorem dL_law_954 : decode cL_law 954 = .ok (.istore 7, 2) := dgq (p := 6) daL_law_948 dbL_law_948.2.2.2.2.1
theorem dL_law_956 : decode cL_law 956 = .ok (.goto 1975, 3) := dgq (p := 8) daL_law_948 dbL_law_948.2.2.2.2.2.1
theorem dL_law_959 : decode cL_law 959 = .ok (.aload_n 1, 1) := dgq (p := 11) daL_law_948 dbL_law_948.2.2.2.2.2.2.1
theorem dL_law_960 : decode cL_law 960 = .ok (.aload_n 0, 1) := dgq (p := 12) daL_law_948 dbL_law_948.2.2.2.2.2.2.2.1
theorem dL_law_961 : decode cL_law 961 = .ok (.iload 5, 2) := dgq (p := 13) daL_law_948 dbL_law_948.2.2.2.2.2.2.2.2.1
theorem dL_law_963 : decode cL_law 963 = .ok (.iconst 1, 1) := dgq (p := 15) daL_law_948 dbL_law_948.2.2.2.2.2.2.2.2.2
def dsL_law_964 : ByteArray := ⟨#[96, 46, 42, 21, 5, 5, 96, 46, 42, 21, 5, 6]⟩
theorem daL_law_964 : agB cL_law dsL_law_964 964 := agB_of (n := 12) (by decide +kernel)
theorem dbL_law_964 : (decode dsL_law_964 0 = .ok (.iadd, 1) ∧ okop dsL_law_964 0 = true) ∧ (decode dsL_law_964 1 = .ok (.iaload, 1) ∧ okop dsL_law_964 1 = true) ∧ (decode dsL_law_964 2 = .ok (.aload_n 0, 1) ∧ okop dsL_law_964 2 = true) ∧ (decode dsL_law_964 3 = .ok (.iload 5, 2) ∧ okop dsL_law_964 3 = true) ∧ (decode dsL_law_964 5 = .ok (.iconst 2, 1) ∧ okop dsL_law_964 5 = true) ∧ (decode dsL_law_964 6 = .ok (.iadd, 1) ∧ okop dsL_law_964 6 = true) ∧ (decode dsL_law_964 7 = .ok (.iaload, 1) ∧ okop dsL_law_964 7 = true) ∧ (decode dsL_law_964 8 = .ok (.aload_n 0, 1) ∧ okop dsL_law_964 8 = true) ∧ (decode dsL_law_964 9 = .ok (.iload 5, 2) ∧ okop dsL_law_964 9 = true) ∧ (decode dsL_law_964 11 = .ok (.iconst 3, 1) ∧ okop dsL_law_964 11 = true) := by decide +kernel
theorem dL_law_964 : decode cL_law 964 = .ok (.iadd, 1) := dgq (p := 0) daL_law_964 dbL_law_964.1
theorem dL_law_965 : decode cL_law 965 = .ok (.iaload, 1) := dgq (p := 1) daL_law_964 dbL_law_964.2.1
theorem dL_law_966 : decode cL_law 966 = .ok (.aload_n 0, 1) := dgq (p := 2) daL_law_964 dbL_law_964.2.2.1
theorem dL_law_967 : decode cL_law 967 = .ok (.iload 5, 2) := dgq (p := 3) daL_law_964 dbL_law_964.2.2.2.1
theorem dL_law_969 : decode cL_law 969 = .ok (.iconst 2, 1) := dgq (p := 5) daL_law_964 dbL_law_964.2.2.2.2.1
theorem dL_law_970 : decode cL_law 970 = .ok (.iadd, 1) := dgq (p := 6) daL_law_964 dbL_law_964.2.2.2.2.2.1
theorem dL_law_971 : decode cL_law 971 = .ok (.iaload, 1) := dgq (p := 7) daL_law_964 dbL_law_964.2.2.2.2.2.2.1
theorem dL_law_972 : decode cL_law 972 = .ok (.aload_n 0, 1) := dgq (p := 8) daL_law_964 dbL_law_964.2.2.2.2.2.2.2.1
theorem dL_law_973 : decode cL_law 973 = .ok (.iload 5, 2) := dgq (p := 9) daL_law_964 dbL_law_964.2.2.2.2.2.2.2.2.1
theorem dL_law_975 : decode cL_law 975 = .ok (.iconst 3, 1) := dgq (p := 11) daL_law_964 dbL_law_964.2.2.2.2.2.2.2.2.2
def dsL_law_976 : ByteArray := ⟨#[96, 46, 42, 21, 5, 7, 96, 46, 45, 184, 1, 23, 54, 6]⟩
theorem daL_law_976 : agB cL_law dsL_law_976 976 := agB_of (n := 14) (by decide +kernel)
theorem dbL_law_976 : (decode dsL_law_976 0 = .ok (.iadd, 1) ∧ okop dsL_law_976 0 = true) ∧ (decode dsL_law_976 1 = .ok (.iaload, 1) ∧ okop dsL_law_976 1 = true) ∧ (decode dsL_law_976 2 = .ok (.aload_n 0, 1) ∧ okop dsL_law_976 2 = true) ∧ (decode dsL_law_976 3 = .ok (.iload 5, 2) ∧ okop dsL_law_976 3 = true) ∧ (decode dsL_law_976 5 = .ok (.iconst 4, 1) ∧ okop dsL_law_976 5 = true) ∧ (decode dsL_law_976 6 = .ok (.iadd, 1) ∧ okop dsL_law_976 6 = true) ∧ (decode dsL_law_976 7 = .ok (.iaload, 1) ∧ okop dsL_law_976 7 = true) ∧ (decode dsL_law_976 8 = .ok (.aload_n 3, 1) ∧ okop dsL_law_976 8 = true) ∧ (decode dsL_law_976 9 = .ok (.invokestatic 279, 3) ∧ okop dsL_law_976 9 = true) ∧ (decode dsL_law_976 12 = .ok (.istore 6, 2) ∧ okop dsL_law_976 12 = true) := by decide +kernel
theorem dL_law_976 : decode cL_law 976 = .ok (.iadd, 1) := dgq (p := 0) daL_law_976 dbL_law_976.1
theorem dL_law_977 : decode cL_law 977 = .ok (.iaload, 1) := dgq (p := 1) daL_law_976 dbL_law_976.2.1
theorem dL_law_978 : decode cL_law 978 = .ok (.aload_n 0, 1) := dgq (p := 2) daL_law_976 dbL_law_976.2.2.1
theorem dL_law_979 : decode cL_law 979 = .ok (.iload 5, 2) := dgq (p := 3) daL_law_976 dbL_law_976.2.2.2.1
theorem dL_law_981 : decode cL_law 981 = .ok (.iconst 4, 1) := dgq (p := 5) daL_law_976 dbL_law_976.2.2.2.2.1
theorem dL_law_982 : decode cL_law 982 = .ok (.iadd, 1) := dgq (p := 6) daL_law_976 dbL_law_976.2.2.2.2.2.1
theorem dL_law_983 : decode cL_law 983 = .ok (.iaload, 1) := dgq (p := 7) daL_law_976 dbL_law_976.2.2.2.2.2.2.1
theorem dL_law_984 : decode cL_law 984 = .ok (.aload_n 3, 1) := dgq (p := 8) daL_law_976 dbL_law_976.2.2.2.2.2.2.2.1
theorem dL_law_985 : decode cL_law 985 = .ok (.invokestatic 279, 3) := dgq (p := 9) daL_law_976 dbL_law_976.2.2.2.2.2.2.2.2.1
theorem dL_law_988 : decode cL_law 988 = .ok (.istore 6, 2) := dgq (p := 12) daL_law_976 dbL_law_976.2.2.2.2.2.2.2.2.2
def dsL_law_990 : ByteArray := ⟨#[44, 42, 21, 5, 4, 96, 46, 42, 21, 5, 5, 96]⟩
theorem daL_law_990 : agB cL_law dsL_law_990 990 := agB_of (n := 12) (by decide +kernel)
theorem dbL_law_990 : (decode dsL_law_990 0 = .ok (.aload_n 2, 1) ∧ okop dsL_law_990 0 = true) ∧ (decode dsL_law_990 1 = .ok (.aload_n 0, 1) ∧ okop dsL_law_990 1 = true) ∧ (decode dsL_law_990 2 = .ok (.iload 5, 2) ∧ okop dsL_law_990 2 = true) ∧ (decode dsL_law_990 4 = .ok (.iconst 1, 1) ∧ okop dsL_law_990 4 = true) ∧ (decode dsL_law_990 5 = .ok (.iadd, 1) ∧ okop dsL_law_990 5 = true) ∧ (decode dsL_law_990 6 = .ok (.iaload, 1) ∧ okop dsL_law_990 6 = true) ∧ (decode dsL_law_990 7 = .ok (.aload_n 0, 1) ∧ okop dsL_law_990 7 = true) ∧ (decode dsL_law_990 8 = .ok (.iload 5, 2) ∧ okop dsL_law_990 8 = true) ∧ (decode dsL_law_990 10 = .ok (.iconst 2, 1) ∧ okop dsL_law_990 10 = true) ∧ (decode dsL_law_990 11 = .ok (.iadd, 1) ∧ okop dsL_law_990 11 = true) := by decide +kernel
theorem dL_law_990 : decode cL_law 990 = .ok (.aload_n 2, 1) := dgq (p := 0) daL_law_990 dbL_law_990.1
theorem dL_law_991 : decode cL_law 991 = .ok (.aload_n 0, 1) := dgq (p := 1) daL_law_990 dbL_law_990.2.1
theorem dL_law_992 : decode cL_law 992 = .ok (.iload 5, 2) := dgq (p := 2) daL_law_990 dbL_law_990.2.2.1
theorem dL_law_994 : decode cL_law 994 = .ok (.iconst 1, 1) := dgq (p := 4) daL_law_990 dbL_law_990.2.2.2.1
theorem dL_law_995 : decode cL_law 995 = .ok (.iadd, 1) := dgq (p := 5) daL_law_990 dbL_law_990.2.2.2.2.1
theorem dL_law_996 : decode cL_law 996 = .ok (.iaload, 1) := dgq (p := 6) daL_law_990 dbL_law_990.2.2.2.2.2.1
theorem dL_law_997 : decode cL_law 997 = .ok (.aload_n 0, 1) := dgq (p := 7) daL_law_990 dbL_law_990.2.2.2.2.2.2.1
theorem dL_law_998 : decode cL_law 998 = .ok (.iload 5, 2) := dgq (p := 8) daL_law_990 dbL_law_990.2.2.2.2.2.2.2.1
theorem dL_law_1000 : decode cL_law 1000 = .ok (.iconst 2, 1) := dgq (p := 10) daL_law_990 dbL_law_990.2.2.2.2.2.2.2.2.1
theorem dL_law_1001 : decode cL_law 1001 = .ok (.iadd, 1) := dgq (p := 11) daL_law_990 dbL_law_990.2.2.2.2.2.2.2.2.2
def dsL_law_1002 : ByteArray := ⟨#[46, 42, 21, 5, 6, 96, 46, 42, 21, 5, 7, 96]⟩
theorem daL_law_1002 : agB cL_law dsL_law_1002 1002 := agB_of (n := 12) (by decide +kernel)
theorem dbL_law_1002 : (decode dsL_law_1002 0 = .ok (.iaload, 1) ∧ okop dsL_law_1002 0 = true) ∧ (decode dsL_law_1002 1 = .ok (.aload_n 0, 1) ∧ okop dsL_law_1002 1 = true) ∧ (decode dsL_law_1002 2 = .ok (.iload 5, 2) ∧ okop dsL_law_1002 2 = true) ∧ (decode dsL_law_1002 4 = .ok (.iconst 3, 1) ∧ okop dsL_law_1002 4 = true) ∧ (decode dsL_law_1002 5 = .ok (.iadd, 1) ∧ okop dsL_law_1002 5 = true) ∧ (decode dsL_law_1002 6 = .ok (.iaload, 1) ∧ okop dsL_law_1002 6 = true) ∧ (decode dsL_law_1002 7 = .ok (.aload_n 0, 1) ∧ okop dsL_law_1002 7 = true) ∧ (decode dsL_law_1002 8 = .ok (.iload 5, 2) ∧ okop dsL_law_1002 8 = true) ∧ (decode dsL_law_1002 10 = .ok (.iconst 4, 1) ∧ okop dsL_law_1002 10 = true) ∧ (decode dsL_law_1002 11 = .ok (.iadd, 1) ∧ okop dsL_law_1002 11 = true) := by decide +kernel
theorem dL_law_1002 : decode cL_law 1002 = .ok (.iaload, 1) := dgq (p := 0) daL_law_1002 dbL_law_1002.1
theorem dL_law_1003 : decode cL_law 1003 = .ok (.aload_n 0, 1) := dgq (p := 1) daL_law_1002 dbL_law_1002.2.1
theorem dL_law_1004 : decode cL_law 1004 = .ok (.iload 5, 2) := dgq (p := 2) daL_law_1002 dbL_law_1002.2.2.1
theorem dL_law_1006 : decode cL_law 1006 = .ok (.iconst 3, 1) := dgq (p := 4) daL_law_1002 dbL_law_1002.2.2.2.1
theorem dL_law_1007 : decode cL_law 1007 = .ok (.iadd, 1) := dgq (p := 5) daL_law_1002 dbL_law_1002.2.2.2.2.1
theorem dL_law_1008 : decode cL_law 1008 = .ok (.iaload, 1) := dgq (p := 6) daL_law_1002 dbL_law_1002.2.2.2.2.2.1
theorem dL_law_1009 : decode cL_law 1009 = .ok (.aload_n 0, 1) := dgq (p := 7) daL_law_1002 dbL_law_1002.2.2.2.2.2.2.1
theorem dL_law_1010 : decode cL_law 1010 = .ok (.iload 5, 2) := dgq (p := 8) daL_law_1002 dbL_law_1002.2.2.2.2.2.2.2.1
theorem dL_law_1012 : decode cL_law 1012 = .ok (.iconst 4, 1) := dgq (p := 10) daL_law_1002 dbL_law_1002.2.2.2.2.2.2.2.2.1
theorem dL_law_1013 : decode cL_law 1013 = .ok (.iadd, 1) := dgq (p := 11) daL_law_1002 dbL_law_1002.2.2.2.2.2.2.2.2.2
def dsL_law_1014 : ByteArray := ⟨#[46, 182, 1, 25, 54, 7, 167, 7, 119, 43, 42, 21, 5, 4, 96, 46]⟩
theorem daL_law_1014 : agB cL_law dsL_law_1014 1014 := agB_of (n := 16) (by decide +kernel)
theorem dbL_law_1014 : (decode dsL_law_1014 0 = .ok (.iaload, 1) ∧ okop dsL_law_1014 0 = true) ∧ (decode dsL_law_1014 1 = .ok (.invokevirtual 281, 3) ∧ okop dsL_law_1014 1 = true) ∧ (decode dsL_law_1014 4 = .ok (.istore 7, 2) ∧ okop dsL_law_1014 4 = true) ∧ (decode dsL_law_1014 6 = .ok (.goto 1911, 3) ∧ okop dsL_law_1014 6 = true) ∧ (decode dsL_law_1014 9 = .ok (.aload_n 1, 1) ∧ okop dsL_law_1014 9 = true) ∧ (decode dsL_law_1014 10 = .ok (.aload_n 0, 1) ∧ okop dsL_law_1014 10 = true) ∧ (decode dsL_law_1014 11 = .ok (.iload 5, 2) ∧ okop dsL_law_1014 11 = true) ∧ (decode dsL_law_1014 13 = .ok (.iconst 1, 1) ∧ okop dsL_law_1014 13 = true) ∧ (decode dsL_law_1014 14 = .ok (.iadd, 1) ∧ okop dsL_law_1014 14 = true) ∧ (decode dsL_law_1014 15 = .ok (.iaload, 1) ∧ okop dsL_law_1014 15 = true) := by decide +kernel
theorem dL_law_1014 : decode cL_law 1014 = .ok (.iaload, 1) := dgq (p := 0) daL_law_1014 dbL_law_1014.1
theorem dL_law_1015 : decode cL_law 1015 = .ok (.invokevirtual 281, 3) := dgq (p := 1) daL_law_1014 dbL_law_1014.2.1
theorem dL_law_1018 : decode cL_law 1018 = .ok (.istore 7, 2) := dgq (p := 4) daL_law_1014 dbL_law_1014.2.2.1
theorem dL_law_1020 : decode cL_law 1020 = .ok (.goto 1911, 3) := dgq (p := 6) daL_law_1014 dbL_law_1014.2.2.2.1
theorem dL_law_1023 : decode cL_law 1023 = .ok (.aload_n 1, 1) := dgq (p := 9) daL_law_1014 dbL_law_1014.2.2.2.2.1
theorem dL_law_1024 : decode cL_law 1024 = .ok (.aload_n 0, 1) := dgq (p := 10) daL_law_1014 dbL_law_1014.2.2.2.2.2.1
theorem dL_law_1025 : decode cL_law 1025 = .ok (.iload 5, 2) := dgq (p := 11) daL_law_1014 dbL_law_1014.2.2.2.2.2.2.1
theorem dL_law_1027 : decode cL_law 1027 = .ok (.iconst 1, 1) := dgq (p := 13) daL_law_1014 dbL_law_1014.2.2.2.2.2.2.2.1
theorem dL_law_1028 : decode cL_law 1028 = .ok (.iadd, 1) := dgq (p := 14) daL_law_1014 dbL_law_1014.2.2.2.2.2.2.2.2.1
theorem dL_law_1029 : decode cL_law 1029 = .ok (.iaload, 1) := dgq (p := 15) daL_law_1014 dbL_law_1014.2.2.2.2.2.2.2.2.2
def dsL_law_1030 : ByteArray := ⟨#[42, 21, 5, 5, 96, 46, 42, 21, 5, 6, 96, 46]⟩
theorem daL_law_1030 : agB cL_law dsL_law_1030 1030 := agB_of (n := 12) (by decide +kernel)
theorem dbL_law_1030 : (decode dsL_law_1030 0 = .ok (.aload_n 0, 1) ∧ okop dsL_law_1030 0 = true) ∧ (decode dsL_law_1030 1 = .ok (.iload 5, 2) ∧ okop dsL_law_1030 1 = true) ∧ (decode dsL_law_1030 3 = .ok (.iconst 2, 1) ∧ okop dsL_law_1030 3 = true) ∧ (decode dsL_law_1030 4 = .ok (.iadd, 1) ∧ okop dsL_law_1030 4 = true) ∧ (decode dsL_law_1030 5 = .ok (.iaload, 1) ∧ okop dsL_law_1030 5 = true) ∧ (decode dsL_law_1030 6 = .ok (.aload_n 0, 1) ∧ okop dsL_law_1030 6 = true) ∧ (decode dsL_law_1030 7 = .ok (.iload 5, 2) ∧ okop dsL_law_1030 7 = true) ∧ (decode dsL_law_1030 9 = .ok (.iconst 3, 1) ∧ okop dsL_law_1030 9 = true) ∧ (decode dsL_law_1030 10 = .ok (.iadd, 1) ∧ okop dsL_law_1030 10 = true) ∧ (decode dsL_law_1030 11 = .ok (.iaload, 1) ∧ okop dsL_law_1030 11 = true) := by decide +kernel
theorem dL_law_1030 : decode cL_law 1030 = .ok (.aload_n 0, 1) := dgq (p := 0) daL_law_1030 dbL_law_1030.1
theorem dL_law_1031 : decode cL_law 1031 = .ok (.iload 5, 2) := dgq (p := 1) daL_law_1030 dbL_law_1030.2.1
theorem dL_law_1033 : decode cL_law 1033 = .ok (.iconst 2, 1) := dgq (p := 3) daL_law_1030 dbL_law_1030.2.2.1
theorem dL_law_1034 : decode cL_law 1034 = .ok (.iadd, 1) := dgq (p := 4) daL_law_1030 dbL_law_1030.2.2.2.1
theorem dL_law_1035 : decode cL_law 1035 = .ok (.iaload, 1) := dgq (p := 5) daL_law_1030 dbL_law_1030.2.2.2.2.1
theorem dL_law_1036 : decode cL_law 1036 = .ok (.aload_n 0, 1) := dgq (p := 6) daL_law_1030 dbL_law_1030.2.2.2.2.2.1
theorem dL_law_1037 : decode cL_law 1037 = .ok (.iload 5, 2) := dgq (p := 7) daL_law_1030 dbL_law_1030.2.2.2.2.2.2.1
theorem dL_law_1039 : decode cL_law 1039 = .ok (.iconst 3, 1) := dgq (p := 9) daL_law_1030 dbL_law_1030.2.2.2.2.2.2.2.1
theorem dL_law_1040 : decode cL_law 1040 = .ok (.iadd, 1) := dgq (p := 10) daL_law_1030 dbL_law_1030.2.2.2.2.2.2.2.2.1
theorem dL_law_1041 : decode cL_law 1041 = .ok (.iaload, 1) := dgq (p := 11) daL_law_1030 dbL_law_1030.2.2.2.2.2.2.2.2.2
def dsL_law_1042 : ByteArray := ⟨#[45, 184, 1, 26, 54, 6, 44, 42, 21, 5, 4, 96, 46, 42]⟩
theorem daL_law_1042 : agB cL_law dsL_law_1042 1042 := agB_of (n := 14) (by decide +kernel)
theorem dbL_law_1042 : (decode dsL_law_1042 0 = .ok (.aload_n 3, 1) ∧ okop dsL_law_1042 0 = true) ∧ (decode dsL_law_1042 1 = .ok (.invokestatic 282, 3) ∧ okop dsL_law_1042 1 = true) ∧ (decode dsL_law_1042 4 = .ok (.istore 6, 2) ∧ okop dsL_law_1042 4 = true) ∧ (decode dsL_law_1042 6 = .ok (.aload_n 2, 1) ∧ okop dsL_law_1042 6 = true) ∧ (decode dsL_law_1042 7 = .ok (.aload_n 0, 1) ∧ okop dsL_law_1042 7 = true) ∧ (decode dsL_law_1042 8 = .ok (.iload 5, 2) ∧ okop dsL_law_1042 8 = true) ∧ (decode dsL_law_1042 10 = .ok (.iconst 1, 1) ∧ okop dsL_law_1042 10 = true) ∧ (decode dsL_law_1042 11 = .ok (.iadd, 1) ∧ okop dsL_law_1042 11 = true) ∧ (decode dsL_law_1042 12 = .ok (.iaload, 1) ∧ okop dsL_law_1042 12 = true) ∧ (decode dsL_law_1042 13 = .ok (.aload_n 0, 1) ∧ okop dsL_law_1042 13 = true) := by decide +kernel
theorem dL_law_1042 : decode cL_law 1042 = .ok (.aload_n 3, 1) := dgq (p := 0) daL_law_1042 dbL_law_1042.1
theorem dL_law_1043 : decode cL_law 1043 = .ok (.invokestatic 282, 3) := dgq (p := 1) daL_law_1042 dbL_law_1042.2.1
theorem dL_law_1046 : decode cL_law 1046 = .ok (.istore 6, 2) := dgq (p := 4) daL_law_1042 dbL_law_1042.2.2.1
theorem dL_law_1048 : decode cL_law 1048 = .ok (.aload_n 2, 1) := dgq (p := 6) daL_law_1042 dbL_law_1042.2.2.2.1
theorem dL_law_1049 : decode cL_law 1049 = .ok (.aload_n 0, 1) := dgq (p := 7) daL_law_1042 dbL_law_1042.2.2.2.2.1
theorem dL_law_1050 : decode cL_law 1050 = .ok (.iload 5, 2) := dgq (p := 8) daL_law_1042 dbL_law_1042.2.2.2.2.2.1
theorem dL_law_1052 : decode cL_law 1052 = .ok (.iconst 1, 1) := dgq (p := 10) daL_law_1042 dbL_law_1042.2.2.2.2.2.2.1
theorem dL_law_1053 : decode cL_law 1053 = .ok (.iadd, 1) := dgq (p := 11) daL_law_1042 dbL_law_1042.2.2.2.2.2.2.2.1
theorem dL_law_1054 : decode cL_law 1054 = .ok (.iaload, 1) := dgq (p := 12) daL_law_1042 dbL_law_1042.2.2.2.2.2.2.2.2.1
theorem dL_law_1055 : decode cL_law 1055 = .ok (.aload_n 0, 1) := dgq (p := 13) daL_law_1042 dbL_law_1042.2.2.2.2.2.2.2.2.2
def dsL_law_1056 : ByteArray := ⟨#[21, 5, 5, 96, 46, 42, 21, 5, 6, 96, 46, 182, 1, 29]⟩
theorem daL_law_1056 : agB cL_law dsL_law_1056 1056 := agB_of (n := 14) (by decide +kernel)
theorem dbL_law_1056 : (decode dsL_law_1056 0 = .ok (.iload 5, 2) ∧ okop dsL_law_1056 0 = true) ∧ (decode dsL_law_1056 2 = .ok (.iconst 2, 1) ∧ okop dsL_law_1056 2 = true) ∧ (decode dsL_law_1056 3 = .ok (.iadd, 1) ∧ okop dsL_law_1056 3 = true) ∧ (decode dsL_law_1056 4 = .ok (.iaload, 1) ∧ okop dsL_law_1056 4 = true) ∧ (decode dsL_law_1056 5 = .ok (.aload_n 0, 1) ∧ okop dsL_law_1056 5 = true) ∧ (decode dsL_law_1056 6 = .ok (.iload 5, 2) ∧ okop dsL_law_1056 6 = true) ∧ (decode dsL_law_1056 8 = .ok (.iconst 3, 1) ∧ okop dsL_law_1056 8 = true) ∧ (decode dsL_law_1056 9 = .ok (.iadd, 1) ∧ okop dsL_law_1056 9 = true) ∧ (decode dsL_law_1056 10 = .ok (.iaload, 1) ∧ okop dsL_law_1056 10 = true) ∧ (decode dsL_law_1056 11 = .ok (.invokevirtual 285, 3) ∧ okop dsL_law_1056 11 = true) := by decide +kernel
theorem dL_law_1056 : decode cL_law 1056 = .ok (.iload 5, 2) := dgq (p := 0) daL_law_1056 dbL_law_1056.1
theorem dL_law_1058 : decode cL_law 1058 = .ok (.iconst 2, 1) := dgq (p := 2) daL_law_1056 dbL_law_1056.2.1
theorem dL_law_1059 : decode cL_law 1059 = .ok (.iadd, 1) := dgq (p := 3) daL_law_1056 dbL_law_1056.2.2.1
theorem dL_law_1060 : decode cL_law 1060 = .ok (.iaload, 1) := dgq (p := 4) daL_law_1056 dbL_law_1056.2.2.2.1
theorem dL_law_1061 : decode cL_law 1061 = .ok (.aload_n 0, 1) := dgq (p := 5) daL_law_1056 dbL_law_1056.2.2.2.2.1
theorem dL_law_1062 : decode cL_law 1062 = .ok (.iload 5, 2) := dgq (p := 6) daL_law_1056 dbL_law_1056.2.2.2.2.2.1
theorem dL_law_1064 : decode cL_law 1064 = .ok (.iconst 3, 1) := dgq (p := 8) daL_law_1056 dbL_law_1056.2.2.2.2.2.2.1
theorem dL_law_1065 : decode cL_law 1065 = .ok (.iadd, 1) := dgq (p := 9) daL_law_1056 dbL_law_1056.2.2.2.2.2.2.2.1
theorem dL_law_1066 : decode cL_law 1066 = .ok (.iaload, 1) := dgq (p := 10) daL_law_1056 dbL_law_1056.2.2.2.2.2.2.2.2.1
theorem dL_law_1067 : decode cL_law 1067 = .ok (.invokevirtual 285, 3) := dgq (p := 11) daL_law_1056 dbL_law_1056.2.2.2.2.2.2.2.2.2
def dsL_law_1070 : ByteArray := ⟨#[54, 7, 167, 7, 67, 43, 42, 21, 5, 4, 96, 46, 42, 21, 5]⟩
theorem daL_law_1070 : agB cL_law dsL_law_1070 1070 := agB_of (n := 15) (by decide +kernel)
theorem dbL_law_1070 : (decode dsL_law_1070 0 = .ok (.istore 7, 2) ∧ okop dsL_law_1070 0 = true) ∧ (decode dsL_law_1070 2 = .ok (.goto 1859, 3) ∧ okop dsL_law_1070 2 = true) ∧ (decode dsL_law_1070 5 = .ok (.aload_n 1, 1) ∧ okop dsL_law_1070 5 = true) ∧ (decode dsL_law_1070 6 = .ok (.aload_n 0, 1) ∧ okop dsL_law_1070 6 = true) ∧ (decode dsL_law_1070 7 = .ok (.iload 5, 2) ∧ okop dsL_law_1070 7 = true) ∧ (decode dsL_law_1070 9 = .ok (.iconst 1, 1) ∧ okop dsL_law_1070 9 = true) ∧ (decode dsL_law_1070 10 = .ok (.iadd, 1) ∧ okop dsL_law_1070 10 = true) ∧ (decode dsL_law_1070 11 = .ok (.iaload, 1) ∧ okop dsL_law_1070 11 = true) ∧ (decode dsL_law_1070 12 = .ok (.aload_n 0, 1) ∧ okop dsL_law_1070 12 = true) ∧ (decode dsL_law_1070 13 = .ok (.iload 5, 2) ∧ okop dsL_law_1070 13 = true) := by decide +kernel
theorem dL_law_1070 : decode cL_law 1070 = .ok (.istore 7, 2) := dgq (p := 0) daL_law_1070 dbL_law_1070.1
theorem dL_law_1072 : decode cL_law 1072 = .ok (.goto 1859, 3) := dgq (p := 2) daL_law_1070 dbL_law_1070.2.1
theorem dL_law_1075 : decode cL_law 1075 = .ok (.aload_n 1, 1) := dgq (p := 5) daL_law_1070 dbL_law_1070.2.2.1
theorem dL_law_1076 : decode cL_law 1076 = .ok (.aload_n 0, 1) := dgq (p := 6) daL_law_1070 dbL_law_1070.2.2.2.1
theorem dL_law_1077 : decode cL_law 1077 = .ok (.iload 5, 2) := dgq (p := 7) daL_law_1070 dbL_law_1070.2.2.2.2.1
theorem dL_law_1079 : decode cL_law 1079 = .ok (.iconst 1, 1) := dgq (p := 9) daL_law_1070 dbL_law_1070.2.2.2.2.2.1
theorem dL_law_1080 : decode cL_law 1080 = .ok (.iadd, 1) := dgq (p := 10) daL_law_1070 dbL_law_1070.2.2.2.2.2.2.1
theorem dL_law_1081 : decode cL_law 1081 = .ok (.iaload, 1) := dgq (p := 11) daL_law_1070 dbL_law_1070.2.2.2.2.2.2.2.1
theorem dL_law_1082 : decode cL_law 1082 = .ok (.aload_n 0, 1) := dgq (p := 12) daL_law_1070 dbL_law_1070.2.2.2.2.2.2.2.2.1
theorem dL_law_1083 : decode cL_law 1083 = .ok (.iload 5, 2) := dgq (p := 13) daL_law_1070 dbL_law_1070.2.2.2.2.2.2.2.2.2
def dsL_law_1085 : ByteArray := ⟨#[5, 96, 46, 42, 21, 5, 6, 96, 46, 42, 21, 5]⟩
theorem daL_law_1085 : agB cL_law dsL_law_1085 1085 := agB_of (n := 12) (by decide +kernel)
theorem dbL_law_1085 : (decode dsL_law_1085 0 = .ok (.iconst 2, 1) ∧ okop dsL_law_1085 0 = true) ∧ (decode dsL_law_1085 1 = .ok (.iadd, 1) ∧ okop dsL_law_1085 1 = true) ∧ (decode dsL_law_1085 2 = .ok (.iaload, 1) ∧ okop dsL_law_1085 2 = true) ∧ (decode dsL_law_1085 3 = .ok (.aload_n 0, 1) ∧ okop dsL_law_1085 3 = true) ∧ (decode dsL_law_1085 4 = .ok (.iload 5, 2) ∧ okop dsL_law_1085 4 = true) ∧ (decode dsL_law_1085 6 = .ok (.iconst 3, 1) ∧ okop dsL_law_1085 6 = true) ∧ (decode dsL_law_1085 7 = .ok (.iadd, 1) ∧ okop dsL_law_1085 7 = true) ∧ (decode dsL_law_1085 8 = .ok (.iaload, 1) ∧ okop dsL_law_1085 8 = true) ∧ (decode dsL_law_1085 9 = .ok (.aload_n 0, 1) ∧ okop dsL_law_1085 9 = true) ∧ (decode dsL_law_1085 10 = .ok (.iload 5, 2) ∧ okop dsL_law_1085 10 = true) := by decide +kernel
theorem dL_law_1085 : decode cL_law 1085 = .ok (.iconst 2, 1) := dgq (p := 0) daL_law_1085 dbL_law_1085.1
theorem dL_law_1086 : decode cL_law 1086 = .ok (.iadd, 1) := dgq (p := 1) daL_law_1085 dbL_law_1085.2.1
theorem dL_law_1087 : decode cL_law 1087 = .ok (.iaload, 1) := dgq (p := 2) daL_law_1085 dbL_law_1085.2.2.1
theorem dL_law_1088 : decode cL_law 1088 = .ok (.aload_n 0, 1) := dgq (p := 3) daL_law_1085 dbL_law_1085.2.2.2.1
theorem dL_law_1089 : decode cL_law 1089 = .ok (.iload 5, 2) := dgq (p := 4) daL_law_1085 dbL_law_1085.2.2.2.2.1
theorem dL_law_1091 : decode cL_law 1091 = .ok (.iconst 3, 1) := dgq (p := 6) daL_law_1085 dbL_law_1085.2.2.2.2.2.1
theorem dL_law_1092 : decode cL_law 1092 = .ok (.iadd, 1) := dgq (p := 7) daL_law_1085 dbL_law_1085.2.2.2.2.2.2.1
theorem dL_law_1093 : decode cL_law 1093 = .ok (.iaload, 1) := dgq (p := 8) daL_law_1085 dbL_law_1085.2.2.2.2.2.2.2.1
theorem dL_law_1094 : decode cL_law 1094 = .ok (.aload_n 0, 1) := dgq (p := 9) daL_law_1085 dbL_law_1085.2.2.2.2.2.2.2.2.1
theorem dL_law_1095 : decode cL_law 1095 = .ok (.iload 5, 2) := dgq (p := 10) daL_law_1085 dbL_law_1085.2.2.2.2.2.2.2.2.2
def dsL_law_1097 : ByteArray := ⟨#[7, 96, 46, 45, 184, 1, 30, 54, 6, 44, 42, 21, 5, 4]⟩
theorem daL_law_1097 : agB cL_law dsL_law_1097 1097 := agB_of (n := 14) (by decide +kernel)
theorem dbL_law_1097 : (decode dsL_law_1097 0 = .ok (.iconst 4, 1) ∧ okop dsL_law_1097 0 = true) ∧ (decode dsL_law_1097 1 = .ok (.iadd, 1) ∧ okop dsL_law_1097 1 = true) ∧ (decode dsL_law_1097 2 = .ok (.iaload, 1) ∧ okop dsL_law_1097 2 = true) ∧ (decode dsL_law_1097 3 = .ok (.aload_n 3, 1) ∧ okop dsL_law_1097 3 = true) ∧ (decode dsL_law_1097 4 = .ok (.invokestatic 286, 3) ∧ okop dsL_law_1097 4 = true) ∧ (decode dsL_law_1097 7 = .ok (.istore 6, 2) ∧ okop dsL_law_1097 7 = true) ∧ (decode dsL_law_1097 9 = .ok (.aload_n 2, 1) ∧ okop dsL_law_1097 9 = true) ∧ (decode dsL_law_1097 10 = .ok (.aload_n 0, 1) ∧ okop dsL_law_1097 10 = true) ∧ (decode dsL_law_1097 11 = .ok (.iload 5, 2) ∧ okop dsL_law_1097 11 = true) ∧ (decode dsL_law_1097 13 = .ok (.iconst 1, 1) ∧ okop dsL_law_1097 13 = true) := by decide +kernel
theorem dL_law_1097 : decode cL_law 1097 = .ok (.iconst 4, 1) := dgq (p := 0) daL_law_1097 dbL_law_1097.1
theorem dL_law_1098 : decode cL_law 1098 = .ok (.iadd, 1) := dgq (p := 1) daL_law_1097 dbL_law_1097.2.1
theorem dL_law_1099 : decode cL_law 1099 = .ok (.iaload, 1) := dgq (p := 2) daL_law_1097 dbL_law_1097.2.2.1
theorem dL_law_1100 : decode cL_law 1100 = .ok (.aload_n 3, 1) := dgq (p := 3) daL_law_1097 dbL_law_1097.2.2.2.1
theorem dL_law_1101 : decode cL_law 1101 = .ok (.invokestatic 286, 3) := dgq (p := 4) daL_law_1097 dbL_law_1097.2.2.2.2.1
theorem dL_law_1104 : decode cL_law 1104 = .ok (.istore 6, 2) := dgq (p := 7) daL_law_1097 dbL_law_1097.2.2.2.2.2.1
theorem dL_law_1106 : decode cL_law 1106 = .ok (.aload_n 2, 1) := dgq (p := 9) daL_law_1097 dbL_law_1097.2.2.2.2.2.2.1
theorem dL_law_1107 : decode cL_law 1107 = .ok (.aload_n 0, 1) := dgq (p := 10) daL_law_1097 dbL_law_1097.2.2.2.2.2.2.2.1
theorem dL_law_1108 : decode cL_law 1108 = .ok (.iload 5, 2) := dgq (p := 11) daL_law_1097 dbL_law_1097.2.2.2.2.2.2.2.2.1
theorem dL_law_1110 : decode cL_law 1110 = .ok (.iconst 1, 1) := dgq (p := 13) daL_law_1097 dbL_law_1097.2.2.2.2.2.2.2.2.2
def dsL_law_1111 : ByteArray := ⟨#[96, 46, 42, 21, 5, 5, 96, 46, 42, 21, 5, 6]⟩
theorem daL_law_1111 : agB cL_law dsL_law_1111 1111 := agB_of (n := 12) (by decide +kernel)
theorem dbL_law_1111 : (decode dsL_law_1111 0 = .ok (.iadd, 1) ∧ okop dsL_law_1111 0 = true) ∧ (decode dsL_law_1111 1 = .ok (.iaload, 1) ∧ okop dsL_law_1111 1 = true) ∧ (decode dsL_law_1111 2 = .ok (.aload_n 0, 1) ∧ okop dsL_law_1111 2 = true) ∧ (decode dsL_law_1111 3 = .ok (.iload 5, 2) ∧ okop dsL_law_1111 3 = true) ∧ (decode dsL_law_1111 5 = .ok (.iconst 2, 1) ∧ okop dsL_law_1111 5 = true) ∧ (decode dsL_law_1111 6 = .ok (.iadd, 1) ∧ okop dsL_law_1111 6 = true) ∧ (decode dsL_law_1111 7 = .ok (.iaload, 1) ∧ okop dsL_law_1111 7 = true) ∧ (decode dsL_law_1111 8 = .ok (.aload_n 0, 1) ∧ okop dsL_law_1111 8 = true) ∧ (decode dsL_law_1111 9 = .ok (.iload 5, 2) ∧ okop dsL_law_1111 9 = true) ∧ (decode dsL_law_1111 11 = .ok (.iconst 3, 1) ∧ okop dsL_law_1111 11 = true) := by decide +kernel
theorem dL_law_1111 : decode cL_law 1111 = .ok (.iadd, 1) := dgq (p := 0) daL_law_1111 dbL_law_1111.1
theorem dL_law_1112 : decode cL_law 1112 = .ok (.iaload, 1) := dgq (p := 1) daL_law_1111 dbL_law_1111.2.1
theorem dL_law_1113 : decode cL_law 1113 = .ok (.aload_n 0, 1) := dgq (p := 2) daL_law_1111 dbL_law_1111.2.2.1
theorem dL_law_1114 : decode cL_law 1114 = .ok (.iload 5, 2) := dgq (p := 3) daL_law_1111 dbL_law_1111.2.2.2.1
theorem dL_law_1116 : decode cL_law 1116 = .ok (.iconst 2, 1) := dgq (p := 5) daL_law_1111 dbL_law_1111.2.2.2.2.1
theorem dL_law_1117 : decode cL_law 1117 = .ok (.iadd, 1) := dgq (p := 6) daL_law_1111 dbL_law_1111.2.2.2.2.2.1
theorem dL_law_1118 : decode cL_law 1118 = .ok (.iaload, 1) := dgq (p := 7) daL_law_1111 dbL_law_1111.2.2.2.2.2.2.1
theorem dL_law_1119 : decode cL_law 1119 = .ok (.aload_n 0, 1) := dgq (p := 8) daL_law_1111 dbL_law_1111.2.2.2.2.2.2.2.1
theorem dL_law_1120 : decode cL_law 1120 = .ok (.iload 5, 2) := dgq (p := 9) daL_law_1111 dbL_law_1111.2.2.2.2.2.2.2.2.1
theorem dL_law_1122 : decode cL_law 1122 = .ok (.iconst 3, 1) := dgq (p := 11) daL_law_1111 dbL_law_1111.2.2.2.2.2.2.2.2.2
def dsL_law_1123 : ByteArray := ⟨#[96, 46, 42, 21, 5, 7, 96, 46, 182, 1, 32, 54, 7, 167, 7, 3]⟩
theorem daL_law_1123 : agB cL_law dsL_law_1123 1123 := agB_of (n := 16) (by decide +kernel)
theorem dbL_law_1123 : (decode dsL_law_1123 0 = .ok (.iadd, 1) ∧ okop dsL_law_1123 0 = true) ∧ (decode dsL_law_1123 1 = .ok (.iaload, 1) ∧ okop dsL_law_1123 1 = true) ∧ (decode dsL_law_1123 2 = .ok (.aload_n 0, 1) ∧ okop dsL_law_1123 2 = true) ∧ (decode dsL_law_1123 3 = .ok (.iload 5, 2) ∧ okop dsL_law_1123 3 = true) ∧ (decode dsL_law_1123 5 = .ok (.iconst 4, 1) ∧ okop dsL_law_1123 5 = true) ∧ (decode dsL_law_1123 6 = .ok (.iadd, 1) ∧ okop dsL_law_1123 6 = true) ∧ (decode dsL_law_1123 7 = .ok (.iaload, 1) ∧ okop dsL_law_1123 7 = true) ∧ (decode dsL_law_1123 8 = .ok (.invokevirtual 288, 3) ∧ okop dsL_law_1123 8 = true) ∧ (decode dsL_law_1123 11 = .ok (.istore 7, 2) ∧ okop dsL_law_1123 11 = true) ∧ (decode dsL_law_1123 13 = .ok (.goto 1795, 3) ∧ okop dsL_law_1123 13 = true) := by decide +kernel
theorem dL_law_1123 : decode cL_law 1123 = .ok (.iadd, 1) := dgq (p := 0) daL_law_1123 dbL_law_1123.1
theorem dL_law_1124 : decode cL_law 1124 = .ok (.iaload, 1) := dgq (p := 1) daL_law_1123 dbL_law_1123.2.1
theorem dL_law_1125 : decode cL_law 1125 = .ok (.aload_n 0, 1) := dgq (p := 2) daL_law_1123 dbL_law_1123.2.2.1
theorem dL_law_1126 : decode cL_law 1126 = .ok (.iload 5, 2) := dgq (p := 3) daL_law_1123 dbL_law_1123.2.2.2.1
theorem dL_law_1128 : decode cL_law 1128 = .ok (.iconst 4, 1) := dgq (p := 5) daL_law_1123 dbL_law_1123.2.2.2.2.1
theorem dL_law_1129 : decode cL_law 1129 = .ok (.iadd, 1) := dgq (p := 6) daL_law_1123 dbL_law_1123.2.2.2.2.2.1
theorem dL_law_1130 : decode cL_law 1130 = .ok (.iaload, 1) := dgq (p := 7) daL_law_1123 dbL_law_1123.2.2.2.2.2.2.1
theorem dL_law_1131 : decode cL_law 1131 = .ok (.invokevirtual 288, 3) := dgq (p := 8) daL_law_1123 dbL_law_1123.2.2.2.2.2.2.2.1
theorem dL_law_1134 : decode cL_law 1134 = .ok (.istore 7, 2) := dgq (p := 11) daL_law_1123 dbL_law_1123.2.2.2.2.2.2.2.2.1
theorem dL_law_1136 : decode cL_law 1136 = .ok (.goto 1795, 3) := dgq (p := 13) daL_law_1123 dbL_law_1123.2.2.2.2.2.2.2.2.2
def dsL_law_1139 : ByteArray := ⟨#[43, 42, 21, 5, 4, 96, 46, 45, 184, 1, 33, 54, 6, 44]⟩
theorem daL_law_1139 : agB cL_law dsL_law_1139 1139 := agB_of (n := 14) (by decide +kernel)
theorem dbL_law_1139 : (decode dsL_law_1139 0 = .ok (.aload_n 1, 1) ∧ okop dsL_law_1139 0 = true) ∧ (decode dsL_law_1139 1 = .ok (.aload_n 0, 1) ∧ okop dsL_law_1139 1 = true) ∧ (decode dsL_law_1139 2 = .ok (.iload 5, 2) ∧ okop dsL_law_1139 2 = true) ∧ (decode dsL_law_1139 4 = .ok (.iconst 1, 1) ∧ okop dsL_law_1139 4 = true) ∧ (decode dsL_law_1139 5 = .ok (.iadd, 1) ∧ okop dsL_law_1139 5 = true) ∧ (decode dsL_law_1139 6 = .ok (.iaload, 1) ∧ okop dsL_law_1139 6 = true) ∧ (decode dsL_law_1139 7 = .ok (.aload_n 3, 1) ∧ okop dsL_law_1139 7 = true) ∧ (decode dsL_law_1139 8 = .ok (.invokestatic 289, 3) ∧ okop dsL_law_1139 8 = true) ∧ (decode dsL_law_1139 11 = .ok (.istore 6, 2) ∧ okop dsL_law_1139 11 = true) ∧ (decode dsL_law_1139 13 = .ok (.aload_n 2, 1) ∧ okop dsL_law_1139 13 = true) := by decide +kernel
theorem dL_law_1139 : decode cL_law 1139 = .ok (.aload_n 1, 1) := dgq (p := 0) daL_law_1139 dbL_law_1139.1
theorem dL_law_1140 : decode cL_law 1140 = .ok (.aload_n 0, 1) := dgq (p := 1) daL_law_1139 dbL_law_1139.2.1
theorem dL_law_1141 : decode cL_law 1141 = .ok (.iload 5, 2) := dgq (p := 2) daL_law_1139 dbL_law_1139.2.2.1
theorem dL_law_1143 : decode cL_law 1143 = .ok (.iconst 1, 1) := dgq (p := 4) daL_law_1139 dbL_law_1139.2.2.2.1
theorem dL_law_1144 : decode cL_law 1144 = .ok (.iadd, 1) := dgq (p := 5) daL_law_1139 dbL_law_1139.2.2.2.2.1
theorem dL_law_1145 : decode cL_law 1145 = .ok (.iaload, 1) := dgq (p := 6) daL_law_1139 dbL_law_1139.2.2.2.2.2.1
theorem dL_law_1146 : decode cL_law 1146 = .ok (.aload_n 3, 1) := dgq (p := 7) daL_law_1139 dbL_law_1139.2.2.2.2.2.2.1
theorem dL_law_1147 : decode cL_law 1147 = .ok (.invokestatic 289, 3) := dgq (p := 8) daL_law_1139 dbL_law_1139.2.2.2.2.2.2.2.1
theorem dL_law_1150 : decode cL_law 1150 = .ok (.istore 6, 2) := dgq (p := 11) daL_law_1139 dbL_law_1139.2.2.2.2.2.2.2.2.1
theorem dL_law_1152 : decode cL_law 1152 = .ok (.aload_n 2, 1) := dgq (p := 13) daL_law_1139 dbL_law_1139.2.2.2.2.2.2.2.2.2
def dsL_law_1153 : ByteArray := ⟨#[42, 21, 5, 4, 96, 46, 182, 1, 35, 54, 7, 167, 6, 231, 43, 42]⟩
theorem daL_law_1153 : agB cL_law dsL_law_1153 1153 := agB_of (n := 16) (by decide +kernel)
theorem dbL_law_1153 : (decode dsL_law_1153 0 = .ok (.aload_n 0, 1) ∧ okop dsL_law_1153 0 = true) ∧ (decode dsL_law_1153 1 = .ok (.iload 5, 2) ∧ okop dsL_law_1153 1 = true) ∧ (decode dsL_law_1153 3 = .ok (.iconst 1, 1) ∧ okop dsL_law_1153 3 = true) ∧ (decode dsL_law_1153 4 = .ok (.iadd, 1) ∧ okop dsL_law_1153 4 = true) ∧ (decode dsL_law_1153 5 = .ok (.iaload, 1) ∧ okop dsL_law_1153 5 = true) ∧ (decode dsL_law_1153 6 = .ok (.invokevirtual 291, 3) ∧ okop dsL_law_1153 6 = true) ∧ (decode dsL_law_1153 9 = .ok (.istore 7, 2) ∧ okop dsL_law_1153 9 = true) ∧ (decode dsL_law_1153 11 = .ok (.goto 1767, 3) ∧ okop dsL_law_1153 11 = true) ∧ (decode dsL_law_1153 14 = .ok (.aload_n 1, 1) ∧ okop dsL_law_1153 14 = true) ∧ (decode dsL_law_1153 15 = .ok (.aload_n 0, 1) ∧ okop dsL_law_1153 15 = true) := by decide +kernel
theorem dL_law_1153 : decode cL_law 1153 = .ok (.aload_n 0, 1) := dgq (p := 0) daL_law_1153 dbL_law_1153.1
theorem dL_law_1154 : decode cL_law 1154 = .ok (.iload 5, 2) := dgq (p := 1) daL_law_1153 dbL_law_1153.2.1
theorem dL_law_1156 : decode cL_law 1156 = .ok (.iconst 1, 1) := dgq (p := 3) daL_law_1153 dbL_law_1153.2.2.1
theorem dL_law_1157 : decode cL_law 1157 = .ok (.iadd, 1) := dgq (p := 4) daL_law_1153 dbL_law_1153.2.2.2.1
theorem dL_law_1158 : decode cL_law 1158 = .ok (.iaload, 1) := dgq (p := 5) daL_law_1153 dbL_law_1153.2.2.2.2.1
theorem dL_law_1159 : decode cL_law 1159 = .ok (.invokevirtual 291, 3) := dgq (p := 6) daL_law_1153 dbL_law_1153.2.2.2.2.2.1
theorem dL_law_1162 : decode cL_law 1162 = .ok (.istore 7, 2) := dgq (p := 9) daL_law_1153 dbL_law_1153.2.2.2.2.2.2.1
theorem dL_law_1164 : decode cL_law 1164 = .ok (.goto 1767, 3) := dgq (p := 11) daL_law_1153 dbL_law_1153.2.2.2.2.2.2.2.1
theorem dL_law_1167 : decode cL_law 1167 = .ok (.aload_n 1, 1) := dgq (p := 14) daL_law_1153 dbL_law_1153.2.2.2.2.2.2.2.2.1
theorem dL_law_1168 : decode cL_law 1168 = .ok (.aload_n 0, 1) := dgq (p := 15) daL_law_1153 dbL_law_1153.2.2.2.2.2.2.2.2.2
def dsL_law_1169 : ByteArray := ⟨#[21, 5, 4, 96, 46, 42, 21, 5, 5, 96, 46, 42]⟩
theorem daL_law_1169 : agB cL_law dsL_law_1169 1169 := agB_of (n := 12) (by decide +kernel)
theorem dbL_law_1169 : (decode dsL_law_1169 0 = .ok (.iload 5, 2) ∧ okop dsL_law_1169 0 = true) ∧ (decode dsL_law_1169 2 = .ok (.iconst 1, 1) ∧ okop dsL_law_1169 2 = true) ∧ (decode dsL_law_1169 3 = .ok (.iadd, 1) ∧ okop dsL_law_1169 3 = true) ∧ (decode dsL_law_1169 4 = .ok (.iaload, 1) ∧ okop dsL_law_1169 4 = true) ∧ (decode dsL_law_1169 5 = .ok (.aload_n 0, 1) ∧ okop dsL_law_1169 5 = true) ∧ (decode dsL_law_1169 6 = .ok (.iload 5, 2) ∧ okop dsL_law_1169 6 = true) ∧ (decode dsL_law_1169 8 = .ok (.iconst 2, 1) ∧ okop dsL_law_1169 8 = true) ∧ (decode dsL_law_1169 9 = .ok (.iadd, 1) ∧ okop dsL_law_1169 9 = true) ∧ (decode dsL_law_1169 10 = .ok (.iaload, 1) ∧ okop dsL_law_1169 10 = true) ∧ (decode dsL_law_1169 11 = .ok (.aload_n 0, 1) ∧ okop dsL_law_1169 11 = true) := by decide +kernel
theorem dL_law_1169 : decode cL_law 1169 = .ok (.iload 5, 2) := dgq (p := 0) daL_law_1169 dbL_law_1169.1
theorem dL_law_1171 : decode cL_law 1171 = .ok (.iconst 1, 1) := dgq (p := 2) daL_law_1169 dbL_law_1169.2.1
theorem dL_law_1172 : decode cL_law 1172 = .ok (.iadd, 1) := dgq (p := 3) daL_law_1169 dbL_law_1169.2.2.1
theorem dL_law_1173 : decode cL_law 1173 = .ok (.iaload, 1) := dgq (p := 4) daL_law_1169 dbL_law_1169.2.2.2.1
theorem dL_law_1174 : decode cL_law 1174 = .ok (.aload_n 0, 1) := dgq (p := 5) daL_law_1169 dbL_law_1169.2.2.2.2.1
theorem dL_law_1175 : decode cL_law 1175 = .ok (.iload 5, 2) := dgq (p := 6) daL_law_1169 dbL_law_1169.2.2.2.2.2.1
theorem dL_law_1177 : decode cL_law 1177 = .ok (.iconst 2, 1) := dgq (p := 8) daL_law_1169 dbL_law_1169.2.2.2.2.2.2.1
theorem dL_law_1178 : decode cL_law 1178 = .ok (.iadd, 1) := dgq (p := 9) daL_law_1169 dbL_law_1169.2.2.2.2.2.2.2.1
theorem dL_law_1179 : decode cL_law 1179 = .ok (.iaload, 1) := dgq (p := 10) daL_law_1169 dbL_law_1169.2.2.2.2.2.2.2.2.1
theorem dL_law_1180 : decode cL_law 1180 = .ok (.aload_n 0, 1) := dgq (p := 11) daL_law_1169 dbL_law_1169.2.2.2.2.2.2.2.2.2
def dsL_law_1181 : ByteArray := ⟨#[21, 5, 6, 96, 46, 45, 184, 1, 36, 54, 6, 44, 42, 21, 5]⟩
theorem daL_law_1181 : agB cL_law dsL_law_1181 1181 := agB_of (n := 15) (by decide +kernel)
theorem dbL_law_1181 : (decode dsL_law_1181 0 = .ok (.iload 5, 2) ∧ okop dsL_law_1181 0 = true) ∧ (decode dsL_law_1181 2 = .ok (.iconst 3, 1) ∧ okop dsL_law_1181 2 = true) ∧ (decode dsL_law_1181 3 = .ok (.iadd, 1) ∧ okop dsL_law_1181 3 = true) ∧ (decode dsL_law_1181 4 = .ok (.iaload, 1) ∧ okop dsL_law_1181 4 = true) ∧ (decode dsL_law_1181 5 = .ok (.aload_n 3, 1) ∧ okop dsL_law_1181 5 = true) ∧ (decode dsL_law_1181 6 = .ok (.invokestatic 292, 3) ∧ okop dsL_law_1181 6 = true) ∧ (decode dsL_law_1181 9 = .ok (.istore 6, 2) ∧ okop dsL_law_1181 9 = true) ∧ (decode dsL_law_1181 11 = .ok (.aload_n 2, 1) ∧ okop dsL_law_1181 11 = true) ∧ (decode dsL_law_1181 12 = .ok (.aload_n 0, 1) ∧ okop dsL_law_1181 12 = true) ∧ (decode dsL_law_1181 13 = .ok (.iload 5, 2) ∧ okop dsL_law_1181 13 = true) := by decide +kernel
theorem dL_law_1181 : decode cL_law 1181 = .ok (.iload 5, 2) := dgq (p := 0) daL_law_1181 dbL_law_1181.1
theorem dL_law_1183 : decode cL_law 1183 = .ok (.iconst 3, 1) := dgq (p := 2) daL_law_1181 dbL_law_1181.2.1
theorem dL_law_1184 : decode cL_law 1184 = .ok (.iadd, 1) := dgq (p := 3) daL_law_1181 dbL_law_1181.2.2.1
theorem dL_law_1185 : decode cL_law 1185 = .ok (.iaload, 1) := dgq (p := 4) daL_law_1181 dbL_law_1181.2.2.2.1
theorem dL_law_1186 : decode cL_law 1186 = .ok (.aload_n 3, 1) := dgq (p := 5) daL_law_1181 dbL_law_1181.2.2.2.2.1
theorem dL_law_1187 : decode cL_law 1187 = .ok (.invokestatic 292, 3) := dgq (p := 6) daL_law_1181 dbL_law_1181.2.2.2.2.2.1
theorem dL_law_1190 : decode cL_law 1190 = .ok (.istore 6, 2) := dgq (p := 9) daL_law_1181 dbL_law_1181.2.2.2.2.2.2.1
theorem dL_law_1192 : decode cL_law 1192 = .ok (.aload_n 2, 1) := dgq (p := 11) daL_law_1181 dbL_law_1181.2.2.2.2.2.2.2.1
theorem dL_law_1193 : decode cL_law 1193 = .ok (.aload_n 0, 1) := dgq (p := 12) daL_law_1181 dbL_law_1181.2.2.2.2.2.2.2.2.1
theorem dL_law_1194 : decode cL_law 1194 = .ok (.iload 5, 2) := dgq (p := 13) daL_law_1181 dbL_law_1181.2.2.2.2.2.2.2.2.2
def dsL_law_1196 : ByteArray := ⟨#[4, 96, 46, 42, 21, 5, 5, 96, 46, 42, 21, 5]⟩
theorem daL_law_1196 : agB cL_law dsL_law_1196 1196 := agB_of (n := 12) (by decide +kernel)
theorem dbL_law_1196 : (decode dsL_law_1196 0 = .ok (.iconst 1, 1) ∧ okop dsL_law_1196 0 = true) ∧ (decode dsL_law_1196 1 = .ok (.iadd, 1) ∧ okop dsL_law_1196 1 = true) ∧ (decode dsL_law_1196 2 = .ok (.iaload, 1) ∧ okop dsL_law_1196 2 = true) ∧ (decode dsL_law_1196 3 = .ok (.aload_n 0, 1) ∧ okop dsL_law_1196 3 = true) ∧ (decode dsL_law_1196 4 = .ok (.iload 5, 2) ∧ okop dsL_law_1196 4 = true) ∧ (decode dsL_law_1196 6 = .ok (.iconst 2, 1) ∧ okop dsL_law_1196 6 = true) ∧ (decode dsL_law_1196 7 = .ok (.iadd, 1) ∧ okop dsL_law_1196 7 = true) ∧ (decode dsL_law_1196 8 = .ok (.iaload, 1) ∧ okop dsL_law_1196 8 = true) ∧ (decode dsL_law_1196 9 = .ok (.aload_n 0, 1) ∧ okop dsL_law_1196 9 = true) ∧ (decode dsL_law_1196 10 = .ok (.iload 5, 2) ∧ okop dsL_law_1196 10 = true) := by decide +kernel
theorem dL_law_1196 : decode cL_law 1196 = .ok (.iconst 1, 1) := dgq (p := 0) daL_law_1196 dbL_law_1196.1
theorem dL_law_1197 : decode cL_law 1197 = .ok (.iadd, 1) := dgq (p := 1) daL_law_1196 dbL_law_1196.2.1
theorem dL_law_1198 : decode cL_law 1198 = .ok (.iaload, 1) := dgq (p := 2) daL_law_1196 dbL_law_1196.2.2.1
theorem dL_law_1199 : decode cL_law 1199 = .ok (.aload_n 0, 1) := dgq (p := 3) daL_law_1196 dbL_law_1196.2.2.2.1
theorem dL_law_1200 : decode cL_law 1200 = .ok (.iload 5, 2) := dgq (p := 4) daL_law_1196 dbL_law_1196.2.2.2.2.1
theorem dL_law_1202 : decode cL_law 1202 = .ok (.iconst 2, 1) := dgq (p := 6) daL_law_1196 dbL_law_1196.2.2.2.2.2.1
theorem dL_law_1203 : decode cL_law 1203 = .ok (.iadd, 1) := dgq (p := 7) daL_law_1196 dbL_law_1196.2.2.2.2.2.2.1
theorem dL_law_1204 : decode cL_law 1204 = .ok (.iaload, 1) := dgq (p := 8) daL_law_1196 dbL_law_1196.2.2.2.2.2.2.2.1
theorem dL_law_1205 : decode cL_law 1205 = .ok (.aload_n 0, 1) := dgq (p := 9) daL_law_1196 dbL_law_1196.2.2.2.2.2.2.2.2.1
theorem dL_law_1206 : decode cL_law 1206 = .ok (.iload 5, 2) := dgq (p := 10) daL_law_1196 dbL_law_1196.2.2.2.2.2.2.2.2.2
def dsL_law_1208 : ByteArray := ⟨#[6, 96, 46, 182, 1, 38, 54, 7, 167, 6, 179, 43, 42, 21, 5, 4]⟩
theorem daL_law_1208 : agB cL_law dsL_law_1208 1208 := agB_of (n := 16) (by decide +kernel)
theorem dbL_law_1208 : (decode dsL_law_1208 0 = .ok (.iconst 3, 1) ∧ okop dsL_law_1208 0 = true) ∧ (decode dsL_law_1208 1 = .ok (.iadd, 1) ∧ okop dsL_law_1208 1 = true) ∧ (decode dsL_law_1208 2 = .ok (.iaload, 1) ∧ okop dsL_law_1208 2 = true) ∧ (decode dsL_law_1208 3 = .ok (.invokevirtual 294, 3) ∧ okop dsL_law_1208 3 = true) ∧ (decode dsL_law_1208 6 = .ok (.istore 7, 2) ∧ okop dsL_law_1208 6 = true) ∧ (decode dsL_law_1208 8 = .ok (.goto 1715, 3) ∧ okop dsL_law_1208 8 = true) ∧ (decode dsL_law_1208 11 = .ok (.aload_n 1, 1) ∧ okop dsL_law_1208 11 = true) ∧ (decode dsL_law_1208 12 = .ok (.aload_n 0, 1) ∧ okop dsL_law_1208 12 = true) ∧ (decode dsL_law_1208 13 = .ok (.iload 5, 2) ∧ okop dsL_law_1208 13 = true) ∧ (decode dsL_law_1208 15 = .ok (.iconst 1, 1) ∧ okop dsL_law_1208 15 = true) := by decide +kernel
theorem dL_law_1208 : decode cL_law 1208 = .ok (.iconst 3, 1) := dgq (p := 0) daL_law_1208 dbL_law_1208.1
theorem dL_law_1209 : decode cL_law 1209 = .ok (.iadd, 1) := dgq (p := 1) daL_law_1208 dbL_law_1208.2.1
theorem dL_law_1210 : decode cL_law 1210 = .ok (.iaload, 1) := dgq (p := 2) daL_law_1208 dbL_law_1208.2.2.1
theorem dL_law_1211 : decode cL_law 1211 = .ok (.invokevirtual 294, 3) := dgq (p := 3) daL_law_1208 dbL_law_1208.2.2.2.1
theorem dL_law_1214 : decode cL_law 1214 = .ok (.istore 7, 2) := dgq (p := 6) daL_law_1208 dbL_law_1208.2.2.2.2.1
theorem dL_law_1216 : decode cL_law 1216 = .ok (.goto 1715, 3) := dgq (p := 8) daL_law_1208 dbL_law_1208.2.2.2.2.2.1
theorem dL_law_1219 : decode cL_law 1219 = .ok (.aload_n 1, 1) := dgq (p := 11) daL_law_1208 dbL_law_1208.2.2.2.2.2.2.1
theorem dL_law_1220 : decode cL_law 1220 = .ok (.aload_n 0, 1) := dgq (p := 12) daL_law_1208 dbL_law_1208.2.2.2.2.2.2.2.1
theorem dL_law_1221 : decode cL_law 1221 = .ok (.iload 5, 2) := dgq (p := 13) daL_law_1208 dbL_law_1208.2.2.2.2.2.2.2.2.1
theorem dL_law_1223 : decode cL_law 1223 = .ok (.iconst 1, 1) := dgq (p := 15) daL_law_1208 dbL_law_1208.2.2.2.2.2.2.2.2.2
def dsL_law_1224 : ByteArray := ⟨#[96, 46, 42, 21, 5, 5, 96, 46, 42, 21, 5, 6]⟩
theorem daL_law_1224 : agB cL_law dsL_law_1224 1224 := agB_of (n := 12) (by decide +kernel)
theorem dbL_law_1224 : (decode dsL_law_1224 0 = .ok (.iadd, 1) ∧ okop dsL_law_1224 0 = true) ∧ (decode dsL_law_1224 1 = .ok (.iaload, 1) ∧ okop dsL_law_1224 1 = true) ∧ (decode dsL_law_1224 2 = .ok (.aload_n 0, 1) ∧ okop dsL_law_1224 2 = true) ∧ (decode dsL_law_1224 3 = .ok (.iload 5, 2) ∧ okop dsL_law_1224 3 = true) ∧ (decode dsL_law_1224 5 = .ok (.iconst 2, 1) ∧ okop dsL_law_1224 5 = true) ∧ (decode dsL_law_1224 6 = .ok (.iadd, 1) ∧ okop dsL_law_1224 6 = true) ∧ (decode dsL_law_1224 7 = .ok (.iaload, 1) ∧ okop dsL_law_1224 7 = true) ∧ (decode dsL_law_1224 8 = .ok (.aload_n 0, 1) ∧ okop dsL_law_1224 8 = true) ∧ (decode dsL_law_1224 9 = .ok (.iload 5, 2) ∧ okop dsL_law_1224 9 = true) ∧ (decode dsL_law_1224 11 = .ok (.iconst 3, 1) ∧ okop dsL_law_1224 11 = true) := by decide +kernel
theorem dL_law_1224 : decode cL_law 1224 = .ok (.iadd, 1) := dgq (p := 0) daL_law_1224 dbL_law_1224.1
theorem dL_law_1225 : decode cL_law 1225 = .ok (.iaload, 1) := dgq (p := 1) daL_law_1224 dbL_law_1224.2.1
theorem dL_law_1226 : decode cL_law 1226 = .ok (.aload_n 0, 1) := dgq (p := 2) daL_law_1224 dbL_law_1224.2.2.1
theorem dL_law_1227 : decode cL_law 1227 = .ok (.iload 5, 2) := dgq (p := 3) daL_law_1224 dbL_law_1224.2.2.2.1
theorem dL_law_1229 : decode cL_law 1229 = .ok (.iconst 2, 1) := dgq (p := 5) daL_law_1224 dbL_law_1224.2.2.2.2.1
theorem dL_law_1230 : decode cL_law 1230 = .ok (.iadd, 1) := dgq (p := 6) daL_law_1224 dbL_law_1224.2.2.2.2.2.1
theorem dL_law_1231 : decode cL_law 1231 = .ok (.iaload, 1) := dgq (p := 7) daL_law_1224 dbL_law_1224.2.2.2.2.2.2.1
theorem dL_law_1232 : decode cL_law 1232 = .ok (.aload_n 0, 1) := dgq (p := 8) daL_law_1224 dbL_law_1224.2.2.2.2.2.2.2.1
theorem dL_law_1233 : decode cL_law 1233 = .ok (.iload 5, 2) := dgq (p := 9) daL_law_1224 dbL_law_1224.2.2.2.2.2.2.2.2.1
theorem dL_law_1235 : decode cL_law 1235 = .ok (.iconst 3, 1) := dgq (p := 11) daL_law_1224 dbL_law_1224.2.2.2.2.2.2.2.2.2
def dsL_law_1236 : ByteArray := ⟨#[96, 46, 45, 184, 1, 39, 54, 6, 44, 42, 21, 5, 4, 96]⟩
theorem daL_law_1236 : agB cL_law dsL_law_1236 1236 := agB_of (n := 14) (by decide +kernel)
theorem dbL_law_1236 : (decode dsL_law_1236 0 = .ok (.iadd, 1) ∧ okop dsL_law_1236 0 = true) ∧ (decode dsL_law_1236 1 = .ok (.iaload, 1) ∧ okop dsL_law_1236 1 = true) ∧ (decode dsL_law_1236 2 = .ok (.aload_n 3, 1) ∧ okop dsL_law_1236 2 = true) ∧ (decode dsL_law_1236 3 = .ok (.invokestatic 295, 3) ∧ okop dsL_law_1236 3 = true) ∧ (decode dsL_law_1236 6 = .ok (.istore 6, 2) ∧ okop dsL_law_1236 6 = true) ∧ (decode dsL_law_1236 8 = .ok (.aload_n 2, 1) ∧ okop dsL_law_1236 8 = true) ∧ (decode dsL_law_1236 9 = .ok (.aload_n 0, 1) ∧ okop dsL_law_1236 9 = true) ∧ (decode dsL_law_1236 10 = .ok (.iload 5, 2) ∧ okop dsL_law_1236 10 = true) ∧ (decode dsL_law_1236 12 = .ok (.iconst 1, 1) ∧ okop dsL_law_1236 12 = true) ∧ (decode dsL_law_1236 13 = .ok (.iadd, 1) ∧ okop dsL_law_1236 13 = true) := by decide +kernel
theorem dL_law_1236 : decode cL_law 1236 = .ok (.iadd, 1) := dgq (p := 0) daL_law_1236 dbL_law_1236.1
theorem dL_law_1237 : decode cL_law 1237 = .ok (.iaload, 1) := dgq (p := 1) daL_law_1236 dbL_law_1236.2.1
theorem dL_law_1238 : decode cL_law 1238 = .ok (.aload_n 3, 1) := dgq (p := 2) daL_law_1236 dbL_law_1236.2.2.1
theorem dL_law_1239 : decode cL_law 1239 = .ok (.invokestatic 295, 3) := dgq (p := 3) daL_law_1236 dbL_law_1236.2.2.2.1
theorem dL_law_1242 : decode cL_law 1242 = .ok (.istore 6, 2) := dgq (p := 6) daL_law_1236 dbL_law_1236.2.2.2.2.1
theorem dL_law_1244 : decode cL_law 1244 = .ok (.aload_n 2, 1) := dgq (p := 8) daL_law_1236 dbL_law_1236.2.2.2.2.2.1
theorem dL_law_1245 : decode cL_law 1245 = .ok (.aload_n 0, 1) := dgq (p := 9) daL_law_1236 dbL_law_1236.2.2.2.2.2.2.1
theorem dL_law_1246 : decode cL_law 1246 = .ok (.iload 5, 2) := dgq (p := 10) daL_law_1236 dbL_law_1236.2.2.2.2.2.2.2.1
theorem dL_law_1248 : decode cL_law 1248 = .ok (.iconst 1, 1) := dgq (p := 12) daL_law_1236 dbL_law_1236.2.2.2.2.2.2.2.2.1
theorem dL_law_1249 : decode cL_law 1249 = .ok (.iadd, 1) := dgq (p := 13) daL_law_1236 dbL_law_1236.2.2.2.2.2.2.2.2.2
def dsL_law_1250 : ByteArray := ⟨#[46, 42, 21, 5, 5, 96, 46, 42, 21, 5, 6, 96]⟩
theorem daL_law_1250 : agB cL_law dsL_law_1250 1250 := agB_of (n := 12) (by decide +kernel)
theorem dbL_law_1250 : (decode dsL_law_1250 0 = .ok (.iaload, 1) ∧ okop dsL_law_1250 0 = true) ∧ (decode dsL_law_1250 1 = .ok (.aload_n 0, 1) ∧ okop dsL_law_1250 1 = true) ∧ (decode dsL_law_1250 2 = .ok (.iload 5, 2) ∧ okop dsL_law_1250 2 = true) ∧ (decode dsL_law_1250 4 = .ok (.iconst 2, 1) ∧ okop dsL_law_1250 4 = true) ∧ (decode dsL_law_1250 5 = .ok (.iadd, 1) ∧ okop dsL_law_1250 5 = true) ∧ (decode dsL_law_1250 6 = .ok (.iaload, 1) ∧ okop dsL_law_1250 6 = true) ∧ (decode dsL_law_1250 7 = .ok (.aload_n 0, 1) ∧ okop dsL_law_1250 7 = true) ∧ (decode dsL_law_1250 8 = .ok (.iload 5, 2) ∧ okop dsL_law_1250 8 = true) ∧ (decode dsL_law_1250 10 = .ok (.iconst 3, 1) ∧ okop dsL_law_1250 10 = true) ∧ (decode dsL_law_1250 11 = .ok (.iadd, 1) ∧ okop dsL_law_1250 11 = true) := by decide +kernel
theorem dL_law_1250 : decode cL_law 1250 = .ok (.iaload, 1) := dgq (p := 0) daL_law_1250 dbL_law_1250.1
theorem dL_law_1251 : decode cL_law 1251 = .ok (.aload_n 0, 1) := dgq (p := 1) daL_law_1250 dbL_law_1250.2.1
theorem dL_law_1252 : decode cL_law 1252 = .ok (.iload 5, 2) := dgq (p := 2) daL_law_1250 dbL_law_1250.2.2.1
theorem dL_law_1254 : decode cL_law 1254 = .ok (.iconst 2, 1) := dgq (p := 4) daL_law_1250 dbL_law_1250.2.2.2.1
theorem dL_law_1255 : decode cL_law 1255 = .ok (.iadd, 1) := dgq (p := 5) daL_law_1250 dbL_law_1250.2.2.2.2.1
theorem dL_law_1256 : decode cL_law 1256 = .ok (.iaload, 1) := dgq (p := 6) daL_law_1250 dbL_law_1250.2.2.2.2.2.1
theorem dL_law_1257 : decode cL_law 1257 = .ok (.aload_n 0, 1) := dgq (p := 7) daL_law_1250 dbL_law_1250.2.2.2.2.2.2.1
theorem dL_law_1258 : decode cL_law 1258 = .ok (.iload 5, 2) := dgq (p := 8) daL_law_1250 dbL_law_1250.2.2.2.2.2.2.2.1
theorem dL_law_1260 : decode cL_law 1260 = .ok (.iconst 3, 1) := dgq (p := 10) daL_law_1250 dbL_law_1250.2.2.2.2.2.2.2.2.1
theorem dL_law_1261 : decode cL_law 1261 = .ok (.iadd, 1) := dgq (p := 11) daL_law_1250 dbL_law_1250.2.2.2.2.2.2.2.2.2
def dsL_law_1262 : ByteArray := ⟨#[46, 182, 1, 41, 54, 7, 167, 6, 127, 43, 42, 21, 5, 4, 96, 46]⟩
theorem daL_law_1262 : agB cL_law dsL_law_1262 1262 := agB_of (n := 16) (by decide +kernel)
theorem dbL_law_1262 : (decode dsL_law_1262 0 = .ok (.iaload, 1) ∧ okop dsL_law_1262 0 = true) ∧ (decode dsL_law_1262 1 = .ok (.invokevirtual 297, 3) ∧ okop dsL_law_1262 1 = true) ∧ (decode dsL_law_1262 4 = .ok (.istore 7, 2) ∧ okop dsL_law_1262 4 = true) ∧ (decode dsL_law_1262 6 = .ok (.goto 1663, 3) ∧ okop dsL_law_1262 6 = true) ∧ (decode dsL_law_1262 9 = .ok (.aload_n 1, 1) ∧ okop dsL_law_1262 9 = true) ∧ (decode dsL_law_1262 10 = .ok (.aload_n 0, 1) ∧ okop dsL_law_1262 10 = true) ∧ (decode dsL_law_1262 11 = .ok (.iload 5, 2) ∧ okop dsL_law_1262 11 = true) ∧ (decode dsL_law_1262 13 = .ok (.iconst 1, 1) ∧ okop dsL_law_1262 13 = true) ∧ (decode dsL_law_1262 14 = .ok (.iadd, 1) ∧ okop dsL_law_1262 14 = true) ∧ (decode dsL_law_1262 15 = .ok (.iaload, 1) ∧ okop dsL_law_1262 15 = true) := by decide +kernel
theorem dL_law_1262 : decode cL_law 1262 = .ok (.iaload, 1) := dgq (p := 0) daL_law_1262 dbL_law_1262.1
theorem dL_law_1263 : decode cL_law 1263 = .ok (.invokevirtual 297, 3) := dgq (p := 1) daL_law_1262 dbL_law_1262.2.1
theorem dL_law_1266 : decode cL_law 1266 = .ok (.istore 7, 2) := dgq (p := 4) daL_law_1262 dbL_law_1262.2.2.1
theorem dL_law_1268 : decode cL_law 1268 = .ok (.goto 1663, 3) := dgq (p := 6) daL_law_1262 dbL_law_1262.2.2.2.1
theorem dL_law_1271 : decode cL_law 1271 = .ok (.aload_n 1, 1) := dgq (p := 9) daL_law_1262 dbL_law_1262.2.2.2.2.1
theorem dL_law_1272 : decode cL_law 1272 = .ok (.aload_n 0, 1) := dgq (p := 10) daL_law_1262 dbL_law_1262.2.2.2.2.2.1
theorem dL_law_1273 : decode cL_law 1273 = .ok (.iload 5, 2) := dgq (p := 11) daL_law_1262 dbL_law_1262.2.2.2.2.2.2.1
theorem dL_law_1275 : decode cL_law 1275 = .ok (.iconst 1, 1) := dgq (p := 13) daL_law_1262 dbL_law_1262.2.2.2.2.2.2.2.1
theorem dL_law_1276 : decode cL_law 1276 = .ok (.iadd, 1) := dgq (p := 14) daL_law_1262 dbL_law_1262.2.2.2.2.2.2.2.2.1
theorem dL_law_1277 : decode cL_law 1277 = .ok (.iaload, 1) := dgq (p := 15) daL_law_1262 dbL_law_1262.2.2.2.2.2.2.2.2.2
def dsL_law_1278 : ByteArray := ⟨#[42, 21, 5, 5, 96, 46, 45, 184, 1, 42, 54, 6, 44, 42]⟩
theorem daL_law_1278 : agB cL_law dsL_law_1278 1278 := agB_of (n := 14) (by decide +kernel)
theorem dbL_law_1278 : (decode dsL_law_1278 0 = .ok (.aload_n 0, 1) ∧ okop dsL_law_1278 0 = true) ∧ (decode dsL_law_1278 1 = .ok (.iload 5, 2) ∧ okop dsL_law_1278 1 = true) ∧ (decode dsL_law_1278 3 = .ok (.iconst 2, 1) ∧ okop dsL_law_1278 3 = true) ∧ (decode dsL_law_1278 4 = .ok (.iadd, 1) ∧ okop dsL_law_1278 4 = true) ∧ (decode dsL_law_1278 5 = .ok (.iaload, 1) ∧ okop dsL_law_1278 5 = true) ∧ (decode dsL_law_1278 6 = .ok (.aload_n 3, 1) ∧ okop dsL_law_1278 6 = true) ∧ (decode dsL_law_1278 7 = .ok (.invokestatic 298, 3) ∧ okop dsL_law_1278 7 = true) ∧ (decode dsL_law_1278 10 = .ok (.istore 6, 2) ∧ okop dsL_law_1278 10 = true) ∧ (decode dsL_law_1278 12 = .ok (.aload_n 2, 1) ∧ okop dsL_law_1278 12 = true) ∧ (decode dsL_law_1278 13 = .ok (.aload_n 0, 1) ∧ okop dsL_law_1278 13 = true) := by decide +kernel
theorem dL_law_1278 : decode cL_law 1278 = .ok (.aload_n 0, 1) := dgq (p := 0) daL_law_1278 dbL_law_1278.1
theorem dL_law_1279 : decode cL_law 1279 = .ok (.iload 5, 2) := dgq (p := 1) daL_law_1278 dbL_law_1278.2.1
theorem dL_law_1281 : decode cL_law 1281 = .ok (.iconst 2, 1) := dgq (p := 3) daL_law_1278 dbL_law_1278.2.2.1
theorem dL_law_1282 : decode cL_law 1282 = .ok (.iadd, 1) := dgq (p := 4) daL_law_1278 dbL_law_1278.2.2.2.1
theorem dL_law_1283 : decode cL_law 1283 = .ok (.iaload, 1) := dgq (p := 5) daL_law_1278 dbL_law_1278.2.2.2.2.1
theorem dL_law_1284 : decode cL_law 1284 = .ok (.aload_n 3, 1) := dgq (p := 6) daL_law_1278 dbL_law_1278.2.2.2.2.2.1
theorem dL_law_1285 : decode cL_law 1285 = .ok (.invokestatic 298, 3) := dgq (p := 7) daL_law_1278 dbL_law_1278.2.2.2.2.2.2.1
theorem dL_law_1288 : decode cL_law 1288 = .ok (.istore 6, 2) := dgq (p := 10) daL_law_1278 dbL_law_1278.2.2.2.2.2.2.2.1
theorem dL_law_1290 : decode cL_law 1290 = .ok (.aload_n 2, 1) := dgq (p := 12) daL_law_1278 dbL_law_1278.2.2.2.2.2.2.2.2.1
theorem dL_law_1291 : decode cL_law 1291 = .ok (.aload_n 0, 1) := dgq (p := 13) daL_law_1278 dbL_law_1278.2.2.2.2.2.2.2.2.2
def dsL_law_1292 : ByteArray := ⟨#[21, 5, 4, 96, 46, 42, 21, 5, 5, 96, 46, 182, 1, 44]⟩
theorem daL_law_1292 : agB cL_law dsL_law_1292 1292 := agB_of (n := 14) (by decide +kernel)
theorem dbL_law_1292 : (decode dsL_law_1292 0 = .ok (.iload 5, 2) ∧ okop dsL_law_1292 0 = true) ∧ (decode dsL_law_1292 2 = .ok (.iconst 1, 1) ∧ okop dsL_law_1292 2 = true) ∧ (decode dsL_law_1292 3 = .ok (.iadd, 1) ∧ okop dsL_law_1292 3 = true) ∧ (decode dsL_law_1292 4 = .ok (.iaload, 1) ∧ okop dsL_law_1292 4 = true) ∧ (decode dsL_law_1292 5 = .ok (.aload_n 0, 1) ∧ okop dsL_law_1292 5 = true) ∧ (decode dsL_law_1292 6 = .ok (.iload 5, 2) ∧ okop dsL_law_1292 6 = true) ∧ (decode dsL_law_1292 8 = .ok (.iconst 2, 1) ∧ okop dsL_law_1292 8 = true) ∧ (decode dsL_law_1292 9 = .ok (.iadd, 1) ∧ okop dsL_law_1292 9 = true) ∧ (decode dsL_law_1292 10 = .ok (.iaload, 1) ∧ okop dsL_law_1292 10 = true) ∧ (decode dsL_law_1292 11 = .ok (.invokevirtual 300, 3) ∧ okop dsL_law_1292 11 = true) := by decide +kernel
theorem dL_law_1292 : decode cL_law 1292 = .ok (.iload 5, 2) := dgq (p := 0) daL_law_1292 dbL_law_1292.1
theorem dL_law_1294 : decode cL_law 1294 = .ok (.iconst 1, 1) := dgq (p := 2) daL_law_1292 dbL_law_1292.2.1
theorem dL_law_1295 : decode cL_law 1295 = .ok (.iadd, 1) := dgq (p := 3) daL_law_1292 dbL_law_1292.2.2.1
theorem dL_law_1296 : decode cL_law 1296 = .ok (.iaload, 1) := dgq (p := 4) daL_law_1292 dbL_law_1292.2.2.2.1
theorem dL_law_1297 : decode cL_law 1297 = .ok (.aload_n 0, 1) := dgq (p := 5) daL_law_1292 dbL_law_1292.2.2.2.2.1
theorem dL_law_1298 : decode cL_law 1298 = .ok (.iload 5, 2) := dgq (p := 6) daL_law_1292 dbL_law_1292.2.2.2.2.2.1
theorem dL_law_1300 : decode cL_law 1300 = .ok (.iconst 2, 1) := dgq (p := 8) daL_law_1292 dbL_law_1292.2.2.2.2.2.2.1
theorem dL_law_1301 : decode cL_law 1301 = .ok (.iadd, 1) := dgq (p := 9) daL_law_1292 dbL_law_1292.2.2.2.2.2.2.2.1
theorem dL_law_1302 : decode cL_law 1302 = .ok (.iaload, 1) := dgq (p := 10) daL_law_1292 dbL_law_1292.2.2.2.2.2.2.2.2.1
theorem dL_law_1303 : decode cL_law 1303 = .ok (.invokevirtual 300, 3) := dgq (p := 11) daL_law_1292 dbL_law_1292.2.2.2.2.2.2.2.2.2
def dsL_law_1306 : ByteArray := ⟨#[54, 7, 167, 6, 87, 43, 42, 21, 5, 4, 96, 46, 42, 21, 5]⟩
theorem daL_law_1306 : agB cL_law dsL_law_1306 1306 := agB_of (n := 15) (by decide +kernel)
theorem dbL_law_1306 : (decode dsL_law_1306 0 = .ok (.istore 7, 2) ∧ okop dsL_law_1306 0 = true) ∧ (decode dsL_law_1306 2 = .ok (.goto 1623, 3) ∧ okop dsL_law_1306 2 = true) ∧ (decode dsL_law_1306 5 = .ok (.aload_n 1, 1) ∧ okop dsL_law_1306 5 = true) ∧ (decode dsL_law_1306 6 = .ok (.aload_n 0, 1) ∧ okop dsL_law_1306 6 = true) ∧ (decode dsL_law_1306 7 = .ok (.iload 5, 2) ∧ okop dsL_law_1306 7 = true) ∧ (decode dsL_law_1306 9 = .ok (.iconst 1, 1) ∧ okop dsL_law_1306 9 = true) ∧ (decode dsL_law_1306 10 = .ok (.iadd, 1) ∧ okop dsL_law_1306 10 = true) ∧ (decode dsL_law_1306 11 = .ok (.iaload, 1) ∧ okop dsL_law_1306 11 = true) ∧ (decode dsL_law_1306 12 = .ok (.aload_n 0, 1) ∧ okop dsL_law_1306 12 = true) ∧ (decode dsL_law_1306 13 = .ok (.iload 5, 2) ∧ okop dsL_law_1306 13 = true) := by decide +kernel
theorem dL_law_1306 : decode cL_law 1306 = .ok (.istore 7, 2) := dgq (p := 0) daL_law_1306 dbL_law_1306.1
theorem dL_law_1308 : decode cL_law 1308 = .ok (.goto 1623, 3) := dgq (p := 2) daL_law_1306 dbL_law_1306.2.1
theorem dL_law_1311 : decode cL_law 1311 = .ok (.aload_n 1, 1) := dgq (p := 5) daL_law_1306 dbL_law_1306.2.2.1
theorem dL_law_1312 : decode cL_law 1312 = .ok (.aload_n 0, 1) := dgq (p := 6) daL_law_1306 dbL_law_1306.2.2.2.1
theorem dL_law_1313 : decode cL_law 1313 = .ok (.iload 5, 2) := dgq (p := 7) daL_law_1306 dbL_law_1306.2.2.2.2.1
theorem dL_law_1315 : decode cL_law 1315 = .ok (.iconst 1, 1) := dgq (p := 9) daL_law_1306 dbL_law_1306.2.2.2.2.2.1
theorem dL_law_1316 : decode cL_law 1316 = .ok (.iadd, 1) := dgq (p := 10) daL_law_1306 dbL_law_1306.2.2.2.2.2.2.1
theorem dL_law_1317 : decode cL_law 1317 = .ok (.iaload, 1) := dgq (p := 11) daL_law_1306 dbL_law_1306.2.2.2.2.2.2.2.1
theorem dL_law_1318 : decode cL_law 1318 = .ok (.aload_n 0, 1) := dgq (p := 12) daL_law_1306 dbL_law_1306.2.2.2.2.2.2.2.2.1
theorem dL_law_1319 : decode cL_law 1319 = .ok (.iload 5, 2) := dgq (p := 13) daL_law_1306 dbL_law_1306.2.2.2.2.2.2.2.2.2
def dsL_law_1321 : ByteArray := ⟨#[5, 96, 46, 42, 21, 5, 6, 96, 46, 42, 21, 5]⟩
theorem daL_law_1321 : agB cL_law dsL_law_1321 1321 := agB_of (n := 12) (by decide +kernel)
theorem dbL_law_1321 : (decode dsL_law_1321 0 = .ok (.iconst 2, 1) ∧ okop dsL_law_1321 0 = true) ∧ (decode dsL_law_1321 1 = .ok (.iadd, 1) ∧ okop dsL_law_1321 1 = true) ∧ (decode dsL_law_1321 2 = .ok (.iaload, 1) ∧ okop dsL_law_1321 2 = true) ∧ (decode dsL_law_1321 3 = .ok (.aload_n 0, 1) ∧ okop dsL_law_1321 3 = true) ∧ (decode dsL_law_1321 4 = .ok (.iload 5, 2) ∧ okop dsL_law_1321 4 = true) ∧ (decode dsL_law_1321 6 = .ok (.iconst 3, 1) ∧ okop dsL_law_1321 6 = true) ∧ (decode dsL_law_1321 7 = .ok (.iadd, 1) ∧ okop dsL_law_1321 7 = true) ∧ (decode dsL_law_1321 8 = .ok (.iaload, 1) ∧ okop dsL_law_1321 8 = true) ∧ (decode dsL_law_1321 9 = .ok (.aload_n 0, 1) ∧ okop dsL_law_1321 9 = true) ∧ (decode dsL_law_1321 10 = .ok (.iload 5, 2) ∧ okop dsL_law_1321 10 = true) := by decide +kernel
theorem dL_law_1321 : decode cL_law 1321 = .ok (.iconst 2, 1) := dgq (p := 0) daL_law_1321 dbL_law_1321.1
theorem dL_law_1322 : decode cL_law 1322 = .ok (.iadd, 1) := dgq (p := 1) daL_law_1321 dbL_law_1321.2.1
theorem dL_law_1323 : decode cL_law 1323 = .ok (.iaload, 1) := dgq (p := 2) daL_law_1321 dbL_law_1321.2.2.1
theorem dL_law_1324 : decode cL_law 1324 = .ok (.aload_n 0, 1) := dgq (p := 3) daL_law_1321 dbL_law_1321.2.2.2.1
theorem dL_law_1325 : decode cL_law 1325 = .ok (.iload 5, 2) := dgq (p := 4) daL_law_1321 dbL_law_1321.2.2.2.2.1
theorem dL_law_1327 : decode cL_law 1327 = .ok (.iconst 3, 1) := dgq (p := 6) daL_law_1321 dbL_law_1321.2.2.2.2.2.1
theorem dL_law_1328 : decode cL_law 1328 = .ok (.iadd, 1) := dgq (p := 7) daL_law_1321 dbL_law_1321.2.2.2.2.2.2.1
theorem dL_law_1329 : decode cL_law 1329 = .ok (.iaload, 1) := dgq (p := 8) daL_law_1321 dbL_law_1321.2.2.2.2.2.2.2.1
theorem dL_law_1330 : decode cL_law 1330 = .ok (.aload_n 0, 1) := dgq (p := 9) daL_law_1321 dbL_law_1321.2.2.2.2.2.2.2.2.1
theorem dL_law_1331 : decode cL_law 1331 = .ok (.iload 5, 2) := dgq (p := 10) daL_law_1321 dbL_law_1321.2.2.2.2.2.2.2.2.2
def dsL_law_1333 : ByteArray := ⟨#[7, 96, 46, 45, 184, 1, 45, 54, 6, 44, 42, 21, 5, 4]⟩
theorem daL_law_1333 : agB cL_law dsL_law_1333 1333 := agB_of (n := 14) (by decide +kernel)
theorem dbL_law_1333 : (decode dsL_law_1333 0 = .ok (.iconst 4, 1) ∧ okop dsL_law_1333 0 = true) ∧ (decode dsL_law_1333 1 = .ok (.iadd, 1) ∧ okop dsL_law_1333 1 = true) ∧ (decode dsL_law_1333 2 = .ok (.iaload, 1) ∧ okop dsL_law_1333 2 = true) ∧ (decode dsL_law_1333 3 = .ok (.aload_n 3, 1) ∧ okop dsL_law_1333 3 = true) ∧ (decode dsL_law_1333 4 = .ok (.invokestatic 301, 3) ∧ okop dsL_law_1333 4 = true) ∧ (decode dsL_law_1333 7 = .ok (.istore 6, 2) ∧ okop dsL_law_1333 7 = true) ∧ (decode dsL_law_1333 9 = .ok (.aload_n 2, 1) ∧ okop dsL_law_1333 9 = true) ∧ (decode dsL_law_1333 10 = .ok (.aload_n 0, 1) ∧ okop dsL_law_1333 10 = true) ∧ (decode dsL_law_1333 11 = .ok (.iload 5, 2) ∧ okop dsL_law_1333 11 = true) ∧ (decode dsL_law_1333 13 = .ok (.iconst 1, 1) ∧ okop dsL_law_1333 13 = true) := by decide +kernel
theorem dL_law_1333 : decode cL_law 1333 = .ok (.iconst 4, 1) := dgq (p := 0) daL_law_1333 dbL_law_1333.1
theorem dL_law_1334 : decode cL_law 1334 = .ok (.iadd, 1) := dgq (p := 1) daL_law_1333 dbL_law_1333.2.1
theorem dL_law_1335 : decode cL_law 1335 = .ok (.iaload, 1) := dgq (p := 2) daL_law_1333 dbL_law_1333.2.2.1
theorem dL_law_1336 : decode cL_law 1336 = .ok (.aload_n 3, 1) := dgq (p := 3) daL_law_1333 dbL_law_1333.2.2.2.1
theorem dL_law_1337 : decode cL_law 1337 = .ok (.invokestatic 301, 3) := dgq (p := 4) daL_law_1333 dbL_law_1333.2.2.2.2.1
theorem dL_law_1340 : decode cL_law 1340 = .ok (.istore 6, 2) := dgq (p := 7) daL_law_1333 dbL_law_1333.2.2.2.2.2.1
theorem dL_law_1342 : decode cL_law 1342 = .ok (.aload_n 2, 1) := dgq (p := 9) daL_law_1333 dbL_law_1333.2.2.2.2.2.2.1
theorem dL_law_1343 : decode cL_law 1343 = .ok (.aload_n 0, 1) := dgq (p := 10) daL_law_1333 dbL_law_1333.2.2.2.2.2.2.2.1
theorem dL_law_1344 : decode cL_law 1344 = .ok (.iload 5, 2) := dgq (p := 11) daL_law_1333 dbL_law_1333.2.2.2.2.2.2.2.2.1
theorem dL_law_1346 : decode cL_law 1346 = .ok (.iconst 1, 1) := dgq (p := 13) daL_law_1333 dbL_law_1333.2.2.2.2.2.2.2.2.2
def dsL_law_1347 : ByteArray := ⟨#[96, 46, 42, 21, 5, 5, 96, 46, 42, 21, 5, 6]⟩
theorem daL_law_1347 : agB cL_law dsL_law_1347 1347 := agB_of (n := 12) (by decide +kernel)
theorem dbL_law_1347 : (decode dsL_law_1347 0 = .ok (.iadd, 1) ∧ okop dsL_law_1347 0 = true) ∧ (decode dsL_law_1347 1 = .ok (.iaload, 1) ∧ okop dsL_law_1347 1 = true) ∧ (decode dsL_law_1347 2 = .ok (.aload_n 0, 1) ∧ okop dsL_law_1347 2 = true) ∧ (decode dsL_law_1347 3 = .ok (.iload 5, 2) ∧ okop dsL_law_1347 3 = true) ∧ (decode dsL_law_1347 5 = .ok (.iconst 2, 1) ∧ okop dsL_law_1347 5 = true) ∧ (decode dsL_law_1347 6 = .ok (.iadd, 1) ∧ okop dsL_law_1347 6 = true) ∧ (decode dsL_law_1347 7 = .ok (.iaload, 1) ∧ okop dsL_law_1347 7 = true) ∧ (decode dsL_law_1347 8 = .ok (.aload_n 0, 1) ∧ okop dsL_law_1347 8 = true) ∧ (decode dsL_law_1347 9 = .ok (.iload 5, 2) ∧ okop dsL_law_1347 9 = true) ∧ (decode dsL_law_1347 11 = .ok (.iconst 3, 1) ∧ okop dsL_law_1347 11 = true) := by decide +kernel
theorem dL_law_1347 : decode cL_law 1347 = .ok (.iadd, 1) := dgq (p := 0) daL_law_1347 dbL_law_1347.1
theorem dL_law_1348 : decode cL_law 1348 = .ok (.iaload, 1) := dgq (p := 1) daL_law_1347 dbL_law_1347.2.1
theorem dL_law_1349 : decode cL_law 1349 = .ok (.aload_n 0, 1) := dgq (p := 2) daL_law_1347 dbL_law_1347.2.2.1
theorem dL_law_1350 : decode cL_law 1350 = .ok (.iload 5, 2) := dgq (p := 3) daL_law_1347 dbL_law_1347.2.2.2.1
theorem dL_law_1352 : decode cL_law 1352 = .ok (.iconst 2, 1) := dgq (p := 5) daL_law_1347 dbL_law_1347.2.2.2.2.1
theorem dL_law_1353 : decode cL_law 1353 = .ok (.iadd, 1) := dgq (p := 6) daL_law_1347 dbL_law_1347.2.2.2.2.2.1
theorem dL_law_1354 : decode cL_law 1354 = .ok (.iaload, 1) := dgq (p := 7) daL_law_1347 dbL_law_1347.2.2.2.2.2.2.1
theorem dL_law_1355 : decode cL_law 1355 = .ok (.aload_n 0, 1) := dgq (p := 8) daL_law_1347 dbL_law_1347.2.2.2.2.2.2.2.1
theorem dL_law_1356 : decode cL_law 1356 = .ok (.iload 5, 2) := dgq (p := 9) daL_law_1347 dbL_law_1347.2.2.2.2.2.2.2.2.1
theorem dL_law_1358 : decode cL_law 1358 = .ok (.iconst 3, 1) := dgq (p := 11) daL_law_1347 dbL_law_1347.2.2.2.2.2.2.2.2.2
def dsL_law_1359 : ByteArray := ⟨#[96, 46, 42, 21, 5, 7, 96, 46, 182, 1, 47, 54, 7, 167, 6, 23]⟩
theorem daL_law_1359 : agB cL_law dsL_law_1359 1359 := agB_of (n := 16) (by decide +kernel)
theorem dbL_law_1359 : (decode dsL_law_1359 0 = .ok (.iadd, 1) ∧ okop dsL_law_1359 0 = true) ∧ (decode dsL_law_1359 1 = .ok (.iaload, 1) ∧ okop dsL_law_1359 1 = true) ∧ (decode dsL_law_1359 2 = .ok (.aload_n 0, 1) ∧ okop dsL_law_1359 2 = true) ∧ (decode dsL_law_1359 3 = .ok (.iload 5, 2) ∧ okop dsL_law_1359 3 = true) ∧ (decode dsL_law_1359 5 = .ok (.iconst 4, 1) ∧ okop dsL_law_1359 5 = true) ∧ (decode dsL_law_1359 6 = .ok (.iadd, 1) ∧ okop dsL_law_1359 6 = true) ∧ (decode dsL_law_1359 7 = .ok (.iaload, 1) ∧ okop dsL_law_1359 7 = true) ∧ (decode dsL_law_1359 8 = .ok (.invokevirtual 303, 3) ∧ okop dsL_law_1359 8 = true) ∧ (decode dsL_law_1359 11 = .ok (.istore 7, 2) ∧ okop dsL_law_1359 11 = true) ∧ (decode dsL_law_1359 13 = .ok (.goto 1559, 3) ∧ okop dsL_law_1359 13 = true) := by decide +kernel
theorem dL_law_1359 : decode cL_law 1359 = .ok (.iadd, 1) := dgq (p := 0) daL_law_1359 dbL_law_1359.1
theorem dL_law_1360 : decode cL_law 1360 = .ok (.iaload, 1) := dgq (p := 1) daL_law_1359 dbL_law_1359.2.1
theorem dL_law_1361 : decode cL_law 1361 = .ok (.aload_n 0, 1) := dgq (p := 2) daL_law_1359 dbL_law_1359.2.2.1
theorem dL_law_1362 : decode cL_law 1362 = .ok (.iload 5, 2) := dgq (p := 3) daL_law_1359 dbL_law_1359.2.2.2.1
theorem dL_law_1364 : decode cL_law 1364 = .ok (.iconst 4, 1) := dgq (p := 5) daL_law_1359 dbL_law_1359.2.2.2.2.1
theorem dL_law_1365 : decode cL_law 1365 = .ok (.iadd, 1) := dgq (p := 6) daL_law_1359 dbL_law_1359.2.2.2.2.2.1
theorem dL_law_1366 : decode cL_law 1366 = .ok (.iaload, 1) := dgq (p := 7) daL_law_1359 dbL_law_1359.2.2.2.2.2.2.1
theorem dL_law_1367 : decode cL_law 1367 = .ok (.invokevirtual 303, 3) := dgq (p := 8) daL_law_1359 dbL_law_1359.2.2.2.2.2.2.2.1
theorem dL_law_1370 : decode cL_law 1370 = .ok (.istore 7, 2) := dgq (p := 11) daL_law_1359 dbL_law_1359.2.2.2.2.2.2.2.2.1
theorem dL_law_1372 : decode cL_law 1372 = .ok (.goto 1559, 3) := dgq (p := 13) daL_law_1359 dbL_law_1359.2.2.2.2.2.2.2.2.2
def dsL_law_1375 : ByteArray := ⟨#[43, 42, 21, 5, 4, 96, 46, 42, 21, 5, 5, 96]⟩
theorem daL_law_1375 : agB cL_law dsL_law_1375 1375 := agB_of (n := 12) (by decide +kernel)
theorem dbL_law_1375 : (decode dsL_law_1375 0 = .ok (.aload_n 1, 1) ∧ okop dsL_law_1375 0 = true) ∧ (decode dsL_law_1375 1 = .ok (.aload_n 0, 1) ∧ okop dsL_law_1375 1 = true) ∧ (decode dsL_law_1375 2 = .ok (.iload 5, 2) ∧ okop dsL_law_1375 2 = true) ∧ (decode dsL_law_1375 4 = .ok (.iconst 1, 1) ∧ okop dsL_law_1375 4 = true) ∧ (decode dsL_law_1375 5 = .ok (.iadd, 1) ∧ okop dsL_law_1375 5 = true) ∧ (decode dsL_law_1375 6 = .ok (.iaload, 1) ∧ okop dsL_law_1375 6 = true) ∧ (decode dsL_law_1375 7 = .ok (.aload_n 0, 1) ∧ okop dsL_law_1375 7 = true) ∧ (decode dsL_law_1375 8 = .ok (.iload 5, 2) ∧ okop dsL_law_1375 8 = true) ∧ (decode dsL_law_1375 10 = .ok (.iconst 2, 1) ∧ okop dsL_law_1375 10 = true) ∧ (decode dsL_law_1375 11 = .ok (.iadd, 1) ∧ okop dsL_law_1375 11 = true) := by decide +kernel
theorem dL_law_1375 : decode cL_law 1375 = .ok (.aload_n 1, 1) := dgq (p := 0) daL_law_1375 dbL_law_1375.1
theorem dL_law_1376 : decode cL_law 1376 = .ok (.aload_n 0, 1) := dgq (p := 1) daL_law_1375 dbL_law_1375.2.1
theorem dL_law_1377 : decode cL_law 1377 = .ok (.iload 5, 2) := dgq (p := 2) daL_law_1375 dbL_law_1375.2.2.1
theorem dL_law_1379 : decode cL_law 1379 = .ok (.iconst 1, 1) := dgq (p := 4) daL_law_1375 dbL_law_1375.2.2.2.1
theorem dL_law_1380 : decode cL_law 1380 = .ok (.iadd, 1) := dgq (p := 5) daL_law_1375 dbL_law_1375.2.2.2.2.1
theorem dL_law_1381 : decode cL_law 1381 = .ok (.iaload, 1) := dgq (p := 6) daL_law_1375 dbL_law_1375.2.2.2.2.2.1
theorem dL_law_1382 : decode cL_law 1382 = .ok (.aload_n 0, 1) := dgq (p := 7) daL_law_1375 dbL_law_1375.2.2.2.2.2.2.1
theorem dL_law_1383 : decode cL_law 1383 = .ok (.iload 5, 2) := dgq (p := 8) daL_law_1375 dbL_law_1375.2.2.2.2.2.2.2.1
theorem dL_law_1385 : decode cL_law 1385 = .ok (.iconst 2, 1) := dgq (p := 10) daL_law_1375 dbL_law_1375.2.2.2.2.2.2.2.2.1
theorem dL_law_1386 : decode cL_law 1386 = .ok (.iadd, 1) := dgq (p := 11) daL_law_1375 dbL_law_1375.2.2.2.2.2.2.2.2.2
def dsL_law_1387 : ByteArray := ⟨#[46, 42, 21, 5, 6, 96, 46, 45, 184, 1, 48, 54, 6, 44]⟩
theorem daL_law_1387 : agB cL_law dsL_law_1387 1387 := agB_of (n := 14) (by decide +kernel)
theorem dbL_law_1387 : (decode dsL_law_1387 0 = .ok (.iaload, 1) ∧ okop dsL_law_1387 0 = true) ∧ (decode dsL_law_1387 1 = .ok (.aload_n 0, 1) ∧ okop dsL_law_1387 1 = true) ∧ (decode dsL_law_1387 2 = .ok (.iload 5, 2) ∧ okop dsL_law_1387 2 = true) ∧ (decode dsL_law_1387 4 = .ok (.iconst 3, 1) ∧ okop dsL_law_1387 4 = true) ∧ (decode dsL_law_1387 5 = .ok (.iadd, 1) ∧ okop dsL_law_1387 5 = true) ∧ (decode dsL_law_1387 6 = .ok (.iaload, 1) ∧ okop dsL_law_1387 6 = true) ∧ (decode dsL_law_1387 7 = .ok (.aload_n 3, 1) ∧ okop dsL_law_1387 7 = true) ∧ (decode dsL_law_1387 8 = .ok (.invokestatic 304, 3) ∧ okop dsL_law_1387 8 = true) ∧ (decode dsL_law_1387 11 = .ok (.istore 6, 2) ∧ okop dsL_law_1387 11 = true) ∧ (decode dsL_law_1387 13 = .ok (.aload_n 2, 1) ∧ okop dsL_law_1387 13 = true) := by decide +kernel
theorem dL_law_1387 : decode cL_law 1387 = .ok (.iaload, 1) := dgq (p := 0) daL_law_1387 dbL_law_1387.1
theorem dL_law_1388 : decode cL_law 1388 = .ok (.aload_n 0, 1) := dgq (p := 1) daL_law_1387 dbL_law_1387.2.1
theorem dL_law_1389 : decode cL_law 1389 = .ok (.iload 5, 2) := dgq (p := 2) daL_law_1387 dbL_law_1387.2.2.1
theorem dL_law_1391 : decode cL_law 1391 = .ok (.iconst 3, 1) := dgq (p := 4) daL_law_1387 dbL_law_1387.2.2.2.1
theorem dL_law_1392 : decode cL_law 1392 = .ok (.iadd, 1) := dgq (p := 5) daL_law_1387 dbL_law_1387.2.2.2.2.1
theorem dL_law_1393 : decode cL_law 1393 = .ok (.iaload, 1) := dgq (p := 6) daL_law_1387 dbL_law_1387.2.2.2.2.2.1
theorem dL_law_1394 : decode cL_law 1394 = .ok (.aload_n 3, 1) := dgq (p := 7) daL_law_1387 dbL_law_1387.2.2.2.2.2.2.1
theorem dL_law_1395 : decode cL_law 1395 = .ok (.invokestatic 304, 3) := dgq (p := 8) daL_law_1387 dbL_law_1387.2.2.2.2.2.2.2.1
theorem dL_law_1398 : decode cL_law 1398 = .ok (.istore 6, 2) := dgq (p := 11) daL_law_1387 dbL_law_1387.2.2.2.2.2.2.2.2.1
theorem dL_law_1400 : decode cL_law 1400 = .ok (.aload_n 2, 1) := dgq (p := 13) daL_law_1387 dbL_law_1387.2.2.2.2.2.2.2.2.2
def dsL_law_1401 : ByteArray := ⟨#[42, 21, 5, 4, 96, 46, 42, 21, 5, 5, 96, 46]⟩
theorem daL_law_1401 : agB cL_law dsL_law_1401 1401 := agB_of (n := 12) (by decide +kernel)
theorem dbL_law_1401 : (decode dsL_law_1401 0 = .ok (.aload_n 0, 1) ∧ okop dsL_law_1401 0 = true) ∧ (decode dsL_law_1401 1 = .ok (.iload 5, 2) ∧ okop dsL_law_1401 1 = true) ∧ (decode dsL_law_1401 3 = .ok (.iconst 1, 1) ∧ okop dsL_law_1401 3 = true) ∧ (decode dsL_law_1401 4 = .ok (.iadd, 1) ∧ okop dsL_law_1401 4 = true) ∧ (decode dsL_law_1401 5 = .ok (.iaload, 1) ∧ okop dsL_law_1401 5 = true) ∧ (decode dsL_law_1401 6 = .ok (.aload_n 0, 1) ∧ okop dsL_law_1401 6 = true) ∧ (decode dsL_law_1401 7 = .ok (.iload 5, 2) ∧ okop dsL_law_1401 7 = true) ∧ (decode dsL_law_1401 9 = .ok (.iconst 2, 1) ∧ okop dsL_law_1401 9 = true) ∧ (decode dsL_law_1401 10 = .ok (.iadd, 1) ∧ okop dsL_law_1401 10 = true) ∧ (decode dsL_law_1401 11 = .ok (.iaload, 1) ∧ okop dsL_law_1401 11 = true) := by decide +kernel
theorem dL_law_1401 : decode cL_law 1401 = .ok (.aload_n 0, 1) := dgq (p := 0) daL_law_1401 dbL_law_1401.1
theorem dL_law_1402 : decode cL_law 1402 = .ok (.iload 5, 2) := dgq (p := 1) daL_law_1401 dbL_law_1401.2.1
theorem dL_law_1404 : decode cL_law 1404 = .ok (.iconst 1, 1) := dgq (p := 3) daL_law_1401 dbL_law_1401.2.2.1
theorem dL_law_1405 : decode cL_law 1405 = .ok (.iadd, 1) := dgq (p := 4) daL_law_1401 dbL_law_1401.2.2.2.1
theorem dL_law_1406 : decode cL_law 1406 = .ok (.iaload, 1) := dgq (p := 5) daL_law_1401 dbL_law_1401.2.2.2.2.1
theorem dL_law_1407 : decode cL_law 1407 = .ok (.aload_n 0, 1) := dgq (p := 6) daL_law_1401 dbL_law_1401.2.2.2.2.2.1
theorem dL_law_1408 : decode cL_law 1408 = .ok (.iload 5, 2) := dgq (p := 7) daL_law_1401 dbL_law_1401.2.2.2.2.2.2.1
theorem dL_law_1410 : decode cL_law 1410 = .ok (.iconst 2, 1) := dgq (p := 9) daL_law_1401 dbL_law_1401.2.2.2.2.2.2.2.1
theorem dL_law_1411 : decode cL_law 1411 = .ok (.iadd, 1) := dgq (p := 10) daL_law_1401 dbL_law_1401.2.2.2.2.2.2.2.2.1
theorem dL_law_1412 : decode cL_law 1412 = .ok (.iaload, 1) := dgq (p := 11) daL_law_1401 dbL_law_1401.2.2.2.2.2.2.2.2.2
def dsL_law_1413 : ByteArray := ⟨#[42, 21, 5, 6, 96, 46, 182, 1, 50, 54, 7, 167, 5, 227, 43, 42]⟩
theorem daL_law_1413 : agB cL_law dsL_law_1413 1413 := agB_of (n := 16) (by decide +kernel)
theorem dbL_law_1413 : (decode dsL_law_1413 0 = .ok (.aload_n 0, 1) ∧ okop dsL_law_1413 0 = true) ∧ (decode dsL_law_1413 1 = .ok (.iload 5, 2) ∧ okop dsL_law_1413 1 = true) ∧ (decode dsL_law_1413 3 = .ok (.iconst 3, 1) ∧ okop dsL_law_1413 3 = true) ∧ (decode dsL_law_1413 4 = .ok (.iadd, 1) ∧ okop dsL_law_1413 4 = true) ∧ (decode dsL_law_1413 5 = .ok (.iaload, 1) ∧ okop dsL_law_1413 5 = true) ∧ (decode dsL_law_1413 6 = .ok (.invokevirtual 306, 3) ∧ okop dsL_law_1413 6 = true) ∧ (decode dsL_law_1413 9 = .ok (.istore 7, 2) ∧ okop dsL_law_1413 9 = true) ∧ (decode dsL_law_1413 11 = .ok (.goto 1507, 3) ∧ okop dsL_law_1413 11 = true) ∧ (decode dsL_law_1413 14 = .ok (.aload_n 1, 1) ∧ okop dsL_law_1413 14 = true) ∧ (decode dsL_law_1413 15 = .ok (.aload_n 0, 1) ∧ okop dsL_law_1413 15 = true) := by decide +kernel
theorem dL_law_1413 : decode cL_law 1413 = .ok (.aload_n 0, 1) := dgq (p := 0) daL_law_1413 dbL_law_1413.1
theorem dL_law_1414 : decode cL_law 1414 = .ok (.iload 5, 2) := dgq (p := 1) daL_law_1413 dbL_law_1413.2.1
theorem dL_law_1416 : decode cL_law 1416 = .ok (.iconst 3, 1) := dgq (p := 3) daL_law_1413 dbL_law_1413.2.2.1
theorem dL_law_1417 : decode cL_law 1417 = .ok (.iadd, 1) := dgq (p := 4) daL_law_1413 dbL_law_1413.2.2.2.1
theorem dL_law_1418 : decode cL_law 1418 = .ok (.iaload, 1) := dgq (p := 5) daL_law_1413 dbL_law_1413.2.2.2.2.1
theorem dL_law_1419 : decode cL_law 1419 = .ok (.invokevirtual 306, 3) := dgq (p := 6) daL_law_1413 dbL_law_1413.2.2.2.2.2.1
theorem dL_law_1422 : decode cL_law 1422 = .ok (.istore 7, 2) := dgq (p := 9) daL_law_1413 dbL_law_1413.2.2.2.2.2.2.1
theorem dL_law_1424 : decode cL_law 1424 = .ok (.goto 1507, 3) := dgq (p := 11) daL_law_1413 dbL_law_1413.2.2.2.2.2.2.2.1
theorem dL_law_1427 : decode cL_law 1427 = .ok (.aload_n 1, 1) := dgq (p := 14) daL_law_1413 dbL_law_1413.2.2.2.2.2.2.2.2.1
theorem dL_law_1428 : decode cL_law 1428 = .ok (.aload_n 0, 1) := dgq (p := 15) daL_law_1413 dbL_law_1413.2.2.2.2.2.2.2.2.2
def dsL_law_1429 : ByteArray := ⟨#[21, 5, 4, 96, 46, 42, 21, 5, 5, 96, 46, 42]⟩
theorem daL_law_1429 : agB cL_law dsL_law_1429 1429 := agB_of (n := 12) (by decide +kernel)
theorem dbL_law_1429 : (decode dsL_law_1429 0 = .ok (.iload 5, 2) ∧ okop dsL_law_1429 0 = true) ∧ (decode dsL_law_1429 2 = .ok (.iconst 1, 1) ∧ okop dsL_law_1429 2 = true) ∧ (decode dsL_law_1429 3 = .ok (.iadd, 1) ∧ okop dsL_law_1429 3 = true) ∧ (decode dsL_law_1429 4 = .ok (.iaload, 1) ∧ okop dsL_law_1429 4 = true) ∧ (decode dsL_law_1429 5 = .ok (.aload_n 0, 1) ∧ okop dsL_law_1429 5 = true) ∧ (decode dsL_law_1429 6 = .ok (.iload 5, 2) ∧ okop dsL_law_1429 6 = true) ∧ (decode dsL_law_1429 8 = .ok (.iconst 2, 1) ∧ okop dsL_law_1429 8 = true) ∧ (decode dsL_law_1429 9 = .ok (.iadd, 1) ∧ okop dsL_law_1429 9 = true) ∧ (decode dsL_law_1429 10 = .ok (.iaload, 1) ∧ okop dsL_law_1429 10 = true) ∧ (decode dsL_law_1429 11 = .ok (.aload_n 0, 1) ∧ okop dsL_law_1429 11 = true) := by decide +kernel
theorem dL_law_1429 : decode cL_law 1429 = .ok (.iload 5, 2) := dgq (p := 0) daL_law_1429 dbL_law_1429.1
theorem dL_law_1431 : decode cL_law 1431 = .ok (.iconst 1, 1) := dgq (p := 2) daL_law_1429 dbL_law_1429.2.1
theorem dL_law_1432 : decode cL_law 1432 = .ok (.iadd, 1) := dgq (p := 3) daL_law_1429 dbL_law_1429.2.2.1
theorem dL_law_1433 : decode cL_law 1433 = .ok (.iaload, 1) := dgq (p := 4) daL_law_1429 dbL_law_1429.2.2.2.1
theorem dL_law_1434 : decode cL_law 1434 = .ok (.aload_n 0, 1) := dgq (p := 5) daL_law_1429 dbL_law_1429.2.2.2.2.1
theorem dL_law_1435 : decode cL_law 1435 = .ok (.iload 5, 2) := dgq (p := 6) daL_law_1429 dbL_law_1429.2.2.2.2.2.1
theorem dL_law_1437 : decode cL_law 1437 = .ok (.iconst 2, 1) := dgq (p := 8) daL_law_1429 dbL_law_1429.2.2.2.2.2.2.1
theorem dL_law_1438 : decode cL_law 1438 = .ok (.iadd, 1) := dgq (p := 9) daL_law_1429 dbL_law_1429.2.2.2.2.2.2.2.1
theorem dL_law_1439 : decode cL_law 1439 = .ok (.iaload, 1) := dgq (p := 10) daL_law_1429 dbL_law_1429.2.2.2.2.2.2.2.2.1
theorem dL_law_1440 : decode cL_law 1440 = .ok (.aload_n 0, 1) := dgq (p := 11) daL_law_1429 dbL_law_1429.2.2.2.2.2.2.2.2.2
def dsL_law_1441 : ByteArray := ⟨#[21, 5, 6, 96, 46, 45, 184, 1, 51, 54, 6, 44, 42, 21, 5]⟩
theorem daL_law_1441 : agB cL_law dsL_law_1441 1441 := agB_of (n := 15) (by decide +kernel)
theorem dbL_law_1441 : (decode dsL_law_1441 0 = .ok (.iload 5, 2) ∧ okop dsL_law_1441 0 = true) ∧ (decode dsL_law_1441 2 = .ok (.iconst 3, 1) ∧ okop dsL_law_1441 2 = true) ∧ (decode dsL_law_1441 3 = .ok (.iadd, 1) ∧ okop dsL_law_1441 3 = true) ∧ (decode dsL_law_1441 4 = .ok (.iaload, 1) ∧ okop dsL_law_1441 4 = true) ∧ (decode dsL_law_1441 5 = .ok (.aload_n 3, 1) ∧ okop dsL_law_1441 5 = true) ∧ (decode dsL_law_1441 6 = .ok (.invokestatic 307, 3) ∧ okop dsL_law_1441 6 = true) ∧ (decode dsL_law_1441 9 = .ok (.istore 6, 2) ∧ okop dsL_law_1441 9 = true) ∧ (decode dsL_law_1441 11 = .ok (.aload_n 2, 1) ∧ okop dsL_law_1441 11 = true) ∧ (decode dsL_law_1441 12 = .ok (.aload_n 0, 1) ∧ okop dsL_law_1441 12 = true) ∧ (decode dsL_law_1441 13 = .ok (.iload 5, 2) ∧ okop dsL_law_1441 13 = true) := by decide +kernel
theorem dL_law_1441 : decode cL_law 1441 = .ok (.iload 5, 2) := dgq (p := 0) daL_law_1441 dbL_law_1441.1
theorem dL_law_1443 : decode cL_law 1443 = .ok (.iconst 3, 1) := dgq (p := 2) daL_law_1441 dbL_law_1441.2.1
theorem dL_law_1444 : decode cL_law 1444 = .ok (.iadd, 1) := dgq (p := 3) daL_law_1441 dbL_law_1441.2.2.1
theorem dL_law_1445 : decode cL_law 1445 = .ok (.iaload, 1) := dgq (p := 4) daL_law_1441 dbL_law_1441.2.2.2.1
theorem dL_law_1446 : decode cL_law 1446 = .ok (.aload_n 3, 1) := dgq (p := 5) daL_law_1441 dbL_law_1441.2.2.2.2.1
theorem dL_law_1447 : decode cL_law 1447 = .ok (.invokestatic 307, 3) := dgq (p := 6) daL_law_1441 dbL_law_1441.2.2.2.2.2.1
theorem dL_law_1450 : decode cL_law 1450 = .ok (.istore 6, 2) := dgq (p := 9) daL_law_1441 dbL_law_1441.2.2.2.2.2.2.1
theorem dL_law_1452 : decode cL_law 1452 = .ok (.aload_n 2, 1) := dgq (p := 11) daL_law_1441 dbL_law_1441.2.2.2.2.2.2.2.1
theorem dL_law_1453 : decode cL_law 1453 = .ok (.aload_n 0, 1) := dgq (p := 12) daL_law_1441 dbL_law_1441.2.2.2.2.2.2.2.2.1
theorem dL_law_1454 : decode cL_law 1454 = .ok (.iload 5, 2) := dgq (p := 13) daL_law_1441 dbL_law_1441.2.2.2.2.2.2.2.2.2
def dsL_law_1456 : ByteArray := ⟨#[4, 96, 46, 42, 21, 5, 5, 96, 46, 42, 21, 5]⟩
theorem daL_law_1456 : agB cL_law dsL_law_1456 1456 := agB_of (n := 12) (by decide +kernel)
theorem dbL_law_1456 : (decode dsL_law_1456 0 = .ok (.iconst 1, 1) ∧ okop dsL_law_1456 0 = true) ∧ (decode dsL_law_1456 1 = .ok (.iadd, 1) ∧ okop dsL_law_1456 1 = true) ∧ (decode dsL_law_1456 2 = .ok (.iaload, 1) ∧ okop dsL_law_1456 2 = true) ∧ (decode dsL_law_1456 3 = .ok (.aload_n 0, 1) ∧ okop dsL_law_1456 3 = true) ∧ (decode dsL_law_1456 4 = .ok (.iload 5, 2) ∧ okop dsL_law_1456 4 = true) ∧ (decode dsL_law_1456 6 = .ok (.iconst 2, 1) ∧ okop dsL_law_1456 6 = true) ∧ (decode dsL_law_1456 7 = .ok (.iadd, 1) ∧ okop dsL_law_1456 7 = true) ∧ (decode dsL_law_1456 8 = .ok (.iaload, 1) ∧ okop dsL_law_1456 8 = true) ∧ (decode dsL_law_1456 9 = .ok (.aload_n 0, 1) ∧ okop dsL_law_1456 9 = true) ∧ (decode dsL_law_1456 10 = .ok (.iload 5, 2) ∧ okop dsL_law_1456 10 = true) := by decide +kernel
theorem dL_law_1456 : decode cL_law 1456 = .ok (.iconst 1, 1) := dgq (p := 0) daL_law_1456 dbL_law_1456.1
theorem dL_law_1457 : decode cL_law 1457 = .ok (.iadd, 1) := dgq (p := 1) daL_law_1456 dbL_law_1456.2.1
theorem dL_law_1458 : decode cL_law 1458 = .ok (.iaload, 1) := dgq (p := 2) daL_law_1456 dbL_law_1456.2.2.1
theorem dL_law_1459 : decode cL_law 1459 = .ok (.aload_n 0, 1) := dgq (p := 3) daL_law_1456 dbL_law_1456.2.2.2.1
theorem dL_law_1460 : decode cL_law 1460 = .ok (.iload 5, 2) := dgq (p := 4) daL_law_1456 dbL_law_1456.2.2.2.2.1
theorem dL_law_1462 : decode cL_law 1462 = .ok (.iconst 2, 1) := dgq (p := 6) daL_law_1456 dbL_law_1456.2.2.2.2.2.1
theorem dL_law_1463 : decode cL_law 1463 = .ok (.iadd, 1) := dgq (p := 7) daL_law_1456 dbL_law_1456.2.2.2.2.2.2.1
theorem dL_law_1464 : decode cL_law 1464 = .ok (.iaload, 1) := dgq (p := 8) daL_law_1456 dbL_law_1456.2.2.2.2.2.2.2.1
theorem dL_law_1465 : decode cL_law 1465 = .ok (.aload_n 0, 1) := dgq (p := 9) daL_law_1456 dbL_law_1456.2.2.2.2.2.2.2.2.1
theorem dL_law_1466 : decode cL_law 1466 = .ok (.iload 5, 2) := dgq (p := 10) daL_law_1456 dbL_law_1456.2.2.2.2.2.2.2.2.2
def dsL_law_1468 : ByteArray := ⟨#[6, 96, 46, 182, 1, 53, 54, 7, 167, 5, 175, 43, 42, 21, 5, 4]⟩
theorem daL_law_1468 : agB cL_law dsL_law_1468 1468 := agB_of (n := 16) (by decide +kernel)
theorem dbL_law_1468 : (decode dsL_law_1468 0 = .ok (.iconst 3, 1) ∧ okop dsL_law_1468 0 = true) ∧ (decode dsL_law_1468 1 = .ok (.iadd, 1) ∧ okop dsL_law_1468 1 = true) ∧ (decode dsL_law_1468 2 = .ok (.iaload, 1) ∧ okop dsL_law_1468 2 = true) ∧ (decode dsL_law_1468 3 = .ok (.invokevirtual 309, 3) ∧ okop dsL_law_1468 3 = true) ∧ (decode dsL_law_1468 6 = .ok (.istore 7, 2) ∧ okop dsL_law_1468 6 = true) ∧ (decode dsL_law_1468 8 = .ok (.goto 1455, 3) ∧ okop dsL_law_1468 8 = true) ∧ (decode dsL_law_1468 11 = .ok (.aload_n 1, 1) ∧ okop dsL_law_1468 11 = true) ∧ (decode dsL_law_1468 12 = .ok (.aload_n 0, 1) ∧ okop dsL_law_1468 12 = true) ∧ (decode dsL_law_1468 13 = .ok (.iload 5, 2) ∧ okop dsL_law_1468 13 = true) ∧ (decode dsL_law_1468 15 = .ok (.iconst 1, 1) ∧ okop dsL_law_1468 15 = true) := by decide +kernel
theorem dL_law_1468 : decode cL_law 1468 = .ok (.iconst 3, 1) := dgq (p := 0) daL_law_1468 dbL_law_1468.1
theorem dL_law_1469 : decode cL_law 1469 = .ok (.iadd, 1) := dgq (p := 1) daL_law_1468 dbL_law_1468.2.1
theorem dL_law_1470 : decode cL_law 1470 = .ok (.iaload, 1) := dgq (p := 2) daL_law_1468 dbL_law_1468.2.2.1
theorem dL_law_1471 : decode cL_law 1471 = .ok (.invokevirtual 309, 3) := dgq (p := 3) daL_law_1468 dbL_law_1468.2.2.2.1
theorem dL_law_1474 : decode cL_law 1474 = .ok (.istore 7, 2) := dgq (p := 6) daL_law_1468 dbL_law_1468.2.2.2.2.1
theorem dL_law_1476 : decode cL_law 1476 = .ok (.goto 1455, 3) := dgq (p := 8) daL_law_1468 dbL_law_1468.2.2.2.2.2.1
theorem dL_law_1479 : decode cL_law 1479 = .ok (.aload_n 1, 1) := dgq (p := 11) daL_law_1468 dbL_law_1468.2.2.2.2.2.2.1
theorem dL_law_1480 : decode cL_law 1480 = .ok (.aload_n 0, 1) := dgq (p := 12) daL_law_1468 dbL_law_1468.2.2.2.2.2.2.2.1
theorem dL_law_1481 : decode cL_law 1481 = .ok (.iload 5, 2) := dgq (p := 13) daL_law_1468 dbL_law_1468.2.2.2.2.2.2.2.2.1
theorem dL_law_1483 : decode cL_law 1483 = .ok (.iconst 1, 1) := dgq (p := 15) daL_law_1468 dbL_law_1468.2.2.2.2.2.2.2.2.2
def dsL_law_1484 : ByteArray := ⟨#[96, 46, 42, 21, 5, 5, 96, 46, 45, 184, 1, 54, 54, 6]⟩
theorem daL_law_1484 : agB cL_law dsL_law_1484 1484 := agB_of (n := 14) (by decide +kernel)
theorem dbL_law_1484 : (decode dsL_law_1484 0 = .ok (.iadd, 1) ∧ okop dsL_law_1484 0 = true) ∧ (decode dsL_law_1484 1 = .ok (.iaload, 1) ∧ okop dsL_law_1484 1 = true) ∧ (decode dsL_law_1484 2 = .ok (.aload_n 0, 1) ∧ okop dsL_law_1484 2 = true) ∧ (decode dsL_law_1484 3 = .ok (.iload 5, 2) ∧ okop dsL_law_1484 3 = true) ∧ (decode dsL_law_1484 5 = .ok (.iconst 2, 1) ∧ okop dsL_law_1484 5 = true) ∧ (decode dsL_law_1484 6 = .ok (.iadd, 1) ∧ okop dsL_law_1484 6 = true) ∧ (decode dsL_law_1484 7 = .ok (.iaload, 1) ∧ okop dsL_law_1484 7 = true) ∧ (decode dsL_law_1484 8 = .ok (.aload_n 3, 1) ∧ okop dsL_law_1484 8 = true) ∧ (decode dsL_law_1484 9 = .ok (.invokestatic 310, 3) ∧ okop dsL_law_1484 9 = true) ∧ (decode dsL_law_1484 12 = .ok (.istore 6, 2) ∧ okop dsL_law_1484 12 = true) := by decide +kernel
theorem dL_law_1484 : decode cL_law 1484 = .ok (.iadd, 1) := dgq (p := 0) daL_law_1484 dbL_law_1484.1
theorem dL_law_1485 : decode cL_law 1485 = .ok (.iaload, 1) := dgq (p := 1) daL_law_1484 dbL_law_1484.2.1
theorem dL_law_1486 : decode cL_law 1486 = .ok (.aload_n 0, 1) := dgq (p := 2) daL_law_1484 dbL_law_1484.2.2.1
theorem dL_law_1487 : decode cL_law 1487 = .ok (.iload 5, 2) := dgq (p := 3) daL_law_1484 dbL_law_1484.2.2.2.1
theorem dL_law_1489 : decode cL_law 1489 = .ok (.iconst 2, 1) := dgq (p := 5) daL_law_1484 dbL_law_1484.2.2.2.2.1
theorem dL_law_1490 : decode cL_law 1490 = .ok (.iadd, 1) := dgq (p := 6) daL_law_1484 dbL_law_1484.2.2.2.2.2.1
theorem dL_law_1491 : decode cL_law 1491 = .ok (.iaload, 1) := dgq (p := 7) daL_law_1484 dbL_law_1484.2.2.2.2.2.2.1
theorem dL_law_1492 : decode cL_law 1492 = .ok (.aload_n 3, 1) := dgq (p := 8) daL_law_1484 dbL_law_1484.2.2.2.2.2.2.2.1
theorem dL_law_1493 : decode cL_law 1493 = .ok (.invokestatic 310, 3) := dgq (p := 9) daL_law_1484 dbL_law_1484.2.2.2.2.2.2.2.2.1
theorem dL_law_1496 : decode cL_law 1496 = .ok (.istore 6, 2) := dgq (p := 12) daL_law_1484 dbL_law_1484.2.2.2.2.2.2.2.2.2
def dsL_law_1498 : ByteArray := ⟨#[44, 42, 21, 5, 4, 96, 46, 42, 21, 5, 5, 96]⟩
theorem daL_law_1498 : agB cL_law dsL_law_1498 1498 := agB_of (n := 12) (by decide +kernel)
theorem dbL_law_1498 : (decode dsL_law_1498 0 = .ok (.aload_n 2, 1) ∧ okop dsL_law_1498 0 = true) ∧ (decode dsL_law_1498 1 = .ok (.aload_n 0, 1) ∧ okop dsL_law_1498 1 = true) ∧ (decode dsL_law_1498 2 = .ok (.iload 5, 2) ∧ okop dsL_law_1498 2 = true) ∧ (decode dsL_law_1498 4 = .ok (.iconst 1, 1) ∧ okop dsL_law_1498 4 = true) ∧ (decode dsL_law_1498 5 = .ok (.iadd, 1) ∧ okop dsL_law_1498 5 = true) ∧ (decode dsL_law_1498 6 = .ok (.iaload, 1) ∧ okop dsL_law_1498 6 = true) ∧ (decode dsL_law_1498 7 = .ok (.aload_n 0, 1) ∧ okop dsL_law_1498 7 = true) ∧ (decode dsL_law_1498 8 = .ok (.iload 5, 2) ∧ okop dsL_law_1498 8 = true) ∧ (decode dsL_law_1498 10 = .ok (.iconst 2, 1) ∧ okop dsL_law_1498 10 = true) ∧ (decode dsL_law_1498 11 = .ok (.iadd, 1) ∧ okop dsL_law_1498 11 = true) := by decide +kernel
theorem dL_law_1498 : decode cL_law 1498 = .ok (.aload_n 2, 1) := dgq (p := 0) daL_law_1498 dbL_law_1498.1
theorem dL_law_1499 : decode cL_law 1499 = .ok (.aload_n 0, 1) := dgq (p := 1) daL_law_1498 dbL_law_1498.2.1
theorem dL_law_1500 : decode cL_law 1500 = .ok (.iload 5, 2) := dgq (p := 2) daL_law_1498 dbL_law_1498.2.2.1
theorem dL_law_1502 : decode cL_law 1502 = .ok (.iconst 1, 1) := dgq (p := 4) daL_law_1498 dbL_law_1498.2.2.2.1
theorem dL_law_1503 : decode cL_law 1503 = .ok (.iadd, 1) := dgq (p := 5) daL_law_1498 dbL_law_1498.2.2.2.2.1
theorem dL_law_1504 : decode cL_law 1504 = .ok (.iaload, 1) := dgq (p := 6) daL_law_1498 dbL_law_1498.2.2.2.2.2.1
theorem dL_law_1505 : decode cL_law 1505 = .ok (.aload_n 0, 1) := dgq (p := 7) daL_law_1498 dbL_law_1498.2.2.2.2.2.2.1
theorem dL_law_1506 : decode cL_law 1506 = .ok (.iload 5, 2) := dgq (p := 8) daL_law_1498 dbL_law_1498.2.2.2.2.2.2.2.1
theorem dL_law_1508 : decode cL_law 1508 = .ok (.iconst 2, 1) := dgq (p := 10) daL_law_1498 dbL_law_1498.2.2.2.2.2.2.2.2.1
theorem dL_law_1509 : decode cL_law 1509 = .ok (.iadd, 1) := dgq (p := 11) daL_law_1498 dbL_law_1498.2.2.2.2.2.2.2.2.2
def dsL_law_1510 : ByteArray := ⟨#[46, 182, 1, 56, 54, 7, 167, 5, 135, 43, 42, 21, 5, 4, 96, 46]⟩
theorem daL_law_1510 : agB cL_law dsL_law_1510 1510 := agB_of (n := 16) (by decide +kernel)
theorem dbL_law_1510 : (decode dsL_law_1510 0 = .ok (.iaload, 1) ∧ okop dsL_law_1510 0 = true) ∧ (decode dsL_law_1510 1 = .ok (.invokevirtual 312, 3) ∧ okop dsL_law_1510 1 = true) ∧ (decode dsL_law_1510 4 = .ok (.istore 7, 2) ∧ okop dsL_law_1510 4 = true) ∧ (decode dsL_law_1510 6 = .ok (.goto 1415, 3) ∧ okop dsL_law_1510 6 = true) ∧ (decode dsL_law_1510 9 = .ok (.aload_n 1, 1) ∧ okop dsL_law_1510 9 = true) ∧ (decode dsL_law_1510 10 = .ok (.aload_n 0, 1) ∧ okop dsL_law_1510 10 = true) ∧ (decode dsL_law_1510 11 = .ok (.iload 5, 2) ∧ okop dsL_law_1510 11 = true) ∧ (decode dsL_law_1510 13 = .ok (.iconst 1, 1) ∧ okop dsL_law_1510 13 = true) ∧ (decode dsL_law_1510 14 = .ok (.iadd, 1) ∧ okop dsL_law_1510 14 = true) ∧ (decode dsL_law_1510 15 = .ok (.iaload, 1) ∧ okop dsL_law_1510 15 = true) := by decide +kernel
theorem dL_law_1510 : decode cL_law 1510 = .ok (.iaload, 1) := dgq (p := 0) daL_law_1510 dbL_law_1510.1
theorem dL_law_1511 : decode cL_law 1511 = .ok (.invokevirtual 312, 3) := dgq (p := 1) daL_law_1510 dbL_law_1510.2.1
theorem dL_law_1514 : decode cL_law 1514 = .ok (.istore 7, 2) := dgq (p := 4) daL_law_1510 dbL_law_1510.2.2.1
theorem dL_law_1516 : decode cL_law 1516 = .ok (.goto 1415, 3) := dgq (p := 6) daL_law_1510 dbL_law_1510.2.2.2.1
theorem dL_law_1519 : decode cL_law 1519 = .ok (.aload_n 1, 1) := dgq (p := 9) daL_law_1510 dbL_law_1510.2.2.2.2.1
theorem dL_law_1520 : decode cL_law 1520 = .ok (.aload_n 0, 1) := dgq (p := 10) daL_law_1510 dbL_law_1510.2.2.2.2.2.1
theorem dL_law_1521 : decode cL_law 1521 = .ok (.iload 5, 2) := dgq (p := 11) daL_law_1510 dbL_law_1510.2.2.2.2.2.2.1
theorem dL_law_1523 : decode cL_law 1523 = .ok (.iconst 1, 1) := dgq (p := 13) daL_law_1510 dbL_law_1510.2.2.2.2.2.2.2.1
theorem dL_law_1524 : decode cL_law 1524 = .ok (.iadd, 1) := dgq (p := 14) daL_law_1510 dbL_law_1510.2.2.2.2.2.2.2.2.1
theorem dL_law_1525 : decode cL_law 1525 = .ok (.iaload, 1) := dgq (p := 15) daL_law_1510 dbL_law_1510.2.2.2.2.2.2.2.2.2
def dsL_law_1526 : ByteArray := ⟨#[45, 184, 1, 57, 54, 6, 44, 42, 21, 5, 4, 96, 46, 182, 1, 59]⟩
theorem daL_law_1526 : agB cL_law dsL_law_1526 1526 := agB_of (n := 16) (by decide +kernel)
theorem dbL_law_1526 : (decode dsL_law_1526 0 = .ok (.aload_n 3, 1) ∧ okop dsL_law_1526 0 = true) ∧ (decode dsL_law_1526 1 = .ok (.invokestatic 313, 3) ∧ okop dsL_law_1526 1 = true) ∧ (decode dsL_law_1526 4 = .ok (.istore 6, 2) ∧ okop dsL_law_1526 4 = true) ∧ (decode dsL_law_1526 6 = .ok (.aload_n 2, 1) ∧ okop dsL_law_1526 6 = true) ∧ (decode dsL_law_1526 7 = .ok (.aload_n 0, 1) ∧ okop dsL_law_1526 7 = true) ∧ (decode dsL_law_1526 8 = .ok (.iload 5, 2) ∧ okop dsL_law_1526 8 = true) ∧ (decode dsL_law_1526 10 = .ok (.iconst 1, 1) ∧ okop dsL_law_1526 10 = true) ∧ (decode dsL_law_1526 11 = .ok (.iadd, 1) ∧ okop dsL_law_1526 11 = true) ∧ (decode dsL_law_1526 12 = .ok (.iaload, 1) ∧ okop dsL_law_1526 12 = true) ∧ (decode dsL_law_1526 13 = .ok (.invokevirtual 315, 3) ∧ okop dsL_law_1526 13 = true) := by decide +kernel
theorem dL_law_1526 : decode cL_law 1526 = .ok (.aload_n 3, 1) := dgq (p := 0) daL_law_1526 dbL_law_1526.1
theorem dL_law_1527 : decode cL_law 1527 = .ok (.invokestatic 313, 3) := dgq (p := 1) daL_law_1526 dbL_law_1526.2.1
theorem dL_law_1530 : decode cL_law 1530 = .ok (.istore 6, 2) := dgq (p := 4) daL_law_1526 dbL_law_1526.2.2.1
theorem dL_law_1532 : decode cL_law 1532 = .ok (.aload_n 2, 1) := dgq (p := 6) daL_law_1526 dbL_law_1526.2.2.2.1
theorem dL_law_1533 : decode cL_law 1533 = .ok (.aload_n 0, 1) := dgq (p := 7) daL_law_1526 dbL_law_1526.2.2.2.2.1
theorem dL_law_1534 : decode cL_law 1534 = .ok (.iload 5, 2) := dgq (p := 8) daL_law_1526 dbL_law_1526.2.2.2.2.2.1
theorem dL_law_1536 : decode cL_law 1536 = .ok (.iconst 1, 1) := dgq (p := 10) daL_law_1526 dbL_law_1526.2.2.2.2.2.2.1
theorem dL_law_1537 : decode cL_law 1537 = .ok (.iadd, 1) := dgq (p := 11) daL_law_1526 dbL_law_1526.2.2.2.2.2.2.2.1
theorem dL_law_1538 : decode cL_law 1538 = .ok (.iaload, 1) := dgq (p := 12) daL_law_1526 dbL_law_1526.2.2.2.2.2.2.2.2.1
theorem dL_law_1539 : decode cL_law 1539 = .ok (.invokevirtual 315, 3) := dgq (p := 13) daL_law_1526 dbL_law_1526.2.2.2.2.2.2.2.2.2
def dsL_law_1542 : ByteArray := ⟨#[54, 7, 167, 5, 107, 43, 42, 21, 5, 4, 96, 46, 42, 21, 5]⟩
theorem daL_law_1542 : agB cL_law dsL_law_1542 1542 := agB_of (n := 15) (by decide +kernel)
theorem dbL_law_1542 : (decode dsL_law_1542 0 = .ok (.istore 7, 2) ∧ okop dsL_law_1542 0 = true) ∧ (decode dsL_law_1542 2 = .ok (.goto 1387, 3) ∧ okop dsL_law_1542 2 = true) ∧ (decode dsL_law_1542 5 = .ok (.aload_n 1, 1) ∧ okop dsL_law_1542 5 = true) ∧ (decode dsL_law_1542 6 = .ok (.aload_n 0, 1) ∧ okop dsL_law_1542 6 = true) ∧ (decode dsL_law_1542 7 = .ok (.iload 5, 2) ∧ okop dsL_law_1542 7 = true) ∧ (decode dsL_law_1542 9 = .ok (.iconst 1, 1) ∧ okop dsL_law_1542 9 = true) ∧ (decode dsL_law_1542 10 = .ok (.iadd, 1) ∧ okop dsL_law_1542 10 = true) ∧ (decode dsL_law_1542 11 = .ok (.iaload, 1) ∧ okop dsL_law_1542 11 = true) ∧ (decode dsL_law_1542 12 = .ok (.aload_n 0, 1) ∧ okop dsL_law_1542 12 = true) ∧ (decode dsL_law_1542 13 = .ok (.iload 5, 2) ∧ okop dsL_law_1542 13 = true) := by decide +kernel
theorem dL_law_1542 : decode cL_law 1542 = .ok (.istore 7, 2) := dgq (p := 0) daL_law_1542 dbL_law_1542.1
theorem dL_law_1544 : decode cL_law 1544 = .ok (.goto 1387, 3) := dgq (p := 2) daL_law_1542 dbL_law_1542.2.1
theorem dL_law_1547 : decode cL_law 1547 = .ok (.aload_n 1, 1) := dgq (p := 5) daL_law_1542 dbL_law_1542.2.2.1
theorem dL_law_1548 : decode cL_law 1548 = .ok (.aload_n 0, 1) := dgq (p := 6) daL_law_1542 dbL_law_1542.2.2.2.1
theorem dL_law_1549 : decode cL_law 1549 = .ok (.iload 5, 2) := dgq (p := 7) daL_law_1542 dbL_law_1542.2.2.2.2.1
theorem dL_law_1551 : decode cL_law 1551 = .ok (.iconst 1, 1) := dgq (p := 9) daL_law_1542 dbL_law_1542.2.2.2.2.2.1
theorem dL_law_1552 : decode cL_law 1552 = .ok (.iadd, 1) := dgq (p := 10) daL_law_1542 dbL_law_1542.2.2.2.2.2.2.1
theorem dL_law_1553 : decode cL_law 1553 = .ok (.iaload, 1) := dgq (p := 11) daL_law_1542 dbL_law_1542.2.2.2.2.2.2.2.1
theorem dL_law_1554 : decode cL_law 1554 = .ok (.aload_n 0, 1) := dgq (p := 12) daL_law_1542 dbL_law_1542.2.2.2.2.2.2.2.2.1
theorem dL_law_1555 : decode cL_law 1555 = .ok (.iload 5, 2) := dgq (p := 13) daL_law_1542 dbL_law_1542.2.2.2.2.2.2.2.2.2
def dsL_law_1557 : ByteArray := ⟨#[5, 96, 46, 42, 21, 5, 6, 96, 46, 45, 184, 1, 60]⟩
theorem daL_law_1557 : agB cL_law dsL_law_1557 1557 := agB_of (n := 13) (by decide +kernel)
theorem dbL_law_1557 : (decode dsL_law_1557 0 = .ok (.iconst 2, 1) ∧ okop dsL_law_1557 0 = true) ∧ (decode dsL_law_1557 1 = .ok (.iadd, 1) ∧ okop dsL_law_1557 1 = true) ∧ (decode dsL_law_1557 2 = .ok (.iaload, 1) ∧ okop dsL_law_1557 2 = true) ∧ (decode dsL_law_1557 3 = .ok (.aload_n 0, 1) ∧ okop dsL_law_1557 3 = true) ∧ (decode dsL_law_1557 4 = .ok (.iload 5, 2) ∧ okop dsL_law_1557 4 = true) ∧ (decode dsL_law_1557 6 = .ok (.iconst 3, 1) ∧ okop dsL_law_1557 6 = true) ∧ (decode dsL_law_1557 7 = .ok (.iadd, 1) ∧ okop dsL_law_1557 7 = true) ∧ (decode dsL_law_1557 8 = .ok (.iaload, 1) ∧ okop dsL_law_1557 8 = true) ∧ (decode dsL_law_1557 9 = .ok (.aload_n 3, 1) ∧ okop dsL_law_1557 9 = true) ∧ (decode dsL_law_1557 10 = .ok (.invokestatic 316, 3) ∧ okop dsL_law_1557 10 = true) := by decide +kernel
theorem dL_law_1557 : decode cL_law 1557 = .ok (.iconst 2, 1) := dgq (p := 0) daL_law_1557 dbL_law_1557.1
theorem dL_law_1558 : decode cL_law 1558 = .ok (.iadd, 1) := dgq (p := 1) daL_law_1557 dbL_law_1557.2.1
theorem dL_law_1559 : decode cL_law 1559 = .ok (.iaload, 1) := dgq (p := 2) daL_law_1557 dbL_law_1557.2.2.1
theorem dL_law_1560 : decode cL_law 1560 = .ok (.aload_n 0, 1) := dgq (p := 3) daL_law_1557 dbL_law_1557.2.2.2.1
theorem dL_law_1561 : decode cL_law 1561 = .ok (.iload 5, 2) := dgq (p := 4) daL_law_1557 dbL_law_1557.2.2.2.2.1
theorem dL_law_1563 : decode cL_law 1563 = .ok (.iconst 3, 1) := dgq (p := 6) daL_law_1557 dbL_law_1557.2.2.2.2.2.1
theorem dL_law_1564 : decode cL_law 1564 = .ok (.iadd, 1) := dgq (p := 7) daL_law_1557 dbL_law_1557.2.2.2.2.2.2.1
theorem dL_law_1565 : decode cL_law 1565 = .ok (.iaload, 1) := dgq (p := 8) daL_law_1557 dbL_law_1557.2.2.2.2.2.2.2.1
theorem dL_law_1566 : decode cL_law 1566 = .ok (.aload_n 3, 1) := dgq (p := 9) daL_law_1557 dbL_law_1557.2.2.2.2.2.2.2.2.1
theorem dL_law_1567 : decode cL_law 1567 = .ok (.invokestatic 316, 3) := dgq (p := 10) daL_law_1557 dbL_law_1557.2.2.2.2.2.2.2.2.2
def dsL_law_1570 : ByteArray := ⟨#[54, 6, 44, 42, 21, 5, 4, 96, 46, 42, 21, 5, 5]⟩
theorem daL_law_1570 : agB cL_law dsL_law_1570 1570 := agB_of (n := 13) (by decide +kernel)
theorem dbL_law_1570 : (decode dsL_law_1570 0 = .ok (.istore 6, 2) ∧ okop dsL_law_1570 0 = true) ∧ (decode dsL_law_1570 2 = .ok (.aload_n 2, 1) ∧ okop dsL_law_1570 2 = true) ∧ (decode dsL_law_1570 3 = .ok (.aload_n 0, 1) ∧ okop dsL_law_1570 3 = true) ∧ (decode dsL_law_1570 4 = .ok (.iload 5, 2) ∧ okop dsL_law_1570 4 = true) ∧ (decode dsL_law_1570 6 = .ok (.iconst 1, 1) ∧ okop dsL_law_1570 6 = true) ∧ (decode dsL_law_1570 7 = .ok (.iadd, 1) ∧ okop dsL_law_1570 7 = true) ∧ (decode dsL_law_1570 8 = .ok (.iaload, 1) ∧ okop dsL_law_1570 8 = true) ∧ (decode dsL_law_1570 9 = .ok (.aload_n 0, 1) ∧ okop dsL_law_1570 9 = true) ∧ (decode dsL_law_1570 10 = .ok (.iload 5, 2) ∧ okop dsL_law_1570 10 = true) ∧ (decode dsL_law_1570 12 = .ok (.iconst 2, 1) ∧ okop dsL_law_1570 12 = true) := by decide +kernel
theorem dL_law_1570 : decode cL_law 1570 = .ok (.istore 6, 2) := dgq (p := 0) daL_law_1570 dbL_law_1570.1
theorem dL_law_1572 : decode cL_law 1572 = .ok (.aload_n 2, 1) := dgq (p := 2) daL_law_1570 dbL_law_1570.2.1
theorem dL_law_1573 : decode cL_law 1573 = .ok (.aload_n 0, 1) := dgq (p := 3) daL_law_1570 dbL_law_1570.2.2.1
theorem dL_law_1574 : decode cL_law 1574 = .ok (.iload 5, 2) := dgq (p := 4) daL_law_1570 dbL_law_1570.2.2.2.1
theorem dL_law_1576 : decode cL_law 1576 = .ok (.iconst 1, 1) := dgq (p := 6) daL_law_1570 dbL_law_1570.2.2.2.2.1
theorem dL_law_1577 : decode cL_law 1577 = .ok (.iadd, 1) := dgq (p := 7) daL_law_1570 dbL_law_1570.2.2.2.2.2.1
theorem dL_law_1578 : decode cL_law 1578 = .ok (.iaload, 1) := dgq (p := 8) daL_law_1570 dbL_law_1570.2.2.2.2.2.2.1
theorem dL_law_1579 : decode cL_law 1579 = .ok (.aload_n 0, 1) := dgq (p := 9) daL_law_1570 dbL_law_1570.2.2.2.2.2.2.2.1
theorem dL_law_1580 : decode cL_law 1580 = .ok (.iload 5, 2) := dgq (p := 10) daL_law_1570 dbL_law_1570.2.2.2.2.2.2.2.2.1
theorem dL_law_1582 : decode cL_law 1582 = .ok (.iconst 2, 1) := dgq (p := 12) daL_law_1570 dbL_law_1570.2.2.2.2.2.2.2.2.2
def dsL_law_1583 : ByteArray := ⟨#[96, 46, 42, 21, 5, 6, 96, 46, 182, 1, 62, 54, 7, 167, 5, 55]⟩
theorem daL_law_1583 : agB cL_law dsL_law_1583 1583 := agB_of (n := 16) (by decide +kernel)
theorem dbL_law_1583 : (decode dsL_law_1583 0 = .ok (.iadd, 1) ∧ okop dsL_law_1583 0 = true) ∧ (decode dsL_law_1583 1 = .ok (.iaload, 1) ∧ okop dsL_law_1583 1 = true) ∧ (decode dsL_law_1583 2 = .ok (.aload_n 0, 1) ∧ okop dsL_law_1583 2 = true) ∧ (decode dsL_law_1583 3 = .ok (.iload 5, 2) ∧ okop dsL_law_1583 3 = true) ∧ (decode dsL_law_1583 5 = .ok (.iconst 3, 1) ∧ okop dsL_law_1583 5 = true) ∧ (decode dsL_law_1583 6 = .ok (.iadd, 1) ∧ okop dsL_law_1583 6 = true) ∧ (decode dsL_law_1583 7 = .ok (.iaload, 1) ∧ okop dsL_law_1583 7 = true) ∧ (decode dsL_law_1583 8 = .ok (.invokevirtual 318, 3) ∧ okop dsL_law_1583 8 = true) ∧ (decode dsL_law_1583 11 = .ok (.istore 7, 2) ∧ okop dsL_law_1583 11 = true) ∧ (decode dsL_law_1583 13 = .ok (.goto 1335, 3) ∧ okop dsL_law_1583 13 = true) := by decide +kernel
theorem dL_law_1583 : decode cL_law 1583 = .ok (.iadd, 1) := dgq (p := 0) daL_law_1583 dbL_law_1583.1
theorem dL_law_1584 : decode cL_law 1584 = .ok (.iaload, 1) := dgq (p := 1) daL_law_1583 dbL_law_1583.2.1
theorem dL_law_1585 : decode cL_law 1585 = .ok (.aload_n 0, 1) := dgq (p := 2) daL_law_1583 dbL_law_1583.2.2.1
theorem dL_law_1586 : decode cL_law 1586 = .ok (.iload 5, 2) := dgq (p := 3) daL_law_1583 dbL_law_1583.2.2.2.1
theorem dL_law_1588 : decode cL_law 1588 = .ok (.iconst 3, 1) := dgq (p := 5) daL_law_1583 dbL_law_1583.2.2.2.2.1
theorem dL_law_1589 : decode cL_law 1589 = .ok (.iadd, 1) := dgq (p := 6) daL_law_1583 dbL_law_1583.2.2.2.2.2.1
theorem dL_law_1590 : decode cL_law 1590 = .ok (.iaload, 1) := dgq (p := 7) daL_law_1583 dbL_law_1583.2.2.2.2.2.2.1
theorem dL_law_1591 : decode cL_law 1591 = .ok (.invokevirtual 318, 3) := dgq (p := 8) daL_law_1583 dbL_law_1583.2.2.2.2.2.2.2.1
theorem dL_law_1594 : decode cL_law 1594 = .ok (.istore 7, 2) := dgq (p := 11) daL_law_1583 dbL_law_1583.2.2.2.2.2.2.2.2.1
theorem dL_law_1596 : decode cL_law 1596 = .ok (.goto 1335, 3) := dgq (p := 13) daL_law_1583 dbL_law_1583.2.2.2.2.2.2.2.2.2
def dsL_law_1599 : ByteArray := ⟨#[43, 42, 21, 5, 4, 96, 46, 42, 21, 5, 5, 96]⟩
theorem daL_law_1599 : agB cL_law dsL_law_1599 1599 := agB_of (n := 12) (by decide +kernel)
theorem dbL_law_1599 : (decode dsL_law_1599 0 = .ok (.aload_n 1, 1) ∧ okop dsL_law_1599 0 = true) ∧ (decode dsL_law_1599 1 = .ok (.aload_n 0, 1) ∧ okop dsL_law_1599 1 = true) ∧ (decode dsL_law_1599 2 = .ok (.iload 5, 2) ∧ okop dsL_law_1599 2 = true) ∧ (decode dsL_law_1599 4 = .ok (.iconst 1, 1) ∧ okop dsL_law_1599 4 = true) ∧ (decode dsL_law_1599 5 = .ok (.iadd, 1) ∧ okop dsL_law_1599 5 = true) ∧ (decode dsL_law_1599 6 = .ok (.iaload, 1) ∧ okop dsL_law_1599 6 = true) ∧ (decode dsL_law_1599 7 = .ok (.aload_n 0, 1) ∧ okop dsL_law_1599 7 = true) ∧ (decode dsL_law_1599 8 = .ok (.iload 5, 2) ∧ okop dsL_law_1599 8 = true) ∧ (decode dsL_law_1599 10 = .ok (.iconst 2, 1) ∧ okop dsL_law_1599 10 = true) ∧ (decode dsL_law_1599 11 = .ok (.iadd, 1) ∧ okop dsL_law_1599 11 = true) := by decide +kernel
theorem dL_law_1599 : decode cL_law 1599 = .ok (.aload_n 1, 1) := dgq (p := 0) daL_law_1599 dbL_law_1599.1
theorem dL_law_1600 : decode cL_law 1600 = .ok (.aload_n 0, 1) := dgq (p := 1) daL_law_1599 dbL_law_1599.2.1
theorem dL_law_1601 : decode cL_law 1601 = .ok (.iload 5, 2) := dgq (p := 2) daL_law_1599 dbL_law_1599.2.2.1
theorem dL_law_1603 : decode cL_law 1603 = .ok (.iconst 1, 1) := dgq (p := 4) daL_law_1599 dbL_law_1599.2.2.2.1
theorem dL_law_1604 : decode cL_law 1604 = .ok (.iadd, 1) := dgq (p := 5) daL_law_1599 dbL_law_1599.2.2.2.2.1
theorem dL_law_1605 : decode cL_law 1605 = .ok (.iaload, 1) := dgq (p := 6) daL_law_1599 dbL_law_1599.2.2.2.2.2.1
theorem dL_law_1606 : decode cL_law 1606 = .ok (.aload_n 0, 1) := dgq (p := 7) daL_law_1599 dbL_law_1599.2.2.2.2.2.2.1
theorem dL_law_1607 : decode cL_law 1607 = .ok (.iload 5, 2) := dgq (p := 8) daL_law_1599 dbL_law_1599.2.2.2.2.2.2.2.1
theorem dL_law_1609 : decode cL_law 1609 = .ok (.iconst 2, 1) := dgq (p := 10) daL_law_1599 dbL_law_1599.2.2.2.2.2.2.2.2.1
theorem dL_law_1610 : decode cL_law 1610 = .ok (.iadd, 1) := dgq (p := 11) daL_law_1599 dbL_law_1599.2.2.2.2.2.2.2.2.2
def dsL_law_1611 : ByteArray := ⟨#[46, 45, 184, 1, 63, 54, 6, 44, 42, 21, 5, 4, 96, 46]⟩
theorem daL_law_1611 : agB cL_law dsL_law_1611 1611 := agB_of (n := 14) (by decide +kernel)
theorem dbL_law_1611 : (decode dsL_law_1611 0 = .ok (.iaload, 1) ∧ okop dsL_law_1611 0 = true) ∧ (decode dsL_law_1611 1 = .ok (.aload_n 3, 1) ∧ okop dsL_law_1611 1 = true) ∧ (decode dsL_law_1611 2 = .ok (.invokestatic 319, 3) ∧ okop dsL_law_1611 2 = true) ∧ (decode dsL_law_1611 5 = .ok (.istore 6, 2) ∧ okop dsL_law_1611 5 = true) ∧ (decode dsL_law_1611 7 = .ok (.aload_n 2, 1) ∧ okop dsL_law_1611 7 = true) ∧ (decode dsL_law_1611 8 = .ok (.aload_n 0, 1) ∧ okop dsL_law_1611 8 = true) ∧ (decode dsL_law_1611 9 = .ok (.iload 5, 2) ∧ okop dsL_law_1611 9 = true) ∧ (decode dsL_law_1611 11 = .ok (.iconst 1, 1) ∧ okop dsL_law_1611 11 = true) ∧ (decode dsL_law_1611 12 = .ok (.iadd, 1) ∧ okop dsL_law_1611 12 = true) ∧ (decode dsL_law_1611 13 = .ok (.iaload, 1) ∧ okop dsL_law_1611 13 = true) := by decide +kernel
theorem dL_law_1611 : decode cL_law 1611 = .ok (.iaload, 1) := dgq (p := 0) daL_law_1611 dbL_law_1611.1
theorem dL_law_1612 : decode cL_law 1612 = .ok (.aload_n 3, 1) := dgq (p := 1) daL_law_1611 dbL_law_1611.2.1
theorem dL_law_1613 : decode cL_law 1613 = .ok (.invokestatic 319, 3) := dgq (p := 2) daL_law_1611 dbL_law_1611.2.2.1
theorem dL_law_1616 : decode cL_law 1616 = .ok (.istore 6, 2) := dgq (p := 5) daL_law_1611 dbL_law_1611.2.2.2.1
theorem dL_law_1618 : decode cL_law 1618 = .ok (.aload_n 2, 1) := dgq (p := 7) daL_law_1611 dbL_law_1611.2.2.2.2.1
theorem dL_law_1619 : decode cL_law 1619 = .ok (.aload_n 0, 1) := dgq (p := 8) daL_law_1611 dbL_law_1611.2.2.2.2.2.1
theorem dL_law_1620 : decode cL_law 1620 = .ok (.iload 5, 2) := dgq (p := 9) daL_law_1611 dbL_law_1611.2.2.2.2.2.2.1
theorem dL_law_1622 : decode cL_law 1622 = .ok (.iconst 1, 1) := dgq (p := 11) daL_law_1611 dbL_law_1611.2.2.2.2.2.2.2.1
theorem dL_law_1623 : decode cL_law 1623 = .ok (.iadd, 1) := dgq (p := 12) daL_law_1611 dbL_law_1611.2.2.2.2.2.2.2.2.1
theorem dL_law_1624 : decode cL_law 1624 = .ok (.iaload, 1) := dgq (p := 13) daL_law_1611 dbL_law_1611.2.2.2.2.2.2.2.2.2
def dsL_law_1625 : ByteArray := ⟨#[42, 21, 5, 5, 96, 46, 182, 1, 65, 54, 7, 167, 5, 15, 43, 42]⟩
theorem daL_law_1625 : agB cL_law dsL_law_1625 1625 := agB_of (n := 16) (by decide +kernel)
theorem dbL_law_1625 : (decode dsL_law_1625 0 = .ok (.aload_n 0, 1) ∧ okop dsL_law_1625 0 = true) ∧ (decode dsL_law_1625 1 = .ok (.iload 5, 2) ∧ okop dsL_law_1625 1 = true) ∧ (decode dsL_law_1625 3 = .ok (.iconst 2, 1) ∧ okop dsL_law_1625 3 = true) ∧ (decode dsL_law_1625 4 = .ok (.iadd, 1) ∧ okop dsL_law_1625 4 = true) ∧ (decode dsL_law_1625 5 = .ok (.iaload, 1) ∧ okop dsL_law_1625 5 = true) ∧ (decode dsL_law_1625 6 = .ok (.invokevirtual 321, 3) ∧ okop dsL_law_1625 6 = true) ∧ (decode dsL_law_1625 9 = .ok (.istore 7, 2) ∧ okop dsL_law_1625 9 = true) ∧ (decode dsL_law_1625 11 = .ok (.goto 1295, 3) ∧ okop dsL_law_1625 11 = true) ∧ (decode dsL_law_1625 14 = .ok (.aload_n 1, 1) ∧ okop dsL_law_1625 14 = true) ∧ (decode dsL_law_1625 15 = .ok (.aload_n 0, 1) ∧ okop dsL_law_1625 15 = true) := by decide +kernel
theorem dL_law_1625 : decode cL_law 1625 = .ok (.aload_n 0, 1) := dgq (p := 0) daL_law_1625 dbL_law_1625.1
theorem dL_law_1626 : decode cL_law 1626 = .ok (.iload 5, 2) := dgq (p := 1) daL_law_1625 dbL_law_1625.2.1
theorem dL_law_1628 : decode cL_law 1628 = .ok (.iconst 2, 1) := dgq (p := 3) daL_law_1625 dbL_law_1625.2.2.1
theorem dL_law_1629 : decode cL_law 1629 = .ok (.iadd, 1) := dgq (p := 4) daL_law_1625 dbL_law_1625.2.2.2.1
theorem dL_law_1630 : decode cL_law 1630 = .ok (.iaload, 1) := dgq (p := 5) daL_law_1625 dbL_law_1625.2.2.2.2.1
theorem dL_law_1631 : decode cL_law 1631 = .ok (.invokevirtual 321, 3) := dgq (p := 6) daL_law_1625 dbL_law_1625.2.2.2.2.2.1
theorem dL_law_1634 : decode cL_law 1634 = .ok (.istore 7, 2) := dgq (p := 9) daL_law_1625 dbL_law_1625.2.2.2.2.2.2.1
theorem dL_law_1636 : decode cL_law 1636 = .ok (.goto 1295, 3) := dgq (p := 11) daL_law_1625 dbL_law_1625.2.2.2.2.2.2.2.1
theorem dL_law_1639 : decode cL_law 1639 = .ok (.aload_n 1, 1) := dgq (p := 14) daL_law_1625 dbL_law_1625.2.2.2.2.2.2.2.2.1
theorem dL_law_1640 : decode cL_law 1640 = .ok (.aload_n 0, 1) := dgq (p := 15) daL_law_1625 dbL_law_1625.2.2.2.2.2.2.2.2.2
def dsL_law_1641 : ByteArray := ⟨#[21, 5, 4, 96, 46, 45, 184, 1, 66, 54, 6, 44, 42, 21, 5]⟩
theorem daL_law_1641 : agB cL_law dsL_law_1641 1641 := agB_of (n := 15) (by decide +kernel)
theorem dbL_law_1641 : (decode dsL_law_1641 0 = .ok (.iload 5, 2) ∧ okop dsL_law_1641 0 = true) ∧ (decode dsL_law_1641 2 = .ok (.iconst 1, 1) ∧ okop dsL_law_1641 2 = true) ∧ (decode dsL_law_1641 3 = .ok (.iadd, 1) ∧ okop dsL_law_1641 3 = true) ∧ (decode dsL_law_1641 4 = .ok (.iaload, 1) ∧ okop dsL_law_1641 4 = true) ∧ (decode dsL_law_1641 5 = .ok (.aload_n 3, 1) ∧ okop dsL_law_1641 5 = true) ∧ (decode dsL_law_1641 6 = .ok (.invokestatic 322, 3) ∧ okop dsL_law_1641 6 = true) ∧ (decode dsL_law_1641 9 = .ok (.istore 6, 2) ∧ okop dsL_law_1641 9 = true) ∧ (decode dsL_law_1641 11 = .ok (.aload_n 2, 1) ∧ okop dsL_law_1641 11 = true) ∧ (decode dsL_law_1641 12 = .ok (.aload_n 0, 1) ∧ okop dsL_law_1641 12 = true) ∧ (decode dsL_law_1641 13 = .ok (.iload 5, 2) ∧ okop dsL_law_1641 13 = true) := by decide +kernel
theorem dL_law_1641 : decode cL_law 1641 = .ok (.iload 5, 2) := dgq (p := 0) daL_law_1641 dbL_law_1641.1
theorem dL_law_1643 : decode cL_law 1643 = .ok (.iconst 1, 1) := dgq (p := 2) daL_law_1641 dbL_law_1641.2.1
theorem dL_law_1644 : decode cL_law 1644 = .ok (.iadd, 1) := dgq (p := 3) daL_law_1641 dbL_law_1641.2.2.1
theorem dL_law_1645 : decode cL_law 1645 = .ok (.iaload, 1) := dgq (p := 4) daL_law_1641 dbL_law_1641.2.2.2.1
theorem dL_law_1646 : decode cL_law 1646 = .ok (.aload_n 3, 1) := dgq (p := 5) daL_law_1641 dbL_law_1641.2.2.2.2.1
theorem dL_law_1647 : decode cL_law 1647 = .ok (.invokestatic 322, 3) := dgq (p := 6) daL_law_1641 dbL_law_1641.2.2.2.2.2.1
theorem dL_law_1650 : decode cL_law 1650 = .ok (.istore 6, 2) := dgq (p := 9) daL_law_1641 dbL_law_1641.2.2.2.2.2.2.1
theorem dL_law_1652 : decode cL_law 1652 = .ok (.aload_n 2, 1) := dgq (p := 11) daL_law_1641 dbL_law_1641.2.2.2.2.2.2.2.1
theorem dL_law_1653 : decode cL_law 1653 = .ok (.aload_n 0, 1) := dgq (p := 12) daL_law_1641 dbL_law_1641.2.2.2.2.2.2.2.2.1
theorem dL_law_1654 : decode cL_law 1654 = .ok (.iload 5, 2) := dgq (p := 13) daL_law_1641 dbL_law_1641.2.2.2.2.2.2.2.2.2
def dsL_law_1656 : ByteArray := ⟨#[4, 96, 46, 182, 1, 68, 54, 7, 167, 4, 243, 43, 42, 21, 5, 4]⟩
theorem daL_law_1656 : agB cL_law dsL_law_1656 1656 := agB_of (n := 16) (by decide +kernel)
theorem dbL_law_1656 : (decode dsL_law_1656 0 = .ok (.iconst 1, 1) ∧ okop dsL_law_1656 0 = true) ∧ (decode dsL_law_1656 1 = .ok (.iadd, 1) ∧ okop dsL_law_1656 1 = true) ∧ (decode dsL_law_1656 2 = .ok (.iaload, 1) ∧ okop dsL_law_1656 2 = true) ∧ (decode dsL_law_1656 3 = .ok (.invokevirtual 324, 3) ∧ okop dsL_law_1656 3 = true) ∧ (decode dsL_law_1656 6 = .ok (.istore 7, 2) ∧ okop dsL_law_1656 6 = true) ∧ (decode dsL_law_1656 8 = .ok (.goto 1267, 3) ∧ okop dsL_law_1656 8 = true) ∧ (decode dsL_law_1656 11 = .ok (.aload_n 1, 1) ∧ okop dsL_law_1656 11 = true) ∧ (decode dsL_law_1656 12 = .ok (.aload_n 0, 1) ∧ okop dsL_law_1656 12 = true) ∧ (decode dsL_law_1656 13 = .ok (.iload 5, 2) ∧ okop dsL_law_1656 13 = true) ∧ (decode dsL_law_1656 15 = .ok (.iconst 1, 1) ∧ okop dsL_law_1656 15 = true) := by decide +kernel
theorem dL_law_1656 : decode cL_law 1656 = .ok (.iconst 1, 1) := dgq (p := 0) daL_law_1656 dbL_law_1656.1
theorem dL_law_1657 : decode cL_law 1657 = .ok (.iadd, 1) := dgq (p := 1) daL_law_1656 dbL_law_1656.2.1
theorem dL_law_1658 : decode cL_law 1658 = .ok (.iaload, 1) := dgq (p := 2) daL_law_1656 dbL_law_1656.2.2.1
theorem dL_law_1659 : decode cL_law 1659 = .ok (.invokevirtual 324, 3) := dgq (p := 3) daL_law_1656 dbL_law_1656.2.2.2.1
theorem dL_law_1662 : decode cL_law 1662 = .ok (.istore 7, 2) := dgq (p := 6) daL_law_1656 dbL_law_1656.2.2.2.2.1
theorem dL_law_1664 : decode cL_law 1664 = .ok (.goto 1267, 3) := dgq (p := 8) daL_law_1656 dbL_law_1656.2.2.2.2.2.1
theorem dL_law_1667 : decode cL_law 1667 = .ok (.aload_n 1, 1) := dgq (p := 11) daL_law_1656 dbL_law_1656.2.2.2.2.2.2.1
theorem dL_law_1668 : decode cL_law 1668 = .ok (.aload_n 0, 1) := dgq (p := 12) daL_law_1656 dbL_law_1656.2.2.2.2.2.2.2.1
theorem dL_law_1669 : decode cL_law 1669 = .ok (.iload 5, 2) := dgq (p := 13) daL_law_1656 dbL_law_1656.2.2.2.2.2.2.2.2.1
theorem dL_law_1671 : decode cL_law 1671 = .ok (.iconst 1, 1) := dgq (p := 15) daL_law_1656 dbL_law_1656.2.2.2.2.2.2.2.2.2
def dsL_law_1672 : ByteArray := ⟨#[96, 46, 42, 21, 5, 5, 96, 46, 42, 21, 5, 6]⟩
theorem daL_law_1672 : agB cL_law dsL_law_1672 1672 := agB_of (n := 12) (by decide +kernel)
theorem dbL_law_1672 : (decode dsL_law_1672 0 = .ok (.iadd, 1) ∧ okop dsL_law_1672 0 = true) ∧ (decode dsL_law_1672 1 = .ok (.iaload, 1) ∧ okop dsL_law_1672 1 = true) ∧ (decode dsL_law_1672 2 = .ok (.aload_n 0, 1) ∧ okop dsL_law_1672 2 = true) ∧ (decode dsL_law_1672 3 = .ok (.iload 5, 2) ∧ okop dsL_law_1672 3 = true) ∧ (decode dsL_law_1672 5 = .ok (.iconst 2, 1) ∧ okop dsL_law_1672 5 = true) ∧ (decode dsL_law_1672 6 = .ok (.iadd, 1) ∧ okop dsL_law_1672 6 = true) ∧ (decode dsL_law_1672 7 = .ok (.iaload, 1) ∧ okop dsL_law_1672 7 = true) ∧ (decode dsL_law_1672 8 = .ok (.aload_n 0, 1) ∧ okop dsL_law_1672 8 = true) ∧ (decode dsL_law_1672 9 = .ok (.iload 5, 2) ∧ okop dsL_law_1672 9 = true) ∧ (decode dsL_law_1672 11 = .ok (.iconst 3, 1) ∧ okop dsL_law_1672 11 = true) := by decide +kernel
theorem dL_law_1672 : decode cL_law 1672 = .ok (.iadd, 1) := dgq (p := 0) daL_law_1672 dbL_law_1672.1
theorem dL_law_1673 : decode cL_law 1673 = .ok (.iaload, 1) := dgq (p := 1) daL_law_1672 dbL_law_1672.2.1
theorem dL_law_1674 : decode cL_law 1674 = .ok (.aload_n 0, 1) := dgq (p := 2) daL_law_1672 dbL_law_1672.2.2.1
theorem dL_law_1675 : decode cL_law 1675 = .ok (.iload 5, 2) := dgq (p := 3) daL_law_1672 dbL_law_1672.2.2.2.1
theorem dL_law_1677 : decode cL_law 1677 = .ok (.iconst 2, 1) := dgq (p := 5) daL_law_1672 dbL_law_1672.2.2.2.2.1
theorem dL_law_1678 : decode cL_law 1678 = .ok (.iadd, 1) := dgq (p := 6) daL_law_1672 dbL_law_1672.2.2.2.2.2.1
theorem dL_law_1679 : decode cL_law 1679 = .ok (.iaload, 1) := dgq (p := 7) daL_law_1672 dbL_law_1672.2.2.2.2.2.2.1
theorem dL_law_1680 : decode cL_law 1680 = .ok (.aload_n 0, 1) := dgq (p := 8) daL_law_1672 dbL_law_1672.2.2.2.2.2.2.2.1
theorem dL_law_1681 : decode cL_law 1681 = .ok (.iload 5, 2) := dgq (p := 9) daL_law_1672 dbL_law_1672.2.2.2.2.2.2.2.2.1
theorem dL_law_1683 : decode cL_law 1683 = .ok (.iconst 3, 1) := dgq (p := 11) daL_law_1672 dbL_law_1672.2.2.2.2.2.2.2.2.2
def dsL_law_1684 : ByteArray := ⟨#[96, 46, 42, 21, 5, 7, 96, 46, 45, 184, 1, 69, 54, 6]⟩
theorem daL_law_1684 : agB cL_law dsL_law_1684 1684 := agB_of (n := 14) (by decide +kernel)
theorem dbL_law_1684 : (decode dsL_law_1684 0 = .ok (.iadd, 1) ∧ okop dsL_law_1684 0 = true) ∧ (decode dsL_law_1684 1 = .ok (.iaload, 1) ∧ okop dsL_law_1684 1 = true) ∧ (decode dsL_law_1684 2 = .ok (.aload_n 0, 1) ∧ okop dsL_law_1684 2 = true) ∧ (decode dsL_law_1684 3 = .ok (.iload 5, 2) ∧ okop dsL_law_1684 3 = true) ∧ (decode dsL_law_1684 5 = .ok (.iconst 4, 1) ∧ okop dsL_law_1684 5 = true) ∧ (decode dsL_law_1684 6 = .ok (.iadd, 1) ∧ okop dsL_law_1684 6 = true) ∧ (decode dsL_law_1684 7 = .ok (.iaload, 1) ∧ okop dsL_law_1684 7 = true) ∧ (decode dsL_law_1684 8 = .ok (.aload_n 3, 1) ∧ okop dsL_law_1684 8 = true) ∧ (decode dsL_law_1684 9 = .ok (.invokestatic 325, 3) ∧ okop dsL_law_1684 9 = true) ∧ (decode dsL_law_1684 12 = .ok (.istore 6, 2) ∧ okop dsL_law_1684 12 = true) := by decide +kernel
theorem dL_law_1684 : decode cL_law 1684 = .ok (.iadd, 1) := dgq (p := 0) daL_law_1684 dbL_law_1684.1
theorem dL_law_1685 : decode cL_law 1685 = .ok (.iaload, 1) := dgq (p := 1) daL_law_1684 dbL_law_1684.2.1
theorem dL_law_1686 : decode cL_law 1686 = .ok (.aload_n 0, 1) := dgq (p := 2) daL_law_1684 dbL_law_1684.2.2.1
theorem dL_law_1687 : decode cL_law 1687 = .ok (.iload 5, 2) := dgq (p := 3) daL_law_1684 dbL_law_1684.2.2.2.1
theorem dL_law_1689 : decode cL_law 1689 = .ok (.iconst 4, 1) := dgq (p := 5) daL_law_1684 dbL_law_1684.2.2.2.2.1
theorem dL_law_1690 : decode cL_law 1690 = .ok (.iadd, 1) := dgq (p := 6) daL_law_1684 dbL_law_1684.2.2.2.2.2.1
theorem dL_law_1691 : decode cL_law 1691 = .ok (.iaload, 1) := dgq (p := 7) daL_law_1684 dbL_law_1684.2.2.2.2.2.2.1
theorem dL_law_1692 : decode cL_law 1692 = .ok (.aload_n 3, 1) := dgq (p := 8) daL_law_1684 dbL_law_1684.2.2.2.2.2.2.2.1
theorem dL_law_1693 : decode cL_law 1693 = .ok (.invokestatic 325, 3) := dgq (p := 9) daL_law_1684 dbL_law_1684.2.2.2.2.2.2.2.2.1
theorem dL_law_1696 : decode cL_law 1696 = .ok (.istore 6, 2) := dgq (p := 12) daL_law_1684 dbL_law_1684.2.2.2.2.2.2.2.2.2
def dsL_law_1698 : ByteArray := ⟨#[44, 42, 21, 5, 4, 96, 46, 42, 21, 5, 5, 96]⟩
theorem daL_law_1698 : agB cL_law dsL_law_1698 1698 := agB_of (n := 12) (by decide +kernel)
theorem dbL_law_1698 : (decode dsL_law_1698 0 = .ok (.aload_n 2, 1) ∧ okop dsL_law_1698 0 = true) ∧ (decode dsL_law_1698 1 = .ok (.aload_n 0, 1) ∧ okop dsL_law_1698 1 = true) ∧ (decode dsL_law_1698 2 = .ok (.iload 5, 2) ∧ okop dsL_law_1698 2 = true) ∧ (decode dsL_law_1698 4 = .ok (.iconst 1, 1) ∧ okop dsL_law_1698 4 = true) ∧ (decode dsL_law_1698 5 = .ok (.iadd, 1) ∧ okop dsL_law_1698 5 = true) ∧ (decode dsL_law_1698 6 = .ok (.iaload, 1) ∧ okop dsL_law_1698 6 = true) ∧ (decode dsL_law_1698 7 = .ok (.aload_n 0, 1) ∧ okop dsL_law_1698 7 = true) ∧ (decode dsL_law_1698 8 = .ok (.iload 5, 2) ∧ okop dsL_law_1698 8 = true) ∧ (decode dsL_law_1698 10 = .ok (.iconst 2, 1) ∧ okop dsL_law_1698 10 = true) ∧ (decode dsL_law_1698 11 = .ok (.iadd, 1) ∧ okop dsL_law_1698 11 = true) := by decide +kernel
theorem dL_law_1698 : decode cL_law 1698 = .ok (.aload_n 2, 1) := dgq (p := 0) daL_law_1698 dbL_law_1698.1
theorem dL_law_1699 : decode cL_law 1699 = .ok (.aload_n 0, 1) := dgq (p := 1) daL_law_1698 dbL_law_1698.2.1
theorem dL_law_1700 : decode cL_law 1700 = .ok (.iload 5, 2) := dgq (p := 2) daL_law_1698 dbL_law_1698.2.2.1
theorem dL_law_1702 : decode cL_law 1702 = .ok (.iconst 1, 1) := dgq (p := 4) daL_law_1698 dbL_law_1698.2.2.2.1
theorem dL_law_1703 : decode cL_law 1703 = .ok (.iadd, 1) := dgq (p := 5) daL_law_1698 dbL_law_1698.2.2.2.2.1
theorem dL_law_1704 : decode cL_law 1704 = .ok (.iaload, 1) := dgq (p := 6) daL_law_1698 dbL_law_1698.2.2.2.2.2.1
theorem dL_law_1705 : decode cL_law 1705 = .ok (.aload_n 0, 1) := dgq (p := 7) daL_law_1698 dbL_law_1698.2.2.2.2.2.2.1
theorem dL_law_1706 : decode cL_law 1706 = .ok (.iload 5, 2) := dgq (p := 8) daL_law_1698 dbL_law_1698.2.2.2.2.2.2.2.1
theorem dL_law_1708 : decode cL_law 1708 = .ok (.iconst 2, 1) := dgq (p := 10) daL_law_1698 dbL_law_1698.2.2.2.2.2.2.2.2.1
theorem dL_law_1709 : decode cL_law 1709 = .ok (.iadd, 1) := dgq (p := 11) daL_law_1698 dbL_law_1698.2.2.2.2.2.2.2.2.2
def dsL_law_1710 : ByteArray := ⟨#[46, 42, 21, 5, 6, 96, 46, 42, 21, 5, 7, 96]⟩
theorem daL_law_1710 : agB cL_law dsL_law_1710 1710 := agB_of (n := 12) (by decide +kernel)
theorem dbL_law_1710 : (decode dsL_law_1710 0 = .ok (.iaload, 1) ∧ okop dsL_law_1710 0 = true) ∧ (decode dsL_law_1710 1 = .ok (.aload_n 0, 1) ∧ okop dsL_law_1710 1 = true) ∧ (decode dsL_law_1710 2 = .ok (.iload 5, 2) ∧ okop dsL_law_1710 2 = true) ∧ (decode dsL_law_1710 4 = .ok (.iconst 3, 1) ∧ okop dsL_law_1710 4 = true) ∧ (decode dsL_law_1710 5 = .ok (.iadd, 1) ∧ okop dsL_law_1710 5 = true) ∧ (decode dsL_law_1710 6 = .ok (.iaload, 1) ∧ okop dsL_law_1710 6 = true) ∧ (decode dsL_law_1710 7 = .ok (.aload_n 0, 1) ∧ okop dsL_law_1710 7 = true) ∧ (decode dsL_law_1710 8 = .ok (.iload 5, 2) ∧ okop dsL_law_1710 8 = true) ∧ (decode dsL_law_1710 10 = .ok (.iconst 4, 1) ∧ okop dsL_law_1710 10 = true) ∧ (decode dsL_law_1710 11 = .ok (.iadd, 1) ∧ okop dsL_law_1710 11 = true) := by decide +kernel
theorem dL_law_1710 : decode cL_law 1710 = .ok (.iaload, 1) := dgq (p := 0) daL_law_1710 dbL_law_1710.1
theorem dL_law_1711 : decode cL_law 1711 = .ok (.aload_n 0, 1) := dgq (p := 1) daL_law_1710 dbL_law_1710.2.1
theorem dL_law_1712 : decode cL_law 1712 = .ok (.iload 5, 2) := dgq (p := 2) daL_law_1710 dbL_law_1710.2.2.1
theorem dL_law_1714 : decode cL_law 1714 = .ok (.iconst 3, 1) := dgq (p := 4) daL_law_1710 dbL_law_1710.2.2.2.1
theorem dL_law_1715 : decode cL_law 1715 = .ok (.iadd, 1) := dgq (p := 5) daL_law_1710 dbL_law_1710.2.2.2.2.1
theorem dL_law_1716 : decode cL_law 1716 = .ok (.iaload, 1) := dgq (p := 6) daL_law_1710 dbL_law_1710.2.2.2.2.2.1
theorem dL_law_1717 : decode cL_law 1717 = .ok (.aload_n 0, 1) := dgq (p := 7) daL_law_1710 dbL_law_1710.2.2.2.2.2.2.1
theorem dL_law_1718 : decode cL_law 1718 = .ok (.iload 5, 2) := dgq (p := 8) daL_law_1710 dbL_law_1710.2.2.2.2.2.2.2.1
theorem dL_law_1720 : decode cL_law 1720 = .ok (.iconst 4, 1) := dgq (p := 10) daL_law_1710 dbL_law_1710.2.2.2.2.2.2.2.2.1
theorem dL_law_1721 : decode cL_law 1721 = .ok (.iadd, 1) := dgq (p := 11) daL_law_1710 dbL_law_1710.2.2.2.2.2.2.2.2.2
def dsL_law_1722 : ByteArray := ⟨#[46, 182, 1, 71, 54, 7, 167, 4, 179, 43, 42, 21, 5, 4, 96, 46]⟩
theorem daL_law_1722 : agB cL_law dsL_law_1722 1722 := agB_of (n := 16) (by decide +kernel)
theorem dbL_law_1722 : (decode dsL_law_1722 0 = .ok (.iaload, 1) ∧ okop dsL_law_1722 0 = true) ∧ (decode dsL_law_1722 1 = .ok (.invokevirtual 327, 3) ∧ okop dsL_law_1722 1 = true) ∧ (decode dsL_law_1722 4 = .ok (.istore 7, 2) ∧ okop dsL_law_1722 4 = true) ∧ (decode dsL_law_1722 6 = .ok (.goto 1203, 3) ∧ okop dsL_law_1722 6 = true) ∧ (decode dsL_law_1722 9 = .ok (.aload_n 1, 1) ∧ okop dsL_law_1722 9 = true) ∧ (decode dsL_law_1722 10 = .ok (.aload_n 0, 1) ∧ okop dsL_law_1722 10 = true) ∧ (decode dsL_law_1722 11 = .ok (.iload 5, 2) ∧ okop dsL_law_1722 11 = true) ∧ (decode dsL_law_1722 13 = .ok (.iconst 1, 1) ∧ okop dsL_law_1722 13 = true) ∧ (decode dsL_law_1722 14 = .ok (.iadd, 1) ∧ okop dsL_law_1722 14 = true) ∧ (decode dsL_law_1722 15 = .ok (.iaload, 1) ∧ okop dsL_law_1722 15 = true) := by decide +kernel
theorem dL_law_1722 : decode cL_law 1722 = .ok (.iaload, 1) := dgq (p := 0) daL_law_1722 dbL_law_1722.1
theorem dL_law_1723 : decode cL_law 1723 = .ok (.invokevirtual 327, 3) := dgq (p := 1) daL_law_1722 dbL_law_1722.2.1
theorem dL_law_1726 : decode cL_law 1726 = .ok (.istore 7, 2) := dgq (p := 4) daL_law_1722 dbL_law_1722.2.2.1
theorem dL_law_1728 : decode cL_law 1728 = .ok (.goto 1203, 3) := dgq (p := 6) daL_law_1722 dbL_law_1722.2.2.2.1
theorem dL_law_1731 : decode cL_law 1731 = .ok (.aload_n 1, 1) := dgq (p := 9) daL_law_1722 dbL_law_1722.2.2.2.2.1
theorem dL_law_1732 : decode cL_law 1732 = .ok (.aload_n 0, 1) := dgq (p := 10) daL_law_1722 dbL_law_1722.2.2.2.2.2.1
theorem dL_law_1733 : decode cL_law 1733 = .ok (.iload 5, 2) := dgq (p := 11) daL_law_1722 dbL_law_1722.2.2.2.2.2.2.1
theorem dL_law_1735 : decode cL_law 1735 = .ok (.iconst 1, 1) := dgq (p := 13) daL_law_1722 dbL_law_1722.2.2.2.2.2.2.2.1
theorem dL_law_1736 : decode cL_law 1736 = .ok (.iadd, 1) := dgq (p := 14) daL_law_1722 dbL_law_1722.2.2.2.2.2.2.2.2.1
theorem dL_law_1737 : decode cL_law 1737 = .ok (.iaload, 1) := dgq (p := 15) daL_law_1722 dbL_law_1722.2.2.2.2.2.2.2.2.2
def dsL_law_1738 : ByteArray := ⟨#[42, 21, 5, 5, 96, 46, 42, 21, 5, 6, 96, 46]⟩
theorem daL_law_1738 : agB cL_law dsL_law_1738 1738 := agB_of (n := 12) (by decide +kernel)
theorem dbL_law_1738 : (decode dsL_law_1738 0 = .ok (.aload_n 0, 1) ∧ okop dsL_law_1738 0 = true) ∧ (decode dsL_law_1738 1 = .ok (.iload 5, 2) ∧ okop dsL_law_1738 1 = true) ∧ (decode dsL_law_1738 3 = .ok (.iconst 2, 1) ∧ okop dsL_law_1738 3 = true) ∧ (decode dsL_law_1738 4 = .ok (.iadd, 1) ∧ okop dsL_law_1738 4 = true) ∧ (decode dsL_law_1738 5 = .ok (.iaload, 1) ∧ okop dsL_law_1738 5 = true) ∧ (decode dsL_law_1738 6 = .ok (.aload_n 0, 1) ∧ okop dsL_law_1738 6 = true) ∧ (decode dsL_law_1738 7 = .ok (.iload 5, 2) ∧ okop dsL_law_1738 7 = true) ∧ (decode dsL_law_1738 9 = .ok (.iconst 3, 1) ∧ okop dsL_law_1738 9 = true) ∧ (decode dsL_law_1738 10 = .ok (.iadd, 1) ∧ okop dsL_law_1738 10 = true) ∧ (decode dsL_law_1738 11 = .ok (.iaload, 1) ∧ okop dsL_law_1738 11 = true) := by decide +kernel
theorem dL_law_1738 : decode cL_law 1738 = .ok (.aload_n 0, 1) := dgq (p := 0) daL_law_1738 dbL_law_1738.1
theorem dL_law_1739 : decode cL_law 1739 = .ok (.iload 5, 2) := dgq (p := 1) daL_law_1738 dbL_law_1738.2.1
theorem dL_law_1741 : decode cL_law 1741 = .ok (.iconst 2, 1) := dgq (p := 3) daL_law_1738 dbL_law_1738.2.2.1
theorem dL_law_1742 : decode cL_law 1742 = .ok (.iadd, 1) := dgq (p := 4) daL_law_1738 dbL_law_1738.2.2.2.1
theorem dL_law_1743 : decode cL_law 1743 = .ok (.iaload, 1) := dgq (p := 5) daL_law_1738 dbL_law_1738.2.2.2.2.1
theorem dL_law_1744 : decode cL_law 1744 = .ok (.aload_n 0, 1) := dgq (p := 6) daL_law_1738 dbL_law_1738.2.2.2.2.2.1
theorem dL_law_1745 : decode cL_law 1745 = .ok (.iload 5, 2) := dgq (p := 7) daL_law_1738 dbL_law_1738.2.2.2.2.2.2.1
theorem dL_law_1747 : decode cL_law 1747 = .ok (.iconst 3, 1) := dgq (p := 9) daL_law_1738 dbL_law_1738.2.2.2.2.2.2.2.1
theorem dL_law_1748 : decode cL_law 1748 = .ok (.iadd, 1) := dgq (p := 10) daL_law_1738 dbL_law_1738.2.2.2.2.2.2.2.2.1
theorem dL_law_1749 : decode cL_law 1749 = .ok (.iaload, 1) := dgq (p := 11) daL_law_1738 dbL_law_1738.2.2.2.2.2.2.2.2.2
def dsL_law_1750 : ByteArray := ⟨#[45, 184, 1, 72, 54, 6, 44, 42, 21, 5, 4, 96, 46, 42]⟩
theorem daL_law_1750 : agB cL_law dsL_law_1750 1750 := agB_of (n := 14) (by decide +kernel)
theorem dbL_law_1750 : (decode dsL_law_1750 0 = .ok (.aload_n 3, 1) ∧ okop dsL_law_1750 0 = true) ∧ (decode dsL_law_1750 1 = .ok (.invokestatic 328, 3) ∧ okop dsL_law_1750 1 = true) ∧ (decode dsL_law_1750 4 = .ok (.istore 6, 2) ∧ okop dsL_law_1750 4 = true) ∧ (decode dsL_law_1750 6 = .ok (.aload_n 2, 1) ∧ okop dsL_law_1750 6 = true) ∧ (decode dsL_law_1750 7 = .ok (.aload_n 0, 1) ∧ okop dsL_law_1750 7 = true) ∧ (decode dsL_law_1750 8 = .ok (.iload 5, 2) ∧ okop dsL_law_1750 8 = true) ∧ (decode dsL_law_1750 10 = .ok (.iconst 1, 1) ∧ okop dsL_law_1750 10 = true) ∧ (decode dsL_law_1750 11 = .ok (.iadd, 1) ∧ okop dsL_law_1750 11 = true) ∧ (decode dsL_law_1750 12 = .ok (.iaload, 1) ∧ okop dsL_law_1750 12 = true) ∧ (decode dsL_law_1750 13 = .ok (.aload_n 0, 1) ∧ okop dsL_law_1750 13 = true) := by decide +kernel
theorem dL_law_1750 : decode cL_law 1750 = .ok (.aload_n 3, 1) := dgq (p := 0) daL_law_1750 dbL_law_1750.1
theorem dL_law_1751 : decode cL_law 1751 = .ok (.invokestatic 328, 3) := dgq (p := 1) daL_law_1750 dbL_law_1750.2.1
theorem dL_law_1754 : decode cL_law 1754 = .ok (.istore 6, 2) := dgq (p := 4) daL_law_1750 dbL_law_1750.2.2.1
theorem dL_law_1756 : decode cL_law 1756 = .ok (.aload_n 2, 1) := dgq (p := 6) daL_law_1750 dbL_law_1750.2.2.2.1
theorem dL_law_1757 : decode cL_law 1757 = .ok (.aload_n 0, 1) := dgq (p := 7) daL_law_1750 dbL_law_1750.2.2.2.2.1
theorem dL_law_1758 : decode cL_law 1758 = .ok (.iload 5, 2) := dgq (p := 8) daL_law_1750 dbL_law_1750.2.2.2.2.2.1
theorem dL_law_1760 : decode cL_law 1760 = .ok (.iconst 1, 1) := dgq (p := 10) daL_law_1750 dbL_law_1750.2.2.2.2.2.2.1
theorem dL_law_1761 : decode cL_law 1761 = .ok (.iadd, 1) := dgq (p := 11) daL_law_1750 dbL_law_1750.2.2.2.2.2.2.2.1
theorem dL_law_1762 : decode cL_law 1762 = .ok (.iaload, 1) := dgq (p := 12) daL_law_1750 dbL_law_1750.2.2.2.2.2.2.2.2.1
theorem dL_law_1763 : decode cL_law 1763 = .ok (.aload_n 0, 1) := dgq (p := 13) daL_law_1750 dbL_law_1750.2.2.2.2.2.2.2.2.2
def dsL_law_1764 : ByteArray := ⟨#[21, 5, 5, 96, 46, 42, 21, 5, 6, 96, 46, 182, 1, 74]⟩
theorem daL_law_1764 : agB cL_law dsL_law_1764 1764 := agB_of (n := 14) (by decide +kernel)
theorem dbL_law_1764 : (decode dsL_law_1764 0 = .ok (.iload 5, 2) ∧ okop dsL_law_1764 0 = true) ∧ (decode dsL_law_1764 2 = .ok (.iconst 2, 1) ∧ okop dsL_law_1764 2 = true) ∧ (decode dsL_law_1764 3 = .ok (.iadd, 1) ∧ okop dsL_law_1764 3 = true) ∧ (decode dsL_law_1764 4 = .ok (.iaload, 1) ∧ okop dsL_law_1764 4 = true) ∧ (decode dsL_law_1764 5 = .ok (.aload_n 0, 1) ∧ okop dsL_law_1764 5 = true) ∧ (decode dsL_law_1764 6 = .ok (.iload 5, 2) ∧ okop dsL_law_1764 6 = true) ∧ (decode dsL_law_1764 8 = .ok (.iconst 3, 1) ∧ okop dsL_law_1764 8 = true) ∧ (decode dsL_law_1764 9 = .ok (.iadd, 1) ∧ okop dsL_law_1764 9 = true) ∧ (decode dsL_law_1764 10 = .ok (.iaload, 1) ∧ okop dsL_law_1764 10 = true) ∧ (decode dsL_law_1764 11 = .ok (.invokevirtual 330, 3) ∧ okop dsL_law_1764 11 = true) := by decide +kernel
theorem dL_law_1764 : decode cL_law 1764 = .ok (.iload 5, 2) := dgq (p := 0) daL_law_1764 dbL_law_1764.1
theorem dL_law_1766 : decode cL_law 1766 = .ok (.iconst 2, 1) := dgq (p := 2) daL_law_1764 dbL_law_1764.2.1
theorem dL_law_1767 : decode cL_law 1767 = .ok (.iadd, 1) := dgq (p := 3) daL_law_1764 dbL_law_1764.2.2.1
theorem dL_law_1768 : decode cL_law 1768 = .ok (.iaload, 1) := dgq (p := 4) daL_law_1764 dbL_law_1764.2.2.2.1
theorem dL_law_1769 : decode cL_law 1769 = .ok (.aload_n 0, 1) := dgq (p := 5) daL_law_1764 dbL_law_1764.2.2.2.2.1
theorem dL_law_1770 : decode cL_law 1770 = .ok (.iload 5, 2) := dgq (p := 6) daL_law_1764 dbL_law_1764.2.2.2.2.2.1
theorem dL_law_1772 : decode cL_law 1772 = .ok (.iconst 3, 1) := dgq (p := 8) daL_law_1764 dbL_law_1764.2.2.2.2.2.2.1
theorem dL_law_1773 : decode cL_law 1773 = .ok (.iadd, 1) := dgq (p := 9) daL_law_1764 dbL_law_1764.2.2.2.2.2.2.2.1
theorem dL_law_1774 : decode cL_law 1774 = .ok (.iaload, 1) := dgq (p := 10) daL_law_1764 dbL_law_1764.2.2.2.2.2.2.2.2.1
theorem dL_law_1775 : decode cL_law 1775 = .ok (.invokevirtual 330, 3) := dgq (p := 11) daL_law_1764 dbL_law_1764.2.2.2.2.2.2.2.2.2
def dsL_law_1778 : ByteArray := ⟨#[54, 7, 167, 4, 127, 43, 42, 21, 5, 4, 96, 46, 42, 21, 5]⟩
theorem daL_law_1778 : agB cL_law dsL_law_1778 1778 := agB_of (n := 15) (by decide +kernel)
theorem dbL_law_1778 : (decode dsL_law_1778 0 = .ok (.istore 7, 2) ∧ okop dsL_law_1778 0 = true) ∧ (decode dsL_law_1778 2 = .ok (.goto 1151, 3) ∧ okop dsL_law_1778 2 = true) ∧ (decode dsL_law_1778 5 = .ok (.aload_n 1, 1) ∧ okop dsL_law_1778 5 = true) ∧ (decode dsL_law_1778 6 = .ok (.aload_n 0, 1) ∧ okop dsL_law_1778 6 = true) ∧ (decode dsL_law_1778 7 = .ok (.iload 5, 2) ∧ okop dsL_law_1778 7 = true) ∧ (decode dsL_law_1778 9 = .ok (.iconst 1, 1) ∧ okop dsL_law_1778 9 = true) ∧ (decode dsL_law_1778 10 = .ok (.iadd, 1) ∧ okop dsL_law_1778 10 = true) ∧ (decode dsL_law_1778 11 = .ok (.iaload, 1) ∧ okop dsL_law_1778 11 = true) ∧ (decode dsL_law_1778 12 = .ok (.aload_n 0, 1) ∧ okop dsL_law_1778 12 = true) ∧ (decode dsL_law_1778 13 = .ok (.iload 5, 2) ∧ okop dsL_law_1778 13 = true) := by decide +kernel
theorem dL_law_1778 : decode cL_law 1778 = .ok (.istore 7, 2) := dgq (p := 0) daL_law_1778 dbL_law_1778.1
theorem dL_law_1780 : decode cL_law 1780 = .ok (.goto 1151, 3) := dgq (p := 2) daL_law_1778 dbL_law_1778.2.1
theorem dL_law_1783 : decode cL_law 1783 = .ok (.aload_n 1, 1) := dgq (p := 5) daL_law_1778 dbL_law_1778.2.2.1
theorem dL_law_1784 : decode cL_law 1784 = .ok (.aload_n 0, 1) := dgq (p := 6) daL_law_1778 dbL_law_1778.2.2.2.1
theorem dL_law_1785 : decode cL_law 1785 = .ok (.iload 5, 2) := dgq (p := 7) daL_law_1778 dbL_law_1778.2.2.2.2.1
theorem dL_law_1787 : decode cL_law 1787 = .ok (.iconst 1, 1) := dgq (p := 9) daL_law_1778 dbL_law_1778.2.2.2.2.2.1
theorem dL_law_1788 : decode cL_law 1788 = .ok (.iadd, 1) := dgq (p := 10) daL_law_1778 dbL_law_1778.2.2.2.2.2.2.1
theorem dL_law_1789 : decode cL_law 1789 = .ok (.iaload, 1) := dgq (p := 11) daL_law_1778 dbL_law_1778.2.2.2.2.2.2.2.1
theorem dL_law_1790 : decode cL_law 1790 = .ok (.aload_n 0, 1) := dgq (p := 12) daL_law_1778 dbL_law_1778.2.2.2.2.2.2.2.2.1
theorem dL_law_1791 : decode cL_law 1791 = .ok (.iload 5, 2) := dgq (p := 13) daL_law_1778 dbL_law_1778.2.2.2.2.2.2.2.2.2
def dsL_law_1793 : ByteArray := ⟨#[5, 96, 46, 42, 21, 5, 6, 96, 46, 153, 0, 7, 4]⟩
theorem daL_law_1793 : agB cL_law dsL_law_1793 1793 := agB_of (n := 13) (by decide +kernel)
theorem dbL_law_1793 : (decode dsL_law_1793 0 = .ok (.iconst 2, 1) ∧ okop dsL_law_1793 0 = true) ∧ (decode dsL_law_1793 1 = .ok (.iadd, 1) ∧ okop dsL_law_1793 1 = true) ∧ (decode dsL_law_1793 2 = .ok (.iaload, 1) ∧ okop dsL_law_1793 2 = true) ∧ (decode dsL_law_1793 3 = .ok (.aload_n 0, 1) ∧ okop dsL_law_1793 3 = true) ∧ (decode dsL_law_1793 4 = .ok (.iload 5, 2) ∧ okop dsL_law_1793 4 = true) ∧ (decode dsL_law_1793 6 = .ok (.iconst 3, 1) ∧ okop dsL_law_1793 6 = true) ∧ (decode dsL_law_1793 7 = .ok (.iadd, 1) ∧ okop dsL_law_1793 7 = true) ∧ (decode dsL_law_1793 8 = .ok (.iaload, 1) ∧ okop dsL_law_1793 8 = true) ∧ (decode dsL_law_1793 9 = .ok (.ifCond .eq 7, 3) ∧ okop dsL_law_1793 9 = true) ∧ (decode dsL_law_1793 12 = .ok (.iconst 1, 1) ∧ okop dsL_law_1793 12 = true) := by decide +kernel
theorem dL_law_1793 : decode cL_law 1793 = .ok (.iconst 2, 1) := dgq (p := 0) daL_law_1793 dbL_law_1793.1
theorem dL_law_1794 : decode cL_law 1794 = .ok (.iadd, 1) := dgq (p := 1) daL_law_1793 dbL_law_1793.2.1
theorem dL_law_1795 : decode cL_law 1795 = .ok (.iaload, 1) := dgq (p := 2) daL_law_1793 dbL_law_1793.2.2.1
theorem dL_law_1796 : decode cL_law 1796 = .ok (.aload_n 0, 1) := dgq (p := 3) daL_law_1793 dbL_law_1793.2.2.2.1
theorem dL_law_1797 : decode cL_law 1797 = .ok (.iload 5, 2) := dgq (p := 4) daL_law_1793 dbL_law_1793.2.2.2.2.1
theorem dL_law_1799 : decode cL_law 1799 = .ok (.iconst 3, 1) := dgq (p := 6) daL_law_1793 dbL_law_1793.2.2.2.2.2.1
theorem dL_law_1800 : decode cL_law 1800 = .ok (.iadd, 1) := dgq (p := 7) daL_law_1793 dbL_law_1793.2.2.2.2.2.2.1
theorem dL_law_1801 : decode cL_law 1801 = .ok (.iaload, 1) := dgq (p := 8) daL_law_1793 dbL_law_1793.2.2.2.2.2.2.2.1
theorem dL_law_1802 : decode cL_law 1802 = .ok (.ifCond .eq 7, 3) := dgq (p := 9) daL_law_1793 dbL_law_1793.2.2.2.2.2.2.2.2.1
theorem dL_law_1805 : decode cL_law 1805 = .ok (.iconst 1, 1) := dgq (p := 12) daL_law_1793 dbL_law_1793.2.2.2.2.2.2.2.2.2
def dsL_law_1806 : ByteArray := ⟨#[167, 0, 4, 3, 45, 184, 1, 75, 54, 6, 44, 42, 21, 5, 4, 96]⟩
theorem daL_law_1806 : agB cL_law dsL_law_1806 1806 := agB_of (n := 16) (by decide +kernel)
theorem dbL_law_1806 : (decode dsL_law_1806 0 = .ok (.goto 4, 3) ∧ okop dsL_law_1806 0 = true) ∧ (decode dsL_law_1806 3 = .ok (.iconst 0, 1) ∧ okop dsL_law_1806 3 = true) ∧ (decode dsL_law_1806 4 = .ok (.aload_n 3, 1) ∧ okop dsL_law_1806 4 = true) ∧ (decode dsL_law_1806 5 = .ok (.invokestatic 331, 3) ∧ okop dsL_law_1806 5 = true) ∧ (decode dsL_law_1806 8 = .ok (.istore 6, 2) ∧ okop dsL_law_1806 8 = true) ∧ (decode dsL_law_1806 10 = .ok (.aload_n 2, 1) ∧ okop dsL_law_1806 10 = true) ∧ (decode dsL_law_1806 11 = .ok (.aload_n 0, 1) ∧ okop dsL_law_1806 11 = true) ∧ (decode dsL_law_1806 12 = .ok (.iload 5, 2) ∧ okop dsL_law_1806 12 = true) ∧ (decode dsL_law_1806 14 = .ok (.iconst 1, 1) ∧ okop dsL_law_1806 14 = true) ∧ (decode dsL_law_1806 15 = .ok (.iadd, 1) ∧ okop dsL_law_1806 15 = true) := by decide +kernel
theorem dL_law_1806 : decode cL_law 1806 = .ok (.goto 4, 3) := dgq (p := 0) daL_law_1806 dbL_law_1806.1
theorem dL_law_1809 : decode cL_law 1809 = .ok (.iconst 0, 1) := dgq (p := 3) daL_law_1806 dbL_law_1806.2.1
theorem dL_law_1810 : decode cL_law 1810 = .ok (.aload_n 3, 1) := dgq (p := 4) daL_law_1806 dbL_law_1806.2.2.1
theorem dL_law_1811 : decode cL_law 1811 = .ok (.invokestatic 331, 3) := dgq (p := 5) daL_law_1806 dbL_law_1806.2.2.2.1
theorem dL_law_1814 : decode cL_law 1814 = .ok (.istore 6, 2) := dgq (p := 8) daL_law_1806 dbL_law_1806.2.2.2.2.1
theorem dL_law_1816 : decode cL_law 1816 = .ok (.aload_n 2, 1) := dgq (p := 10) daL_law_1806 dbL_law_1806.2.2.2.2.2.1
theorem dL_law_1817 : decode cL_law 1817 = .ok (.aload_n 0, 1) := dgq (p := 11) daL_law_1806 dbL_law_1806.2.2.2.2.2.2.1
theorem dL_law_1818 : decode cL_law 1818 = .ok (.iload 5, 2) := dgq (p := 12) daL_law_1806 dbL_law_1806.2.2.2.2.2.2.2.1
theorem dL_law_1820 : decode cL_law 1820 = .ok (.iconst 1, 1) := dgq (p := 14) daL_law_1806 dbL_law_1806.2.2.2.2.2.2.2.2.1
theorem dL_law_1821 : decode cL_law 1821 = .ok (.iadd, 1) := dgq (p := 15) daL_law_1806 dbL_law_1806.2.2.2.2.2.2.2.2.2
def dsL_law_1822 : ByteArray := ⟨#[46, 42, 21, 5, 5, 96, 46, 42, 21, 5, 6, 96]⟩
theorem daL_law_1822 : agB cL_law dsL_law_1822 1822 := agB_of (n := 12) (by decide +kernel)
theorem dbL_law_1822 : (decode dsL_law_1822 0 = .ok (.iaload, 1) ∧ okop dsL_law_1822 0 = true) ∧ (decode dsL_law_1822 1 = .ok (.aload_n 0, 1) ∧ okop dsL_law_1822 1 = true) ∧ (decode dsL_law_1822 2 = .ok (.iload 5, 2) ∧ okop dsL_law_1822 2 = true) ∧ (decode dsL_law_1822 4 = .ok (.iconst 2, 1) ∧ okop dsL_law_1822 4 = true) ∧ (decode dsL_law_1822 5 = .ok (.iadd, 1) ∧ okop dsL_law_1822 5 = true) ∧ (decode dsL_law_1822 6 = .ok (.iaload, 1) ∧ okop dsL_law_1822 6 = true) ∧ (decode dsL_law_1822 7 = .ok (.aload_n 0, 1) ∧ okop dsL_law_1822 7 = true) ∧ (decode dsL_law_1822 8 = .ok (.iload 5, 2) ∧ okop dsL_law_1822 8 = true) ∧ (decode dsL_law_1822 10 = .ok (.iconst 3, 1) ∧ okop dsL_law_1822 10 = true) ∧ (decode dsL_law_1822 11 = .ok (.iadd, 1) ∧ okop dsL_law_1822 11 = true) := by decide +kernel
theorem dL_law_1822 : decode cL_law 1822 = .ok (.iaload, 1) := dgq (p := 0) daL_law_1822 dbL_law_1822.1
theorem dL_law_1823 : decode cL_law 1823 = .ok (.aload_n 0, 1) := dgq (p := 1) daL_law_1822 dbL_law_1822.2.1
theorem dL_law_1824 : decode cL_law 1824 = .ok (.iload 5, 2) := dgq (p := 2) daL_law_1822 dbL_law_1822.2.2.1
theorem dL_law_1826 : decode cL_law 1826 = .ok (.iconst 2, 1) := dgq (p := 4) daL_law_1822 dbL_law_1822.2.2.2.1
theorem dL_law_1827 : decode cL_law 1827 = .ok (.iadd, 1) := dgq (p := 5) daL_law_1822 dbL_law_1822.2.2.2.2.1
theorem dL_law_1828 : decode cL_law 1828 = .ok (.iaload, 1) := dgq (p := 6) daL_law_1822 dbL_law_1822.2.2.2.2.2.1
theorem dL_law_1829 : decode cL_law 1829 = .ok (.aload_n 0, 1) := dgq (p := 7) daL_law_1822 dbL_law_1822.2.2.2.2.2.2.1
theorem dL_law_1830 : decode cL_law 1830 = .ok (.iload 5, 2) := dgq (p := 8) daL_law_1822 dbL_law_1822.2.2.2.2.2.2.2.1
theorem dL_law_1832 : decode cL_law 1832 = .ok (.iconst 3, 1) := dgq (p := 10) daL_law_1822 dbL_law_1822.2.2.2.2.2.2.2.2.1
theorem dL_law_1833 : decode cL_law 1833 = .ok (.iadd, 1) := dgq (p := 11) daL_law_1822 dbL_law_1822.2.2.2.2.2.2.2.2.2
def dsL_law_1834 : ByteArray := ⟨#[46, 153, 0, 7, 4, 167, 0, 4, 3, 182, 1, 78, 54, 7, 167, 4, 59, 43, 42]⟩
theorem daL_law_1834 : agB cL_law dsL_law_1834 1834 := agB_of (n := 19) (by decide +kernel)
theorem dbL_law_1834 : (decode dsL_law_1834 0 = .ok (.iaload, 1) ∧ okop dsL_law_1834 0 = true) ∧ (decode dsL_law_1834 1 = .ok (.ifCond .eq 7, 3) ∧ okop dsL_law_1834 1 = true) ∧ (decode dsL_law_1834 4 = .ok (.iconst 1, 1) ∧ okop dsL_law_1834 4 = true) ∧ (decode dsL_law_1834 5 = .ok (.goto 4, 3) ∧ okop dsL_law_1834 5 = true) ∧ (decode dsL_law_1834 8 = .ok (.iconst 0, 1) ∧ okop dsL_law_1834 8 = true) ∧ (decode dsL_law_1834 9 = .ok (.invokevirtual 334, 3) ∧ okop dsL_law_1834 9 = true) ∧ (decode dsL_law_1834 12 = .ok (.istore 7, 2) ∧ okop dsL_law_1834 12 = true) ∧ (decode dsL_law_1834 14 = .ok (.goto 1083, 3) ∧ okop dsL_law_1834 14 = true) ∧ (decode dsL_law_1834 17 = .ok (.aload_n 1, 1) ∧ okop dsL_law_1834 17 = true) ∧ (decode dsL_law_1834 18 = .ok (.aload_n 0, 1) ∧ okop dsL_law_1834 18 = true) := by decide +kernel
theorem dL_law_1834 : decode cL_law 1834 = .ok (.iaload, 1) := dgq (p := 0) daL_law_1834 dbL_law_1834.1
theorem dL_law_1835 : decode cL_law 1835 = .ok (.ifCond .eq 7, 3) := dgq (p := 1) daL_law_1834 dbL_law_1834.2.1
theorem dL_law_1838 : decode cL_law 1838 = .ok (.iconst 1, 1) := dgq (p := 4) daL_law_1834 dbL_law_1834.2.2.1
theorem dL_law_1839 : decode cL_law 1839 = .ok (.goto 4, 3) := dgq (p := 5) daL_law_1834 dbL_law_1834.2.2.2.1
theorem dL_law_1842 : decode cL_law 1842 = .ok (.iconst 0, 1) := dgq (p := 8) daL_law_1834 dbL_law_1834.2.2.2.2.1
theorem dL_law_1843 : decode cL_law 1843 = .ok (.invokevirtual 334, 3) := dgq (p := 9) daL_law_1834 dbL_law_1834.2.2.2.2.2.1
theorem dL_law_1846 : decode cL_law 1846 = .ok (.istore 7, 2) := dgq (p := 12) daL_law_1834 dbL_law_1834.2.2.2.2.2.2.1
theorem dL_law_1848 : decode cL_law 1848 = .ok (.goto 1083, 3) := dgq (p := 14) daL_law_1834 dbL_law_1834.2.2.2.2.2.2.2.1
theorem dL_law_1851 : decode cL_law 1851 = .ok (.aload_n 1, 1) := dgq (p := 17) daL_law_1834 dbL_law_1834.2.2.2.2.2.2.2.2.1
theorem dL_law_1852 : decode cL_law 1852 = .ok (.aload_n 0, 1) := dgq (p := 18) daL_law_1834 dbL_law_1834.2.2.2.2.2.2.2.2.2
def dsL_law_1853 : ByteArray := ⟨#[21, 5, 4, 96, 46, 45, 184, 1, 79, 54, 6, 44, 42, 21, 5]⟩
theorem daL_law_1853 : agB cL_law dsL_law_1853 1853 := agB_of (n := 15) (by decide +kernel)
theorem dbL_law_1853 : (decode dsL_law_1853 0 = .ok (.iload 5, 2) ∧ okop dsL_law_1853 0 = true) ∧ (decode dsL_law_1853 2 = .ok (.iconst 1, 1) ∧ okop dsL_law_1853 2 = true) ∧ (decode dsL_law_1853 3 = .ok (.iadd, 1) ∧ okop dsL_law_1853 3 = true) ∧ (decode dsL_law_1853 4 = .ok (.iaload, 1) ∧ okop dsL_law_1853 4 = true) ∧ (decode dsL_law_1853 5 = .ok (.aload_n 3, 1) ∧ okop dsL_law_1853 5 = true) ∧ (decode dsL_law_1853 6 = .ok (.invokestatic 335, 3) ∧ okop dsL_law_1853 6 = true) ∧ (decode dsL_law_1853 9 = .ok (.istore 6, 2) ∧ okop dsL_law_1853 9 = true) ∧ (decode dsL_law_1853 11 = .ok (.aload_n 2, 1) ∧ okop dsL_law_1853 11 = true) ∧ (decode dsL_law_1853 12 = .ok (.aload_n 0, 1) ∧ okop dsL_law_1853 12 = true) ∧ (decode dsL_law_1853 13 = .ok (.iload 5, 2) ∧ okop dsL_law_1853 13 = true) := by decide +kernel
theorem dL_law_1853 : decode cL_law 1853 = .ok (.iload 5, 2) := dgq (p := 0) daL_law_1853 dbL_law_1853.1
theorem dL_law_1855 : decode cL_law 1855 = .ok (.iconst 1, 1) := dgq (p := 2) daL_law_1853 dbL_law_1853.2.1
theorem dL_law_1856 : decode cL_law 1856 = .ok (.iadd, 1) := dgq (p := 3) daL_law_1853 dbL_law_1853.2.2.1
theorem dL_law_1857 : decode cL_law 1857 = .ok (.iaload, 1) := dgq (p := 4) daL_law_1853 dbL_law_1853.2.2.2.1
theorem dL_law_1858 : decode cL_law 1858 = .ok (.aload_n 3, 1) := dgq (p := 5) daL_law_1853 dbL_law_1853.2.2.2.2.1
theorem dL_law_1859 : decode cL_law 1859 = .ok (.invokestatic 335, 3) := dgq (p := 6) daL_law_1853 dbL_law_1853.2.2.2.2.2.1
theorem dL_law_1862 : decode cL_law 1862 = .ok (.istore 6, 2) := dgq (p := 9) daL_law_1853 dbL_law_1853.2.2.2.2.2.2.1
theorem dL_law_1864 : decode cL_law 1864 = .ok (.aload_n 2, 1) := dgq (p := 11) daL_law_1853 dbL_law_1853.2.2.2.2.2.2.2.1
theorem dL_law_1865 : decode cL_law 1865 = .ok (.aload_n 0, 1) := dgq (p := 12) daL_law_1853 dbL_law_1853.2.2.2.2.2.2.2.2.1
theorem dL_law_1866 : decode cL_law 1866 = .ok (.iload 5, 2) := dgq (p := 13) daL_law_1853 dbL_law_1853.2.2.2.2.2.2.2.2.2
def dsL_law_1868 : ByteArray := ⟨#[4, 96, 46, 182, 1, 81, 54, 7, 167, 4, 31, 43, 42, 21, 5, 4]⟩
theorem daL_law_1868 : agB cL_law dsL_law_1868 1868 := agB_of (n := 16) (by decide +kernel)
theorem dbL_law_1868 : (decode dsL_law_1868 0 = .ok (.iconst 1, 1) ∧ okop dsL_law_1868 0 = true) ∧ (decode dsL_law_1868 1 = .ok (.iadd, 1) ∧ okop dsL_law_1868 1 = true) ∧ (decode dsL_law_1868 2 = .ok (.iaload, 1) ∧ okop dsL_law_1868 2 = true) ∧ (decode dsL_law_1868 3 = .ok (.invokevirtual 337, 3) ∧ okop dsL_law_1868 3 = true) ∧ (decode dsL_law_1868 6 = .ok (.istore 7, 2) ∧ okop dsL_law_1868 6 = true) ∧ (decode dsL_law_1868 8 = .ok (.goto 1055, 3) ∧ okop dsL_law_1868 8 = true) ∧ (decode dsL_law_1868 11 = .ok (.aload_n 1, 1) ∧ okop dsL_law_1868 11 = true) ∧ (decode dsL_law_1868 12 = .ok (.aload_n 0, 1) ∧ okop dsL_law_1868 12 = true) ∧ (decode dsL_law_1868 13 = .ok (.iload 5, 2) ∧ okop dsL_law_1868 13 = true) ∧ (decode dsL_law_1868 15 = .ok (.iconst 1, 1) ∧ okop dsL_law_1868 15 = true) := by decide +kernel
theorem dL_law_1868 : decode cL_law 1868 = .ok (.iconst 1, 1) := dgq (p := 0) daL_law_1868 dbL_law_1868.1
theorem dL_law_1869 : decode cL_law 1869 = .ok (.iadd, 1) := dgq (p := 1) daL_law_1868 dbL_law_1868.2.1
theorem dL_law_1870 : decode cL_law 1870 = .ok (.iaload, 1) := dgq (p := 2) daL_law_1868 dbL_law_1868.2.2.1
theorem dL_law_1871 : decode cL_law 1871 = .ok (.invokevirtual 337, 3) := dgq (p := 3) daL_law_1868 dbL_law_1868.2.2.2.1
theorem dL_law_1874 : decode cL_law 1874 = .ok (.istore 7, 2) := dgq (p := 6) daL_law_1868 dbL_law_1868.2.2.2.2.1
theorem dL_law_1876 : decode cL_law 1876 = .ok (.goto 1055, 3) := dgq (p := 8) daL_law_1868 dbL_law_1868.2.2.2.2.2.1
theorem dL_law_1879 : decode cL_law 1879 = .ok (.aload_n 1, 1) := dgq (p := 11) daL_law_1868 dbL_law_1868.2.2.2.2.2.2.1
theorem dL_law_1880 : decode cL_law 1880 = .ok (.aload_n 0, 1) := dgq (p := 12) daL_law_1868 dbL_law_1868.2.2.2.2.2.2.2.1
theorem dL_law_1881 : decode cL_law 1881 = .ok (.iload 5, 2) := dgq (p := 13) daL_law_1868 dbL_law_1868.2.2.2.2.2.2.2.2.1
theorem dL_law_1883 : decode cL_law 1883 = .ok (.iconst 1, 1) := dgq (p := 15) daL_law_1868 dbL_law_1868.2.2.2.2.2.2.2.2.2
def dsL_law_1884 : ByteArray := ⟨#[96, 46, 45, 184, 1, 82, 54, 6, 44, 42, 21, 5, 4, 96]⟩
theorem daL_law_1884 : agB cL_law dsL_law_1884 1884 := agB_of (n := 14) (by decide +kernel)
theorem dbL_law_1884 : (decode dsL_law_1884 0 = .ok (.iadd, 1) ∧ okop dsL_law_1884 0 = true) ∧ (decode dsL_law_1884 1 = .ok (.iaload, 1) ∧ okop dsL_law_1884 1 = true) ∧ (decode dsL_law_1884 2 = .ok (.aload_n 3, 1) ∧ okop dsL_law_1884 2 = true) ∧ (decode dsL_law_1884 3 = .ok (.invokestatic 338, 3) ∧ okop dsL_law_1884 3 = true) ∧ (decode dsL_law_1884 6 = .ok (.istore 6, 2) ∧ okop dsL_law_1884 6 = true) ∧ (decode dsL_law_1884 8 = .ok (.aload_n 2, 1) ∧ okop dsL_law_1884 8 = true) ∧ (decode dsL_law_1884 9 = .ok (.aload_n 0, 1) ∧ okop dsL_law_1884 9 = true) ∧ (decode dsL_law_1884 10 = .ok (.iload 5, 2) ∧ okop dsL_law_1884 10 = true) ∧ (decode dsL_law_1884 12 = .ok (.iconst 1, 1) ∧ okop dsL_law_1884 12 = true) ∧ (decode dsL_law_1884 13 = .ok (.iadd, 1) ∧ okop dsL_law_1884 13 = true) := by decide +kernel
theorem dL_law_1884 : decode cL_law 1884 = .ok (.iadd, 1) := dgq (p := 0) daL_law_1884 dbL_law_1884.1
theorem dL_law_1885 : decode cL_law 1885 = .ok (.iaload, 1) := dgq (p := 1) daL_law_1884 dbL_law_1884.2.1
theorem dL_law_1886 : decode cL_law 1886 = .ok (.aload_n 3, 1) := dgq (p := 2) daL_law_1884 dbL_law_1884.2.2.1
theorem dL_law_1887 : decode cL_law 1887 = .ok (.invokestatic 338, 3) := dgq (p := 3) daL_law_1884 dbL_law_1884.2.2.2.1
theorem dL_law_1890 : decode cL_law 1890 = .ok (.istore 6, 2) := dgq (p := 6) daL_law_1884 dbL_law_1884.2.2.2.2.1
theorem dL_law_1892 : decode cL_law 1892 = .ok (.aload_n 2, 1) := dgq (p := 8) daL_law_1884 dbL_law_1884.2.2.2.2.2.1
theorem dL_law_1893 : decode cL_law 1893 = .ok (.aload_n 0, 1) := dgq (p := 9) daL_law_1884 dbL_law_1884.2.2.2.2.2.2.1
theorem dL_law_1894 : decode cL_law 1894 = .ok (.iload 5, 2) := dgq (p := 10) daL_law_1884 dbL_law_1884.2.2.2.2.2.2.2.1
theorem dL_law_1896 : decode cL_law 1896 = .ok (.iconst 1, 1) := dgq (p := 12) daL_law_1884 dbL_law_1884.2.2.2.2.2.2.2.2.1
theorem dL_law_1897 : decode cL_law 1897 = .ok (.iadd, 1) := dgq (p := 13) daL_law_1884 dbL_law_1884.2.2.2.2.2.2.2.2.2
def dsL_law_1898 : ByteArray := ⟨#[46, 182, 1, 84, 54, 7, 167, 4, 3, 43, 42, 21, 5, 4, 96, 46]⟩
theorem daL_law_1898 : agB cL_law dsL_law_1898 1898 := agB_of (n := 16) (by decide +kernel)
theorem dbL_law_1898 : (decode dsL_law_1898 0 = .ok (.iaload, 1) ∧ okop dsL_law_1898 0 = true) ∧ (decode dsL_law_1898 1 = .ok (.invokevirtual 340, 3) ∧ okop dsL_law_1898 1 = true) ∧ (decode dsL_law_1898 4 = .ok (.istore 7, 2) ∧ okop dsL_law_1898 4 = true) ∧ (decode dsL_law_1898 6 = .ok (.goto 1027, 3) ∧ okop dsL_law_1898 6 = true) ∧ (decode dsL_law_1898 9 = .ok (.aload_n 1, 1) ∧ okop dsL_law_1898 9 = true) ∧ (decode dsL_law_1898 10 = .ok (.aload_n 0, 1) ∧ okop dsL_law_1898 10 = true) ∧ (decode dsL_law_1898 11 = .ok (.iload 5, 2) ∧ okop dsL_law_1898 11 = true) ∧ (decode dsL_law_1898 13 = .ok (.iconst 1, 1) ∧ okop dsL_law_1898 13 = true) ∧ (decode dsL_law_1898 14 = .ok (.iadd, 1) ∧ okop dsL_law_1898 14 = true) ∧ (decode dsL_law_1898 15 = .ok (.iaload, 1) ∧ okop dsL_law_1898 15 = true) := by decide +kernel
theorem dL_law_1898 : decode cL_law 1898 = .ok (.iaload, 1) := dgq (p := 0) daL_law_1898 dbL_law_1898.1
theorem dL_law_1899 : decode cL_law 1899 = .ok (.invokevirtual 340, 3) := dgq (p := 1) daL_law_1898 dbL_law_1898.2.1
theorem dL_law_1902 : decode cL_law 1902 = .ok (.istore 7, 2) := dgq (p := 4) daL_law_1898 dbL_law_1898.2.2.1
theorem dL_law_1904 : decode cL_law 1904 = .ok (.goto 1027, 3) := dgq (p := 6) daL_law_1898 dbL_law_1898.2.2.2.1
theorem dL_law_1907 : decode cL_law 1907 = .ok (.aload_n 1, 1) := dgq (p := 9) daL_law_1898 dbL_law_1898.2.2.2.2.1
theorem dL_law_1908 : decode cL_law 1908 = .ok (.aload_n 0, 1) := dgq (p := 10) daL_law_1898 dbL_law_1898.2.2.2.2.2.1
theorem dL_law_1909 : decode cL_law 1909 = .ok (.iload 5, 2) := dgq (p := 11) daL_law_1898 dbL_law_1898.2.2.2.2.2.2.1
theorem dL_law_1911 : decode cL_law 1911 = .ok (.iconst 1, 1) := dgq (p := 13) daL_law_1898 dbL_law_1898.2.2.2.2.2.2.2.1
theorem dL_law_1912 : decode cL_law 1912 = .ok (.iadd, 1) := dgq (p := 14) daL_law_1898 dbL_law_1898.2.2.2.2.2.2.2.2.1
theorem dL_law_1913 : decode cL_law 1913 = .ok (.iaload, 1) := dgq (p := 15) daL_law_1898 dbL_law_1898.2.2.2.2.2.2.2.2.2
def dsL_law_1914 : ByteArray := ⟨#[42, 21, 5, 5, 96, 46, 42, 21, 5, 6, 96, 46]⟩
theorem daL_law_1914 : agB cL_law dsL_law_1914 1914 := agB_of (n := 12) (by decide +kernel)
theorem dbL_law_1914 : (decode dsL_law_1914 0 = .ok (.aload_n 0, 1) ∧ okop dsL_law_1914 0 = true) ∧ (decode dsL_law_1914 1 = .ok (.iload 5, 2) ∧ okop dsL_law_1914 1 = true) ∧ (decode dsL_law_1914 3 = .ok (.iconst 2, 1) ∧ okop dsL_law_1914 3 = true) ∧ (decode dsL_law_1914 4 = .ok (.iadd, 1) ∧ okop dsL_law_1914 4 = true) ∧ (decode dsL_law_1914 5 = .ok (.iaload, 1) ∧ okop dsL_law_1914 5 = true) ∧ (decode dsL_law_1914 6 = .ok (.aload_n 0, 1) ∧ okop dsL_law_1914 6 = true) ∧ (decode dsL_law_1914 7 = .ok (.iload 5, 2) ∧ okop dsL_law_1914 7 = true) ∧ (decode dsL_law_1914 9 = .ok (.iconst 3, 1) ∧ okop dsL_law_1914 9 = true) ∧ (decode dsL_law_1914 10 = .ok (.iadd, 1) ∧ okop dsL_law_1914 10 = true) ∧ (decode dsL_law_1914 11 = .ok (.iaload, 1) ∧ okop dsL_law_1914 11 = true) := by decide +kernel
theorem dL_law_1914 : decode cL_law 1914 = .ok (.aload_n 0, 1) := dgq (p := 0) daL_law_1914 dbL_law_1914.1
theorem dL_law_1915 : decode cL_law 1915 = .ok (.iload 5, 2) := dgq (p := 1) daL_law_1914 dbL_law_1914.2.1
theorem dL_law_1917 : decode cL_law 1917 = .ok (.iconst 2, 1) := dgq (p := 3) daL_law_1914 dbL_law_1914.2.2.1
theorem dL_law_1918 : decode cL_law 1918 = .ok (.iadd, 1) := dgq (p := 4) daL_law_1914 dbL_law_1914.2.2.2.1
theorem dL_law_1919 : decode cL_law 1919 = .ok (.iaload, 1) := dgq (p := 5) daL_law_1914 dbL_law_1914.2.2.2.2.1
theorem dL_law_1920 : decode cL_law 1920 = .ok (.aload_n 0, 1) := dgq (p := 6) daL_law_1914 dbL_law_1914.2.2.2.2.2.1
theorem dL_law_1921 : decode cL_law 1921 = .ok (.iload 5, 2) := dgq (p := 7) daL_law_1914 dbL_law_1914.2.2.2.2.2.2.1
theorem dL_law_1923 : decode cL_law 1923 = .ok (.iconst 3, 1) := dgq (p := 9) daL_law_1914 dbL_law_1914.2.2.2.2.2.2.2.1
theorem dL_law_1924 : decode cL_law 1924 = .ok (.iadd, 1) := dgq (p := 10) daL_law_1914 dbL_law_1914.2.2.2.2.2.2.2.2.1
theorem dL_law_1925 : decode cL_law 1925 = .ok (.iaload, 1) := dgq (p := 11) daL_law_1914 dbL_law_1914.2.2.2.2.2.2.2.2.2
def dsL_law_1926 : ByteArray := ⟨#[45, 184, 1, 85, 54, 6, 44, 42, 21, 5, 4, 96, 46, 42]⟩
theorem daL_law_1926 : agB cL_law dsL_law_1926 1926 := agB_of (n := 14) (by decide +kernel)
theorem dbL_law_1926 : (decode dsL_law_1926 0 = .ok (.aload_n 3, 1) ∧ okop dsL_law_1926 0 = true) ∧ (decode dsL_law_1926 1 = .ok (.invokestatic 341, 3) ∧ okop dsL_law_1926 1 = true) ∧ (decode dsL_law_1926 4 = .ok (.istore 6, 2) ∧ okop dsL_law_1926 4 = true) ∧ (decode dsL_law_1926 6 = .ok (.aload_n 2, 1) ∧ okop dsL_law_1926 6 = true) ∧ (decode dsL_law_1926 7 = .ok (.aload_n 0, 1) ∧ okop dsL_law_1926 7 = true) ∧ (decode dsL_law_1926 8 = .ok (.iload 5, 2) ∧ okop dsL_law_1926 8 = true) ∧ (decode dsL_law_1926 10 = .ok (.iconst 1, 1) ∧ okop dsL_law_1926 10 = true) ∧ (decode dsL_law_1926 11 = .ok (.iadd, 1) ∧ okop dsL_law_1926 11 = true) ∧ (decode dsL_law_1926 12 = .ok (.iaload, 1) ∧ okop dsL_law_1926 12 = true) ∧ (decode dsL_law_1926 13 = .ok (.aload_n 0, 1) ∧ okop dsL_law_1926 13 = true) := by decide +kernel
theorem dL_law_1926 : decode cL_law 1926 = .ok (.aload_n 3, 1) := dgq (p := 0) daL_law_1926 dbL_law_1926.1
theorem dL_law_1927 : decode cL_law 1927 = .ok (.invokestatic 341, 3) := dgq (p := 1) daL_law_1926 dbL_law_1926.2.1
theorem dL_law_1930 : decode cL_law 1930 = .ok (.istore 6, 2) := dgq (p := 4) daL_law_1926 dbL_law_1926.2.2.1
theorem dL_law_1932 : decode cL_law 1932 = .ok (.aload_n 2, 1) := dgq (p := 6) daL_law_1926 dbL_law_1926.2.2.2.1
theorem dL_law_1933 : decode cL_law 1933 = .ok (.aload_n 0, 1) := dgq (p := 7) daL_law_1926 dbL_law_1926.2.2.2.2.1
theorem dL_law_1934 : decode cL_law 1934 = .ok (.iload 5, 2) := dgq (p := 8) daL_law_1926 dbL_law_1926.2.2.2.2.2.1
theorem dL_law_1936 : decode cL_law 1936 = .ok (.iconst 1, 1) := dgq (p := 10) daL_law_1926 dbL_law_1926.2.2.2.2.2.2.1
theorem dL_law_1937 : decode cL_law 1937 = .ok (.iadd, 1) := dgq (p := 11) daL_law_1926 dbL_law_1926.2.2.2.2.2.2.2.1
theorem dL_law_1938 : decode cL_law 1938 = .ok (.iaload, 1) := dgq (p := 12) daL_law_1926 dbL_law_1926.2.2.2.2.2.2.2.2.1
theorem dL_law_1939 : decode cL_law 1939 = .ok (.aload_n 0, 1) := dgq (p := 13) daL_law_1926 dbL_law_1926.2.2.2.2.2.2.2.2.2

