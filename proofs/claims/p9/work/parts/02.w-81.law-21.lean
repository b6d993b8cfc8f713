def dsL_law_685 : ByteArray := ⟨#[184, 1, 5, 54, 6, 44, 42, 21, 5, 4, 96, 46, 42, 21, 5, 5, 96, 46, 182, 1, 7, 55, 7, 167, 8, 175, 43, 42, 21, 5, 4, 96, 46, 42, 21, 5]⟩
theorem daL_law_685 : agB cL_law dsL_law_685 685 := agB_of (n := 36) (by decide +kernel)
theorem dbL_law_685 : (decode dsL_law_685 0 = .ok (.invokestatic 261, 3) ∧ okop dsL_law_685 0 = true) ∧ (decode dsL_law_685 3 = .ok (.istore 6, 2) ∧ okop dsL_law_685 3 = true) ∧ (decode dsL_law_685 5 = .ok (.aload_n 2, 1) ∧ okop dsL_law_685 5 = true) ∧ (decode dsL_law_685 6 = .ok (.aload_n 0, 1) ∧ okop dsL_law_685 6 = true) ∧ (decode dsL_law_685 7 = .ok (.iload 5, 2) ∧ okop dsL_law_685 7 = true) ∧ (decode dsL_law_685 9 = .ok (.iconst 1, 1) ∧ okop dsL_law_685 9 = true) ∧ (decode dsL_law_685 10 = .ok (.iadd, 1) ∧ okop dsL_law_685 10 = true) ∧ (decode dsL_law_685 11 = .ok (.iaload, 1) ∧ okop dsL_law_685 11 = true) ∧ (decode dsL_law_685 12 = .ok (.aload_n 0, 1) ∧ okop dsL_law_685 12 = true) ∧ (decode dsL_law_685 13 = .ok (.iload 5, 2) ∧ okop dsL_law_685 13 = true) ∧ (decode dsL_law_685 15 = .ok (.iconst 2, 1) ∧ okop dsL_law_685 15 = true) ∧ (decode dsL_law_685 16 = .ok (.iadd, 1) ∧ okop dsL_law_685 16 = true) ∧ (decode dsL_law_685 17 = .ok (.iaload, 1) ∧ okop dsL_law_685 17 = true) ∧ (decode dsL_law_685 18 = .ok (.invokevirtual 263, 3) ∧ okop dsL_law_685 18 = true) ∧ (decode dsL_law_685 21 = .ok (.lstore 7, 2) ∧ okop dsL_law_685 21 = true) ∧ (decode dsL_law_685 23 = .ok (.goto 2223, 3) ∧ okop dsL_law_685 23 = true) ∧ (decode dsL_law_685 26 = .ok (.aload_n 1, 1) ∧ okop dsL_law_685 26 = true) ∧ (decode dsL_law_685 27 = .ok (.aload_n 0, 1) ∧ okop dsL_law_685 27 = true) ∧ (decode dsL_law_685 28 = .ok (.iload 5, 2) ∧ okop dsL_law_685 28 = true) ∧ (decode dsL_law_685 30 = .ok (.iconst 1, 1) ∧ okop dsL_law_685 30 = true) ∧ (decode dsL_law_685 31 = .ok (.iadd, 1) ∧ okop dsL_law_685 31 = true) ∧ (decode dsL_law_685 32 = .ok (.iaload, 1) ∧ okop dsL_law_685 32 = true) ∧ (decode dsL_law_685 33 = .ok (.aload_n 0, 1) ∧ okop dsL_law_685 33 = true) ∧ (decode dsL_law_685 34 = .ok (.iload 5, 2) ∧ okop dsL_law_685 34 = true) := by decide +kernel
theorem dL_law_685 : decode cL_law 685 = .ok (.invokestatic 261, 3) := dgq (p := 0) daL_law_685 dbL_law_685.1
theorem dL_law_688 : decode cL_law 688 = .ok (.istore 6, 2) := dgq (p := 3) daL_law_685 dbL_law_685.2.1
theorem dL_law_690 : decode cL_law 690 = .ok (.aload_n 2, 1) := dgq (p := 5) daL_law_685 dbL_law_685.2.2.1
theorem dL_law_691 : decode cL_law 691 = .ok (.aload_n 0, 1) := dgq (p := 6) daL_law_685 dbL_law_685.2.2.2.1
theorem dL_law_692 : decode cL_law 692 = .ok (.iload 5, 2) := dgq (p := 7) daL_law_685 dbL_law_685.2.2.2.2.1
theorem dL_law_694 : decode cL_law 694 = .ok (.iconst 1, 1) := dgq (p := 9) daL_law_685 dbL_law_685.2.2.2.2.2.1
theorem dL_law_695 : decode cL_law 695 = .ok (.iadd, 1) := dgq (p := 10) daL_law_685 dbL_law_685.2.2.2.2.2.2.1
theorem dL_law_696 : decode cL_law 696 = .ok (.iaload, 1) := dgq (p := 11) daL_law_685 dbL_law_685.2.2.2.2.2.2.2.1
theorem dL_law_697 : decode cL_law 697 = .ok (.aload_n 0, 1) := dgq (p := 12) daL_law_685 dbL_law_685.2.2.2.2.2.2.2.2.1
theorem dL_law_698 : decode cL_law 698 = .ok (.iload 5, 2) := dgq (p := 13) daL_law_685 dbL_law_685.2.2.2.2.2.2.2.2.2.1
theorem dL_law_700 : decode cL_law 700 = .ok (.iconst 2, 1) := dgq (p := 15) daL_law_685 dbL_law_685.2.2.2.2.2.2.2.2.2.2.1
theorem dL_law_701 : decode cL_law 701 = .ok (.iadd, 1) := dgq (p := 16) daL_law_685 dbL_law_685.2.2.2.2.2.2.2.2.2.2.2.1
theorem dL_law_702 : decode cL_law 702 = .ok (.iaload, 1) := dgq (p := 17) daL_law_685 dbL_law_685.2.2.2.2.2.2.2.2.2.2.2.2.1
theorem dL_law_703 : decode cL_law 703 = .ok (.invokevirtual 263, 3) := dgq (p := 18) daL_law_685 dbL_law_685.2.2.2.2.2.2.2.2.2.2.2.2.2.1
theorem dL_law_706 : decode cL_law 706 = .ok (.lstore 7, 2) := dgq (p := 21) daL_law_685 dbL_law_685.2.2.2.2.2.2.2.2.2.2.2.2.2.2.1
theorem dL_law_708 : decode cL_law 708 = .ok (.goto 2223, 3) := dgq (p := 23) daL_law_685 dbL_law_685.2.2.2.2.2.2.2.2.2.2.2.2.2.2.2.1
theorem dL_law_711 : decode cL_law 711 = .ok (.aload_n 1, 1) := dgq (p := 26) daL_law_685 dbL_law_685.2.2.2.2.2.2.2.2.2.2.2.2.2.2.2.2.1
theorem dL_law_712 : decode cL_law 712 = .ok (.aload_n 0, 1) := dgq (p := 27) daL_law_685 dbL_law_685.2.2.2.2.2.2.2.2.2.2.2.2.2.2.2.2.2.1
theorem dL_law_713 : decode cL_law 713 = .ok (.iload 5, 2) := dgq (p := 28) daL_law_685 dbL_law_685.2.2.2.2.2.2.2.2.2.2.2.2.2.2.2.2.2.2.1
theorem dL_law_715 : decode cL_law 715 = .ok (.iconst 1, 1) := dgq (p := 30) daL_law_685 dbL_law_685.2.2.2.2.2.2.2.2.2.2.2.2.2.2.2.2.2.2.2.1
theorem dL_law_716 : decode cL_law 716 = .ok (.iadd, 1) := dgq (p := 31) daL_law_685 dbL_law_685.2.2.2.2.2.2.2.2.2.2.2.2.2.2.2.2.2.2.2.2.1
theorem dL_law_717 : decode cL_law 717 = .ok (.iaload, 1) := dgq (p := 32) daL_law_685 dbL_law_685.2.2.2.2.2.2.2.2.2.2.2.2.2.2.2.2.2.2.2.2.2.1
theorem dL_law_718 : decode cL_law 718 = .ok (.aload_n 0, 1) := dgq (p := 33) daL_law_685 dbL_law_685.2.2.2.2.2.2.2.2.2.2.2.2.2.2.2.2.2.2.2.2.2.2.1
theorem dL_law_719 : decode cL_law 719 = .ok (.iload 5, 2) := dgq (p := 34) daL_law_685 dbL_law_685.2.2.2.2.2.2.2.2.2.2.2.2.2.2.2.2.2.2.2.2.2.2.2
def dsL_law_721 : ByteArray := ⟨#[5, 96, 46, 45, 184, 1, 8, 54, 6, 44, 42, 21, 5, 4, 96, 46, 42, 21, 5, 5, 96, 46, 182, 1, 10, 54, 7, 167, 8, 135, 43, 42, 21, 5, 4]⟩
theorem daL_law_721 : agB cL_law dsL_law_721 721 := agB_of (n := 35) (by decide +kernel)
theorem dbL_law_721 : (decode dsL_law_721 0 = .ok (.iconst 2, 1) ∧ okop dsL_law_721 0 = true) ∧ (decode dsL_law_721 1 = .ok (.iadd, 1) ∧ okop dsL_law_721 1 = true) ∧ (decode dsL_law_721 2 = .ok (.iaload, 1) ∧ okop dsL_law_721 2 = true) ∧ (decode dsL_law_721 3 = .ok (.aload_n 3, 1) ∧ okop dsL_law_721 3 = true) ∧ (decode dsL_law_721 4 = .ok (.invokestatic 264, 3) ∧ okop dsL_law_721 4 = true) ∧ (decode dsL_law_721 7 = .ok (.istore 6, 2) ∧ okop dsL_law_721 7 = true) ∧ (decode dsL_law_721 9 = .ok (.aload_n 2, 1) ∧ okop dsL_law_721 9 = true) ∧ (decode dsL_law_721 10 = .ok (.aload_n 0, 1) ∧ okop dsL_law_721 10 = true) ∧ (decode dsL_law_721 11 = .ok (.iload 5, 2) ∧ okop dsL_law_721 11 = true) ∧ (decode dsL_law_721 13 = .ok (.iconst 1, 1) ∧ okop dsL_law_721 13 = true) ∧ (decode dsL_law_721 14 = .ok (.iadd, 1) ∧ okop dsL_law_721 14 = true) ∧ (decode dsL_law_721 15 = .ok (.iaload, 1) ∧ okop dsL_law_721 15 = true) ∧ (decode dsL_law_721 16 = .ok (.aload_n 0, 1) ∧ okop dsL_law_721 16 = true) ∧ (decode dsL_law_721 17 = .ok (.iload 5, 2) ∧ okop dsL_law_721 17 = true) ∧ (decode dsL_law_721 19 = .ok (.iconst 2, 1) ∧ okop dsL_law_721 19 = true) ∧ (decode dsL_law_721 20 = .ok (.iadd, 1) ∧ okop dsL_law_721 20 = true) ∧ (decode dsL_law_721 21 = .ok (.iaload, 1) ∧ okop dsL_law_721 21 = true) ∧ (decode dsL_law_721 22 = .ok (.invokevirtual 266, 3) ∧ okop dsL_law_721 22 = true) ∧ (decode dsL_law_721 25 = .ok (.istore 7, 2) ∧ okop dsL_law_721 25 = true) ∧ (decode dsL_law_721 27 = .ok (.goto 2183, 3) ∧ okop dsL_law_721 27 = true) ∧ (decode dsL_law_721 30 = .ok (.aload_n 1, 1) ∧ okop dsL_law_721 30 = true) ∧ (decode dsL_law_721 31 = .ok (.aload_n 0, 1) ∧ okop dsL_law_721 31 = true) ∧ (decode dsL_law_721 32 = .ok (.iload 5, 2) ∧ okop dsL_law_721 32 = true) ∧ (decode dsL_law_721 34 = .ok (.iconst 1, 1) ∧ okop dsL_law_721 34 = true) := by decide +kernel
theorem dL_law_721 : decode cL_law 721 = .ok (.iconst 2, 1) := dgq (p := 0) daL_law_721 dbL_law_721.1
theorem dL_law_722 : decode cL_law 722 = .ok (.iadd, 1) := dgq (p := 1) daL_law_721 dbL_law_721.2.1
theorem dL_law_723 : decode cL_law 723 = .ok (.iaload, 1) := dgq (p := 2) daL_law_721 dbL_law_721.2.2.1
theorem dL_law_724 : decode cL_law 724 = .ok (.aload_n 3, 1) := dgq (p := 3) daL_law_721 dbL_law_721.2.2.2.1
theorem dL_law_725 : decode cL_law 725 = .ok (.invokestatic 264, 3) := dgq (p := 4) daL_law_721 dbL_law_721.2.2.2.2.1
theorem dL_law_728 : decode cL_law 728 = .ok (.istore 6, 2) := dgq (p := 7) daL_law_721 dbL_law_721.2.2.2.2.2.1
theorem dL_law_730 : decode cL_law 730 = .ok (.aload_n 2, 1) := dgq (p := 9) daL_law_721 dbL_law_721.2.2.2.2.2.2.1
theorem dL_law_731 : decode cL_law 731 = .ok (.aload_n 0, 1) := dgq (p := 10) daL_law_721 dbL_law_721.2.2.2.2.2.2.2.1
theorem dL_law_732 : decode cL_law 732 = .ok (.iload 5, 2) := dgq (p := 11) daL_law_721 dbL_law_721.2.2.2.2.2.2.2.2.1
theorem dL_law_734 : decode cL_law 734 = .ok (.iconst 1, 1) := dgq (p := 13) daL_law_721 dbL_law_721.2.2.2.2.2.2.2.2.2.1
theorem dL_law_735 : decode cL_law 735 = .ok (.iadd, 1) := dgq (p := 14) daL_law_721 dbL_law_721.2.2.2.2.2.2.2.2.2.2.1
theorem dL_law_736 : decode cL_law 736 = .ok (.iaload, 1) := dgq (p := 15) daL_law_721 dbL_law_721.2.2.2.2.2.2.2.2.2.2.2.1
theorem dL_law_737 : decode cL_law 737 = .ok (.aload_n 0, 1) := dgq (p := 16) daL_law_721 dbL_law_721.2.2.2.2.2.2.2.2.2.2.2.2.1
theorem dL_law_738 : decode cL_law 738 = .ok (.iload 5, 2) := dgq (p := 17) daL_law_721 dbL_law_721.2.2.2.2.2.2.2.2.2.2.2.2.2.1
theorem dL_law_740 : decode cL_law 740 = .ok (.iconst 2, 1) := dgq (p := 19) daL_law_721 dbL_law_721.2.2.2.2.2.2.2.2.2.2.2.2.2.2.1
theorem dL_law_741 : decode cL_law 741 = .ok (.iadd, 1) := dgq (p := 20) daL_law_721 dbL_law_721.2.2.2.2.2.2.2.2.2.2.2.2.2.2.2.1
theorem dL_law_742 : decode cL_law 742 = .ok (.iaload, 1) := dgq (p := 21) daL_law_721 dbL_law_721.2.2.2.2.2.2.2.2.2.2.2.2.2.2.2.2.1
theorem dL_law_743 : decode cL_law 743 = .ok (.invokevirtual 266, 3) := dgq (p := 22) daL_law_721 dbL_law_721.2.2.2.2.2.2.2.2.2.2.2.2.2.2.2.2.2.1
theorem dL_law_746 : decode cL_law 746 = .ok (.istore 7, 2) := dgq (p := 25) daL_law_721 dbL_law_721.2.2.2.2.2.2.2.2.2.2.2.2.2.2.2.2.2.2.1
theorem dL_law_748 : decode cL_law 748 = .ok (.goto 2183, 3) := dgq (p := 27) daL_law_721 dbL_law_721.2.2.2.2.2.2.2.2.2.2.2.2.2.2.2.2.2.2.2.1
theorem dL_law_751 : decode cL_law 751 = .ok (.aload_n 1, 1) := dgq (p := 30) daL_law_721 dbL_law_721.2.2.2.2.2.2.2.2.2.2.2.2.2.2.2.2.2.2.2.2.1
theorem dL_law_752 : decode cL_law 752 = .ok (.aload_n 0, 1) := dgq (p := 31) daL_law_721 dbL_law_721.2.2.2.2.2.2.2.2.2.2.2.2.2.2.2.2.2.2.2.2.2.1
theorem dL_law_753 : decode cL_law 753 = .ok (.iload 5, 2) := dgq (p := 32) daL_law_721 dbL_law_721.2.2.2.2.2.2.2.2.2.2.2.2.2.2.2.2.2.2.2.2.2.2.1
theorem dL_law_755 : decode cL_law 755 = .ok (.iconst 1, 1) := dgq (p := 34) daL_law_721 dbL_law_721.2.2.2.2.2.2.2.2.2.2.2.2.2.2.2.2.2.2.2.2.2.2.2
def dsL_law_756 : ByteArray := ⟨#[96, 46, 42, 21, 5, 5, 96, 46, 45, 184, 1, 11, 54, 6, 44, 42, 21, 5, 4, 96, 46, 42, 21, 5, 5, 96, 46, 182, 1, 13, 55, 7, 167, 8, 95]⟩
theorem daL_law_756 : agB cL_law dsL_law_756 756 := agB_of (n := 35) (by decide +kernel)
theorem dbL_law_756 : (decode dsL_law_756 0 = .ok (.iadd, 1) ∧ okop dsL_law_756 0 = true) ∧ (decode dsL_law_756 1 = .ok (.iaload, 1) ∧ okop dsL_law_756 1 = true) ∧ (decode dsL_law_756 2 = .ok (.aload_n 0, 1) ∧ okop dsL_law_756 2 = true) ∧ (decode dsL_law_756 3 = .ok (.iload 5, 2) ∧ okop dsL_law_756 3 = true) ∧ (decode dsL_law_756 5 = .ok (.iconst 2, 1) ∧ okop dsL_law_756 5 = true) ∧ (decode dsL_law_756 6 = .ok (.iadd, 1) ∧ okop dsL_law_756 6 = true) ∧ (decode dsL_law_756 7 = .ok (.iaload, 1) ∧ okop dsL_law_756 7 = true) ∧ (decode dsL_law_756 8 = .ok (.aload_n 3, 1) ∧ okop dsL_law_756 8 = true) ∧ (decode dsL_law_756 9 = .ok (.invokestatic 267, 3) ∧ okop dsL_law_756 9 = true) ∧ (decode dsL_law_756 12 = .ok (.istore 6, 2) ∧ okop dsL_law_756 12 = true) ∧ (decode dsL_law_756 14 = .ok (.aload_n 2, 1) ∧ okop dsL_law_756 14 = true) ∧ (decode dsL_law_756 15 = .ok (.aload_n 0, 1) ∧ okop dsL_law_756 15 = true) ∧ (decode dsL_law_756 16 = .ok (.iload 5, 2) ∧ okop dsL_law_756 16 = true) ∧ (decode dsL_law_756 18 = .ok (.iconst 1, 1) ∧ okop dsL_law_756 18 = true) ∧ (decode dsL_law_756 19 = .ok (.iadd, 1) ∧ okop dsL_law_756 19 = true) ∧ (decode dsL_law_756 20 = .ok (.iaload, 1) ∧ okop dsL_law_756 20 = true) ∧ (decode dsL_law_756 21 = .ok (.aload_n 0, 1) ∧ okop dsL_law_756 21 = true) ∧ (decode dsL_law_756 22 = .ok (.iload 5, 2) ∧ okop dsL_law_756 22 = true) ∧ (decode dsL_law_756 24 = .ok (.iconst 2, 1) ∧ okop dsL_law_756 24 = true) ∧ (decode dsL_law_756 25 = .ok (.iadd, 1) ∧ okop dsL_law_756 25 = true) ∧ (decode dsL_law_756 26 = .ok (.iaload, 1) ∧ okop dsL_law_756 26 = true) ∧ (decode dsL_law_756 27 = .ok (.invokevirtual 269, 3) ∧ okop dsL_law_756 27 = true) ∧ (decode dsL_law_756 30 = .ok (.lstore 7, 2) ∧ okop dsL_law_756 30 = true) ∧ (decode dsL_law_756 32 = .ok (.goto 2143, 3) ∧ okop dsL_law_756 32 = true) := by decide +kernel
theorem dL_law_756 : decode cL_law 756 = .ok (.iadd, 1) := dgq (p := 0) daL_law_756 dbL_law_756.1
theorem dL_law_757 : decode cL_law 757 = .ok (.iaload, 1) := dgq (p := 1) daL_law_756 dbL_law_756.2.1
theorem dL_law_758 : decode cL_law 758 = .ok (.aload_n 0, 1) := dgq (p := 2) daL_law_756 dbL_law_756.2.2.1
theorem dL_law_759 : decode cL_law 759 = .ok (.iload 5, 2) := dgq (p := 3) daL_law_756 dbL_law_756.2.2.2.1
theorem dL_law_761 : decode cL_law 761 = .ok (.iconst 2, 1) := dgq (p := 5) daL_law_756 dbL_law_756.2.2.2.2.1
theorem dL_law_762 : decode cL_law 762 = .ok (.iadd, 1) := dgq (p := 6) daL_law_756 dbL_law_756.2.2.2.2.2.1
theorem dL_law_763 : decode cL_law 763 = .ok (.iaload, 1) := dgq (p := 7) daL_law_756 dbL_law_756.2.2.2.2.2.2.1
theorem dL_law_764 : decode cL_law 764 = .ok (.aload_n 3, 1) := dgq (p := 8) daL_law_756 dbL_law_756.2.2.2.2.2.2.2.1
theorem dL_law_765 : decode cL_law 765 = .ok (.invokestatic 267, 3) := dgq (p := 9) daL_law_756 dbL_law_756.2.2.2.2.2.2.2.2.1
theorem dL_law_768 : decode cL_law 768 = .ok (.istore 6, 2) := dgq (p := 12) daL_law_756 dbL_law_756.2.2.2.2.2.2.2.2.2.1
theorem dL_law_770 : decode cL_law 770 = .ok (.aload_n 2, 1) := dgq (p := 14) daL_law_756 dbL_law_756.2.2.2.2.2.2.2.2.2.2.1
theorem dL_law_771 : decode cL_law 771 = .ok (.aload_n 0, 1) := dgq (p := 15) daL_law_756 dbL_law_756.2.2.2.2.2.2.2.2.2.2.2.1
theorem dL_law_772 : decode cL_law 772 = .ok (.iload 5, 2) := dgq (p := 16) daL_law_756 dbL_law_756.2.2.2.2.2.2.2.2.2.2.2.2.1
theorem dL_law_774 : decode cL_law 774 = .ok (.iconst 1, 1) := dgq (p := 18) daL_law_756 dbL_law_756.2.2.2.2.2.2.2.2.2.2.2.2.2.1
theorem dL_law_775 : decode cL_law 775 = .ok (.iadd, 1) := dgq (p := 19) daL_law_756 dbL_law_756.2.2.2.2.2.2.2.2.2.2.2.2.2.2.1
theorem dL_law_776 : decode cL_law 776 = .ok (.iaload, 1) := dgq (p := 20) daL_law_756 dbL_law_756.2.2.2.2.2.2.2.2.2.2.2.2.2.2.2.1
theorem dL_law_777 : decode cL_law 777 = .ok (.aload_n 0, 1) := dgq (p := 21) daL_law_756 dbL_law_756.2.2.2.2.2.2.2.2.2.2.2.2.2.2.2.2.1
theorem dL_law_778 : decode cL_law 778 = .ok (.iload 5, 2) := dgq (p := 22) daL_law_756 dbL_law_756.2.2.2.2.2.2.2.2.2.2.2.2.2.2.2.2.2.1
theorem dL_law_780 : decode cL_law 780 = .ok (.iconst 2, 1) := dgq (p := 24) daL_law_756 dbL_law_756.2.2.2.2.2.2.2.2.2.2.2.2.2.2.2.2.2.2.1
theorem dL_law_781 : decode cL_law 781 = .ok (.iadd, 1) := dgq (p := 25) daL_law_756 dbL_law_756.2.2.2.2.2.2.2.2.2.2.2.2.2.2.2.2.2.2.2.1
theorem dL_law_782 : decode cL_law 782 = .ok (.iaload, 1) := dgq (p := 26) daL_law_756 dbL_law_756.2.2.2.2.2.2.2.2.2.2.2.2.2.2.2.2.2.2.2.2.1
theorem dL_law_783 : decode cL_law 783 = .ok (.invokevirtual 269, 3) := dgq (p := 27) daL_law_756 dbL_law_756.2.2.2.2.2.2.2.2.2.2.2.2.2.2.2.2.2.2.2.2.2.1
theorem dL_law_786 : decode cL_law 786 = .ok (.lstore 7, 2) := dgq (p := 30) daL_law_756 dbL_law_756.2.2.2.2.2.2.2.2.2.2.2.2.2.2.2.2.2.2.2.2.2.2.1
theorem dL_law_788 : decode cL_law 788 = .ok (.goto 2143, 3) := dgq (p := 32) daL_law_756 dbL_law_756.2.2.2.2.2.2.2.2.2.2.2.2.2.2.2.2.2.2.2.2.2.2.2
def dsL_law_791 : ByteArray := ⟨#[43, 42, 21, 5, 4, 96, 46, 42, 21, 5, 5, 96, 46, 45, 184, 1, 14, 54, 6, 44, 42, 21, 5, 4, 96, 46, 42, 21, 5, 5, 96]⟩
theorem daL_law_791 : agB cL_law dsL_law_791 791 := agB_of (n := 31) (by decide +kernel)
theorem dbL_law_791 : (decode dsL_law_791 0 = .ok (.aload_n 1, 1) ∧ okop dsL_law_791 0 = true) ∧ (decode dsL_law_791 1 = .ok (.aload_n 0, 1) ∧ okop dsL_law_791 1 = true) ∧ (decode dsL_law_791 2 = .ok (.iload 5, 2) ∧ okop dsL_law_791 2 = true) ∧ (decode dsL_law_791 4 = .ok (.iconst 1, 1) ∧ okop dsL_law_791 4 = true) ∧ (decode dsL_law_791 5 = .ok (.iadd, 1) ∧ okop dsL_law_791 5 = true) ∧ (decode dsL_law_791 6 = .ok (.iaload, 1) ∧ okop dsL_law_791 6 = true) ∧ (decode dsL_law_791 7 = .ok (.aload_n 0, 1) ∧ okop dsL_law_791 7 = true) ∧ (decode dsL_law_791 8 = .ok (.iload 5, 2) ∧ okop dsL_law_791 8 = true) ∧ (decode dsL_law_791 10 = .ok (.iconst 2, 1) ∧ okop dsL_law_791 10 = true) ∧ (decode dsL_law_791 11 = .ok (.iadd, 1) ∧ okop dsL_law_791 11 = true) ∧ (decode dsL_law_791 12 = .ok (.iaload, 1) ∧ okop dsL_law_791 12 = true) ∧ (decode dsL_law_791 13 = .ok (.aload_n 3, 1) ∧ okop dsL_law_791 13 = true) ∧ (decode dsL_law_791 14 = .ok (.invokestatic 270, 3) ∧ okop dsL_law_791 14 = true) ∧ (decode dsL_law_791 17 = .ok (.istore 6, 2) ∧ okop dsL_law_791 17 = true) ∧ (decode dsL_law_791 19 = .ok (.aload_n 2, 1) ∧ okop dsL_law_791 19 = true) ∧ (decode dsL_law_791 20 = .ok (.aload_n 0, 1) ∧ okop dsL_law_791 20 = true) ∧ (decode dsL_law_791 21 = .ok (.iload 5, 2) ∧ okop dsL_law_791 21 = true) ∧ (decode dsL_law_791 23 = .ok (.iconst 1, 1) ∧ okop dsL_law_791 23 = true) ∧ (decode dsL_law_791 24 = .ok (.iadd, 1) ∧ okop dsL_law_791 24 = true) ∧ (decode dsL_law_791 25 = .ok (.iaload, 1) ∧ okop dsL_law_791 25 = true) ∧ (decode dsL_law_791 26 = .ok (.aload_n 0, 1) ∧ okop dsL_law_791 26 = true) ∧ (decode dsL_law_791 27 = .ok (.iload 5, 2) ∧ okop dsL_law_791 27 = true) ∧ (decode dsL_law_791 29 = .ok (.iconst 2, 1) ∧ okop dsL_law_791 29 = true) ∧ (decode dsL_law_791 30 = .ok (.iadd, 1) ∧ okop dsL_law_791 30 = true) := by decide +kernel
theorem dL_law_791 : decode cL_law 791 = .ok (.aload_n 1, 1) := dgq (p := 0) daL_law_791 dbL_law_791.1
theorem dL_law_792 : decode cL_law 792 = .ok (.aload_n 0, 1) := dgq (p := 1) daL_law_791 dbL_law_791.2.1
theorem dL_law_793 : decode cL_law 793 = .ok (.iload 5, 2) := dgq (p := 2) daL_law_791 dbL_law_791.2.2.1
theorem dL_law_795 : decode cL_law 795 = .ok (.iconst 1, 1) := dgq (p := 4) daL_law_791 dbL_law_791.2.2.2.1
theorem dL_law_796 : decode cL_law 796 = .ok (.iadd, 1) := dgq (p := 5) daL_law_791 dbL_law_791.2.2.2.2.1
theorem dL_law_797 : decode cL_law 797 = .ok (.iaload, 1) := dgq (p := 6) daL_law_791 dbL_law_791.2.2.2.2.2.1
theorem dL_law_798 : decode cL_law 798 = .ok (.aload_n 0, 1) := dgq (p := 7) daL_law_791 dbL_law_791.2.2.2.2.2.2.1
theorem dL_law_799 : decode cL_law 799 = .ok (.iload 5, 2) := dgq (p := 8) daL_law_791 dbL_law_791.2.2.2.2.2.2.2.1
theorem dL_law_801 : decode cL_law 801 = .ok (.iconst 2, 1) := dgq (p := 10) daL_law_791 dbL_law_791.2.2.2.2.2.2.2.2.1
theorem dL_law_802 : decode cL_law 802 = .ok (.iadd, 1) := dgq (p := 11) daL_law_791 dbL_law_791.2.2.2.2.2.2.2.2.2.1
theorem dL_law_803 : decode cL_law 803 = .ok (.iaload, 1) := dgq (p := 12) daL_law_791 dbL_law_791.2.2.2.2.2.2.2.2.2.2.1
theorem dL_law_804 : decode cL_law 804 = .ok (.aload_n 3, 1) := dgq (p := 13) daL_law_791 dbL_law_791.2.2.2.2.2.2.2.2.2.2.2.1
theorem dL_law_805 : decode cL_law 805 = .ok (.invokestatic 270, 3) := dgq (p := 14) daL_law_791 dbL_law_791.2.2.2.2.2.2.2.2.2.2.2.2.1
theorem dL_law_808 : decode cL_law 808 = .ok (.istore 6, 2) := dgq (p := 17) daL_law_791 dbL_law_791.2.2.2.2.2.2.2.2.2.2.2.2.2.1
theorem dL_law_810 : decode cL_law 810 = .ok (.aload_n 2, 1) := dgq (p := 19) daL_law_791 dbL_law_791.2.2.2.2.2.2.2.2.2.2.2.2.2.2.1
theorem dL_law_811 : decode cL_law 811 = .ok (.aload_n 0, 1) := dgq (p := 20) daL_law_791 dbL_law_791.2.2.2.2.2.2.2.2.2.2.2.2.2.2.2.1
theorem dL_law_812 : decode cL_law 812 = .ok (.iload 5, 2) := dgq (p := 21) daL_law_791 dbL_law_791.2.2.2.2.2.2.2.2.2.2.2.2.2.2.2.2.1
theorem dL_law_814 : decode cL_law 814 = .ok (.iconst 1, 1) := dgq (p := 23) daL_law_791 dbL_law_791.2.2.2.2.2.2.2.2.2.2.2.2.2.2.2.2.2.1
theorem dL_law_815 : decode cL_law 815 = .ok (.iadd, 1) := dgq (p := 24) daL_law_791 dbL_law_791.2.2.2.2.2.2.2.2.2.2.2.2.2.2.2.2.2.2.1
theorem dL_law_816 : decode cL_law 816 = .ok (.iaload, 1) := dgq (p := 25) daL_law_791 dbL_law_791.2.2.2.2.2.2.2.2.2.2.2.2.2.2.2.2.2.2.2.1
theorem dL_law_817 : decode cL_law 817 = .ok (.aload_n 0, 1) := dgq (p := 26) daL_law_791 dbL_law_791.2.2.2.2.2.2.2.2.2.2.2.2.2.2.2.2.2.2.2.2.1
theorem dL_law_818 : decode cL_law 818 = .ok (.iload 5, 2) := dgq (p := 27) daL_law_791 dbL_law_791.2.2.2.2.2.2.2.2.2.2.2.2.2.2.2.2.2.2.2.2.2.1
theorem dL_law_820 : decode cL_law 820 = .ok (.iconst 2, 1) := dgq (p := 29) daL_law_791 dbL_law_791.2.2.2.2.2.2.2.2.2.2.2.2.2.2.2.2.2.2.2.2.2.2.1
theorem dL_law_821 : decode cL_law 821 = .ok (.iadd, 1) := dgq (p := 30) daL_law_791 dbL_law_791.2.2.2.2.2.2.2.2.2.2.2.2.2.2.2.2.2.2.2.2.2.2.2
def dsL_law_822 : ByteArray := ⟨#[46, 182, 1, 16, 54, 7, 167, 8, 55, 43, 42, 21, 5, 4, 96, 46, 42, 21, 5, 5, 96, 46, 42, 21, 5, 6, 96, 46, 42, 21, 5, 7, 96]⟩
theorem daL_law_822 : agB cL_law dsL_law_822 822 := agB_of (n := 33) (by decide +kernel)
theorem dbL_law_822 : (decode dsL_law_822 0 = .ok (.iaload, 1) ∧ okop dsL_law_822 0 = true) ∧ (decode dsL_law_822 1 = .ok (.invokevirtual 272, 3) ∧ okop dsL_law_822 1 = true) ∧ (decode dsL_law_822 4 = .ok (.istore 7, 2) ∧ okop dsL_law_822 4 = true) ∧ (decode dsL_law_822 6 = .ok (.goto 2103, 3) ∧ okop dsL_law_822 6 = true) ∧ (decode dsL_law_822 9 = .ok (.aload_n 1, 1) ∧ okop dsL_law_822 9 = true) ∧ (decode dsL_law_822 10 = .ok (.aload_n 0, 1) ∧ okop dsL_law_822 10 = true) ∧ (decode dsL_law_822 11 = .ok (.iload 5, 2) ∧ okop dsL_law_822 11 = true) ∧ (decode dsL_law_822 13 = .ok (.iconst 1, 1) ∧ okop dsL_law_822 13 = true) ∧ (decode dsL_law_822 14 = .ok (.iadd, 1) ∧ okop dsL_law_822 14 = true) ∧ (decode dsL_law_822 15 = .ok (.iaload, 1) ∧ okop dsL_law_822 15 = true) ∧ (decode dsL_law_822 16 = .ok (.aload_n 0, 1) ∧ okop dsL_law_822 16 = true) ∧ (decode dsL_law_822 17 = .ok (.iload 5, 2) ∧ okop dsL_law_822 17 = true) ∧ (decode dsL_law_822 19 = .ok (.iconst 2, 1) ∧ okop dsL_law_822 19 = true) ∧ (decode dsL_law_822 20 = .ok (.iadd, 1) ∧ okop dsL_law_822 20 = true) ∧ (decode dsL_law_822 21 = .ok (.iaload, 1) ∧ okop dsL_law_822 21 = true) ∧ (decode dsL_law_822 22 = .ok (.aload_n 0, 1) ∧ okop dsL_law_822 22 = true) ∧ (decode dsL_law_822 23 = .ok (.iload 5, 2) ∧ okop dsL_law_822 23 = true) ∧ (decode dsL_law_822 25 = .ok (.iconst 3, 1) ∧ okop dsL_law_822 25 = true) ∧ (decode dsL_law_822 26 = .ok (.iadd, 1) ∧ okop dsL_law_822 26 = true) ∧ (decode dsL_law_822 27 = .ok (.iaload, 1) ∧ okop dsL_law_822 27 = true) ∧ (decode dsL_law_822 28 = .ok (.aload_n 0, 1) ∧ okop dsL_law_822 28 = true) ∧ (decode dsL_law_822 29 = .ok (.iload 5, 2) ∧ okop dsL_law_822 29 = true) ∧ (decode dsL_law_822 31 = .ok (.iconst 4, 1) ∧ okop dsL_law_822 31 = true) ∧ (decode dsL_law_822 32 = .ok (.iadd, 1) ∧ okop dsL_law_822 32 = true) := by decide +kernel
theorem dL_law_822 : decode cL_law 822 = .ok (.iaload, 1) := dgq (p := 0) daL_law_822 dbL_law_822.1
theorem dL_law_823 : decode cL_law 823 = .ok (.invokevirtual 272, 3) := dgq (p := 1) daL_law_822 dbL_law_822.2.1
theorem dL_law_826 : decode cL_law 826 = .ok (.istore 7, 2) := dgq (p := 4) daL_law_822 dbL_law_822.2.2.1
theorem dL_law_828 : decode cL_law 828 = .ok (.goto 2103, 3) := dgq (p := 6) daL_law_822 dbL_law_822.2.2.2.1
theorem dL_law_831 : decode cL_law 831 = .ok (.aload_n 1, 1) := dgq (p := 9) daL_law_822 dbL_law_822.2.2.2.2.1
theorem dL_law_832 : decode cL_law 832 = .ok (.aload_n 0, 1) := dgq (p := 10) daL_law_822 dbL_law_822.2.2.2.2.2.1
theorem dL_law_833 : decode cL_law 833 = .ok (.iload 5, 2) := dgq (p := 11) daL_law_822 dbL_law_822.2.2.2.2.2.2.1
theorem dL_law_835 : decode cL_law 835 = .ok (.iconst 1, 1) := dgq (p := 13) daL_law_822 dbL_law_822.2.2.2.2.2.2.2.1
theorem dL_law_836 : decode cL_law 836 = .ok (.iadd, 1) := dgq (p := 14) daL_law_822 dbL_law_822.2.2.2.2.2.2.2.2.1
theorem dL_law_837 : decode cL_law 837 = .ok (.iaload, 1) := dgq (p := 15) daL_law_822 dbL_law_822.2.2.2.2.2.2.2.2.2.1
theorem dL_law_838 : decode cL_law 838 = .ok (.aload_n 0, 1) := dgq (p := 16) daL_law_822 dbL_law_822.2.2.2.2.2.2.2.2.2.2.1
theorem dL_law_839 : decode cL_law 839 = .ok (.iload 5, 2) := dgq (p := 17) daL_law_822 dbL_law_822.2.2.2.2.2.2.2.2.2.2.2.1
theorem dL_law_841 : decode cL_law 841 = .ok (.iconst 2, 1) := dgq (p := 19) daL_law_822 dbL_law_822.2.2.2.2.2.2.2.2.2.2.2.2.1
theorem dL_law_842 : decode cL_law 842 = .ok (.iadd, 1) := dgq (p := 20) daL_law_822 dbL_law_822.2.2.2.2.2.2.2.2.2.2.2.2.2.1
theorem dL_law_843 : decode cL_law 843 = .ok (.iaload, 1) := dgq (p := 21) daL_law_822 dbL_law_822.2.2.2.2.2.2.2.2.2.2.2.2.2.2.1
theorem dL_law_844 : decode cL_law 844 = .ok (.aload_n 0, 1) := dgq (p := 22) daL_law_822 dbL_law_822.2.2.2.2.2.2.2.2.2.2.2.2.2.2.2.1
theorem dL_law_845 : decode cL_law 845 = .ok (.iload 5, 2) := dgq (p := 23) daL_law_822 dbL_law_822.2.2.2.2.2.2.2.2.2.2.2.2.2.2.2.2.1
theorem dL_law_847 : decode cL_law 847 = .ok (.iconst 3, 1) := dgq (p := 25) daL_law_822 dbL_law_822.2.2.2.2.2.2.2.2.2.2.2.2.2.2.2.2.2.1
theorem dL_law_848 : decode cL_law 848 = .ok (.iadd, 1) := dgq (p := 26) daL_law_822 dbL_law_822.2.2.2.2.2.2.2.2.2.2.2.2.2.2.2.2.2.2.1
theorem dL_law_849 : decode cL_law 849 = .ok (.iaload, 1) := dgq (p := 27) daL_law_822 dbL_law_822.2.2.2.2.2.2.2.2.2.2.2.2.2.2.2.2.2.2.2.1
theorem dL_law_850 : decode cL_law 850 = .ok (.aload_n 0, 1) := dgq (p := 28) daL_law_822 dbL_law_822.2.2.2.2.2.2.2.2.2.2.2.2.2.2.2.2.2.2.2.2.1
theorem dL_law_851 : decode cL_law 851 = .ok (.iload 5, 2) := dgq (p := 29) daL_law_822 dbL_law_822.2.2.2.2.2.2.2.2.2.2.2.2.2.2.2.2.2.2.2.2.2.1
theorem dL_law_853 : decode cL_law 853 = .ok (.iconst 4, 1) := dgq (p := 31) daL_law_822 dbL_law_822.2.2.2.2.2.2.2.2.2.2.2.2.2.2.2.2.2.2.2.2.2.2.1
theorem dL_law_854 : decode cL_law 854 = .ok (.iadd, 1) := dgq (p := 32) daL_law_822 dbL_law_822.2.2.2.2.2.2.2.2.2.2.2.2.2.2.2.2.2.2.2.2.2.2.2
def dsL_law_855 : ByteArray := ⟨#[46, 45, 184, 1, 17, 54, 6, 44, 42, 21, 5, 4, 96, 46, 42, 21, 5, 5, 96, 46, 42, 21, 5, 6, 96, 46, 42, 21, 5, 7, 96]⟩
theorem daL_law_855 : agB cL_law dsL_law_855 855 := agB_of (n := 31) (by decide +kernel)
theorem dbL_law_855 : (decode dsL_law_855 0 = .ok (.iaload, 1) ∧ okop dsL_law_855 0 = true) ∧ (decode dsL_law_855 1 = .ok (.aload_n 3, 1) ∧ okop dsL_law_855 1 = true) ∧ (decode dsL_law_855 2 = .ok (.invokestatic 273, 3) ∧ okop dsL_law_855 2 = true) ∧ (decode dsL_law_855 5 = .ok (.istore 6, 2) ∧ okop dsL_law_855 5 = true) ∧ (decode dsL_law_855 7 = .ok (.aload_n 2, 1) ∧ okop dsL_law_855 7 = true) ∧ (decode dsL_law_855 8 = .ok (.aload_n 0, 1) ∧ okop dsL_law_855 8 = true) ∧ (decode dsL_law_855 9 = .ok (.iload 5, 2) ∧ okop dsL_law_855 9 = true) ∧ (decode dsL_law_855 11 = .ok (.iconst 1, 1) ∧ okop dsL_law_855 11 = true) ∧ (decode dsL_law_855 12 = .ok (.iadd, 1) ∧ okop dsL_law_855 12 = true) ∧ (decode dsL_law_855 13 = .ok (.iaload, 1) ∧ okop dsL_law_855 13 = true) ∧ (decode dsL_law_855 14 = .ok (.aload_n 0, 1) ∧ okop dsL_law_855 14 = true) ∧ (decode dsL_law_855 15 = .ok (.iload 5, 2) ∧ okop dsL_law_855 15 = true) ∧ (decode dsL_law_855 17 = .ok (.iconst 2, 1) ∧ okop dsL_law_855 17 = true) ∧ (decode dsL_law_855 18 = .ok (.iadd, 1) ∧ okop dsL_law_855 18 = true) ∧ (decode dsL_law_855 19 = .ok (.iaload, 1) ∧ okop dsL_law_855 19 = true) ∧ (decode dsL_law_855 20 = .ok (.aload_n 0, 1) ∧ okop dsL_law_855 20 = true) ∧ (decode dsL_law_855 21 = .ok (.iload 5, 2) ∧ okop dsL_law_855 21 = true) ∧ (decode dsL_law_855 23 = .ok (.iconst 3, 1) ∧ okop dsL_law_855 23 = true) ∧ (decode dsL_law_855 24 = .ok (.iadd, 1) ∧ okop dsL_law_855 24 = true) ∧ (decode dsL_law_855 25 = .ok (.iaload, 1) ∧ okop dsL_law_855 25 = true) ∧ (decode dsL_law_855 26 = .ok (.aload_n 0, 1) ∧ okop dsL_law_855 26 = true) ∧ (decode dsL_law_855 27 = .ok (.iload 5, 2) ∧ okop dsL_law_855 27 = true) ∧ (decode dsL_law_855 29 = .ok (.iconst 4, 1) ∧ okop dsL_law_855 29 = true) ∧ (decode dsL_law_855 30 = .ok (.iadd, 1) ∧ okop dsL_law_855 30 = true) := by decide +kernel
theorem dL_law_855 : decode cL_law 855 = .ok (.iaload, 1) := dgq (p := 0) daL_law_855 dbL_law_855.1
theorem dL_law_856 : decode cL_law 856 = .ok (.aload_n 3, 1) := dgq (p := 1) daL_law_855 dbL_law_855.2.1
theorem dL_law_857 : decode cL_law 857 = .ok (.invokestatic 273, 3) := dgq (p := 2) daL_law_855 dbL_law_855.2.2.1
theorem dL_law_860 : decode cL_law 860 = .ok (.istore 6, 2) := dgq (p := 5) daL_law_855 dbL_law_855.2.2.2.1
theorem dL_law_862 : decode cL_law 862 = .ok (.aload_n 2, 1) := dgq (p := 7) daL_law_855 dbL_law_855.2.2.2.2.1
theorem dL_law_863 : decode cL_law 863 = .ok (.aload_n 0, 1) := dgq (p := 8) daL_law_855 dbL_law_855.2.2.2.2.2.1
theorem dL_law_864 : decode cL_law 864 = .ok (.iload 5, 2) := dgq (p := 9) daL_law_855 dbL_law_855.2.2.2.2.2.2.1
theorem dL_law_866 : decode cL_law 866 = .ok (.iconst 1, 1) := dgq (p := 11) daL_law_855 dbL_law_855.2.2.2.2.2.2.2.1
theorem dL_law_867 : decode cL_law 867 = .ok (.iadd, 1) := dgq (p := 12) daL_law_855 dbL_law_855.2.2.2.2.2.2.2.2.1
theorem dL_law_868 : decode cL_law 868 = .ok (.iaload, 1) := dgq (p := 13) daL_law_855 dbL_law_855.2.2.2.2.2.2.2.2.2.1
theorem dL_law_869 : decode cL_law 869 = .ok (.aload_n 0, 1) := dgq (p := 14) daL_law_855 dbL_law_855.2.2.2.2.2.2.2.2.2.2.1
theorem dL_law_870 : decode cL_law 870 = .ok (.iload 5, 2) := dgq (p := 15) daL_law_855 dbL_law_855.2.2.2.2.2.2.2.2.2.2.2.1
theorem dL_law_872 : decode cL_law 872 = .ok (.iconst 2, 1) := dgq (p := 17) daL_law_855 dbL_law_855.2.2.2.2.2.2.2.2.2.2.2.2.1
theorem dL_law_873 : decode cL_law 873 = .ok (.iadd, 1) := dgq (p := 18) daL_law_855 dbL_law_855.2.2.2.2.2.2.2.2.2.2.2.2.2.1
theorem dL_law_874 : decode cL_law 874 = .ok (.iaload, 1) := dgq (p := 19) daL_law_855 dbL_law_855.2.2.2.2.2.2.2.2.2.2.2.2.2.2.1
theorem dL_law_875 : decode cL_law 875 = .ok (.aload_n 0, 1) := dgq (p := 20) daL_law_855 dbL_law_855.2.2.2.2.2.2.2.2.2.2.2.2.2.2.2.1
theorem dL_law_876 : decode cL_law 876 = .ok (.iload 5, 2) := dgq (p := 21) daL_law_855 dbL_law_855.2.2.2.2.2.2.2.2.2.2.2.2.2.2.2.2.1
theorem dL_law_878 : decode cL_law 878 = .ok (.iconst 3, 1) := dgq (p := 23) daL_law_855 dbL_law_855.2.2.2.2.2.2.2.2.2.2.2.2.2.2.2.2.2.1
theorem dL_law_879 : decode cL_law 879 = .ok (.iadd, 1) := dgq (p := 24) daL_law_855 dbL_law_855.2.2.2.2.2.2.2.2.2.2.2.2.2.2.2.2.2.2.1
theorem dL_law_880 : decode cL_law 880 = .ok (.iaload, 1) := dgq (p := 25) daL_law_855 dbL_law_855.2.2.2.2.2.2.2.2.2.2.2.2.2.2.2.2.2.2.2.1
theorem dL_law_881 : decode cL_law 881 = .ok (.aload_n 0, 1) := dgq (p := 26) daL_law_855 dbL_law_855.2.2.2.2.2.2.2.2.2.2.2.2.2.2.2.2.2.2.2.2.1
theorem dL_law_882 : decode cL_law 882 = .ok (.iload 5, 2) := dgq (p := 27) daL_law_855 dbL_law_855.2.2.2.2.2.2.2.2.2.2.2.2.2.2.2.2.2.2.2.2.2.1
theorem dL_law_884 : decode cL_law 884 = .ok (.iconst 4, 1) := dgq (p := 29) daL_law_855 dbL_law_855.2.2.2.2.2.2.2.2.2.2.2.2.2.2.2.2.2.2.2.2.2.2.1
theorem dL_law_885 : decode cL_law 885 = .ok (.iadd, 1) := dgq (p := 30) daL_law_855 dbL_law_855.2.2.2.2.2.2.2.2.2.2.2.2.2.2.2.2.2.2.2.2.2.2.2
def dsL_law_886 : ByteArray := ⟨#[46, 182, 1, 19, 54, 7, 167, 7, 247, 43, 42, 21, 5, 4, 96, 46, 42, 21, 5, 5, 96, 46, 42, 21, 5, 6, 96, 46, 42, 21, 5, 7, 96]⟩
theorem daL_law_886 : agB cL_law dsL_law_886 886 := agB_of (n := 33) (by decide +kernel)
theorem dbL_law_886 : (decode dsL_law_886 0 = .ok (.iaload, 1) ∧ okop dsL_law_886 0 = true) ∧ (decode dsL_law_886 1 = .ok (.invokevirtual 275, 3) ∧ okop dsL_law_886 1 = true) ∧ (decode dsL_law_886 4 = .ok (.istore 7, 2) ∧ okop dsL_law_886 4 = true) ∧ (decode dsL_law_886 6 = .ok (.goto 2039, 3) ∧ okop dsL_law_886 6 = true) ∧ (decode dsL_law_886 9 = .ok (.aload_n 1, 1) ∧ okop dsL_law_886 9 = true) ∧ (decode dsL_law_886 10 = .ok (.aload_n 0, 1) ∧ okop dsL_law_886 10 = true) ∧ (decode dsL_law_886 11 = .ok (.iload 5, 2) ∧ okop dsL_law_886 11 = true) ∧ (decode dsL_law_886 13 = .ok (.iconst 1, 1) ∧ okop dsL_law_886 13 = true) ∧ (decode dsL_law_886 14 = .ok (.iadd, 1) ∧ okop dsL_law_886 14 = true) ∧ (decode dsL_law_886 15 = .ok (.iaload, 1) ∧ okop dsL_law_886 15 = true) ∧ (decode dsL_law_886 16 = .ok (.aload_n 0, 1) ∧ okop dsL_law_886 16 = true) ∧ (decode dsL_law_886 17 = .ok (.iload 5, 2) ∧ okop dsL_law_886 17 = true) ∧ (decode dsL_law_886 19 = .ok (.iconst 2, 1) ∧ okop dsL_law_886 19 = true) ∧ (decode dsL_law_886 20 = .ok (.iadd, 1) ∧ okop dsL_law_886 20 = true) ∧ (decode dsL_law_886 21 = .ok (.iaload, 1) ∧ okop dsL_law_886 21 = true) ∧ (decode dsL_law_886 22 = .ok (.aload_n 0, 1) ∧ okop dsL_law_886 22 = true) ∧ (decode dsL_law_886 23 = .ok (.iload 5, 2) ∧ okop dsL_law_886 23 = true) ∧ (decode dsL_law_886 25 = .ok (.iconst 3, 1) ∧ okop dsL_law_886 25 = true) ∧ (decode dsL_law_886 26 = .ok (.iadd, 1) ∧ okop dsL_law_886 26 = true) ∧ (decode dsL_law_886 27 = .ok (.iaload, 1) ∧ okop dsL_law_886 27 = true) ∧ (decode dsL_law_886 28 = .ok (.aload_n 0, 1) ∧ okop dsL_law_886 28 = true) ∧ (decode dsL_law_886 29 = .ok (.iload 5, 2) ∧ okop dsL_law_886 29 = true) ∧ (decode dsL_law_886 31 = .ok (.iconst 4, 1) ∧ okop dsL_law_886 31 = true) ∧ (decode dsL_law_886 32 = .ok (.iadd, 1) ∧ okop dsL_law_886 32 = true) := by decide +kernel
theorem dL_law_886 : decode cL_law 886 = .ok (.iaload, 1) := dgq (p := 0) daL_law_886 dbL_law_886.1
theorem dL_law_887 : decode cL_law 887 = .ok (.invokevirtual 275, 3) := dgq (p := 1) daL_law_886 dbL_law_886.2.1
theorem dL_law_890 : decode cL_law 890 = .ok (.istore 7, 2) := dgq (p := 4) daL_law_886 dbL_law_886.2.2.1
theorem dL_law_892 : decode cL_law 892 = .ok (.goto 2039, 3) := dgq (p := 6) daL_law_886 dbL_law_886.2.2.2.1
theorem dL_law_895 : decode cL_law 895 = .ok (.aload_n 1, 1) := dgq (p := 9) daL_law_886 dbL_law_886.2.2.2.2.1
theorem dL_law_896 : decode cL_law 896 = .ok (.aload_n 0, 1) := dgq (p := 10) daL_law_886 dbL_law_886.2.2.2.2.2.1
theorem dL_law_897 : decode cL_law 897 = .ok (.iload 5, 2) := dgq (p := 11) daL_law_886 dbL_law_886.2.2.2.2.2.2.1
theorem dL_law_899 : decode cL_law 899 = .ok (.iconst 1, 1) := dgq (p := 13) daL_law_886 dbL_law_886.2.2.2.2.2.2.2.1
theorem dL_law_900 : decode cL_law 900 = .ok (.iadd, 1) := dgq (p := 14) daL_law_886 dbL_law_886.2.2.2.2.2.2.2.2.1
theorem dL_law_901 : decode cL_law 901 = .ok (.iaload, 1) := dgq (p := 15) daL_law_886 dbL_law_886.2.2.2.2.2.2.2.2.2.1
theorem dL_law_902 : decode cL_law 902 = .ok (.aload_n 0, 1) := dgq (p := 16) daL_law_886 dbL_law_886.2.2.2.2.2.2.2.2.2.2.1
theorem dL_law_903 : decode cL_law 903 = .ok (.iload 5, 2) := dgq (p := 17) daL_law_886 dbL_law_886.2.2.2.2.2.2.2.2.2.2.2.1
theorem dL_law_905 : decode cL_law 905 = .ok (.iconst 2, 1) := dgq (p := 19) daL_law_886 dbL_law_886.2.2.2.2.2.2.2.2.2.2.2.2.1
theorem dL_law_906 : decode cL_law 906 = .ok (.iadd, 1) := dgq (p := 20) daL_law_886 dbL_law_886.2.2.2.2.2.2.2.2.2.2.2.2.2.1
theorem dL_law_907 : decode cL_law 907 = .ok (.iaload, 1) := dgq (p := 21) daL_law_886 dbL_law_886.2.2.2.2.2.2.2.2.2.2.2.2.2.2.1
theorem dL_law_908 : decode cL_law 908 = .ok (.aload_n 0, 1) := dgq (p := 22) daL_law_886 dbL_law_886.2.2.2.2.2.2.2.2.2.2.2.2.2.2.2.1
theorem dL_law_909 : decode cL_law 909 = .ok (.iload 5, 2) := dgq (p := 23) daL_law_886 dbL_law_886.2.2.2.2.2.2.2.2.2.2.2.2.2.2.2.2.1
theorem dL_law_911 : decode cL_law 911 = .ok (.iconst 3, 1) := dgq (p := 25) daL_law_886 dbL_law_886.2.2.2.2.2.2.2.2.2.2.2.2.2.2.2.2.2.1
theorem dL_law_912 : decode cL_law 912 = .ok (.iadd, 1) := dgq (p := 26) daL_law_886 dbL_law_886.2.2.2.2.2.2.2.2.2.2.2.2.2.2.2.2.2.2.1
theorem dL_law_913 : decode cL_law 913 = .ok (.iaload, 1) := dgq (p := 27) daL_law_886 dbL_law_886.2.2.2.2.2.2.2.2.2.2.2.2.2.2.2.2.2.2.2.1
theorem dL_law_914 : decode cL_law 914 = .ok (.aload_n 0, 1) := dgq (p := 28) daL_law_886 dbL_law_886.2.2.2.2.2.2.2.2.2.2.2.2.2.2.2.2.2.2.2.2.1
theorem dL_law_915 : decode cL_law 915 = .ok (.iload 5, 2) := dgq (p := 29) daL_law_886 dbL_law_886.2.2.2.2.2.2.2.2.2.2.2.2.2.2.2.2.2.2.2.2.2.1
theorem dL_law_917 : decode cL_law 917 = .ok (.iconst 4, 1) := dgq (p := 31) daL_law_886 dbL_law_886.2.2.2.2.2.2.2.2.2.2.2.2.2.2.2.2.2.2.2.2.2.2.1
theorem dL_law_918 : decode cL_law 918 = .ok (.iadd, 1) := dgq (p := 32) daL_law_886 dbL_law_886.2.2.2.2.2.2.2.2.2.2.2.2.2.2.2.2.2.2.2.2.2.2.2
def dsL_law_919 : ByteArray := ⟨#[46, 45, 184, 1, 20, 54, 6, 44, 42, 21, 5, 4, 96, 46, 42, 21, 5, 5, 96, 46, 42, 21, 5, 6, 96, 46, 42, 21, 5, 7, 96]⟩
theorem daL_law_919 : agB cL_law dsL_law_919 919 := agB_of (n := 31) (by decide +kernel)
theorem dbL_law_919 : (decode dsL_law_919 0 = .ok (.iaload, 1) ∧ okop dsL_law_919 0 = true) ∧ (decode dsL_law_919 1 = .ok (.aload_n 3, 1) ∧ okop dsL_law_919 1 = true) ∧ (decode dsL_law_919 2 = .ok (.invokestatic 276, 3) ∧ okop dsL_law_919 2 = true) ∧ (decode dsL_law_919 5 = .ok (.istore 6, 2) ∧ okop dsL_law_919 5 = true) ∧ (decode dsL_law_919 7 = .ok (.aload_n 2, 1) ∧ okop dsL_law_919 7 = true) ∧ (decode dsL_law_919 8 = .ok (.aload_n 0, 1) ∧ okop dsL_law_919 8 = true) ∧ (decode dsL_law_919 9 = .ok (.iload 5, 2) ∧ okop dsL_law_919 9 = true) ∧ (decode dsL_law_919 11 = .ok (.iconst 1, 1) ∧ okop dsL_law_919 11 = true) ∧ (decode dsL_law_919 12 = .ok (.iadd, 1) ∧ okop dsL_law_919 12 = true) ∧ (decode dsL_law_919 13 = .ok (.iaload, 1) ∧ okop dsL_law_919 13 = true) ∧ (decode dsL_law_919 14 = .ok (.aload_n 0, 1) ∧ okop dsL_law_919 14 = true) ∧ (decode dsL_law_919 15 = .ok (.iload 5, 2) ∧ okop dsL_law_919 15 = true) ∧ (decode dsL_law_919 17 = .ok (.iconst 2, 1) ∧ okop dsL_law_919 17 = true) ∧ (decode dsL_law_919 18 = .ok (.iadd, 1) ∧ okop dsL_law_919 18 = true) ∧ (decode dsL_law_919 19 = .ok (.iaload, 1) ∧ okop dsL_law_919 19 = true) ∧ (decode dsL_law_919 20 = .ok (.aload_n 0, 1) ∧ okop dsL_law_919 20 = true) ∧ (decode dsL_law_919 21 = .ok (.iload 5, 2) ∧ okop dsL_law_919 21 = true) ∧ (decode dsL_law_919 23 = .ok (.iconst 3, 1) ∧ okop dsL_law_919 23 = true) ∧ (decode dsL_law_919 24 = .ok (.iadd, 1) ∧ okop dsL_law_919 24 = true) ∧ (decode dsL_law_919 25 = .ok (.iaload, 1) ∧ okop dsL_law_919 25 = true) ∧ (decode dsL_law_919 26 = .ok (.aload_n 0, 1) ∧ okop dsL_law_919 26 = true) ∧ (decode dsL_law_919 27 = .ok (.iload 5, 2) ∧ okop dsL_law_919 27 = true) ∧ (decode dsL_law_919 29 = .ok (.iconst 4, 1) ∧ okop dsL_law_919 29 = true) ∧ (decode dsL_law_919 30 = .ok (.iadd, 1) ∧ okop dsL_law_919 30 = true) := by decide +kernel
theorem dL_law_919 : decode cL_law 919 = .ok (.iaload, 1) := dgq (p := 0) daL_law_919 dbL_law_919.1
theorem dL_law_920 : decode cL_law 920 = .ok (.aload_n 3, 1) := dgq (p := 1) daL_law_919 dbL_law_919.2.1
theorem dL_law_921 : decode cL_law 921 = .ok (.invokestatic 276, 3) := dgq (p := 2) daL_law_919 dbL_law_919.2.2.1
theorem dL_law_924 : decode cL_law 924 = .ok (.istore 6, 2) := dgq (p := 5) daL_law_919 dbL_law_919.2.2.2.1
theorem dL_law_926 : decode cL_law 926 = .ok (.aload_n 2, 1) := dgq (p := 7) daL_law_919 dbL_law_919.2.2.2.2.1
theorem dL_law_927 : decode cL_law 927 = .ok (.aload_n 0, 1) := dgq (p := 8) daL_law_919 dbL_law_919.2.2.2.2.2.1
theorem dL_law_928 : decode cL_law 928 = .ok (.iload 5, 2) := dgq (p := 9) daL_law_919 dbL_law_919.2.2.2.2.2.2.1
theorem dL_law_930 : decode cL_law 930 = .ok (.iconst 1, 1) := dgq (p := 11) daL_law_919 dbL_law_919.2.2.2.2.2.2.2.1
theorem dL_law_931 : decode cL_law 931 = .ok (.iadd, 1) := dgq (p := 12) daL_law_919 dbL_law_919.2.2.2.2.2.2.2.2.1
theorem dL_law_932 : decode cL_law 932 = .ok (.iaload, 1) := dgq (p := 13) daL_law_919 dbL_law_919.2.2.2.2.2.2.2.2.2.1
theorem dL_law_933 : decode cL_law 933 = .ok (.aload_n 0, 1) := dgq (p := 14) daL_law_919 dbL_law_919.2.2.2.2.2.2.2.2.2.2.1
theorem dL_law_934 : decode cL_law 934 = .ok (.iload 5, 2) := dgq (p := 15) daL_law_919 dbL_law_919.2.2.2.2.2.2.2.2.2.2.2.1
theorem dL_law_936 : decode cL_law 936 = .ok (.iconst 2, 1) := dgq (p := 17) daL_law_919 dbL_law_919.2.2.2.2.2.2.2.2.2.2.2.2.1
theorem dL_law_937 : decode cL_law 937 = .ok (.iadd, 1) := dgq (p := 18) daL_law_919 dbL_law_919.2.2.2.2.2.2.2.2.2.2.2.2.2.1
theorem dL_law_938 : decode cL_law 938 = .ok (.iaload, 1) := dgq (p := 19) daL_law_919 dbL_law_919.2.2.2.2.2.2.2.2.2.2.2.2.2.2.1
theorem dL_law_939 : decode cL_law 939 = .ok (.aload_n 0, 1) := dgq (p := 20) daL_law_919 dbL_law_919.2.2.2.2.2.2.2.2.2.2.2.2.2.2.2.1
theorem dL_law_940 : decode cL_law 940 = .ok (.iload 5, 2) := dgq (p := 21) daL_law_919 dbL_law_919.2.2.2.2.2.2.2.2.2.2.2.2.2.2.2.2.1
theorem dL_law_942 : decode cL_law 942 = .ok (.iconst 3, 1) := dgq (p := 23) daL_law_919 dbL_law_919.2.2.2.2.2.2.2.2.2.2.2.2.2.2.2.2.2.1
theorem dL_law_943 : decode cL_law 943 = .ok (.iadd, 1) := dgq (p := 24) daL_law_919 dbL_law_919.2.2.2.2.2.2.2.2.2.2.2.2.2.2.2.2.2.2.1
theorem dL_law_944 : decode cL_law 944 = .ok (.iaload, 1) := dgq (p := 25) daL_law_919 dbL_law_919.2.2.2.2.2.2.2.2.2.2.2.2.2.2.2.2.2.2.2.1
theorem dL_law_945 : decode cL_law 945 = .ok (.aload_n 0, 1) := dgq (p := 26) daL_law_919 dbL_law_919.2.2.2.2.2.2.2.2.2.2.2.2.2.2.2.2.2.2.2.2.1
theorem dL_law_946 : decode cL_law 946 = .ok (.iload 5, 2) := dgq (p := 27) daL_law_919 dbL_law_919.2.2.2.2.2.2.2.2.2.2.2.2.2.2.2.2.2.2.2.2.2.1
theorem dL_law_948 : decode cL_law 948 = .ok (.iconst 4, 1) := dgq (p := 29) daL_law_919 dbL_law_919.2.2.2.2.2.2.2.2.2.2.2.2.2.2.2.2.2.2.2.2.2.2.1
theorem dL_law_949 : decode cL_law 949 = .ok (.iadd, 1) := dgq (p := 30) daL_law_919 dbL_law_919.2.2.2.2.2.2.2.2.2.2.2.2.2.2.2.2.2.2.2.2.2.2.2
def dsL_law_950 : ByteArray := ⟨#[46, 182, 1, 22, 54, 7, 167, 7, 183, 43, 42, 21, 5, 4, 96, 46, 42, 21, 5, 5, 96, 46, 42, 21, 5, 6, 96, 46, 42, 21, 5, 7, 96]⟩
theorem daL_law_950 : agB cL_law dsL_law_950 950 := agB_of (n := 33) (by decide +kernel)
theorem dbL_law_950 : (decode dsL_law_950 0 = .ok (.iaload, 1) ∧ okop dsL_law_950 0 = true) ∧ (decode dsL_law_950 1 = .ok (.invokevirtual 278, 3) ∧ okop dsL_law_950 1 = true) ∧ (decode dsL_law_950 4 = .ok (.istore 7, 2) ∧ okop dsL_law_950 4 = true) ∧ (decode dsL_law_950 6 = .ok (.goto 1975, 3) ∧ okop dsL_law_950 6 = true) ∧ (decode dsL_law_950 9 = .ok (.aload_n 1, 1) ∧ okop dsL_law_950 9 = true) ∧ (decode dsL_law_950 10 = .ok (.aload_n 0, 1) ∧ okop dsL_law_950 10 = true) ∧ (decode dsL_law_950 11 = .ok (.iload 5, 2) ∧ okop dsL_law_950 11 = true) ∧ (decode dsL_law_950 13 = .ok (.iconst 1, 1) ∧ okop dsL_law_950 13 = true) ∧ (decode dsL_law_950 14 = .ok (.iadd, 1) ∧ okop dsL_law_950 14 = true) ∧ (decode dsL_law_950 15 = .ok (.iaload, 1) ∧ okop dsL_law_950 15 = true) ∧ (decode dsL_law_950 16 = .ok (.aload_n 0, 1) ∧ okop dsL_law_950 16 = true) ∧ (decode dsL_law_950 17 = .ok (.iload 5, 2) ∧ okop dsL_law_950 17 = true) ∧ (decode dsL_law_950 19 = .ok (.iconst 2, 1) ∧ okop dsL_law_950 19 = true) ∧ (decode dsL_law_950 20 = .ok (.iadd, 1) ∧ okop dsL_law_950 20 = true) ∧ (decode dsL_law_950 21 = .ok (.iaload, 1) ∧ okop dsL_law_950 21 = true) ∧ (decode dsL_law_950 22 = .ok (.aload_n 0, 1) ∧ okop dsL_law_950 22 = true) ∧ (decode dsL_law_950 23 = .ok (.iload 5, 2) ∧ okop dsL_law_950 23 = true) ∧ (decode dsL_law_950 25 = .ok (.iconst 3, 1) ∧ okop dsL_law_950 25 = true) ∧ (decode dsL_law_950 26 = .ok (.iadd, 1) ∧ okop dsL_law_950 26 = true) ∧ (decode dsL_law_950 27 = .ok (.iaload, 1) ∧ okop dsL_law_950 27 = true) ∧ (decode dsL_law_950 28 = .ok (.aload_n 0, 1) ∧ okop dsL_law_950 28 = true) ∧ (decode dsL_law_950 29 = .ok (.iload 5, 2) ∧ okop dsL_law_950 29 = true) ∧ (decode dsL_law_950 31 = .ok (.iconst 4, 1) ∧ okop dsL_law_950 31 = true) ∧ (decode dsL_law_950 32 = .ok (.iadd, 1) ∧ okop dsL_law_950 32 = true) := by decide +kernel
theorem dL_law_950 : decode cL_law 950 = .ok (.iaload, 1) := dgq (p := 0) daL_law_950 dbL_law_950.1
theorem dL_law_951 : decode cL_law 951 = .ok (.invokevirtual 278, 3) := dgq (p := 1) daL_law_950 dbL_law_950.2.1
theorem dL_law_954 : decode cL_law 954 = .ok (.istore 7, 2) := dgq (p := 4) daL_law_950 dbL_law_950.2.2.1
theorem dL_law_956 : decode cL_law 956 = .ok (.goto 1975, 3) := dgq (p := 6) daL_law_950 dbL_law_950.2.2.2.1
theorem dL_law_959 : decode cL_law 959 = .ok (.aload_n 1, 1) := dgq (p := 9) daL_law_950 dbL_law_950.2.2.2.2.1
theorem dL_law_960 : decode cL_law 960 = .ok (.aload_n 0, 1) := dgq (p := 10) daL_law_950 dbL_law_950.2.2.2.2.2.1
theorem dL_law_961 : decode cL_law 961 = .ok (.iload 5, 2) := dgq (p := 11) daL_law_950 dbL_law_950.2.2.2.2.2.2.1
theorem dL_law_963 : decode cL_law 963 = .ok (.iconst 1, 1) := dgq (p := 13) daL_law_950 dbL_law_950.2.2.2.2.2.2.2.1
theorem dL_law_964 : decode cL_law 964 = .ok (.iadd, 1) := dgq (p := 14) daL_law_950 dbL_law_950.2.2.2.2.2.2.2.2.1
theorem dL_law_965 : decode cL_law 965 = .ok (.iaload, 1) := dgq (p := 15) daL_law_950 dbL_law_950.2.2.2.2.2.2.2.2.2.1
theorem dL_law_966 : decode cL_law 966 = .ok (.aload_n 0, 1) := dgq (p := 16) daL_law_950 dbL_law_950.2.2.2.2.2.2.2.2.2.2.1
theorem dL_law_967 : decode cL_law 967 = .ok (.iload 5, 2) := dgq (p := 17) daL_law_950 dbL_law_950.2.2.2.2.2.2.2.2.2.2.2.1
theorem dL_law_969 : decode cL_law 969 = .ok (.iconst 2, 1) := dgq (p := 19) daL_law_950 dbL_law_950.2.2.2.2.2.2.2.2.2.2.2.2.1
theorem dL_law_970 : decode cL_law 970 = .ok (.iadd, 1) := dgq (p := 20) daL_law_950 dbL_law_950.2.2.2.2.2.2.2.2.2.2.2.2.2.1
theorem dL_law_971 : decode cL_law 971 = .ok (.iaload, 1) := dgq (p := 21) daL_law_950 dbL_law_950.2.2.2.2.2.2.2.2.2.2.2.2.2.2.1
theorem dL_law_972 : decode cL_law 972 = .ok (.aload_n 0, 1) := dgq (p := 22) daL_law_950 dbL_law_950.2.2.2.2.2.2.2.2.2.2.2.2.2.2.2.1
theorem dL_law_973 : decode cL_law 973 = .ok (.iload 5, 2) := dgq (p := 23) daL_law_950 dbL_law_950.2.2.2.2.2.2.2.2.2.2.2.2.2.2.2.2.1
theorem dL_law_975 : decode cL_law 975 = .ok (.iconst 3, 1) := dgq (p := 25) daL_law_950 dbL_law_950.2.2.2.2.2.2.2.2.2.2.2.2.2.2.2.2.2.1
theorem dL_law_976 : decode cL_law 976 = .ok (.iadd, 1) := dgq (p := 26) daL_law_950 dbL_law_950.2.2.2.2.2.2.2.2.2.2.2.2.2.2.2.2.2.2.1
theorem dL_law_977 : decode cL_law 977 = .ok (.iaload, 1) := dgq (p := 27) daL_law_950 dbL_law_950.2.2.2.2.2.2.2.2.2.2.2.2.2.2.2.2.2.2.2.1
theorem dL_law_978 : decode cL_law 978 = .ok (.aload_n 0, 1) := dgq (p := 28) daL_law_950 dbL_law_950.2.2.2.2.2.2.2.2.2.2.2.2.2.2.2.2.2.2.2.2.1
theorem dL_law_979 : decode cL_law 979 = .ok (.iload 5, 2) := dgq (p := 29) daL_law_950 dbL_law_950.2.2.2.2.2.2.2.2.2.2.2.2.2.2.2.2.2.2.2.2.2.1
theorem dL_law_981 : decode cL_law 981 = .ok (.iconst 4, 1) := dgq (p := 31) daL_law_950 dbL_law_950.2.2.2.2.2.2.2.2.2.2.2.2.2.2.2.2.2.2.2.2.2.2.1
theorem dL_law_982 : decode cL_law 982 = .ok (.iadd, 1) := dgq (p := 32) daL_law_950 dbL_law_950.2.2.2.2.2.2.2.2.2.2.2.2.2.2.2.2.2.2.2.2.2.2.2
def dsL_law_983 : ByteArray := ⟨#[46, 45, 184, 1, 23, 54, 6, 44, 42, 21, 5, 4, 96, 46, 42, 21, 5, 5, 96, 46, 42, 21, 5, 6, 96, 46, 42, 21, 5, 7, 96]⟩
theorem daL_law_983 : agB cL_law dsL_law_983 983 := agB_of (n := 31) (by decide +kernel)
theorem dbL_law_983 : (decode dsL_law_983 0 = .ok (.iaload, 1) ∧ okop dsL_law_983 0 = true) ∧ (decode dsL_law_983 1 = .ok (.aload_n 3, 1) ∧ okop dsL_law_983 1 = true) ∧ (decode dsL_law_983 2 = .ok (.invokestatic 279, 3) ∧ okop dsL_law_983 2 = true) ∧ (decode dsL_law_983 5 = .ok (.istore 6, 2) ∧ okop dsL_law_983 5 = true) ∧ (decode dsL_law_983 7 = .ok (.aload_n 2, 1) ∧ okop dsL_law_983 7 = true) ∧ (decode dsL_law_983 8 = .ok (.aload_n 0, 1) ∧ okop dsL_law_983 8 = true) ∧ (decode dsL_law_983 9 = .ok (.iload 5, 2) ∧ okop dsL_law_983 9 = true) ∧ (decode dsL_law_983 11 = .ok (.iconst 1, 1) ∧ okop dsL_law_983 11 = true) ∧ (decode dsL_law_983 12 = .ok (.iadd, 1) ∧ okop dsL_law_983 12 = true) ∧ (decode dsL_law_983 13 = .ok (.iaload, 1) ∧ okop dsL_law_983 13 = true) ∧ (decode dsL_law_983 14 = .ok (.aload_n 0, 1) ∧ okop dsL_law_983 14 = true) ∧ (decode dsL_law_983 15 = .ok (.iload 5, 2) ∧ okop dsL_law_983 15 = true) ∧ (decode dsL_law_983 17 = .ok (.iconst 2, 1) ∧ okop dsL_law_983 17 = true) ∧ (decode dsL_law_983 18 = .ok (.iadd, 1) ∧ okop dsL_law_983 18 = true) ∧ (decode dsL_law_983 19 = .ok (.iaload, 1) ∧ okop dsL_law_983 19 = true) ∧ (decode dsL_law_983 20 = .ok (.aload_n 0, 1) ∧ okop dsL_law_983 20 = true) ∧ (decode dsL_law_983 21 = .ok (.iload 5, 2) ∧ okop dsL_law_983 21 = true) ∧ (decode dsL_law_983 23 = .ok (.iconst 3, 1) ∧ okop dsL_law_983 23 = true) ∧ (decode dsL_law_983 24 = .ok (.iadd, 1) ∧ okop dsL_law_983 24 = true) ∧ (decode dsL_law_983 25 = .ok (.iaload, 1) ∧ okop dsL_law_983 25 = true) ∧ (decode dsL_law_983 26 = .ok (.aload_n 0, 1) ∧ okop dsL_law_983 26 = true) ∧ (decode dsL_law_983 27 = .ok (.iload 5, 2) ∧ okop dsL_law_983 27 = true) ∧ (decode dsL_law_983 29 = .ok (.iconst 4, 1) ∧ okop dsL_law_983 29 = true) ∧ (decode dsL_law_983 30 = .ok (.iadd, 1) ∧ okop dsL_law_983 30 = true) := by decide +kernel
theorem dL_law_983 : decode cL_law 983 = .ok (.iaload, 1) := dgq (p := 0) daL_law_983 dbL_law_983.1
theorem dL_law_984 : decode cL_law 984 = .ok (.aload_n 3, 1) := dgq (p := 1) daL_law_983 dbL_law_983.2.1
theorem dL_law_985 : decode cL_law 985 = .ok (.invokestatic 279, 3) := dgq (p := 2) daL_law_983 dbL_law_983.2.2.1
theorem dL_law_988 : decode cL_law 988 = .ok (.istore 6, 2) := dgq (p := 5) daL_law_983 dbL_law_983.2.2.2.1
theorem dL_law_990 : decode cL_law 990 = .ok (.aload_n 2, 1) := dgq (p := 7) daL_law_983 dbL_law_983.2.2.2.2.1
theorem dL_law_991 : decode cL_law 991 = .ok (.aload_n 0, 1) := dgq (p := 8) daL_law_983 dbL_law_983.2.2.2.2.2.1
theorem dL_law_992 : decode cL_law 992 = .ok (.iload 5, 2) := dgq (p := 9) daL_law_983 dbL_law_983.2.2.2.2.2.2.1
theorem dL_law_994 : decode cL_law 994 = .ok (.iconst 1, 1) := dgq (p := 11) daL_law_983 dbL_law_983.2.2.2.2.2.2.2.1
theorem dL_law_995 : decode cL_law 995 = .ok (.iadd, 1) := dgq (p := 12) daL_law_983 dbL_law_983.2.2.2.2.2.2.2.2.1
theorem dL_law_996 : decode cL_law 996 = .ok (.iaload, 1) := dgq (p := 13) daL_law_983 dbL_law_983.2.2.2.2.2.2.2.2.2.1
theorem dL_law_997 : decode cL_law 997 = .ok (.aload_n 0, 1) := dgq (p := 14) daL_law_983 dbL_law_983.2.2.2.2.2.2.2.2.2.2.1
theorem dL_law_998 : decode cL_law 998 = .ok (.iload 5, 2) := dgq (p := 15) daL_law_983 dbL_law_983.2.2.2.2.2.2.2.2.2.2.2.1
theorem dL_law_1000 : decode cL_law 1000 = .ok (.iconst 2, 1) := dgq (p := 17) daL_law_983 dbL_law_983.2.2.2.2.2.2.2.2.2.2.2.2.1
theorem dL_law_1001 : decode cL_law 1001 = .ok (.iadd, 1) := dgq (p := 18) daL_law_983 dbL_law_983.2.2.2.2.2.2.2.2.2.2.2.2.2.1
theorem dL_law_1002 : decode cL_law 1002 = .ok (.iaload, 1) := dgq (p := 19) daL_law_983 dbL_law_983.2.2.2.2.2.2.2.2.2.2.2.2.2.2.1
theorem dL_law_1003 : decode cL_law 1003 = .ok (.aload_n 0, 1) := dgq (p := 20) daL_law_983 dbL_law_983.2.2.2.2.2.2.2.2.2.2.2.2.2.2.2.1
theorem dL_law_1004 : decode cL_law 1004 = .ok (.iload 5, 2) := dgq (p := 21) daL_law_983 dbL_law_983.2.2.2.2.2.2.2.2.2.2.2.2.2.2.2.2.1
theorem dL_law_1006 : decode cL_law 1006 = .ok (.iconst 3, 1) := dgq (p := 23) daL_law_983 dbL_law_983.2.2.2.2.2.2.2.2.2.2.2.2.2.2.2.2.2.1
theorem dL_law_1007 : decode cL_law 1007 = .ok (.iadd, 1) := dgq (p := 24) daL_law_983 dbL_law_983.2.2.2.2.2.2.2.2.2.2.2.2.2.2.2.2.2.2.1
theorem dL_law_1008 : decode cL_law 1008 = .ok (.iaload, 1) := dgq (p := 25) daL_law_983 dbL_law_983.2.2.2.2.2.2.2.2.2.2.2.2.2.2.2.2.2.2.2.1
theorem dL_law_1009 : decode cL_law 1009 = .ok (.aload_n 0, 1) := dgq (p := 26) daL_law_983 dbL_law_983.2.2.2.2.2.2.2.2.2.2.2.2.2.2.2.2.2.2.2.2.1
theorem dL_law_1010 : decode cL_law 1010 = .ok (.iload 5, 2) := dgq (p := 27) daL_law_983 dbL_law_983.2.2.2.2.2.2.2.2.2.2.2.2.2.2.2.2.2.2.2.2.2.1
theorem dL_law_1012 : decode cL_law 1012 = .ok (.iconst 4, 1) := dgq (p := 29) daL_law_983 dbL_law_983.2.2.2.2.2.2.2.2.2.2.2.2.2.2.2.2.2.2.2.2.2.2.1
theorem dL_law_1013 : decode cL_law 1013 = .ok (.iadd, 1) := dgq (p := 30) daL_law_983 dbL_law_983.2.2.2.2.2.2.2.2.2.2.2.2.2.2.2.2.2.2.2.2.2.2.2
def dsL_law_1014 : ByteArray := ⟨#[46, 182, 1, 25, 54, 7, 167, 7, 119, 43, 42, 21, 5, 4, 96, 46, 42, 21, 5, 5, 96, 46, 42, 21, 5, 6, 96, 46, 45, 184, 1, 26, 54, 6, 44]⟩
theorem daL_law_1014 : agB cL_law dsL_law_1014 1014 := agB_of (n := 35) (by decide +kernel)
theorem dbL_law_1014 : (decode dsL_law_1014 0 = .ok (.iaload, 1) ∧ okop dsL_law_1014 0 = true) ∧ (decode dsL_law_1014 1 = .ok (.invokevirtual 281, 3) ∧ okop dsL_law_1014 1 = true) ∧ (decode dsL_law_1014 4 = .ok (.istore 7, 2) ∧ okop dsL_law_1014 4 = true) ∧ (decode dsL_law_1014 6 = .ok (.goto 1911, 3) ∧ okop dsL_law_1014 6 = true) ∧ (decode dsL_law_1014 9 = .ok (.aload_n 1, 1) ∧ okop dsL_law_1014 9 = true) ∧ (decode dsL_law_1014 10 = .ok (.aload_n 0, 1) ∧ okop dsL_law_1014 10 = true) ∧ (decode dsL_law_1014 11 = .ok (.iload 5, 2) ∧ okop dsL_law_1014 11 = true) ∧ (decode dsL_law_1014 13 = .ok (.iconst 1, 1) ∧ okop dsL_law_1014 13 = true) ∧ (decode dsL_law_1014 14 = .ok (.iadd, 1) ∧ okop dsL_law_1014 14 = true) ∧ (decode dsL_law_1014 15 = .ok (.iaload, 1) ∧ okop dsL_law_1014 15 = true) ∧ (decode dsL_law_1014 16 = .ok (.aload_n 0, 1) ∧ okop dsL_law_1014 16 = true) ∧ (decode dsL_law_1014 17 = .ok (.iload 5, 2) ∧ okop dsL_law_1014 17 = true) ∧ (decode dsL_law_1014 19 = .ok (.iconst 2, 1) ∧ okop dsL_law_1014 19 = true) ∧ (decode dsL_law_1014 20 = .ok (.iadd, 1) ∧ okop dsL_law_1014 20 = true) ∧ (decode dsL_law_1014 21 = .ok (.iaload, 1) ∧ okop dsL_law_1014 21 = true) ∧ (decode dsL_law_1014 22 = .ok (.aload_n 0, 1) ∧ okop dsL_law_1014 22 = true) ∧ (decode dsL_law_1014 23 = .ok (.iload 5, 2) ∧ okop dsL_law_1014 23 = true) ∧ (decode dsL_law_1014 25 = .ok (.iconst 3, 1) ∧ okop dsL_law_1014 25 = true) ∧ (decode dsL_law_1014 26 = .ok (.iadd, 1) ∧ okop dsL_law_1014 26 = true) ∧ (decode dsL_law_1014 27 = .ok (.iaload, 1) ∧ okop dsL_law_1014 27 = true) ∧ (decode dsL_law_1014 28 = .ok (.aload_n 3, 1) ∧ okop dsL_law_1014 28 = true) ∧ (decode dsL_law_1014 29 = .ok (.invokestatic 282, 3) ∧ okop dsL_law_1014 29 = true) ∧ (decode dsL_law_1014 32 = .ok (.istore 6, 2) ∧ okop dsL_law_1014 32 = true) ∧ (decode dsL_law_1014 34 = .ok (.aload_n 2, 1) ∧ okop dsL_law_1014 34 = true) := by decide +kernel
theorem dL_law_1014 : decode cL_law 1014 = .ok (.iaload, 1) := dgq (p := 0) daL_law_1014 dbL_law_1014.1
theorem dL_law_1015 : decode cL_law 1015 = .ok (.invokevirtual 281, 3) := dgq (p := 1) daL_law_1014 dbL_law_1014.2.1
theorem dL_law_1018 : decode cL_law 1018 = .ok (.istore 7, 2) := dgq (p := 4) daL_law_1014 dbL_law_1014.2.2.1
theorem dL_law_1020 : decode cL_law 1020 = .ok (.goto 1911, 3) := dgq (p := 6) daL_law_1014 dbL_law_1014.2.2.2.1
theorem dL_law_1023 : decode cL_law 1023 = .ok (.aload_n 1, 1) := dgq (p := 9) daL_law_1014 dbL_law_1014.2.2.2.2.1
theorem dL_law_1024 : decode cL_law 1024 = .ok (.aload_n 0, 1) := dgq (p := 10) daL_law_1014 dbL_law_1014.2.2.2.2.2.1
theorem dL_law_1025 : decode cL_law 1025 = .ok (.iload 5, 2) := dgq (p := 11) daL_law_1014 dbL_law_1014.2.2.2.2.2.2.1
theorem dL_law_1027 : decode cL_law 1027 = .ok (.iconst 1, 1) := dgq (p := 13) daL_law_1014 dbL_law_1014.2.2.2.2.2.2.2.1
theorem dL_law_1028 : decode cL_law 1028 = .ok (.iadd, 1) := dgq (p := 14) daL_law_1014 dbL_law_1014.2.2.2.2.2.2.2.2.1
theorem dL_law_1029 : decode cL_law 1029 = .ok (.iaload, 1) := dgq (p := 15) daL_law_1014 dbL_law_1014.2.2.2.2.2.2.2.2.2.1
theorem dL_law_1030 : decode cL_law 1030 = .ok (.aload_n 0, 1) := dgq (p := 16) daL_law_1014 dbL_law_1014.2.2.2.2.2.2.2.2.2.2.1
theorem dL_law_1031 : decode cL_law 1031 = .ok (.iload 5, 2) := dgq (p := 17) daL_law_1014 dbL_law_1014.2.2.2.2.2.2.2.2.2.2.2.1
theorem dL_law_1033 : decode cL_law 1033 = .ok (.iconst 2, 1) := dgq (p := 19) daL_law_1014 dbL_law_1014.2.2.2.2.2.2.2.2.2.2.2.2.1
theorem dL_law_1034 : decode cL_law 1034 = .ok (.iadd, 1) := dgq (p := 20) daL_law_1014 dbL_law_1014.2.2.2.2.2.2.2.2.2.2.2.2.2.1
theorem dL_law_1035 : decode cL_law 1035 = .ok (.iaload, 1) := dgq (p := 21) daL_law_1014 dbL_law_1014.2.2.2.2.2.2.2.2.2.2.2.2.2.2.1
theorem dL_law_1036 : decode cL_law 1036 = .ok (.aload_n 0, 1) := dgq (p := 22) daL_law_1014 dbL_law_1014.2.2.2.2.2.2.2.2.2.2.2.2.2.2.2.1
theorem dL_law_1037 : decode cL_law 1037 = .ok (.iload 5, 2) := dgq (p := 23) daL_law_1014 dbL_law_1014.2.2.2.2.2.2.2.2.2.2.2.2.2.2.2.2.1
theorem dL_law_1039 : decode cL_law 1039 = .ok (.iconst 3, 1) := dgq (p := 25) daL_law_1014 dbL_law_1014.2.2.2.2.2.2.2.2.2.2.2.2.2.2.2.2.2.1
theorem dL_law_1040 : decode cL_law 1040 = .ok (.iadd, 1) := dgq (p := 26) daL_law_1014 dbL_law_1014.2.2.2.2.2.2.2.2.2.2.2.2.2.2.2.2.2.2.1
theorem dL_law_1041 : decode cL_law 1041 = .ok (.iaload, 1) := dgq (p := 27) daL_law_1014 dbL_law_1014.2.2.2.2.2.2.2.2.2.2.2.2.2.2.2.2.2.2.2.1
theorem dL_law_1042 : decode cL_law 1042 = .ok (.aload_n 3, 1) := dgq (p := 28) daL_law_1014 dbL_law_1014.2.2.2.2.2.2.2.2.2.2.2.2.2.2.2.2.2.2.2.2.1
theorem dL_law_1043 : decode cL_law 1043 = .ok (.invokestatic 282, 3) := dgq (p := 29) daL_law_1014 dbL_law_1014.2.2.2.2.2.2.2.2.2.2.2.2.2.2.2.2.2.2.2.2.2.1
theorem dL_law_1046 : decode cL_law 1046 = .ok (.istore 6, 2) := dgq (p := 32) daL_law_1014 dbL_law_1014.2.2.2.2.2.2.2.2.2.2.2.2.2.2.2.2.2.2.2.2.2.2.1
theorem dL_law_1048 : decode cL_law 1048 = .ok (.aload_n 2, 1) := dgq (p := 34) daL_law_1014 dbL_law_1014.2.2.2.2.2.2.2.2.2.2.2.2.2.2.2.2.2.2.2.2.2.2.2
def dsL_law_1049 : ByteArray := ⟨#[42, 21, 5, 4, 96, 46, 42, 21, 5, 5, 96, 46, 42, 21, 5, 6, 96, 46, 182, 1, 29, 54, 7, 167, 7, 67, 43, 42, 21, 5, 4, 96, 46]⟩
theorem daL_law_1049 : agB cL_law dsL_law_1049 1049 := agB_of (n := 33) (by decide +kernel)
theorem dbL_law_1049 : (decode dsL_law_1049 0 = .ok (.aload_n 0, 1) ∧ okop dsL_law_1049 0 = true) ∧ (decode dsL_law_1049 1 = .ok (.iload 5, 2) ∧ okop dsL_law_1049 1 = true) ∧ (decode dsL_law_1049 3 = .ok (.iconst 1, 1) ∧ okop dsL_law_1049 3 = true) ∧ (decode dsL_law_1049 4 = .ok (.iadd, 1) ∧ okop dsL_law_1049 4 = true) ∧ (decode dsL_law_1049 5 = .ok (.iaload, 1) ∧ okop dsL_law_1049 5 = true) ∧ (decode dsL_law_1049 6 = .ok (.aload_n 0, 1) ∧ okop dsL_law_1049 6 = true) ∧ (decode dsL_law_1049 7 = .ok (.iload 5, 2) ∧ okop dsL_law_1049 7 = true) ∧ (decode dsL_law_1049 9 = .ok (.iconst 2, 1) ∧ okop dsL_law_1049 9 = true) ∧ (decode dsL_law_1049 10 = .ok (.iadd, 1) ∧ okop dsL_law_1049 10 = true) ∧ (decode dsL_law_1049 11 = .ok (.iaload, 1) ∧ okop dsL_law_1049 11 = true) ∧ (decode dsL_law_1049 12 = .ok (.aload_n 0, 1) ∧ okop dsL_law_1049 12 = true) ∧ (decode dsL_law_1049 13 = .ok (.iload 5, 2) ∧ okop dsL_law_1049 13 = true) ∧ (decode dsL_law_1049 15 = .ok (.iconst 3, 1) ∧ okop dsL_law_1049 15 = true) ∧ (decode dsL_law_1049 16 = .ok (.iadd, 1) ∧ okop dsL_law_1049 16 = true) ∧ (decode dsL_law_1049 17 = .ok (.iaload, 1) ∧ okop dsL_law_1049 17 = true) ∧ (decode dsL_law_1049 18 = .ok (.invokevirtual 285, 3) ∧ okop dsL_law_1049 18 = true) ∧ (decode dsL_law_1049 21 = .ok (.istore 7, 2) ∧ okop dsL_law_1049 21 = true) ∧ (decode dsL_law_1049 23 = .ok (.goto 1859, 3) ∧ okop dsL_law_1049 23 = true) ∧ (decode dsL_law_1049 26 = .ok (.aload_n 1, 1) ∧ okop dsL_law_1049 26 = true) ∧ (decode dsL_law_1049 27 = .ok (.aload_n 0, 1) ∧ okop dsL_law_1049 27 = true) ∧ (decode dsL_law_1049 28 = .ok (.iload 5, 2) ∧ okop dsL_law_1049 28 = true) ∧ (decode dsL_law_1049 30 = .ok (.iconst 1, 1) ∧ okop dsL_law_1049 30 = true) ∧ (decode dsL_law_1049 31 = .ok (.iadd, 1) ∧ okop dsL_law_1049 31 = true) ∧ (decode dsL_law_1049 32 = .ok (.iaload, 1) ∧ okop dsL_law_1049 32 = true) := by decide +kernel
theorem dL_law_1049 : decode cL_law 1049 = .ok (.aload_n 0, 1) := dgq (p := 0) daL_law_1049 dbL_law_1049.1
theorem dL_law_1050 : decode cL_law 1050 = .ok (.iload 5, 2) := dgq (p := 1) daL_law_1049 dbL_law_1049.2.1
theorem dL_law_1052 : decode cL_law 1052 = .ok (.iconst 1, 1) := dgq (p := 3) daL_law_1049 dbL_law_1049.2.2.1
theorem dL_law_1053 : decode cL_law 1053 = .ok (.iadd, 1) := dgq (p := 4) daL_law_1049 dbL_law_1049.2.2.2.1
theorem dL_law_1054 : decode cL_law 1054 = .ok (.iaload, 1) := dgq (p := 5) daL_law_1049 dbL_law_1049.2.2.2.2.1
theorem dL_law_1055 : decode cL_law 1055 = .ok (.aload_n 0, 1) := dgq (p := 6) daL_law_1049 dbL_law_1049.2.2.2.2.2.1
theorem dL_law_1056 : decode cL_law 1056 = .ok (.iload 5, 2) := dgq (p := 7) daL_law_1049 dbL_law_1049.2.2.2.2.2.2.1
theorem dL_law_1058 : decode cL_law 1058 = .ok (.iconst 2, 1) := dgq (p := 9) daL_law_1049 dbL_law_1049.2.2.2.2.2.2.2.1
theorem dL_law_1059 : decode cL_law 1059 = .ok (.iadd, 1) := dgq (p := 10) daL_law_1049 dbL_law_1049.2.2.2.2.2.2.2.2.1
theorem dL_law_1060 : decode cL_law 1060 = .ok (.iaload, 1) := dgq (p := 11) daL_law_1049 dbL_law_1049.2.2.2.2.2.2.2.2.2.1
theorem dL_law_1061 : decode cL_law 1061 = .ok (.aload_n 0, 1) := dgq (p := 12) daL_law_1049 dbL_law_1049.2.2.2.2.2.2.2.2.2.2.1
theorem dL_law_1062 : decode cL_law 1062 = .ok (.iload 5, 2) := dgq (p := 13) daL_law_1049 dbL_law_1049.2.2.2.2.2.2.2.2.2.2.2.1
theorem dL_law_1064 : decode cL_law 1064 = .ok (.iconst 3, 1) := dgq (p := 15) daL_law_1049 dbL_law_1049.2.2.2.2.2.2.2.2.2.2.2.2.1
theorem dL_law_1065 : decode cL_law 1065 = .ok (.iadd, 1) := dgq (p := 16) daL_law_1049 dbL_law_1049.2.2.2.2.2.2.2.2.2.2.2.2.2.1
theorem dL_law_1066 : decode cL_law 1066 = .ok (.iaload, 1) := dgq (p := 17) daL_law_1049 dbL_law_1049.2.2.2.2.2.2.2.2.2.2.2.2.2.2.1
theorem dL_law_1067 : decode cL_law 1067 = .ok (.invokevirtual 285, 3) := dgq (p := 18) daL_law_1049 dbL_law_1049.2.2.2.2.2.2.2.2.2.2.2.2.2.2.2.1
theorem dL_law_1070 : decode cL_law 1070 = .ok (.istore 7, 2) := dgq (p := 21) daL_law_1049 dbL_law_1049.2.2.2.2.2.2.2.2.2.2.2.2.2.2.2.2.1
theorem dL_law_1072 : decode cL_law 1072 = .ok (.goto 1859, 3) := dgq (p := 23) daL_law_1049 dbL_law_1049.2.2.2.2.2.2.2.2.2.2.2.2.2.2.2.2.2.1
theorem dL_law_1075 : decode cL_law 1075 = .ok (.aload_n 1, 1) := dgq (p := 26) daL_law_1049 dbL_law_1049.2.2.2.2.2.2.2.2.2.2.2.2.2.2.2.2.2.2.1
theorem dL_law_1076 : decode cL_law 1076 = .ok (.aload_n 0, 1) := dgq (p := 27) daL_law_1049 dbL_law_1049.2.2.2.2.2.2.2.2.2.2.2.2.2.2.2.2.2.2.2.1
theorem dL_law_1077 : decode cL_law 1077 = .ok (.iload 5, 2) := dgq (p := 28) daL_law_1049 dbL_law_1049.2.2.2.2.2.2.2.2.2.2.2.2.2.2.2.2.2.2.2.2.1
theorem dL_law_1079 : decode cL_law 1079 = .ok (.iconst 1, 1) := dgq (p := 30) daL_law_1049 dbL_law_1049.2.2.2.2.2.2.2.2.2.2.2.2.2.2.2.2.2.2.2.2.2.1
theorem dL_law_1080 : decode cL_law 1080 = .ok (.iadd, 1) := dgq (p := 31) daL_law_1049 dbL_law_1049.2.2.2.2.2.2.2.2.2.2.2.2.2.2.2.2.2.2.2.2.2.2.1
theorem dL_law_1081 : decode cL_law 1081 = .ok (.iaload, 1) := dgq (p := 32) daL_law_1049 dbL_law_1049.2.2.2.2.2.2.2.2.2.2.2.2.2.2.2.2.2.2.2.2.2.2.2
def dsL_law_1082 : ByteArray := ⟨#[42, 21, 5, 5, 96, 46, 42, 21, 5, 6, 96, 46, 42, 21, 5, 7, 96, 46, 45, 184, 1, 30, 54, 6, 44, 42, 21, 5, 4, 96, 46]⟩
theorem daL_law_1082 : agB cL_law dsL_law_1082 1082 := agB_of (n := 31) (by decide +kernel)
theorem dbL_law_1082 : (decode dsL_law_1082 0 = .ok (.aload_n 0, 1) ∧ okop dsL_law_1082 0 = true) ∧ (decode dsL_law_1082 1 = .ok (.iload 5, 2) ∧ okop dsL_law_1082 1 = true) ∧ (decode dsL_law_1082 3 = .ok (.iconst 2, 1) ∧ okop dsL_law_1082 3 = true) ∧ (decode dsL_law_1082 4 = .ok (.iadd, 1) ∧ okop dsL_law_1082 4 = true) ∧ (decode dsL_law_1082 5 = .ok (.iaload, 1) ∧ okop dsL_law_1082 5 = true) ∧ (decode dsL_law_1082 6 = .ok (.aload_n 0, 1) ∧ okop dsL_law_1082 6 = true) ∧ (decode dsL_law_1082 7 = .ok (.iload 5, 2) ∧ okop dsL_law_1082 7 = true) ∧ (decode dsL_law_1082 9 = .ok (.iconst 3, 1) ∧ okop dsL_law_1082 9 = true) ∧ (decode dsL_law_1082 10 = .ok (.iadd, 1) ∧ okop dsL_law_1082 10 = true) ∧ (decode dsL_law_1082 11 = .ok (.iaload, 1) ∧ okop dsL_law_1082 11 = true) ∧ (decode dsL_law_1082 12 = .ok (.aload_n 0, 1) ∧ okop dsL_law_1082 12 = true) ∧ (decode dsL_law_1082 13 = .ok (.iload 5, 2) ∧ okop dsL_law_1082 13 = true) ∧ (decode dsL_law_1082 15 = .ok (.iconst 4, 1) ∧ okop dsL_law_1082 15 = true) ∧ (decode dsL_law_1082 16 = .ok (.iadd, 1) ∧ okop dsL_law_1082 16 = true) ∧ (decode dsL_law_1082 17 = .ok (.iaload, 1) ∧ okop dsL_law_1082 17 = true) ∧ (decode dsL_law_1082 18 = .ok (.aload_n 3, 1) ∧ okop dsL_law_1082 18 = true) ∧ (decode dsL_law_1082 19 = .ok (.invokestatic 286, 3) ∧ okop dsL_law_1082 19 = true) ∧ (decode dsL_law_1082 22 = .ok (.istore 6, 2) ∧ okop dsL_law_1082 22 = true) ∧ (decode dsL_law_1082 24 = .ok (.aload_n 2, 1) ∧ okop dsL_law_1082 24 = true) ∧ (decode dsL_law_1082 25 = .ok (.aload_n 0, 1) ∧ okop dsL_law_1082 25 = true) ∧ (decode dsL_law_1082 26 = .ok (.iload 5, 2) ∧ okop dsL_law_1082 26 = true) ∧ (decode dsL_law_1082 28 = .ok (.iconst 1, 1) ∧ okop dsL_law_1082 28 = true) ∧ (decode dsL_law_1082 29 = .ok (.iadd, 1) ∧ okop dsL_law_1082 29 = true) ∧ (decode dsL_law_1082 30 = .ok (.iaload, 1) ∧ okop dsL_law_1082 30 = true) := by decide +kernel
theorem dL_law_1082 : decode cL_law 1082 = .ok (.aload_n 0, 1) := dgq (p := 0) daL_law_1082 dbL_law_1082.1
theorem dL_law_1083 : decode cL_law 1083 = .ok (.iload 5, 2) := dgq (p := 1) daL_law_1082 dbL_law_1082.2.1
theorem dL_law_1085 : decode cL_law 1085 = .ok (.iconst 2, 1) := dgq (p := 3) daL_law_1082 dbL_law_1082.2.2.1
theorem dL_law_1086 : decode cL_law 1086 = .ok (.iadd, 1) := dgq (p := 4) daL_law_1082 dbL_law_1082.2.2.2.1
theorem dL_law_1087 : decode cL_law 1087 = .ok (.iaload, 1) := dgq (p := 5) daL_law_1082 dbL_law_1082.2.2.2.2.1
theorem dL_law_1088 : decode cL_law 1088 = .ok (.aload_n 0, 1) := dgq (p := 6) daL_law_1082 dbL_law_1082.2.2.2.2.2.1
theorem dL_law_1089 : decode cL_law 1089 = .ok (.iload 5, 2) := dgq (p := 7) daL_law_1082 dbL_law_1082.2.2.2.2.2.2.1
theorem dL_law_1091 : decode cL_law 1091 = .ok (.iconst 3, 1) := dgq (p := 9) daL_law_1082 dbL_law_1082.2.2.2.2.2.2.2.1
theorem dL_law_1092 : decode cL_law 1092 = .ok (.iadd, 1) := dgq (p := 10) daL_law_1082 dbL_law_1082.2.2.2.2.2.2.2.2.1
theorem dL_law_1093 : decode cL_law 1093 = .ok (.iaload, 1) := dgq (p := 11) daL_law_1082 dbL_law_1082.2.2.2.2.2.2.2.2.2.1
theorem dL_law_1094 : decode cL_law 1094 = .ok (.aload_n 0, 1) := dgq (p := 12) daL_law_1082 dbL_law_1082.2.2.2.2.2.2.2.2.2.2.1
theorem dL_law_1095 : decode cL_law 1095 = .ok (.iload 5, 2) := dgq (p := 13) daL_law_1082 dbL_law_1082.2.2.2.2.2.2.2.2.2.2.2.1
theorem dL_law_1097 : decode cL_law 1097 = .ok (.iconst 4, 1) := dgq (p := 15) daL_law_1082 dbL_law_1082.2.2.2.2.2.2.2.2.2.2.2.2.1
theorem dL_law_1098 : decode cL_law 1098 = .ok (.iadd, 1) := dgq (p := 16) daL_law_1082 dbL_law_1082.2.2.2.2.2.2.2.2.2.2.2.2.2.1
theorem dL_law_1099 : decode cL_law 1099 = .ok (.iaload, 1) := dgq (p := 17) daL_law_1082 dbL_law_1082.2.2.2.2.2.2.2.2.2.2.2.2.2.2.1
theorem dL_law_1100 : decode cL_law 1100 = .ok (.aload_n 3, 1) := dgq (p := 18) daL_law_1082 dbL_law_1082.2.2.2.2.2.2.2.2.2.2.2.2.2.2.2.1
theorem dL_law_1101 : decode cL_law 1101 = .ok (.invokestatic 286, 3) := dgq (p := 19) daL_law_1082 dbL_law_1082.2.2.2.2.2.2.2.2.2.2.2.2.2.2.2.2.1
theorem dL_law_1104 : decode cL_law 1104 = .ok (.istore 6, 2) := dgq (p := 22) daL_law_1082 dbL_law_1082.2.2.2.2.2.2.2.2.2.2.2.2.2.2.2.2.2.1
theorem dL_law_1106 : decode cL_law 1106 = .ok (.aload_n 2, 1) := dgq (p := 24) daL_law_1082 dbL_law_1082.2.2.2.2.2.2.2.2.2.2.2.2.2.2.2.2.2.2.1
theorem dL_law_1107 : decode cL_law 1107 = .ok (.aload_n 0, 1) := dgq (p := 25) daL_law_1082 dbL_law_1082.2.2.2.2.2.2.2.2.2.2.2.2.2.2.2.2.2.2.2.1
theorem dL_law_1108 : decode cL_law 1108 = .ok (.iload 5, 2) := dgq (p := 26) daL_law_1082 dbL_law_1082.2.2.2.2.2.2.2.2.2.2.2.2.2.2.2.2.2.2.2.2.1
theorem dL_law_1110 : decode cL_law 1110 = .ok (.iconst 1, 1) := dgq (p := 28) daL_law_1082 dbL_law_1082.2.2.2.2.2.2.2.2.2.2.2.2.2.2.2.2.2.2.2.2.2.1
theorem dL_law_1111 : decode cL_law 1111 = .ok (.iadd, 1) := dgq (p := 29) daL_law_1082 dbL_law_1082.2.2.2.2.2.2.2.2.2.2.2.2.2.2.2.2.2.2.2.2.2.2.1
theorem dL_law_1112 : decode cL_law 1112 = .ok (.iaload, 1) := dgq (p := 30) daL_law_1082 dbL_law_1082.2.2.2.2.2.2.2.2.2.2.2.2.2.2.2.2.2.2.2.2.2.2.2
def dsL_law_1113 : ByteArray := ⟨#[42, 21, 5, 5, 96, 46, 42, 21, 5, 6, 96, 46, 42, 21, 5, 7, 96, 46, 182, 1, 32, 54, 7, 167, 7, 3, 43, 42, 21, 5, 4, 96, 46]⟩
theorem daL_law_1113 : agB cL_law dsL_law_1113 1113 := agB_of (n := 33) (by decide +kernel)
theorem dbL_law_1113 : (decode dsL_law_1113 0 = .ok (.aload_n 0, 1) ∧ okop dsL_law_1113 0 = true) ∧ (decode dsL_law_1113 1 = .ok (.iload 5, 2) ∧ okop dsL_law_1113 1 = true) ∧ (decode dsL_law_1113 3 = .ok (.iconst 2, 1) ∧ okop dsL_law_1113 3 = true) ∧ (decode dsL_law_1113 4 = .ok (.iadd, 1) ∧ okop dsL_law_1113 4 = true) ∧ (decode dsL_law_1113 5 = .ok (.iaload, 1) ∧ okop dsL_law_1113 5 = true) ∧ (decode dsL_law_1113 6 = .ok (.aload_n 0, 1) ∧ okop dsL_law_1113 6 = true) ∧ (decode dsL_law_1113 7 = .ok (.iload 5, 2) ∧ okop dsL_law_1113 7 = true) ∧ (decode dsL_law_1113 9 = .ok (.iconst 3, 1) ∧ okop dsL_law_1113 9 = true) ∧ (decode dsL_law_1113 10 = .ok (.iadd, 1) ∧ okop dsL_law_1113 10 = true) ∧ (decode dsL_law_1113 11 = .ok (.iaload, 1) ∧ okop dsL_law_1113 11 = true) ∧ (decode dsL_law_1113 12 = .ok (.aload_n 0, 1) ∧ okop dsL_law_1113 12 = true) ∧ (decode dsL_law_1113 13 = .ok (.iload 5, 2) ∧ okop dsL_law_1113 13 = true) ∧ (decode dsL_law_1113 15 = .ok (.iconst 4, 1) ∧ okop dsL_law_1113 15 = true) ∧ (decode dsL_law_1113 16 = .ok (.iadd, 1) ∧ okop dsL_law_1113 16 = true) ∧ (decode dsL_law_1113 17 = .ok (.iaload, 1) ∧ okop dsL_law_1113 17 = true) ∧ (decode dsL_law_1113 18 = .ok (.invokevirtual 288, 3) ∧ okop dsL_law_1113 18 = true) ∧ (decode dsL_law_1113 21 = .ok (.istore 7, 2) ∧ okop dsL_law_1113 21 = true) ∧ (decode dsL_law_1113 23 = .ok (.goto 1795, 3) ∧ okop dsL_law_1113 23 = true) ∧ (decode dsL_law_1113 26 = .ok (.aload_n 1, 1) ∧ okop dsL_law_1113 26 = true) ∧ (decode dsL_law_1113 27 = .ok (.aload_n 0, 1) ∧ okop dsL_law_1113 27 = true) ∧ (decode dsL_law_1113 28 = .ok (.iload 5, 2) ∧ okop dsL_law_1113 28 = true) ∧ (decode dsL_law_1113 30 = .ok (.iconst 1, 1) ∧ okop dsL_law_1113 30 = true) ∧ (decode dsL_law_1113 31 = .ok (.iadd, 1) ∧ okop dsL_law_1113 31 = true) ∧ (decode dsL_law_1113 32 = .ok (.iaload, 1) ∧ okop dsL_law_1113 32 = true) := by decide +kernel
theorem dL_law_1113 : decode cL_law 1113 = .ok (.aload_n 0, 1) := dgq (p := 0) daL_law_1113 dbL_law_1113.1
theorem dL_law_1114 : decode cL_law 1114 = .ok (.iload 5, 2) := dgq (p := 1) daL_law_1113 dbL_law_1113.2.1
theorem dL_law_1116 : decode cL_law 1116 = .ok (.iconst 2, 1) := dgq (p := 3) daL_law_1113 dbL_law_1113.2.2.1
theorem dL_law_1117 : decode cL_law 1117 = .ok (.iadd, 1) := dgq (p := 4) daL_law_1113 dbL_law_1113.2.2.2.1
theorem dL_law_1118 : decode cL_law 1118 = .ok (.iaload, 1) := dgq (p := 5) daL_law_1113 dbL_law_1113.2.2.2.2.1
theorem dL_law_1119 : decode cL_law 1119 = .ok (.aload_n 0, 1) := dgq (p := 6) daL_law_1113 dbL_law_1113.2.2.2.2.2.1
theorem dL_law_1120 : decode cL_law 1120 = .ok (.iload 5, 2) := dgq (p := 7) daL_law_1113 dbL_law_1113.2.2.2.2.2.2.1
theorem dL_law_1122 : decode cL_law 1122 = .ok (.iconst 3, 1) := dgq (p := 9) daL_law_1113 dbL_law_1113.2.2.2.2.2.2.2.1
theorem dL_law_1123 : decode cL_law 1123 = .ok (.iadd, 1) := dgq (p := 10) daL_law_1113 dbL_law_1113.2.2.2.2.2.2.2.2.1
theorem dL_law_1124 : decode cL_law 1124 = .ok (.iaload, 1) := dgq (p := 11) daL_law_1113 dbL_law_1113.2.2.2.2.2.2.2.2.2.1
theorem dL_law_1125 : decode cL_law 1125 = .ok (.aload_n 0, 1) := dgq (p := 12) daL_law_1113 dbL_law_1113.2.2.2.2.2.2.2.2.2.2.1
theorem dL_law_1126 : decode cL_law 1126 = .ok (.iload 5, 2) := dgq (p := 13) daL_law_1113 dbL_law_1113.2.2.2.2.2.2.2.2.2.2.2.1
theorem dL_law_1128 : decode cL_law 1128 = .ok (.iconst 4, 1) := dgq (p := 15) daL_law_1113 dbL_law_1113.2.2.2.2.2.2.2.2.2.2.2.2.1
theorem dL_law_1129 : decode cL_law 1129 = .ok (.iadd, 1) := dgq (p := 16) daL_law_1113 dbL_law_1113.2.2.2.2.2.2.2.2.2.2.2.2.2.1
theorem dL_law_1130 : decode cL_law 1130 = .ok (.iaload, 1) := dgq (p := 17) daL_law_1113 dbL_law_1113.2.2.2.2.2.2.2.2.2.2.2.2.2.2.1
theorem dL_law_1131 : decode cL_law 1131 = .ok (.invokevirtual 288, 3) := dgq (p := 18) daL_law_1113 dbL_law_1113.2.2.2.2.2.2.2.2.2.2.2.2.2.2.2.1
theorem dL_law_1134 : decode cL_law 1134 = .ok (.istore 7, 2) := dgq (p := 21) daL_law_1113 dbL_law_1113.2.2.2.2.2.2.2.2.2.2.2.2.2.2.2.2.1
theorem dL_law_1136 : decode cL_law 1136 = .ok (.goto 1795, 3) := dgq (p := 23) daL_law_1113 dbL_law_1113.2.2.2.2.2.2.2.2.2.2.2.2.2.2.2.2.2.1
theorem dL_law_1139 : decode cL_law 1139 = .ok (.aload_n 1, 1) := dgq (p := 26) daL_law_1113 dbL_law_1113.2.2.2.2.2.2.2.2.2.2.2.2.2.2.2.2.2.2.1
theorem dL_law_1140 : decode cL_law 1140 = .ok (.aload_n 0, 1) := dgq (p := 27) daL_law_1113 dbL_law_1113.2.2.2.2.2.2.2.2.2.2.2.2.2.2.2.2.2.2.2.1
theorem dL_law_1141 : decode cL_law 1141 = .ok (.iload 5, 2) := dgq (p := 28) daL_law_1113 dbL_law_1113.2.2.2.2.2.2.2.2.2.2.2.2.2.2.2.2.2.2.2.2.1
theorem dL_law_1143 : decode cL_law 1143 = .ok (.iconst 1, 1) := dgq (p := 30) daL_law_1113 dbL_law_1113.2.2.2.2.2.2.2.2.2.2.2.2.2.2.2.2.2.2.2.2.2.1
theorem dL_law_1144 : decode cL_law 1144 = .ok (.iadd, 1) := dgq (p := 31) daL_law_1113 dbL_law_1113.2.2.2.2.2.2.2.2.2.2.2.2.2.2.2.2.2.2.2.2.2.2.1
theorem dL_law_1145 : decode cL_law 1145 = .ok (.iaload, 1) := dgq (p := 32) daL_law_1113 dbL_law_1113.2.2.2.2.2.2.2.2.2.2.2.2.2.2.2.2.2.2.2.2.2.2.2
def dsL_law_1146 : ByteArray := ⟨#[45, 184, 1, 33, 54, 6, 44, 42, 21, 5, 4, 96, 46, 182, 1, 35, 54, 7, 167, 6, 231, 43, 42, 21, 5, 4, 96, 46, 42, 21, 5, 5, 96, 46, 42]⟩
theorem daL_law_1146 : agB cL_law dsL_law_1146 1146 := agB_of (n := 35) (by decide +kernel)
theorem dbL_law_1146 : (decode dsL_law_1146 0 = .ok (.aload_n 3, 1) ∧ okop dsL_law_1146 0 = true) ∧ (decode dsL_law_1146 1 = .ok (.invokestatic 289, 3) ∧ okop dsL_law_1146 1 = true) ∧ (decode dsL_law_1146 4 = .ok (.istore 6, 2) ∧ okop dsL_law_1146 4 = true) ∧ (decode dsL_law_1146 6 = .ok (.aload_n 2, 1) ∧ okop dsL_law_1146 6 = true) ∧ (decode dsL_law_1146 7 = .ok (.aload_n 0, 1) ∧ okop dsL_law_1146 7 = true) ∧ (decode dsL_law_1146 8 = .ok (.iload 5, 2) ∧ okop dsL_law_1146 8 = true) ∧ (decode dsL_law_1146 10 = .ok (.iconst 1, 1) ∧ okop dsL_law_1146 10 = true) ∧ (decode dsL_law_1146 11 = .ok (.iadd, 1) ∧ okop dsL_law_1146 11 = true) ∧ (decode dsL_law_1146 12 = .ok (.iaload, 1) ∧ okop dsL_law_1146 12 = true) ∧ (decode dsL_law_1146 13 = .ok (.invokevirtual 291, 3) ∧ okop dsL_law_1146 13 = true) ∧ (decode dsL_law_1146 16 = .ok (.istore 7, 2) ∧ okop dsL_law_1146 16 = true) ∧ (decode dsL_law_1146 18 = .ok (.goto 1767, 3) ∧ okop dsL_law_1146 18 = true) ∧ (decode dsL_law_1146 21 = .ok (.aload_n 1, 1) ∧ okop dsL_law_1146 21 = true) ∧ (decode dsL_law_1146 22 = .ok (.aload_n 0, 1) ∧ okop dsL_law_1146 22 = true) ∧ (decode dsL_law_1146 23 = .ok (.iload 5, 2) ∧ okop dsL_law_1146 23 = true) ∧ (decode dsL_law_1146 25 = .ok (.iconst 1, 1) ∧ okop dsL_law_1146 25 = true) ∧ (decode dsL_law_1146 26 = .ok (.iadd, 1) ∧ okop dsL_law_1146 26 = true) ∧ (decode dsL_law_1146 27 = .ok (.iaload, 1) ∧ okop dsL_law_1146 27 = true) ∧ (decode dsL_law_1146 28 = .ok (.aload_n 0, 1) ∧ okop dsL_law_1146 28 = true) ∧ (decode dsL_law_1146 29 = .ok (.iload 5, 2) ∧ okop dsL_law_1146 29 = true) ∧ (decode dsL_law_1146 31 = .ok (.iconst 2, 1) ∧ okop dsL_law_1146 31 = true) ∧ (decode dsL_law_1146 32 = .ok (.iadd, 1) ∧ okop dsL_law_1146 32 = true) ∧ (decode dsL_law_1146 33 = .ok (.iaload, 1) ∧ okop dsL_law_1146 33 = true) ∧ (decode dsL_law_1146 34 = .ok (.aload_n 0, 1) ∧ okop dsL_law_1146 34 = true) := by decide +kernel
theorem dL_law_1146 : decode cL_law 1146 = .ok (.aload_n 3, 1) := dgq (p := 0) daL_law_1146 dbL_law_1146.1
theorem dL_law_1147 : decode cL_law 1147 = .ok (.invokestatic 289, 3) := dgq (p := 1) daL_law_1146 dbL_law_1146.2.1
theorem dL_law_1150 : decode cL_law 1150 = .ok (.istore 6, 2) := dgq (p := 4) daL_law_1146 dbL_law_1146.2.2.1
theorem dL_law_1152 : decode cL_law 1152 = .ok (.aload_n 2, 1) := dgq (p := 6) daL_law_1146 dbL_law_1146.2.2.2.1
theorem dL_law_1153 : decode cL_law 1153 = .ok (.aload_n 0, 1) := dgq (p := 7) daL_law_1146 dbL_law_1146.2.2.2.2.1
theorem dL_law_1154 : decode cL_law 1154 = .ok (.iload 5, 2) := dgq (p := 8) daL_law_1146 dbL_law_1146.2.2.2.2.2.1
theorem dL_law_1156 : decode cL_law 1156 = .ok (.iconst 1, 1) := dgq (p := 10) daL_law_1146 dbL_law_1146.2.2.2.2.2.2.1
theorem dL_law_1157 : decode cL_law 1157 = .ok (.iadd, 1) := dgq (p := 11) daL_law_1146 dbL_law_1146.2.2.2.2.2.2.2.1
theorem dL_law_1158 : decode cL_law 1158 = .ok (.iaload, 1) := dgq (p := 12) daL_law_1146 dbL_law_1146.2.2.2.2.2.2.2.2.1
theorem dL_law_1159 : decode cL_law 1159 = .ok (.invokevirtual 291, 3) := dgq (p := 13) daL_law_1146 dbL_law_1146.2.2.2.2.2.2.2.2.2.1
theorem dL_law_1162 : decode cL_law 1162 = .ok (.istore 7, 2) := dgq (p := 16) daL_law_1146 dbL_law_1146.2.2.2.2.2.2.2.2.2.2.1
theorem dL_law_1164 : decode cL_law 1164 = .ok (.goto 1767, 3) := dgq (p := 18) daL_law_1146 dbL_law_1146.2.2.2.2.2.2.2.2.2.2.2.1
theorem dL_law_1167 : decode cL_law 1167 = .ok (.aload_n 1, 1) := dgq (p := 21) daL_law_1146 dbL_law_1146.2.2.2.2.2.2.2.2.2.2.2.2.1
theorem dL_law_1168 : decode cL_law 1168 = .ok (.aload_n 0, 1) := dgq (p := 22) daL_law_1146 dbL_law_1146.2.2.2.2.2.2.2.2.2.2.2.2.2.1
theorem dL_law_1169 : decode cL_law 1169 = .ok (.iload 5, 2) := dgq (p := 23) daL_law_1146 dbL_law_1146.2.2.2.2.2.2.2.2.2.2.2.2.2.2.1
theorem dL_law_1171 : decode cL_law 1171 = .ok (.iconst 1, 1) := dgq (p := 25) daL_law_1146 dbL_law_1146.2.2.2.2.2.2.2.2.2.2.2.2.2.2.2.1
theorem dL_law_1172 : decode cL_law 1172 = .ok (.iadd, 1) := dgq (p := 26) daL_law_1146 dbL_law_1146.2.2.2.2.2.2.2.2.2.2.2.2.2.2.2.2.1
theorem dL_law_1173 : decode cL_law 1173 = .ok (.iaload, 1) := dgq (p := 27) daL_law_1146 dbL_law_1146.2.2.2.2.2.2.2.2.2.2.2.2.2.2.2.2.2.1
theorem dL_law_1174 : decode cL_law 1174 = .ok (.aload_n 0, 1) := dgq (p := 28) daL_law_1146 dbL_law_1146.2.2.2.2.2.2.2.2.2.2.2.2.2.2.2.2.2.2.1
theorem dL_law_1175 : decode cL_law 1175 = .ok (.iload 5, 2) := dgq (p := 29) daL_law_1146 dbL_law_1146.2.2.2.2.2.2.2.2.2.2.2.2.2.2.2.2.2.2.2.1
theorem dL_law_1177 : decode cL_law 1177 = .ok (.iconst 2, 1) := dgq (p := 31) daL_law_1146 dbL_law_1146.2.2.2.2.2.2.2.2.2.2.2.2.2.2.2.2.2.2.2.2.1
theorem dL_law_1178 : decode cL_law 1178 = .ok (.iadd, 1) := dgq (p := 32) daL_law_1146 dbL_law_1146.2.2.2.2.2.2.2.2.2.2.2.2.2.2.2.2.2.2.2.2.2.1
theorem dL_law_1179 : decode cL_law 1179 = .ok (.iaload, 1) := dgq (p := 33) daL_law_1146 dbL_law_1146.2.2.2.2.2.2.2.2.2.2.2.2.2.2.2.2.2.2.2.2.2.2.1
theorem dL_law_1180 : decode cL_law 1180 = .ok (.aload_n 0, 1) := dgq (p := 34) daL_law_1146 dbL_law_1146.2.2.2.2.2.2.2.2.2.2.2.2.2.2.2.2.2.2.2.2.2.2.2
def dsL_law_1181 : ByteArray := ⟨#[21, 5, 6, 96, 46, 45, 184, 1, 36, 54, 6, 44, 42, 21, 5, 4, 96, 46, 42, 21, 5, 5, 96, 46, 42, 21, 5, 6, 96, 46, 182, 1, 38]⟩
theorem daL_law_1181 : agB cL_law dsL_law_1181 1181 := agB_of (n := 33) (by decide +kernel)
theorem dbL_law_1181 : (decode dsL_law_1181 0 = .ok (.iload 5, 2) ∧ okop dsL_law_1181 0 = true) ∧ (decode dsL_law_1181 2 = .ok (.iconst 3, 1) ∧ okop dsL_law_1181 2 = true) ∧ (decode dsL_law_1181 3 = .ok (.iadd, 1) ∧ okop dsL_law_1181 3 = true) ∧ (decode dsL_law_1181 4 = .ok (.iaload, 1) ∧ okop dsL_law_1181 4 = true) ∧ (decode dsL_law_1181 5 = .ok (.aload_n 3, 1) ∧ okop dsL_law_1181 5 = true) ∧ (decode dsL_law_1181 6 = .ok (.invokestatic 292, 3) ∧ okop dsL_law_1181 6 = true) ∧ (decode dsL_law_1181 9 = .ok (.istore 6, 2) ∧ okop dsL_law_1181 9 = true) ∧ (decode dsL_law_1181 11 = .ok (.aload_n 2, 1) ∧ okop dsL_law_1181 11 = true) ∧ (decode dsL_law_1181 12 = .ok (.aload_n 0, 1) ∧ okop dsL_law_1181 12 = true) ∧ (decode dsL_law_1181 13 = .ok (.iload 5, 2) ∧ okop dsL_law_1181 13 = true) ∧ (decode dsL_law_1181 15 = .ok (.iconst 1, 1) ∧ okop dsL_law_1181 15 = true) ∧ (decode dsL_law_1181 16 = .ok (.iadd, 1) ∧ okop dsL_law_1181 16 = true) ∧ (decode dsL_law_1181 17 = .ok (.iaload, 1) ∧ okop dsL_law_1181 17 = true) ∧ (decode dsL_law_1181 18 = .ok (.aload_n 0, 1) ∧ okop dsL_law_1181 18 = true) ∧ (decode dsL_law_1181 19 = .ok (.iload 5, 2) ∧ okop dsL_law_1181 19 = true) ∧ (decode dsL_law_1181 21 = .ok (.iconst 2, 1) ∧ okop dsL_law_1181 21 = true) ∧ (decode dsL_law_1181 22 = .ok (.iadd, 1) ∧ okop dsL_law_1181 22 = true) ∧ (decode dsL_law_1181 23 = .ok (.iaload, 1) ∧ okop dsL_law_1181 23 = true) ∧ (decode dsL_law_1181 24 = .ok (.aload_n 0, 1) ∧ okop dsL_law_1181 24 = true) ∧ (decode dsL_law_1181 25 = .ok (.iload 5, 2) ∧ okop dsL_law_1181 25 = true) ∧ (decode dsL_law_1181 27 = .ok (.iconst 3, 1) ∧ okop dsL_law_1181 27 = true) ∧ (decode dsL_law_1181 28 = .ok (.iadd, 1) ∧ okop dsL_law_1181 28 = true) ∧ (decode dsL_law_1181 29 = .ok (.iaload, 1) ∧ okop dsL_law_1181 29 = true) ∧ (decode dsL_law_1181 30 = .ok (.invokevirtual 294, 3) ∧ okop dsL_law_1181 30 = true) := by decide +kernel
theorem dL_law_1181 : decode cL_law 1181 = .ok (.iload 5, 2) := dgq (p := 0) daL_law_1181 dbL_law_1181.1
theorem dL_law_1183 : decode cL_law 1183 = .ok (.iconst 3, 1) := dgq (p := 2) daL_law_1181 dbL_law_1181.2.1
theorem dL_law_1184 : decode cL_law 1184 = .ok (.iadd, 1) := dgq (p := 3) daL_law_1181 dbL_law_1181.2.2.1
theorem dL_law_1185 : decode cL_law 1185 = .ok (.iaload, 1) := dgq (p := 4) daL_law_1181 dbL_law_1181.2.2.2.1
theorem dL_law_1186 : decode cL_law 1186 = .ok (.aload_n 3, 1) := dgq (p := 5) daL_law_1181 dbL_law_1181.2.2.2.2.1
theorem dL_law_1187 : decode cL_law 1187 = .ok (.invokestatic 292, 3) := dgq (p := 6) daL_law_1181 dbL_law_1181.2.2.2.2.2.1
theorem dL_law_1190 : decode cL_law 1190 = .ok (.istore 6, 2) := dgq (p := 9) daL_law_1181 dbL_law_1181.2.2.2.2.2.2.1
theorem dL_law_1192 : decode cL_law 1192 = .ok (.aload_n 2, 1) := dgq (p := 11) daL_law_1181 dbL_law_1181.2.2.2.2.2.2.2.1
theorem dL_law_1193 : decode cL_law 1193 = .ok (.aload_n 0, 1) := dgq (p := 12) daL_law_1181 dbL_law_1181.2.2.2.2.2.2.2.2.1
theorem dL_law_1194 : decode cL_law 1194 = .ok (.iload 5, 2) := dgq (p := 13) daL_law_1181 dbL_law_1181.2.2.2.2.2.2.2.2.2.1
theorem dL_law_1196 : decode cL_law 1196 = .ok (.iconst 1, 1) := dgq (p := 15) daL_law_1181 dbL_law_1181.2.2.2.2.2.2.2.2.2.2.1
theorem dL_law_1197 : decode cL_law 1197 = .ok (.iadd, 1) := dgq (p := 16) daL_law_1181 dbL_law_1181.2.2.2.2.2.2.2.2.2.2.2.1
theorem dL_law_1198 : decode cL_law 1198 = .ok (.iaload, 1) := dgq (p := 17) daL_law_1181 dbL_law_1181.2.2.2.2.2.2.2.2.2.2.2.2.1
theorem dL_law_1199 : decode cL_law 1199 = .ok (.aload_n 0, 1) := dgq (p := 18) daL_law_1181 dbL_law_1181.2.2.2.2.2.2.2.2.2.2.2.2.2.1
theorem dL_law_1200 : decode cL_law 1200 = .ok (.iload 5, 2) := dgq (p := 19) daL_law_1181 dbL_law_1181.2.2.2.2.2.2.2.2.2.2.2.2.2.2.1
theorem dL_law_1202 : decode cL_law 1202 = .ok (.iconst 2, 1) := dgq (p := 21) daL_law_1181 dbL_law_1181.2.2.2.2.2.2.2.2.2.2.2.2.2.2.2.1
theorem dL_law_1203 : decode cL_law 1203 = .ok (.iadd, 1) := dgq (p := 22) daL_law_1181 dbL_law_1181.2.2.2.2.2.2.2.2.2.2.2.2.2.2.2.2.1
theorem dL_law_1204 : decode cL_law 1204 = .ok (.iaload, 1) := dgq (p := 23) daL_law_1181 dbL_law_1181.2.2.2.2.2.2.2.2.2.2.2.2.2.2.2.2.2.1
theorem dL_law_1205 : decode cL_law 1205 = .ok (.aload_n 0, 1) := dgq (p := 24) daL_law_1181 dbL_law_1181.2.2.2.2.2.2.2.2.2.2.2.2.2.2.2.2.2.2.1
theorem dL_law_1206 : decode cL_law 1206 = .ok (.iload 5, 2) := dgq (p := 25) daL_law_1181 dbL_law_1181.2.2.2.2.2.2.2.2.2.2.2.2.2.2.2.2.2.2.2.1
theorem dL_law_1208 : decode cL_law 1208 = .ok (.iconst 3, 1) := dgq (p := 27) daL_law_1181 dbL_law_1181.2.2.2.2.2.2.2.2.2.2.2.2.2.2.2.2.2.2.2.2.1
theorem dL_law_1209 : decode cL_law 1209 = .ok (.iadd, 1) := dgq (p := 28) daL_law_1181 dbL_law_1181.2.2.2.2.2.2.2.2.2.2.2.2.2.2.2.2.2.2.2.2.2.1
theorem dL_law_1210 : decode cL_law 1210 = .ok (.iaload, 1) := dgq (p := 29) daL_law_1181 dbL_law_1181.2.2.2.2.2.2.2.2.2.2.2.2.2.2.2.2.2.2.2.2.2.2.1
theorem dL_law_1211 : decode cL_law 1211 = .ok (.invokevirtual 294, 3) := dgq (p := 30) daL_law_1181 dbL_law_1181.2.2.2.2.2.2.2.2.2.2.2.2.2.2.2.2.2.2.2.2.2.2.2
def dsL_law_1214 : ByteArray := ⟨#[54, 7, 167, 6, 179, 43, 42, 21, 5, 4, 96, 46, 42, 21, 5, 5, 96, 46, 42, 21, 5, 6, 96, 46, 45, 184, 1, 39, 54, 6, 44, 42, 21, 5]⟩
theorem daL_law_1214 : agB cL_law dsL_law_1214 1214 := agB_of (n := 34) (by decide +kernel)
theorem dbL_law_1214 : (decode dsL_law_1214 0 = .ok (.istore 7, 2) ∧ okop dsL_law_1214 0 = true) ∧ (decode dsL_law_1214 2 = .ok (.goto 1715, 3) ∧ okop dsL_law_1214 2 = true) ∧ (decode dsL_law_1214 5 = .ok (.aload_n 1, 1) ∧ okop dsL_law_1214 5 = true) ∧ (decode dsL_law_1214 6 = .ok (.aload_n 0, 1) ∧ okop dsL_law_1214 6 = true) ∧ (decode dsL_law_1214 7 = .ok (.iload 5, 2) ∧ okop dsL_law_1214 7 = true) ∧ (decode dsL_law_1214 9 = .ok (.iconst 1, 1) ∧ okop dsL_law_1214 9 = true) ∧ (decode dsL_law_1214 10 = .ok (.iadd, 1) ∧ okop dsL_law_1214 10 = true) ∧ (decode dsL_law_1214 11 = .ok (.iaload, 1) ∧ okop dsL_law_1214 11 = true) ∧ (decode dsL_law_1214 12 = .ok (.aload_n 0, 1) ∧ okop dsL_law_1214 12 = true) ∧ (decode dsL_law_1214 13 = .ok (.iload 5, 2) ∧ okop dsL_law_1214 13 = true) ∧ (decode dsL_law_1214 15 = .ok (.iconst 2, 1) ∧ okop dsL_law_1214 15 = true) ∧ (decode dsL_law_1214 16 = .ok (.iadd, 1) ∧ okop dsL_law_1214 16 = true) ∧ (decode dsL_law_1214 17 = .ok (.iaload, 1) ∧ okop dsL_law_1214 17 = true) ∧ (decode dsL_law_1214 18 = .ok (.aload_n 0, 1) ∧ okop dsL_law_1214 18 = true) ∧ (decode dsL_law_1214 19 = .ok (.iload 5, 2) ∧ okop dsL_law_1214 19 = true) ∧ (decode dsL_law_1214 21 = .ok (.iconst 3, 1) ∧ okop dsL_law_1214 21 = true) ∧ (decode dsL_law_1214 22 = .ok (.iadd, 1) ∧ okop dsL_law_1214 22 = true) ∧ (decode dsL_law_1214 23 = .ok (.iaload, 1) ∧ okop dsL_law_1214 23 = true) ∧ (decode dsL_law_1214 24 = .ok (.aload_n 3, 1) ∧ okop dsL_law_1214 24 = true) ∧ (decode dsL_law_1214 25 = .ok (.invokestatic 295, 3) ∧ okop dsL_law_1214 25 = true) ∧ (decode dsL_law_1214 28 = .ok (.istore 6, 2) ∧ okop dsL_law_1214 28 = true) ∧ (decode dsL_law_1214 30 = .ok (.aload_n 2, 1) ∧ okop dsL_law_1214 30 = true) ∧ (decode dsL_law_1214 31 = .ok (.aload_n 0, 1) ∧ okop dsL_law_1214 31 = true) ∧ (decode dsL_law_1214 32 = .ok (.iload 5, 2) ∧ okop dsL_law_1214 32 = true) := by decide +kernel
theorem dL_law_1214 : decode cL_law 1214 = .ok (.istore 7, 2) := dgq (p := 0) daL_law_1214 dbL_law_1214.1
theorem dL_law_1216 : decode cL_law 1216 = .ok (.goto 1715, 3) := dgq (p := 2) daL_law_1214 dbL_law_1214.2.1
theorem dL_law_1219 : decode cL_law 1219 = .ok (.aload_n 1, 1) := dgq (p := 5) daL_law_1214 dbL_law_1214.2.2.1
theorem dL_law_1220 : decode cL_law 1220 = .ok (.aload_n 0, 1) := dgq (p := 6) daL_law_1214 dbL_law_1214.2.2.2.1
theorem dL_law_1221 : decode cL_law 1221 = .ok (.iload 5, 2) := dgq (p := 7) daL_law_1214 dbL_law_1214.2.2.2.2.1
theorem dL_law_1223 : decode cL_law 1223 = .ok (.iconst 1, 1) := dgq (p := 9) daL_law_1214 dbL_law_1214.2.2.2.2.2.1
theorem dL_law_1224 : decode cL_law 1224 = .ok (.iadd, 1) := dgq (p := 10) daL_law_1214 dbL_law_1214.2.2.2.2.2.2.1
theorem dL_law_1225 : decode cL_law 1225 = .ok (.iaload, 1) := dgq (p := 11) daL_law_1214 dbL_law_1214.2.2.2.2.2.2.2.1
theorem dL_law_1226 : decode cL_law 1226 = .ok (.aload_n 0, 1) := dgq (p := 12) daL_law_1214 dbL_law_1214.2.2.2.2.2.2.2.2.1
theorem dL_law_1227 : decode cL_law 1227 = .ok (.iload 5, 2) := dgq (p := 13) daL_law_1214 dbL_law_1214.2.2.2.2.2.2.2.2.2.1
theorem dL_law_1229 : decode cL_law 1229 = .ok (.iconst 2, 1) := dgq (p := 15) daL_law_1214 dbL_law_1214.2.2.2.2.2.2.2.2.2.2.1
theorem dL_law_1230 : decode cL_law 1230 = .ok (.iadd, 1) := dgq (p := 16) daL_law_1214 dbL_law_1214.2.2.2.2.2.2.2.2.2.2.2.1
theorem dL_law_1231 : decode cL_law 1231 = .ok (.iaload, 1) := dgq (p := 17) daL_law_1214 dbL_law_1214.2.2.2.2.2.2.2.2.2.2.2.2.1
theorem dL_law_1232 : decode cL_law 1232 = .ok (.aload_n 0, 1) := dgq (p := 18) daL_law_1214 dbL_law_1214.2.2.2.2.2.2.2.2.2.2.2.2.2.1
theorem dL_law_1233 : decode cL_law 1233 = .ok (.iload 5, 2) := dgq (p := 19) daL_law_1214 dbL_law_1214.2.2.2.2.2.2.2.2.2.2.2.2.2.2.1
theorem dL_law_1235 : decode cL_law 1235 = .ok (.iconst 3, 1) := dgq (p := 21) daL_law_1214 dbL_law_1214.2.2.2.2.2.2.2.2.2.2.2.2.2.2.2.1
theorem dL_law_1236 : decode cL_law 1236 = .ok (.iadd, 1) := dgq (p := 22) daL_law_1214 dbL_law_1214.2.2.2.2.2.2.2.2.2.2.2.2.2.2.2.2.1
theorem dL_law_1237 : decode cL_law 1237 = .ok (.iaload, 1) := dgq (p := 23) daL_law_1214 dbL_law_1214.2.2.2.2.2.2.2.2.2.2.2.2.2.2.2.2.2.1
theorem dL_law_1238 : decode cL_law 1238 = .ok (.aload_n 3, 1) := dgq (p := 24) daL_law_1214 dbL_law_1214.2.2.2.2.2.2.2.2.2.2.2.2.2.2.2.2.2.2.1
theorem dL_law_1239 : decode cL_law 1239 = .ok (.invokestatic 295, 3) := dgq (p := 25) daL_law_1214 dbL_law_1214.2.2.2.2.2.2.2.2.2.2.2.2.2.2.2.2.2.2.2.1
theorem dL_law_1242 : decode cL_law 1242 = .ok (.istore 6, 2) := dgq (p := 28) daL_law_1214 dbL_law_1214.2.2.2.2.2.2.2.2.2.2.2.2.2.2.2.2.2.2.2.2.1
theorem dL_law_1244 : decode cL_law 1244 = .ok (.aload_n 2, 1) := dgq (p := 30) daL_law_1214 dbL_law_1214.2.2.2.2.2.2.2.2.2.2.2.2.2.2.2.2.2.2.2.2.2.1
theorem dL_law_1245 : decode cL_law 1245 = .ok (.aload_n 0, 1) := dgq (p := 31) daL_law_1214 dbL_law_1214.2.2.2.2.2.2.2.2.2.2.2.2.2.2.2.2.2.2.2.2.2.2.1
theorem dL_law_1246 : decode cL_law 1246 = .ok (.iload 5, 2) := dgq (p := 32) daL_law_1214 dbL_law_1214.2.2.2.2.2.2.2.2.2.2.2.2.2.2.2.2.2.2.2.2.2.2.2
def dsL_law_1248 : ByteArray := ⟨#[4, 96, 46, 42, 21, 5, 5, 96, 46, 42, 21, 5, 6, 96, 46, 182, 1, 41, 54, 7, 167, 6, 127, 43, 42, 21, 5, 4, 96, 46, 42, 21, 5]⟩
theorem daL_law_1248 : agB cL_law dsL_law_1248 1248 := agB_of (n := 33) (by decide +kernel)
theorem dbL_law_1248 : (decode dsL_law_1248 0 = .ok (.iconst 1, 1) ∧ okop dsL_law_1248 0 = true) ∧ (decode dsL_law_1248 1 = .ok (.iadd, 1) ∧ okop dsL_law_1248 1 = true) ∧ (decode dsL_law_1248 2 = .ok (.iaload, 1) ∧ okop dsL_law_1248 2 = true) ∧ (decode dsL_law_1248 3 = .ok (.aload_n 0, 1) ∧ okop dsL_law_1248 3 = true) ∧ (decode dsL_law_1248 4 = .ok (.iload 5, 2) ∧ okop dsL_law_1248 4 = true) ∧ (decode dsL_law_1248 6 = .ok (.iconst 2, 1) ∧ okop dsL_law_1248 6 = true) ∧ (decode dsL_law_1248 7 = .ok (.iadd, 1) ∧ okop dsL_law_1248 7 = true) ∧ (decode dsL_law_1248 8 = .ok (.iaload, 1) ∧ okop dsL_law_1248 8 = true) ∧ (decode dsL_law_1248 9 = .ok (.aload_n 0, 1) ∧ okop dsL_law_1248 9 = true) ∧ (decode dsL_law_1248 10 = .ok (.iload 5, 2) ∧ okop dsL_law_1248 10 = true) ∧ (decode dsL_law_1248 12 = .ok (.iconst 3, 1) ∧ okop dsL_law_1248 12 = true) ∧ (decode dsL_law_1248 13 = .ok (.iadd, 1) ∧ okop dsL_law_1248 13 = true) ∧ (decode dsL_law_1248 14 = .ok (.iaload, 1) ∧ okop dsL_law_1248 14 = true) ∧ (decode dsL_law_1248 15 = .ok (.invokevirtual 297, 3) ∧ okop dsL_law_1248 15 = true) ∧ (decode dsL_law_1248 18 = .ok (.istore 7, 2) ∧ okop dsL_law_1248 18 = true) ∧ (decode dsL_law_1248 20 = .ok (.goto 1663, 3) ∧ okop dsL_law_1248 20 = true) ∧ (decode dsL_law_1248 23 = .ok (.aload_n 1, 1) ∧ okop dsL_law_1248 23 = true) ∧ (decode dsL_law_1248 24 = .ok (.aload_n 0, 1) ∧ okop dsL_law_1248 24 = true) ∧ (decode dsL_law_1248 25 = .ok (.iload 5, 2) ∧ okop dsL_law_1248 25 = true) ∧ (decode dsL_law_1248 27 = .ok (.iconst 1, 1) ∧ okop dsL_law_1248 27 = true) ∧ (decode dsL_law_1248 28 = .ok (.iadd, 1) ∧ okop dsL_law_1248 28 = true) ∧ (decode dsL_law_1248 29 = .ok (.iaload, 1) ∧ okop dsL_law_1248 29 = true) ∧ (decode dsL_law_1248 30 = .ok (.aload_n 0, 1) ∧ okop dsL_law_1248 30 = true) ∧ (decode dsL_law_1248 31 = .ok (.iload 5, 2) ∧ okop dsL_law_1248 31 = true) := by decide +kernel
theorem dL_law_1248 : decode cL_law 1248 = .ok (.iconst 1, 1) := dgq (p := 0) daL_law_1248 dbL_law_1248.1
theorem dL_law_1249 : decode cL_law 1249 = .ok (.iadd, 1) := dgq (p := 1) daL_law_1248 dbL_law_1248.2.1
theorem dL_law_1250 : decode cL_law 1250 = .ok (.iaload, 1) := dgq (p := 2) daL_law_1248 dbL_law_1248.2.2.1
theorem dL_law_1251 : decode cL_law 1251 = .ok (.aload_n 0, 1) := dgq (p := 3) daL_law_1248 dbL_law_1248.2.2.2.1
theorem dL_law_1252 : decode cL_law 1252 = .ok (.iload 5, 2) := dgq (p := 4) daL_law_1248 dbL_law_1248.2.2.2.2.1
theorem dL_law_1254 : decode cL_law 1254 = .ok (.iconst 2, 1) := dgq (p := 6) daL_law_1248 dbL_law_1248.2.2.2.2.2.1
theorem dL_law_1255 : decode cL_law 1255 = .ok (.iadd, 1) := dgq (p := 7) daL_law_1248 dbL_law_1248.2.2.2.2.2.2.1
theorem dL_law_1256 : decode cL_law 1256 = .ok (.iaload, 1) := dgq (p := 8) daL_law_1248 dbL_law_1248.2.2.2.2.2.2.2.1
theorem dL_law_1257 : decode cL_law 1257 = .ok (.aload_n 0, 1) := dgq (p := 9) daL_law_1248 dbL_law_1248.2.2.2.2.2.2.2.2.1
theorem dL_law_1258 : decode cL_law 1258 = .ok (.iload 5, 2) := dgq (p := 10) daL_law_1248 dbL_law_1248.2.2.2.2.2.2.2.2.2.1
theorem dL_law_1260 : decode cL_law 1260 = .ok (.iconst 3, 1) := dgq (p := 12) daL_law_1248 dbL_law_1248.2.2.2.2.2.2.2.2.2.2.1
theorem dL_law_1261 : decode cL_law 1261 = .ok (.iadd, 1) := dgq (p := 13) daL_law_1248 dbL_law_1248.2.2.2.2.2.2.2.2.2.2.2.1
theorem dL_law_1262 : decode cL_law 1262 = .ok (.iaload, 1) := dgq (p := 14) daL_law_1248 dbL_law_1248.2.2.2.2.2.2.2.2.2.2.2.2.1
theorem dL_law_1263 : decode cL_law 1263 = .ok (.invokevirtual 297, 3) := dgq (p := 15) daL_law_1248 dbL_law_1248.2.2.2.2.2.2.2.2.2.2.2.2.2.1
theorem dL_law_1266 : decode cL_law 1266 = .ok (.istore 7, 2) := dgq (p := 18) daL_law_1248 dbL_law_1248.2.2.2.2.2.2.2.2.2.2.2.2.2.2.1
theorem dL_law_1268 : decode cL_law 1268 = .ok (.goto 1663, 3) := dgq (p := 20) daL_law_1248 dbL_law_1248.2.2.2.2.2.2.2.2.2.2.2.2.2.2.2.1
theorem dL_law_1271 : decode cL_law 1271 = .ok (.aload_n 1, 1) := dgq (p := 23) daL_law_1248 dbL_law_1248.2.2.2.2.2.2.2.2.2.2.2.2.2.2.2.2.1
theorem dL_law_1272 : decode cL_law 1272 = .ok (.aload_n 0, 1) := dgq (p := 24) daL_law_1248 dbL_law_1248.2.2.2.2.2.2.2.2.2.2.2.2.2.2.2.2.2.1
theorem dL_law_1273 : decode cL_law 1273 = .ok (.iload 5, 2) := dgq (p := 25) daL_law_1248 dbL_law_1248.2.2.2.2.2.2.2.2.2.2.2.2.2.2.2.2.2.2.1
theorem dL_law_1275 : decode cL_law 1275 = .ok (.iconst 1, 1) := dgq (p := 27) daL_law_1248 dbL_law_1248.2.2.2.2.2.2.2.2.2.2.2.2.2.2.2.2.2.2.2.1
theorem dL_law_1276 : decode cL_law 1276 = .ok (.iadd, 1) := dgq (p := 28) daL_law_1248 dbL_law_1248.2.2.2.2.2.2.2.2.2.2.2.2.2.2.2.2.2.2.2.2.1
theorem dL_law_1277 : decode cL_law 1277 = .ok (.iaload, 1) := dgq (p := 29) daL_law_1248 dbL_law_1248.2.2.2.2.2.2.2.2.2.2.2.2.2.2.2.2.2.2.2.2.2.1
theorem dL_law_1278 : decode cL_law 1278 = .ok (.aload_n 0, 1) := dgq (p := 30) daL_law_1248 dbL_law_1248.2.2.2.2.2.2.2.2.2.2.2.2.2.2.2.2.2.2.2.2.2.2.1
theorem dL_law_1279 : decode cL_law 1279 = .ok (.iload 5, 2) := dgq (p := 31) daL_law_1248 dbL_law_1248.2.2.2.2.2.2.2.2.2.2.2.2.2.2.2.2.2.2.2.2.2.2.2
def dsL_law_1281 : ByteArray := ⟨#[5, 96, 46, 45, 184, 1, 42, 54, 6, 44, 42, 21, 5, 4, 96, 46, 42, 21, 5, 5, 96, 46, 182, 1, 44, 54, 7, 167, 6, 87, 43, 42, 21, 5, 4]⟩
theorem daL_law_1281 : agB cL_law dsL_law_1281 1281 := agB_of (n := 35) (by decide +kernel)
theorem dbL_law_1281 : (decode dsL_law_1281 0 = .ok (.iconst 2, 1) ∧ okop dsL_law_1281 0 = true) ∧ (decode dsL_law_1281 1 = .ok (.iadd, 1) ∧ okop dsL_law_1281 1 = true) ∧ (decode dsL_law_1281 2 = .ok (.iaload, 1) ∧ okop dsL_law_1281 2 = true) ∧ (decode dsL_law_1281 3 = .ok (.aload_n 3, 1) ∧ okop dsL_law_1281 3 = true) ∧ (decode dsL_law_1281 4 = .ok (.invokestatic 298, 3) ∧ okop dsL_law_1281 4 = true) ∧ (decode dsL_law_1281 7 = .ok (.istore 6, 2) ∧ okop dsL_law_1281 7 = true) ∧ (decode dsL_law_1281 9 = .ok (.aload_n 2, 1) ∧ okop dsL_law_1281 9 = true) ∧ (decode dsL_law_1281 10 = .ok (.aload_n 0, 1) ∧ okop dsL_law_1281 10 = true) ∧ (decode dsL_law_1281 11 = .ok (.iload 5, 2) ∧ okop dsL_law_1281 11 = true) ∧ (decode dsL_law_1281 13 = .ok (.iconst 1, 1) ∧ okop dsL_law_1281 13 = true) ∧ (decode dsL_law_1281 14 = .ok (.iadd, 1) ∧ okop dsL_law_1281 14 = true) ∧ (decode dsL_law_1281 15 = .ok (.iaload, 1) ∧ okop dsL_law_1281 15 = true) ∧ (decode dsL_law_1281 16 = .ok (.aload_n 0, 1) ∧ okop dsL_law_1281 16 = true) ∧ (decode dsL_law_1281 17 = .ok (.iload 5, 2) ∧ okop dsL_law_1281 17 = true) ∧ (decode dsL_law_1281 19 = .ok (.iconst 2, 1) ∧ okop dsL_law_1281 19 = true) ∧ (decode dsL_law_1281 20 = .ok (.iadd, 1) ∧ okop dsL_law_1281 20 = true) ∧ (decode dsL_law_1281 21 = .ok (.iaload, 1) ∧ okop dsL_law_1281 21 = true) ∧ (decode dsL_law_1281 22 = .ok (.invokevirtual 300, 3) ∧ okop dsL_law_1281 22 = true) ∧ (decode dsL_law_1281 25 = .ok (.istore 7, 2) ∧ okop dsL_law_1281 25 = true) ∧ (decode dsL_law_1281 27 = .ok (.goto 1623, 3) ∧ okop dsL_law_1281 27 = true) ∧ (decode dsL_law_1281 30 = .ok (.aload_n 1, 1) ∧ okop dsL_law_1281 30 = true) ∧ (decode dsL_law_1281 31 = .ok (.aload_n 0, 1) ∧ okop dsL_law_1281 31 = true) ∧ (decode dsL_law_1281 32 = .ok (.iload 5, 2) ∧ okop dsL_law_1281 32 = true) ∧ (decode dsL_law_1281 34 = .ok (.iconst 1, 1) ∧ okop dsL_law_1281 34 = true) := by decide +kernel
theorem dL_law_1281 : decode cL_law 1281 = .ok (.iconst 2, 1) := dgq (p := 0) daL_law_1281 dbL_law_1281.1
theorem dL_law_1282 : decode cL_law 1282 = .ok (.iadd, 1) := dgq (p := 1) daL_law_1281 dbL_law_1281.2.1
theorem dL_law_1283 : decode cL_law 1283 = .ok (.iaload, 1) := dgq (p := 2) daL_law_1281 dbL_law_1281.2.2.1
theorem dL_law_1284 : decode cL_law 1284 = .ok (.aload_n 3, 1) := dgq (p := 3) daL_law_1281 dbL_law_1281.2.2.2.1
theorem dL_law_1285 : decode cL_law 1285 = .ok (.invokestatic 298, 3) := dgq (p := 4) daL_law_1281 dbL_law_1281.2.2.2.2.1
theorem dL_law_1288 : decode cL_law 1288 = .ok (.istore 6, 2) := dgq (p := 7) daL_law_1281 dbL_law_1281.2.2.2.2.2.1
theorem dL_law_1290 : decode cL_law 1290 = .ok (.aload_n 2, 1) := dgq (p := 9) daL_law_1281 dbL_law_1281.2.2.2.2.2.2.1
theorem dL_law_1291 : decode cL_law 1291 = .ok (.aload_n 0, 1) := dgq (p := 10) daL_law_1281 dbL_law_1281.2.2.2.2.2.2.2.1
theorem dL_law_1292 : decode cL_law 1292 = .ok (.iload 5, 2) := dgq (p := 11) daL_law_1281 dbL_law_1281.2.2.2.2.2.2.2.2.1
theorem dL_law_1294 : decode cL_law 1294 = .ok (.iconst 1, 1) := dgq (p := 13) daL_law_1281 dbL_law_1281.2.2.2.2.2.2.2.2.2.1
theorem dL_law_1295 : decode cL_law 1295 = .ok (.iadd, 1) := dgq (p := 14) daL_law_1281 dbL_law_1281.2.2.2.2.2.2.2.2.2.2.1
theorem dL_law_1296 : decode cL_law 1296 = .ok (.iaload, 1) := dgq (p := 15) daL_law_1281 dbL_law_1281.2.2.2.2.2.2.2.2.2.2.2.1
theorem dL_law_1297 : decode cL_law 1297 = .ok (.aload_n 0, 1) := dgq (p := 16) daL_law_1281 dbL_law_1281.2.2.2.2.2.2.2.2.2.2.2.2.1
theorem dL_law_1298 : decode cL_law 1298 = .ok (.iload 5, 2) := dgq (p := 17) daL_law_1281 dbL_law_1281.2.2.2.2.2.2.2.2.2.2.2.2.2.1
theorem dL_law_1300 : decode cL_law 1300 = .ok (.iconst 2, 1) := dgq (p := 19) daL_law_1281 dbL_law_1281.2.2.2.2.2.2.2.2.2.2.2.2.2.2.1
theorem dL_law_1301 : decode cL_law 1301 = .ok (.iadd, 1) := dgq (p := 20) daL_law_1281 dbL_law_1281.2.2.2.2.2.2.2.2.2.2.2.2.2.2.2.1
theorem dL_law_1302 : decode cL_law 1302 = .ok (.iaload, 1) := dgq (p := 21) daL_law_1281 dbL_law_1281.2.2.2.2.2.2.2.2.2.2.2.2.2.2.2.2.1
theorem dL_law_1303 : decode cL_law 1303 = .ok (.invokevirtual 300, 3) := dgq (p := 22) daL_law_1281 dbL_law_1281.2.2.2.2.2.2.2.2.2.2.2.2.2.2.2.2.2.1
theorem dL_law_1306 : decode cL_law 1306 = .ok (.istore 7, 2) := dgq (p := 25) daL_law_1281 dbL_law_1281.2.2.2.2.2.2.2.2.2.2.2.2.2.2.2.2.2.2.1
theorem dL_law_1308 : decode cL_law 1308 = .ok (.goto 1623, 3) := dgq (p := 27) daL_law_1281 dbL_law_1281.2.2.2.2.2.2.2.2.2.2.2.2.2.2.2.2.2.2.2.1
theorem dL_law_1311 : decode cL_law 1311 = .ok (.aload_n 1, 1) := dgq (p := 30) daL_law_1281 dbL_law_1281.2.2.2.2.2.2.2.2.2.2.2.2.2.2.2.2.2.2.2.2.1
theorem dL_law_1312 : decode cL_law 1312 = .ok (.aload_n 0, 1) := dgq (p := 31) daL_law_1281 dbL_law_1281.2.2.2.2.2.2.2.2.2.2.2.2.2.2.2.2.2.2.2.2.2.1
theorem dL_law_1313 : decode cL_law 1313 = .ok (.iload 5, 2) := dgq (p := 32) daL_law_1281 dbL_law_1281.2.2.2.2.2.2.2.2.2.2.2.2.2.2.2.2.2.2.2.2.2.2.1
theorem dL_law_1315 : decode cL_law 1315 = .ok (.iconst 1, 1) := dgq (p := 34) daL_law_1281 dbL_law_1281.2.2.2.2.2.2.2.2.2.2.2.2.2.2.2.2.2.2.2.2.2.2.2
def dsL_law_1316 : ByteArray := ⟨#[96, 46, 42, 21, 5, 5, 96, 46, 42, 21, 5, 6, 96, 46, 42, 21, 5, 7, 96, 46, 45, 184, 1, 45, 54, 6, 44, 42, 21, 5, 4]⟩
theorem daL_law_1316 : agB cL_law dsL_law_1316 1316 := agB_of (n := 31) (by decide +kernel)
theorem dbL_law_1316 : (decode dsL_law_1316 0 = .ok (.iadd, 1) ∧ okop dsL_law_1316 0 = true) ∧ (decode dsL_law_1316 1 = .ok (.iaload, 1) ∧ okop dsL_law_1316 1 = true) ∧ (decode dsL_law_1316 2 = .ok (.aload_n 0, 1) ∧ okop dsL_law_1316 2 = true) ∧ (decode dsL_law_1316 3 = .ok (.iload 5, 2) ∧ okop dsL_law_1316 3 = true) ∧ (decode dsL_law_1316 5 = .ok (.iconst 2, 1) ∧ okop dsL_law_1316 5 = true) ∧ (decode dsL_law_1316 6 = .ok (.iadd, 1) ∧ okop dsL_law_1316 6 = true) ∧ (decode dsL_law_1316 7 = .ok (.iaload, 1) ∧ okop dsL_law_1316 7 = true) ∧ (decode dsL_law_1316 8 = .ok (.aload_n 0, 1) ∧ okop dsL_law_1316 8 = true) ∧ (decode dsL_law_1316 9 = .ok (.iload 5, 2) ∧ okop dsL_law_1316 9 = true) ∧ (decode dsL_law_1316 11 = .ok (.iconst 3, 1) ∧ okop dsL_law_1316 11 = true) ∧ (decode dsL_law_1316 12 = .ok (.iadd, 1) ∧ okop dsL_law_1316 12 = true) ∧ (decode dsL_law_1316 13 = .ok (.iaload, 1) ∧ okop dsL_law_1316 13 = true) ∧ (decode dsL_law_1316 14 = .ok (.aload_n 0, 1) ∧ okop dsL_law_1316 14 = true) ∧ (decode dsL_law_1316 15 = .ok (.iload 5, 2) ∧ okop dsL_law_1316 15 = true) ∧ (decode dsL_law_1316 17 = .ok (.iconst 4, 1) ∧ okop dsL_law_1316 17 = true) ∧ (decode dsL_law_1316 18 = .ok (.iadd, 1) ∧ okop dsL_law_1316 18 = true) ∧ (decode dsL_law_1316 19 = .ok (.iaload, 1) ∧ okop dsL_law_1316 19 = true) ∧ (decode dsL_law_1316 20 = .ok (.aload_n 3, 1) ∧ okop dsL_law_1316 20 = true) ∧ (decode dsL_law_1316 21 = .ok (.invokestatic 301, 3) ∧ okop dsL_law_1316 21 = true) ∧ (decode dsL_law_1316 24 = .ok (.istore 6, 2) ∧ okop dsL_law_1316 24 = true) ∧ (decode dsL_law_1316 26 = .ok (.aload_n 2, 1) ∧ okop dsL_law_1316 26 = true) ∧ (decode dsL_law_1316 27 = .ok (.aload_n 0, 1) ∧ okop dsL_law_1316 27 = true) ∧ (decode dsL_law_1316 28 = .ok (.iload 5, 2) ∧ okop dsL_law_1316 28 = true) ∧ (decode dsL_law_1316 30 = .ok (.iconst 1, 1) ∧ okop dsL_law_1316 30 = true) := by decide +kernel
theorem dL_law_1316 : decode cL_law 1316 = .ok (.iadd, 1) := dgq (p := 0) daL_law_1316 dbL_law_1316.1
theorem dL_law_1317 : decode cL_law 1317 = .ok (.iaload, 1) := dgq (p := 1) daL_law_1316 dbL_law_1316.2.1
theorem dL_law_1318 : decode cL_law 1318 = .ok (.aload_n 0, 1) := dgq (p := 2) daL_law_1316 dbL_law_1316.2.2.1
theorem dL_law_1319 : decode cL_law 1319 = .ok (.iload 5, 2) := dgq (p := 3) daL_law_1316 dbL_law_1316.2.2.2.1
theorem dL_law_1321 : decode cL_law 1321 = .ok (.iconst 2, 1) := dgq (p := 5) daL_law_1316 dbL_law_1316.2.2.2.2.1
theorem dL_law_1322 : decode cL_law 1322 = .ok (.iadd, 1) := dgq (p := 6) daL_law_1316 dbL_law_1316.2.2.2.2.2.1
theorem dL_law_1323 : decode cL_law 1323 = .ok (.iaload, 1) := dgq (p := 7) daL_law_1316 dbL_law_1316.2.2.2.2.2.2.1
theorem dL_law_1324 : decode cL_law 1324 = .ok (.aload_n 0, 1) := dgq (p := 8) daL_law_1316 dbL_law_1316.2.2.2.2.2.2.2.1
theorem dL_law_1325 : decode cL_law 1325 = .ok (.iload 5, 2) := dgq (p := 9) daL_law_1316 dbL_law_1316.2.2.2.2.2.2.2.2.1
theorem dL_law_1327 : decode cL_law 1327 = .ok (.iconst 3, 1) := dgq (p := 11) daL_law_1316 dbL_law_1316.2.2.2.2.2.2.2.2.2.1
theorem dL_law_1328 : decode cL_law 1328 = .ok (.iadd, 1) := dgq (p := 12) daL_law_1316 dbL_law_1316.2.2.2.2.2.2.2.2.2.2.1
theorem dL_law_1329 : decode cL_law 1329 = .ok (.iaload, 1) := dgq (p := 13) daL_law_1316 dbL_law_1316.2.2.2.2.2.2.2.2.2.2.2.1
theorem dL_law_1330 : decode cL_law 1330 = .ok (.aload_n 0, 1) := dgq (p := 14) daL_law_1316 dbL_law_1316.2.2.2.2.2.2.2.2.2.2.2.2.1
theorem dL_law_1331 : decode cL_law 1331 = .ok (.iload 5, 2) := dgq (p := 15) daL_law_1316 dbL_law_1316.2.2.2.2.2.2.2.2.2.2.2.2.2.1
theorem dL_law_1333 : decode cL_law 1333 = .ok (.iconst 4, 1) := dgq (p := 17) daL_law_1316 dbL_law_1316.2.2.2.2.2.2.2.2.2.2.2.2.2.2.1
theorem dL_law_1334 : decode cL_law 1334 = .ok (.iadd, 1) := dgq (p := 18) daL_law_1316 dbL_law_1316.2.2.2.2.2.2.2.2.2.2.2.2.2.2.2.1
theorem dL_law_1335 : decode cL_law 1335 = .ok (.iaload, 1) := dgq (p := 19) daL_law_1316 dbL_law_1316.2.2.2.2.2.2.2.2.2.2.2.2.2.2.2.2.1
theorem dL_law_1336 : decode cL_law 1336 = .ok (.aload_n 3, 1) := dgq (p := 20) daL_law_1316 dbL_law_1316.2.2.2.2.2.2.2.2.2.2.2.2.2.2.2.2.2.1
theorem dL_law_1337 : decode cL_law 1337 = .ok (.invokestatic 301, 3) := dgq (p := 21) daL_law_1316 dbL_law_1316.2.2.2.2.2.2.2.2.2.2.2.2.2.2.2.2.2.2.1
theorem dL_law_1340 : decode cL_law 1340 = .ok (.istore 6, 2) := dgq (p := 24) daL_law_1316 dbL_law_1316.2.2.2.2.2.2.2.2.2.2.2.2.2.2.2.2.2.2.2.1
theorem dL_law_1342 : decode cL_law 1342 = .ok (.aload_n 2, 1) := dgq (p := 26) daL_law_1316 dbL_law_1316.2.2.2.2.2.2.2.2.2.2.2.2.2.2.2.2.2.2.2.2.1
theorem dL_law_1343 : decode cL_law 1343 = .ok (.aload_n 0, 1) := dgq (p := 27) daL_law_1316 dbL_law_1316.2.2.2.2.2.2.2.2.2.2.2.2.2.2.2.2.2.2.2.2.2.1
theorem dL_law_1344 : decode cL_law 1344 = .ok (.iload 5, 2) := dgq (p := 28) daL_law_1316 dbL_law_1316.2.2.2.2.2.2.2.2.2.2.2.2.2.2.2.2.2.2.2.2.2.2.1
theorem dL_law_1346 : decode cL_law 1346 = .ok (.iconst 1, 1) := dgq (p := 30) daL_law_1316 dbL_law_1316.2.2.2.2.2.2.2.2.2.2.2.2.2.2.2.2.2.2.2.2.2.2.2
def dsL_law_1347 : ByteArray := ⟨#[96, 46, 42, 21, 5, 5, 96, 46, 42, 21, 5, 6, 96, 46, 42, 21, 5, 7, 96, 46, 182, 1, 47, 54, 7, 167, 6, 23, 43, 42, 21, 5, 4]⟩
theorem daL_law_1347 : agB cL_law dsL_law_1347 1347 := agB_of (n := 33) (by decide +kernel)
theorem dbL_law_1347 : (decode dsL_law_1347 0 = .ok (.iadd, 1) ∧ okop dsL_law_1347 0 = true) ∧ (decode dsL_law_1347 1 = .ok (.iaload, 1) ∧ okop dsL_law_1347 1 = true) ∧ (decode dsL_law_1347 2 = .ok (.aload_n 0, 1) ∧ okop dsL_law_1347 2 = true) ∧ (decode dsL_law_1347 3 = .ok (.iload 5, 2) ∧ okop dsL_law_1347 3 = true) ∧ (decode dsL_law_1347 5 = .ok (.iconst 2, 1) ∧ okop dsL_law_1347 5 = true) ∧ (decode dsL_law_1347 6 = .ok (.iadd, 1) ∧ okop dsL_law_1347 6 = true) ∧ (decode dsL_law_1347 7 = .ok (.iaload, 1) ∧ okop dsL_law_1347 7 = true) ∧ (decode dsL_law_1347 8 = .ok (.aload_n 0, 1) ∧ okop dsL_law_1347 8 = true) ∧ (decode dsL_law_1347 9 = .ok (.iload 5, 2) ∧ okop dsL_law_1347 9 = true) ∧ (decode dsL_law_1347 11 = .ok (.iconst 3, 1) ∧ okop dsL_law_1347 11 = true) ∧ (decode dsL_law_1347 12 = .ok (.iadd, 1) ∧ okop dsL_law_1347 12 = true) ∧ (decode dsL_law_1347 13 = .ok (.iaload, 1) ∧ okop dsL_law_1347 13 = true) ∧ (decode dsL_law_1347 14 = .ok (.aload_n 0, 1) ∧ okop dsL_law_1347 14 = true) ∧ (decode dsL_law_1347 15 = .ok (.iload 5, 2) ∧ okop dsL_law_1347 15 = true) ∧ (decode dsL_law_1347 17 = .ok (.iconst 4, 1) ∧ okop dsL_law_1347 17 = true) ∧ (decode dsL_law_1347 18 = .ok (.iadd, 1) ∧ okop dsL_law_1347 18 = true) ∧ (decode dsL_law_1347 19 = .ok (.iaload, 1) ∧ okop dsL_law_1347 19 = true) ∧ (decode dsL_law_1347 20 = .ok (.invokevirtual 303, 3) ∧ okop dsL_law_1347 20 = true) ∧ (decode dsL_law_1347 23 = .ok (.istore 7, 2) ∧ okop dsL_law_1347 23 = true) ∧ (decode dsL_law_1347 25 = .ok (.goto 1559, 3) ∧ okop dsL_law_1347 25 = true) ∧ (decode dsL_law_1347 28 = .ok (.aload_n 1, 1) ∧ okop dsL_law_1347 28 = true) ∧ (decode dsL_law_1347 29 = .ok (.aload_n 0, 1) ∧ okop dsL_law_1347 29 = true) ∧ (decode dsL_law_1347 30 = .ok (.iload 5, 2) ∧ okop dsL_law_1347 30 = true) ∧ (decode dsL_law_1347 32 = .ok (.iconst 1, 1) ∧ okop dsL_law_1347 32 = true) := by decide +kernel
theorem dL_law_1347 : decode cL_law 1347 = .ok (.iadd, 1) := dgq (p := 0) daL_law_1347 dbL_law_1347.1
theorem dL_law_1348 : decode cL_law 1348 = .ok (.iaload, 1) := dgq (p := 1) daL_law_1347 dbL_law_1347.2.1
theorem dL_law_1349 : decode cL_law 1349 = .ok (.aload_n 0, 1) := dgq (p := 2) daL_law_1347 dbL_law_1347.2.2.1
theorem dL_law_1350 : decode cL_law 1350 = .ok (.iload 5, 2) := dgq (p := 3) daL_law_1347 dbL_law_1347.2.2.2.1
theorem dL_law_1352 : decode cL_law 1352 = .ok (.iconst 2, 1) := dgq (p := 5) daL_law_1347 dbL_law_1347.2.2.2.2.1
theorem dL_law_1353 : decode cL_law 1353 = .ok (.iadd, 1) := dgq (p := 6) daL_law_1347 dbL_law_1347.2.2.2.2.2.1
theorem dL_law_1354 : decode cL_law 1354 = .ok (.iaload, 1) := dgq (p := 7) daL_law_1347 dbL_law_1347.2.2.2.2.2.2.1
theorem dL_law_1355 : decode cL_law 1355 = .ok (.aload_n 0, 1) := dgq (p := 8) daL_law_1347 dbL_law_1347.2.2.2.2.2.2.2.1
theorem dL_law_1356 : decode cL_law 1356 = .ok (.iload 5, 2) := dgq (p := 9) daL_law_1347 dbL_law_1347.2.2.2.2.2.2.2.2.1
theorem dL_law_1358 : decode cL_law 1358 = .ok (.iconst 3, 1) := dgq (p := 11) daL_law_1347 dbL_law_1347.2.2.2.2.2.2.2.2.2.1
theorem dL_law_1359 : decode cL_law 1359 = .ok (.iadd, 1) := dgq (p := 12) daL_law_1347 dbL_law_1347.2.2.2.2.2.2.2.2.2.2.1
theorem dL_law_1360 : decode cL_law 1360 = .ok (.iaload, 1) := dgq (p := 13) daL_law_1347 dbL_law_1347.2.2.2.2.2.2.2.2.2.2.2.1
theorem dL_law_1361 : decode cL_law 1361 = .ok (.aload_n 0, 1) := dgq (p := 14) daL_law_1347 dbL_law_1347.2.2.2.2.2.2.2.2.2.2.2.2.1
theorem dL_law_1362 : decode cL_law 1362 = .ok (.iload 5, 2) := dgq (p := 15) daL_law_1347 dbL_law_1347.2.2.2.2.2.2.2.2.2.2.2.2.2.1
theorem dL_law_1364 : decode cL_law 1364 = .ok (.iconst 4, 1) := dgq (p := 17) daL_law_1347 dbL_law_1347.2.2.2.2.2.2.2.2.2.2.2.2.2.2.1
theorem dL_law_1365 : decode cL_law 1365 = .ok (.iadd, 1) := dgq (p := 18) daL_law_1347 dbL_law_1347.2.2.2.2.2.2.2.2.2.2.2.2.2.2.2.1
theorem dL_law_1366 : decode cL_law 1366 = .ok (.iaload, 1) := dgq (p := 19) daL_law_1347 dbL_law_1347.2.2.2.2.2.2.2.2.2.2.2.2.2.2.2.2.1
theorem dL_law_1367 : decode cL_law 1367 = .ok (.invokevirtual 303, 3) := dgq (p := 20) daL_law_1347 dbL_law_1347.2.2.2.2.2.2.2.2.2.2.2.2.2.2.2.2.2.1
theorem dL_law_1370 : decode cL_law 1370 = .ok (.istore 7, 2) := dgq (p := 23) daL_law_1347 dbL_law_1347.2.2.2.2.2.2.2.2.2.2.2.2.2.2.2.2.2.2.1
theorem dL_law_1372 : decode cL_law 1372 = .ok (.goto 1559, 3) := dgq (p := 25) daL_law_1347 dbL_law_1347.2.2.2.2.2.2.2.2.2.2.2.2.2.2.2.2.2.2.2.1
theorem dL_law_1375 : decode cL_law 1375 = .ok (.aload_n 1, 1) := dgq (p := 28) daL_law_1347 dbL_law_1347.2.2.2.2.2.2.2.2.2.2.2.2.2.2.2.2.2.2.2.2.1
theorem dL_law_1376 : decode cL_law 1376 = .ok (.aload_n 0, 1) := dgq (p := 29) daL_law_1347 dbL_law_1347.2.2.2.2.2.2.2.2.2.2.2.2.2.2.2.2.2.2.2.2.2.1
theorem dL_law_1377 : decode cL_law 1377 = .ok (.iload 5, 2) := dgq (p := 30) daL_law_1347 dbL_law_1347.2.2.2.2.2.2.2.2.2.2.2.2.2.2.2.2.2.2.2.2.2.2.1
theorem dL_law_1379 : decode cL_law 1379 = .ok (.iconst 1, 1) := dgq (p := 32) daL_law_1347 dbL_law_1347.2.2.2.2.2.2.2.2.2.2.2.2.2.2.2.2.2.2.2.2.2.2.2
def dsL_law_1380 : ByteArray := ⟨#[96, 46, 42, 21, 5, 5, 96, 46, 42, 21, 5, 6, 96, 46, 45, 184, 1, 48, 54, 6, 44, 42, 21, 5, 4, 96, 46, 42, 21, 5, 5]⟩
theorem daL_law_1380 : agB cL_law dsL_law_1380 1380 := agB_of (n := 31) (by decide +kernel)
theorem dbL_law_1380 : (decode dsL_law_1380 0 = .ok (.iadd, 1) ∧ okop dsL_law_1380 0 = true) ∧ (decode dsL_law_1380 1 = .ok (.iaload, 1) ∧ okop dsL_law_1380 1 = true) ∧ (decode dsL_law_1380 2 = .ok (.aload_n 0, 1) ∧ okop dsL_law_1380 2 = true) ∧ (decode dsL_law_1380 3 = .ok (.iload 5, 2) ∧ okop dsL_law_1380 3 = true) ∧ (decode dsL_law_1380 5 = .ok (.iconst 2, 1) ∧ okop dsL_law_1380 5 = true) ∧ (decode dsL_law_1380 6 = .ok (.iadd, 1) ∧ okop dsL_law_1380 6 = true) ∧ (decode dsL_law_1380 7 = .ok (.iaload, 1) ∧ okop dsL_law_1380 7 = true) ∧ (decode dsL_law_1380 8 = .ok (.aload_n 0, 1) ∧ okop dsL_law_1380 8 = true) ∧ (decode dsL_law_1380 9 = .ok (.iload 5, 2) ∧ okop dsL_law_1380 9 = true) ∧ (decode dsL_law_1380 11 = .ok (.iconst 3, 1) ∧ okop dsL_law_1380 11 = true) ∧ (decode dsL_law_1380 12 = .ok (.iadd, 1) ∧ okop dsL_law_1380 12 = true) ∧ (decode dsL_law_1380 13 = .ok (.iaload, 1) ∧ okop dsL_law_1380 13 = true) ∧ (decode dsL_law_1380 14 = .ok (.aload_n 3, 1) ∧ okop dsL_law_1380 14 = true) ∧ (decode dsL_law_1380 15 = .ok (.invokestatic 304, 3) ∧ okop dsL_law_1380 15 = true) ∧ (decode dsL_law_1380 18 = .ok (.istore 6, 2) ∧ okop dsL_law_1380 18 = true) ∧ (decode dsL_law_1380 20 = .ok (.aload_n 2, 1) ∧ okop dsL_law_1380 20 = true) ∧ (decode dsL_law_1380 21 = .ok (.aload_n 0, 1) ∧ okop dsL_law_1380 21 = true) ∧ (decode dsL_law_1380 22 = .ok (.iload 5, 2) ∧ okop dsL_law_1380 22 = true) ∧ (decode dsL_law_1380 24 = .ok (.iconst 1, 1) ∧ okop dsL_law_1380 24 = true) ∧ (decode dsL_law_1380 25 = .ok (.iadd, 1) ∧ okop dsL_law_1380 25 = true) ∧ (decode dsL_law_1380 26 = .ok (.iaload, 1) ∧ okop dsL_law_1380 26 = true) ∧ (decode dsL_law_1380 27 = .ok (.aload_n 0, 1) ∧ okop dsL_law_1380 27 = true) ∧ (decode dsL_law_1380 28 = .ok (.iload 5, 2) ∧ okop dsL_law_1380 28 = true) ∧ (decode dsL_law_1380 30 = .ok (.iconst 2, 1) ∧ okop dsL_law_1380 30 = true) := by decide +kernel
theorem dL_law_1380 : decode cL_law 1380 = .ok (.iadd, 1) := dgq (p := 0) daL_law_1380 dbL_law_1380.1
theorem dL_law_1381 : decode cL_law 1381 = .ok (.iaload, 1) := dgq (p := 1) daL_law_1380 dbL_law_1380.2.1
theorem dL_law_1382 : decode cL_law 1382 = .ok (.aload_n 0, 1) := dgq (p := 2) daL_law_1380 dbL_law_1380.2.2.1
theorem dL_law_1383 : decode cL_law 1383 = .ok (.iload 5, 2) := dgq (p := 3) daL_law_1380 dbL_law_1380.2.2.2.1
theorem dL_law_1385 : decode cL_law 1385 = .ok (.iconst 2, 1) := dgq (p := 5) daL_law_1380 dbL_law_1380.2.2.2.2.1
theorem dL_law_1386 : decode cL_law 1386 = .ok (.iadd, 1) := dgq (p := 6) daL_law_1380 dbL_law_1380.2.2.2.2.2.1
theorem dL_law_1387 : decode cL_law 1387 = .ok (.iaload, 1) := dgq (p := 7) daL_law_1380 dbL_law_1380.2.2.2.2.2.2.1
theorem dL_law_1388 : decode cL_law 1388 = .ok (.aload_n 0, 1) := dgq (p := 8) daL_law_1380 dbL_law_1380.2.2.2.2.2.2.2.1
theorem dL_law_1389 : decode cL_law 1389 = .ok (.iload 5, 2) := dgq (p := 9) daL_law_1380 dbL_law_1380.2.2.2.2.2.2.2.2.1
theorem dL_law_1391 : decode cL_law 1391 = .ok (.iconst 3, 1) := dgq (p := 11) daL_law_1380 dbL_law_1380.2.2.2.2.2.2.2.2.2.1
theorem dL_law_1392 : decode cL_law 1392 = .ok (.iadd, 1) := dgq (p := 12) daL_law_1380 dbL_law_1380.2.2.2.2.2.2.2.2.2.2.1
theorem dL_law_1393 : decode cL_law 1393 = .ok (.iaload, 1) := dgq (p := 13) daL_law_1380 dbL_law_1380.2.2.2.2.2.2.2.2.2.2.2.1
theorem dL_law_1394 : decode cL_law 1394 = .ok (.aload_n 3, 1) := dgq (p := 14) daL_law_1380 dbL_law_1380.2.2.2.2.2.2.2.2.2.2.2.2.1
theorem dL_law_1395 : decode cL_law 1395 = .ok (.invokestatic 304, 3) := dgq (p := 15) daL_law_1380 dbL_law_1380.2.2.2.2.2.2.2.2.2.2.2.2.2.1
theorem dL_law_1398 : decode cL_law 1398 = .ok (.istore 6, 2) := dgq (p := 18) daL_law_1380 dbL_law_1380.2.2.2.2.2.2.2.2.2.2.2.2.2.2.1
theorem dL_law_1400 : decode cL_law 1400 = .ok (.aload_n 2, 1) := dgq (p := 20) daL_law_1380 dbL_law_1380.2.2.2.2.2.2.2.2.2.2.2.2.2.2.2.1
theorem dL_law_1401 : decode cL_law 1401 = .ok (.aload_n 0, 1) := dgq (p := 21) daL_law_1380 dbL_law_1380.2.2.2.2.2.2.2.2.2.2.2.2.2.2.2.2.1
theorem dL_law_1402 : decode cL_law 1402 = .ok (.iload 5, 2) := dgq (p := 22) daL_law_1380 dbL_law_1380.2.2.2.2.2.2.2.2.2.2.2.2.2.2.2.2.2.1
theorem dL_law_1404 : decode cL_law 1404 = .ok (.iconst 1, 1) := dgq (p := 24) daL_law_1380 dbL_law_1380.2.2.2.2.2.2.2.2.2.2.2.2.2.2.2.2.2.2.1
theorem dL_law_1405 : decode cL_law 1405 = .ok (.iadd, 1) := dgq (p := 25) daL_law_1380 dbL_law_1380.2.2.2.2.2.2.2.2.2.2.2.2.2.2.2.2.2.2.2.1
theorem dL_law_1406 : decode cL_law 1406 = .ok (.iaload, 1) := dgq (p := 26) daL_law_1380 dbL_law_1380.2.2.2.2.2.2.2.2.2.2.2.2.2.2.2.2.2.2.2.2.1
theorem dL_law_1407 : decode cL_law 1407 = .ok (.aload_n 0, 1) := dgq (p := 27) daL_law_1380 dbL_law_1380.2.2.2.2.2.2.2.2.2.2.2.2.2.2.2.2.2.2.2.2.2.1
theorem dL_law_1408 : decode cL_law 1408 = .ok (.iload 5, 2) := dgq (p := 28) daL_law_1380 dbL_law_1380.2.2.2.2.2.2.2.2.2.2.2.2.2.2.2.2.2.2.2.2.2.2.1
theorem dL_law_1410 : decode cL_law 1410 = .ok (.iconst 2, 1) := dgq (p := 30) daL_law_1380 dbL_law_1380.2.2.2.2.2.2.2.2.2.2.2.2.2.2.2.2.2.2.2.2.2.2.2
def dsL_law_1411 : ByteArray := ⟨#[96, 46, 42, 21, 5, 6, 96, 46, 182, 1, 50, 54, 7, 167, 5, 227, 43, 42, 21, 5, 4, 96, 46, 42, 21, 5, 5, 96, 46, 42, 21, 5, 6]⟩
theorem daL_law_1411 : agB cL_law dsL_law_1411 1411 := agB_of (n := 33) (by decide +kernel)
theorem dbL_law_1411 : (decode dsL_law_1411 0 = .ok (.iadd, 1) ∧ okop dsL_law_1411 0 = true) ∧ (decode dsL_law_1411 1 = .ok (.iaload, 1) ∧ okop dsL_law_1411 1 = true) ∧ (decode dsL_law_1411 2 = .ok (.aload_n 0, 1) ∧ okop dsL_law_1411 2 = true) ∧ (decode dsL_law_1411 3 = .ok (.iload 5, 2) ∧ okop dsL_law_1411 3 = true) ∧ (decode dsL_law_1411 5 = .ok (.iconst 3, 1) ∧ okop dsL_law_1411 5 = true) ∧ (decode dsL_law_1411 6 = .ok (.iadd, 1) ∧ okop dsL_law_1411 6 = true) ∧ (decode dsL_law_1411 7 = .ok (.iaload, 1) ∧ okop dsL_law_1411 7 = true) ∧ (decode dsL_law_1411 8 = .ok (.invokevirtual 306, 3) ∧ okop dsL_law_1411 8 = true) ∧ (decode dsL_law_1411 11 = .ok (.istore 7, 2) ∧ okop dsL_law_1411 11 = true) ∧ (decode dsL_law_1411 13 = .ok (.goto 1507, 3) ∧ okop dsL_law_1411 13 = true) ∧ (decode dsL_law_1411 16 = .ok (.aload_n 1, 1) ∧ okop dsL_law_1411 16 = true) ∧ (decode dsL_law_1411 17 = .ok (.aload_n 0, 1) ∧ okop dsL_law_1411 17 = true) ∧ (decode dsL_law_1411 18 = .ok (.iload 5, 2) ∧ okop dsL_law_1411 18 = true) ∧ (decode dsL_law_1411 20 = .ok (.iconst 1, 1) ∧ okop dsL_law_1411 20 = true) ∧ (decode dsL_law_1411 21 = .ok (.iadd, 1) ∧ okop dsL_law_1411 21 = true) ∧ (decode dsL_law_1411 22 = .ok (.iaload, 1) ∧ okop dsL_law_1411 22 = true) ∧ (decode dsL_law_1411 23 = .ok (.aload_n 0, 1) ∧ okop dsL_law_1411 23 = true) ∧ (decode dsL_law_1411 24 = .ok (.iload 5, 2) ∧ okop dsL_law_1411 24 = true) ∧ (decode dsL_law_1411 26 = .ok (.iconst 2, 1) ∧ okop dsL_law_1411 26 = true) ∧ (decode dsL_law_1411 27 = .ok (.iadd, 1) ∧ okop dsL_law_1411 27 = true) ∧ (decode dsL_law_1411 28 = .ok (.iaload, 1) ∧ okop dsL_law_1411 28 = true) ∧ (decode dsL_law_1411 29 = .ok (.aload_n 0, 1) ∧ okop dsL_law_1411 29 = true) ∧ (decode dsL_law_1411 30 = .ok (.iload 5, 2) ∧ okop dsL_law_1411 30 = true) ∧ (decode dsL_law_1411 32 = .ok (.iconst 3, 1) ∧ okop dsL_law_1411 32 = true) := by decide +kernel
theorem dL_law_1411 : decode cL_law 1411 = .ok (.iadd, 1) := dgq (p := 0) daL_law_1411 dbL_law_1411.1
theorem dL_law_1412 : decode cL_law 1412 = .ok (.iaload, 1) := dgq (p := 1) daL_law_1411 dbL_law_1411.2.1
theorem dL_law_1413 : decode cL_law 1413 = .ok (.aload_n 0, 1) := dgq (p := 2) daL_law_1411 dbL_law_1411.2.2.1
theorem dL_law_1414 : decode cL_law 1414 = .ok (.iload 5, 2) := dgq (p := 3) daL_law_1411 dbL_law_1411.2.2.2.1
theorem dL_law_1416 : decode cL_law 1416 = .ok (.iconst 3, 1) := dgq (p := 5) daL_law_1411 dbL_law_1411.2.2.2.2.1
theorem dL_law_1417 : decode cL_law 1417 = .ok (.iadd, 1) := dgq (p := 6) daL_law_1411 dbL_law_1411.2.2.2.2.2.1
theorem dL_law_1418 : decode cL_law 1418 = .ok (.iaload, 1) := dgq (p := 7) daL_law_1411 dbL_law_1411.2.2.2.2.2.2.1
theorem dL_law_1419 : decode cL_law 1419 = .ok (.invokevirtual 306, 3) := dgq (p := 8) daL_law_1411 dbL_law_1411.2.2.2.2.2.2.2.1
theorem dL_law_1422 : decode cL_law 1422 = .ok (.istore 7, 2) := dgq (p := 11) daL_law_1411 dbL_law_1411.2.2.2.2.2.2.2.2.1
theorem dL_law_1424 : decode cL_law 1424 = .ok (.goto 1507, 3) := dgq (p := 13) daL_law_1411 dbL_law_1411.2.2.2.2.2.2.2.2.2.1
theorem dL_law_1427 : decode cL_law 1427 = .ok (.aload_n 1, 1) := dgq (p := 16) daL_law_1411 dbL_law_1411.2.2.2.2.2.2.2.2.2.2.1
theorem dL_law_1428 : decode cL_law 1428 = .ok (.aload_n 0, 1) := dgq (p := 17) daL_law_1411 dbL_law_1411.2.2.2.2.2.2.2.2.2.2.2.1
theorem dL_law_1429 : decode cL_law 1429 = .ok (.iload 5, 2) := dgq (p := 18) daL_law_1411 dbL_law_1411.2.2.2.2.2.2.2.2.2.2.2.2.1
theorem dL_law_1431 : decode cL_law 1431 = .ok (.iconst 1, 1) := dgq (p := 20) daL_law_1411 dbL_law_1411.2.2.2.2.2.2.2.2.2.2.2.2.2.1
theorem dL_law_1432 : decode cL_law 1432 = .ok (.iadd, 1) := dgq (p := 21) daL_law_1411 dbL_law_1411.2.2.2.2.2.2.2.2.2.2.2.2.2.2.1
theorem dL_law_1433 : decode cL_law 1433 = .ok (.iaload, 1) := dgq (p := 22) daL_law_1411 dbL_law_1411.2.2.2.2.2.2.2.2.2.2.2.2.2.2.2.1
theorem dL_law_1434 : decode cL_law 1434 = .ok (.aload_n 0, 1) := dgq (p := 23) daL_law_1411 dbL_law_1411.2.2.2.2.2.2.2.2.2.2.2.2.2.2.2.2.1
theorem dL_law_1435 : decode cL_law 1435 = .ok (.iload 5, 2) := dgq (p := 24) daL_law_1411 dbL_law_1411.2.2.2.2.2.2.2.2.2.2.2.2.2.2.2.2.2.1
theorem dL_law_1437 : decode cL_law 1437 = .ok (.iconst 2, 1) := dgq (p := 26) daL_law_1411 dbL_law_1411.2.2.2.2.2.2.2.2.2.2.2.2.2.2.2.2.2.2.1
theorem dL_law_1438 : decode cL_law 1438 = .ok (.iadd, 1) := dgq (p := 27) daL_law_1411 dbL_law_1411.2.2.2.2.2.2.2.2.2.2.2.2.2.2.2.2.2.2.2.1
theorem dL_law_1439 : decode cL_law 1439 = .ok (.iaload, 1) := dgq (p := 28) daL_law_1411 dbL_law_1411.2.2.2.2.2.2.2.2.2.2.2.2.2.2.2.2.2.2.2.2.1
theorem dL_law_1440 : decode cL_law 1440 = .ok (.aload_n 0, 1) := dgq (p := 29) daL_law_1411 dbL_law_1411.2.2.2.2.2.2.2.2.2.2.2.2.2.2.2.2.2.2.2.2.2.1
theorem dL_law_1441 : decode cL_law 1441 = .ok (.iload 5, 2) := dgq (p := 30) daL_law_1411 dbL_law_1411.2.2.2.2.2.2.2.2.2.2.2.2.2.2.2.2.2.2.2.2.2.2.1
theorem dL_law_1443 : decode cL_law 1443 = .ok (.iconst 3, 1) := dgq (p := 32) daL_law_1411 dbL_law_1411.2.2.2.2.2.2.2.2.2.2.2.2.2.2.2.2.2.2.2.2.2.2.2
def dsL_law_1444 : ByteArray := ⟨#[96, 46, 45, 184, 1, 51, 54, 6, 44, 42, 21, 5, 4, 96, 46, 42, 21, 5, 5, 96, 46, 42, 21, 5, 6, 96, 46, 182, 1, 53, 54, 7, 167, 5, 175]⟩
theorem daL_law_1444 : agB cL_law dsL_law_1444 1444 := agB_of (n := 35) (by decide +kernel)
theorem dbL_law_1444 : (decode dsL_law_1444 0 = .ok (.iadd, 1) ∧ okop dsL_law_1444 0 = true) ∧ (decode dsL_law_1444 1 = .ok (.iaload, 1) ∧ okop dsL_law_1444 1 = true) ∧ (decode dsL_law_1444 2 = .ok (.aload_n 3, 1) ∧ okop dsL_law_1444 2 = true) ∧ (decode dsL_law_1444 3 = .ok (.invokestatic 307, 3) ∧ okop dsL_law_1444 3 = true) ∧ (decode dsL_law_1444 6 = .ok (.istore 6, 2) ∧ okop dsL_law_1444 6 = true) ∧ (decode dsL_law_1444 8 = .ok (.aload_n 2, 1) ∧ okop dsL_law_1444 8 = true) ∧ (decode dsL_law_1444 9 = .ok (.aload_n 0, 1) ∧ okop dsL_law_1444 9 = true) ∧ (decode dsL_law_1444 10 = .ok (.iload 5, 2) ∧ okop dsL_law_1444 10 = true) ∧ (decode dsL_law_1444 12 = .ok (.iconst 1, 1) ∧ okop dsL_law_1444 12 = true) ∧ (decode dsL_law_1444 13 = .ok (.iadd, 1) ∧ okop dsL_law_1444 13 = true) ∧ (decode dsL_law_1444 14 = .ok (.iaload, 1) ∧ okop dsL_law_1444 14 = true) ∧ (decode dsL_law_1444 15 = .ok (.aload_n 0, 1) ∧ okop dsL_law_1444 15 = true) ∧ (decode dsL_law_1444 16 = .ok (.iload 5, 2) ∧ okop dsL_law_1444 16 = true) ∧ (decode dsL_law_1444 18 = .ok (.iconst 2, 1) ∧ okop dsL_law_1444 18 = true) ∧ (decode dsL_law_1444 19 = .ok (.iadd, 1) ∧ okop dsL_law_1444 19 = true) ∧ (decode dsL_law_1444 20 = .ok (.iaload, 1) ∧ okop dsL_law_1444 20 = true) ∧ (decode dsL_law_1444 21 = .ok (.aload_n 0, 1) ∧ okop dsL_law_1444 21 = true) ∧ (decode dsL_law_1444 22 = .ok (.iload 5, 2) ∧ okop dsL_law_1444 22 = true) ∧ (decode dsL_law_1444 24 = .ok (.iconst 3, 1) ∧ okop dsL_law_1444 24 = true) ∧ (decode dsL_law_1444 25 = .ok (.iadd, 1) ∧ okop dsL_law_1444 25 = true) ∧ (decode dsL_law_1444 26 = .ok (.iaload, 1) ∧ okop dsL_law_1444 26 = true) ∧ (decode dsL_law_1444 27 = .ok (.invokevirtual 309, 3) ∧ okop dsL_law_1444 27 = true) ∧ (decode dsL_law_1444 30 = .ok (.istore 7, 2) ∧ okop dsL_law_1444 30 = true) ∧ (decode dsL_law_1444 32 = .ok (.goto 1455, 3) ∧ okop dsL_law_1444 32 = true) := by decide +kernel
theorem dL_law_1444 : decode cL_law 1444 = .ok (.iadd, 1) := dgq (p := 0) daL_law_1444 dbL_law_1444.1
theorem dL_law_1445 : decode cL_law 1445 = .ok (.iaload, 1) := dgq (p := 1) daL_law_1444 dbL_law_1444.2.1
theorem dL_law_1446 : decode cL_law 1446 = .ok (.aload_n 3, 1) := dgq (p := 2) daL_law_1444 dbL_law_1444.2.2.1
theorem dL_law_1447 : decode cL_law 1447 = .ok (.invokestatic 307, 3) := dgq (p := 3) daL_law_1444 dbL_law_1444.2.2.2.1
theorem dL_law_1450 : decode cL_law 1450 = .ok (.istore 6, 2) := dgq (p := 6) daL_law_1444 dbL_law_1444.2.2.2.2.1
theorem dL_law_1452 : decode cL_law 1452 = .ok (.aload_n 2, 1) := dgq (p := 8) daL_law_1444 dbL_law_1444.2.2.2.2.2.1
theorem dL_law_1453 : decode cL_law 1453 = .ok (.aload_n 0, 1) := dgq (p := 9) daL_law_1444 dbL_law_1444.2.2.2.2.2.2.1
theorem dL_law_1454 : decode cL_law 1454 = .ok (.iload 5, 2) := dgq (p := 10) daL_law_1444 dbL_law_1444.2.2.2.2.2.2.2.1
theorem dL_law_1456 : decode cL_law 1456 = .ok (.iconst 1, 1) := dgq (p := 12) daL_law_1444 dbL_law_1444.2.2.2.2.2.2.2.2.1
theorem dL_law_1457 : decode cL_law 1457 = .ok (.iadd, 1) := dgq (p := 13) daL_law_1444 dbL_law_1444.2.2.2.2.2.2.2.2.2.1
theorem dL_law_1458 : decode cL_law 1458 = .ok (.iaload, 1) := dgq (p := 14) daL_law_1444 dbL_law_1444.2.2.2.2.2.2.2.2.2.2.1
theorem dL_law_1459 : decode cL_law 1459 = .ok (.aload_n 0, 1) := dgq (p := 15) daL_law_1444 dbL_law_1444.2.2.2.2.2.2.2.2.2.2.2.1
theorem dL_law_1460 : decode cL_law 1460 = .ok (.iload 5, 2) := dgq (p := 16) daL_law_1444 dbL_law_1444.2.2.2.2.2.2.2.2.2.2.2.2.1
theorem dL_law_1462 : decode cL_law 1462 = .ok (.iconst 2, 1) := dgq (p := 18) daL_law_1444 dbL_law_1444.2.2.2.2.2.2.2.2.2.2.2.2.2.1
theorem dL_law_1463 : decode cL_law 1463 = .ok (.iadd, 1) := dgq (p := 19) daL_law_1444 dbL_law_1444.2.2.2.2.2.2.2.2.2.2.2.2.2.2.1
theorem dL_law_1464 : decode cL_law 1464 = .ok (.iaload, 1) := dgq (p := 20) daL_law_1444 dbL_law_1444.2.2.2.2.2.2.2.2.2.2.2.2.2.2.2.1
theorem dL_law_1465 : decode cL_law 1465 = .ok (.aload_n 0, 1) := dgq (p := 21) daL_law_1444 dbL_law_1444.2.2.2.2.2.2.2.2.2.2.2.2.2.2.2.2.1
theorem dL_law_1466 : decode cL_law 1466 = .ok (.iload 5, 2) := dgq (p := 22) daL_law_1444 dbL_law_1444.2.2.2.2.2.2.2.2.2.2.2.2.2.2.2.2.2.1
theorem dL_law_1468 : decode cL_law 1468 = .ok (.iconst 3, 1) := dgq (p := 24) daL_law_1444 dbL_law_1444.2.2.2.2.2.2.2.2.2.2.2.2.2.2.2.2.2.2.1
theorem dL_law_1469 : decode cL_law 1469 = .ok (.iadd, 1) := dgq (p := 25) daL_law_1444 dbL_law_1444.2.2.2.2.2.2.2.2.2.2.2.2.2.2.2.2.2.2.2.1
theorem dL_law_1470 : decode cL_law 1470 = .ok (.iaload, 1) := dgq (p := 26) daL_law_1444 dbL_law_1444.2.2.2.2.2.2.2.2.2.2.2.2.2.2.2.2.2.2.2.2.1
theorem dL_law_1471 : decode cL_law 1471 = .ok (.invokevirtual 309, 3) := dgq (p := 27) daL_law_1444 dbL_law_1444.2.2.2.2.2.2.2.2.2.2.2.2.2.2.2.2.2.2.2.2.2.1
theorem dL_law_1474 : decode cL_law 1474 = .ok (.istore 7, 2) := dgq (p := 30) daL_law_1444 dbL_law_1444.2.2.2.2.2.2.2.2.2.2.2.2.2.2.2.2.2.2.2.2.2.2.1
theorem dL_law_1476 : decode cL_law 1476 = .ok (.goto 1455, 3) := dgq (p := 32) daL_law_1444 dbL_law_1444.2.2.2.2.2.2.2.2.2.2.2.2.2.2.2.2.2.2.2.2.2.2.2
def dsL_law_1479 : ByteArray := ⟨#[43, 42, 21, 5, 4, 96, 46, 42, 21, 5, 5, 96, 46, 45, 184, 1, 54, 54, 6, 44, 42, 21, 5, 4, 96, 46, 42, 21, 5, 5, 96]⟩
theorem daL_law_1479 : agB cL_law dsL_law_1479 1479 := agB_of (n := 31) (by decide +kernel)
theorem dbL_law_1479 : (decode dsL_law_1479 0 = .ok (.aload_n 1, 1) ∧ okop dsL_law_1479 0 = true) ∧ (decode dsL_law_1479 1 = .ok (.aload_n 0, 1) ∧ okop dsL_law_1479 1 = true) ∧ (decode dsL_law_1479 2 = .ok (.iload 5, 2) ∧ okop dsL_law_1479 2 = true) ∧ (decode dsL_law_1479 4 = .ok (.iconst 1, 1) ∧ okop dsL_law_1479 4 = true) ∧ (decode dsL_law_1479 5 = .ok (.iadd, 1) ∧ okop dsL_law_1479 5 = true) ∧ (decode dsL_law_1479 6 = .ok (.iaload, 1) ∧ okop dsL_law_1479 6 = true) ∧ (decode dsL_law_1479 7 = .ok (.aload_n 0, 1) ∧ okop dsL_law_1479 7 = true) ∧ (decode dsL_law_1479 8 = .ok (.iload 5, 2) ∧ okop dsL_law_1479 8 = true) ∧ (decode dsL_law_1479 10 = .ok (.iconst 2, 1) ∧ okop dsL_law_1479 10 = true) ∧ (decode dsL_law_1479 11 = .ok (.iadd, 1) ∧ okop dsL_law_1479 11 = true) ∧ (decode dsL_law_1479 12 = .ok (.iaload, 1) ∧ okop dsL_law_1479 12 = true) ∧ (decode dsL_law_1479 13 = .ok (.aload_n 3, 1) ∧ okop dsL_law_1479 13 = true) ∧ (decode dsL_law_1479 14 = .ok (.invokestatic 310, 3) ∧ okop dsL_law_1479 14 = true) ∧ (decode dsL_law_1479 17 = .ok (.istore 6, 2) ∧ okop dsL_law_1479 17 = true) ∧ (decode dsL_law_1479 19 = .ok (.aload_n 2, 1) ∧ okop dsL_law_1479 19 = true) ∧ (decode dsL_law_1479 20 = .ok (.aload_n 0, 1) ∧ okop dsL_law_1479 20 = true) ∧ (decode dsL_law_1479 21 = .ok (.iload 5, 2) ∧ okop dsL_law_1479 21 = true) ∧ (decode dsL_law_1479 23 = .ok (.iconst 1, 1) ∧ okop dsL_law_1479 23 = true) ∧ (decode dsL_law_1479 24 = .ok (.iadd, 1) ∧ okop dsL_law_1479 24 = true) ∧ (decode dsL_law_1479 25 = .ok (.iaload, 1) ∧ okop dsL_law_1479 25 = true) ∧ (decode dsL_law_1479 26 = .ok (.aload_n 0, 1) ∧ okop dsL_law_1479 26 = true) ∧ (decode dsL_law_1479 27 = .ok (.iload 5, 2) ∧ okop dsL_law_1479 27 = true) ∧ (decode dsL_law_1479 29 = .ok (.iconst 2, 1) ∧ okop dsL_law_1479 29 = true) ∧ (decode dsL_law_1479 30 = .ok (.iadd, 1) ∧ okop dsL_law_1479 30 = true) := by decide +kernel
theorem dL_law_1479 : decode cL_law 1479 = .ok (.aload_n 1, 1) := dgq (p := 0) daL_law_1479 dbL_law_1479.1
theorem dL_law_1480 : decode cL_law 1480 = .ok (.aload_n 0, 1) := dgq (p := 1) daL_law_1479 dbL_law_1479.2.1
theorem dL_law_1481 : decode cL_law 1481 = .ok (.iload 5, 2) := dgq (p := 2) daL_law_1479 dbL_law_1479.2.2.1
theorem dL_law_1483 : decode cL_law 1483 = .ok (.iconst 1, 1) := dgq (p := 4) daL_law_1479 dbL_law_1479.2.2.2.1
theorem dL_law_1484 : decode cL_law 1484 = .ok (.iadd, 1) := dgq (p := 5) daL_law_1479 dbL_law_1479.2.2.2.2.1
theorem dL_law_1485 : decode cL_law 1485 = .ok (.iaload, 1) := dgq (p := 6) daL_law_1479 dbL_law_1479.2.2.2.2.2.1
theorem dL_law_1486 : decode cL_law 1486 = .ok (.aload_n 0, 1) := dgq (p := 7) daL_law_1479 dbL_law_1479.2.2.2.2.2.2.1
theorem dL_law_1487 : decode cL_law 1487 = .ok (.iload 5, 2) := dgq (p := 8) daL_law_1479 dbL_law_1479.2.2.2.2.2.2.2.1
theorem dL_law_1489 : decode cL_law 1489 = .ok (.iconst 2, 1) := dgq (p := 10) daL_law_1479 dbL_law_1479.2.2.2.2.2.2.2.2.1
theorem dL_law_1490 : decode cL_law 1490 = .ok (.iadd, 1) := dgq (p := 11) daL_law_1479 dbL_law_1479.2.2.2.2.2.2.2.2.2.1
theorem dL_law_1491 : decode cL_law 1491 = .ok (.iaload, 1) := dgq (p := 12) daL_law_1479 dbL_law_1479.2.2.2.2.2.2.2.2.2.2.1
theorem dL_law_1492 : decode cL_law 1492 = .ok (.aload_n 3, 1) := dgq (p := 13) daL_law_1479 dbL_law_1479.2.2.2.2.2.2.2.2.2.2.2.1
theorem dL_law_1493 : decode cL_law 1493 = .ok (.invokestatic 310, 3) := dgq (p := 14) daL_law_1479 dbL_law_1479.2.2.2.2.2.2.2.2.2.2.2.2.1
theorem dL_law_1496 : decode cL_law 1496 = .ok (.istore 6, 2) := dgq (p := 17) daL_law_1479 dbL_law_1479.2.2.2.2.2.2.2.2.2.2.2.2.2.1
theorem dL_law_1498 : decode cL_law 1498 = .ok (.aload_n 2, 1) := dgq (p := 19) daL_law_1479 dbL_law_1479.2.2.2.2.2.2.2.2.2.2.2.2.2.2.1
theorem dL_law_1499 : decode cL_law 1499 = .ok (.aload_n 0, 1) := dgq (p := 20) daL_law_1479 dbL_law_1479.2.2.2.2.2.2.2.2.2.2.2.2.2.2.2.1
theorem dL_law_1500 : decode cL_law 1500 = .ok (.iload 5, 2) := dgq (p := 21) daL_law_1479 dbL_law_1479.2.2.2.2.2.2.2.2.2.2.2.2.2.2.2.2.1
theorem dL_law_1502 : decode cL_law 1502 = .ok (.iconst 1, 1) := dgq (p := 23) daL_law_1479 dbL_law_1479.2.2.2.2.2.2.2.2.2.2.2.2.2.2.2.2.2.1
theorem dL_law_1503 : decode cL_law 1503 = .ok (.iadd, 1) := dgq (p := 24) daL_law_1479 dbL_law_1479.2.2.2.2.2.2.2.2.2.2.2.2.2.2.2.2.2.2.1
theorem dL_law_1504 : decode cL_law 1504 = .ok (.iaload, 1) := dgq (p := 25) daL_law_1479 dbL_law_1479.2.2.2.2.2.2.2.2.2.2.2.2.2.2.2.2.2.2.2.1
theorem dL_law_1505 : decode cL_law 1505 = .ok (.aload_n 0, 1) := dgq (p := 26) daL_law_1479 dbL_law_1479.2.2.2.2.2.2.2.2.2.2.2.2.2.2.2.2.2.2.2.2.1
theorem dL_law_1506 : decode cL_law 1506 = .ok (.iload 5, 2) := dgq (p := 27) daL_law_1479 dbL_law_1479.2.2.2.2.2.2.2.2.2.2.2.2.2.2.2.2.2.2.2.2.2.1
theorem dL_law_1508 : decode cL_law 1508 = .ok (.iconst 2, 1) := dgq (p := 29) daL_law_1479 dbL_law_1479.2.2.2.2.2.2.2.2.2.2.2.2.2.2.2.2.2.2.2.2.2.2.1
theorem dL_law_1509 : decode cL_law 1509 = .ok (.iadd, 1) := dgq (p := 30) daL_law_1479 dbL_law_1479.2.2.2.2.2.2.2.2.2.2.2.2.2.2.2.2.2.2.2.2.2.2.2
def dsL_law_1510 : ByteArray := ⟨#[46, 182, 1, 56, 54, 7, 167, 5, 135, 43, 42, 21, 5, 4, 96, 46, 45, 184, 1, 57, 54, 6, 44, 42, 21, 5, 4, 96, 46, 182, 1, 59, 54, 7, 167, 5, 107, 43, 42]⟩
theorem daL_law_1510 : agB cL_law dsL_law_1510 1510 := agB_of (n := 39) (by decide +kernel)
theorem dbL_law_1510 : (decode dsL_law_1510 0 = .ok (.iaload, 1) ∧ okop dsL_law_1510 0 = true) ∧ (decode dsL_law_1510 1 = .ok (.invokevirtual 312, 3) ∧ okop dsL_law_1510 1 = true) ∧ (decode dsL_law_1510 4 = .ok (.istore 7, 2) ∧ okop dsL_law_1510 4 = true) ∧ (decode dsL_law_1510 6 = .ok (.goto 1415, 3) ∧ okop dsL_law_1510 6 = true) ∧ (decode dsL_law_1510 9 = .ok (.aload_n 1, 1) ∧ okop dsL_law_1510 9 = true) ∧ (decode dsL_law_1510 10 = .ok (.aload_n 0, 1) ∧ okop dsL_law_1510 10 = true) ∧ (decode dsL_law_1510 11 = .ok (.iload 5, 2) ∧ okop dsL_law_1510 11 = true) ∧ (decode dsL_law_1510 13 = .ok (.iconst 1, 1) ∧ okop dsL_law_1510 13 = true) ∧ (decode dsL_law_1510 14 = .ok (.iadd, 1) ∧ okop dsL_law_1510 14 = true) ∧ (decode dsL_law_1510 15 = .ok (.iaload, 1) ∧ okop dsL_law_1510 15 = true) ∧ (decode dsL_law_1510 16 = .ok (.aload_n 3, 1) ∧ okop dsL_law_1510 16 = true) ∧ (decode dsL_law_1510 17 = .ok (.invokestatic 313, 3) ∧ okop dsL_law_1510 17 = true) ∧ (decode dsL_law_1510 20 = .ok (.istore 6, 2) ∧ okop dsL_law_1510 20 = true) ∧ (decode dsL_law_1510 22 = .ok (.aload_n 2, 1) ∧ okop dsL_law_1510 22 = true) ∧ (decode dsL_law_1510 23 = .ok (.aload_n 0, 1) ∧ okop dsL_law_1510 23 = true) ∧ (decode dsL_law_1510 24 = .ok (.iload 5, 2) ∧ okop dsL_law_1510 24 = true) ∧ (decode dsL_law_1510 26 = .ok (.iconst 1, 1) ∧ okop dsL_law_1510 26 = true) ∧ (decode dsL_law_1510 27 = .ok (.iadd, 1) ∧ okop dsL_law_1510 27 = true) ∧ (decode dsL_law_1510 28 = .ok (.iaload, 1) ∧ okop dsL_law_1510 28 = true) ∧ (decode dsL_law_1510 29 = .ok (.invokevirtual 315, 3) ∧ okop dsL_law_1510 29 = true) ∧ (decode dsL_law_1510 32 = .ok (.istore 7, 2) ∧ okop dsL_law_1510 32 = true) ∧ (decode dsL_law_1510 34 = .ok (.goto 1387, 3) ∧ okop dsL_law_1510 34 = true) ∧ (decode dsL_law_1510 37 = .ok (.aload_n 1, 1) ∧ okop dsL_law_1510 37 = true) ∧ (decode dsL_law_1510 38 = .ok (.aload_n 0, 1) ∧ okop dsL_law_1510 38 = true) := by decide +kernel
theorem dL_law_1510 : decode cL_law 1510 = .ok (.iaload, 1) := dgq (p := 0) daL_law_1510 dbL_law_1510.1
theorem dL_law_1511 : decode cL_law 1511 = .ok (.invokevirtual 312, 3) := dgq (p := 1) daL_law_1510 dbL_law_1510.2.1
theorem dL_law_1514 : decode cL_law 1514 = .ok (.istore 7, 2) := dgq (p := 4) daL_law_1510 dbL_law_1510.2.2.1
theorem dL_law_1516 : decode cL_law 1516 = .ok (.goto 1415, 3) := dgq (p := 6) daL_law_1510 dbL_law_1510.2.2.2.1
theorem dL_law_1519 : decode cL_law 1519 = .ok (.aload_n 1, 1) := dgq (p := 9) daL_law_1510 dbL_law_1510.2.2.2.2.1
theorem dL_law_1520 : decode cL_law 1520 = .ok (.aload_n 0, 1) := dgq (p := 10) daL_law_1510 dbL_law_1510.2.2.2.2.2.1
theorem dL_law_1521 : decode cL_law 1521 = .ok (.iload 5, 2) := dgq (p := 11) daL_law_1510 dbL_law_1510.2.2.2.2.2.2.1
theorem dL_law_1523 : decode cL_law 1523 = .ok (.iconst 1, 1) := dgq (p := 13) daL_law_1510 dbL_law_1510.2.2.2.2.2.2.2.1
theorem dL_law_1524 : decode cL_law 1524 = .ok (.iadd, 1) := dgq (p := 14) daL_law_1510 dbL_law_1510.2.2.2.2.2.2.2.2.1
theorem dL_law_1525 : decode cL_law 1525 = .ok (.iaload, 1) := dgq (p := 15) daL_law_1510 dbL_law_1510.2.2.2.2.2.2.2.2.2.1
theorem dL_law_1526 : decode cL_law 1526 = .ok (.aload_n 3, 1) := dgq (p := 16) daL_law_1510 dbL_law_1510.2.2.2.2.2.2.2.2.2.2.1
theorem dL_law_1527 : decode cL_law 1527 = .ok (.invokestatic 313, 3) := dgq (p := 17) daL_law_1510 dbL_law_1510.2.2.2.2.2.2.2.2.2.2.2.1
theorem dL_law_1530 : decode cL_law 1530 = .ok (.istore 6, 2) := dgq (p := 20) daL_law_1510 dbL_law_1510.2.2.2.2.2.2.2.2.2.2.2.2.1
theorem dL_law_1532 : decode cL_law 1532 = .ok (.aload_n 2, 1) := dgq (p := 22) daL_law_1510 dbL_law_1510.2.2.2.2.2.2.2.2.2.2.2.2.2.1
theorem dL_law_1533 : decode cL_law 1533 = .ok (.aload_n 0, 1) := dgq (p := 23) daL_law_1510 dbL_law_1510.2.2.2.2.2.2.2.2.2.2.2.2.2.2.1
theorem dL_law_1534 : decode cL_law 1534 = .ok (.iload 5, 2) := dgq (p := 24) daL_law_1510 dbL_law_1510.2.2.2.2.2.2.2.2.2.2.2.2.2.2.2.1
theorem dL_law_1536 : decode cL_law 1536 = .ok (.iconst 1, 1) := dgq (p := 26) daL_law_1510 dbL_law_1510.2.2.2.2.2.2.2.2.2.2.2.2.2.2.2.2.1
theorem dL_law_1537 : decode cL_law 1537 = .ok (.iadd, 1) := dgq (p := 27) daL_law_1510 dbL_law_1510.2.2.2.2.2.2.2.2.2.2.2.2.2.2.2.2.2.1
theorem dL_law_1538 : decode cL_law 1538 = .ok (.iaload, 1) := dgq (p := 28) daL_law_1510 dbL_law_1510.2.2.2.2.2.2.2.2.2.2.2.2.2.2.2.2.2.2.1
theorem dL_law_1539 : decode cL_law 1539 = .ok (.invokevirtual 315, 3) := dgq (p := 29) daL_law_1510 dbL_law_1510.2.2.2.2.2.2.2.2.2.2.2.2.2.2.2.2.2.2.2.1
theorem dL_law_1542 : decode cL_law 1542 = .ok (.istore 7, 2) := dgq (p := 32) daL_law_1510 dbL_law_1510.2.2.2.2.2.2.2.2.2.2.2.2.2.2.2.2.2.2.2.2.1
theorem dL_law_1544 : decode cL_law 1544 = .ok (.goto 1387, 3) := dgq (p := 34) daL_law_1510 dbL_law_1510.2.2.2.2.2.2.2.2.2.2.2.2.2.2.2.2.2.2.2.2.2.1
theorem dL_law_1547 : decode cL_law 1547 = .ok (.aload_n 1, 1) := dgq (p := 37) daL_law_1510 dbL_law_1510.2.2.2.2.2.2.2.2.2.2.2.2.2.2.2.2.2.2.2.2.2.2.1
theorem dL_law_1548 : decode cL_law 1548 = .ok (.aload_n 0, 1) := dgq (p := 38) daL_law_1510 dbL_law_1510.2.2.2.2.2.2.2.2.2.2.2.2.2.2.2.2.2.2.2.2.2.2.2
def dsL_law_1549 : ByteArray := ⟨#[21, 5, 4, 96, 46, 42, 21, 5, 5, 96, 46, 42, 21, 5, 6, 96, 46, 45, 184, 1, 60, 54, 6, 44, 42, 21, 5, 4, 96, 46, 42]⟩
theorem daL_law_1549 : agB cL_law dsL_law_1549 1549 := agB_of (n := 31) (by decide +kernel)
theorem dbL_law_1549 : (decode dsL_law_1549 0 = .ok (.iload 5, 2) ∧ okop dsL_law_1549 0 = true) ∧ (decode dsL_law_1549 2 = .ok (.iconst 1, 1) ∧ okop dsL_law_1549 2 = true) ∧ (decode dsL_law_1549 3 = .ok (.iadd, 1) ∧ okop dsL_law_1549 3 = true) ∧ (decode dsL_law_1549 4 = .ok (.iaload, 1) ∧ okop dsL_law_1549 4 = true) ∧ (decode dsL_law_1549 5 = .ok (.aload_n 0, 1) ∧ okop dsL_law_1549 5 = true) ∧ (decode dsL_law_1549 6 = .ok (.iload 5, 2) ∧ okop dsL_law_1549 6 = true) ∧ (decode dsL_law_1549 8 = .ok (.iconst 2, 1) ∧ okop dsL_law_1549 8 = true) ∧ (decode dsL_law_1549 9 = .ok (.iadd, 1) ∧ okop dsL_law_1549 9 = true) ∧ (decode dsL_law_1549 10 = .ok (.iaload, 1) ∧ okop dsL_law_1549 10 = true) ∧ (decode dsL_law_1549 11 = .ok (.aload_n 0, 1) ∧ okop dsL_law_1549 11 = true) ∧ (decode dsL_law_1549 12 = .ok (.iload 5, 2) ∧ okop dsL_law_1549 12 = true) ∧ (decode dsL_law_1549 14 = .ok (.iconst 3, 1) ∧ okop dsL_law_1549 14 = true) ∧ (decode dsL_law_1549 15 = .ok (.iadd, 1) ∧ okop dsL_law_1549 15 = true) ∧ (decode dsL_law_1549 16 = .ok (.iaload, 1) ∧ okop dsL_law_1549 16 = true) ∧ (decode dsL_law_1549 17 = .ok (.aload_n 3, 1) ∧ okop dsL_law_1549 17 = true) ∧ (decode dsL_law_1549 18 = .ok (.invokestatic 316, 3) ∧ okop dsL_law_1549 18 = true) ∧ (decode dsL_law_1549 21 = .ok (.istore 6, 2) ∧ okop dsL_law_1549 21 = true) ∧ (decode dsL_law_1549 23 = .ok (.aload_n 2, 1) ∧ okop dsL_law_1549 23 = true) ∧ (decode dsL_law_1549 24 = .ok (.aload_n 0, 1) ∧ okop dsL_law_1549 24 = true) ∧ (decode dsL_law_1549 25 = .ok (.iload 5, 2) ∧ okop dsL_law_1549 25 = true) ∧ (decode dsL_law_1549 27 = .ok (.iconst 1, 1) ∧ okop dsL_law_1549 27 = true) ∧ (decode dsL_law_1549 28 = .ok (.iadd, 1) ∧ okop dsL_law_1549 28 = true) ∧ (decode dsL_law_1549 29 = .ok (.iaload, 1) ∧ okop dsL_law_1549 29 = true) ∧ (decode dsL_law_1549 30 = .ok (.aload_n 0, 1) ∧ okop dsL_law_1549 30 = true) := by decide +kernel
theorem dL_law_1549 : decode cL_law 1549 = .ok (.iload 5, 2) := dgq (p := 0) daL_law_1549 dbL_law_1549.1
theorem dL_law_1551 : decode cL_law 1551 = .ok (.iconst 1, 1) := dgq (p := 2) daL_law_1549 dbL_law_1549.2.1
theorem dL_law_1552 : decode cL_law 1552 = .ok (.iadd, 1) := dgq (p := 3) daL_law_1549 dbL_law_1549.2.2.1
theorem dL_law_1553 : decode cL_law 1553 = .ok (.iaload, 1) := dgq (p := 4) daL_law_1549 dbL_law_1549.2.2.2.1
theorem dL_law_1554 : decode cL_law 1554 = .ok (.aload_n 0, 1) := dgq (p := 5) daL_law_1549 dbL_law_1549.2.2.2.2.1
theorem dL_law_1555 : decode cL_law 1555 = .ok (.iload 5, 2) := dgq (p := 6) daL_law_1549 dbL_law_1549.2.2.2.2.2.1
theorem dL_law_1557 : decode cL_law 1557 = .ok (.iconst 2, 1) := dgq (p := 8) daL_law_1549 dbL_law_1549.2.2.2.2.2.2.1
theorem dL_law_1558 : decode cL_law 1558 = .ok (.iadd, 1) := dgq (p := 9) daL_law_1549 dbL_law_1549.2.2.2.2.2.2.2.1
theorem dL_law_1559 : decode cL_law 1559 = .ok (.iaload, 1) := dgq (p := 10) daL_law_1549 dbL_law_1549.2.2.2.2.2.2.2.2.1
theorem dL_law_1560 : decode cL_law 1560 = .ok (.aload_n 0, 1) := dgq (p := 11) daL_law_1549 dbL_law_1549.2.2.2.2.2.2.2.2.2.1
theorem dL_law_1561 : decode cL_law 1561 = .ok (.iload 5, 2) := dgq (p := 12) daL_law_1549 dbL_law_1549.2.2.2.2.2.2.2.2.2.2.1
theorem dL_law_1563 : decode cL_law 1563 = .ok (.iconst 3, 1) := dgq (p := 14) daL_law_1549 dbL_law_1549.2.2.2.2.2.2.2.2.2.2.2.1
theorem dL_law_1564 : decode cL_law 1564 = .ok (.iadd, 1) := dgq (p := 15) daL_law_1549 dbL_law_1549.2.2.2.2.2.2.2.2.2.2.2.2.1
theorem dL_law_1565 : decode cL_law 1565 = .ok (.iaload, 1) := dgq (p := 16) daL_law_1549 dbL_law_1549.2.2.2.2.2.2.2.2.2.2.2.2.2.1
theorem dL_law_1566 : decode cL_law 1566 = .ok (.aload_n 3, 1) := dgq (p := 17) daL_law_1549 dbL_law_1549.2.2.2.2.2.2.2.2.2.2.2.2.2.2.1
theorem dL_law_1567 : decode cL_law 1567 = .ok (.invokestatic 316, 3) := dgq (p := 18) daL_law_1549 dbL_law_1549.2.2.2.2.2.2.2.2.2.2.2.2.2.2.2.1
theorem dL_law_1570 : decode cL_law 1570 = .ok (.istore 6, 2) := dgq (p := 21) daL_law_1549 dbL_law_1549.2.2.2.2.2.2.2.2.2.2.2.2.2.2.2.2.1
theorem dL_law_1572 : decode cL_law 1572 = .ok (.aload_n 2, 1) := dgq (p := 23) daL_law_1549 dbL_law_1549.2.2.2.2.2.2.2.2.2.2.2.2.2.2.2.2.2.1
theorem dL_law_1573 : decode cL_law 1573 = .ok (.aload_n 0, 1) := dgq (p := 24) daL_law_1549 dbL_law_1549.2.2.2.2.2.2.2.2.2.2.2.2.2.2.2.2.2.2.1
theorem dL_law_1574 : decode cL_law 1574 = .ok (.iload 5, 2) := dgq (p := 25) daL_law_1549 dbL_law_1549.2.2.2.2.2.2.2.2.2.2.2.2.2.2.2.2.2.2.2.1
theorem dL_law_1576 : decode cL_law 1576 = .ok (.iconst 1, 1) := dgq (p := 27) daL_law_1549 dbL_law_1549.2.2.2.2.2.2.2.2.2.2.2.2.2.2.2.2.2.2.2.2.1
theorem dL_law_1577 : decode cL_law 1577 = .ok (.iadd, 1) := dgq (p := 28) daL_law_1549 dbL_law_1549.2.2.2.2.2.2.2.2.2.2.2.2.2.2.2.2.2.2.2.2.2.1
theorem dL_law_1578 : decode cL_law 1578 = .ok (.iaload, 1) := dgq (p := 29) daL_law_1549 dbL_law_1549.2.2.2.2.2.2.2.2.2.2.2.2.2.2.2.2.2.2.2.2.2.2.1
theorem dL_law_1579 : decode cL_law 1579 = .ok (.aload_n 0, 1) := dgq (p := 30) daL_law_1549 dbL_law_1549.2.2.2.2.2.2.2.2.2.2.2.2.2.2.2.2.2.2.2.2.2.2.2
def dsL_law_1580 : ByteArray := ⟨#[21, 5, 5, 96, 46, 42, 21, 5, 6, 96, 46, 182, 1, 62, 54, 7, 167, 5, 55, 43, 42, 21, 5, 4, 96, 46, 42, 21, 5, 5, 96, 46, 45]⟩
theorem daL_law_1580 : agB cL_law dsL_law_1580 1580 := agB_of (n := 33) (by decide +kernel)
theorem dbL_law_1580 : (decode dsL_law_1580 0 = .ok (.iload 5, 2) ∧ okop dsL_law_1580 0 = true) ∧ (decode dsL_law_1580 2 = .ok (.iconst 2, 1) ∧ okop dsL_law_1580 2 = true) ∧ (decode dsL_law_1580 3 = .ok (.iadd, 1) ∧ okop dsL_law_1580 3 = true) ∧ (decode dsL_law_1580 4 = .ok (.iaload, 1) ∧ okop dsL_law_1580 4 = true) ∧ (decode dsL_law_1580 5 = .ok (.aload_n 0, 1) ∧ okop dsL_law_1580 5 = true) ∧ (decode dsL_law_1580 6 = .ok (.iload 5, 2) ∧ okop dsL_law_1580 6 = true) ∧ (decode dsL_law_1580 8 = .ok (.iconst 3, 1) ∧ okop dsL_law_1580 8 = true) ∧ (decode dsL_law_1580 9 = .ok (.iadd, 1) ∧ okop dsL_law_1580 9 = true) ∧ (decode dsL_law_1580 10 = .ok (.iaload, 1) ∧ okop dsL_law_1580 10 = true) ∧ (decode dsL_law_1580 11 = .ok (.invokevirtual 318, 3) ∧ okop dsL_law_1580 11 = true) ∧ (decode dsL_law_1580 14 = .ok (.istore 7, 2) ∧ okop dsL_law_1580 14 = true) ∧ (decode dsL_law_1580 16 = .ok (.goto 1335, 3) ∧ okop dsL_law_1580 16 = true) ∧ (decode dsL_law_1580 19 = .ok (.aload_n 1, 1) ∧ okop dsL_law_1580 19 = true) ∧ (decode dsL_law_1580 20 = .ok (.aload_n 0, 1) ∧ okop dsL_law_1580 20 = true) ∧ (decode dsL_law_1580 21 = .ok (.iload 5, 2) ∧ okop dsL_law_1580 21 = true) ∧ (decode dsL_law_1580 23 = .ok (.iconst 1, 1) ∧ okop dsL_law_1580 23 = true) ∧ (decode dsL_law_1580 24 = .ok (.iadd, 1) ∧ okop dsL_law_1580 24 = true) ∧ (decode dsL_law_1580 25 = .ok (.iaload, 1) ∧ okop dsL_law_1580 25 = true) ∧ (decode dsL_law_1580 26 = .ok (.aload_n 0, 1) ∧ okop dsL_law_1580 26 = true) ∧ (decode dsL_law_1580 27 = .ok (.iload 5, 2) ∧ okop dsL_law_1580 27 = true) ∧ (decode dsL_law_1580 29 = .ok (.iconst 2, 1) ∧ okop dsL_law_1580 29 = true) ∧ (decode dsL_law_1580 30 = .ok (.iadd, 1) ∧ okop dsL_law_1580 30 = true) ∧ (decode dsL_law_1580 31 = .ok (.iaload, 1) ∧ okop dsL_law_1580 31 = true) ∧ (decode dsL_law_1580 32 = .ok (.aload_n 3, 1) ∧ okop dsL_law_1580 32 = true) := by decide +kernel
theorem dL_law_1580 : decode cL_law 1580 = .ok (.iload 5, 2) := dgq (p := 0) daL_law_1580 dbL_law_1580.1
theorem dL_law_1582 : decode cL_law 1582 = .ok (.iconst 2, 1) := dgq (p := 2) daL_law_1580 dbL_law_1580.2.1
theorem dL_law_1583 : decode cL_law 1583 = .ok (.iadd, 1) := dgq (p := 3) daL_law_1580 dbL_law_1580.2.2.1
theorem dL_law_1584 : decode cL_law 1584 = .ok (.iaload, 1) := dgq (p := 4) daL_law_1580 dbL_law_1580.2.2.2.1
theorem dL_law_1585 : decode cL_law 1585 = .ok (.aload_n 0, 1) := dgq (p := 5) daL_law_1580 dbL_law_1580.2.2.2.2.1
theorem dL_law_1586 : decode cL_law 1586 = .ok (.iload 5, 2) := dgq (p := 6) daL_law_1580 dbL_law_1580.2.2.2.2.2.1
theorem dL_law_1588 : decode cL_law 1588 = .ok (.iconst 3, 1) := dgq (p := 8) daL_law_1580 dbL_law_1580.2.2.2.2.2.2.1
theorem dL_law_1589 : decode cL_law 1589 = .ok (.iadd, 1) := dgq (p := 9) daL_law_1580 dbL_law_1580.2.2.2.2.2.2.2.1
theorem dL_law_1590 : decode cL_law 1590 = .ok (.iaload, 1) := dgq (p := 10) daL_law_1580 dbL_law_1580.2.2.2.2.2.2.2.2.1
theorem dL_law_1591 : decode cL_law 1591 = .ok (.invokevirtual 318, 3) := dgq (p := 11) daL_law_1580 dbL_law_1580.2.2.2.2.2.2.2.2.2.1
theorem dL_law_1594 : decode cL_law 1594 = .ok (.istore 7, 2) := dgq (p := 14) daL_law_1580 dbL_law_1580.2.2.2.2.2.2.2.2.2.2.1
theorem dL_law_1596 : decode cL_law 1596 = .ok (.goto 1335, 3) := dgq (p := 16) daL_law_1580 dbL_law_1580.2.2.2.2.2.2.2.2.2.2.2.1
theorem dL_law_1599 : decode cL_law 1599 = .ok (.aload_n 1, 1) := dgq (p := 19) daL_law_1580 dbL_law_1580.2.2.2.2.2.2.2.2.2.2.2.2.1
theorem dL_law_1600 : decode cL_law 1600 = .ok (.aload_n 0, 1) := dgq (p := 20) daL_law_1580 dbL_law_1580.2.2.2.2.2.2.2.2.2.2.2.2.2.1
theorem dL_law_1601 : decode cL_law 1601 = .ok (.iload 5, 2) := dgq (p := 21) daL_law_1580 dbL_law_1580.2.2.2.2.2.2.2.2.2.2.2.2.2.2.1
theorem dL_law_1603 : decode cL_law 1603 = .ok (.iconst 1, 1) := dgq (p := 23) daL_law_1580 dbL_law_1580.2.2.2.2.2.2.2.2.2.2.2.2.2.2.2.1
theorem dL_law_1604 : decode cL_law 1604 = .ok (.iadd, 1) := dgq (p := 24) daL_law_1580 dbL_law_1580.2.2.2.2.2.2.2.2.2.2.2.2.2.2.2.2.1
theorem dL_law_1605 : decode cL_law 1605 = .ok (.iaload, 1) := dgq (p := 25) daL_law_1580 dbL_law_1580.2.2.2.2.2.2.2.2.2.2.2.2.2.2.2.2.2.1
theorem dL_law_1606 : decode cL_law 1606 = .ok (.aload_n 0, 1) := dgq (p := 26) daL_law_1580 dbL_law_1580.2.2.2.2.2.2.2.2.2.2.2.2.2.2.2.2.2.2.1
theorem dL_law_1607 : decode cL_law 1607 = .ok (.iload 5, 2) := dgq (p := 27) daL_law_1580 dbL_law_1580.2.2.2.2.2.2.2.2.2.2.2.2.2.2.2.2.2.2.2.1
theorem dL_law_1609 : decode cL_law 1609 = .ok (.iconst 2, 1) := dgq (p := 29) daL_law_1580 dbL_law_1580.2.2.2.2.2.2.2.2.2.2.2.2.2.2.2.2.2.2.2.2.1
theorem dL_law_1610 : decode cL_law 1610 = .ok (.iadd, 1) := dgq (p := 30) daL_law_1580 dbL_law_1580.2.2.2.2.2.2.2.2.2.2.2.2.2.2.2.2.2.2.2.2.2.1
theorem dL_law_1611 : decode cL_law 1611 = .ok (.iaload, 1) := dgq (p := 31) daL_law_1580 dbL_law_1580.2.2.2.2.2.2.2.2.2.2.2.2.2.2.2.2.2.2.2.2.2.2.1
theorem dL_law_1612 : decode cL_law 1612 = .ok (.aload_n 3, 1) := dgq (p := 32) daL_law_1580 dbL_law_1580.2.2.2.2.2.2.2.2.2.2.2.2.2.2.2.2.2.2.2.2.2.2.2
def dsL_law_1613 : ByteArray := ⟨#[184, 1, 63, 54, 6, 44, 42, 21, 5, 4, 96, 46, 42, 21, 5, 5, 96, 46, 182, 1, 65, 54, 7, 167, 5, 15, 43, 42, 21, 5, 4, 96, 46, 45, 184, 1, 66]⟩
theorem daL_law_1613 : agB cL_law dsL_law_1613 1613 := agB_of (n := 37) (by decide +kernel)
theorem dbL_law_1613 : (decode dsL_law_1613 0 = .ok (.invokestatic 319, 3) ∧ okop dsL_law_1613 0 = true) ∧ (decode dsL_law_1613 3 = .ok (.istore 6, 2) ∧ okop dsL_law_1613 3 = true) ∧ (decode dsL_law_1613 5 = .ok (.aload_n 2, 1) ∧ okop dsL_law_1613 5 = true) ∧ (decode dsL_law_1613 6 = .ok (.aload_n 0, 1) ∧ okop dsL_law_1613 6 = true) ∧ (decode dsL_law_1613 7 = .ok (.iload 5, 2) ∧ okop dsL_law_1613 7 = true) ∧ (decode dsL_law_1613 9 = .ok (.iconst 1, 1) ∧ okop dsL_law_1613 9 = true) ∧ (decode dsL_law_1613 10 = .ok (.iadd, 1) ∧ okop dsL_law_1613 10 = true) ∧ (decode dsL_law_1613 11 = .ok (.iaload, 1) ∧ okop dsL_law_1613 11 = true) ∧ (decode dsL_law_1613 12 = .ok (.aload_n 0, 1) ∧ okop dsL_law_1613 12 = true) ∧ (decode dsL_law_1613 13 = .ok (.iload 5, 2) ∧ okop dsL_law_1613 13 = true) ∧ (decode dsL_law_1613 15 = .ok (.iconst 2, 1) ∧ okop dsL_law_1613 15 = true) ∧ (decode dsL_law_1613 16 = .ok (.iadd, 1) ∧ okop dsL_law_1613 16 = true) ∧ (decode dsL_law_1613 17 = .ok (.iaload, 1) ∧ okop dsL_law_1613 17 = true) ∧ (decode dsL_law_1613 18 = .ok (.invokevirtual 321, 3) ∧ okop dsL_law_1613 18 = true) ∧ (decode dsL_law_1613 21 = .ok (.istore 7, 2) ∧ okop dsL_law_1613 21 = true) ∧ (decode dsL_law_1613 23 = .ok (.goto 1295, 3) ∧ okop dsL_law_1613 23 = true) ∧ (decode dsL_law_1613 26 = .ok (.aload_n 1, 1) ∧ okop dsL_law_1613 26 = true) ∧ (decode dsL_law_1613 27 = .ok (.aload_n 0, 1) ∧ okop dsL_law_1613 27 = true) ∧ (decode dsL_law_1613 28 = .ok (.iload 5, 2) ∧ okop dsL_law_1613 28 = true) ∧ (decode dsL_law_1613 30 = .ok (.iconst 1, 1) ∧ okop dsL_law_1613 30 = true) ∧ (decode dsL_law_1613 31 = .ok (.iadd, 1) ∧ okop dsL_law_1613 31 = true) ∧ (decode dsL_law_1613 32 = .ok (.iaload, 1) ∧ okop dsL_law_1613 32 = true) ∧ (decode dsL_law_1613 33 = .ok (.aload_n 3, 1) ∧ okop dsL_law_1613 33 = true) ∧ (decode dsL_law_1613 34 = .ok (.invokestatic 322, 3) ∧ okop dsL_law_1613 34 = true) := by decide +kernel
theorem dL_law_1613 : decode cL_law 1613 = .ok (.invokestatic 319, 3) := dgq (p := 0) daL_law_1613 dbL_law_1613.1
theorem dL_law_1616 : decode cL_law 1616 = .ok (.istore 6, 2) := dgq (p := 3) daL_law_1613 dbL_law_1613.2.1
theorem dL_law_1618 : decode cL_law 1618 = .ok (.aload_n 2, 1) := dgq (p := 5) daL_law_1613 dbL_law_1613.2.2.1
theorem dL_law_1619 : decode cL_law 1619 = .ok (.aload_n 0, 1) := dgq (p := 6) daL_law_1613 dbL_law_1613.2.2.2.1
theorem dL_law_1620 : decode cL_law 1620 = .ok (.iload 5, 2) := dgq (p := 7) daL_law_1613 dbL_law_1613.2.2.2.2.1
theorem dL_law_1622 : decode cL_law 1622 = .ok (.iconst 1, 1) := dgq (p := 9) daL_law_1613 dbL_law_1613.2.2.2.2.2.1
theorem dL_law_1623 : decode cL_law 1623 = .ok (.iadd, 1) := dgq (p := 10) daL_law_1613 dbL_law_1613.2.2.2.2.2.2.1
theorem dL_law_1624 : decode cL_law 1624 = .ok (.iaload, 1) := dgq (p := 11) daL_law_1613 dbL_law_1613.2.2.2.2.2.2.2.1
theorem dL_law_1625 : decode cL_law 1625 = .ok (.aload_n 0, 1) := dgq (p := 12) daL_law_1613 dbL_law_1613.2.2.2.2.2.2.2.2.1
theorem dL_law_1626 : decode cL_law 1626 = .ok (.iload 5, 2) := dgq (p := 13) daL_law_1613 dbL_law_1613.2.2.2.2.2.2.2.2.2.1
theorem dL_law_1628 : decode cL_law 1628 = .ok (.iconst 2, 1) := dgq (p := 15) daL_law_1613 dbL_law_1613.2.2.2.2.2.2.2.2.2.2.1
theorem dL_law_1629 : decode cL_law 1629 = .ok (.iadd, 1) := dgq (p := 16) daL_law_1613 dbL_law_1613.2.2.2.2.2.2.2.2.2.2.2.1
theorem dL_law_1630 : decode cL_law 1630 = .ok (.iaload, 1) := dgq (p := 17) daL_law_1613 dbL_law_1613.2.2.2.2.2.2.2.2.2.2.2.2.1
theorem dL_law_1631 : decode cL_law 1631 = .ok (.invokevirtual 321, 3) := dgq (p := 18) daL_law_1613 dbL_law_1613.2.2.2.2.2.2.2.2.2.2.2.2.2.1
theorem dL_law_1634 : decode cL_law 1634 = .ok (.istore 7, 2) := dgq (p := 21) daL_law_1613 dbL_law_1613.2.2.2.2.2.2.2.2.2.2.2.2.2.2.1
theorem dL_law_1636 : decode cL_law 1636 = .ok (.goto 1295, 3) := dgq (p := 23) daL_law_1613 dbL_law_1613.2.2.2.2.2.2.2.2.2.2.2.2.2.2.2.1
theorem dL_law_1639 : decode cL_law 1639 = .ok (.aload_n 1, 1) := dgq (p := 26) daL_law_1613 dbL_law_1613.2.2.2.2.2.2.2.2.2.2.2.2.2.2.2.2.1
theorem dL_law_1640 : decode cL_law 1640 = .ok (.aload_n 0, 1) := dgq (p := 27) daL_law_1613 dbL_law_1613.2.2.2.2.2.2.2.2.2.2.2.2.2.2.2.2.2.1
theorem dL_law_1641 : decode cL_law 1641 = .ok (.iload 5, 2) := dgq (p := 28) daL_law_1613 dbL_law_1613.2.2.2.2.2.2.2.2.2.2.2.2.2.2.2.2.2.2.1
theorem dL_law_1643 : decode cL_law 1643 = .ok (.iconst 1, 1) := dgq (p := 30) daL_law_1613 dbL_law_1613.2.2.2.2.2.2.2.2.2.2.2.2.2.2.2.2.2.2.2.1
theorem dL_law_1644 : decode cL_law 1644 = .ok (.iadd, 1) := dgq (p := 31) daL_law_1613 dbL_law_1613.2.2.2.2.2.2.2.2.2.2.2.2.2.2.2.2.2.2.2.2.1
theorem dL_law_1645 : decode cL_law 1645 = .ok (.iaload, 1) := dgq (p := 32) daL_law_1613 dbL_law_1613.2.2.2.2.2.2.2.2.2.2.2.2.2.2.2.2.2.2.2.2.2.1
theorem dL_law_1646 : decode cL_law 1646 = .ok (.aload_n 3, 1) := dgq (p := 33) daL_law_1613 dbL_law_1613.2.2.2.2.2.2.2.2.2.2.2.2.2.2.2.2.2.2.2.2.2.2.1
theorem dL_law_1647 : decode cL_law 1647 = .ok (.invokestatic 322, 3) := dgq (p := 34) daL_law_1613 dbL_law_1613.2.2.2.2.2.2.2.2.2.2.2.2.2.2.2.2.2.2.2.2.2.2.2
def dsL_law_1650 : ByteArray := ⟨#[54, 6, 44, 42, 21, 5, 4, 96, 46, 182, 1, 68, 54, 7, 167, 4, 243, 43, 42, 21, 5, 4, 96, 46, 42, 21, 5, 5, 96, 46, 42, 21, 5, 6]⟩
theorem daL_law_1650 : agB cL_law dsL_law_1650 1650 := agB_of (n := 34) (by decide +kernel)
theorem dbL_law_1650 : (decode dsL_law_1650 0 = .ok (.istore 6, 2) ∧ okop dsL_law_1650 0 = true) ∧ (decode dsL_law_1650 2 = .ok (.aload_n 2, 1) ∧ okop dsL_law_1650 2 = true) ∧ (decode dsL_law_1650 3 = .ok (.aload_n 0, 1) ∧ okop dsL_law_1650 3 = true) ∧ (decode dsL_law_1650 4 = .ok (.iload 5, 2) ∧ okop dsL_law_1650 4 = true) ∧ (decode dsL_law_1650 6 = .ok (.iconst 1, 1) ∧ okop dsL_law_1650 6 = true) ∧ (decode dsL_law_1650 7 = .ok (.iadd, 1) ∧ okop dsL_law_1650 7 = true) ∧ (decode dsL_law_1650 8 = .ok (.iaload, 1) ∧ okop dsL_law_1650 8 = true) ∧ (decode dsL_law_1650 9 = .ok (.invokevirtual 324, 3) ∧ okop dsL_law_1650 9 = true) ∧ (decode dsL_law_1650 12 = .ok (.istore 7, 2) ∧ okop dsL_law_1650 12 = true) ∧ (decode dsL_law_1650 14 = .ok (.goto 1267, 3) ∧ okop dsL_law_1650 14 = true) ∧ (decode dsL_law_1650 17 = .ok (.aload_n 1, 1) ∧ okop dsL_law_1650 17 = true) ∧ (decode dsL_law_1650 18 = .ok (.aload_n 0, 1) ∧ okop dsL_law_1650 18 = true) ∧ (decode dsL_law_1650 19 = .ok (.iload 5, 2) ∧ okop dsL_law_1650 19 = true) ∧ (decode dsL_law_1650 21 = .ok (.iconst 1, 1) ∧ okop dsL_law_1650 21 = true) ∧ (decode dsL_law_1650 22 = .ok (.iadd, 1) ∧ okop dsL_law_1650 22 = true) ∧ (decode dsL_law_1650 23 = .ok (.iaload, 1) ∧ okop dsL_law_1650 23 = true) ∧ (decode dsL_law_1650 24 = .ok (.aload_n 0, 1) ∧ okop dsL_law_1650 24 = true) ∧ (decode dsL_law_1650 25 = .ok (.iload 5, 2) ∧ okop dsL_law_1650 25 = true) ∧ (decode dsL_law_1650 27 = .ok (.iconst 2, 1) ∧ okop dsL_law_1650 27 = true) ∧ (decode dsL_law_1650 28 = .ok (.iadd, 1) ∧ okop dsL_law_1650 28 = true) ∧ (decode dsL_law_1650 29 = .ok (.iaload, 1) ∧ okop dsL_law_1650 29 = true) ∧ (decode dsL_law_1650 30 = .ok (.aload_n 0, 1) ∧ okop dsL_law_1650 30 = true) ∧ (decode dsL_law_1650 31 = .ok (.iload 5, 2) ∧ okop dsL_law_1650 31 = true) ∧ (decode dsL_law_1650 33 = .ok (.iconst 3, 1) ∧ okop dsL_law_1650 33 = true) := by decide +kernel
theorem dL_law_1650 : decode cL_law 1650 = .ok (.istore 6, 2) := dgq (p := 0) daL_law_1650 dbL_law_1650.1
theorem dL_law_1652 : decode cL_law 1652 = .ok (.aload_n 2, 1) := dgq (p := 2) daL_law_1650 dbL_law_1650.2.1
theorem dL_law_1653 : decode cL_law 1653 = .ok (.aload_n 0, 1) := dgq (p := 3) daL_law_1650 dbL_law_1650.2.2.1
theorem dL_law_1654 : decode cL_law 1654 = .ok (.iload 5, 2) := dgq (p := 4) daL_law_1650 dbL_law_1650.2.2.2.1
theorem dL_law_1656 : decode cL_law 1656 = .ok (.iconst 1, 1) := dgq (p := 6) daL_law_1650 dbL_law_1650.2.2.2.2.1
theorem dL_law_1657 : decode cL_law 1657 = .ok (.iadd, 1) := dgq (p := 7) daL_law_1650 dbL_law_1650.2.2.2.2.2.1
theorem dL_law_1658 : decode cL_law 1658 = .ok (.iaload, 1) := dgq (p := 8) daL_law_1650 dbL_law_1650.2.2.2.2.2.2.1
theorem dL_law_1659 : decode cL_law 1659 = .ok (.invokevirtual 324, 3) := dgq (p := 9) daL_law_1650 dbL_law_1650.2.2.2.2.2.2.2.1
theorem dL_law_1662 : decode cL_law 1662 = .ok (.istore 7, 2) := dgq (p := 12) daL_law_1650 dbL_law_1650.2.2.2.2.2.2.2.2.1
theorem dL_law_1664 : decode cL_law 1664 = .ok (.goto 1267, 3) := dgq (p := 14) daL_law_1650 dbL_law_1650.2.2.2.2.2.2.2.2.2.1
theorem dL_law_1667 : decode cL_law 1667 = .ok (.aload_n 1, 1) := dgq (p := 17) daL_law_1650 dbL_law_1650.2.2.2.2.2.2.2.2.2.2.1
theorem dL_law_1668 : decode cL_law 1668 = .ok (.aload_n 0, 1) := dgq (p := 18) daL_law_1650 dbL_law_1650.2.2.2.2.2.2.2.2.2.2.2.1
theorem dL_law_1669 : decode cL_law 1669 = .ok (.iload 5, 2) := dgq (p := 19) daL_law_1650 dbL_law_1650.2.2.2.2.2.2.2.2.2.2.2.2.1
theorem dL_law_1671 : decode cL_law 1671 = .ok (.iconst 1, 1) := dgq (p := 21) daL_law_1650 dbL_law_1650.2.2.2.2.2.2.2.2.2.2.2.2.2.1
theorem dL_law_1672 : decode cL_law 1672 = .ok (.iadd, 1) := dgq (p := 22) daL_law_1650 dbL_law_1650.2.2.2.2.2.2.2.2.2.2.2.2.2.2.1
theorem dL_law_1673 : decode cL_law 1673 = .ok (.iaload, 1) := dgq (p := 23) daL_law_1650 dbL_law_1650.2.2.2.2.2.2.2.2.2.2.2.2.2.2.2.1
theorem dL_law_1674 : decode cL_law 1674 = .ok (.aload_n 0, 1) := dgq (p := 24) daL_law_1650 dbL_law_1650.2.2.2.2.2.2.2.2.2.2.2.2.2.2.2.2.1
theorem dL_law_1675 : decode cL_law 1675 = .ok (.iload 5, 2) := dgq (p := 25) daL_law_1650 dbL_law_1650.2.2.2.2.2.2.2.2.2.2.2.2.2.2.2.2.2.1
theorem dL_law_1677 : decode cL_law 1677 = .ok (.iconst 2, 1) := dgq (p := 27) daL_law_1650 dbL_law_1650.2.2.2.2.2.2.2.2.2.2.2.2.2.2.2.2.2.2.1
theorem dL_law_1678 : decode cL_law 1678 = .ok (.iadd, 1) := dgq (p := 28) daL_law_1650 dbL_law_1650.2.2.2.2.2.2.2.2.2.2.2.2.2.2.2.2.2.2.2.1
theorem dL_law_1679 : decode cL_law 1679 = .ok (.iaload, 1) := dgq (p := 29) daL_law_1650 dbL_law_1650.2.2.2.2.2.2.2.2.2.2.2.2.2.2.2.2.2.2.2.2.1
theorem dL_law_1680 : decode cL_law 1680 = .ok (.aload_n 0, 1) := dgq (p := 30) daL_law_1650 dbL_law_1650.2.2.2.2.2.2.2.2.2.2.2.2.2.2.2.2.2.2.2.2.2.1
theorem dL_law_1681 : decode cL_law 1681 = .ok (.iload 5, 2) := dgq (p := 31) daL_law_1650 dbL_law_1650.2.2.2.2.2.2.2.2.2.2.2.2.2.2.2.2.2.2.2.2.2.2.1
theorem dL_law_1683 : decode cL_law 1683 = .ok (.iconst 3, 1) := dgq (p := 33) daL_law_1650 dbL_law_1650.2.2.2.2.2.2.2.2.2.2.2.2.2.2.2.2.2.2.2.2.2.2.2
def dsL_law_1684 : ByteArray := ⟨#[96, 46, 42, 21, 5, 7, 96, 46, 45, 184, 1, 69, 54, 6, 44, 42, 21, 5, 4, 96, 46, 42, 21, 5, 5, 96, 46, 42, 21, 5, 6]⟩
theorem daL_law_1684 : agB cL_law dsL_law_1684 1684 := agB_of (n := 31) (by decide +kernel)
theorem dbL_law_1684 : (decode dsL_law_1684 0 = .ok (.iadd, 1) ∧ okop dsL_law_1684 0 = true) ∧ (decode dsL_law_1684 1 = .ok (.iaload, 1) ∧ okop dsL_law_1684 1 = true) ∧ (decode dsL_law_1684 2 = .ok (.aload_n 0, 1) ∧ okop dsL_law_1684 2 = true) ∧ (decode dsL_law_1684 3 = .ok (.iload 5, 2) ∧ okop dsL_law_1684 3 = true) ∧ (decode dsL_law_1684 5 = .ok (.iconst 4, 1) ∧ okop dsL_law_1684 5 = true) ∧ (decode dsL_law_1684 6 = .ok (.iadd, 1) ∧ okop dsL_law_1684 6 = true) ∧ (decode dsL_law_1684 7 = .ok (.iaload, 1) ∧ okop dsL_law_1684 7 = true) ∧ (decode dsL_law_1684 8 = .ok (.aload_n 3, 1) ∧ okop dsL_law_1684 8 = true) ∧ (decode dsL_law_1684 9 = .ok (.invokestatic 325, 3) ∧ okop dsL_law_1684 9 = true) ∧ (decode dsL_law_1684 12 = .ok (.istore 6, 2) ∧ okop dsL_law_1684 12 = true) ∧ (decode dsL_law_1684 14 = .ok (.aload_n 2, 1) ∧ okop dsL_law_1684 14 = true) ∧ (decode dsL_law_1684 15 = .ok (.aload_n 0, 1) ∧ okop dsL_law_1684 15 = true) ∧ (decode dsL_law_1684 16 = .ok (.iload 5, 2) ∧ okop dsL_law_1684 16 = true) ∧ (decode dsL_law_1684 18 = .ok (.iconst 1, 1) ∧ okop dsL_law_1684 18 = true) ∧ (decode dsL_law_1684 19 = .ok (.iadd, 1) ∧ okop dsL_law_1684 19 = true) ∧ (decode dsL_law_1684 20 = .ok (.iaload, 1) ∧ okop dsL_law_1684 20 = true) ∧ (decode dsL_law_1684 21 = .ok (.aload_n 0, 1) ∧ okop dsL_law_1684 21 = true) ∧ (decode dsL_law_1684 22 = .ok (.iload 5, 2) ∧ okop dsL_law_1684 22 = true) ∧ (decode dsL_law_1684 24 = .ok (.iconst 2, 1) ∧ okop dsL_law_1684 24 = true) ∧ (decode dsL_law_1684 25 = .ok (.iadd, 1) ∧ okop dsL_law_1684 25 = true) ∧ (decode dsL_law_1684 26 = .ok (.iaload, 1) ∧ okop dsL_law_1684 26 = true) ∧ (decode dsL_law_1684 27 = .ok (.aload_n 0, 1) ∧ okop dsL_law_1684 27 = true) ∧ (decode dsL_law_1684 28 = .ok (.iload 5, 2) ∧ okop dsL_law_1684 28 = true) ∧ (decode dsL_law_1684 30 = .ok (.iconst 3, 1) ∧ okop dsL_law_1684 30 = true) := by decide +kernel
theorem dL_law_1684 : decode cL_law 1684 = .ok (.iadd, 1) := dgq (p := 0) daL_law_1684 dbL_law_1684.1
theorem dL_law_1685 : decode cL_law 1685 = .ok (.iaload, 1) := dgq (p := 1) daL_law_1684 dbL_law_1684.2.1
theorem dL_law_1686 : decode cL_law 1686 = .ok (.aload_n 0, 1) := dgq (p := 2) daL_law_1684 dbL_law_1684.2.2.1
theorem dL_law_1687 : decode cL_law 1687 = .ok (.iload 5, 2) := dgq (p := 3) daL_law_1684 dbL_law_1684.2.2.2.1
theorem dL_law_1689 : decode cL_law 1689 = .ok (.iconst 4, 1) := dgq (p := 5) daL_law_1684 dbL_law_1684.2.2.2.2.1
theorem dL_law_1690 : decode cL_law 1690 = .ok (.iadd, 1) := dgq (p := 6) daL_law_1684 dbL_law_1684.2.2.2.2.2.1
theorem dL_law_1691 : decode cL_law 1691 = .ok (.iaload, 1) := dgq (p := 7) daL_law_1684 dbL_law_1684.2.2.2.2.2.2.1
theorem dL_law_1692 : decode cL_law 1692 = .ok (.aload_n 3, 1) := dgq (p := 8) daL_law_1684 dbL_law_1684.2.2.2.2.2.2.2.1
theorem dL_law_1693 : decode cL_law 1693 = .ok (.invokestatic 325, 3) := dgq (p := 9) daL_law_1684 dbL_law_1684.2.2.2.2.2.2.2.2.1
theorem dL_law_1696 : decode cL_law 1696 = .ok (.istore 6, 2) := dgq (p := 12) daL_law_1684 dbL_law_1684.2.2.2.2.2.2.2.2.2.1
theorem dL_law_1698 : decode cL_law 1698 = .ok (.aload_n 2, 1) := dgq (p := 14) daL_law_1684 dbL_law_1684.2.2.2.2.2.2.2.2.2.2.1
theorem dL_law_1699 : decode cL_law 1699 = .ok (.aload_n 0, 1) := dgq (p := 15) daL_law_1684 dbL_law_1684.2.2.2.2.2.2.2.2.2.2.2.1
theorem dL_law_1700 : decode cL_law 1700 = .ok (.iload 5, 2) := dgq (p := 16) daL_law_1684 dbL_law_1684.2.2.2.2.2.2.2.2.2.2.2.2.1
theorem dL_law_1702 : decode cL_law 1702 = .ok (.iconst 1, 1) := dgq (p := 18) daL_law_1684 dbL_law_1684.2.2.2.2.2.2.2.2.2.2.2.2.2.1
theorem dL_law_1703 : decode cL_law 1703 = .ok (.iadd, 1) := dgq (p := 19) daL_law_1684 dbL_law_1684.2.2.2.2.2.2.2.2.2.2.2.2.2.2.1
theorem dL_law_1704 : decode cL_law 1704 = .ok (.iaload, 1) := dgq (p := 20) daL_law_1684 dbL_law_1684.2.2.2.2.2.2.2.2.2.2.2.2.2.2.2.1
theorem dL_law_1705 : decode cL_law 1705 = .ok (.aload_n 0, 1) := dgq (p := 21) daL_law_1684 dbL_law_1684.2.2.2.2.2.2.2.2.2.2.2.2.2.2.2.2.1
theorem dL_law_1706 : decode cL_law 1706 = .ok (.iload 5, 2) := dgq (p := 22) daL_law_1684 dbL_law_1684.2.2.2.2.2.2.2.2.2.2.2.2.2.2.2.2.2.1
theorem dL_law_1708 : decode cL_law 1708 = .ok (.iconst 2, 1) := dgq (p := 24) daL_law_1684 dbL_law_1684.2.2.2.2.2.2.2.2.2.2.2.2.2.2.2.2.2.2.1
theorem dL_law_1709 : decode cL_law 1709 = .ok (.iadd, 1) := dgq (p := 25) daL_law_1684 dbL_law_1684.2.2.2.2.2.2.2.2.2.2.2.2.2.2.2.2.2.2.2.1
theorem dL_law_1710 : decode cL_law 1710 = .ok (.iaload, 1) := dgq (p := 26) daL_law_1684 dbL_law_1684.2.2.2.2.2.2.2.2.2.2.2.2.2.2.2.2.2.2.2.2.1
theorem dL_law_1711 : decode cL_law 1711 = .ok (.aload_n 0, 1) := dgq (p := 27) daL_law_1684 dbL_law_1684.2.2.2.2.2.2.2.2.2.2.2.2.2.2.2.2.2.2.2.2.2.1
theorem dL_law_1712 : decode cL_law 1712 = .ok (.iload 5, 2) := dgq (p := 28) daL_law_1684 dbL_law_1684.2.2.2.2.2.2.2.2.2.2.2.2.2.2.2.2.2.2.2.2.2.2.1
theorem dL_law_1714 : decode cL_law 1714 = .ok (.iconst 3, 1) := dgq (p := 30) daL_law_1684 dbL_law_1684.2.2.2.2.2.2.2.2.2.2.2.2.2.2.2.2.2.2.2.2.2.2.2
def dsL_law_1715 : ByteArray := ⟨#[96, 46, 42, 21, 5, 7, 96, 46, 182, 1, 71, 54, 7, 167, 4, 179, 43, 42, 21, 5, 4, 96, 46, 42, 21, 5, 5, 96, 46, 42, 21, 5, 6]⟩
theorem daL_law_1715 : agB cL_law dsL_law_1715 1715 := agB_of (n := 33) (by decide +kernel)
theorem dbL_law_1715 : (decode dsL_law_1715 0 = .ok (.iadd, 1) ∧ okop dsL_law_1715 0 = true) ∧ (decode dsL_law_1715 1 = .ok (.iaload, 1) ∧ okop dsL_law_1715 1 = true) ∧ (decode dsL_law_1715 2 = .ok (.aload_n 0, 1) ∧ okop dsL_law_1715 2 = true) ∧ (decode dsL_law_1715 3 = .ok (.iload 5, 2) ∧ okop dsL_law_1715 3 = true) ∧ (decode dsL_law_1715 5 = .ok (.iconst 4, 1) ∧ okop dsL_law_1715 5 = true) ∧ (decode dsL_law_1715 6 = .ok (.iadd, 1) ∧ okop dsL_law_1715 6 = true) ∧ (decode dsL_law_1715 7 = .ok (.iaload, 1) ∧ okop dsL_law_1715 7 = true) ∧ (decode dsL_law_1715 8 = .ok (.invokevirtual 327, 3) ∧ okop dsL_law_1715 8 = true) ∧ (decode dsL_law_1715 11 = .ok (.istore 7, 2) ∧ okop dsL_law_1715 11 = true) ∧ (decode dsL_law_1715 13 = .ok (.goto 1203, 3) ∧ okop dsL_law_1715 13 = true) ∧ (decode dsL_law_1715 16 = .ok (.aload_n 1, 1) ∧ okop dsL_law_1715 16 = true) ∧ (decode dsL_law_1715 17 = .ok (.aload_n 0, 1) ∧ okop dsL_law_1715 17 = true) ∧ (decode dsL_law_1715 18 = .ok (.iload 5, 2) ∧ okop dsL_law_1715 18 = true) ∧ (decode dsL_law_1715 20 = .ok (.iconst 1, 1) ∧ okop dsL_law_1715 20 = true) ∧ (decode dsL_law_1715 21 = .ok (.iadd, 1) ∧ okop dsL_law_1715 21 = true) ∧ (decode dsL_law_1715 22 = .ok (.iaload, 1) ∧ okop dsL_law_1715 22 = true) ∧ (decode dsL_law_1715 23 = .ok (.aload_n 0, 1) ∧ okop dsL_law_1715 23 = true) ∧ (decode dsL_law_1715 24 = .ok (.iload 5, 2) ∧ okop dsL_law_1715 24 = true) ∧ (decode dsL_law_1715 26 = .ok (.iconst 2, 1) ∧ okop dsL_law_1715 26 = true) ∧ (decode dsL_law_1715 27 = .ok (.iadd, 1) ∧ okop dsL_law_1715 27 = true) ∧ (decode dsL_law_1715 28 = .ok (.iaload, 1) ∧ okop dsL_law_1715 28 = true) ∧ (decode dsL_law_1715 29 = .ok (.aload_n 0, 1) ∧ okop dsL_law_1715 29 = true) ∧ (decode dsL_law_1715 30 = .ok (.iload 5, 2) ∧ okop dsL_law_1715 30 = true) ∧ (decode dsL_law_1715 32 = .ok (.iconst 3, 1) ∧ okop dsL_law_1715 32 = true) := by decide +kernel
theorem dL_law_1715 : decode cL_law 1715 = .ok (.iadd, 1) := dgq (p := 0) daL_law_1715 dbL_law_1715.1
theorem dL_law_1716 : decode cL_law 1716 = .ok (.iaload, 1) := dgq (p := 1) daL_law_1715 dbL_law_1715.2.1
theorem dL_law_1717 : decode cL_law 1717 = .ok (.aload_n 0, 1) := dgq (p := 2) daL_law_1715 dbL_law_1715.2.2.1
theorem dL_law_1718 : decode cL_law 1718 = .ok (.iload 5, 2) := dgq (p := 3) daL_law_1715 dbL_law_1715.2.2.2.1
theorem dL_law_1720 : decode cL_law 1720 = .ok (.iconst 4, 1) := dgq (p := 5) daL_law_1715 dbL_law_1715.2.2.2.2.1
theorem dL_law_1721 : decode cL_law 1721 = .ok (.iadd, 1) := dgq (p := 6) daL_law_1715 dbL_law_1715.2.2.2.2.2.1
theorem dL_law_1722 : decode cL_law 1722 = .ok (.iaload, 1) := dgq (p := 7) daL_law_1715 dbL_law_1715.2.2.2.2.2.2.1
theorem dL_law_1723 : decode cL_law 1723 = .ok (.invokevirtual 327, 3) := dgq (p := 8) daL_law_1715 dbL_law_1715.2.2.2.2.2.2.2.1
theorem dL_law_1726 : decode cL_law 1726 = .ok (.istore 7, 2) := dgq (p := 11) daL_law_1715 dbL_law_1715.2.2.2.2.2.2.2.2.1
theorem dL_law_1728 : decode cL_law 1728 = .ok (.goto 1203, 3) := dgq (p := 13) daL_law_1715 dbL_law_1715.2.2.2.2.2.2.2.2.2.1
theorem dL_law_1731 : decode cL_law 1731 = .ok (.aload_n 1, 1) := dgq (p := 16) daL_law_1715 dbL_law_1715.2.2.2.2.2.2.2.2.2.2.1
theorem dL_law_1732 : decode cL_law 1732 = .ok (.aload_n 0, 1) := dgq (p := 17) daL_law_1715 dbL_law_1715.2.2.2.2.2.2.2.2.2.2.2.1
theorem dL_law_1733 : decode cL_law 1733 = .ok (.iload 5, 2) := dgq (p := 18) daL_law_1715 dbL_law_1715.2.2.2.2.2.2.2.2.2.2.2.2.1
theorem dL_law_1735 : decode cL_law 1735 = .ok (.iconst 1, 1) := dgq (p := 20) daL_law_1715 dbL_law_1715.2.2.2.2.2.2.2.2.2.2.2.2.2.1
theorem dL_law_1736 : decode cL_law 1736 = .ok (.iadd, 1) := dgq (p := 21) daL_law_1715 dbL_law_1715.2.2.2.2.2.2.2.2.2.2.2.2.2.2.1
theorem dL_law_1737 : decode cL_law 1737 = .ok (.iaload, 1) := dgq (p := 22) daL_law_1715 dbL_law_1715.2.2.2.2.2.2.2.2.2.2.2.2.2.2.2.1
theorem dL_law_1738 : decode cL_law 1738 = .ok (.aload_n 0, 1) := dgq (p := 23) daL_law_1715 dbL_law_1715.2.2.2.2.2.2.2.2.2.2.2.2.2.2.2.2.1
theorem dL_law_1739 : decode cL_law 1739 = .ok (.iload 5, 2) := dgq (p := 24) daL_law_1715 dbL_law_1715.2.2.2.2.2.2.2.2.2.2.2.2.2.2.2.2.2.1
theorem dL_law_1741 : decode cL_law 1741 = .ok (.iconst 2, 1) := dgq (p := 26) daL_law_1715 dbL_law_1715.2.2.2.2.2.2.2.2.2.2.2.2.2.2.2.2.2.2.1
theorem dL_law_1742 : decode cL_law 1742 = .ok (.iadd, 1) := dgq (p := 27) daL_law_1715 dbL_law_1715.2.2.2.2.2.2.2.2.2.2.2.2.2.2.2.2.2.2.2.1
theorem dL_law_1743 : decode cL_law 1743 = .ok (.iaload, 1) := dgq (p := 28) daL_law_1715 dbL_law_1715.2.2.2.2.2.2.2.2.2.2.2.2.2.2.2.2.2.2.2.2.1
theorem dL_law_1744 : decode cL_law 1744 = .ok (.aload_n 0, 1) := dgq (p := 29) daL_law_1715 dbL_law_1715.2.2.2.2.2.2.2.2.2.2.2.2.2.2.2.2.2.2.2.2.2.1
theorem dL_law_1745 : decode cL_law 1745 = .ok (.iload 5, 2) := dgq (p := 30) daL_law_1715 dbL_law_1715.2.2.2.2.2.2.2.2.2.2.2.2.2.2.2.2.2.2.2.2.2.2.1
theorem dL_law_1747 : decode cL_law 1747 = .ok (.iconst 3, 1) := dgq (p := 32) daL_law_1715 dbL_law_1715.2.2.2.2.2.2.2.2.2.2.2.2.2.2.2.2.2.2.2.2.2.2.2
def dsL_law_1748 : ByteArray := ⟨#[96, 46, 45, 184, 1, 72, 54, 6, 44, 42, 21, 5, 4, 96, 46, 42, 21, 5, 5, 96, 46, 42, 21, 5, 6, 96, 46, 182, 1, 74, 54, 7, 167, 4, 127]⟩
theorem daL_law_1748 : agB cL_law dsL_law_1748 1748 := agB_of (n := 35) (by decide +kernel)
theorem dbL_law_1748 : (decode dsL_law_1748 0 = .ok (.iadd, 1) ∧ okop dsL_law_1748 0 = true) ∧ (decode dsL_law_1748 1 = .ok (.iaload, 1) ∧ okop dsL_law_1748 1 = true) ∧ (decode dsL_law_1748 2 = .ok (.aload_n 3, 1) ∧ okop dsL_law_1748 2 = true) ∧ (decode dsL_law_1748 3 = .ok (.invokestatic 328, 3) ∧ okop dsL_law_1748 3 = true) ∧ (decode dsL_law_1748 6 = .ok (.istore 6, 2) ∧ okop dsL_law_1748 6 = true) ∧ (decode dsL_law_1748 8 = .ok (.aload_n 2, 1) ∧ okop dsL_law_1748 8 = true) ∧ (decode dsL_law_1748 9 = .ok (.aload_n 0, 1) ∧ okop dsL_law_1748 9 = true) ∧ (decode dsL_law_1748 10 = .ok (.iload 5, 2) ∧ okop dsL_law_1748 10 = true) ∧ (decode dsL_law_1748 12 = .ok (.iconst 1, 1) ∧ okop dsL_law_1748 12 = true) ∧ (decode dsL_law_1748 13 = .ok (.iadd, 1) ∧ okop dsL_law_1748 13 = true) ∧ (decode dsL_law_1748 14 = .ok (.iaload, 1) ∧ okop dsL_law_1748 14 = true) ∧ (decode dsL_law_1748 15 = .ok (.aload_n 0, 1) ∧ okop dsL_law_1748 15 = true) ∧ (decode dsL_law_1748 16 = .ok (.iload 5, 2) ∧ okop dsL_law_1748 16 = true) ∧ (decode dsL_law_1748 18 = .ok (.iconst 2, 1) ∧ okop dsL_law_1748 18 = true) ∧ (decode dsL_law_1748 19 = .ok (.iadd, 1) ∧ okop dsL_law_1748 19 = true) ∧ (decode dsL_law_1748 20 = .ok (.iaload, 1) ∧ okop dsL_law_1748 20 = true) ∧ (decode dsL_law_1748 21 = .ok (.aload_n 0, 1) ∧ okop dsL_law_1748 21 = true) ∧ (decode dsL_law_1748 22 = .ok (.iload 5, 2) ∧ okop dsL_law_1748 22 = true) ∧ (decode dsL_law_1748 24 = .ok (.iconst 3, 1) ∧ okop dsL_law_1748 24 = true) ∧ (decode dsL_law_1748 25 = .ok (.iadd, 1) ∧ okop dsL_law_1748 25 = true) ∧ (decode dsL_law_1748 26 = .ok (.iaload, 1) ∧ okop dsL_law_1748 26 = true) ∧ (decode dsL_law_1748 27 = .ok (.invokevirtual 330, 3) ∧ okop dsL_law_1748 27 = true) ∧ (decode dsL_law_1748 30 = .ok (.istore 7, 2) ∧ okop dsL_law_1748 30 = true) ∧ (decode dsL_law_1748 32 = .ok (.goto 1151, 3) ∧ okop dsL_law_1748 32 = true) := by decide +kernel
theorem dL_law_1748 : decode cL_law 1748 = .ok (.iadd, 1) := dgq (p := 0) daL_law_1748 dbL_law_1748.1
theorem dL_law_1749 : decode cL_law 1749 = .ok (.iaload, 1) := dgq (p := 1) daL_law_1748 dbL_law_1748.2.1
theorem dL_law_1750 : decode cL_law 1750 = .ok (.aload_n 3, 1) := dgq (p := 2) daL_law_1748 dbL_law_1748.2.2.1
theorem dL_law_1751 : decode cL_law 1751 = .ok (.invokestatic 328, 3) := dgq (p := 3) daL_law_1748 dbL_law_1748.2.2.2.1
theorem dL_law_1754 : decode cL_law 1754 = .ok (.istore 6, 2) := dgq (p := 6) daL_law_1748 dbL_law_1748.2.2.2.2.1
theorem dL_law_1756 : decode cL_law 1756 = .ok (.aload_n 2, 1) := dgq (p := 8) daL_law_1748 dbL_law_1748.2.2.2.2.2.1
theorem dL_law_1757 : decode cL_law 1757 = .ok (.aload_n 0, 1) := dgq (p := 9) daL_law_1748 dbL_law_1748.2.2.2.2.2.2.1
theorem dL_law_1758 : decode cL_law 1758 = .ok (.iload 5, 2) := dgq (p := 10) daL_law_1748 dbL_law_1748.2.2.2.2.2.2.2.1
theorem dL_law_1760 : decode cL_law 1760 = .ok (.iconst 1, 1) := dgq (p := 12) daL_law_1748 dbL_law_1748.2.2.2.2.2.2.2.2.1
theorem dL_law_1761 : decode cL_law 1761 = .ok (.iadd, 1) := dgq (p := 13) daL_law_1748 dbL_law_1748.2.2.2.2.2.2.2.2.2.1
theorem dL_law_1762 : decode cL_law 1762 = .ok (.iaload, 1) := dgq (p := 14) daL_law_1748 dbL_law_1748.2.2.2.2.2.2.2.2.2.2.1
theorem dL_law_1763 : decode cL_law 1763 = .ok (.aload_n 0, 1) := dgq (p := 15) daL_law_1748 dbL_law_1748.2.2.2.2.2.2.2.2.2.2.2.1
theorem dL_law_1764 : decode cL_law 1764 = .ok (.iload 5, 2) := dgq (p := 16) daL_law_1748 dbL_law_1748.2.2.2.2.2.2.2.2.2.2.2.2.1
theorem dL_law_1766 : decode cL_law 1766 = .ok (.iconst 2, 1) := dgq (p := 18) daL_law_1748 dbL_law_1748.2.2.2.2.2.2.2.2.2.2.2.2.2.1
theorem dL_law_1767 : decode cL_law 1767 = .ok (.iadd, 1) := dgq (p := 19) daL_law_1748 dbL_law_1748.2.2.2.2.2.2.2.2.2.2.2.2.2.2.1
theorem dL_law_1768 : decode cL_law 1768 = .ok (.iaload, 1) := dgq (p := 20) daL_law_1748 dbL_law_1748.2.2.2.2.2.2.2.2.2.2.2.2.2.2.2.1
theorem dL_law_1769 : decode cL_law 1769 = .ok (.aload_n 0, 1) := dgq (p := 21) daL_law_1748 dbL_law_1748.2.2.2.2.2.2.2.2.2.2.2.2.2.2.2.2.1
theorem dL_law_1770 : decode cL_law 1770 = .ok (.iload 5, 2) := dgq (p := 22) daL_law_1748 dbL_law_1748.2.2.2.2.2.2.2.2.2.2.2.2.2.2.2.2.2.1
theorem dL_law_1772 : decode cL_law 1772 = .ok (.iconst 3, 1) := dgq (p := 24) daL_law_1748 dbL_law_1748.2.2.2.2.2.2.2.2.2.2.2.2.2.2.2.2.2.2.1
theorem dL_law_1773 : decode cL_law 1773 = .ok (.iadd, 1) := dgq (p := 25) daL_law_1748 dbL_law_1748.2.2.2.2.2.2.2.2.2.2.2.2.2.2.2.2.2.2.2.1
theorem dL_law_1774 : decode cL_law 1774 = .ok (.iaload, 1) := dgq (p := 26) daL_law_1748 dbL_law_1748.2.2.2.2.2.2.2.2.2.2.2.2.2.2.2.2.2.2.2.2.1
theorem dL_law_1775 : decode cL_law 1775 = .ok (.invokevirtual 330, 3) := dgq (p := 27) daL_law_1748 dbL_law_1748.2.2.2.2.2.2.2.2.2.2.2.2.2.2.2.2.2.2.2.2.2.1
theorem dL_law_1778 : decode cL_law 1778 = .ok (.istore 7, 2) := dgq (p := 30) daL_law_1748 dbL_law_1748.2.2.2.2.2.2.2.2.2.2.2.2.2.2.2.2.2.2.2.2.2.2.1
theorem dL_law_1780 : decode cL_law 1780 = .ok (.goto 1151, 3) := dgq (p := 32) daL_law_1748 dbL_law_1748.2.2.2.2.2.2.2.2.2.2.2.2.2.2.2.2.2.2.2.2.2.2.2
def dsL_law_1783 : ByteArray := ⟨#[43, 42, 21, 5, 4, 96, 46, 42, 21, 5, 5, 96, 46, 42, 21, 5, 6, 96, 46, 153, 0, 7, 4, 167, 0, 4, 3, 45, 184, 1, 75, 54, 6, 44]⟩
theorem daL_law_1783 : agB cL_law dsL_law_1783 1783 := agB_of (n := 34) (by decide +kernel)
theorem dbL_law_1783 : (decode dsL_law_1783 0 = .ok (.aload_n 1, 1) ∧ okop dsL_law_1783 0 = true) ∧ (decode dsL_law_1783 1 = .ok (.aload_n 0, 1) ∧ okop dsL_law_1783 1 = true) ∧ (decode dsL_law_1783 2 = .ok (.iload 5, 2) ∧ okop dsL_law_1783 2 = true) ∧ (decode dsL_law_1783 4 = .ok (.iconst 1, 1) ∧ okop dsL_law_1783 4 = true) ∧ (decode dsL_law_1783 5 = .ok (.iadd, 1) ∧ okop dsL_law_1783 5 = true) ∧ (decode dsL_law_1783 6 = .ok (.iaload, 1) ∧ okop dsL_law_1783 6 = true) ∧ (decode dsL_law_1783 7 = .ok (.aload_n 0, 1) ∧ okop dsL_law_1783 7 = true) ∧ (decode dsL_law_1783 8 = .ok (.iload 5, 2) ∧ okop dsL_law_1783 8 = true) ∧ (decode dsL_law_1783 10 = .ok (.iconst 2, 1) ∧ okop dsL_law_1783 10 = true) ∧ (decode dsL_law_1783 11 = .ok (.iadd, 1) ∧ okop dsL_law_1783 11 = true) ∧ (decode dsL_law_1783 12 = .ok (.iaload, 1) ∧ okop dsL_law_1783 12 = true) ∧ (decode dsL_law_1783 13 = .ok (.aload_n 0, 1) ∧ okop dsL_law_1783 13 = true) ∧ (decode dsL_law_1783 14 = .ok (.iload 5, 2) ∧ okop dsL_law_1783 14 = true) ∧ (decode dsL_law_1783 16 = .ok (.iconst 3, 1) ∧ okop dsL_law_1783 16 = true) ∧ (decode dsL_law_1783 17 = .ok (.iadd, 1) ∧ okop dsL_law_1783 17 = true) ∧ (decode dsL_law_1783 18 = .ok (.iaload, 1) ∧ okop dsL_law_1783 18 = true) ∧ (decode dsL_law_1783 19 = .ok (.ifCond .eq 7, 3) ∧ okop dsL_law_1783 19 = true) ∧ (decode dsL_law_1783 22 = .ok (.iconst 1, 1) ∧ okop dsL_law_1783 22 = true) ∧ (decode dsL_law_1783 23 = .ok (.goto 4, 3) ∧ okop dsL_law_1783 23 = true) ∧ (decode dsL_law_1783 26 = .ok (.iconst 0, 1) ∧ okop dsL_law_1783 26 = true) ∧ (decode dsL_law_1783 27 = .ok (.aload_n 3, 1) ∧ okop dsL_law_1783 27 = true) ∧ (decode dsL_law_1783 28 = .ok (.invokestatic 331, 3) ∧ okop dsL_law_1783 28 = true) ∧ (decode dsL_law_1783 31 = .ok (.istore 6, 2) ∧ okop dsL_law_1783 31 = true) ∧ (decode dsL_law_1783 33 = .ok (.aload_n 2, 1) ∧ okop dsL_law_1783 33 = true) := by decide +kernel
theorem dL_law_1783 : decode cL_law 1783 = .ok (.aload_n 1, 1) := dgq (p := 0) daL_law_1783 dbL_law_1783.1
theorem dL_law_1784 : decode cL_law 1784 = .ok (.aload_n 0, 1) := dgq (p := 1) daL_law_1783 dbL_law_1783.2.1
theorem dL_law_1785 : decode cL_law 1785 = .ok (.iload 5, 2) := dgq (p := 2) daL_law_1783 dbL_law_1783.2.2.1
theorem dL_law_1787 : decode cL_law 1787 = .ok (.iconst 1, 1) := dgq (p := 4) daL_law_1783 dbL_law_1783.2.2.2.1
theorem dL_law_1788 : decode cL_law 1788 = .ok (.iadd, 1) := dgq (p := 5) daL_law_1783 dbL_law_1783.2.2.2.2.1
theorem dL_law_1789 : decode cL_law 1789 = .ok (.iaload, 1) := dgq (p := 6) daL_law_1783 dbL_law_1783.2.2.2.2.2.1
theorem dL_law_1790 : decode cL_law 1790 = .ok (.aload_n 0, 1) := dgq (p := 7) daL_law_1783 dbL_law_1783.2.2.2.2.2.2.1
theorem dL_law_1791 : decode cL_law 1791 = .ok (.iload 5, 2) := dgq (p := 8) daL_law_1783 dbL_law_1783.2.2.2.2.2.2.2.1
theorem dL_law_1793 : decode cL_law 1793 = .ok (.iconst 2, 1) := dgq (p := 10) daL_law_1783 dbL_law_1783.2.2.2.2.2.2.2.2.1
theorem dL_law_1794 : decode cL_law 1794 = .ok (.iadd, 1) := dgq (p := 11) daL_law_1783 dbL_law_1783.2.2.2.2.2.2.2.2.2.1
theorem dL_law_1795 : decode cL_law 1795 = .ok (.iaload, 1) := dgq (p := 12) daL_law_1783 dbL_law_1783.2.2.2.2.2.2.2.2.2.2.1
theorem dL_law_1796 : decode cL_law 1796 = .ok (.aload_n 0, 1) := dgq (p := 13) daL_law_1783 dbL_law_1783.2.2.2.2.2.2.2.2.2.2.2.1
theorem dL_law_1797 : decode cL_law 1797 = .ok (.iload 5, 2) := dgq (p := 14) daL_law_1783 dbL_law_1783.2.2.2.2.2.2.2.2.2.2.2.2.1
theorem dL_law_1799 : decode cL_law 1799 = .ok (.iconst 3, 1) := dgq (p := 16) daL_law_1783 dbL_law_1783.2.2.2.2.2.2.2.2.2.2.2.2.2.1
theorem dL_law_1800 : decode cL_law 1800 = .ok (.iadd, 1) := dgq (p := 17) daL_law_1783 dbL_law_1783.2.2.2.2.2.2.2.2.2.2.2.2.2.2.1
theorem dL_law_1801 : decode cL_law 1801 = .ok (.iaload, 1) := dgq (p := 18) daL_law_1783 dbL_law_1783.2.2.2.2.2.2.2.2.2.2.2.2.2.2.2.1
theorem dL_law_1802 : decode cL_law 1802 = .ok (.ifCond .eq 7, 3) := dgq (p := 19) daL_law_1783 dbL_law_1783.2.2.2.2.2.2.2.2.2.2.2.2.2.2.2.2.1
theorem dL_law_1805 : decode cL_law 1805 = .ok (.iconst 1, 1) := dgq (p := 22) daL_law_1783 dbL_law_1783.2.2.2.2.2.2.2.2.2.2.2.2.2.2.2.2.2.1
theorem dL_law_1806 : decode cL_law 1806 = .ok (.goto 4, 3) := dgq (p := 23) daL_law_1783 dbL_law_1783.2.2.2.2.2.2.2.2.2.2.2.2.2.2.2.2.2.2.1
theorem dL_law_1809 : decode cL_law 1809 = .ok (.iconst 0, 1) := dgq (p := 26) daL_law_1783 dbL_law_1783.2.2.2.2.2.2.2.2.2.2.2.2.2.2.2.2.2.2.2.1
theorem dL_law_1810 : decode cL_law 1810 = .ok (.aload_n 3, 1) := dgq (p := 27) daL_law_1783 dbL_law_1783.2.2.2.2.2.2.2.2.2.2.2.2.2.2.2.2.2.2.2.2.1
theorem dL_law_1811 : decode cL_law 1811 = .ok (.invokestatic 331, 3) := dgq (p := 28) daL_law_1783 dbL_law_1783.2.2.2.2.2.2.2.2.2.2.2.2.2.2.2.2.2.2.2.2.2.1
theorem dL_law_1814 : decode cL_law 1814 = .ok (.istore 6, 2) := dgq (p := 31) daL_law_1783 dbL_law_1783.2.2.2.2.2.2.2.2.2.2.2.2.2.2.2.2.2.2.2.2.2.2.1
theorem dL_law_1816 : decode cL_law 1816 = .ok (.aload_n 2, 1) := dgq (p := 33) daL_law_1783 dbL_law_1783.2.2.2.2.2.2.2.2.2.2.2.2.2.2.2.2.2.2.2.2.2.2.2
def dsL_law_1817 : ByteArray := ⟨#[42, 21, 5, 4, 96, 46, 42, 21, 5, 5, 96, 46, 42, 21, 5, 6, 96, 46, 153, 0, 7, 4, 167, 0, 4, 3, 182, 1, 78, 54, 7, 167, 4, 59, 43, 42]⟩
theorem daL_law_1817 : agB cL_law dsL_law_1817 1817 := agB_of (n := 36) (by decide +kernel)
theorem dbL_law_1817 : (decode dsL_law_1817 0 = .ok (.aload_n 0, 1) ∧ okop dsL_law_1817 0 = true) ∧ (decode dsL_law_1817 1 = .ok (.iload 5, 2) ∧ okop dsL_law_1817 1 = true) ∧ (decode dsL_law_1817 3 = .ok (.iconst 1, 1) ∧ okop dsL_law_1817 3 = true) ∧ (decode dsL_law_1817 4 = .ok (.iadd, 1) ∧ okop dsL_law_1817 4 = true) ∧ (decode dsL_law_1817 5 = .ok (.iaload, 1) ∧ okop dsL_law_1817 5 = true) ∧ (decode dsL_law_1817 6 = .ok (.aload_n 0, 1) ∧ okop dsL_law_1817 6 = true) ∧ (decode dsL_law_1817 7 = .ok (.iload 5, 2) ∧ okop dsL_law_1817 7 = true) ∧ (decode dsL_law_1817 9 = .ok (.iconst 2, 1) ∧ okop dsL_law_1817 9 = true) ∧ (decode dsL_law_1817 10 = .ok (.iadd, 1) ∧ okop dsL_law_1817 10 = true) ∧ (decode dsL_law_1817 11 = .ok (.iaload, 1) ∧ okop dsL_law_1817 11 = true) ∧ (decode dsL_law_1817 12 = .ok (.aload_n 0, 1) ∧ okop dsL_law_1817 12 = true) ∧ (decode dsL_law_1817 13 = .ok (.iload 5, 2) ∧ okop dsL_law_1817 13 = true) ∧ (decode dsL_law_1817 15 = .ok (.iconst 3, 1) ∧ okop dsL_law_1817 15 = true) ∧ (decode dsL_law_1817 16 = .ok (.iadd, 1) ∧ okop dsL_law_1817 16 = true) ∧ (decode dsL_law_1817 17 = .ok (.iaload, 1) ∧ okop dsL_law_1817 17 = true) ∧ (decode dsL_law_1817 18 = .ok (.ifCond .eq 7, 3) ∧ okop dsL_law_1817 18 = true) ∧ (decode dsL_law_1817 21 = .ok (.iconst 1, 1) ∧ okop dsL_law_1817 21 = true) ∧ (decode dsL_law_1817 22 = .ok (.goto 4, 3) ∧ okop dsL_law_1817 22 = true) ∧ (decode dsL_law_1817 25 = .ok (.iconst 0, 1) ∧ okop dsL_law_1817 25 = true) ∧ (decode dsL_law_1817 26 = .ok (.invokevirtual 334, 3) ∧ okop dsL_law_1817 26 = true) ∧ (decode dsL_law_1817 29 = .ok (.istore 7, 2) ∧ okop dsL_law_1817 29 = true) ∧ (decode dsL_law_1817 31 = .ok (.goto 1083, 3) ∧ okop dsL_law_1817 31 = true) ∧ (decode dsL_law_1817 34 = .ok (.aload_n 1, 1) ∧ okop dsL_law_1817 34 = true) ∧ (decode dsL_law_1817 35 = .ok (.aload_n 0, 1) ∧ okop dsL_law_1817 35 = true) := by decide +kernel
theorem dL_law_1817 : decode cL_law 1817 = .ok (.aload_n 0, 1) := dgq (p := 0) daL_law_1817 dbL_law_1817.1
theorem dL_law_1818 : decode cL_law 1818 = .ok (.iload 5, 2) := dgq (p := 1) daL_law_1817 dbL_law_1817.2.1
theorem dL_law_1820 : decode cL_law 1820 = .ok (.iconst 1, 1) := dgq (p := 3) daL_law_1817 dbL_law_1817.2.2.1
theorem dL_law_1821 : decode cL_law 1821 = .ok (.iadd, 1) := dgq (p := 4) daL_law_1817 dbL_law_1817.2.2.2.1
theorem dL_law_1822 : decode cL_law 1822 = .ok (.iaload, 1) := dgq (p := 5) daL_law_1817 dbL_law_1817.2.2.2.2.1
theorem dL_law_1823 : decode cL_law 1823 = .ok (.aload_n 0, 1) := dgq (p := 6) daL_law_1817 dbL_law_1817.2.2.2.2.2.1
theorem dL_law_1824 : decode cL_law 1824 = .ok (.iload 5, 2) := dgq (p := 7) daL_law_1817 dbL_law_1817.2.2.2.2.2.2.1
theorem dL_law_1826 : decode cL_law 1826 = .ok (.iconst 2, 1) := dgq (p := 9) daL_law_1817 dbL_law_1817.2.2.2.2.2.2.2.1
theorem dL_law_1827 : decode cL_law 1827 = .ok (.iadd, 1) := dgq (p := 10) daL_law_1817 dbL_law_1817.2.2.2.2.2.2.2.2.1
theorem dL_law_1828 : decode cL_law 1828 = .ok (.iaload, 1) := dgq (p := 11) daL_law_1817 dbL_law_1817.2.2.2.2.2.2.2.2.2.1
theorem dL_law_1829 : decode cL_law 1829 = .ok (.aload_n 0, 1) := dgq (p := 12) daL_law_1817 dbL_law_1817.2.2.2.2.2.2.2.2.2.2.1
theorem dL_law_1830 : decode cL_law 1830 = .ok (.iload 5, 2) := dgq (p := 13) daL_law_1817 dbL_law_1817.2.2.2.2.2.2.2.2.2.2.2.1
theorem dL_law_1832 : decode cL_law 1832 = .ok (.iconst 3, 1) := dgq (p := 15) daL_law_1817 dbL_law_1817.2.2.2.2.2.2.2.2.2.2.2.2.1
theorem dL_law_1833 : decode cL_law 1833 = .ok (.iadd, 1) := dgq (p := 16) daL_law_1817 dbL_law_1817.2.2.2.2.2.2.2.2.2.2.2.2.2.1
theorem dL_law_1834 : decode cL_law 1834 = .ok (.iaload, 1) := dgq (p := 17) daL_law_1817 dbL_law_1817.2.2.2.2.2.2.2.2.2.2.2.2.2.2.1
theorem dL_law_1835 : decode cL_law 1835 = .ok (.ifCond .eq 7, 3) := dgq (p := 18) daL_law_1817 dbL_law_1817.2.2.2.2.2.2.2.2.2.2.2.2.2.2.2.1
theorem dL_law_1838 : decode cL_law 1838 = .ok (.iconst 1, 1) := dgq (p := 21) daL_law_1817 dbL_law_1817.2.2.2.2.2.2.2.2.2.2.2.2.2.2.2.2.1
theorem dL_law_1839 : decode cL_law 1839 = .ok (.goto 4, 3) := dgq (p := 22) daL_law_1817 dbL_law_1817.2.2.2.2.2.2.2.2.2.2.2.2.2.2.2.2.2.1
theorem dL_law_1842 : decode cL_law 1842 = .ok (.iconst 0, 1) := dgq (p := 25) daL_law_1817 dbL_law_1817.2.2.2.2.2.2.2.2.2.2.2.2.2.2.2.2.2.2.1
theorem dL_law_1843 : decode cL_law 1843 = .ok (.invokevirtual 334, 3) := dgq (p := 26) daL_law_1817 dbL_law_1817.2.2.2.2.2.2.2.2.2.2.2.2.2.2.2.2.2.2.2.1
theorem dL_law_1846 : decode cL_law 1846 = .ok (.istore 7, 2) := dgq (p := 29) daL_law_1817 dbL_law_1817.2.2.2.2.2.2.2.2.2.2.2.2.2.2.2.2.2.2.2.2.1
theorem dL_law_1848 : decode cL_law 1848 = .ok (.goto 1083, 3) := dgq (p := 31) daL_law_1817 dbL_law_1817.2.2.2.2.2.2.2.2.2.2.2.2.2.2.2.2.2.2.2.2.2.1
theorem dL_law_1851 : decode cL_law 1851 = .ok (.aload_n 1, 1) := dgq (p := 34) daL_law_1817 dbL_law_1817.2.2.2.2.2.2.2.2.2.2.2.2.2.2.2.2.2.2.2.2.2.2.1
theorem dL_law_1852 : decode cL_law 1852 = .ok (.aload_n 0, 1) := dgq (p := 35) daL_law_1817 dbL_law_1817.2.2.2.2.2.2.2.2.2.2.2.2.2.2.2.2.2.2.2.2.2.2.2
def dsL_law_1853 : ByteArray := ⟨#[21, 5, 4, 96, 46, 45, 184, 1, 79, 54, 6, 44, 42, 21, 5, 4, 96, 46, 182, 1, 81, 54, 7, 167, 4, 31, 43, 42, 21, 5, 4, 96, 46, 45, 184, 1, 82]⟩
theorem daL_law_1853 : agB cL_law dsL_law_1853 1853 := agB_of (n := 37) (by decide +kernel)
theorem dbL_law_1853 : (decode dsL_law_1853 0 = .ok (.iload 5, 2) ∧ okop dsL_law_1853 0 = true) ∧ (decode dsL_law_1853 2 = .ok (.iconst 1, 1) ∧ okop dsL_law_1853 2 = true) ∧ (decode dsL_law_1853 3 = .ok (.iadd, 1) ∧ okop dsL_law_1853 3 = true) ∧ (decode dsL_law_1853 4 = .ok (.iaload, 1) ∧ okop dsL_law_1853 4 = true) ∧ (decode dsL_law_1853 5 = .ok (.aload_n 3, 1) ∧ okop dsL_law_1853 5 = true) ∧ (decode dsL_law_1853 6 = .ok (.invokestatic 335, 3) ∧ okop dsL_law_1853 6 = true) ∧ (decode dsL_law_1853 9 = .ok (.istore 6, 2) ∧ okop dsL_law_1853 9 = true) ∧ (decode dsL_law_1853 11 = .ok (.aload_n 2, 1) ∧ okop dsL_law_1853 11 = true) ∧ (decode dsL_law_1853 12 = .ok (.aload_n 0, 1) ∧ okop dsL_law_1853 12 = true) ∧ (decode dsL_law_1853 13 = .ok (.iload 5, 2) ∧ okop dsL_law_1853 13 = true) ∧ (decode dsL_law_1853 15 = .ok (.iconst 1, 1) ∧ okop dsL_law_1853 15 = true) ∧ (decode dsL_law_1853 16 = .ok (.iadd, 1) ∧ okop dsL_law_1853 16 = true) ∧ (decode dsL_law_1853 17 = .ok (.iaload, 1) ∧ okop dsL_law_1853 17 = true) ∧ (decode dsL_law_1853 18 = .ok (.invokevirtual 337, 3) ∧ okop dsL_law_1853 18 = true) ∧ (decode dsL_law_1853 21 = .ok (.istore 7, 2) ∧ okop dsL_law_1853 21 = true) ∧ (decode dsL_law_1853 23 = .ok (.goto 1055, 3) ∧ okop dsL_law_1853 23 = true) ∧ (decode dsL_law_1853 26 = .ok (.aload_n 1, 1) ∧ okop dsL_law_1853 26 = true) ∧ (decode dsL_law_1853 27 = .ok (.aload_n 0, 1) ∧ okop dsL_law_1853 27 = true) ∧ (decode dsL_law_1853 28 = .ok (.iload 5, 2) ∧ okop dsL_law_1853 28 = true) ∧ (decode dsL_law_1853 30 = .ok (.iconst 1, 1) ∧ okop dsL_law_1853 30 = true) ∧ (decode dsL_law_1853 31 = .ok (.iadd, 1) ∧ okop dsL_law_1853 31 = true) ∧ (decode dsL_law_1853 32 = .ok (.iaload, 1) ∧ okop dsL_law_1853 32 = true) ∧ (decode dsL_law_1853 33 = .ok (.aload_n 3, 1) ∧ okop dsL_law_1853 33 = true) ∧ (decode dsL_law_1853 34 = .ok (.invokestatic 338, 3) ∧ okop dsL_law_1853 34 = true) := by decide +kernel
theorem dL_law_1853 : decode cL_law 1853 = .ok (.iload 5, 2) := dgq (p := 0) daL_law_1853 dbL_law_1853.1
theorem dL_law_1855 : decode cL_law 1855 = .ok (.iconst 1, 1) := dgq (p := 2) daL_law_1853 dbL_law_1853.2.1
theorem dL_law_1856 : decode cL_law 1856 = .ok (.iadd, 1) := dgq (p := 3) daL_law_1853 dbL_law_1853.2.2.1
theorem dL_law_1857 : decode cL_law 1857 = .ok (.iaload, 1) := dgq (p := 4) daL_law_1853 dbL_law_1853.2.2.2.1
theorem dL_law_1858 : decode cL_law 1858 = .ok (.aload_n 3, 1) := dgq (p := 5) daL_law_1853 dbL_law_1853.2.2.2.2.1
theorem dL_law_1859 : decode cL_law 1859 = .ok (.invokestatic 335, 3) := dgq (p := 6) daL_law_1853 dbL_law_1853.2.2.2.2.2.1
theorem dL_law_1862 : decode cL_law 1862 = .ok (.istore 6, 2) := dgq (p := 9) daL_law_1853 dbL_law_1853.2.2.2.2.2.2.1
theorem dL_law_1864 : decode cL_law 1864 = .ok (.aload_n 2, 1) := dgq (p := 11) daL_law_1853 dbL_law_1853.2.2.2.2.2.2.2.1
theorem dL_law_1865 : decode cL_law 1865 = .ok (.aload_n 0, 1) := dgq (p := 12) daL_law_1853 dbL_law_1853.2.2.2.2.2.2.2.2.1
theorem dL_law_1866 : decode cL_law 1866 = .ok (.iload 5, 2) := dgq (p := 13) daL_law_1853 dbL_law_1853.2.2.2.2.2.2.2.2.2.1
theorem dL_law_1868 : decode cL_law 1868 = .ok (.iconst 1, 1) := dgq (p := 15) daL_law_1853 dbL_law_1853.2.2.2.2.2.2.2.2.2.2.1
theorem dL_law_1869 : decode cL_law 1869 = .ok (.iadd, 1) := dgq (p := 16) daL_law_1853 dbL_law_1853.2.2.2.2.2.2.2.2.2.2.2.1
theorem dL_law_1870 : decode cL_law 1870 = .ok (.iaload, 1) := dgq (p := 17) daL_law_1853 dbL_law_1853.2.2.2.2.2.2.2.2.2.2.2.2.1
theorem dL_law_1871 : decode cL_law 1871 = .ok (.invokevirtual 337, 3) := dgq (p := 18) daL_law_1853 dbL_law_1853.2.2.2.2.2.2.2.2.2.2.2.2.2.1
theorem dL_law_1874 : decode cL_law 1874 = .ok (.istore 7, 2) := dgq (p := 21) daL_law_1853 dbL_law_1853.2.2.2.2.2.2.2.2.2.2.2.2.2.2.1
theorem dL_law_1876 : decode cL_law 1876 = .ok (.goto 1055, 3) := dgq (p := 23) daL_law_1853 dbL_law_1853.2.2.2.2.2.2.2.2.2.2.2.2.2.2.2.1
theorem dL_law_1879 : decode cL_law 1879 = .ok (.aload_n 1, 1) := dgq (p := 26) daL_law_1853 dbL_law_1853.2.2.2.2.2.2.2.2.2.2.2.2.2.2.2.2.1
theorem dL_law_1880 : decode cL_law 1880 = .ok (.aload_n 0, 1) := dgq (p := 27) daL_law_1853 dbL_law_1853.2.2.2.2.2.2.2.2.2.2.2.2.2.2.2.2.2.1
theorem dL_law_1881 : decode cL_law 1881 = .ok (.iload 5, 2) := dgq (p := 28) daL_law_1853 dbL_law_1853.2.2.2.2.2.2.2.2.2.2.2.2.2.2.2.2.2.2.1
theorem dL_law_1883 : decode cL_law 1883 = .ok (.iconst 1, 1) := dgq (p := 30) daL_law_1853 dbL_law_1853.2.2.2.2.2.2.2.2.2.2.2.2.2.2.2.2.2.2.2.1
theorem dL_law_1884 : decode cL_law 1884 = .ok (.iadd, 1) := dgq (p := 31) daL_law_1853 dbL_law_1853.2.2.2.2.2.2.2.2.2.2.2.2.2.2.2.2.2.2.2.2.1
theorem dL_law_1885 : decode cL_law 1885 = .ok (.iaload, 1) := dgq (p := 32) daL_law_1853 dbL_law_1853.2.2.2.2.2.2.2.2.2.2.2.2.2.2.2.2.2.2.2.2.2.1
theorem dL_law_1886 : decode cL_law 1886 = .ok (.aload_n 3, 1) := dgq (p := 33) daL_law_1853 dbL_law_1853.2.2.2.2.2.2.2.2.2.2.2.2.2.2.2.2.2.2.2.2.2.2.1
theorem dL_law_1887 : decode cL_law 1887 = .ok (.invokestatic 338, 3) := dgq (p := 34) daL_law_1853 dbL_law_1853.2.2.2.2.2.2.2.2.2.2.2.2.2.2.2.2.2.2.2.2.2.2.2
def dsL_law_1890 : ByteArray := ⟨#[54, 6, 44, 42, 21, 5, 4, 96, 46, 182, 1, 84, 54, 7, 167, 4, 3, 43, 42, 21, 5, 4, 96, 46, 42, 21, 5, 5, 96, 46, 42, 21, 5, 6]⟩
theorem daL_law_1890 : agB cL_law dsL_law_1890 1890 := agB_of (n := 34) (by decide +kernel)
theorem dbL_law_1890 : (decode dsL_law_1890 0 = .ok (.istore 6, 2) ∧ okop dsL_law_1890 0 = true) ∧ (decode dsL_law_1890 2 = .ok (.aload_n 2, 1) ∧ okop dsL_law_1890 2 = true) ∧ (decode dsL_law_1890 3 = .ok (.aload_n 0, 1) ∧ okop dsL_law_1890 3 = true) ∧ (decode dsL_law_1890 4 = .ok (.iload 5, 2) ∧ okop dsL_law_1890 4 = true) ∧ (decode dsL_law_1890 6 = .ok (.iconst 1, 1) ∧ okop dsL_law_1890 6 = true) ∧ (decode dsL_law_1890 7 = .ok (.iadd, 1) ∧ okop dsL_law_1890 7 = true) ∧ (decode dsL_law_1890 8 = .ok (.iaload, 1) ∧ okop dsL_law_1890 8 = true) ∧ (decode dsL_law_1890 9 = .ok (.invokevirtual 340, 3) ∧ okop dsL_law_1890 9 = true) ∧ (decode dsL_law_1890 12 = .ok (.istore 7, 2) ∧ okop dsL_law_1890 12 = true) ∧ (decode dsL_law_1890 14 = .ok (.goto 1027, 3) ∧ okop dsL_law_1890 14 = true) ∧ (decode dsL_law_1890 17 = .ok (.aload_n 1, 1) ∧ okop dsL_law_1890 17 = true) ∧ (decode dsL_law_1890 18 = .ok (.aload_n 0, 1) ∧ okop dsL_law_1890 18 = true) ∧ (decode dsL_law_1890 19 = .ok (.iload 5, 2) ∧ okop dsL_law_1890 19 = true) ∧ (decode dsL_law_1890 21 = .ok (.iconst 1, 1) ∧ okop dsL_law_1890 21 = true) ∧ (decode dsL_law_1890 22 = .ok (.iadd, 1) ∧ okop dsL_law_1890 22 = true) ∧ (decode dsL_law_1890 23 = .ok (.iaload, 1) ∧ okop dsL_law_1890 23 = true) ∧ (decode dsL_law_1890 24 = .ok (.aload_n 0, 1) ∧ okop dsL_law_1890 24 = true) ∧ (decode dsL_law_1890 25 = .ok (.iload 5, 2) ∧ okop dsL_law_1890 25 = true) ∧ (decode dsL_law_1890 27 = .ok (.iconst 2, 1) ∧ okop dsL_law_1890 27 = true) ∧ (decode dsL_law_1890 28 = .ok (.iadd, 1) ∧ okop dsL_law_1890 28 = true) ∧ (decode dsL_law_1890 29 = .ok (.iaload, 1) ∧ okop dsL_law_1890 29 = true) ∧ (decode dsL_law_1890 30 = .ok (.aload_n 0, 1) ∧ okop dsL_law_1890 30 = true) ∧ (decode dsL_law_1890 31 = .ok (.iload 5, 2) ∧ okop dsL_law_1890 31 = true) ∧ (decode dsL_law_1890 33 = .ok (.iconst 3, 1) ∧ okop dsL_law_1890 33 = true) := by decide +kernel
theorem dL_law_1890 : decode cL_law 1890 = .ok (.istore 6, 2) := dgq (p := 0) daL_law_1890 dbL_law_1890.1
theorem dL_law_1892 : decode cL_law 1892 = .ok (.aload_n 2, 1) := dgq (p := 2) daL_law_1890 dbL_law_1890.2.1
theorem dL_law_1893 : decode cL_law 1893 = .ok (.aload_n 0, 1) := dgq (p := 3) daL_law_1890 dbL_law_1890.2.2.1
theorem dL_law_1894 : decode cL_law 1894 = .ok (.iload 5, 2) := dgq (p := 4) daL_law_1890 dbL_law_1890.2.2.2.1
theorem dL_law_1896 : decode cL_law 1896 = .ok (.iconst 1, 1) := dgq (p := 6) daL_law_1890 dbL_law_1890.2.2.2.2.1
theorem dL_law_1897 : decode cL_law 1897 = .ok (.iadd, 1) := dgq (p := 7) daL_law_1890 dbL_law_1890.2.2.2.2.2.1
theorem dL_law_1898 : decode cL_law 1898 = .ok (.iaload, 1) := dgq (p := 8) daL_law_1890 dbL_law_1890.2.2.2.2.2.2.1
theorem dL_law_1899 : decode cL_law 1899 = .ok (.invokevirtual 340, 3) := dgq (p := 9) daL_law_1890 dbL_law_1890.2.2.2.2.2.2.2.1
theorem dL_law_1902 : decode cL_law 1902 = .ok (.istore 7, 2) := dgq (p := 12) daL_law_1890 dbL_law_1890.2.2.2.2.2.2.2.2.1
theorem dL_law_1904 : decode cL_law 1904 = .ok (.goto 1027, 3) := dgq (p := 14) daL_law_1890 dbL_law_1890.2.2.2.2.2.2.2.2.2.1
theorem dL_law_1907 : decode cL_law 1907 = .ok (.aload_n 1, 1) := dgq (p := 17) daL_law_1890 dbL_law_1890.2.2.2.2.2.2.2.2.2.2.1
theorem dL_law_1908 : decode cL_law 1908 = .ok (.aload_n 0, 1) := dgq (p := 18) daL_law_1890 dbL_law_1890.2.2.2.2.2.2.2.2.2.2.2.1
theorem dL_law_1909 : decode cL_law 1909 = .ok (.iload 5, 2) := dgq (p := 19) daL_law_1890 dbL_law_1890.2.2.2.2.2.2.2.2.2.2.2.2.1
theorem dL_law_1911 : decode cL_law 1911 = .ok (.iconst 1, 1) := dgq (p := 21) daL_law_1890 dbL_law_1890.2.2.2.2.2.2.2.2.2.2.2.2.2.1
theorem dL_law_1912 : decode cL_law 1912 = .ok (.iadd, 1) := dgq (p := 22) daL_law_1890 dbL_law_1890.2.2.2.2.2.2.2.2.2.2.2.2.2.2.1
theorem dL_law_1913 : decode cL_law 1913 = .ok (.iaload, 1) := dgq (p := 23) daL_law_1890 dbL_law_1890.2.2.2.2.2.2.2.2.2.2.2.2.2.2.2.1
theorem dL_law_1914 : decode cL_law 1914 = .ok (.aload_n 0, 1) := dgq (p := 24) daL_law_1890 dbL_law_1890.2.2.2.2.2.2.2.2.2.2.2.2.2.2.2.2.1
theorem dL_law_1915 : decode cL_law 1915 = .ok (.iload 5, 2) := dgq (p := 25) daL_law_1890 dbL_law_1890.2.2.2.2.2.2.2.2.2.2.2.2.2.2.2.2.2.1
theorem dL_law_1917 : decode cL_law 1917 = .ok (.iconst 2, 1) := dgq (p := 27) daL_law_1890 dbL_law_1890.2.2.2.2.2.2.2.2.2.2.2.2.2.2.2.2.2.2.1
theorem dL_law_1918 : decode cL_law 1918 = .ok (.iadd, 1) := dgq (p := 28) daL_law_1890 dbL_law_1890.2.2.2.2.2.2.2.2.2.2.2.2.2.2.2.2.2.2.2.1
theorem dL_law_1919 : decode cL_law 1919 = .ok (.iaload, 1) := dgq (p := 29) daL_law_1890 dbL_law_1890.2.2.2.2.2.2.2.2.2.2.2.2.2.2.2.2.2.2.2.2.1
theorem dL_law_1920 : decode cL_law 1920 = .ok (.aload_n 0, 1) := dgq (p := 30) daL_law_1890 dbL_law_1890.2.2.2.2.2.2.2.2.2.2.2.2.2.2.2.2.2.2.2.2.2.1
theorem dL_law_1921 : decode cL_law 1921 = .ok (.iload 5, 2) := dgq (p := 31) daL_law_1890 dbL_law_1890.2.2.2.2.2.2.2.2.2.2.2.2.2.2.2.2.2.2.2.2.2.2.1
theorem dL_law_1923 : decode cL_law 1923 = .ok (.iconst 3, 1) := dgq (p := 33) daL_law_1890 dbL_law_1890.2.2.2.2.2.2.2.2.2.2.2.2.2.2.2.2.2.2.2.2.2.2.2
def dsL_law_1924 : ByteArray := ⟨#[96, 46, 45, 184, 1, 85, 54, 6, 44, 42, 21, 5, 4, 96, 46, 42]⟩
theorem daL_law_1924 : agB cL_law dsL_law_1924 1924 := agB_of (n := 16) (by decide +kernel)
theorem dbL_law_1924 : (decode dsL_law_1924 0 = .ok (.iadd, 1) ∧ okop dsL_law_1924 0 = true) ∧ (decode dsL_law_1924 1 = .ok (.iaload, 1) ∧ okop dsL_law_1924 1 = true) ∧ (decode dsL_law_1924 2 = .ok (.aload_n 3, 1) ∧ okop dsL_law_1924 2 = true) ∧ (decode dsL_law_1924 3 = .ok (.invokestatic 341, 3) ∧ okop dsL_law_1924 3 = true) ∧ (decode dsL_law_1924 6 = .ok (.istore 6, 2) ∧ okop dsL_law_1924 6 = true) ∧ (decode dsL_law_1924 8 = .ok (.aload_n 2, 1) ∧ okop dsL_law_1924 8 = true) ∧ (decode dsL_law_1924 9 = .ok (.aload_n 0, 1) ∧ okop dsL_law_1924 9 = true) ∧ (decode dsL_law_1924 10 = .ok (.iload 5, 2) ∧ okop dsL_law_1924 10 = true) ∧ (decode dsL_law_1924 12 = .ok (.iconst 1, 1) ∧ okop dsL_law_1924 12 = true) ∧ (decode dsL_law_1924 13 = .ok (.iadd, 1) ∧ okop dsL_law_1924 13 = true) ∧ (decode dsL_law_1924 14 = .ok (.iaload, 1) ∧ okop dsL_law_1924 14 = true) ∧ (decode dsL_law_1924 15 = .ok (.aload_n 0, 1) ∧ okop dsL_law_1924 15 = true) := by decide +kernel
theorem dL_law_1924 : decode cL_law 1924 = .ok (.iadd, 1) := dgq (p := 0) daL_law_1924 dbL_law_1924.1
theorem dL_law_1925 : decode cL_law 1925 = .ok (.iaload, 1) := dgq (p := 1) daL_law_1924 dbL_law_1924.2.1
theorem dL_law_1926 : decode cL_law 1926 = .ok (.aload_n 3, 1) := dgq (p := 2) daL_law_1924 dbL_law_1924.2.2.1
theorem dL_law_1927 : decode cL_law 1927 = .ok (.invokestatic 341, 3) := dgq (p := 3) daL_law_1924 dbL_law_1924.2.2.2.1
theorem dL_law_1930 : decode cL_law 1930 = .ok (.istore 6, 2) := dgq (p := 6) daL_law_1924 dbL_law_1924.2.2.2.2.1
theorem dL_law_1932 : decode cL_law 1932 = .ok (.aload_n 2, 1) := dgq (p := 8) daL_law_1924 dbL_law_1924.2.2.2.2.2.1
theorem dL_law_1933 : decode cL_law 1933 = .ok (.aload_n 0, 1) := dgq (p := 9) daL_law_1924 dbL_law_1924.2.2.2.2.2.2.1
theorem dL_law_1934 : decode cL_law 1934 = .ok (.iload 5, 2) := dgq (p := 10) daL_law_1924 dbL_law_1924.2.2.2.2.2.2.2.1
theorem dL_law_1936 : decode cL_law 1936 = .ok (.iconst 1, 1) := dgq (p := 12) daL_law_1924 dbL_law_1924.2.2.2.2.2.2.2.2.1
theorem dL_law_1937 : decode cL_law 1937 = .ok (.iadd, 1) := dgq (p := 13) daL_law_1924 dbL_law_1924.2.2.2.2.2.2.2.2.2.1
theorem dL_law_1938 : decode cL_law 1938 = .ok (.iaload, 1) := dgq (p := 14) daL_law_1924 dbL_law_1924.2.2.2.2.2.2.2.2.2.2.1
theorem dL_law_1939 : decode cL_law 1939 = .ok (.aload_n 0, 1) := dgq (p := 15) daL_law_1924 dbL_law_1924.2.2.2.2.2.2.2.2.2.2.2

