def dsL_law_684 : ByteArray := ⟨#[42, 21, 5, 4, 96, 46, 42, 21, 5, 5, 96, 46, 182, 1, 7, 55, 7, 167, 8, 175, 43, 42, 21, 5, 4, 96, 46, 42, 21, 5, 5, 96, 46, 45, 184, 1, 8, 54, 6, 44, 42, 21, 5, 4, 96, 46, 42, 21, 5, 5, 96, 46, 182, 1, 10, 54, 7, 167, 8, 135, 43, 42, 21, 5, 4, 96, 46, 42, 21, 5, 5, 96, 46, 45, 184, 1, 11, 54, 6, 44, 42, 21, 5, 4, 96, 46, 42, 21, 5, 5, 96, 46, 182, 1, 13, 55, 7, 167, 8, 95, 43, 42, 21, 5, 4, 96, 46, 42, 21, 5, 5, 96, 46]⟩
theorem daL_law_684 : agB cL_law dsL_law_684 684 := agB_of (n := 113) (by decide +kernel)
def dlL_law_684 : List (Nat × Instr × Nat) := [(0, .aload_n 0, 1), (1, .iload 5, 2), (3, .iconst 1, 1), (4, .iadd, 1), (5, .iaload, 1), (6, .aload_n 0, 1), (7, .iload 5, 2), (9, .iconst 2, 1), (10, .iadd, 1), (11, .iaload, 1), (12, .invokevirtual 263, 3), (15, .lstore 7, 2), (17, .goto 2223, 3), (20, .aload_n 1, 1), (21, .aload_n 0, 1), (22, .iload 5, 2), (24, .iconst 1, 1), (25, .iadd, 1), (26, .iaload, 1), (27, .aload_n 0, 1), (28, .iload 5, 2), (30, .iconst 2, 1), (31, .iadd, 1), (32, .iaload, 1), (33, .aload_n 3, 1), (34, .invokestatic 264, 3), (37, .istore 6, 2), (39, .aload_n 2, 1), (40, .aload_n 0, 1), (41, .iload 5, 2), (43, .iconst 1, 1), (44, .iadd, 1), (45, .iaload, 1), (46, .aload_n 0, 1), (47, .iload 5, 2), (49, .iconst 2, 1), (50, .iadd, 1), (51, .iaload, 1), (52, .invokevirtual 266, 3), (55, .istore 7, 2), (57, .goto 2183, 3), (60, .aload_n 1, 1), (61, .aload_n 0, 1), (62, .iload 5, 2), (64, .iconst 1, 1), (65, .iadd, 1), (66, .iaload, 1), (67, .aload_n 0, 1), (68, .iload 5, 2), (70, .iconst 2, 1), (71, .iadd, 1), (72, .iaload, 1), (73, .aload_n 3, 1), (74, .invokestatic 267, 3), (77, .istore 6, 2), (79, .aload_n 2, 1), (80, .aload_n 0, 1), (81, .iload 5, 2), (83, .iconst 1, 1), (84, .iadd, 1), (85, .iaload, 1), (86, .aload_n 0, 1), (87, .iload 5, 2), (89, .iconst 2, 1), (90, .iadd, 1), (91, .iaload, 1), (92, .invokevirtual 269, 3), (95, .lstore 7, 2), (97, .goto 2143, 3), (100, .aload_n 1, 1), (101, .aload_n 0, 1), (102, .iload 5, 2), (104, .iconst 1, 1), (105, .iadd, 1), (106, .iaload, 1), (107, .aload_n 0, 1), (108, .iload 5, 2), (110, .iconst 2, 1), (111, .iadd, 1), (112, .iaload, 1)]
theorem dbL_law_684 : ∀ z ∈ dlL_law_684, decode dsL_law_684 z.1 = Except.ok z.2 ∧ okop dsL_law_684 z.1 = true := by decide +kernel
theorem dL_law_684 : decode cL_law 684 = .ok (.aload_n 0, 1) := dgs daL_law_684 dbL_law_684 0 0 rfl
theorem dL_law_685 : decode cL_law 685 = .ok (.iload 5, 2) := dgs daL_law_684 dbL_law_684 1 1 rfl
theorem dL_law_687 : decode cL_law 687 = .ok (.iconst 1, 1) := dgs daL_law_684 dbL_law_684 2 3 rfl
theorem dL_law_688 : decode cL_law 688 = .ok (.iadd, 1) := dgs daL_law_684 dbL_law_684 3 4 rfl
theorem dL_law_689 : decode cL_law 689 = .ok (.iaload, 1) := dgs daL_law_684 dbL_law_684 4 5 rfl
theorem dL_law_690 : decode cL_law 690 = .ok (.aload_n 0, 1) := dgs daL_law_684 dbL_law_684 5 6 rfl
theorem dL_law_691 : decode cL_law 691 = .ok (.iload 5, 2) := dgs daL_law_684 dbL_law_684 6 7 rfl
theorem dL_law_693 : decode cL_law 693 = .ok (.iconst 2, 1) := dgs daL_law_684 dbL_law_684 7 9 rfl
theorem dL_law_694 : decode cL_law 694 = .ok (.iadd, 1) := dgs daL_law_684 dbL_law_684 8 10 rfl
theorem dL_law_695 : decode cL_law 695 = .ok (.iaload, 1) := dgs daL_law_684 dbL_law_684 9 11 rfl
theorem dL_law_696 : decode cL_law 696 = .ok (.invokevirtual 263, 3) := dgs daL_law_684 dbL_law_684 10 12 rfl
theorem dL_law_699 : decode cL_law 699 = .ok (.lstore 7, 2) := dgs daL_law_684 dbL_law_684 11 15 rfl
theorem dL_law_701 : decode cL_law 701 = .ok (.goto 2223, 3) := dgs daL_law_684 dbL_law_684 12 17 rfl
theorem dL_law_704 : decode cL_law 704 = .ok (.aload_n 1, 1) := dgs daL_law_684 dbL_law_684 13 20 rfl
theorem dL_law_705 : decode cL_law 705 = .ok (.aload_n 0, 1) := dgs daL_law_684 dbL_law_684 14 21 rfl
theorem dL_law_706 : decode cL_law 706 = .ok (.iload 5, 2) := dgs daL_law_684 dbL_law_684 15 22 rfl
theorem dL_law_708 : decode cL_law 708 = .ok (.iconst 1, 1) := dgs daL_law_684 dbL_law_684 16 24 rfl
theorem dL_law_709 : decode cL_law 709 = .ok (.iadd, 1) := dgs daL_law_684 dbL_law_684 17 25 rfl
theorem dL_law_710 : decode cL_law 710 = .ok (.iaload, 1) := dgs daL_law_684 dbL_law_684 18 26 rfl
theorem dL_law_711 : decode cL_law 711 = .ok (.aload_n 0, 1) := dgs daL_law_684 dbL_law_684 19 27 rfl
theorem dL_law_712 : decode cL_law 712 = .ok (.iload 5, 2) := dgs daL_law_684 dbL_law_684 20 28 rfl
theorem dL_law_714 : decode cL_law 714 = .ok (.iconst 2, 1) := dgs daL_law_684 dbL_law_684 21 30 rfl
theorem dL_law_715 : decode cL_law 715 = .ok (.iadd, 1) := dgs daL_law_684 dbL_law_684 22 31 rfl
theorem dL_law_716 : decode cL_law 716 = .ok (.iaload, 1) := dgs daL_law_684 dbL_law_684 23 32 rfl
theorem dL_law_717 : decode cL_law 717 = .ok (.aload_n 3, 1) := dgs daL_law_684 dbL_law_684 24 33 rfl
theorem dL_law_718 : decode cL_law 718 = .ok (.invokestatic 264, 3) := dgs daL_law_684 dbL_law_684 25 34 rfl
theorem dL_law_721 : decode cL_law 721 = .ok (.istore 6, 2) := dgs daL_law_684 dbL_law_684 26 37 rfl
theorem dL_law_723 : decode cL_law 723 = .ok (.aload_n 2, 1) := dgs daL_law_684 dbL_law_684 27 39 rfl
theorem dL_law_724 : decode cL_law 724 = .ok (.aload_n 0, 1) := dgs daL_law_684 dbL_law_684 28 40 rfl
theorem dL_law_725 : decode cL_law 725 = .ok (.iload 5, 2) := dgs daL_law_684 dbL_law_684 29 41 rfl
theorem dL_law_727 : decode cL_law 727 = .ok (.iconst 1, 1) := dgs daL_law_684 dbL_law_684 30 43 rfl
theorem dL_law_728 : decode cL_law 728 = .ok (.iadd, 1) := dgs daL_law_684 dbL_law_684 31 44 rfl
theorem dL_law_729 : decode cL_law 729 = .ok (.iaload, 1) := dgs daL_law_684 dbL_law_684 32 45 rfl
theorem dL_law_730 : decode cL_law 730 = .ok (.aload_n 0, 1) := dgs daL_law_684 dbL_law_684 33 46 rfl
theorem dL_law_731 : decode cL_law 731 = .ok (.iload 5, 2) := dgs daL_law_684 dbL_law_684 34 47 rfl
theorem dL_law_733 : decode cL_law 733 = .ok (.iconst 2, 1) := dgs daL_law_684 dbL_law_684 35 49 rfl
theorem dL_law_734 : decode cL_law 734 = .ok (.iadd, 1) := dgs daL_law_684 dbL_law_684 36 50 rfl
theorem dL_law_735 : decode cL_law 735 = .ok (.iaload, 1) := dgs daL_law_684 dbL_law_684 37 51 rfl
theorem dL_law_736 : decode cL_law 736 = .ok (.invokevirtual 266, 3) := dgs daL_law_684 dbL_law_684 38 52 rfl
theorem dL_law_739 : decode cL_law 739 = .ok (.istore 7, 2) := dgs daL_law_684 dbL_law_684 39 55 rfl
theorem dL_law_741 : decode cL_law 741 = .ok (.goto 2183, 3) := dgs daL_law_684 dbL_law_684 40 57 rfl
theorem dL_law_744 : decode cL_law 744 = .ok (.aload_n 1, 1) := dgs daL_law_684 dbL_law_684 41 60 rfl
theorem dL_law_745 : decode cL_law 745 = .ok (.aload_n 0, 1) := dgs daL_law_684 dbL_law_684 42 61 rfl
theorem dL_law_746 : decode cL_law 746 = .ok (.iload 5, 2) := dgs daL_law_684 dbL_law_684 43 62 rfl
theorem dL_law_748 : decode cL_law 748 = .ok (.iconst 1, 1) := dgs daL_law_684 dbL_law_684 44 64 rfl
theorem dL_law_749 : decode cL_law 749 = .ok (.iadd, 1) := dgs daL_law_684 dbL_law_684 45 65 rfl
theorem dL_law_750 : decode cL_law 750 = .ok (.iaload, 1) := dgs daL_law_684 dbL_law_684 46 66 rfl
theorem dL_law_751 : decode cL_law 751 = .ok (.aload_n 0, 1) := dgs daL_law_684 dbL_law_684 47 67 rfl
theorem dL_law_752 : decode cL_law 752 = .ok (.iload 5, 2) := dgs daL_law_684 dbL_law_684 48 68 rfl
theorem dL_law_754 : decode cL_law 754 = .ok (.iconst 2, 1) := dgs daL_law_684 dbL_law_684 49 70 rfl
theorem dL_law_755 : decode cL_law 755 = .ok (.iadd, 1) := dgs daL_law_684 dbL_law_684 50 71 rfl
theorem dL_law_756 : decode cL_law 756 = .ok (.iaload, 1) := dgs daL_law_684 dbL_law_684 51 72 rfl
theorem dL_law_757 : decode cL_law 757 = .ok (.aload_n 3, 1) := dgs daL_law_684 dbL_law_684 52 73 rfl
theorem dL_law_758 : decode cL_law 758 = .ok (.invokestatic 267, 3) := dgs daL_law_684 dbL_law_684 53 74 rfl
theorem dL_law_761 : decode cL_law 761 = .ok (.istore 6, 2) := dgs daL_law_684 dbL_law_684 54 77 rfl
theorem dL_law_763 : decode cL_law 763 = .ok (.aload_n 2, 1) := dgs daL_law_684 dbL_law_684 55 79 rfl
theorem dL_law_764 : decode cL_law 764 = .ok (.aload_n 0, 1) := dgs daL_law_684 dbL_law_684 56 80 rfl
theorem dL_law_765 : decode cL_law 765 = .ok (.iload 5, 2) := dgs daL_law_684 dbL_law_684 57 81 rfl
theorem dL_law_767 : decode cL_law 767 = .ok (.iconst 1, 1) := dgs daL_law_684 dbL_law_684 58 83 rfl
theorem dL_law_768 : decode cL_law 768 = .ok (.iadd, 1) := dgs daL_law_684 dbL_law_684 59 84 rfl
theorem dL_law_769 : decode cL_law 769 = .ok (.iaload, 1) := dgs daL_law_684 dbL_law_684 60 85 rfl
theorem dL_law_770 : decode cL_law 770 = .ok (.aload_n 0, 1) := dgs daL_law_684 dbL_law_684 61 86 rfl
theorem dL_law_771 : decode cL_law 771 = .ok (.iload 5, 2) := dgs daL_law_684 dbL_law_684 62 87 rfl
theorem dL_law_773 : decode cL_law 773 = .ok (.iconst 2, 1) := dgs daL_law_684 dbL_law_684 63 89 rfl
theorem dL_law_774 : decode cL_law 774 = .ok (.iadd, 1) := dgs daL_law_684 dbL_law_684 64 90 rfl
theorem dL_law_775 : decode cL_law 775 = .ok (.iaload, 1) := dgs daL_law_684 dbL_law_684 65 91 rfl
theorem dL_law_776 : decode cL_law 776 = .ok (.invokevirtual 269, 3) := dgs daL_law_684 dbL_law_684 66 92 rfl
theorem dL_law_779 : decode cL_law 779 = .ok (.lstore 7, 2) := dgs daL_law_684 dbL_law_684 67 95 rfl
theorem dL_law_781 : decode cL_law 781 = .ok (.goto 2143, 3) := dgs daL_law_684 dbL_law_684 68 97 rfl
theorem dL_law_784 : decode cL_law 784 = .ok (.aload_n 1, 1) := dgs daL_law_684 dbL_law_684 69 100 rfl
theorem dL_law_785 : decode cL_law 785 = .ok (.aload_n 0, 1) := dgs daL_law_684 dbL_law_684 70 101 rfl
theorem dL_law_786 : decode cL_law 786 = .ok (.iload 5, 2) := dgs daL_law_684 dbL_law_684 71 102 rfl
theorem dL_law_788 : decode cL_law 788 = .ok (.iconst 1, 1) := dgs daL_law_684 dbL_law_684 72 104 rfl
theorem dL_law_789 : decode cL_law 789 = .ok (.iadd, 1) := dgs daL_law_684 dbL_law_684 73 105 rfl
theorem dL_law_790 : decode cL_law 790 = .ok (.iaload, 1) := dgs daL_law_684 dbL_law_684 74 106 rfl
theorem dL_law_791 : decode cL_law 791 = .ok (.aload_n 0, 1) := dgs daL_law_684 dbL_law_684 75 107 rfl
theorem dL_law_792 : decode cL_law 792 = .ok (.iload 5, 2) := dgs daL_law_684 dbL_law_684 76 108 rfl
theorem dL_law_794 : decode cL_law 794 = .ok (.iconst 2, 1) := dgs daL_law_684 dbL_law_684 77 110 rfl
theorem dL_law_795 : decode cL_law 795 = .ok (.iadd, 1) := dgs daL_law_684 dbL_law_684 78 111 rfl
theorem dL_law_796 : decode cL_law 796 = .ok (.iaload, 1) := dgs daL_law_684 dbL_law_684 79 112 rfl
def dsL_law_797 : ByteArray := ⟨#[45, 184, 1, 14, 54, 6, 44, 42, 21, 5, 4, 96, 46, 42, 21, 5, 5, 96, 46, 182, 1, 16, 54, 7, 167, 8, 55, 43, 42, 21, 5, 4, 96, 46, 42, 21, 5, 5, 96, 46, 42, 21, 5, 6, 96, 46, 42, 21, 5, 7, 96, 46, 45, 184, 1, 17, 54, 6, 44, 42, 21, 5, 4, 96, 46, 42, 21, 5, 5, 96, 46, 42, 21, 5, 6, 96, 46, 42, 21, 5, 7, 96, 46, 182, 1, 19, 54, 7, 167, 7, 247, 43, 42, 21, 5, 4, 96, 46, 42, 21, 5, 5, 96, 46, 42, 21, 5, 6, 96]⟩
theorem daL_law_797 : agB cL_law dsL_law_797 797 := agB_of (n := 109) (by decide +kernel)
def dlL_law_797 : List (Nat × Instr × Nat) := [(0, .aload_n 3, 1), (1, .invokestatic 270, 3), (4, .istore 6, 2), (6, .aload_n 2, 1), (7, .aload_n 0, 1), (8, .iload 5, 2), (10, .iconst 1, 1), (11, .iadd, 1), (12, .iaload, 1), (13, .aload_n 0, 1), (14, .iload 5, 2), (16, .iconst 2, 1), (17, .iadd, 1), (18, .iaload, 1), (19, .invokevirtual 272, 3), (22, .istore 7, 2), (24, .goto 2103, 3), (27, .aload_n 1, 1), (28, .aload_n 0, 1), (29, .iload 5, 2), (31, .iconst 1, 1), (32, .iadd, 1), (33, .iaload, 1), (34, .aload_n 0, 1), (35, .iload 5, 2), (37, .iconst 2, 1), (38, .iadd, 1), (39, .iaload, 1), (40, .aload_n 0, 1), (41, .iload 5, 2), (43, .iconst 3, 1), (44, .iadd, 1), (45, .iaload, 1), (46, .aload_n 0, 1), (47, .iload 5, 2), (49, .iconst 4, 1), (50, .iadd, 1), (51, .iaload, 1), (52, .aload_n 3, 1), (53, .invokestatic 273, 3), (56, .istore 6, 2), (58, .aload_n 2, 1), (59, .aload_n 0, 1), (60, .iload 5, 2), (62, .iconst 1, 1), (63, .iadd, 1), (64, .iaload, 1), (65, .aload_n 0, 1), (66, .iload 5, 2), (68, .iconst 2, 1), (69, .iadd, 1), (70, .iaload, 1), (71, .aload_n 0, 1), (72, .iload 5, 2), (74, .iconst 3, 1), (75, .iadd, 1), (76, .iaload, 1), (77, .aload_n 0, 1), (78, .iload 5, 2), (80, .iconst 4, 1), (81, .iadd, 1), (82, .iaload, 1), (83, .invokevirtual 275, 3), (86, .istore 7, 2), (88, .goto 2039, 3), (91, .aload_n 1, 1), (92, .aload_n 0, 1), (93, .iload 5, 2), (95, .iconst 1, 1), (96, .iadd, 1), (97, .iaload, 1), (98, .aload_n 0, 1), (99, .iload 5, 2), (101, .iconst 2, 1), (102, .iadd, 1), (103, .iaload, 1), (104, .aload_n 0, 1), (105, .iload 5, 2), (107, .iconst 3, 1), (108, .iadd, 1)]
theorem dbL_law_797 : ∀ z ∈ dlL_law_797, decode dsL_law_797 z.1 = Except.ok z.2 ∧ okop dsL_law_797 z.1 = true := by decide +kernel
theorem dL_law_797 : decode cL_law 797 = .ok (.aload_n 3, 1) := dgs daL_law_797 dbL_law_797 0 0 rfl
theorem dL_law_798 : decode cL_law 798 = .ok (.invokestatic 270, 3) := dgs daL_law_797 dbL_law_797 1 1 rfl
theorem dL_law_801 : decode cL_law 801 = .ok (.istore 6, 2) := dgs daL_law_797 dbL_law_797 2 4 rfl
theorem dL_law_803 : decode cL_law 803 = .ok (.aload_n 2, 1) := dgs daL_law_797 dbL_law_797 3 6 rfl
theorem dL_law_804 : decode cL_law 804 = .ok (.aload_n 0, 1) := dgs daL_law_797 dbL_law_797 4 7 rfl
theorem dL_law_805 : decode cL_law 805 = .ok (.iload 5, 2) := dgs daL_law_797 dbL_law_797 5 8 rfl
theorem dL_law_807 : decode cL_law 807 = .ok (.iconst 1, 1) := dgs daL_law_797 dbL_law_797 6 10 rfl
theorem dL_law_808 : decode cL_law 808 = .ok (.iadd, 1) := dgs daL_law_797 dbL_law_797 7 11 rfl
theorem dL_law_809 : decode cL_law 809 = .ok (.iaload, 1) := dgs daL_law_797 dbL_law_797 8 12 rfl
theorem dL_law_810 : decode cL_law 810 = .ok (.aload_n 0, 1) := dgs daL_law_797 dbL_law_797 9 13 rfl
theorem dL_law_811 : decode cL_law 811 = .ok (.iload 5, 2) := dgs daL_law_797 dbL_law_797 10 14 rfl
theorem dL_law_813 : decode cL_law 813 = .ok (.iconst 2, 1) := dgs daL_law_797 dbL_law_797 11 16 rfl
theorem dL_law_814 : decode cL_law 814 = .ok (.iadd, 1) := dgs daL_law_797 dbL_law_797 12 17 rfl
theorem dL_law_815 : decode cL_law 815 = .ok (.iaload, 1) := dgs daL_law_797 dbL_law_797 13 18 rfl
theorem dL_law_816 : decode cL_law 816 = .ok (.invokevirtual 272, 3) := dgs daL_law_797 dbL_law_797 14 19 rfl
theorem dL_law_819 : decode cL_law 819 = .ok (.istore 7, 2) := dgs daL_law_797 dbL_law_797 15 22 rfl
theorem dL_law_821 : decode cL_law 821 = .ok (.goto 2103, 3) := dgs daL_law_797 dbL_law_797 16 24 rfl
theorem dL_law_824 : decode cL_law 824 = .ok (.aload_n 1, 1) := dgs daL_law_797 dbL_law_797 17 27 rfl
theorem dL_law_825 : decode cL_law 825 = .ok (.aload_n 0, 1) := dgs daL_law_797 dbL_law_797 18 28 rfl
theorem dL_law_826 : decode cL_law 826 = .ok (.iload 5, 2) := dgs daL_law_797 dbL_law_797 19 29 rfl
theorem dL_law_828 : decode cL_law 828 = .ok (.iconst 1, 1) := dgs daL_law_797 dbL_law_797 20 31 rfl
theorem dL_law_829 : decode cL_law 829 = .ok (.iadd, 1) := dgs daL_law_797 dbL_law_797 21 32 rfl
theorem dL_law_830 : decode cL_law 830 = .ok (.iaload, 1) := dgs daL_law_797 dbL_law_797 22 33 rfl
theorem dL_law_831 : decode cL_law 831 = .ok (.aload_n 0, 1) := dgs daL_law_797 dbL_law_797 23 34 rfl
theorem dL_law_832 : decode cL_law 832 = .ok (.iload 5, 2) := dgs daL_law_797 dbL_law_797 24 35 rfl
theorem dL_law_834 : decode cL_law 834 = .ok (.iconst 2, 1) := dgs daL_law_797 dbL_law_797 25 37 rfl
theorem dL_law_835 : decode cL_law 835 = .ok (.iadd, 1) := dgs daL_law_797 dbL_law_797 26 38 rfl
theorem dL_law_836 : decode cL_law 836 = .ok (.iaload, 1) := dgs daL_law_797 dbL_law_797 27 39 rfl
theorem dL_law_837 : decode cL_law 837 = .ok (.aload_n 0, 1) := dgs daL_law_797 dbL_law_797 28 40 rfl
theorem dL_law_838 : decode cL_law 838 = .ok (.iload 5, 2) := dgs daL_law_797 dbL_law_797 29 41 rfl
theorem dL_law_840 : decode cL_law 840 = .ok (.iconst 3, 1) := dgs daL_law_797 dbL_law_797 30 43 rfl
theorem dL_law_841 : decode cL_law 841 = .ok (.iadd, 1) := dgs daL_law_797 dbL_law_797 31 44 rfl
theorem dL_law_842 : decode cL_law 842 = .ok (.iaload, 1) := dgs daL_law_797 dbL_law_797 32 45 rfl
theorem dL_law_843 : decode cL_law 843 = .ok (.aload_n 0, 1) := dgs daL_law_797 dbL_law_797 33 46 rfl
theorem dL_law_844 : decode cL_law 844 = .ok (.iload 5, 2) := dgs daL_law_797 dbL_law_797 34 47 rfl
theorem dL_law_846 : decode cL_law 846 = .ok (.iconst 4, 1) := dgs daL_law_797 dbL_law_797 35 49 rfl
theorem dL_law_847 : decode cL_law 847 = .ok (.iadd, 1) := dgs daL_law_797 dbL_law_797 36 50 rfl
theorem dL_law_848 : decode cL_law 848 = .ok (.iaload, 1) := dgs daL_law_797 dbL_law_797 37 51 rfl
theorem dL_law_849 : decode cL_law 849 = .ok (.aload_n 3, 1) := dgs daL_law_797 dbL_law_797 38 52 rfl
theorem dL_law_850 : decode cL_law 850 = .ok (.invokestatic 273, 3) := dgs daL_law_797 dbL_law_797 39 53 rfl
theorem dL_law_853 : decode cL_law 853 = .ok (.istore 6, 2) := dgs daL_law_797 dbL_law_797 40 56 rfl
theorem dL_law_855 : decode cL_law 855 = .ok (.aload_n 2, 1) := dgs daL_law_797 dbL_law_797 41 58 rfl
theorem dL_law_856 : decode cL_law 856 = .ok (.aload_n 0, 1) := dgs daL_law_797 dbL_law_797 42 59 rfl
theorem dL_law_857 : decode cL_law 857 = .ok (.iload 5, 2) := dgs daL_law_797 dbL_law_797 43 60 rfl
theorem dL_law_859 : decode cL_law 859 = .ok (.iconst 1, 1) := dgs daL_law_797 dbL_law_797 44 62 rfl
theorem dL_law_860 : decode cL_law 860 = .ok (.iadd, 1) := dgs daL_law_797 dbL_law_797 45 63 rfl
theorem dL_law_861 : decode cL_law 861 = .ok (.iaload, 1) := dgs daL_law_797 dbL_law_797 46 64 rfl
theorem dL_law_862 : decode cL_law 862 = .ok (.aload_n 0, 1) := dgs daL_law_797 dbL_law_797 47 65 rfl
theorem dL_law_863 : decode cL_law 863 = .ok (.iload 5, 2) := dgs daL_law_797 dbL_law_797 48 66 rfl
theorem dL_law_865 : decode cL_law 865 = .ok (.iconst 2, 1) := dgs daL_law_797 dbL_law_797 49 68 rfl
theorem dL_law_866 : decode cL_law 866 = .ok (.iadd, 1) := dgs daL_law_797 dbL_law_797 50 69 rfl
theorem dL_law_867 : decode cL_law 867 = .ok (.iaload, 1) := dgs daL_law_797 dbL_law_797 51 70 rfl
theorem dL_law_868 : decode cL_law 868 = .ok (.aload_n 0, 1) := dgs daL_law_797 dbL_law_797 52 71 rfl
theorem dL_law_869 : decode cL_law 869 = .ok (.iload 5, 2) := dgs daL_law_797 dbL_law_797 53 72 rfl
theorem dL_law_871 : decode cL_law 871 = .ok (.iconst 3, 1) := dgs daL_law_797 dbL_law_797 54 74 rfl
theorem dL_law_872 : decode cL_law 872 = .ok (.iadd, 1) := dgs daL_law_797 dbL_law_797 55 75 rfl
theorem dL_law_873 : decode cL_law 873 = .ok (.iaload, 1) := dgs daL_law_797 dbL_law_797 56 76 rfl
theorem dL_law_874 : decode cL_law 874 = .ok (.aload_n 0, 1) := dgs daL_law_797 dbL_law_797 57 77 rfl
theorem dL_law_875 : decode cL_law 875 = .ok (.iload 5, 2) := dgs daL_law_797 dbL_law_797 58 78 rfl
theorem dL_law_877 : decode cL_law 877 = .ok (.iconst 4, 1) := dgs daL_law_797 dbL_law_797 59 80 rfl
theorem dL_law_878 : decode cL_law 878 = .ok (.iadd, 1) := dgs daL_law_797 dbL_law_797 60 81 rfl
theorem dL_law_879 : decode cL_law 879 = .ok (.iaload, 1) := dgs daL_law_797 dbL_law_797 61 82 rfl
theorem dL_law_880 : decode cL_law 880 = .ok (.invokevirtual 275, 3) := dgs daL_law_797 dbL_law_797 62 83 rfl
theorem dL_law_883 : decode cL_law 883 = .ok (.istore 7, 2) := dgs daL_law_797 dbL_law_797 63 86 rfl
theorem dL_law_885 : decode cL_law 885 = .ok (.goto 2039, 3) := dgs daL_law_797 dbL_law_797 64 88 rfl
theorem dL_law_888 : decode cL_law 888 = .ok (.aload_n 1, 1) := dgs daL_law_797 dbL_law_797 65 91 rfl
theorem dL_law_889 : decode cL_law 889 = .ok (.aload_n 0, 1) := dgs daL_law_797 dbL_law_797 66 92 rfl
theorem dL_law_890 : decode cL_law 890 = .ok (.iload 5, 2) := dgs daL_law_797 dbL_law_797 67 93 rfl
theorem dL_law_892 : decode cL_law 892 = .ok (.iconst 1, 1) := dgs daL_law_797 dbL_law_797 68 95 rfl
theorem dL_law_893 : decode cL_law 893 = .ok (.iadd, 1) := dgs daL_law_797 dbL_law_797 69 96 rfl
theorem dL_law_894 : decode cL_law 894 = .ok (.iaload, 1) := dgs daL_law_797 dbL_law_797 70 97 rfl
theorem dL_law_895 : decode cL_law 895 = .ok (.aload_n 0, 1) := dgs daL_law_797 dbL_law_797 71 98 rfl
theorem dL_law_896 : decode cL_law 896 = .ok (.iload 5, 2) := dgs daL_law_797 dbL_law_797 72 99 rfl
theorem dL_law_898 : decode cL_law 898 = .ok (.iconst 2, 1) := dgs daL_law_797 dbL_law_797 73 101 rfl
theorem dL_law_899 : decode cL_law 899 = .ok (.iadd, 1) := dgs daL_law_797 dbL_law_797 74 102 rfl
theorem dL_law_900 : decode cL_law 900 = .ok (.iaload, 1) := dgs daL_law_797 dbL_law_797 75 103 rfl
theorem dL_law_901 : decode cL_law 901 = .ok (.aload_n 0, 1) := dgs daL_law_797 dbL_law_797 76 104 rfl
theorem dL_law_902 : decode cL_law 902 = .ok (.iload 5, 2) := dgs daL_law_797 dbL_law_797 77 105 rfl
theorem dL_law_904 : decode cL_law 904 = .ok (.iconst 3, 1) := dgs daL_law_797 dbL_law_797 78 107 rfl
theorem dL_law_905 : decode cL_law 905 = .ok (.iadd, 1) := dgs daL_law_797 dbL_law_797 79 108 rfl
def dsL_law_906 : ByteArray := ⟨#[46, 42, 21, 5, 7, 96, 46, 45, 184, 1, 20, 54, 6, 44, 42, 21, 5, 4, 96, 46, 42, 21, 5, 5, 96, 46, 42, 21, 5, 6, 96, 46, 42, 21, 5, 7, 96, 46, 182, 1, 22, 54, 7, 167, 7, 183, 43, 42, 21, 5, 4, 96, 46, 42, 21, 5, 5, 96, 46, 42, 21, 5, 6, 96, 46, 42, 21, 5, 7, 96, 46, 45, 184, 1, 23, 54, 6, 44, 42, 21, 5, 4, 96, 46, 42, 21, 5, 5, 96, 46, 42, 21, 5, 6, 96, 46, 42, 21, 5, 7, 96, 46, 182, 1, 25, 54, 7]⟩
theorem daL_law_906 : agB cL_law dsL_law_906 906 := agB_of (n := 107) (by decide +kernel)
def dlL_law_906 : List (Nat × Instr × Nat) := [(0, .iaload, 1), (1, .aload_n 0, 1), (2, .iload 5, 2), (4, .iconst 4, 1), (5, .iadd, 1), (6, .iaload, 1), (7, .aload_n 3, 1), (8, .invokestatic 276, 3), (11, .istore 6, 2), (13, .aload_n 2, 1), (14, .aload_n 0, 1), (15, .iload 5, 2), (17, .iconst 1, 1), (18, .iadd, 1), (19, .iaload, 1), (20, .aload_n 0, 1), (21, .iload 5, 2), (23, .iconst 2, 1), (24, .iadd, 1), (25, .iaload, 1), (26, .aload_n 0, 1), (27, .iload 5, 2), (29, .iconst 3, 1), (30, .iadd, 1), (31, .iaload, 1), (32, .aload_n 0, 1), (33, .iload 5, 2), (35, .iconst 4, 1), (36, .iadd, 1), (37, .iaload, 1), (38, .invokevirtual 278, 3), (41, .istore 7, 2), (43, .goto 1975, 3), (46, .aload_n 1, 1), (47, .aload_n 0, 1), (48, .iload 5, 2), (50, .iconst 1, 1), (51, .iadd, 1), (52, .iaload, 1), (53, .aload_n 0, 1), (54, .iload 5, 2), (56, .iconst 2, 1), (57, .iadd, 1), (58, .iaload, 1), (59, .aload_n 0, 1), (60, .iload 5, 2), (62, .iconst 3, 1), (63, .iadd, 1), (64, .iaload, 1), (65, .aload_n 0, 1), (66, .iload 5, 2), (68, .iconst 4, 1), (69, .iadd, 1), (70, .iaload, 1), (71, .aload_n 3, 1), (72, .invokestatic 279, 3), (75, .istore 6, 2), (77, .aload_n 2, 1), (78, .aload_n 0, 1), (79, .iload 5, 2), (81, .iconst 1, 1), (82, .iadd, 1), (83, .iaload, 1), (84, .aload_n 0, 1), (85, .iload 5, 2), (87, .iconst 2, 1), (88, .iadd, 1), (89, .iaload, 1), (90, .aload_n 0, 1), (91, .iload 5, 2), (93, .iconst 3, 1), (94, .iadd, 1), (95, .iaload, 1), (96, .aload_n 0, 1), (97, .iload 5, 2), (99, .iconst 4, 1), (100, .iadd, 1), (101, .iaload, 1), (102, .invokevirtual 281, 3), (105, .istore 7, 2)]
theorem dbL_law_906 : ∀ z ∈ dlL_law_906, decode dsL_law_906 z.1 = Except.ok z.2 ∧ okop dsL_law_906 z.1 = true := by decide +kernel
theorem dL_law_906 : decode cL_law 906 = .ok (.iaload, 1) := dgs daL_law_906 dbL_law_906 0 0 rfl
theorem dL_law_907 : decode cL_law 907 = .ok (.aload_n 0, 1) := dgs daL_law_906 dbL_law_906 1 1 rfl
theorem dL_law_908 : decode cL_law 908 = .ok (.iload 5, 2) := dgs daL_law_906 dbL_law_906 2 2 rfl
theorem dL_law_910 : decode cL_law 910 = .ok (.iconst 4, 1) := dgs daL_law_906 dbL_law_906 3 4 rfl
theorem dL_law_911 : decode cL_law 911 = .ok (.iadd, 1) := dgs daL_law_906 dbL_law_906 4 5 rfl
theorem dL_law_912 : decode cL_law 912 = .ok (.iaload, 1) := dgs daL_law_906 dbL_law_906 5 6 rfl
theorem dL_law_913 : decode cL_law 913 = .ok (.aload_n 3, 1) := dgs daL_law_906 dbL_law_906 6 7 rfl
theorem dL_law_914 : decode cL_law 914 = .ok (.invokestatic 276, 3) := dgs daL_law_906 dbL_law_906 7 8 rfl
theorem dL_law_917 : decode cL_law 917 = .ok (.istore 6, 2) := dgs daL_law_906 dbL_law_906 8 11 rfl
theorem dL_law_919 : decode cL_law 919 = .ok (.aload_n 2, 1) := dgs daL_law_906 dbL_law_906 9 13 rfl
theorem dL_law_920 : decode cL_law 920 = .ok (.aload_n 0, 1) := dgs daL_law_906 dbL_law_906 10 14 rfl
theorem dL_law_921 : decode cL_law 921 = .ok (.iload 5, 2) := dgs daL_law_906 dbL_law_906 11 15 rfl
theorem dL_law_923 : decode cL_law 923 = .ok (.iconst 1, 1) := dgs daL_law_906 dbL_law_906 12 17 rfl
theorem dL_law_924 : decode cL_law 924 = .ok (.iadd, 1) := dgs daL_law_906 dbL_law_906 13 18 rfl
theorem dL_law_925 : decode cL_law 925 = .ok (.iaload, 1) := dgs daL_law_906 dbL_law_906 14 19 rfl
theorem dL_law_926 : decode cL_law 926 = .ok (.aload_n 0, 1) := dgs daL_law_906 dbL_law_906 15 20 rfl
theorem dL_law_927 : decode cL_law 927 = .ok (.iload 5, 2) := dgs daL_law_906 dbL_law_906 16 21 rfl
theorem dL_law_929 : decode cL_law 929 = .ok (.iconst 2, 1) := dgs daL_law_906 dbL_law_906 17 23 rfl
theorem dL_law_930 : decode cL_law 930 = .ok (.iadd, 1) := dgs daL_law_906 dbL_law_906 18 24 rfl
theorem dL_law_931 : decode cL_law 931 = .ok (.iaload, 1) := dgs daL_law_906 dbL_law_906 19 25 rfl
theorem dL_law_932 : decode cL_law 932 = .ok (.aload_n 0, 1) := dgs daL_law_906 dbL_law_906 20 26 rfl
theorem dL_law_933 : decode cL_law 933 = .ok (.iload 5, 2) := dgs daL_law_906 dbL_law_906 21 27 rfl
theorem dL_law_935 : decode cL_law 935 = .ok (.iconst 3, 1) := dgs daL_law_906 dbL_law_906 22 29 rfl
theorem dL_law_936 : decode cL_law 936 = .ok (.iadd, 1) := dgs daL_law_906 dbL_law_906 23 30 rfl
theorem dL_law_937 : decode cL_law 937 = .ok (.iaload, 1) := dgs daL_law_906 dbL_law_906 24 31 rfl
theorem dL_law_938 : decode cL_law 938 = .ok (.aload_n 0, 1) := dgs daL_law_906 dbL_law_906 25 32 rfl
theorem dL_law_939 : decode cL_law 939 = .ok (.iload 5, 2) := dgs daL_law_906 dbL_law_906 26 33 rfl
theorem dL_law_941 : decode cL_law 941 = .ok (.iconst 4, 1) := dgs daL_law_906 dbL_law_906 27 35 rfl
theorem dL_law_942 : decode cL_law 942 = .ok (.iadd, 1) := dgs daL_law_906 dbL_law_906 28 36 rfl
theorem dL_law_943 : decode cL_law 943 = .ok (.iaload, 1) := dgs daL_law_906 dbL_law_906 29 37 rfl
theorem dL_law_944 : decode cL_law 944 = .ok (.invokevirtual 278, 3) := dgs daL_law_906 dbL_law_906 30 38 rfl
theorem dL_law_947 : decode cL_law 947 = .ok (.istore 7, 2) := dgs daL_law_906 dbL_law_906 31 41 rfl
theorem dL_law_949 : decode cL_law 949 = .ok (.goto 1975, 3) := dgs daL_law_906 dbL_law_906 32 43 rfl
theorem dL_law_952 : decode cL_law 952 = .ok (.aload_n 1, 1) := dgs daL_law_906 dbL_law_906 33 46 rfl
theorem dL_law_953 : decode cL_law 953 = .ok (.aload_n 0, 1) := dgs daL_law_906 dbL_law_906 34 47 rfl
theorem dL_law_954 : decode cL_law 954 = .ok (.iload 5, 2) := dgs daL_law_906 dbL_law_906 35 48 rfl
theorem dL_law_956 : decode cL_law 956 = .ok (.iconst 1, 1) := dgs daL_law_906 dbL_law_906 36 50 rfl
theorem dL_law_957 : decode cL_law 957 = .ok (.iadd, 1) := dgs daL_law_906 dbL_law_906 37 51 rfl
theorem dL_law_958 : decode cL_law 958 = .ok (.iaload, 1) := dgs daL_law_906 dbL_law_906 38 52 rfl
theorem dL_law_959 : decode cL_law 959 = .ok (.aload_n 0, 1) := dgs daL_law_906 dbL_law_906 39 53 rfl
theorem dL_law_960 : decode cL_law 960 = .ok (.iload 5, 2) := dgs daL_law_906 dbL_law_906 40 54 rfl
theorem dL_law_962 : decode cL_law 962 = .ok (.iconst 2, 1) := dgs daL_law_906 dbL_law_906 41 56 rfl
theorem dL_law_963 : decode cL_law 963 = .ok (.iadd, 1) := dgs daL_law_906 dbL_law_906 42 57 rfl
theorem dL_law_964 : decode cL_law 964 = .ok (.iaload, 1) := dgs daL_law_906 dbL_law_906 43 58 rfl
theorem dL_law_965 : decode cL_law 965 = .ok (.aload_n 0, 1) := dgs daL_law_906 dbL_law_906 44 59 rfl
theorem dL_law_966 : decode cL_law 966 = .ok (.iload 5, 2) := dgs daL_law_906 dbL_law_906 45 60 rfl
theorem dL_law_968 : decode cL_law 968 = .ok (.iconst 3, 1) := dgs daL_law_906 dbL_law_906 46 62 rfl
theorem dL_law_969 : decode cL_law 969 = .ok (.iadd, 1) := dgs daL_law_906 dbL_law_906 47 63 rfl
theorem dL_law_970 : decode cL_law 970 = .ok (.iaload, 1) := dgs daL_law_906 dbL_law_906 48 64 rfl
theorem dL_law_971 : decode cL_law 971 = .ok (.aload_n 0, 1) := dgs daL_law_906 dbL_law_906 49 65 rfl
theorem dL_law_972 : decode cL_law 972 = .ok (.iload 5, 2) := dgs daL_law_906 dbL_law_906 50 66 rfl
theorem dL_law_974 : decode cL_law 974 = .ok (.iconst 4, 1) := dgs daL_law_906 dbL_law_906 51 68 rfl
theorem dL_law_975 : decode cL_law 975 = .ok (.iadd, 1) := dgs daL_law_906 dbL_law_906 52 69 rfl
theorem dL_law_976 : decode cL_law 976 = .ok (.iaload, 1) := dgs daL_law_906 dbL_law_906 53 70 rfl
theorem dL_law_977 : decode cL_law 977 = .ok (.aload_n 3, 1) := dgs daL_law_906 dbL_law_906 54 71 rfl
theorem dL_law_978 : decode cL_law 978 = .ok (.invokestatic 279, 3) := dgs daL_law_906 dbL_law_906 55 72 rfl
theorem dL_law_981 : decode cL_law 981 = .ok (.istore 6, 2) := dgs daL_law_906 dbL_law_906 56 75 rfl
theorem dL_law_983 : decode cL_law 983 = .ok (.aload_n 2, 1) := dgs daL_law_906 dbL_law_906 57 77 rfl
theorem dL_law_984 : decode cL_law 984 = .ok (.aload_n 0, 1) := dgs daL_law_906 dbL_law_906 58 78 rfl
theorem dL_law_985 : decode cL_law 985 = .ok (.iload 5, 2) := dgs daL_law_906 dbL_law_906 59 79 rfl
theorem dL_law_987 : decode cL_law 987 = .ok (.iconst 1, 1) := dgs daL_law_906 dbL_law_906 60 81 rfl
theorem dL_law_988 : decode cL_law 988 = .ok (.iadd, 1) := dgs daL_law_906 dbL_law_906 61 82 rfl
theorem dL_law_989 : decode cL_law 989 = .ok (.iaload, 1) := dgs daL_law_906 dbL_law_906 62 83 rfl
theorem dL_law_990 : decode cL_law 990 = .ok (.aload_n 0, 1) := dgs daL_law_906 dbL_law_906 63 84 rfl
theorem dL_law_991 : decode cL_law 991 = .ok (.iload 5, 2) := dgs daL_law_906 dbL_law_906 64 85 rfl
theorem dL_law_993 : decode cL_law 993 = .ok (.iconst 2, 1) := dgs daL_law_906 dbL_law_906 65 87 rfl
theorem dL_law_994 : decode cL_law 994 = .ok (.iadd, 1) := dgs daL_law_906 dbL_law_906 66 88 rfl
theorem dL_law_995 : decode cL_law 995 = .ok (.iaload, 1) := dgs daL_law_906 dbL_law_906 67 89 rfl
theorem dL_law_996 : decode cL_law 996 = .ok (.aload_n 0, 1) := dgs daL_law_906 dbL_law_906 68 90 rfl
theorem dL_law_997 : decode cL_law 997 = .ok (.iload 5, 2) := dgs daL_law_906 dbL_law_906 69 91 rfl
theorem dL_law_999 : decode cL_law 999 = .ok (.iconst 3, 1) := dgs daL_law_906 dbL_law_906 70 93 rfl
theorem dL_law_1000 : decode cL_law 1000 = .ok (.iadd, 1) := dgs daL_law_906 dbL_law_906 71 94 rfl
theorem dL_law_1001 : decode cL_law 1001 = .ok (.iaload, 1) := dgs daL_law_906 dbL_law_906 72 95 rfl
theorem dL_law_1002 : decode cL_law 1002 = .ok (.aload_n 0, 1) := dgs daL_law_906 dbL_law_906 73 96 rfl
theorem dL_law_1003 : decode cL_law 1003 = .ok (.iload 5, 2) := dgs daL_law_906 dbL_law_906 74 97 rfl
theorem dL_law_1005 : decode cL_law 1005 = .ok (.iconst 4, 1) := dgs daL_law_906 dbL_law_906 75 99 rfl
theorem dL_law_1006 : decode cL_law 1006 = .ok (.iadd, 1) := dgs daL_law_906 dbL_law_906 76 100 rfl
theorem dL_law_1007 : decode cL_law 1007 = .ok (.iaload, 1) := dgs daL_law_906 dbL_law_906 77 101 rfl
theorem dL_law_1008 : decode cL_law 1008 = .ok (.invokevirtual 281, 3) := dgs daL_law_906 dbL_law_906 78 102 rfl
theorem dL_law_1011 : decode cL_law 1011 = .ok (.istore 7, 2) := dgs daL_law_906 dbL_law_906 79 105 rfl
def dsL_law_1013 : ByteArray := ⟨#[167, 7, 119, 43, 42, 21, 5, 4, 96, 46, 42, 21, 5, 5, 96, 46, 42, 21, 5, 6, 96, 46, 45, 184, 1, 26, 54, 6, 44, 42, 21, 5, 4, 96, 46, 42, 21, 5, 5, 96, 46, 42, 21, 5, 6, 96, 46, 182, 1, 29, 54, 7, 167, 7, 67, 43, 42, 21, 5, 4, 96, 46, 42, 21, 5, 5, 96, 46, 42, 21, 5, 6, 96, 46, 42, 21, 5, 7, 96, 46, 45, 184, 1, 30, 54, 6, 44, 42, 21, 5, 4, 96, 46, 42, 21, 5, 5, 96, 46, 42, 21, 5, 6, 96, 46, 42]⟩
theorem daL_law_1013 : agB cL_law dsL_law_1013 1013 := agB_of (n := 106) (by decide +kernel)
def dlL_law_1013 : List (Nat × Instr × Nat) := [(0, .goto 1911, 3), (3, .aload_n 1, 1), (4, .aload_n 0, 1), (5, .iload 5, 2), (7, .iconst 1, 1), (8, .iadd, 1), (9, .iaload, 1), (10, .aload_n 0, 1), (11, .iload 5, 2), (13, .iconst 2, 1), (14, .iadd, 1), (15, .iaload, 1), (16, .aload_n 0, 1), (17, .iload 5, 2), (19, .iconst 3, 1), (20, .iadd, 1), (21, .iaload, 1), (22, .aload_n 3, 1), (23, .invokestatic 282, 3), (26, .istore 6, 2), (28, .aload_n 2, 1), (29, .aload_n 0, 1), (30, .iload 5, 2), (32, .iconst 1, 1), (33, .iadd, 1), (34, .iaload, 1), (35, .aload_n 0, 1), (36, .iload 5, 2), (38, .iconst 2, 1), (39, .iadd, 1), (40, .iaload, 1), (41, .aload_n 0, 1), (42, .iload 5, 2), (44, .iconst 3, 1), (45, .iadd, 1), (46, .iaload, 1), (47, .invokevirtual 285, 3), (50, .istore 7, 2), (52, .goto 1859, 3), (55, .aload_n 1, 1), (56, .aload_n 0, 1), (57, .iload 5, 2), (59, .iconst 1, 1), (60, .iadd, 1), (61, .iaload, 1), (62, .aload_n 0, 1), (63, .iload 5, 2), (65, .iconst 2, 1), (66, .iadd, 1), (67, .iaload, 1), (68, .aload_n 0, 1), (69, .iload 5, 2), (71, .iconst 3, 1), (72, .iadd, 1), (73, .iaload, 1), (74, .aload_n 0, 1), (75, .iload 5, 2), (77, .iconst 4, 1), (78, .iadd, 1), (79, .iaload, 1), (80, .aload_n 3, 1), (81, .invokestatic 286, 3), (84, .istore 6, 2), (86, .aload_n 2, 1), (87, .aload_n 0, 1), (88, .iload 5, 2), (90, .iconst 1, 1), (91, .iadd, 1), (92, .iaload, 1), (93, .aload_n 0, 1), (94, .iload 5, 2), (96, .iconst 2, 1), (97, .iadd, 1), (98, .iaload, 1), (99, .aload_n 0, 1), (100, .iload 5, 2), (102, .iconst 3, 1), (103, .iadd, 1), (104, .iaload, 1), (105, .aload_n 0, 1)]
theorem dbL_law_1013 : ∀ z ∈ dlL_law_1013, decode dsL_law_1013 z.1 = Except.ok z.2 ∧ okop dsL_law_1013 z.1 = true := by decide +kernel
theorem dL_law_1013 : decode cL_law 1013 = .ok (.goto 1911, 3) := dgs daL_law_1013 dbL_law_1013 0 0 rfl
theorem dL_law_1016 : decode cL_law 1016 = .ok (.aload_n 1, 1) := dgs daL_law_1013 dbL_law_1013 1 3 rfl
theorem dL_law_1017 : decode cL_law 1017 = .ok (.aload_n 0, 1) := dgs daL_law_1013 dbL_law_1013 2 4 rfl
theorem dL_law_1018 : decode cL_law 1018 = .ok (.iload 5, 2) := dgs daL_law_1013 dbL_law_1013 3 5 rfl
theorem dL_law_1020 : decode cL_law 1020 = .ok (.iconst 1, 1) := dgs daL_law_1013 dbL_law_1013 4 7 rfl
theorem dL_law_1021 : decode cL_law 1021 = .ok (.iadd, 1) := dgs daL_law_1013 dbL_law_1013 5 8 rfl
theorem dL_law_1022 : decode cL_law 1022 = .ok (.iaload, 1) := dgs daL_law_1013 dbL_law_1013 6 9 rfl
theorem dL_law_1023 : decode cL_law 1023 = .ok (.aload_n 0, 1) := dgs daL_law_1013 dbL_law_1013 7 10 rfl
theorem dL_law_1024 : decode cL_law 1024 = .ok (.iload 5, 2) := dgs daL_law_1013 dbL_law_1013 8 11 rfl
theorem dL_law_1026 : decode cL_law 1026 = .ok (.iconst 2, 1) := dgs daL_law_1013 dbL_law_1013 9 13 rfl
theorem dL_law_1027 : decode cL_law 1027 = .ok (.iadd, 1) := dgs daL_law_1013 dbL_law_1013 10 14 rfl
theorem dL_law_1028 : decode cL_law 1028 = .ok (.iaload, 1) := dgs daL_law_1013 dbL_law_1013 11 15 rfl
theorem dL_law_1029 : decode cL_law 1029 = .ok (.aload_n 0, 1) := dgs daL_law_1013 dbL_law_1013 12 16 rfl
theorem dL_law_1030 : decode cL_law 1030 = .ok (.iload 5, 2) := dgs daL_law_1013 dbL_law_1013 13 17 rfl
theorem dL_law_1032 : decode cL_law 1032 = .ok (.iconst 3, 1) := dgs daL_law_1013 dbL_law_1013 14 19 rfl
theorem dL_law_1033 : decode cL_law 1033 = .ok (.iadd, 1) := dgs daL_law_1013 dbL_law_1013 15 20 rfl
theorem dL_law_1034 : decode cL_law 1034 = .ok (.iaload, 1) := dgs daL_law_1013 dbL_law_1013 16 21 rfl
theorem dL_law_1035 : decode cL_law 1035 = .ok (.aload_n 3, 1) := dgs daL_law_1013 dbL_law_1013 17 22 rfl
theorem dL_law_1036 : decode cL_law 1036 = .ok (.invokestatic 282, 3) := dgs daL_law_1013 dbL_law_1013 18 23 rfl
theorem dL_law_1039 : decode cL_law 1039 = .ok (.istore 6, 2) := dgs daL_law_1013 dbL_law_1013 19 26 rfl
theorem dL_law_1041 : decode cL_law 1041 = .ok (.aload_n 2, 1) := dgs daL_law_1013 dbL_law_1013 20 28 rfl
theorem dL_law_1042 : decode cL_law 1042 = .ok (.aload_n 0, 1) := dgs daL_law_1013 dbL_law_1013 21 29 rfl
theorem dL_law_1043 : decode cL_law 1043 = .ok (.iload 5, 2) := dgs daL_law_1013 dbL_law_1013 22 30 rfl
theorem dL_law_1045 : decode cL_law 1045 = .ok (.iconst 1, 1) := dgs daL_law_1013 dbL_law_1013 23 32 rfl
theorem dL_law_1046 : decode cL_law 1046 = .ok (.iadd, 1) := dgs daL_law_1013 dbL_law_1013 24 33 rfl
theorem dL_law_1047 : decode cL_law 1047 = .ok (.iaload, 1) := dgs daL_law_1013 dbL_law_1013 25 34 rfl
theorem dL_law_1048 : decode cL_law 1048 = .ok (.aload_n 0, 1) := dgs daL_law_1013 dbL_law_1013 26 35 rfl
theorem dL_law_1049 : decode cL_law 1049 = .ok (.iload 5, 2) := dgs daL_law_1013 dbL_law_1013 27 36 rfl
theorem dL_law_1051 : decode cL_law 1051 = .ok (.iconst 2, 1) := dgs daL_law_1013 dbL_law_1013 28 38 rfl
theorem dL_law_1052 : decode cL_law 1052 = .ok (.iadd, 1) := dgs daL_law_1013 dbL_law_1013 29 39 rfl
theorem dL_law_1053 : decode cL_law 1053 = .ok (.iaload, 1) := dgs daL_law_1013 dbL_law_1013 30 40 rfl
theorem dL_law_1054 : decode cL_law 1054 = .ok (.aload_n 0, 1) := dgs daL_law_1013 dbL_law_1013 31 41 rfl
theorem dL_law_1055 : decode cL_law 1055 = .ok (.iload 5, 2) := dgs daL_law_1013 dbL_law_1013 32 42 rfl
theorem dL_law_1057 : decode cL_law 1057 = .ok (.iconst 3, 1) := dgs daL_law_1013 dbL_law_1013 33 44 rfl
theorem dL_law_1058 : decode cL_law 1058 = .ok (.iadd, 1) := dgs daL_law_1013 dbL_law_1013 34 45 rfl
theorem dL_law_1059 : decode cL_law 1059 = .ok (.iaload, 1) := dgs daL_law_1013 dbL_law_1013 35 46 rfl
theorem dL_law_1060 : decode cL_law 1060 = .ok (.invokevirtual 285, 3) := dgs daL_law_1013 dbL_law_1013 36 47 rfl
theorem dL_law_1063 : decode cL_law 1063 = .ok (.istore 7, 2) := dgs daL_law_1013 dbL_law_1013 37 50 rfl
theorem dL_law_1065 : decode cL_law 1065 = .ok (.goto 1859, 3) := dgs daL_law_1013 dbL_law_1013 38 52 rfl
theorem dL_law_1068 : decode cL_law 1068 = .ok (.aload_n 1, 1) := dgs daL_law_1013 dbL_law_1013 39 55 rfl
theorem dL_law_1069 : decode cL_law 1069 = .ok (.aload_n 0, 1) := dgs daL_law_1013 dbL_law_1013 40 56 rfl
theorem dL_law_1070 : decode cL_law 1070 = .ok (.iload 5, 2) := dgs daL_law_1013 dbL_law_1013 41 57 rfl
theorem dL_law_1072 : decode cL_law 1072 = .ok (.iconst 1, 1) := dgs daL_law_1013 dbL_law_1013 42 59 rfl
theorem dL_law_1073 : decode cL_law 1073 = .ok (.iadd, 1) := dgs daL_law_1013 dbL_law_1013 43 60 rfl
theorem dL_law_1074 : decode cL_law 1074 = .ok (.iaload, 1) := dgs daL_law_1013 dbL_law_1013 44 61 rfl
theorem dL_law_1075 : decode cL_law 1075 = .ok (.aload_n 0, 1) := dgs daL_law_1013 dbL_law_1013 45 62 rfl
theorem dL_law_1076 : decode cL_law 1076 = .ok (.iload 5, 2) := dgs daL_law_1013 dbL_law_1013 46 63 rfl
theorem dL_law_1078 : decode cL_law 1078 = .ok (.iconst 2, 1) := dgs daL_law_1013 dbL_law_1013 47 65 rfl
theorem dL_law_1079 : decode cL_law 1079 = .ok (.iadd, 1) := dgs daL_law_1013 dbL_law_1013 48 66 rfl
theorem dL_law_1080 : decode cL_law 1080 = .ok (.iaload, 1) := dgs daL_law_1013 dbL_law_1013 49 67 rfl
theorem dL_law_1081 : decode cL_law 1081 = .ok (.aload_n 0, 1) := dgs daL_law_1013 dbL_law_1013 50 68 rfl
theorem dL_law_1082 : decode cL_law 1082 = .ok (.iload 5, 2) := dgs daL_law_1013 dbL_law_1013 51 69 rfl
theorem dL_law_1084 : decode cL_law 1084 = .ok (.iconst 3, 1) := dgs daL_law_1013 dbL_law_1013 52 71 rfl
theorem dL_law_1085 : decode cL_law 1085 = .ok (.iadd, 1) := dgs daL_law_1013 dbL_law_1013 53 72 rfl
theorem dL_law_1086 : decode cL_law 1086 = .ok (.iaload, 1) := dgs daL_law_1013 dbL_law_1013 54 73 rfl
theorem dL_law_1087 : decode cL_law 1087 = .ok (.aload_n 0, 1) := dgs daL_law_1013 dbL_law_1013 55 74 rfl
theorem dL_law_1088 : decode cL_law 1088 = .ok (.iload 5, 2) := dgs daL_law_1013 dbL_law_1013 56 75 rfl
theorem dL_law_1090 : decode cL_law 1090 = .ok (.iconst 4, 1) := dgs daL_law_1013 dbL_law_1013 57 77 rfl
theorem dL_law_1091 : decode cL_law 1091 = .ok (.iadd, 1) := dgs daL_law_1013 dbL_law_1013 58 78 rfl
theorem dL_law_1092 : decode cL_law 1092 = .ok (.iaload, 1) := dgs daL_law_1013 dbL_law_1013 59 79 rfl
theorem dL_law_1093 : decode cL_law 1093 = .ok (.aload_n 3, 1) := dgs daL_law_1013 dbL_law_1013 60 80 rfl
theorem dL_law_1094 : decode cL_law 1094 = .ok (.invokestatic 286, 3) := dgs daL_law_1013 dbL_law_1013 61 81 rfl
theorem dL_law_1097 : decode cL_law 1097 = .ok (.istore 6, 2) := dgs daL_law_1013 dbL_law_1013 62 84 rfl
theorem dL_law_1099 : decode cL_law 1099 = .ok (.aload_n 2, 1) := dgs daL_law_1013 dbL_law_1013 63 86 rfl
theorem dL_law_1100 : decode cL_law 1100 = .ok (.aload_n 0, 1) := dgs daL_law_1013 dbL_law_1013 64 87 rfl
theorem dL_law_1101 : decode cL_law 1101 = .ok (.iload 5, 2) := dgs daL_law_1013 dbL_law_1013 65 88 rfl
theorem dL_law_1103 : decode cL_law 1103 = .ok (.iconst 1, 1) := dgs daL_law_1013 dbL_law_1013 66 90 rfl
theorem dL_law_1104 : decode cL_law 1104 = .ok (.iadd, 1) := dgs daL_law_1013 dbL_law_1013 67 91 rfl
theorem dL_law_1105 : decode cL_law 1105 = .ok (.iaload, 1) := dgs daL_law_1013 dbL_law_1013 68 92 rfl
theorem dL_law_1106 : decode cL_law 1106 = .ok (.aload_n 0, 1) := dgs daL_law_1013 dbL_law_1013 69 93 rfl
theorem dL_law_1107 : decode cL_law 1107 = .ok (.iload 5, 2) := dgs daL_law_1013 dbL_law_1013 70 94 rfl
theorem dL_law_1109 : decode cL_law 1109 = .ok (.iconst 2, 1) := dgs daL_law_1013 dbL_law_1013 71 96 rfl
theorem dL_law_1110 : decode cL_law 1110 = .ok (.iadd, 1) := dgs daL_law_1013 dbL_law_1013 72 97 rfl
theorem dL_law_1111 : decode cL_law 1111 = .ok (.iaload, 1) := dgs daL_law_1013 dbL_law_1013 73 98 rfl
theorem dL_law_1112 : decode cL_law 1112 = .ok (.aload_n 0, 1) := dgs daL_law_1013 dbL_law_1013 74 99 rfl
theorem dL_law_1113 : decode cL_law 1113 = .ok (.iload 5, 2) := dgs daL_law_1013 dbL_law_1013 75 100 rfl
theorem dL_law_1115 : decode cL_law 1115 = .ok (.iconst 3, 1) := dgs daL_law_1013 dbL_law_1013 76 102 rfl
theorem dL_law_1116 : decode cL_law 1116 = .ok (.iadd, 1) := dgs daL_law_1013 dbL_law_1013 77 103 rfl
theorem dL_law_1117 : decode cL_law 1117 = .ok (.iaload, 1) := dgs daL_law_1013 dbL_law_1013 78 104 rfl
theorem dL_law_1118 : decode cL_law 1118 = .ok (.aload_n 0, 1) := dgs daL_law_1013 dbL_law_1013 79 105 rfl
def dsL_law_1119 : ByteArray := ⟨#[21, 5, 7, 96, 46, 182, 1, 32, 54, 7, 167, 7, 3, 43, 42, 21, 5, 4, 96, 46, 45, 184, 1, 33, 54, 6, 44, 42, 21, 5, 4, 96, 46, 182, 1, 35, 54, 7, 167, 6, 231, 43, 42, 21, 5, 4, 96, 46, 42, 21, 5, 5, 96, 46, 42, 21, 5, 6, 96, 46, 45, 184, 1, 36, 54, 6, 44, 42, 21, 5, 4, 96, 46, 42, 21, 5, 5, 96, 46, 42, 21, 5, 6, 96, 46, 182, 1, 38, 54, 7, 167, 6, 179, 43, 42, 21, 5, 4, 96, 46, 42, 21, 5, 5, 96, 46, 42, 21, 5, 6, 96, 46, 45]⟩
theorem daL_law_1119 : agB cL_law dsL_law_1119 1119 := agB_of (n := 113) (by decide +kernel)
def dlL_law_1119 : List (Nat × Instr × Nat) := [(0, .iload 5, 2), (2, .iconst 4, 1), (3, .iadd, 1), (4, .iaload, 1), (5, .invokevirtual 288, 3), (8, .istore 7, 2), (10, .goto 1795, 3), (13, .aload_n 1, 1), (14, .aload_n 0, 1), (15, .iload 5, 2), (17, .iconst 1, 1), (18, .iadd, 1), (19, .iaload, 1), (20, .aload_n 3, 1), (21, .invokestatic 289, 3), (24, .istore 6, 2), (26, .aload_n 2, 1), (27, .aload_n 0, 1), (28, .iload 5, 2), (30, .iconst 1, 1), (31, .iadd, 1), (32, .iaload, 1), (33, .invokevirtual 291, 3), (36, .istore 7, 2), (38, .goto 1767, 3), (41, .aload_n 1, 1), (42, .aload_n 0, 1), (43, .iload 5, 2), (45, .iconst 1, 1), (46, .iadd, 1), (47, .iaload, 1), (48, .aload_n 0, 1), (49, .iload 5, 2), (51, .iconst 2, 1), (52, .iadd, 1), (53, .iaload, 1), (54, .aload_n 0, 1), (55, .iload 5, 2), (57, .iconst 3, 1), (58, .iadd, 1), (59, .iaload, 1), (60, .aload_n 3, 1), (61, .invokestatic 292, 3), (64, .istore 6, 2), (66, .aload_n 2, 1), (67, .aload_n 0, 1), (68, .iload 5, 2), (70, .iconst 1, 1), (71, .iadd, 1), (72, .iaload, 1), (73, .aload_n 0, 1), (74, .iload 5, 2), (76, .iconst 2, 1), (77, .iadd, 1), (78, .iaload, 1), (79, .aload_n 0, 1), (80, .iload 5, 2), (82, .iconst 3, 1), (83, .iadd, 1), (84, .iaload, 1), (85, .invokevirtual 294, 3), (88, .istore 7, 2), (90, .goto 1715, 3), (93, .aload_n 1, 1), (94, .aload_n 0, 1), (95, .iload 5, 2), (97, .iconst 1, 1), (98, .iadd, 1), (99, .iaload, 1), (100, .aload_n 0, 1), (101, .iload 5, 2), (103, .iconst 2, 1), (104, .iadd, 1), (105, .iaload, 1), (106, .aload_n 0, 1), (107, .iload 5, 2), (109, .iconst 3, 1), (110, .iadd, 1), (111, .iaload, 1), (112, .aload_n 3, 1)]
theorem dbL_law_1119 : ∀ z ∈ dlL_law_1119, decode dsL_law_1119 z.1 = Except.ok z.2 ∧ okop dsL_law_1119 z.1 = true := by decide +kernel
theorem dL_law_1119 : decode cL_law 1119 = .ok (.iload 5, 2) := dgs daL_law_1119 dbL_law_1119 0 0 rfl
theorem dL_law_1121 : decode cL_law 1121 = .ok (.iconst 4, 1) := dgs daL_law_1119 dbL_law_1119 1 2 rfl
theorem dL_law_1122 : decode cL_law 1122 = .ok (.iadd, 1) := dgs daL_law_1119 dbL_law_1119 2 3 rfl
theorem dL_law_1123 : decode cL_law 1123 = .ok (.iaload, 1) := dgs daL_law_1119 dbL_law_1119 3 4 rfl
theorem dL_law_1124 : decode cL_law 1124 = .ok (.invokevirtual 288, 3) := dgs daL_law_1119 dbL_law_1119 4 5 rfl
theorem dL_law_1127 : decode cL_law 1127 = .ok (.istore 7, 2) := dgs daL_law_1119 dbL_law_1119 5 8 rfl
theorem dL_law_1129 : decode cL_law 1129 = .ok (.goto 1795, 3) := dgs daL_law_1119 dbL_law_1119 6 10 rfl
theorem dL_law_1132 : decode cL_law 1132 = .ok (.aload_n 1, 1) := dgs daL_law_1119 dbL_law_1119 7 13 rfl
theorem dL_law_1133 : decode cL_law 1133 = .ok (.aload_n 0, 1) := dgs daL_law_1119 dbL_law_1119 8 14 rfl
theorem dL_law_1134 : decode cL_law 1134 = .ok (.iload 5, 2) := dgs daL_law_1119 dbL_law_1119 9 15 rfl
theorem dL_law_1136 : decode cL_law 1136 = .ok (.iconst 1, 1) := dgs daL_law_1119 dbL_law_1119 10 17 rfl
theorem dL_law_1137 : decode cL_law 1137 = .ok (.iadd, 1) := dgs daL_law_1119 dbL_law_1119 11 18 rfl
theorem dL_law_1138 : decode cL_law 1138 = .ok (.iaload, 1) := dgs daL_law_1119 dbL_law_1119 12 19 rfl
theorem dL_law_1139 : decode cL_law 1139 = .ok (.aload_n 3, 1) := dgs daL_law_1119 dbL_law_1119 13 20 rfl
theorem dL_law_1140 : decode cL_law 1140 = .ok (.invokestatic 289, 3) := dgs daL_law_1119 dbL_law_1119 14 21 rfl
theorem dL_law_1143 : decode cL_law 1143 = .ok (.istore 6, 2) := dgs daL_law_1119 dbL_law_1119 15 24 rfl
theorem dL_law_1145 : decode cL_law 1145 = .ok (.aload_n 2, 1) := dgs daL_law_1119 dbL_law_1119 16 26 rfl
theorem dL_law_1146 : decode cL_law 1146 = .ok (.aload_n 0, 1) := dgs daL_law_1119 dbL_law_1119 17 27 rfl
theorem dL_law_1147 : decode cL_law 1147 = .ok (.iload 5, 2) := dgs daL_law_1119 dbL_law_1119 18 28 rfl
theorem dL_law_1149 : decode cL_law 1149 = .ok (.iconst 1, 1) := dgs daL_law_1119 dbL_law_1119 19 30 rfl
theorem dL_law_1150 : decode cL_law 1150 = .ok (.iadd, 1) := dgs daL_law_1119 dbL_law_1119 20 31 rfl
theorem dL_law_1151 : decode cL_law 1151 = .ok (.iaload, 1) := dgs daL_law_1119 dbL_law_1119 21 32 rfl
theorem dL_law_1152 : decode cL_law 1152 = .ok (.invokevirtual 291, 3) := dgs daL_law_1119 dbL_law_1119 22 33 rfl
theorem dL_law_1155 : decode cL_law 1155 = .ok (.istore 7, 2) := dgs daL_law_1119 dbL_law_1119 23 36 rfl
theorem dL_law_1157 : decode cL_law 1157 = .ok (.goto 1767, 3) := dgs daL_law_1119 dbL_law_1119 24 38 rfl
theorem dL_law_1160 : decode cL_law 1160 = .ok (.aload_n 1, 1) := dgs daL_law_1119 dbL_law_1119 25 41 rfl
theorem dL_law_1161 : decode cL_law 1161 = .ok (.aload_n 0, 1) := dgs daL_law_1119 dbL_law_1119 26 42 rfl
theorem dL_law_1162 : decode cL_law 1162 = .ok (.iload 5, 2) := dgs daL_law_1119 dbL_law_1119 27 43 rfl
theorem dL_law_1164 : decode cL_law 1164 = .ok (.iconst 1, 1) := dgs daL_law_1119 dbL_law_1119 28 45 rfl
theorem dL_law_1165 : decode cL_law 1165 = .ok (.iadd, 1) := dgs daL_law_1119 dbL_law_1119 29 46 rfl
theorem dL_law_1166 : decode cL_law 1166 = .ok (.iaload, 1) := dgs daL_law_1119 dbL_law_1119 30 47 rfl
theorem dL_law_1167 : decode cL_law 1167 = .ok (.aload_n 0, 1) := dgs daL_law_1119 dbL_law_1119 31 48 rfl
theorem dL_law_1168 : decode cL_law 1168 = .ok (.iload 5, 2) := dgs daL_law_1119 dbL_law_1119 32 49 rfl
theorem dL_law_1170 : decode cL_law 1170 = .ok (.iconst 2, 1) := dgs daL_law_1119 dbL_law_1119 33 51 rfl
theorem dL_law_1171 : decode cL_law 1171 = .ok (.iadd, 1) := dgs daL_law_1119 dbL_law_1119 34 52 rfl
theorem dL_law_1172 : decode cL_law 1172 = .ok (.iaload, 1) := dgs daL_law_1119 dbL_law_1119 35 53 rfl
theorem dL_law_1173 : decode cL_law 1173 = .ok (.aload_n 0, 1) := dgs daL_law_1119 dbL_law_1119 36 54 rfl
theorem dL_law_1174 : decode cL_law 1174 = .ok (.iload 5, 2) := dgs daL_law_1119 dbL_law_1119 37 55 rfl
theorem dL_law_1176 : decode cL_law 1176 = .ok (.iconst 3, 1) := dgs daL_law_1119 dbL_law_1119 38 57 rfl
theorem dL_law_1177 : decode cL_law 1177 = .ok (.iadd, 1) := dgs daL_law_1119 dbL_law_1119 39 58 rfl
theorem dL_law_1178 : decode cL_law 1178 = .ok (.iaload, 1) := dgs daL_law_1119 dbL_law_1119 40 59 rfl
theorem dL_law_1179 : decode cL_law 1179 = .ok (.aload_n 3, 1) := dgs daL_law_1119 dbL_law_1119 41 60 rfl
theorem dL_law_1180 : decode cL_law 1180 = .ok (.invokestatic 292, 3) := dgs daL_law_1119 dbL_law_1119 42 61 rfl
theorem dL_law_1183 : decode cL_law 1183 = .ok (.istore 6, 2) := dgs daL_law_1119 dbL_law_1119 43 64 rfl
theorem dL_law_1185 : decode cL_law 1185 = .ok (.aload_n 2, 1) := dgs daL_law_1119 dbL_law_1119 44 66 rfl
theorem dL_law_1186 : decode cL_law 1186 = .ok (.aload_n 0, 1) := dgs daL_law_1119 dbL_law_1119 45 67 rfl
theorem dL_law_1187 : decode cL_law 1187 = .ok (.iload 5, 2) := dgs daL_law_1119 dbL_law_1119 46 68 rfl
theorem dL_law_1189 : decode cL_law 1189 = .ok (.iconst 1, 1) := dgs daL_law_1119 dbL_law_1119 47 70 rfl
theorem dL_law_1190 : decode cL_law 1190 = .ok (.iadd, 1) := dgs daL_law_1119 dbL_law_1119 48 71 rfl
theorem dL_law_1191 : decode cL_law 1191 = .ok (.iaload, 1) := dgs daL_law_1119 dbL_law_1119 49 72 rfl
theorem dL_law_1192 : decode cL_law 1192 = .ok (.aload_n 0, 1) := dgs daL_law_1119 dbL_law_1119 50 73 rfl
theorem dL_law_1193 : decode cL_law 1193 = .ok (.iload 5, 2) := dgs daL_law_1119 dbL_law_1119 51 74 rfl
theorem dL_law_1195 : decode cL_law 1195 = .ok (.iconst 2, 1) := dgs daL_law_1119 dbL_law_1119 52 76 rfl
theorem dL_law_1196 : decode cL_law 1196 = .ok (.iadd, 1) := dgs daL_law_1119 dbL_law_1119 53 77 rfl
theorem dL_law_1197 : decode cL_law 1197 = .ok (.iaload, 1) := dgs daL_law_1119 dbL_law_1119 54 78 rfl
theorem dL_law_1198 : decode cL_law 1198 = .ok (.aload_n 0, 1) := dgs daL_law_1119 dbL_law_1119 55 79 rfl
theorem dL_law_1199 : decode cL_law 1199 = .ok (.iload 5, 2) := dgs daL_law_1119 dbL_law_1119 56 80 rfl
theorem dL_law_1201 : decode cL_law 1201 = .ok (.iconst 3, 1) := dgs daL_law_1119 dbL_law_1119 57 82 rfl
theorem dL_law_1202 : decode cL_law 1202 = .ok (.iadd, 1) := dgs daL_law_1119 dbL_law_1119 58 83 rfl
theorem dL_law_1203 : decode cL_law 1203 = .ok (.iaload, 1) := dgs daL_law_1119 dbL_law_1119 59 84 rfl
theorem dL_law_1204 : decode cL_law 1204 = .ok (.invokevirtual 294, 3) := dgs daL_law_1119 dbL_law_1119 60 85 rfl
theorem dL_law_1207 : decode cL_law 1207 = .ok (.istore 7, 2) := dgs daL_law_1119 dbL_law_1119 61 88 rfl
theorem dL_law_1209 : decode cL_law 1209 = .ok (.goto 1715, 3) := dgs daL_law_1119 dbL_law_1119 62 90 rfl
theorem dL_law_1212 : decode cL_law 1212 = .ok (.aload_n 1, 1) := dgs daL_law_1119 dbL_law_1119 63 93 rfl
theorem dL_law_1213 : decode cL_law 1213 = .ok (.aload_n 0, 1) := dgs daL_law_1119 dbL_law_1119 64 94 rfl
theorem dL_law_1214 : decode cL_law 1214 = .ok (.iload 5, 2) := dgs daL_law_1119 dbL_law_1119 65 95 rfl
theorem dL_law_1216 : decode cL_law 1216 = .ok (.iconst 1, 1) := dgs daL_law_1119 dbL_law_1119 66 97 rfl
theorem dL_law_1217 : decode cL_law 1217 = .ok (.iadd, 1) := dgs daL_law_1119 dbL_law_1119 67 98 rfl
theorem dL_law_1218 : decode cL_law 1218 = .ok (.iaload, 1) := dgs daL_law_1119 dbL_law_1119 68 99 rfl
theorem dL_law_1219 : decode cL_law 1219 = .ok (.aload_n 0, 1) := dgs daL_law_1119 dbL_law_1119 69 100 rfl
theorem dL_law_1220 : decode cL_law 1220 = .ok (.iload 5, 2) := dgs daL_law_1119 dbL_law_1119 70 101 rfl
theorem dL_law_1222 : decode cL_law 1222 = .ok (.iconst 2, 1) := dgs daL_law_1119 dbL_law_1119 71 103 rfl
theorem dL_law_1223 : decode cL_law 1223 = .ok (.iadd, 1) := dgs daL_law_1119 dbL_law_1119 72 104 rfl
theorem dL_law_1224 : decode cL_law 1224 = .ok (.iaload, 1) := dgs daL_law_1119 dbL_law_1119 73 105 rfl
theorem dL_law_1225 : decode cL_law 1225 = .ok (.aload_n 0, 1) := dgs daL_law_1119 dbL_law_1119 74 106 rfl
theorem dL_law_1226 : decode cL_law 1226 = .ok (.iload 5, 2) := dgs daL_law_1119 dbL_law_1119 75 107 rfl
theorem dL_law_1228 : decode cL_law 1228 = .ok (.iconst 3, 1) := dgs daL_law_1119 dbL_law_1119 76 109 rfl
theorem dL_law_1229 : decode cL_law 1229 = .ok (.iadd, 1) := dgs daL_law_1119 dbL_law_1119 77 110 rfl
theorem dL_law_1230 : decode cL_law 1230 = .ok (.iaload, 1) := dgs daL_law_1119 dbL_law_1119 78 111 rfl
theorem dL_law_1231 : decode cL_law 1231 = .ok (.aload_n 3, 1) := dgs daL_law_1119 dbL_law_1119 79 112 rfl
def dsL_law_1232 : ByteArray := ⟨#[184, 1, 39, 54, 6, 44, 42, 21, 5, 4, 96, 46, 42, 21, 5, 5, 96, 46, 42, 21, 5, 6, 96, 46, 182, 1, 41, 54, 7, 167, 6, 127, 43, 42, 21, 5, 4, 96, 46, 42, 21, 5, 5, 96, 46, 45, 184, 1, 42, 54, 6, 44, 42, 21, 5, 4, 96, 46, 42, 21, 5, 5, 96, 46, 182, 1, 44, 54, 7, 167, 6, 87, 43, 42, 21, 5, 4, 96, 46, 42, 21, 5, 5, 96, 46, 42, 21, 5, 6, 96, 46, 42, 21, 5, 7, 96, 46, 45, 184, 1, 45, 54, 6, 44, 42, 21, 5, 4, 96, 46, 42]⟩
theorem daL_law_1232 : agB cL_law dsL_law_1232 1232 := agB_of (n := 111) (by decide +kernel)
def dlL_law_1232 : List (Nat × Instr × Nat) := [(0, .invokestatic 295, 3), (3, .istore 6, 2), (5, .aload_n 2, 1), (6, .aload_n 0, 1), (7, .iload 5, 2), (9, .iconst 1, 1), (10, .iadd, 1), (11, .iaload, 1), (12, .aload_n 0, 1), (13, .iload 5, 2), (15, .iconst 2, 1), (16, .iadd, 1), (17, .iaload, 1), (18, .aload_n 0, 1), (19, .iload 5, 2), (21, .iconst 3, 1), (22, .iadd, 1), (23, .iaload, 1), (24, .invokevirtual 297, 3), (27, .istore 7, 2), (29, .goto 1663, 3), (32, .aload_n 1, 1), (33, .aload_n 0, 1), (34, .iload 5, 2), (36, .iconst 1, 1), (37, .iadd, 1), (38, .iaload, 1), (39, .aload_n 0, 1), (40, .iload 5, 2), (42, .iconst 2, 1), (43, .iadd, 1), (44, .iaload, 1), (45, .aload_n 3, 1), (46, .invokestatic 298, 3), (49, .istore 6, 2), (51, .aload_n 2, 1), (52, .aload_n 0, 1), (53, .iload 5, 2), (55, .iconst 1, 1), (56, .iadd, 1), (57, .iaload, 1), (58, .aload_n 0, 1), (59, .iload 5, 2), (61, .iconst 2, 1), (62, .iadd, 1), (63, .iaload, 1), (64, .invokevirtual 300, 3), (67, .istore 7, 2), (69, .goto 1623, 3), (72, .aload_n 1, 1), (73, .aload_n 0, 1), (74, .iload 5, 2), (76, .iconst 1, 1), (77, .iadd, 1), (78, .iaload, 1), (79, .aload_n 0, 1), (80, .iload 5, 2), (82, .iconst 2, 1), (83, .iadd, 1), (84, .iaload, 1), (85, .aload_n 0, 1), (86, .iload 5, 2), (88, .iconst 3, 1), (89, .iadd, 1), (90, .iaload, 1), (91, .aload_n 0, 1), (92, .iload 5, 2), (94, .iconst 4, 1), (95, .iadd, 1), (96, .iaload, 1), (97, .aload_n 3, 1), (98, .invokestatic 301, 3), (101, .istore 6, 2), (103, .aload_n 2, 1), (104, .aload_n 0, 1), (105, .iload 5, 2), (107, .iconst 1, 1), (108, .iadd, 1), (109, .iaload, 1), (110, .aload_n 0, 1)]
theorem dbL_law_1232 : ∀ z ∈ dlL_law_1232, decode dsL_law_1232 z.1 = Except.ok z.2 ∧ okop dsL_law_1232 z.1 = true := by decide +kernel
theorem dL_law_1232 : decode cL_law 1232 = .ok (.invokestatic 295, 3) := dgs daL_law_1232 dbL_law_1232 0 0 rfl
theorem dL_law_1235 : decode cL_law 1235 = .ok (.istore 6, 2) := dgs daL_law_1232 dbL_law_1232 1 3 rfl
theorem dL_law_1237 : decode cL_law 1237 = .ok (.aload_n 2, 1) := dgs daL_law_1232 dbL_law_1232 2 5 rfl
theorem dL_law_1238 : decode cL_law 1238 = .ok (.aload_n 0, 1) := dgs daL_law_1232 dbL_law_1232 3 6 rfl
theorem dL_law_1239 : decode cL_law 1239 = .ok (.iload 5, 2) := dgs daL_law_1232 dbL_law_1232 4 7 rfl
theorem dL_law_1241 : decode cL_law 1241 = .ok (.iconst 1, 1) := dgs daL_law_1232 dbL_law_1232 5 9 rfl
theorem dL_law_1242 : decode cL_law 1242 = .ok (.iadd, 1) := dgs daL_law_1232 dbL_law_1232 6 10 rfl
theorem dL_law_1243 : decode cL_law 1243 = .ok (.iaload, 1) := dgs daL_law_1232 dbL_law_1232 7 11 rfl
theorem dL_law_1244 : decode cL_law 1244 = .ok (.aload_n 0, 1) := dgs daL_law_1232 dbL_law_1232 8 12 rfl
theorem dL_law_1245 : decode cL_law 1245 = .ok (.iload 5, 2) := dgs daL_law_1232 dbL_law_1232 9 13 rfl
theorem dL_law_1247 : decode cL_law 1247 = .ok (.iconst 2, 1) := dgs daL_law_1232 dbL_law_1232 10 15 rfl
theorem dL_law_1248 : decode cL_law 1248 = .ok (.iadd, 1) := dgs daL_law_1232 dbL_law_1232 11 16 rfl
theorem dL_law_1249 : decode cL_law 1249 = .ok (.iaload, 1) := dgs daL_law_1232 dbL_law_1232 12 17 rfl
theorem dL_law_1250 : decode cL_law 1250 = .ok (.aload_n 0, 1) := dgs daL_law_1232 dbL_law_1232 13 18 rfl
theorem dL_law_1251 : decode cL_law 1251 = .ok (.iload 5, 2) := dgs daL_law_1232 dbL_law_1232 14 19 rfl
theorem dL_law_1253 : decode cL_law 1253 = .ok (.iconst 3, 1) := dgs daL_law_1232 dbL_law_1232 15 21 rfl
theorem dL_law_1254 : decode cL_law 1254 = .ok (.iadd, 1) := dgs daL_law_1232 dbL_law_1232 16 22 rfl
theorem dL_law_1255 : decode cL_law 1255 = .ok (.iaload, 1) := dgs daL_law_1232 dbL_law_1232 17 23 rfl
theorem dL_law_1256 : decode cL_law 1256 = .ok (.invokevirtual 297, 3) := dgs daL_law_1232 dbL_law_1232 18 24 rfl
theorem dL_law_1259 : decode cL_law 1259 = .ok (.istore 7, 2) := dgs daL_law_1232 dbL_law_1232 19 27 rfl
theorem dL_law_1261 : decode cL_law 1261 = .ok (.goto 1663, 3) := dgs daL_law_1232 dbL_law_1232 20 29 rfl
theorem dL_law_1264 : decode cL_law 1264 = .ok (.aload_n 1, 1) := dgs daL_law_1232 dbL_law_1232 21 32 rfl
theorem dL_law_1265 : decode cL_law 1265 = .ok (.aload_n 0, 1) := dgs daL_law_1232 dbL_law_1232 22 33 rfl
theorem dL_law_1266 : decode cL_law 1266 = .ok (.iload 5, 2) := dgs daL_law_1232 dbL_law_1232 23 34 rfl
theorem dL_law_1268 : decode cL_law 1268 = .ok (.iconst 1, 1) := dgs daL_law_1232 dbL_law_1232 24 36 rfl
theorem dL_law_1269 : decode cL_law 1269 = .ok (.iadd, 1) := dgs daL_law_1232 dbL_law_1232 25 37 rfl
theorem dL_law_1270 : decode cL_law 1270 = .ok (.iaload, 1) := dgs daL_law_1232 dbL_law_1232 26 38 rfl
theorem dL_law_1271 : decode cL_law 1271 = .ok (.aload_n 0, 1) := dgs daL_law_1232 dbL_law_1232 27 39 rfl
theorem dL_law_1272 : decode cL_law 1272 = .ok (.iload 5, 2) := dgs daL_law_1232 dbL_law_1232 28 40 rfl
theorem dL_law_1274 : decode cL_law 1274 = .ok (.iconst 2, 1) := dgs daL_law_1232 dbL_law_1232 29 42 rfl
theorem dL_law_1275 : decode cL_law 1275 = .ok (.iadd, 1) := dgs daL_law_1232 dbL_law_1232 30 43 rfl
theorem dL_law_1276 : decode cL_law 1276 = .ok (.iaload, 1) := dgs daL_law_1232 dbL_law_1232 31 44 rfl
theorem dL_law_1277 : decode cL_law 1277 = .ok (.aload_n 3, 1) := dgs daL_law_1232 dbL_law_1232 32 45 rfl
theorem dL_law_1278 : decode cL_law 1278 = .ok (.invokestatic 298, 3) := dgs daL_law_1232 dbL_law_1232 33 46 rfl
theorem dL_law_1281 : decode cL_law 1281 = .ok (.istore 6, 2) := dgs daL_law_1232 dbL_law_1232 34 49 rfl
theorem dL_law_1283 : decode cL_law 1283 = .ok (.aload_n 2, 1) := dgs daL_law_1232 dbL_law_1232 35 51 rfl
theorem dL_law_1284 : decode cL_law 1284 = .ok (.aload_n 0, 1) := dgs daL_law_1232 dbL_law_1232 36 52 rfl
theorem dL_law_1285 : decode cL_law 1285 = .ok (.iload 5, 2) := dgs daL_law_1232 dbL_law_1232 37 53 rfl
theorem dL_law_1287 : decode cL_law 1287 = .ok (.iconst 1, 1) := dgs daL_law_1232 dbL_law_1232 38 55 rfl
theorem dL_law_1288 : decode cL_law 1288 = .ok (.iadd, 1) := dgs daL_law_1232 dbL_law_1232 39 56 rfl
theorem dL_law_1289 : decode cL_law 1289 = .ok (.iaload, 1) := dgs daL_law_1232 dbL_law_1232 40 57 rfl
theorem dL_law_1290 : decode cL_law 1290 = .ok (.aload_n 0, 1) := dgs daL_law_1232 dbL_law_1232 41 58 rfl
theorem dL_law_1291 : decode cL_law 1291 = .ok (.iload 5, 2) := dgs daL_law_1232 dbL_law_1232 42 59 rfl
theorem dL_law_1293 : decode cL_law 1293 = .ok (.iconst 2, 1) := dgs daL_law_1232 dbL_law_1232 43 61 rfl
theorem dL_law_1294 : decode cL_law 1294 = .ok (.iadd, 1) := dgs daL_law_1232 dbL_law_1232 44 62 rfl
theorem dL_law_1295 : decode cL_law 1295 = .ok (.iaload, 1) := dgs daL_law_1232 dbL_law_1232 45 63 rfl
theorem dL_law_1296 : decode cL_law 1296 = .ok (.invokevirtual 300, 3) := dgs daL_law_1232 dbL_law_1232 46 64 rfl
theorem dL_law_1299 : decode cL_law 1299 = .ok (.istore 7, 2) := dgs daL_law_1232 dbL_law_1232 47 67 rfl
theorem dL_law_1301 : decode cL_law 1301 = .ok (.goto 1623, 3) := dgs daL_law_1232 dbL_law_1232 48 69 rfl
theorem dL_law_1304 : decode cL_law 1304 = .ok (.aload_n 1, 1) := dgs daL_law_1232 dbL_law_1232 49 72 rfl
theorem dL_law_1305 : decode cL_law 1305 = .ok (.aload_n 0, 1) := dgs daL_law_1232 dbL_law_1232 50 73 rfl
theorem dL_law_1306 : decode cL_law 1306 = .ok (.iload 5, 2) := dgs daL_law_1232 dbL_law_1232 51 74 rfl
theorem dL_law_1308 : decode cL_law 1308 = .ok (.iconst 1, 1) := dgs daL_law_1232 dbL_law_1232 52 76 rfl
theorem dL_law_1309 : decode cL_law 1309 = .ok (.iadd, 1) := dgs daL_law_1232 dbL_law_1232 53 77 rfl
theorem dL_law_1310 : decode cL_law 1310 = .ok (.iaload, 1) := dgs daL_law_1232 dbL_law_1232 54 78 rfl
theorem dL_law_1311 : decode cL_law 1311 = .ok (.aload_n 0, 1) := dgs daL_law_1232 dbL_law_1232 55 79 rfl
theorem dL_law_1312 : decode cL_law 1312 = .ok (.iload 5, 2) := dgs daL_law_1232 dbL_law_1232 56 80 rfl
theorem dL_law_1314 : decode cL_law 1314 = .ok (.iconst 2, 1) := dgs daL_law_1232 dbL_law_1232 57 82 rfl
theorem dL_law_1315 : decode cL_law 1315 = .ok (.iadd, 1) := dgs daL_law_1232 dbL_law_1232 58 83 rfl
theorem dL_law_1316 : decode cL_law 1316 = .ok (.iaload, 1) := dgs daL_law_1232 dbL_law_1232 59 84 rfl
theorem dL_law_1317 : decode cL_law 1317 = .ok (.aload_n 0, 1) := dgs daL_law_1232 dbL_law_1232 60 85 rfl
theorem dL_law_1318 : decode cL_law 1318 = .ok (.iload 5, 2) := dgs daL_law_1232 dbL_law_1232 61 86 rfl
theorem dL_law_1320 : decode cL_law 1320 = .ok (.iconst 3, 1) := dgs daL_law_1232 dbL_law_1232 62 88 rfl
theorem dL_law_1321 : decode cL_law 1321 = .ok (.iadd, 1) := dgs daL_law_1232 dbL_law_1232 63 89 rfl
theorem dL_law_1322 : decode cL_law 1322 = .ok (.iaload, 1) := dgs daL_law_1232 dbL_law_1232 64 90 rfl
theorem dL_law_1323 : decode cL_law 1323 = .ok (.aload_n 0, 1) := dgs daL_law_1232 dbL_law_1232 65 91 rfl
theorem dL_law_1324 : decode cL_law 1324 = .ok (.iload 5, 2) := dgs daL_law_1232 dbL_law_1232 66 92 rfl
theorem dL_law_1326 : decode cL_law 1326 = .ok (.iconst 4, 1) := dgs daL_law_1232 dbL_law_1232 67 94 rfl
theorem dL_law_1327 : decode cL_law 1327 = .ok (.iadd, 1) := dgs daL_law_1232 dbL_law_1232 68 95 rfl
theorem dL_law_1328 : decode cL_law 1328 = .ok (.iaload, 1) := dgs daL_law_1232 dbL_law_1232 69 96 rfl
theorem dL_law_1329 : decode cL_law 1329 = .ok (.aload_n 3, 1) := dgs daL_law_1232 dbL_law_1232 70 97 rfl
theorem dL_law_1330 : decode cL_law 1330 = .ok (.invokestatic 301, 3) := dgs daL_law_1232 dbL_law_1232 71 98 rfl
theorem dL_law_1333 : decode cL_law 1333 = .ok (.istore 6, 2) := dgs daL_law_1232 dbL_law_1232 72 101 rfl
theorem dL_law_1335 : decode cL_law 1335 = .ok (.aload_n 2, 1) := dgs daL_law_1232 dbL_law_1232 73 103 rfl
theorem dL_law_1336 : decode cL_law 1336 = .ok (.aload_n 0, 1) := dgs daL_law_1232 dbL_law_1232 74 104 rfl
theorem dL_law_1337 : decode cL_law 1337 = .ok (.iload 5, 2) := dgs daL_law_1232 dbL_law_1232 75 105 rfl
theorem dL_law_1339 : decode cL_law 1339 = .ok (.iconst 1, 1) := dgs daL_law_1232 dbL_law_1232 76 107 rfl
theorem dL_law_1340 : decode cL_law 1340 = .ok (.iadd, 1) := dgs daL_law_1232 dbL_law_1232 77 108 rfl
theorem dL_law_1341 : decode cL_law 1341 = .ok (.iaload, 1) := dgs daL_law_1232 dbL_law_1232 78 109 rfl
theorem dL_law_1342 : decode cL_law 1342 = .ok (.aload_n 0, 1) := dgs daL_law_1232 dbL_law_1232 79 110 rfl
def dsL_law_1343 : ByteArray := ⟨#[21, 5, 5, 96, 46, 42, 21, 5, 6, 96, 46, 42, 21, 5, 7, 96, 46, 182, 1, 47, 54, 7, 167, 6, 23, 43, 42, 21, 5, 4, 96, 46, 42, 21, 5, 5, 96, 46, 42, 21, 5, 6, 96, 46, 45, 184, 1, 48, 54, 6, 44, 42, 21, 5, 4, 96, 46, 42, 21, 5, 5, 96, 46, 42, 21, 5, 6, 96, 46, 182, 1, 50, 54, 7, 167, 5, 227, 43, 42, 21, 5, 4, 96, 46, 42, 21, 5, 5, 96, 46, 42, 21, 5, 6, 96, 46, 45, 184, 1, 51, 54, 6, 44, 42, 21, 5, 4, 96, 46]⟩
theorem daL_law_1343 : agB cL_law dsL_law_1343 1343 := agB_of (n := 109) (by decide +kernel)
def dlL_law_1343 : List (Nat × Instr × Nat) := [(0, .iload 5, 2), (2, .iconst 2, 1), (3, .iadd, 1), (4, .iaload, 1), (5, .aload_n 0, 1), (6, .iload 5, 2), (8, .iconst 3, 1), (9, .iadd, 1), (10, .iaload, 1), (11, .aload_n 0, 1), (12, .iload 5, 2), (14, .iconst 4, 1), (15, .iadd, 1), (16, .iaload, 1), (17, .invokevirtual 303, 3), (20, .istore 7, 2), (22, .goto 1559, 3), (25, .aload_n 1, 1), (26, .aload_n 0, 1), (27, .iload 5, 2), (29, .iconst 1, 1), (30, .iadd, 1), (31, .iaload, 1), (32, .aload_n 0, 1), (33, .iload 5, 2), (35, .iconst 2, 1), (36, .iadd, 1), (37, .iaload, 1), (38, .aload_n 0, 1), (39, .iload 5, 2), (41, .iconst 3, 1), (42, .iadd, 1), (43, .iaload, 1), (44, .aload_n 3, 1), (45, .invokestatic 304, 3), (48, .istore 6, 2), (50, .aload_n 2, 1), (51, .aload_n 0, 1), (52, .iload 5, 2), (54, .iconst 1, 1), (55, .iadd, 1), (56, .iaload, 1), (57, .aload_n 0, 1), (58, .iload 5, 2), (60, .iconst 2, 1), (61, .iadd, 1), (62, .iaload, 1), (63, .aload_n 0, 1), (64, .iload 5, 2), (66, .iconst 3, 1), (67, .iadd, 1), (68, .iaload, 1), (69, .invokevirtual 306, 3), (72, .istore 7, 2), (74, .goto 1507, 3), (77, .aload_n 1, 1), (78, .aload_n 0, 1), (79, .iload 5, 2), (81, .iconst 1, 1), (82, .iadd, 1), (83, .iaload, 1), (84, .aload_n 0, 1), (85, .iload 5, 2), (87, .iconst 2, 1), (88, .iadd, 1), (89, .iaload, 1), (90, .aload_n 0, 1), (91, .iload 5, 2), (93, .iconst 3, 1), (94, .iadd, 1), (95, .iaload, 1), (96, .aload_n 3, 1), (97, .invokestatic 307, 3), (100, .istore 6, 2), (102, .aload_n 2, 1), (103, .aload_n 0, 1), (104, .iload 5, 2), (106, .iconst 1, 1), (107, .iadd, 1), (108, .iaload, 1)]
theorem dbL_law_1343 : ∀ z ∈ dlL_law_1343, decode dsL_law_1343 z.1 = Except.ok z.2 ∧ okop dsL_law_1343 z.1 = true := by decide +kernel
theorem dL_law_1343 : decode cL_law 1343 = .ok (.iload 5, 2) := dgs daL_law_1343 dbL_law_1343 0 0 rfl
theorem dL_law_1345 : decode cL_law 1345 = .ok (.iconst 2, 1) := dgs daL_law_1343 dbL_law_1343 1 2 rfl
theorem dL_law_1346 : decode cL_law 1346 = .ok (.iadd, 1) := dgs daL_law_1343 dbL_law_1343 2 3 rfl
theorem dL_law_1347 : decode cL_law 1347 = .ok (.iaload, 1) := dgs daL_law_1343 dbL_law_1343 3 4 rfl
theorem dL_law_1348 : decode cL_law 1348 = .ok (.aload_n 0, 1) := dgs daL_law_1343 dbL_law_1343 4 5 rfl
theorem dL_law_1349 : decode cL_law 1349 = .ok (.iload 5, 2) := dgs daL_law_1343 dbL_law_1343 5 6 rfl
theorem dL_law_1351 : decode cL_law 1351 = .ok (.iconst 3, 1) := dgs daL_law_1343 dbL_law_1343 6 8 rfl
theorem dL_law_1352 : decode cL_law 1352 = .ok (.iadd, 1) := dgs daL_law_1343 dbL_law_1343 7 9 rfl
theorem dL_law_1353 : decode cL_law 1353 = .ok (.iaload, 1) := dgs daL_law_1343 dbL_law_1343 8 10 rfl
theorem dL_law_1354 : decode cL_law 1354 = .ok (.aload_n 0, 1) := dgs daL_law_1343 dbL_law_1343 9 11 rfl
theorem dL_law_1355 : decode cL_law 1355 = .ok (.iload 5, 2) := dgs daL_law_1343 dbL_law_1343 10 12 rfl
theorem dL_law_1357 : decode cL_law 1357 = .ok (.iconst 4, 1) := dgs daL_law_1343 dbL_law_1343 11 14 rfl
theorem dL_law_1358 : decode cL_law 1358 = .ok (.iadd, 1) := dgs daL_law_1343 dbL_law_1343 12 15 rfl
theorem dL_law_1359 : decode cL_law 1359 = .ok (.iaload, 1) := dgs daL_law_1343 dbL_law_1343 13 16 rfl
theorem dL_law_1360 : decode cL_law 1360 = .ok (.invokevirtual 303, 3) := dgs daL_law_1343 dbL_law_1343 14 17 rfl
theorem dL_law_1363 : decode cL_law 1363 = .ok (.istore 7, 2) := dgs daL_law_1343 dbL_law_1343 15 20 rfl
theorem dL_law_1365 : decode cL_law 1365 = .ok (.goto 1559, 3) := dgs daL_law_1343 dbL_law_1343 16 22 rfl
theorem dL_law_1368 : decode cL_law 1368 = .ok (.aload_n 1, 1) := dgs daL_law_1343 dbL_law_1343 17 25 rfl
theorem dL_law_1369 : decode cL_law 1369 = .ok (.aload_n 0, 1) := dgs daL_law_1343 dbL_law_1343 18 26 rfl
theorem dL_law_1370 : decode cL_law 1370 = .ok (.iload 5, 2) := dgs daL_law_1343 dbL_law_1343 19 27 rfl
theorem dL_law_1372 : decode cL_law 1372 = .ok (.iconst 1, 1) := dgs daL_law_1343 dbL_law_1343 20 29 rfl
theorem dL_law_1373 : decode cL_law 1373 = .ok (.iadd, 1) := dgs daL_law_1343 dbL_law_1343 21 30 rfl
theorem dL_law_1374 : decode cL_law 1374 = .ok (.iaload, 1) := dgs daL_law_1343 dbL_law_1343 22 31 rfl
theorem dL_law_1375 : decode cL_law 1375 = .ok (.aload_n 0, 1) := dgs daL_law_1343 dbL_law_1343 23 32 rfl
theorem dL_law_1376 : decode cL_law 1376 = .ok (.iload 5, 2) := dgs daL_law_1343 dbL_law_1343 24 33 rfl
theorem dL_law_1378 : decode cL_law 1378 = .ok (.iconst 2, 1) := dgs daL_law_1343 dbL_law_1343 25 35 rfl
theorem dL_law_1379 : decode cL_law 1379 = .ok (.iadd, 1) := dgs daL_law_1343 dbL_law_1343 26 36 rfl
theorem dL_law_1380 : decode cL_law 1380 = .ok (.iaload, 1) := dgs daL_law_1343 dbL_law_1343 27 37 rfl
theorem dL_law_1381 : decode cL_law 1381 = .ok (.aload_n 0, 1) := dgs daL_law_1343 dbL_law_1343 28 38 rfl
theorem dL_law_1382 : decode cL_law 1382 = .ok (.iload 5, 2) := dgs daL_law_1343 dbL_law_1343 29 39 rfl
theorem dL_law_1384 : decode cL_law 1384 = .ok (.iconst 3, 1) := dgs daL_law_1343 dbL_law_1343 30 41 rfl
theorem dL_law_1385 : decode cL_law 1385 = .ok (.iadd, 1) := dgs daL_law_1343 dbL_law_1343 31 42 rfl
theorem dL_law_1386 : decode cL_law 1386 = .ok (.iaload, 1) := dgs daL_law_1343 dbL_law_1343 32 43 rfl
theorem dL_law_1387 : decode cL_law 1387 = .ok (.aload_n 3, 1) := dgs daL_law_1343 dbL_law_1343 33 44 rfl
theorem dL_law_1388 : decode cL_law 1388 = .ok (.invokestatic 304, 3) := dgs daL_law_1343 dbL_law_1343 34 45 rfl
theorem dL_law_1391 : decode cL_law 1391 = .ok (.istore 6, 2) := dgs daL_law_1343 dbL_law_1343 35 48 rfl
theorem dL_law_1393 : decode cL_law 1393 = .ok (.aload_n 2, 1) := dgs daL_law_1343 dbL_law_1343 36 50 rfl
theorem dL_law_1394 : decode cL_law 1394 = .ok (.aload_n 0, 1) := dgs daL_law_1343 dbL_law_1343 37 51 rfl
theorem dL_law_1395 : decode cL_law 1395 = .ok (.iload 5, 2) := dgs daL_law_1343 dbL_law_1343 38 52 rfl
theorem dL_law_1397 : decode cL_law 1397 = .ok (.iconst 1, 1) := dgs daL_law_1343 dbL_law_1343 39 54 rfl
theorem dL_law_1398 : decode cL_law 1398 = .ok (.iadd, 1) := dgs daL_law_1343 dbL_law_1343 40 55 rfl
theorem dL_law_1399 : decode cL_law 1399 = .ok (.iaload, 1) := dgs daL_law_1343 dbL_law_1343 41 56 rfl
theorem dL_law_1400 : decode cL_law 1400 = .ok (.aload_n 0, 1) := dgs daL_law_1343 dbL_law_1343 42 57 rfl
theorem dL_law_1401 : decode cL_law 1401 = .ok (.iload 5, 2) := dgs daL_law_1343 dbL_law_1343 43 58 rfl
theorem dL_law_1403 : decode cL_law 1403 = .ok (.iconst 2, 1) := dgs daL_law_1343 dbL_law_1343 44 60 rfl
theorem dL_law_1404 : decode cL_law 1404 = .ok (.iadd, 1) := dgs daL_law_1343 dbL_law_1343 45 61 rfl
theorem dL_law_1405 : decode cL_law 1405 = .ok (.iaload, 1) := dgs daL_law_1343 dbL_law_1343 46 62 rfl
theorem dL_law_1406 : decode cL_law 1406 = .ok (.aload_n 0, 1) := dgs daL_law_1343 dbL_law_1343 47 63 rfl
theorem dL_law_1407 : decode cL_law 1407 = .ok (.iload 5, 2) := dgs daL_law_1343 dbL_law_1343 48 64 rfl
theorem dL_law_1409 : decode cL_law 1409 = .ok (.iconst 3, 1) := dgs daL_law_1343 dbL_law_1343 49 66 rfl
theorem dL_law_1410 : decode cL_law 1410 = .ok (.iadd, 1) := dgs daL_law_1343 dbL_law_1343 50 67 rfl
theorem dL_law_1411 : decode cL_law 1411 = .ok (.iaload, 1) := dgs daL_law_1343 dbL_law_1343 51 68 rfl
theorem dL_law_1412 : decode cL_law 1412 = .ok (.invokevirtual 306, 3) := dgs daL_law_1343 dbL_law_1343 52 69 rfl
theorem dL_law_1415 : decode cL_law 1415 = .ok (.istore 7, 2) := dgs daL_law_1343 dbL_law_1343 53 72 rfl
theorem dL_law_1417 : decode cL_law 1417 = .ok (.goto 1507, 3) := dgs daL_law_1343 dbL_law_1343 54 74 rfl
theorem dL_law_1420 : decode cL_law 1420 = .ok (.aload_n 1, 1) := dgs daL_law_1343 dbL_law_1343 55 77 rfl
theorem dL_law_1421 : decode cL_law 1421 = .ok (.aload_n 0, 1) := dgs daL_law_1343 dbL_law_1343 56 78 rfl
theorem dL_law_1422 : decode cL_law 1422 = .ok (.iload 5, 2) := dgs daL_law_1343 dbL_law_1343 57 79 rfl
theorem dL_law_1424 : decode cL_law 1424 = .ok (.iconst 1, 1) := dgs daL_law_1343 dbL_law_1343 58 81 rfl
theorem dL_law_1425 : decode cL_law 1425 = .ok (.iadd, 1) := dgs daL_law_1343 dbL_law_1343 59 82 rfl
theorem dL_law_1426 : decode cL_law 1426 = .ok (.iaload, 1) := dgs daL_law_1343 dbL_law_1343 60 83 rfl
theorem dL_law_1427 : decode cL_law 1427 = .ok (.aload_n 0, 1) := dgs daL_law_1343 dbL_law_1343 61 84 rfl
theorem dL_law_1428 : decode cL_law 1428 = .ok (.iload 5, 2) := dgs daL_law_1343 dbL_law_1343 62 85 rfl
theorem dL_law_1430 : decode cL_law 1430 = .ok (.iconst 2, 1) := dgs daL_law_1343 dbL_law_1343 63 87 rfl
theorem dL_law_1431 : decode cL_law 1431 = .ok (.iadd, 1) := dgs daL_law_1343 dbL_law_1343 64 88 rfl
theorem dL_law_1432 : decode cL_law 1432 = .ok (.iaload, 1) := dgs daL_law_1343 dbL_law_1343 65 89 rfl
theorem dL_law_1433 : decode cL_law 1433 = .ok (.aload_n 0, 1) := dgs daL_law_1343 dbL_law_1343 66 90 rfl
theorem dL_law_1434 : decode cL_law 1434 = .ok (.iload 5, 2) := dgs daL_law_1343 dbL_law_1343 67 91 rfl
theorem dL_law_1436 : decode cL_law 1436 = .ok (.iconst 3, 1) := dgs daL_law_1343 dbL_law_1343 68 93 rfl
theorem dL_law_1437 : decode cL_law 1437 = .ok (.iadd, 1) := dgs daL_law_1343 dbL_law_1343 69 94 rfl
theorem dL_law_1438 : decode cL_law 1438 = .ok (.iaload, 1) := dgs daL_law_1343 dbL_law_1343 70 95 rfl
theorem dL_law_1439 : decode cL_law 1439 = .ok (.aload_n 3, 1) := dgs daL_law_1343 dbL_law_1343 71 96 rfl
theorem dL_law_1440 : decode cL_law 1440 = .ok (.invokestatic 307, 3) := dgs daL_law_1343 dbL_law_1343 72 97 rfl
theorem dL_law_1443 : decode cL_law 1443 = .ok (.istore 6, 2) := dgs daL_law_1343 dbL_law_1343 73 100 rfl
theorem dL_law_1445 : decode cL_law 1445 = .ok (.aload_n 2, 1) := dgs daL_law_1343 dbL_law_1343 74 102 rfl
theorem dL_law_1446 : decode cL_law 1446 = .ok (.aload_n 0, 1) := dgs daL_law_1343 dbL_law_1343 75 103 rfl
theorem dL_law_1447 : decode cL_law 1447 = .ok (.iload 5, 2) := dgs daL_law_1343 dbL_law_1343 76 104 rfl
theorem dL_law_1449 : decode cL_law 1449 = .ok (.iconst 1, 1) := dgs daL_law_1343 dbL_law_1343 77 106 rfl
theorem dL_law_1450 : decode cL_law 1450 = .ok (.iadd, 1) := dgs daL_law_1343 dbL_law_1343 78 107 rfl
theorem dL_law_1451 : decode cL_law 1451 = .ok (.iaload, 1) := dgs daL_law_1343 dbL_law_1343 79 108 rfl
def dsL_law_1452 : ByteArray := ⟨#[42, 21, 5, 5, 96, 46, 42, 21, 5, 6, 96, 46, 182, 1, 53, 54, 7, 167, 5, 175, 43, 42, 21, 5, 4, 96, 46, 42, 21, 5, 5, 96, 46, 45, 184, 1, 54, 54, 6, 44, 42, 21, 5, 4, 96, 46, 42, 21, 5, 5, 96, 46, 182, 1, 56, 54, 7, 167, 5, 135, 43, 42, 21, 5, 4, 96, 46, 45, 184, 1, 57, 54, 6, 44, 42, 21, 5, 4, 96, 46, 182, 1, 59, 54, 7, 167, 5, 107, 43, 42, 21, 5, 4, 96, 46, 42, 21, 5, 5, 96, 46, 42, 21, 5, 6, 96, 46, 45, 184, 1, 60, 54, 6, 44, 42]⟩
theorem daL_law_1452 : agB cL_law dsL_law_1452 1452 := agB_of (n := 115) (by decide +kernel)
def dlL_law_1452 : List (Nat × Instr × Nat) := [(0, .aload_n 0, 1), (1, .iload 5, 2), (3, .iconst 2, 1), (4, .iadd, 1), (5, .iaload, 1), (6, .aload_n 0, 1), (7, .iload 5, 2), (9, .iconst 3, 1), (10, .iadd, 1), (11, .iaload, 1), (12, .invokevirtual 309, 3), (15, .istore 7, 2), (17, .goto 1455, 3), (20, .aload_n 1, 1), (21, .aload_n 0, 1), (22, .iload 5, 2), (24, .iconst 1, 1), (25, .iadd, 1), (26, .iaload, 1), (27, .aload_n 0, 1), (28, .iload 5, 2), (30, .iconst 2, 1), (31, .iadd, 1), (32, .iaload, 1), (33, .aload_n 3, 1), (34, .invokestatic 310, 3), (37, .istore 6, 2), (39, .aload_n 2, 1), (40, .aload_n 0, 1), (41, .iload 5, 2), (43, .iconst 1, 1), (44, .iadd, 1), (45, .iaload, 1), (46, .aload_n 0, 1), (47, .iload 5, 2), (49, .iconst 2, 1), (50, .iadd, 1), (51, .iaload, 1), (52, .invokevirtual 312, 3), (55, .istore 7, 2), (57, .goto 1415, 3), (60, .aload_n 1, 1), (61, .aload_n 0, 1), (62, .iload 5, 2), (64, .iconst 1, 1), (65, .iadd, 1), (66, .iaload, 1), (67, .aload_n 3, 1), (68, .invokestatic 313, 3), (71, .istore 6, 2), (73, .aload_n 2, 1), (74, .aload_n 0, 1), (75, .iload 5, 2), (77, .iconst 1, 1), (78, .iadd, 1), (79, .iaload, 1), (80, .invokevirtual 315, 3), (83, .istore 7, 2), (85, .goto 1387, 3), (88, .aload_n 1, 1), (89, .aload_n 0, 1), (90, .iload 5, 2), (92, .iconst 1, 1), (93, .iadd, 1), (94, .iaload, 1), (95, .aload_n 0, 1), (96, .iload 5, 2), (98, .iconst 2, 1), (99, .iadd, 1), (100, .iaload, 1), (101, .aload_n 0, 1), (102, .iload 5, 2), (104, .iconst 3, 1), (105, .iadd, 1), (106, .iaload, 1), (107, .aload_n 3, 1), (108, .invokestatic 316, 3), (111, .istore 6, 2), (113, .aload_n 2, 1), (114, .aload_n 0, 1)]
theorem dbL_law_1452 : ∀ z ∈ dlL_law_1452, decode dsL_law_1452 z.1 = Except.ok z.2 ∧ okop dsL_law_1452 z.1 = true := by decide +kernel
theorem dL_law_1452 : decode cL_law 1452 = .ok (.aload_n 0, 1) := dgs daL_law_1452 dbL_law_1452 0 0 rfl
theorem dL_law_1453 : decode cL_law 1453 = .ok (.iload 5, 2) := dgs daL_law_1452 dbL_law_1452 1 1 rfl
theorem dL_law_1455 : decode cL_law 1455 = .ok (.iconst 2, 1) := dgs daL_law_1452 dbL_law_1452 2 3 rfl
theorem dL_law_1456 : decode cL_law 1456 = .ok (.iadd, 1) := dgs daL_law_1452 dbL_law_1452 3 4 rfl
theorem dL_law_1457 : decode cL_law 1457 = .ok (.iaload, 1) := dgs daL_law_1452 dbL_law_1452 4 5 rfl
theorem dL_law_1458 : decode cL_law 1458 = .ok (.aload_n 0, 1) := dgs daL_law_1452 dbL_law_1452 5 6 rfl
theorem dL_law_1459 : decode cL_law 1459 = .ok (.iload 5, 2) := dgs daL_law_1452 dbL_law_1452 6 7 rfl
theorem dL_law_1461 : decode cL_law 1461 = .ok (.iconst 3, 1) := dgs daL_law_1452 dbL_law_1452 7 9 rfl
theorem dL_law_1462 : decode cL_law 1462 = .ok (.iadd, 1) := dgs daL_law_1452 dbL_law_1452 8 10 rfl
theorem dL_law_1463 : decode cL_law 1463 = .ok (.iaload, 1) := dgs daL_law_1452 dbL_law_1452 9 11 rfl
theorem dL_law_1464 : decode cL_law 1464 = .ok (.invokevirtual 309, 3) := dgs daL_law_1452 dbL_law_1452 10 12 rfl
theorem dL_law_1467 : decode cL_law 1467 = .ok (.istore 7, 2) := dgs daL_law_1452 dbL_law_1452 11 15 rfl
theorem dL_law_1469 : decode cL_law 1469 = .ok (.goto 1455, 3) := dgs daL_law_1452 dbL_law_1452 12 17 rfl
theorem dL_law_1472 : decode cL_law 1472 = .ok (.aload_n 1, 1) := dgs daL_law_1452 dbL_law_1452 13 20 rfl
theorem dL_law_1473 : decode cL_law 1473 = .ok (.aload_n 0, 1) := dgs daL_law_1452 dbL_law_1452 14 21 rfl
theorem dL_law_1474 : decode cL_law 1474 = .ok (.iload 5, 2) := dgs daL_law_1452 dbL_law_1452 15 22 rfl
theorem dL_law_1476 : decode cL_law 1476 = .ok (.iconst 1, 1) := dgs daL_law_1452 dbL_law_1452 16 24 rfl
theorem dL_law_1477 : decode cL_law 1477 = .ok (.iadd, 1) := dgs daL_law_1452 dbL_law_1452 17 25 rfl
theorem dL_law_1478 : decode cL_law 1478 = .ok (.iaload, 1) := dgs daL_law_1452 dbL_law_1452 18 26 rfl
theorem dL_law_1479 : decode cL_law 1479 = .ok (.aload_n 0, 1) := dgs daL_law_1452 dbL_law_1452 19 27 rfl
theorem dL_law_1480 : decode cL_law 1480 = .ok (.iload 5, 2) := dgs daL_law_1452 dbL_law_1452 20 28 rfl
theorem dL_law_1482 : decode cL_law 1482 = .ok (.iconst 2, 1) := dgs daL_law_1452 dbL_law_1452 21 30 rfl
theorem dL_law_1483 : decode cL_law 1483 = .ok (.iadd, 1) := dgs daL_law_1452 dbL_law_1452 22 31 rfl
theorem dL_law_1484 : decode cL_law 1484 = .ok (.iaload, 1) := dgs daL_law_1452 dbL_law_1452 23 32 rfl
theorem dL_law_1485 : decode cL_law 1485 = .ok (.aload_n 3, 1) := dgs daL_law_1452 dbL_law_1452 24 33 rfl
theorem dL_law_1486 : decode cL_law 1486 = .ok (.invokestatic 310, 3) := dgs daL_law_1452 dbL_law_1452 25 34 rfl
theorem dL_law_1489 : decode cL_law 1489 = .ok (.istore 6, 2) := dgs daL_law_1452 dbL_law_1452 26 37 rfl
theorem dL_law_1491 : decode cL_law 1491 = .ok (.aload_n 2, 1) := dgs daL_law_1452 dbL_law_1452 27 39 rfl
theorem dL_law_1492 : decode cL_law 1492 = .ok (.aload_n 0, 1) := dgs daL_law_1452 dbL_law_1452 28 40 rfl
theorem dL_law_1493 : decode cL_law 1493 = .ok (.iload 5, 2) := dgs daL_law_1452 dbL_law_1452 29 41 rfl
theorem dL_law_1495 : decode cL_law 1495 = .ok (.iconst 1, 1) := dgs daL_law_1452 dbL_law_1452 30 43 rfl
theorem dL_law_1496 : decode cL_law 1496 = .ok (.iadd, 1) := dgs daL_law_1452 dbL_law_1452 31 44 rfl
theorem dL_law_1497 : decode cL_law 1497 = .ok (.iaload, 1) := dgs daL_law_1452 dbL_law_1452 32 45 rfl
theorem dL_law_1498 : decode cL_law 1498 = .ok (.aload_n 0, 1) := dgs daL_law_1452 dbL_law_1452 33 46 rfl
theorem dL_law_1499 : decode cL_law 1499 = .ok (.iload 5, 2) := dgs daL_law_1452 dbL_law_1452 34 47 rfl
theorem dL_law_1501 : decode cL_law 1501 = .ok (.iconst 2, 1) := dgs daL_law_1452 dbL_law_1452 35 49 rfl
theorem dL_law_1502 : decode cL_law 1502 = .ok (.iadd, 1) := dgs daL_law_1452 dbL_law_1452 36 50 rfl
theorem dL_law_1503 : decode cL_law 1503 = .ok (.iaload, 1) := dgs daL_law_1452 dbL_law_1452 37 51 rfl
theorem dL_law_1504 : decode cL_law 1504 = .ok (.invokevirtual 312, 3) := dgs daL_law_1452 dbL_law_1452 38 52 rfl
theorem dL_law_1507 : decode cL_law 1507 = .ok (.istore 7, 2) := dgs daL_law_1452 dbL_law_1452 39 55 rfl
theorem dL_law_1509 : decode cL_law 1509 = .ok (.goto 1415, 3) := dgs daL_law_1452 dbL_law_1452 40 57 rfl
theorem dL_law_1512 : decode cL_law 1512 = .ok (.aload_n 1, 1) := dgs daL_law_1452 dbL_law_1452 41 60 rfl
theorem dL_law_1513 : decode cL_law 1513 = .ok (.aload_n 0, 1) := dgs daL_law_1452 dbL_law_1452 42 61 rfl
theorem dL_law_1514 : decode cL_law 1514 = .ok (.iload 5, 2) := dgs daL_law_1452 dbL_law_1452 43 62 rfl
theorem dL_law_1516 : decode cL_law 1516 = .ok (.iconst 1, 1) := dgs daL_law_1452 dbL_law_1452 44 64 rfl
theorem dL_law_1517 : decode cL_law 1517 = .ok (.iadd, 1) := dgs daL_law_1452 dbL_law_1452 45 65 rfl
theorem dL_law_1518 : decode cL_law 1518 = .ok (.iaload, 1) := dgs daL_law_1452 dbL_law_1452 46 66 rfl
theorem dL_law_1519 : decode cL_law 1519 = .ok (.aload_n 3, 1) := dgs daL_law_1452 dbL_law_1452 47 67 rfl
theorem dL_law_1520 : decode cL_law 1520 = .ok (.invokestatic 313, 3) := dgs daL_law_1452 dbL_law_1452 48 68 rfl
theorem dL_law_1523 : decode cL_law 1523 = .ok (.istore 6, 2) := dgs daL_law_1452 dbL_law_1452 49 71 rfl
theorem dL_law_1525 : decode cL_law 1525 = .ok (.aload_n 2, 1) := dgs daL_law_1452 dbL_law_1452 50 73 rfl
theorem dL_law_1526 : decode cL_law 1526 = .ok (.aload_n 0, 1) := dgs daL_law_1452 dbL_law_1452 51 74 rfl
theorem dL_law_1527 : decode cL_law 1527 = .ok (.iload 5, 2) := dgs daL_law_1452 dbL_law_1452 52 75 rfl
theorem dL_law_1529 : decode cL_law 1529 = .ok (.iconst 1, 1) := dgs daL_law_1452 dbL_law_1452 53 77 rfl
theorem dL_law_1530 : decode cL_law 1530 = .ok (.iadd, 1) := dgs daL_law_1452 dbL_law_1452 54 78 rfl
theorem dL_law_1531 : decode cL_law 1531 = .ok (.iaload, 1) := dgs daL_law_1452 dbL_law_1452 55 79 rfl
theorem dL_law_1532 : decode cL_law 1532 = .ok (.invokevirtual 315, 3) := dgs daL_law_1452 dbL_law_1452 56 80 rfl
theorem dL_law_1535 : decode cL_law 1535 = .ok (.istore 7, 2) := dgs daL_law_1452 dbL_law_1452 57 83 rfl
theorem dL_law_1537 : decode cL_law 1537 = .ok (.goto 1387, 3) := dgs daL_law_1452 dbL_law_1452 58 85 rfl
theorem dL_law_1540 : decode cL_law 1540 = .ok (.aload_n 1, 1) := dgs daL_law_1452 dbL_law_1452 59 88 rfl
theorem dL_law_1541 : decode cL_law 1541 = .ok (.aload_n 0, 1) := dgs daL_law_1452 dbL_law_1452 60 89 rfl
theorem dL_law_1542 : decode cL_law 1542 = .ok (.iload 5, 2) := dgs daL_law_1452 dbL_law_1452 61 90 rfl
theorem dL_law_1544 : decode cL_law 1544 = .ok (.iconst 1, 1) := dgs daL_law_1452 dbL_law_1452 62 92 rfl
theorem dL_law_1545 : decode cL_law 1545 = .ok (.iadd, 1) := dgs daL_law_1452 dbL_law_1452 63 93 rfl
theorem dL_law_1546 : decode cL_law 1546 = .ok (.iaload, 1) := dgs daL_law_1452 dbL_law_1452 64 94 rfl
theorem dL_law_1547 : decode cL_law 1547 = .ok (.aload_n 0, 1) := dgs daL_law_1452 dbL_law_1452 65 95 rfl
theorem dL_law_1548 : decode cL_law 1548 = .ok (.iload 5, 2) := dgs daL_law_1452 dbL_law_1452 66 96 rfl
theorem dL_law_1550 : decode cL_law 1550 = .ok (.iconst 2, 1) := dgs daL_law_1452 dbL_law_1452 67 98 rfl
theorem dL_law_1551 : decode cL_law 1551 = .ok (.iadd, 1) := dgs daL_law_1452 dbL_law_1452 68 99 rfl
theorem dL_law_1552 : decode cL_law 1552 = .ok (.iaload, 1) := dgs daL_law_1452 dbL_law_1452 69 100 rfl
theorem dL_law_1553 : decode cL_law 1553 = .ok (.aload_n 0, 1) := dgs daL_law_1452 dbL_law_1452 70 101 rfl
theorem dL_law_1554 : decode cL_law 1554 = .ok (.iload 5, 2) := dgs daL_law_1452 dbL_law_1452 71 102 rfl
theorem dL_law_1556 : decode cL_law 1556 = .ok (.iconst 3, 1) := dgs daL_law_1452 dbL_law_1452 72 104 rfl
theorem dL_law_1557 : decode cL_law 1557 = .ok (.iadd, 1) := dgs daL_law_1452 dbL_law_1452 73 105 rfl
theorem dL_law_1558 : decode cL_law 1558 = .ok (.iaload, 1) := dgs daL_law_1452 dbL_law_1452 74 106 rfl
theorem dL_law_1559 : decode cL_law 1559 = .ok (.aload_n 3, 1) := dgs daL_law_1452 dbL_law_1452 75 107 rfl
theorem dL_law_1560 : decode cL_law 1560 = .ok (.invokestatic 316, 3) := dgs daL_law_1452 dbL_law_1452 76 108 rfl
theorem dL_law_1563 : decode cL_law 1563 = .ok (.istore 6, 2) := dgs daL_law_1452 dbL_law_1452 77 111 rfl
theorem dL_law_1565 : decode cL_law 1565 = .ok (.aload_n 2, 1) := dgs daL_law_1452 dbL_law_1452 78 113 rfl
theorem dL_law_1566 : decode cL_law 1566 = .ok (.aload_n 0, 1) := dgs daL_law_1452 dbL_law_1452 79 114 rfl
def dsL_law_1567 : ByteArray := ⟨#[21, 5, 4, 96, 46, 42, 21, 5, 5, 96, 46, 42, 21, 5, 6, 96, 46, 182, 1, 62, 54, 7, 167, 5, 55, 43, 42, 21, 5, 4, 96, 46, 42, 21, 5, 5, 96, 46, 45, 184, 1, 63, 54, 6, 44, 42, 21, 5, 4, 96, 46, 42, 21, 5, 5, 96, 46, 182, 1, 65, 54, 7, 167, 5, 15, 43, 42, 21, 5, 4, 96, 46, 45, 184, 1, 66, 54, 6, 44, 42, 21, 5, 4, 96, 46, 182, 1, 68, 54, 7, 167, 4, 243, 43, 42, 21, 5, 4, 96, 46, 42, 21, 5, 5, 96, 46, 42, 21, 5, 6, 96, 46, 42]⟩
theorem daL_law_1567 : agB cL_law dsL_law_1567 1567 := agB_of (n := 113) (by decide +kernel)
def dlL_law_1567 : List (Nat × Instr × Nat) := [(0, .iload 5, 2), (2, .iconst 1, 1), (3, .iadd, 1), (4, .iaload, 1), (5, .aload_n 0, 1), (6, .iload 5, 2), (8, .iconst 2, 1), (9, .iadd, 1), (10, .iaload, 1), (11, .aload_n 0, 1), (12, .iload 5, 2), (14, .iconst 3, 1), (15, .iadd, 1), (16, .iaload, 1), (17, .invokevirtual 318, 3), (20, .istore 7, 2), (22, .goto 1335, 3), (25, .aload_n 1, 1), (26, .aload_n 0, 1), (27, .iload 5, 2), (29, .iconst 1, 1), (30, .iadd, 1), (31, .iaload, 1), (32, .aload_n 0, 1), (33, .iload 5, 2), (35, .iconst 2, 1), (36, .iadd, 1), (37, .iaload, 1), (38, .aload_n 3, 1), (39, .invokestatic 319, 3), (42, .istore 6, 2), (44, .aload_n 2, 1), (45, .aload_n 0, 1), (46, .iload 5, 2), (48, .iconst 1, 1), (49, .iadd, 1), (50, .iaload, 1), (51, .aload_n 0, 1), (52, .iload 5, 2), (54, .iconst 2, 1), (55, .iadd, 1), (56, .iaload, 1), (57, .invokevirtual 321, 3), (60, .istore 7, 2), (62, .goto 1295, 3), (65, .aload_n 1, 1), (66, .aload_n 0, 1), (67, .iload 5, 2), (69, .iconst 1, 1), (70, .iadd, 1), (71, .iaload, 1), (72, .aload_n 3, 1), (73, .invokestatic 322, 3), (76, .istore 6, 2), (78, .aload_n 2, 1), (79, .aload_n 0, 1), (80, .iload 5, 2), (82, .iconst 1, 1), (83, .iadd, 1), (84, .iaload, 1), (85, .invokevirtual 324, 3), (88, .istore 7, 2), (90, .goto 1267, 3), (93, .aload_n 1, 1), (94, .aload_n 0, 1), (95, .iload 5, 2), (97, .iconst 1, 1), (98, .iadd, 1), (99, .iaload, 1), (100, .aload_n 0, 1), (101, .iload 5, 2), (103, .iconst 2, 1), (104, .iadd, 1), (105, .iaload, 1), (106, .aload_n 0, 1), (107, .iload 5, 2), (109, .iconst 3, 1), (110, .iadd, 1), (111, .iaload, 1), (112, .aload_n 0, 1)]
theorem dbL_law_1567 : ∀ z ∈ dlL_law_1567, decode dsL_law_1567 z.1 = Except.ok z.2 ∧ okop dsL_law_1567 z.1 = true := by decide +kernel
theorem dL_law_1567 : decode cL_law 1567 = .ok (.iload 5, 2) := dgs daL_law_1567 dbL_law_1567 0 0 rfl
theorem dL_law_1569 : decode cL_law 1569 = .ok (.iconst 1, 1) := dgs daL_law_1567 dbL_law_1567 1 2 rfl
theorem dL_law_1570 : decode cL_law 1570 = .ok (.iadd, 1) := dgs daL_law_1567 dbL_law_1567 2 3 rfl
theorem dL_law_1571 : decode cL_law 1571 = .ok (.iaload, 1) := dgs daL_law_1567 dbL_law_1567 3 4 rfl
theorem dL_law_1572 : decode cL_law 1572 = .ok (.aload_n 0, 1) := dgs daL_law_1567 dbL_law_1567 4 5 rfl
theorem dL_law_1573 : decode cL_law 1573 = .ok (.iload 5, 2) := dgs daL_law_1567 dbL_law_1567 5 6 rfl
theorem dL_law_1575 : decode cL_law 1575 = .ok (.iconst 2, 1) := dgs daL_law_1567 dbL_law_1567 6 8 rfl
theorem dL_law_1576 : decode cL_law 1576 = .ok (.iadd, 1) := dgs daL_law_1567 dbL_law_1567 7 9 rfl
theorem dL_law_1577 : decode cL_law 1577 = .ok (.iaload, 1) := dgs daL_law_1567 dbL_law_1567 8 10 rfl
theorem dL_law_1578 : decode cL_law 1578 = .ok (.aload_n 0, 1) := dgs daL_law_1567 dbL_law_1567 9 11 rfl
theorem dL_law_1579 : decode cL_law 1579 = .ok (.iload 5, 2) := dgs daL_law_1567 dbL_law_1567 10 12 rfl
theorem dL_law_1581 : decode cL_law 1581 = .ok (.iconst 3, 1) := dgs daL_law_1567 dbL_law_1567 11 14 rfl
theorem dL_law_1582 : decode cL_law 1582 = .ok (.iadd, 1) := dgs daL_law_1567 dbL_law_1567 12 15 rfl
theorem dL_law_1583 : decode cL_law 1583 = .ok (.iaload, 1) := dgs daL_law_1567 dbL_law_1567 13 16 rfl
theorem dL_law_1584 : decode cL_law 1584 = .ok (.invokevirtual 318, 3) := dgs daL_law_1567 dbL_law_1567 14 17 rfl
theorem dL_law_1587 : decode cL_law 1587 = .ok (.istore 7, 2) := dgs daL_law_1567 dbL_law_1567 15 20 rfl
theorem dL_law_1589 : decode cL_law 1589 = .ok (.goto 1335, 3) := dgs daL_law_1567 dbL_law_1567 16 22 rfl
theorem dL_law_1592 : decode cL_law 1592 = .ok (.aload_n 1, 1) := dgs daL_law_1567 dbL_law_1567 17 25 rfl
theorem dL_law_1593 : decode cL_law 1593 = .ok (.aload_n 0, 1) := dgs daL_law_1567 dbL_law_1567 18 26 rfl
theorem dL_law_1594 : decode cL_law 1594 = .ok (.iload 5, 2) := dgs daL_law_1567 dbL_law_1567 19 27 rfl
theorem dL_law_1596 : decode cL_law 1596 = .ok (.iconst 1, 1) := dgs daL_law_1567 dbL_law_1567 20 29 rfl
theorem dL_law_1597 : decode cL_law 1597 = .ok (.iadd, 1) := dgs daL_law_1567 dbL_law_1567 21 30 rfl
theorem dL_law_1598 : decode cL_law 1598 = .ok (.iaload, 1) := dgs daL_law_1567 dbL_law_1567 22 31 rfl
theorem dL_law_1599 : decode cL_law 1599 = .ok (.aload_n 0, 1) := dgs daL_law_1567 dbL_law_1567 23 32 rfl
theorem dL_law_1600 : decode cL_law 1600 = .ok (.iload 5, 2) := dgs daL_law_1567 dbL_law_1567 24 33 rfl
theorem dL_law_1602 : decode cL_law 1602 = .ok (.iconst 2, 1) := dgs daL_law_1567 dbL_law_1567 25 35 rfl
theorem dL_law_1603 : decode cL_law 1603 = .ok (.iadd, 1) := dgs daL_law_1567 dbL_law_1567 26 36 rfl
theorem dL_law_1604 : decode cL_law 1604 = .ok (.iaload, 1) := dgs daL_law_1567 dbL_law_1567 27 37 rfl
theorem dL_law_1605 : decode cL_law 1605 = .ok (.aload_n 3, 1) := dgs daL_law_1567 dbL_law_1567 28 38 rfl
theorem dL_law_1606 : decode cL_law 1606 = .ok (.invokestatic 319, 3) := dgs daL_law_1567 dbL_law_1567 29 39 rfl
theorem dL_law_1609 : decode cL_law 1609 = .ok (.istore 6, 2) := dgs daL_law_1567 dbL_law_1567 30 42 rfl
theorem dL_law_1611 : decode cL_law 1611 = .ok (.aload_n 2, 1) := dgs daL_law_1567 dbL_law_1567 31 44 rfl
theorem dL_law_1612 : decode cL_law 1612 = .ok (.aload_n 0, 1) := dgs daL_law_1567 dbL_law_1567 32 45 rfl
theorem dL_law_1613 : decode cL_law 1613 = .ok (.iload 5, 2) := dgs daL_law_1567 dbL_law_1567 33 46 rfl
theorem dL_law_1615 : decode cL_law 1615 = .ok (.iconst 1, 1) := dgs daL_law_1567 dbL_law_1567 34 48 rfl
theorem dL_law_1616 : decode cL_law 1616 = .ok (.iadd, 1) := dgs daL_law_1567 dbL_law_1567 35 49 rfl
theorem dL_law_1617 : decode cL_law 1617 = .ok (.iaload, 1) := dgs daL_law_1567 dbL_law_1567 36 50 rfl
theorem dL_law_1618 : decode cL_law 1618 = .ok (.aload_n 0, 1) := dgs daL_law_1567 dbL_law_1567 37 51 rfl
theorem dL_law_1619 : decode cL_law 1619 = .ok (.iload 5, 2) := dgs daL_law_1567 dbL_law_1567 38 52 rfl
theorem dL_law_1621 : decode cL_law 1621 = .ok (.iconst 2, 1) := dgs daL_law_1567 dbL_law_1567 39 54 rfl
theorem dL_law_1622 : decode cL_law 1622 = .ok (.iadd, 1) := dgs daL_law_1567 dbL_law_1567 40 55 rfl
theorem dL_law_1623 : decode cL_law 1623 = .ok (.iaload, 1) := dgs daL_law_1567 dbL_law_1567 41 56 rfl
theorem dL_law_1624 : decode cL_law 1624 = .ok (.invokevirtual 321, 3) := dgs daL_law_1567 dbL_law_1567 42 57 rfl
theorem dL_law_1627 : decode cL_law 1627 = .ok (.istore 7, 2) := dgs daL_law_1567 dbL_law_1567 43 60 rfl
theorem dL_law_1629 : decode cL_law 1629 = .ok (.goto 1295, 3) := dgs daL_law_1567 dbL_law_1567 44 62 rfl
theorem dL_law_1632 : decode cL_law 1632 = .ok (.aload_n 1, 1) := dgs daL_law_1567 dbL_law_1567 45 65 rfl
theorem dL_law_1633 : decode cL_law 1633 = .ok (.aload_n 0, 1) := dgs daL_law_1567 dbL_law_1567 46 66 rfl
theorem dL_law_1634 : decode cL_law 1634 = .ok (.iload 5, 2) := dgs daL_law_1567 dbL_law_1567 47 67 rfl
theorem dL_law_1636 : decode cL_law 1636 = .ok (.iconst 1, 1) := dgs daL_law_1567 dbL_law_1567 48 69 rfl
theorem dL_law_1637 : decode cL_law 1637 = .ok (.iadd, 1) := dgs daL_law_1567 dbL_law_1567 49 70 rfl
theorem dL_law_1638 : decode cL_law 1638 = .ok (.iaload, 1) := dgs daL_law_1567 dbL_law_1567 50 71 rfl
theorem dL_law_1639 : decode cL_law 1639 = .ok (.aload_n 3, 1) := dgs daL_law_1567 dbL_law_1567 51 72 rfl
theorem dL_law_1640 : decode cL_law 1640 = .ok (.invokestatic 322, 3) := dgs daL_law_1567 dbL_law_1567 52 73 rfl
theorem dL_law_1643 : decode cL_law 1643 = .ok (.istore 6, 2) := dgs daL_law_1567 dbL_law_1567 53 76 rfl
theorem dL_law_1645 : decode cL_law 1645 = .ok (.aload_n 2, 1) := dgs daL_law_1567 dbL_law_1567 54 78 rfl
theorem dL_law_1646 : decode cL_law 1646 = .ok (.aload_n 0, 1) := dgs daL_law_1567 dbL_law_1567 55 79 rfl
theorem dL_law_1647 : decode cL_law 1647 = .ok (.iload 5, 2) := dgs daL_law_1567 dbL_law_1567 56 80 rfl
theorem dL_law_1649 : decode cL_law 1649 = .ok (.iconst 1, 1) := dgs daL_law_1567 dbL_law_1567 57 82 rfl
theorem dL_law_1650 : decode cL_law 1650 = .ok (.iadd, 1) := dgs daL_law_1567 dbL_law_1567 58 83 rfl
theorem dL_law_1651 : decode cL_law 1651 = .ok (.iaload, 1) := dgs daL_law_1567 dbL_law_1567 59 84 rfl
theorem dL_law_1652 : decode cL_law 1652 = .ok (.invokevirtual 324, 3) := dgs daL_law_1567 dbL_law_1567 60 85 rfl
theorem dL_law_1655 : decode cL_law 1655 = .ok (.istore 7, 2) := dgs daL_law_1567 dbL_law_1567 61 88 rfl
theorem dL_law_1657 : decode cL_law 1657 = .ok (.goto 1267, 3) := dgs daL_law_1567 dbL_law_1567 62 90 rfl
theorem dL_law_1660 : decode cL_law 1660 = .ok (.aload_n 1, 1) := dgs daL_law_1567 dbL_law_1567 63 93 rfl
theorem dL_law_1661 : decode cL_law 1661 = .ok (.aload_n 0, 1) := dgs daL_law_1567 dbL_law_1567 64 94 rfl
theorem dL_law_1662 : decode cL_law 1662 = .ok (.iload 5, 2) := dgs daL_law_1567 dbL_law_1567 65 95 rfl
theorem dL_law_1664 : decode cL_law 1664 = .ok (.iconst 1, 1) := dgs daL_law_1567 dbL_law_1567 66 97 rfl
theorem dL_law_1665 : decode cL_law 1665 = .ok (.iadd, 1) := dgs daL_law_1567 dbL_law_1567 67 98 rfl
theorem dL_law_1666 : decode cL_law 1666 = .ok (.iaload, 1) := dgs daL_law_1567 dbL_law_1567 68 99 rfl
theorem dL_law_1667 : decode cL_law 1667 = .ok (.aload_n 0, 1) := dgs daL_law_1567 dbL_law_1567 69 100 rfl
theorem dL_law_1668 : decode cL_law 1668 = .ok (.iload 5, 2) := dgs daL_law_1567 dbL_law_1567 70 101 rfl
theorem dL_law_1670 : decode cL_law 1670 = .ok (.iconst 2, 1) := dgs daL_law_1567 dbL_law_1567 71 103 rfl
theorem dL_law_1671 : decode cL_law 1671 = .ok (.iadd, 1) := dgs daL_law_1567 dbL_law_1567 72 104 rfl
theorem dL_law_1672 : decode cL_law 1672 = .ok (.iaload, 1) := dgs daL_law_1567 dbL_law_1567 73 105 rfl
theorem dL_law_1673 : decode cL_law 1673 = .ok (.aload_n 0, 1) := dgs daL_law_1567 dbL_law_1567 74 106 rfl
theorem dL_law_1674 : decode cL_law 1674 = .ok (.iload 5, 2) := dgs daL_law_1567 dbL_law_1567 75 107 rfl
theorem dL_law_1676 : decode cL_law 1676 = .ok (.iconst 3, 1) := dgs daL_law_1567 dbL_law_1567 76 109 rfl
theorem dL_law_1677 : decode cL_law 1677 = .ok (.iadd, 1) := dgs daL_law_1567 dbL_law_1567 77 110 rfl
theorem dL_law_1678 : decode cL_law 1678 = .ok (.iaload, 1) := dgs daL_law_1567 dbL_law_1567 78 111 rfl
theorem dL_law_1679 : decode cL_law 1679 = .ok (.aload_n 0, 1) := dgs daL_law_1567 dbL_law_1567 79 112 rfl
def dsL_law_1680 : ByteArray := ⟨#[21, 5, 7, 96, 46, 45, 184, 1, 69, 54, 6, 44, 42, 21, 5, 4, 96, 46, 42, 21, 5, 5, 96, 46, 42, 21, 5, 6, 96, 46, 42, 21, 5, 7, 96, 46, 182, 1, 71, 54, 7, 167, 4, 179, 43, 42, 21, 5, 4, 96, 46, 42, 21, 5, 5, 96, 46, 42, 21, 5, 6, 96, 46, 45, 184, 1, 72, 54, 6, 44, 42, 21, 5, 4, 96, 46, 42, 21, 5, 5, 96, 46, 42, 21, 5, 6, 96, 46, 182, 1, 74, 54, 7, 167, 4, 127, 43, 42, 21, 5, 4, 96, 46, 42, 21, 5, 5, 96, 46]⟩
theorem daL_law_1680 : agB cL_law dsL_law_1680 1680 := agB_of (n := 109) (by decide +kernel)
def dlL_law_1680 : List (Nat × Instr × Nat) := [(0, .iload 5, 2), (2, .iconst 4, 1), (3, .iadd, 1), (4, .iaload, 1), (5, .aload_n 3, 1), (6, .invokestatic 325, 3), (9, .istore 6, 2), (11, .aload_n 2, 1), (12, .aload_n 0, 1), (13, .iload 5, 2), (15, .iconst 1, 1), (16, .iadd, 1), (17, .iaload, 1), (18, .aload_n 0, 1), (19, .iload 5, 2), (21, .iconst 2, 1), (22, .iadd, 1), (23, .iaload, 1), (24, .aload_n 0, 1), (25, .iload 5, 2), (27, .iconst 3, 1), (28, .iadd, 1), (29, .iaload, 1), (30, .aload_n 0, 1), (31, .iload 5, 2), (33, .iconst 4, 1), (34, .iadd, 1), (35, .iaload, 1), (36, .invokevirtual 327, 3), (39, .istore 7, 2), (41, .goto 1203, 3), (44, .aload_n 1, 1), (45, .aload_n 0, 1), (46, .iload 5, 2), (48, .iconst 1, 1), (49, .iadd, 1), (50, .iaload, 1), (51, .aload_n 0, 1), (52, .iload 5, 2), (54, .iconst 2, 1), (55, .iadd, 1), (56, .iaload, 1), (57, .aload_n 0, 1), (58, .iload 5, 2), (60, .iconst 3, 1), (61, .iadd, 1), (62, .iaload, 1), (63, .aload_n 3, 1), (64, .invokestatic 328, 3), (67, .istore 6, 2), (69, .aload_n 2, 1), (70, .aload_n 0, 1), (71, .iload 5, 2), (73, .iconst 1, 1), (74, .iadd, 1), (75, .iaload, 1), (76, .aload_n 0, 1), (77, .iload 5, 2), (79, .iconst 2, 1), (80, .iadd, 1), (81, .iaload, 1), (82, .aload_n 0, 1), (83, .iload 5, 2), (85, .iconst 3, 1), (86, .iadd, 1), (87, .iaload, 1), (88, .invokevirtual 330, 3), (91, .istore 7, 2), (93, .goto 1151, 3), (96, .aload_n 1, 1), (97, .aload_n 0, 1), (98, .iload 5, 2), (100, .iconst 1, 1), (101, .iadd, 1), (102, .iaload, 1), (103, .aload_n 0, 1), (104, .iload 5, 2), (106, .iconst 2, 1), (107, .iadd, 1), (108, .iaload, 1)]
theorem dbL_law_1680 : ∀ z ∈ dlL_law_1680, decode dsL_law_1680 z.1 = Except.ok z.2 ∧ okop dsL_law_1680 z.1 = true := by decide +kernel
theorem dL_law_1680 : decode cL_law 1680 = .ok (.iload 5, 2) := dgs daL_law_1680 dbL_law_1680 0 0 rfl
theorem dL_law_1682 : decode cL_law 1682 = .ok (.iconst 4, 1) := dgs daL_law_1680 dbL_law_1680 1 2 rfl
theorem dL_law_1683 : decode cL_law 1683 = .ok (.iadd, 1) := dgs daL_law_1680 dbL_law_1680 2 3 rfl
theorem dL_law_1684 : decode cL_law 1684 = .ok (.iaload, 1) := dgs daL_law_1680 dbL_law_1680 3 4 rfl
theorem dL_law_1685 : decode cL_law 1685 = .ok (.aload_n 3, 1) := dgs daL_law_1680 dbL_law_1680 4 5 rfl
theorem dL_law_1686 : decode cL_law 1686 = .ok (.invokestatic 325, 3) := dgs daL_law_1680 dbL_law_1680 5 6 rfl
theorem dL_law_1689 : decode cL_law 1689 = .ok (.istore 6, 2) := dgs daL_law_1680 dbL_law_1680 6 9 rfl
theorem dL_law_1691 : decode cL_law 1691 = .ok (.aload_n 2, 1) := dgs daL_law_1680 dbL_law_1680 7 11 rfl
theorem dL_law_1692 : decode cL_law 1692 = .ok (.aload_n 0, 1) := dgs daL_law_1680 dbL_law_1680 8 12 rfl
theorem dL_law_1693 : decode cL_law 1693 = .ok (.iload 5, 2) := dgs daL_law_1680 dbL_law_1680 9 13 rfl
theorem dL_law_1695 : decode cL_law 1695 = .ok (.iconst 1, 1) := dgs daL_law_1680 dbL_law_1680 10 15 rfl
theorem dL_law_1696 : decode cL_law 1696 = .ok (.iadd, 1) := dgs daL_law_1680 dbL_law_1680 11 16 rfl
theorem dL_law_1697 : decode cL_law 1697 = .ok (.iaload, 1) := dgs daL_law_1680 dbL_law_1680 12 17 rfl
theorem dL_law_1698 : decode cL_law 1698 = .ok (.aload_n 0, 1) := dgs daL_law_1680 dbL_law_1680 13 18 rfl
theorem dL_law_1699 : decode cL_law 1699 = .ok (.iload 5, 2) := dgs daL_law_1680 dbL_law_1680 14 19 rfl
theorem dL_law_1701 : decode cL_law 1701 = .ok (.iconst 2, 1) := dgs daL_law_1680 dbL_law_1680 15 21 rfl
theorem dL_law_1702 : decode cL_law 1702 = .ok (.iadd, 1) := dgs daL_law_1680 dbL_law_1680 16 22 rfl
theorem dL_law_1703 : decode cL_law 1703 = .ok (.iaload, 1) := dgs daL_law_1680 dbL_law_1680 17 23 rfl
theorem dL_law_1704 : decode cL_law 1704 = .ok (.aload_n 0, 1) := dgs daL_law_1680 dbL_law_1680 18 24 rfl
theorem dL_law_1705 : decode cL_law 1705 = .ok (.iload 5, 2) := dgs daL_law_1680 dbL_law_1680 19 25 rfl
theorem dL_law_1707 : decode cL_law 1707 = .ok (.iconst 3, 1) := dgs daL_law_1680 dbL_law_1680 20 27 rfl
theorem dL_law_1708 : decode cL_law 1708 = .ok (.iadd, 1) := dgs daL_law_1680 dbL_law_1680 21 28 rfl
theorem dL_law_1709 : decode cL_law 1709 = .ok (.iaload, 1) := dgs daL_law_1680 dbL_law_1680 22 29 rfl
theorem dL_law_1710 : decode cL_law 1710 = .ok (.aload_n 0, 1) := dgs daL_law_1680 dbL_law_1680 23 30 rfl
theorem dL_law_1711 : decode cL_law 1711 = .ok (.iload 5, 2) := dgs daL_law_1680 dbL_law_1680 24 31 rfl
theorem dL_law_1713 : decode cL_law 1713 = .ok (.iconst 4, 1) := dgs daL_law_1680 dbL_law_1680 25 33 rfl
theorem dL_law_1714 : decode cL_law 1714 = .ok (.iadd, 1) := dgs daL_law_1680 dbL_law_1680 26 34 rfl
theorem dL_law_1715 : decode cL_law 1715 = .ok (.iaload, 1) := dgs daL_law_1680 dbL_law_1680 27 35 rfl
theorem dL_law_1716 : decode cL_law 1716 = .ok (.invokevirtual 327, 3) := dgs daL_law_1680 dbL_law_1680 28 36 rfl
theorem dL_law_1719 : decode cL_law 1719 = .ok (.istore 7, 2) := dgs daL_law_1680 dbL_law_1680 29 39 rfl
theorem dL_law_1721 : decode cL_law 1721 = .ok (.goto 1203, 3) := dgs daL_law_1680 dbL_law_1680 30 41 rfl
theorem dL_law_1724 : decode cL_law 1724 = .ok (.aload_n 1, 1) := dgs daL_law_1680 dbL_law_1680 31 44 rfl
theorem dL_law_1725 : decode cL_law 1725 = .ok (.aload_n 0, 1) := dgs daL_law_1680 dbL_law_1680 32 45 rfl
theorem dL_law_1726 : decode cL_law 1726 = .ok (.iload 5, 2) := dgs daL_law_1680 dbL_law_1680 33 46 rfl
theorem dL_law_1728 : decode cL_law 1728 = .ok (.iconst 1, 1) := dgs daL_law_1680 dbL_law_1680 34 48 rfl
theorem dL_law_1729 : decode cL_law 1729 = .ok (.iadd, 1) := dgs daL_law_1680 dbL_law_1680 35 49 rfl
theorem dL_law_1730 : decode cL_law 1730 = .ok (.iaload, 1) := dgs daL_law_1680 dbL_law_1680 36 50 rfl
theorem dL_law_1731 : decode cL_law 1731 = .ok (.aload_n 0, 1) := dgs daL_law_1680 dbL_law_1680 37 51 rfl
theorem dL_law_1732 : decode cL_law 1732 = .ok (.iload 5, 2) := dgs daL_law_1680 dbL_law_1680 38 52 rfl
theorem dL_law_1734 : decode cL_law 1734 = .ok (.iconst 2, 1) := dgs daL_law_1680 dbL_law_1680 39 54 rfl
theorem dL_law_1735 : decode cL_law 1735 = .ok (.iadd, 1) := dgs daL_law_1680 dbL_law_1680 40 55 rfl
theorem dL_law_1736 : decode cL_law 1736 = .ok (.iaload, 1) := dgs daL_law_1680 dbL_law_1680 41 56 rfl
theorem dL_law_1737 : decode cL_law 1737 = .ok (.aload_n 0, 1) := dgs daL_law_1680 dbL_law_1680 42 57 rfl
theorem dL_law_1738 : decode cL_law 1738 = .ok (.iload 5, 2) := dgs daL_law_1680 dbL_law_1680 43 58 rfl
theorem dL_law_1740 : decode cL_law 1740 = .ok (.iconst 3, 1) := dgs daL_law_1680 dbL_law_1680 44 60 rfl
theorem dL_law_1741 : decode cL_law 1741 = .ok (.iadd, 1) := dgs daL_law_1680 dbL_law_1680 45 61 rfl
theorem dL_law_1742 : decode cL_law 1742 = .ok (.iaload, 1) := dgs daL_law_1680 dbL_law_1680 46 62 rfl
theorem dL_law_1743 : decode cL_law 1743 = .ok (.aload_n 3, 1) := dgs daL_law_1680 dbL_law_1680 47 63 rfl
theorem dL_law_1744 : decode cL_law 1744 = .ok (.invokestatic 328, 3) := dgs daL_law_1680 dbL_law_1680 48 64 rfl
theorem dL_law_1747 : decode cL_law 1747 = .ok (.istore 6, 2) := dgs daL_law_1680 dbL_law_1680 49 67 rfl
theorem dL_law_1749 : decode cL_law 1749 = .ok (.aload_n 2, 1) := dgs daL_law_1680 dbL_law_1680 50 69 rfl
theorem dL_law_1750 : decode cL_law 1750 = .ok (.aload_n 0, 1) := dgs daL_law_1680 dbL_law_1680 51 70 rfl
theorem dL_law_1751 : decode cL_law 1751 = .ok (.iload 5, 2) := dgs daL_law_1680 dbL_law_1680 52 71 rfl
theorem dL_law_1753 : decode cL_law 1753 = .ok (.iconst 1, 1) := dgs daL_law_1680 dbL_law_1680 53 73 rfl
theorem dL_law_1754 : decode cL_law 1754 = .ok (.iadd, 1) := dgs daL_law_1680 dbL_law_1680 54 74 rfl
theorem dL_law_1755 : decode cL_law 1755 = .ok (.iaload, 1) := dgs daL_law_1680 dbL_law_1680 55 75 rfl
theorem dL_law_1756 : decode cL_law 1756 = .ok (.aload_n 0, 1) := dgs daL_law_1680 dbL_law_1680 56 76 rfl
theorem dL_law_1757 : decode cL_law 1757 = .ok (.iload 5, 2) := dgs daL_law_1680 dbL_law_1680 57 77 rfl
theorem dL_law_1759 : decode cL_law 1759 = .ok (.iconst 2, 1) := dgs daL_law_1680 dbL_law_1680 58 79 rfl
theorem dL_law_1760 : decode cL_law 1760 = .ok (.iadd, 1) := dgs daL_law_1680 dbL_law_1680 59 80 rfl
theorem dL_law_1761 : decode cL_law 1761 = .ok (.iaload, 1) := dgs daL_law_1680 dbL_law_1680 60 81 rfl
theorem dL_law_1762 : decode cL_law 1762 = .ok (.aload_n 0, 1) := dgs daL_law_1680 dbL_law_1680 61 82 rfl
theorem dL_law_1763 : decode cL_law 1763 = .ok (.iload 5, 2) := dgs daL_law_1680 dbL_law_1680 62 83 rfl
theorem dL_law_1765 : decode cL_law 1765 = .ok (.iconst 3, 1) := dgs daL_law_1680 dbL_law_1680 63 85 rfl
theorem dL_law_1766 : decode cL_law 1766 = .ok (.iadd, 1) := dgs daL_law_1680 dbL_law_1680 64 86 rfl
theorem dL_law_1767 : decode cL_law 1767 = .ok (.iaload, 1) := dgs daL_law_1680 dbL_law_1680 65 87 rfl
theorem dL_law_1768 : decode cL_law 1768 = .ok (.invokevirtual 330, 3) := dgs daL_law_1680 dbL_law_1680 66 88 rfl
theorem dL_law_1771 : decode cL_law 1771 = .ok (.istore 7, 2) := dgs daL_law_1680 dbL_law_1680 67 91 rfl
theorem dL_law_1773 : decode cL_law 1773 = .ok (.goto 1151, 3) := dgs daL_law_1680 dbL_law_1680 68 93 rfl
theorem dL_law_1776 : decode cL_law 1776 = .ok (.aload_n 1, 1) := dgs daL_law_1680 dbL_law_1680 69 96 rfl
theorem dL_law_1777 : decode cL_law 1777 = .ok (.aload_n 0, 1) := dgs daL_law_1680 dbL_law_1680 70 97 rfl
theorem dL_law_1778 : decode cL_law 1778 = .ok (.iload 5, 2) := dgs daL_law_1680 dbL_law_1680 71 98 rfl
theorem dL_law_1780 : decode cL_law 1780 = .ok (.iconst 1, 1) := dgs daL_law_1680 dbL_law_1680 72 100 rfl
theorem dL_law_1781 : decode cL_law 1781 = .ok (.iadd, 1) := dgs daL_law_1680 dbL_law_1680 73 101 rfl
theorem dL_law_1782 : decode cL_law 1782 = .ok (.iaload, 1) := dgs daL_law_1680 dbL_law_1680 74 102 rfl
theorem dL_law_1783 : decode cL_law 1783 = .ok (.aload_n 0, 1) := dgs daL_law_1680 dbL_law_1680 75 103 rfl
theorem dL_law_1784 : decode cL_law 1784 = .ok (.iload 5, 2) := dgs daL_law_1680 dbL_law_1680 76 104 rfl
theorem dL_law_1786 : decode cL_law 1786 = .ok (.iconst 2, 1) := dgs daL_law_1680 dbL_law_1680 77 106 rfl
theorem dL_law_1787 : decode cL_law 1787 = .ok (.iadd, 1) := dgs daL_law_1680 dbL_law_1680 78 107 rfl
theorem dL_law_1788 : decode cL_law 1788 = .ok (.iaload, 1) := dgs daL_law_1680 dbL_law_1680 79 108 rfl
def dsL_law_1789 : ByteArray := ⟨#[42, 21, 5, 6, 96, 46, 153, 0, 7, 4, 167, 0, 4, 3, 45, 184, 1, 75, 54, 6, 44, 42, 21, 5, 4, 96, 46, 42, 21, 5, 5, 96, 46, 42, 21, 5, 6, 96, 46, 153, 0, 7, 4, 167, 0, 4, 3, 182, 1, 78, 54, 7, 167, 4, 59, 43, 42, 21, 5, 4, 96, 46, 45, 184, 1, 79, 54, 6, 44, 42, 21, 5, 4, 96, 46, 182, 1, 81, 54, 7, 167, 4, 31, 43, 42, 21, 5, 4, 96, 46, 45, 184, 1, 82, 54, 6, 44, 42, 21, 5, 4, 96, 46, 182, 1, 84, 54, 7, 167, 4, 3, 43, 42, 21, 5, 4, 96, 46, 42, 21, 5]⟩
theorem daL_law_1789 : agB cL_law dsL_law_1789 1789 := agB_of (n := 121) (by decide +kernel)
def dlL_law_1789 : List (Nat × Instr × Nat) := [(0, .aload_n 0, 1), (1, .iload 5, 2), (3, .iconst 3, 1), (4, .iadd, 1), (5, .iaload, 1), (6, .ifCond .eq 7, 3), (9, .iconst 1, 1), (10, .goto 4, 3), (13, .iconst 0, 1), (14, .aload_n 3, 1), (15, .invokestatic 331, 3), (18, .istore 6, 2), (20, .aload_n 2, 1), (21, .aload_n 0, 1), (22, .iload 5, 2), (24, .iconst 1, 1), (25, .iadd, 1), (26, .iaload, 1), (27, .aload_n 0, 1), (28, .iload 5, 2), (30, .iconst 2, 1), (31, .iadd, 1), (32, .iaload, 1), (33, .aload_n 0, 1), (34, .iload 5, 2), (36, .iconst 3, 1), (37, .iadd, 1), (38, .iaload, 1), (39, .ifCond .eq 7, 3), (42, .iconst 1, 1), (43, .goto 4, 3), (46, .iconst 0, 1), (47, .invokevirtual 334, 3), (50, .istore 7, 2), (52, .goto 1083, 3), (55, .aload_n 1, 1), (56, .aload_n 0, 1), (57, .iload 5, 2), (59, .iconst 1, 1), (60, .iadd, 1), (61, .iaload, 1), (62, .aload_n 3, 1), (63, .invokestatic 335, 3), (66, .istore 6, 2), (68, .aload_n 2, 1), (69, .aload_n 0, 1), (70, .iload 5, 2), (72, .iconst 1, 1), (73, .iadd, 1), (74, .iaload, 1), (75, .invokevirtual 337, 3), (78, .istore 7, 2), (80, .goto 1055, 3), (83, .aload_n 1, 1), (84, .aload_n 0, 1), (85, .iload 5, 2), (87, .iconst 1, 1), (88, .iadd, 1), (89, .iaload, 1), (90, .aload_n 3, 1), (91, .invokestatic 338, 3), (94, .istore 6, 2), (96, .aload_n 2, 1), (97, .aload_n 0, 1), (98, .iload 5, 2), (100, .iconst 1, 1), (101, .iadd, 1), (102, .iaload, 1), (103, .invokevirtual 340, 3), (106, .istore 7, 2), (108, .goto 1027, 3), (111, .aload_n 1, 1), (112, .aload_n 0, 1), (113, .iload 5, 2), (115, .iconst 1, 1), (116, .iadd, 1), (117, .iaload, 1), (118, .aload_n 0, 1), (119, .iload 5, 2)]
theorem dbL_law_1789 : ∀ z ∈ dlL_law_1789, decode dsL_law_1789 z.1 = Except.ok z.2 ∧ okop dsL_law_1789 z.1 = true := by decide +kernel
theorem dL_law_1789 : decode cL_law 1789 = .ok (.aload_n 0, 1) := dgs daL_law_1789 dbL_law_1789 0 0 rfl
theorem dL_law_1790 : decode cL_law 1790 = .ok (.iload 5, 2) := dgs daL_law_1789 dbL_law_1789 1 1 rfl
theorem dL_law_1792 : decode cL_law 1792 = .ok (.iconst 3, 1) := dgs daL_law_1789 dbL_law_1789 2 3 rfl
theorem dL_law_1793 : decode cL_law 1793 = .ok (.iadd, 1) := dgs daL_law_1789 dbL_law_1789 3 4 rfl
theorem dL_law_1794 : decode cL_law 1794 = .ok (.iaload, 1) := dgs daL_law_1789 dbL_law_1789 4 5 rfl
theorem dL_law_1795 : decode cL_law 1795 = .ok (.ifCond .eq 7, 3) := dgs daL_law_1789 dbL_law_1789 5 6 rfl
theorem dL_law_1798 : decode cL_law 1798 = .ok (.iconst 1, 1) := dgs daL_law_1789 dbL_law_1789 6 9 rfl
theorem dL_law_1799 : decode cL_law 1799 = .ok (.goto 4, 3) := dgs daL_law_1789 dbL_law_1789 7 10 rfl
theorem dL_law_1802 : decode cL_law 1802 = .ok (.iconst 0, 1) := dgs daL_law_1789 dbL_law_1789 8 13 rfl
theorem dL_law_1803 : decode cL_law 1803 = .ok (.aload_n 3, 1) := dgs daL_law_1789 dbL_law_1789 9 14 rfl
theorem dL_law_1804 : decode cL_law 1804 = .ok (.invokestatic 331, 3) := dgs daL_law_1789 dbL_law_1789 10 15 rfl
theorem dL_law_1807 : decode cL_law 1807 = .ok (.istore 6, 2) := dgs daL_law_1789 dbL_law_1789 11 18 rfl
theorem dL_law_1809 : decode cL_law 1809 = .ok (.aload_n 2, 1) := dgs daL_law_1789 dbL_law_1789 12 20 rfl
theorem dL_law_1810 : decode cL_law 1810 = .ok (.aload_n 0, 1) := dgs daL_law_1789 dbL_law_1789 13 21 rfl
theorem dL_law_1811 : decode cL_law 1811 = .ok (.iload 5, 2) := dgs daL_law_1789 dbL_law_1789 14 22 rfl
theorem dL_law_1813 : decode cL_law 1813 = .ok (.iconst 1, 1) := dgs daL_law_1789 dbL_law_1789 15 24 rfl
theorem dL_law_1814 : decode cL_law 1814 = .ok (.iadd, 1) := dgs daL_law_1789 dbL_law_1789 16 25 rfl
theorem dL_law_1815 : decode cL_law 1815 = .ok (.iaload, 1) := dgs daL_law_1789 dbL_law_1789 17 26 rfl
theorem dL_law_1816 : decode cL_law 1816 = .ok (.aload_n 0, 1) := dgs daL_law_1789 dbL_law_1789 18 27 rfl
theorem dL_law_1817 : decode cL_law 1817 = .ok (.iload 5, 2) := dgs daL_law_1789 dbL_law_1789 19 28 rfl
theorem dL_law_1819 : decode cL_law 1819 = .ok (.iconst 2, 1) := dgs daL_law_1789 dbL_law_1789 20 30 rfl
theorem dL_law_1820 : decode cL_law 1820 = .ok (.iadd, 1) := dgs daL_law_1789 dbL_law_1789 21 31 rfl
theorem dL_law_1821 : decode cL_law 1821 = .ok (.iaload, 1) := dgs daL_law_1789 dbL_law_1789 22 32 rfl
theorem dL_law_1822 : decode cL_law 1822 = .ok (.aload_n 0, 1) := dgs daL_law_1789 dbL_law_1789 23 33 rfl
theorem dL_law_1823 : decode cL_law 1823 = .ok (.iload 5, 2) := dgs daL_law_1789 dbL_law_1789 24 34 rfl
theorem dL_law_1825 : decode cL_law 1825 = .ok (.iconst 3, 1) := dgs daL_law_1789 dbL_law_1789 25 36 rfl
theorem dL_law_1826 : decode cL_law 1826 = .ok (.iadd, 1) := dgs daL_law_1789 dbL_law_1789 26 37 rfl
theorem dL_law_1827 : decode cL_law 1827 = .ok (.iaload, 1) := dgs daL_law_1789 dbL_law_1789 27 38 rfl
theorem dL_law_1828 : decode cL_law 1828 = .ok (.ifCond .eq 7, 3) := dgs daL_law_1789 dbL_law_1789 28 39 rfl
theorem dL_law_1831 : decode cL_law 1831 = .ok (.iconst 1, 1) := dgs daL_law_1789 dbL_law_1789 29 42 rfl
theorem dL_law_1832 : decode cL_law 1832 = .ok (.goto 4, 3) := dgs daL_law_1789 dbL_law_1789 30 43 rfl
theorem dL_law_1835 : decode cL_law 1835 = .ok (.iconst 0, 1) := dgs daL_law_1789 dbL_law_1789 31 46 rfl
theorem dL_law_1836 : decode cL_law 1836 = .ok (.invokevirtual 334, 3) := dgs daL_law_1789 dbL_law_1789 32 47 rfl
theorem dL_law_1839 : decode cL_law 1839 = .ok (.istore 7, 2) := dgs daL_law_1789 dbL_law_1789 33 50 rfl
theorem dL_law_1841 : decode cL_law 1841 = .ok (.goto 1083, 3) := dgs daL_law_1789 dbL_law_1789 34 52 rfl
theorem dL_law_1844 : decode cL_law 1844 = .ok (.aload_n 1, 1) := dgs daL_law_1789 dbL_law_1789 35 55 rfl
theorem dL_law_1845 : decode cL_law 1845 = .ok (.aload_n 0, 1) := dgs daL_law_1789 dbL_law_1789 36 56 rfl
theorem dL_law_1846 : decode cL_law 1846 = .ok (.iload 5, 2) := dgs daL_law_1789 dbL_law_1789 37 57 rfl
theorem dL_law_1848 : decode cL_law 1848 = .ok (.iconst 1, 1) := dgs daL_law_1789 dbL_law_1789 38 59 rfl
theorem dL_law_1849 : decode cL_law 1849 = .ok (.iadd, 1) := dgs daL_law_1789 dbL_law_1789 39 60 rfl
theorem dL_law_1850 : decode cL_law 1850 = .ok (.iaload, 1) := dgs daL_law_1789 dbL_law_1789 40 61 rfl
theorem dL_law_1851 : decode cL_law 1851 = .ok (.aload_n 3, 1) := dgs daL_law_1789 dbL_law_1789 41 62 rfl
theorem dL_law_1852 : decode cL_law 1852 = .ok (.invokestatic 335, 3) := dgs daL_law_1789 dbL_law_1789 42 63 rfl
theorem dL_law_1855 : decode cL_law 1855 = .ok (.istore 6, 2) := dgs daL_law_1789 dbL_law_1789 43 66 rfl
theorem dL_law_1857 : decode cL_law 1857 = .ok (.aload_n 2, 1) := dgs daL_law_1789 dbL_law_1789 44 68 rfl
theorem dL_law_1858 : decode cL_law 1858 = .ok (.aload_n 0, 1) := dgs daL_law_1789 dbL_law_1789 45 69 rfl
theorem dL_law_1859 : decode cL_law 1859 = .ok (.iload 5, 2) := dgs daL_law_1789 dbL_law_1789 46 70 rfl
theorem dL_law_1861 : decode cL_law 1861 = .ok (.iconst 1, 1) := dgs daL_law_1789 dbL_law_1789 47 72 rfl
theorem dL_law_1862 : decode cL_law 1862 = .ok (.iadd, 1) := dgs daL_law_1789 dbL_law_1789 48 73 rfl
theorem dL_law_1863 : decode cL_law 1863 = .ok (.iaload, 1) := dgs daL_law_1789 dbL_law_1789 49 74 rfl
theorem dL_law_1864 : decode cL_law 1864 = .ok (.invokevirtual 337, 3) := dgs daL_law_1789 dbL_law_1789 50 75 rfl
theorem dL_law_1867 : decode cL_law 1867 = .ok (.istore 7, 2) := dgs daL_law_1789 dbL_law_1789 51 78 rfl
theorem dL_law_1869 : decode cL_law 1869 = .ok (.goto 1055, 3) := dgs daL_law_1789 dbL_law_1789 52 80 rfl
theorem dL_law_1872 : decode cL_law 1872 = .ok (.aload_n 1, 1) := dgs daL_law_1789 dbL_law_1789 53 83 rfl
theorem dL_law_1873 : decode cL_law 1873 = .ok (.aload_n 0, 1) := dgs daL_law_1789 dbL_law_1789 54 84 rfl
theorem dL_law_1874 : decode cL_law 1874 = .ok (.iload 5, 2) := dgs daL_law_1789 dbL_law_1789 55 85 rfl
theorem dL_law_1876 : decode cL_law 1876 = .ok (.iconst 1, 1) := dgs daL_law_1789 dbL_law_1789 56 87 rfl
theorem dL_law_1877 : decode cL_law 1877 = .ok (.iadd, 1) := dgs daL_law_1789 dbL_law_1789 57 88 rfl
theorem dL_law_1878 : decode cL_law 1878 = .ok (.iaload, 1) := dgs daL_law_1789 dbL_law_1789 58 89 rfl
theorem dL_law_1879 : decode cL_law 1879 = .ok (.aload_n 3, 1) := dgs daL_law_1789 dbL_law_1789 59 90 rfl
theorem dL_law_1880 : decode cL_law 1880 = .ok (.invokestatic 338, 3) := dgs daL_law_1789 dbL_law_1789 60 91 rfl
theorem dL_law_1883 : decode cL_law 1883 = .ok (.istore 6, 2) := dgs daL_law_1789 dbL_law_1789 61 94 rfl
theorem dL_law_1885 : decode cL_law 1885 = .ok (.aload_n 2, 1) := dgs daL_law_1789 dbL_law_1789 62 96 rfl
theorem dL_law_1886 : decode cL_law 1886 = .ok (.aload_n 0, 1) := dgs daL_law_1789 dbL_law_1789 63 97 rfl
theorem dL_law_1887 : decode cL_law 1887 = .ok (.iload 5, 2) := dgs daL_law_1789 dbL_law_1789 64 98 rfl
theorem dL_law_1889 : decode cL_law 1889 = .ok (.iconst 1, 1) := dgs daL_law_1789 dbL_law_1789 65 100 rfl
theorem dL_law_1890 : decode cL_law 1890 = .ok (.iadd, 1) := dgs daL_law_1789 dbL_law_1789 66 101 rfl
theorem dL_law_1891 : decode cL_law 1891 = .ok (.iaload, 1) := dgs daL_law_1789 dbL_law_1789 67 102 rfl
theorem dL_law_1892 : decode cL_law 1892 = .ok (.invokevirtual 340, 3) := dgs daL_law_1789 dbL_law_1789 68 103 rfl
theorem dL_law_1895 : decode cL_law 1895 = .ok (.istore 7, 2) := dgs daL_law_1789 dbL_law_1789 69 106 rfl
theorem dL_law_1897 : decode cL_law 1897 = .ok (.goto 1027, 3) := dgs daL_law_1789 dbL_law_1789 70 108 rfl
theorem dL_law_1900 : decode cL_law 1900 = .ok (.aload_n 1, 1) := dgs daL_law_1789 dbL_law_1789 71 111 rfl
theorem dL_law_1901 : decode cL_law 1901 = .ok (.aload_n 0, 1) := dgs daL_law_1789 dbL_law_1789 72 112 rfl
theorem dL_law_1902 : decode cL_law 1902 = .ok (.iload 5, 2) := dgs daL_law_1789 dbL_law_1789 73 113 rfl
theorem dL_law_1904 : decode cL_law 1904 = .ok (.iconst 1, 1) := dgs daL_law_1789 dbL_law_1789 74 115 rfl
theorem dL_law_1905 : decode cL_law 1905 = .ok (.iadd, 1) := dgs daL_law_1789 dbL_law_1789 75 116 rfl
theorem dL_law_1906 : decode cL_law 1906 = .ok (.iaload, 1) := dgs daL_law_1789 dbL_law_1789 76 117 rfl
theorem dL_law_1907 : decode cL_law 1907 = .ok (.aload_n 0, 1) := dgs daL_law_1789 dbL_law_1789 77 118 rfl
theorem dL_law_1908 : decode cL_law 1908 = .ok (.iload 5, 2) := dgs daL_law_1789 dbL_law_1789 78 119 rfl
def dsL_law_1910 : ByteArray := ⟨#[5, 96, 46, 42, 21, 5, 6, 96, 46, 45, 184, 1, 85, 54, 6, 44, 42, 21, 5, 4, 96, 46, 42, 21, 5, 5, 96]⟩
theorem daL_law_1910 : agB cL_law dsL_law_1910 1910 := agB_of (n := 27) (by decide +kernel)
def dlL_law_1910 : List (Nat × Instr × Nat) := [(0, .iconst 2, 1), (1, .iadd, 1), (2, .iaload, 1), (3, .aload_n 0, 1), (4, .iload 5, 2), (6, .iconst 3, 1), (7, .iadd, 1), (8, .iaload, 1), (9, .aload_n 3, 1), (10, .invokestatic 341, 3), (13, .istore 6, 2), (15, .aload_n 2, 1), (16, .aload_n 0, 1), (17, .iload 5, 2), (19, .iconst 1, 1), (20, .iadd, 1), (21, .iaload, 1), (22, .aload_n 0, 1), (23, .iload 5, 2), (25, .iconst 2, 1), (26, .iadd, 1)]
theorem dbL_law_1910 : ∀ z ∈ dlL_law_1910, decode dsL_law_1910 z.1 = Except.ok z.2 ∧ okop dsL_law_1910 z.1 = true := by decide +kernel
theorem dL_law_1910 : decode cL_law 1910 = .ok (.iconst 2, 1) := dgs daL_law_1910 dbL_law_1910 0 0 rfl
theorem dL_law_1911 : decode cL_law 1911 = .ok (.iadd, 1) := dgs daL_law_1910 dbL_law_1910 1 1 rfl
theorem dL_law_1912 : decode cL_law 1912 = .ok (.iaload, 1) := dgs daL_law_1910 dbL_law_1910 2 2 rfl
theorem dL_law_1913 : decode cL_law 1913 = .ok (.aload_n 0, 1) := dgs daL_law_1910 dbL_law_1910 3 3 rfl
theorem dL_law_1914 : decode cL_law 1914 = .ok (.iload 5, 2) := dgs daL_law_1910 dbL_law_1910 4 4 rfl
theorem dL_law_1916 : decode cL_law 1916 = .ok (.iconst 3, 1) := dgs daL_law_1910 dbL_law_1910 5 6 rfl
theorem dL_law_1917 : decode cL_law 1917 = .ok (.iadd, 1) := dgs daL_law_1910 dbL_law_1910 6 7 rfl
theorem dL_law_1918 : decode cL_law 1918 = .ok (.iaload, 1) := dgs daL_law_1910 dbL_law_1910 7 8 rfl
theorem dL_law_1919 : decode cL_law 1919 = .ok (.aload_n 3, 1) := dgs daL_law_1910 dbL_law_1910 8 9 rfl
theorem dL_law_1920 : decode cL_law 1920 = .ok (.invokestatic 341, 3) := dgs daL_law_1910 dbL_law_1910 9 10 rfl
theorem dL_law_1923 : decode cL_law 1923 = .ok (.istore 6, 2) := dgs daL_law_1910 dbL_law_1910 10 13 rfl
theorem dL_law_1925 : decode cL_law 1925 = .ok (.aload_n 2, 1) := dgs daL_law_1910 dbL_law_1910 11 15 rfl
theorem dL_law_1926 : decode cL_law 1926 = .ok (.aload_n 0, 1) := dgs daL_law_1910 dbL_law_1910 12 16 rfl
theorem dL_law_1927 : decode cL_law 1927 = .ok (.iload 5, 2) := dgs daL_law_1910 dbL_law_1910 13 17 rfl
theorem dL_law_1929 : decode cL_law 1929 = .ok (.iconst 1, 1) := dgs daL_law_1910 dbL_law_1910 14 19 rfl
theorem dL_law_1930 : decode cL_law 1930 = .ok (.iadd, 1) := dgs daL_law_1910 dbL_law_1910 15 20 rfl
theorem dL_law_1931 : decode cL_law 1931 = .ok (.iaload, 1) := dgs daL_law_1910 dbL_law_1910 16 21 rfl
theorem dL_law_1932 : decode cL_law 1932 = .ok (.aload_n 0, 1) := dgs daL_law_1910 dbL_law_1910 17 22 rfl
theorem dL_law_1933 : decode cL_law 1933 = .ok (.iload 5, 2) := dgs daL_law_1910 dbL_law_1910 18 23 rfl
theorem dL_law_1935 : decode cL_law 1935 = .ok (.iconst 2, 1) := dgs daL_law_1910 dbL_law_1910 19 25 rfl
theorem dL_law_1936 : decode cL_law 1936 = .ok (.iadd, 1) := dgs daL_law_1910 dbL_law_1910 20 26 rfl

