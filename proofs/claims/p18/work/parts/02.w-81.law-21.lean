def dlL_law_681 : List (Nat × Instr × Nat) := [(681, .iadd, 1), (682, .iaload, 1), (683, .aload_n 0, 1), (684, .iload 5, 2), (686, .iconst 2, 1), (687, .iadd, 1), (688, .iaload, 1), (689, .aload_n 3, 1), (690, .invokestatic 260, 3), (693, .istore 6, 2), (695, .aload_n 2, 1), (696, .aload_n 0, 1), (697, .iload 5, 2), (699, .iconst 1, 1), (700, .iadd, 1), (701, .iaload, 1), (702, .aload_n 0, 1), (703, .iload 5, 2), (705, .iconst 2, 1), (706, .iadd, 1), (707, .iaload, 1), (708, .invokevirtual 262, 3), (711, .istore 7, 2), (713, .goto 2211, 3), (716, .aload_n 1, 1), (717, .aload_n 0, 1), (718, .iload 5, 2), (720, .iconst 1, 1), (721, .iadd, 1), (722, .iaload, 1), (723, .aload_n 0, 1), (724, .iload 5, 2), (726, .iconst 2, 1), (727, .iadd, 1), (728, .iaload, 1), (729, .aload_n 3, 1), (730, .invokestatic 263, 3), (733, .istore 6, 2), (735, .aload_n 2, 1), (736, .aload_n 0, 1), (737, .iload 5, 2), (739, .iconst 1, 1), (740, .iadd, 1), (741, .iaload, 1), (742, .aload_n 0, 1), (743, .iload 5, 2), (745, .iconst 2, 1), (746, .iadd, 1), (747, .iaload, 1), (748, .invokevirtual 265, 3), (751, .lstore 7, 2), (753, .goto 2171, 3), (756, .aload_n 1, 1), (757, .aload_n 0, 1), (758, .iload 5, 2), (760, .iconst 1, 1), (761, .iadd, 1), (762, .iaload, 1), (763, .aload_n 0, 1), (764, .iload 5, 2), (766, .iconst 2, 1), (767, .iadd, 1), (768, .iaload, 1), (769, .aload_n 3, 1), (770, .invokestatic 266, 3), (773, .istore 6, 2), (775, .aload_n 2, 1), (776, .aload_n 0, 1), (777, .iload 5, 2), (779, .iconst 1, 1), (780, .iadd, 1), (781, .iaload, 1), (782, .aload_n 0, 1), (783, .iload 5, 2), (785, .iconst 2, 1), (786, .iadd, 1), (787, .iaload, 1), (788, .invokevirtual 268, 3), (791, .istore 7, 2), (793, .goto 2131, 3)]
theorem dbL_law_681 : ∀ q ∈ dlL_law_681, decode cL_law q.1 = .ok q.2 := by decide +kernel
theorem dL_law_681 : decode cL_law 681 = .ok (.iadd, 1) := dgt dbL_law_681 0 rfl
theorem dL_law_682 : decode cL_law 682 = .ok (.iaload, 1) := dgt dbL_law_681 1 rfl
theorem dL_law_683 : decode cL_law 683 = .ok (.aload_n 0, 1) := dgt dbL_law_681 2 rfl
theorem dL_law_684 : decode cL_law 684 = .ok (.iload 5, 2) := dgt dbL_law_681 3 rfl
theorem dL_law_686 : decode cL_law 686 = .ok (.iconst 2, 1) := dgt dbL_law_681 4 rfl
theorem dL_law_687 : decode cL_law 687 = .ok (.iadd, 1) := dgt dbL_law_681 5 rfl
theorem dL_law_688 : decode cL_law 688 = .ok (.iaload, 1) := dgt dbL_law_681 6 rfl
theorem dL_law_689 : decode cL_law 689 = .ok (.aload_n 3, 1) := dgt dbL_law_681 7 rfl
theorem dL_law_690 : decode cL_law 690 = .ok (.invokestatic 260, 3) := dgt dbL_law_681 8 rfl
theorem dL_law_693 : decode cL_law 693 = .ok (.istore 6, 2) := dgt dbL_law_681 9 rfl
theorem dL_law_695 : decode cL_law 695 = .ok (.aload_n 2, 1) := dgt dbL_law_681 10 rfl
theorem dL_law_696 : decode cL_law 696 = .ok (.aload_n 0, 1) := dgt dbL_law_681 11 rfl
theorem dL_law_697 : decode cL_law 697 = .ok (.iload 5, 2) := dgt dbL_law_681 12 rfl
theorem dL_law_699 : decode cL_law 699 = .ok (.iconst 1, 1) := dgt dbL_law_681 13 rfl
theorem dL_law_700 : decode cL_law 700 = .ok (.iadd, 1) := dgt dbL_law_681 14 rfl
theorem dL_law_701 : decode cL_law 701 = .ok (.iaload, 1) := dgt dbL_law_681 15 rfl
theorem dL_law_702 : decode cL_law 702 = .ok (.aload_n 0, 1) := dgt dbL_law_681 16 rfl
theorem dL_law_703 : decode cL_law 703 = .ok (.iload 5, 2) := dgt dbL_law_681 17 rfl
theorem dL_law_705 : decode cL_law 705 = .ok (.iconst 2, 1) := dgt dbL_law_681 18 rfl
theorem dL_law_706 : decode cL_law 706 = .ok (.iadd, 1) := dgt dbL_law_681 19 rfl
theorem dL_law_707 : decode cL_law 707 = .ok (.iaload, 1) := dgt dbL_law_681 20 rfl
theorem dL_law_708 : decode cL_law 708 = .ok (.invokevirtual 262, 3) := dgt dbL_law_681 21 rfl
theorem dL_law_711 : decode cL_law 711 = .ok (.istore 7, 2) := dgt dbL_law_681 22 rfl
theorem dL_law_713 : decode cL_law 713 = .ok (.goto 2211, 3) := dgt dbL_law_681 23 rfl
theorem dL_law_716 : decode cL_law 716 = .ok (.aload_n 1, 1) := dgt dbL_law_681 24 rfl
theorem dL_law_717 : decode cL_law 717 = .ok (.aload_n 0, 1) := dgt dbL_law_681 25 rfl
theorem dL_law_718 : decode cL_law 718 = .ok (.iload 5, 2) := dgt dbL_law_681 26 rfl
theorem dL_law_720 : decode cL_law 720 = .ok (.iconst 1, 1) := dgt dbL_law_681 27 rfl
theorem dL_law_721 : decode cL_law 721 = .ok (.iadd, 1) := dgt dbL_law_681 28 rfl
theorem dL_law_722 : decode cL_law 722 = .ok (.iaload, 1) := dgt dbL_law_681 29 rfl
theorem dL_law_723 : decode cL_law 723 = .ok (.aload_n 0, 1) := dgt dbL_law_681 30 rfl
theorem dL_law_724 : decode cL_law 724 = .ok (.iload 5, 2) := dgt dbL_law_681 31 rfl
theorem dL_law_726 : decode cL_law 726 = .ok (.iconst 2, 1) := dgt dbL_law_681 32 rfl
theorem dL_law_727 : decode cL_law 727 = .ok (.iadd, 1) := dgt dbL_law_681 33 rfl
theorem dL_law_728 : decode cL_law 728 = .ok (.iaload, 1) := dgt dbL_law_681 34 rfl
theorem dL_law_729 : decode cL_law 729 = .ok (.aload_n 3, 1) := dgt dbL_law_681 35 rfl
theorem dL_law_730 : decode cL_law 730 = .ok (.invokestatic 263, 3) := dgt dbL_law_681 36 rfl
theorem dL_law_733 : decode cL_law 733 = .ok (.istore 6, 2) := dgt dbL_law_681 37 rfl
theorem dL_law_735 : decode cL_law 735 = .ok (.aload_n 2, 1) := dgt dbL_law_681 38 rfl
theorem dL_law_736 : decode cL_law 736 = .ok (.aload_n 0, 1) := dgt dbL_law_681 39 rfl
theorem dL_law_737 : decode cL_law 737 = .ok (.iload 5, 2) := dgt dbL_law_681 40 rfl
theorem dL_law_739 : decode cL_law 739 = .ok (.iconst 1, 1) := dgt dbL_law_681 41 rfl
theorem dL_law_740 : decode cL_law 740 = .ok (.iadd, 1) := dgt dbL_law_681 42 rfl
theorem dL_law_741 : decode cL_law 741 = .ok (.iaload, 1) := dgt dbL_law_681 43 rfl
theorem dL_law_742 : decode cL_law 742 = .ok (.aload_n 0, 1) := dgt dbL_law_681 44 rfl
theorem dL_law_743 : decode cL_law 743 = .ok (.iload 5, 2) := dgt dbL_law_681 45 rfl
theorem dL_law_745 : decode cL_law 745 = .ok (.iconst 2, 1) := dgt dbL_law_681 46 rfl
theorem dL_law_746 : decode cL_law 746 = .ok (.iadd, 1) := dgt dbL_law_681 47 rfl
theorem dL_law_747 : decode cL_law 747 = .ok (.iaload, 1) := dgt dbL_law_681 48 rfl
theorem dL_law_748 : decode cL_law 748 = .ok (.invokevirtual 265, 3) := dgt dbL_law_681 49 rfl
theorem dL_law_751 : decode cL_law 751 = .ok (.lstore 7, 2) := dgt dbL_law_681 50 rfl
theorem dL_law_753 : decode cL_law 753 = .ok (.goto 2171, 3) := dgt dbL_law_681 51 rfl
theorem dL_law_756 : decode cL_law 756 = .ok (.aload_n 1, 1) := dgt dbL_law_681 52 rfl
theorem dL_law_757 : decode cL_law 757 = .ok (.aload_n 0, 1) := dgt dbL_law_681 53 rfl
theorem dL_law_758 : decode cL_law 758 = .ok (.iload 5, 2) := dgt dbL_law_681 54 rfl
theorem dL_law_760 : decode cL_law 760 = .ok (.iconst 1, 1) := dgt dbL_law_681 55 rfl
theorem dL_law_761 : decode cL_law 761 = .ok (.iadd, 1) := dgt dbL_law_681 56 rfl
theorem dL_law_762 : decode cL_law 762 = .ok (.iaload, 1) := dgt dbL_law_681 57 rfl
theorem dL_law_763 : decode cL_law 763 = .ok (.aload_n 0, 1) := dgt dbL_law_681 58 rfl
theorem dL_law_764 : decode cL_law 764 = .ok (.iload 5, 2) := dgt dbL_law_681 59 rfl
theorem dL_law_766 : decode cL_law 766 = .ok (.iconst 2, 1) := dgt dbL_law_681 60 rfl
theorem dL_law_767 : decode cL_law 767 = .ok (.iadd, 1) := dgt dbL_law_681 61 rfl
theorem dL_law_768 : decode cL_law 768 = .ok (.iaload, 1) := dgt dbL_law_681 62 rfl
theorem dL_law_769 : decode cL_law 769 = .ok (.aload_n 3, 1) := dgt dbL_law_681 63 rfl
theorem dL_law_770 : decode cL_law 770 = .ok (.invokestatic 266, 3) := dgt dbL_law_681 64 rfl
theorem dL_law_773 : decode cL_law 773 = .ok (.istore 6, 2) := dgt dbL_law_681 65 rfl
theorem dL_law_775 : decode cL_law 775 = .ok (.aload_n 2, 1) := dgt dbL_law_681 66 rfl
theorem dL_law_776 : decode cL_law 776 = .ok (.aload_n 0, 1) := dgt dbL_law_681 67 rfl
theorem dL_law_777 : decode cL_law 777 = .ok (.iload 5, 2) := dgt dbL_law_681 68 rfl
theorem dL_law_779 : decode cL_law 779 = .ok (.iconst 1, 1) := dgt dbL_law_681 69 rfl
theorem dL_law_780 : decode cL_law 780 = .ok (.iadd, 1) := dgt dbL_law_681 70 rfl
theorem dL_law_781 : decode cL_law 781 = .ok (.iaload, 1) := dgt dbL_law_681 71 rfl
theorem dL_law_782 : decode cL_law 782 = .ok (.aload_n 0, 1) := dgt dbL_law_681 72 rfl
theorem dL_law_783 : decode cL_law 783 = .ok (.iload 5, 2) := dgt dbL_law_681 73 rfl
theorem dL_law_785 : decode cL_law 785 = .ok (.iconst 2, 1) := dgt dbL_law_681 74 rfl
theorem dL_law_786 : decode cL_law 786 = .ok (.iadd, 1) := dgt dbL_law_681 75 rfl
theorem dL_law_787 : decode cL_law 787 = .ok (.iaload, 1) := dgt dbL_law_681 76 rfl
theorem dL_law_788 : decode cL_law 788 = .ok (.invokevirtual 268, 3) := dgt dbL_law_681 77 rfl
theorem dL_law_791 : decode cL_law 791 = .ok (.istore 7, 2) := dgt dbL_law_681 78 rfl
theorem dL_law_793 : decode cL_law 793 = .ok (.goto 2131, 3) := dgt dbL_law_681 79 rfl
def dlL_law_796 : List (Nat × Instr × Nat) := [(796, .aload_n 1, 1), (797, .aload_n 0, 1), (798, .iload 5, 2), (800, .iconst 1, 1), (801, .iadd, 1), (802, .iaload, 1), (803, .aload_n 0, 1), (804, .iload 5, 2), (806, .iconst 2, 1), (807, .iadd, 1), (808, .iaload, 1), (809, .aload_n 0, 1), (810, .iload 5, 2), (812, .iconst 3, 1), (813, .iadd, 1), (814, .iaload, 1), (815, .aload_n 0, 1), (816, .iload 5, 2), (818, .iconst 4, 1), (819, .iadd, 1), (820, .iaload, 1), (821, .aload_n 3, 1), (822, .invokestatic 269, 3), (825, .istore 6, 2), (827, .aload_n 2, 1), (828, .aload_n 0, 1), (829, .iload 5, 2), (831, .iconst 1, 1), (832, .iadd, 1), (833, .iaload, 1), (834, .aload_n 0, 1), (835, .iload 5, 2), (837, .iconst 2, 1), (838, .iadd, 1), (839, .iaload, 1), (840, .aload_n 0, 1), (841, .iload 5, 2), (843, .iconst 3, 1), (844, .iadd, 1), (845, .iaload, 1), (846, .aload_n 0, 1), (847, .iload 5, 2), (849, .iconst 4, 1), (850, .iadd, 1), (851, .iaload, 1), (852, .invokevirtual 271, 3), (855, .istore 7, 2), (857, .goto 2067, 3), (860, .aload_n 1, 1), (861, .aload_n 0, 1), (862, .iload 5, 2), (864, .iconst 1, 1), (865, .iadd, 1), (866, .iaload, 1), (867, .aload_n 0, 1), (868, .iload 5, 2), (870, .iconst 2, 1), (871, .iadd, 1), (872, .iaload, 1), (873, .aload_n 0, 1), (874, .iload 5, 2), (876, .iconst 3, 1), (877, .iadd, 1), (878, .iaload, 1), (879, .aload_n 0, 1), (880, .iload 5, 2), (882, .iconst 4, 1), (883, .iadd, 1), (884, .iaload, 1), (885, .aload_n 3, 1), (886, .invokestatic 272, 3), (889, .istore 6, 2), (891, .aload_n 2, 1), (892, .aload_n 0, 1), (893, .iload 5, 2), (895, .iconst 1, 1), (896, .iadd, 1), (897, .iaload, 1), (898, .aload_n 0, 1), (899, .iload 5, 2)]
theorem dbL_law_796 : ∀ q ∈ dlL_law_796, decode cL_law q.1 = .ok q.2 := by decide +kernel
theorem dL_law_796 : decode cL_law 796 = .ok (.aload_n 1, 1) := dgt dbL_law_796 0 rfl
theorem dL_law_797 : decode cL_law 797 = .ok (.aload_n 0, 1) := dgt dbL_law_796 1 rfl
theorem dL_law_798 : decode cL_law 798 = .ok (.iload 5, 2) := dgt dbL_law_796 2 rfl
theorem dL_law_800 : decode cL_law 800 = .ok (.iconst 1, 1) := dgt dbL_law_796 3 rfl
theorem dL_law_801 : decode cL_law 801 = .ok (.iadd, 1) := dgt dbL_law_796 4 rfl
theorem dL_law_802 : decode cL_law 802 = .ok (.iaload, 1) := dgt dbL_law_796 5 rfl
theorem dL_law_803 : decode cL_law 803 = .ok (.aload_n 0, 1) := dgt dbL_law_796 6 rfl
theorem dL_law_804 : decode cL_law 804 = .ok (.iload 5, 2) := dgt dbL_law_796 7 rfl
theorem dL_law_806 : decode cL_law 806 = .ok (.iconst 2, 1) := dgt dbL_law_796 8 rfl
theorem dL_law_807 : decode cL_law 807 = .ok (.iadd, 1) := dgt dbL_law_796 9 rfl
theorem dL_law_808 : decode cL_law 808 = .ok (.iaload, 1) := dgt dbL_law_796 10 rfl
theorem dL_law_809 : decode cL_law 809 = .ok (.aload_n 0, 1) := dgt dbL_law_796 11 rfl
theorem dL_law_810 : decode cL_law 810 = .ok (.iload 5, 2) := dgt dbL_law_796 12 rfl
theorem dL_law_812 : decode cL_law 812 = .ok (.iconst 3, 1) := dgt dbL_law_796 13 rfl
theorem dL_law_813 : decode cL_law 813 = .ok (.iadd, 1) := dgt dbL_law_796 14 rfl
theorem dL_law_814 : decode cL_law 814 = .ok (.iaload, 1) := dgt dbL_law_796 15 rfl
theorem dL_law_815 : decode cL_law 815 = .ok (.aload_n 0, 1) := dgt dbL_law_796 16 rfl
theorem dL_law_816 : decode cL_law 816 = .ok (.iload 5, 2) := dgt dbL_law_796 17 rfl
theorem dL_law_818 : decode cL_law 818 = .ok (.iconst 4, 1) := dgt dbL_law_796 18 rfl
theorem dL_law_819 : decode cL_law 819 = .ok (.iadd, 1) := dgt dbL_law_796 19 rfl
theorem dL_law_820 : decode cL_law 820 = .ok (.iaload, 1) := dgt dbL_law_796 20 rfl
theorem dL_law_821 : decode cL_law 821 = .ok (.aload_n 3, 1) := dgt dbL_law_796 21 rfl
theorem dL_law_822 : decode cL_law 822 = .ok (.invokestatic 269, 3) := dgt dbL_law_796 22 rfl
theorem dL_law_825 : decode cL_law 825 = .ok (.istore 6, 2) := dgt dbL_law_796 23 rfl
theorem dL_law_827 : decode cL_law 827 = .ok (.aload_n 2, 1) := dgt dbL_law_796 24 rfl
theorem dL_law_828 : decode cL_law 828 = .ok (.aload_n 0, 1) := dgt dbL_law_796 25 rfl
theorem dL_law_829 : decode cL_law 829 = .ok (.iload 5, 2) := dgt dbL_law_796 26 rfl
theorem dL_law_831 : decode cL_law 831 = .ok (.iconst 1, 1) := dgt dbL_law_796 27 rfl
theorem dL_law_832 : decode cL_law 832 = .ok (.iadd, 1) := dgt dbL_law_796 28 rfl
theorem dL_law_833 : decode cL_law 833 = .ok (.iaload, 1) := dgt dbL_law_796 29 rfl
theorem dL_law_834 : decode cL_law 834 = .ok (.aload_n 0, 1) := dgt dbL_law_796 30 rfl
theorem dL_law_835 : decode cL_law 835 = .ok (.iload 5, 2) := dgt dbL_law_796 31 rfl
theorem dL_law_837 : decode cL_law 837 = .ok (.iconst 2, 1) := dgt dbL_law_796 32 rfl
theorem dL_law_838 : decode cL_law 838 = .ok (.iadd, 1) := dgt dbL_law_796 33 rfl
theorem dL_law_839 : decode cL_law 839 = .ok (.iaload, 1) := dgt dbL_law_796 34 rfl
theorem dL_law_840 : decode cL_law 840 = .ok (.aload_n 0, 1) := dgt dbL_law_796 35 rfl
theorem dL_law_841 : decode cL_law 841 = .ok (.iload 5, 2) := dgt dbL_law_796 36 rfl
theorem dL_law_843 : decode cL_law 843 = .ok (.iconst 3, 1) := dgt dbL_law_796 37 rfl
theorem dL_law_844 : decode cL_law 844 = .ok (.iadd, 1) := dgt dbL_law_796 38 rfl
theorem dL_law_845 : decode cL_law 845 = .ok (.iaload, 1) := dgt dbL_law_796 39 rfl
theorem dL_law_846 : decode cL_law 846 = .ok (.aload_n 0, 1) := dgt dbL_law_796 40 rfl
theorem dL_law_847 : decode cL_law 847 = .ok (.iload 5, 2) := dgt dbL_law_796 41 rfl
theorem dL_law_849 : decode cL_law 849 = .ok (.iconst 4, 1) := dgt dbL_law_796 42 rfl
theorem dL_law_850 : decode cL_law 850 = .ok (.iadd, 1) := dgt dbL_law_796 43 rfl
theorem dL_law_851 : decode cL_law 851 = .ok (.iaload, 1) := dgt dbL_law_796 44 rfl
theorem dL_law_852 : decode cL_law 852 = .ok (.invokevirtual 271, 3) := dgt dbL_law_796 45 rfl
theorem dL_law_855 : decode cL_law 855 = .ok (.istore 7, 2) := dgt dbL_law_796 46 rfl
theorem dL_law_857 : decode cL_law 857 = .ok (.goto 2067, 3) := dgt dbL_law_796 47 rfl
theorem dL_law_860 : decode cL_law 860 = .ok (.aload_n 1, 1) := dgt dbL_law_796 48 rfl
theorem dL_law_861 : decode cL_law 861 = .ok (.aload_n 0, 1) := dgt dbL_law_796 49 rfl
theorem dL_law_862 : decode cL_law 862 = .ok (.iload 5, 2) := dgt dbL_law_796 50 rfl
theorem dL_law_864 : decode cL_law 864 = .ok (.iconst 1, 1) := dgt dbL_law_796 51 rfl
theorem dL_law_865 : decode cL_law 865 = .ok (.iadd, 1) := dgt dbL_law_796 52 rfl
theorem dL_law_866 : decode cL_law 866 = .ok (.iaload, 1) := dgt dbL_law_796 53 rfl
theorem dL_law_867 : decode cL_law 867 = .ok (.aload_n 0, 1) := dgt dbL_law_796 54 rfl
theorem dL_law_868 : decode cL_law 868 = .ok (.iload 5, 2) := dgt dbL_law_796 55 rfl
theorem dL_law_870 : decode cL_law 870 = .ok (.iconst 2, 1) := dgt dbL_law_796 56 rfl
theorem dL_law_871 : decode cL_law 871 = .ok (.iadd, 1) := dgt dbL_law_796 57 rfl
theorem dL_law_872 : decode cL_law 872 = .ok (.iaload, 1) := dgt dbL_law_796 58 rfl
theorem dL_law_873 : decode cL_law 873 = .ok (.aload_n 0, 1) := dgt dbL_law_796 59 rfl
theorem dL_law_874 : decode cL_law 874 = .ok (.iload 5, 2) := dgt dbL_law_796 60 rfl
theorem dL_law_876 : decode cL_law 876 = .ok (.iconst 3, 1) := dgt dbL_law_796 61 rfl
theorem dL_law_877 : decode cL_law 877 = .ok (.iadd, 1) := dgt dbL_law_796 62 rfl
theorem dL_law_878 : decode cL_law 878 = .ok (.iaload, 1) := dgt dbL_law_796 63 rfl
theorem dL_law_879 : decode cL_law 879 = .ok (.aload_n 0, 1) := dgt dbL_law_796 64 rfl
theorem dL_law_880 : decode cL_law 880 = .ok (.iload 5, 2) := dgt dbL_law_796 65 rfl
theorem dL_law_882 : decode cL_law 882 = .ok (.iconst 4, 1) := dgt dbL_law_796 66 rfl
theorem dL_law_883 : decode cL_law 883 = .ok (.iadd, 1) := dgt dbL_law_796 67 rfl
theorem dL_law_884 : decode cL_law 884 = .ok (.iaload, 1) := dgt dbL_law_796 68 rfl
theorem dL_law_885 : decode cL_law 885 = .ok (.aload_n 3, 1) := dgt dbL_law_796 69 rfl
theorem dL_law_886 : decode cL_law 886 = .ok (.invokestatic 272, 3) := dgt dbL_law_796 70 rfl
theorem dL_law_889 : decode cL_law 889 = .ok (.istore 6, 2) := dgt dbL_law_796 71 rfl
theorem dL_law_891 : decode cL_law 891 = .ok (.aload_n 2, 1) := dgt dbL_law_796 72 rfl
theorem dL_law_892 : decode cL_law 892 = .ok (.aload_n 0, 1) := dgt dbL_law_796 73 rfl
theorem dL_law_893 : decode cL_law 893 = .ok (.iload 5, 2) := dgt dbL_law_796 74 rfl
theorem dL_law_895 : decode cL_law 895 = .ok (.iconst 1, 1) := dgt dbL_law_796 75 rfl
theorem dL_law_896 : decode cL_law 896 = .ok (.iadd, 1) := dgt dbL_law_796 76 rfl
theorem dL_law_897 : decode cL_law 897 = .ok (.iaload, 1) := dgt dbL_law_796 77 rfl
theorem dL_law_898 : decode cL_law 898 = .ok (.aload_n 0, 1) := dgt dbL_law_796 78 rfl
theorem dL_law_899 : decode cL_law 899 = .ok (.iload 5, 2) := dgt dbL_law_796 79 rfl
def dlL_law_901 : List (Nat × Instr × Nat) := [(901, .iconst 2, 1), (902, .iadd, 1), (903, .iaload, 1), (904, .aload_n 0, 1), (905, .iload 5, 2), (907, .iconst 3, 1), (908, .iadd, 1), (909, .iaload, 1), (910, .aload_n 0, 1), (911, .iload 5, 2), (913, .iconst 4, 1), (914, .iadd, 1), (915, .iaload, 1), (916, .invokevirtual 274, 3), (919, .istore 7, 2), (921, .goto 2003, 3), (924, .aload_n 1, 1), (925, .aload_n 0, 1), (926, .iload 5, 2), (928, .iconst 1, 1), (929, .iadd, 1), (930, .iaload, 1), (931, .aload_n 0, 1), (932, .iload 5, 2), (934, .iconst 2, 1), (935, .iadd, 1), (936, .iaload, 1), (937, .aload_n 0, 1), (938, .iload 5, 2), (940, .iconst 3, 1), (941, .iadd, 1), (942, .iaload, 1), (943, .aload_n 0, 1), (944, .iload 5, 2), (946, .iconst 4, 1), (947, .iadd, 1), (948, .iaload, 1), (949, .aload_n 3, 1), (950, .invokestatic 275, 3), (953, .istore 6, 2), (955, .aload_n 2, 1), (956, .aload_n 0, 1), (957, .iload 5, 2), (959, .iconst 1, 1), (960, .iadd, 1), (961, .iaload, 1), (962, .aload_n 0, 1), (963, .iload 5, 2), (965, .iconst 2, 1), (966, .iadd, 1), (967, .iaload, 1), (968, .aload_n 0, 1), (969, .iload 5, 2), (971, .iconst 3, 1), (972, .iadd, 1), (973, .iaload, 1), (974, .aload_n 0, 1), (975, .iload 5, 2), (977, .iconst 4, 1), (978, .iadd, 1), (979, .iaload, 1), (980, .invokevirtual 277, 3), (983, .istore 7, 2), (985, .goto 1939, 3), (988, .aload_n 1, 1), (989, .aload_n 0, 1), (990, .iload 5, 2), (992, .iconst 1, 1), (993, .iadd, 1), (994, .iaload, 1), (995, .aload_n 0, 1), (996, .iload 5, 2), (998, .iconst 2, 1), (999, .iadd, 1), (1000, .iaload, 1), (1001, .aload_n 0, 1), (1002, .iload 5, 2), (1004, .iconst 3, 1), (1005, .iadd, 1), (1006, .iaload, 1)]
theorem dbL_law_901 : ∀ q ∈ dlL_law_901, decode cL_law q.1 = .ok q.2 := by decide +kernel
theorem dL_law_901 : decode cL_law 901 = .ok (.iconst 2, 1) := dgt dbL_law_901 0 rfl
theorem dL_law_902 : decode cL_law 902 = .ok (.iadd, 1) := dgt dbL_law_901 1 rfl
theorem dL_law_903 : decode cL_law 903 = .ok (.iaload, 1) := dgt dbL_law_901 2 rfl
theorem dL_law_904 : decode cL_law 904 = .ok (.aload_n 0, 1) := dgt dbL_law_901 3 rfl
theorem dL_law_905 : decode cL_law 905 = .ok (.iload 5, 2) := dgt dbL_law_901 4 rfl
theorem dL_law_907 : decode cL_law 907 = .ok (.iconst 3, 1) := dgt dbL_law_901 5 rfl
theorem dL_law_908 : decode cL_law 908 = .ok (.iadd, 1) := dgt dbL_law_901 6 rfl
theorem dL_law_909 : decode cL_law 909 = .ok (.iaload, 1) := dgt dbL_law_901 7 rfl
theorem dL_law_910 : decode cL_law 910 = .ok (.aload_n 0, 1) := dgt dbL_law_901 8 rfl
theorem dL_law_911 : decode cL_law 911 = .ok (.iload 5, 2) := dgt dbL_law_901 9 rfl
theorem dL_law_913 : decode cL_law 913 = .ok (.iconst 4, 1) := dgt dbL_law_901 10 rfl
theorem dL_law_914 : decode cL_law 914 = .ok (.iadd, 1) := dgt dbL_law_901 11 rfl
theorem dL_law_915 : decode cL_law 915 = .ok (.iaload, 1) := dgt dbL_law_901 12 rfl
theorem dL_law_916 : decode cL_law 916 = .ok (.invokevirtual 274, 3) := dgt dbL_law_901 13 rfl
theorem dL_law_919 : decode cL_law 919 = .ok (.istore 7, 2) := dgt dbL_law_901 14 rfl
theorem dL_law_921 : decode cL_law 921 = .ok (.goto 2003, 3) := dgt dbL_law_901 15 rfl
theorem dL_law_924 : decode cL_law 924 = .ok (.aload_n 1, 1) := dgt dbL_law_901 16 rfl
theorem dL_law_925 : decode cL_law 925 = .ok (.aload_n 0, 1) := dgt dbL_law_901 17 rfl
theorem dL_law_926 : decode cL_law 926 = .ok (.iload 5, 2) := dgt dbL_law_901 18 rfl
theorem dL_law_928 : decode cL_law 928 = .ok (.iconst 1, 1) := dgt dbL_law_901 19 rfl
theorem dL_law_929 : decode cL_law 929 = .ok (.iadd, 1) := dgt dbL_law_901 20 rfl
theorem dL_law_930 : decode cL_law 930 = .ok (.iaload, 1) := dgt dbL_law_901 21 rfl
theorem dL_law_931 : decode cL_law 931 = .ok (.aload_n 0, 1) := dgt dbL_law_901 22 rfl
theorem dL_law_932 : decode cL_law 932 = .ok (.iload 5, 2) := dgt dbL_law_901 23 rfl
theorem dL_law_934 : decode cL_law 934 = .ok (.iconst 2, 1) := dgt dbL_law_901 24 rfl
theorem dL_law_935 : decode cL_law 935 = .ok (.iadd, 1) := dgt dbL_law_901 25 rfl
theorem dL_law_936 : decode cL_law 936 = .ok (.iaload, 1) := dgt dbL_law_901 26 rfl
theorem dL_law_937 : decode cL_law 937 = .ok (.aload_n 0, 1) := dgt dbL_law_901 27 rfl
theorem dL_law_938 : decode cL_law 938 = .ok (.iload 5, 2) := dgt dbL_law_901 28 rfl
theorem dL_law_940 : decode cL_law 940 = .ok (.iconst 3, 1) := dgt dbL_law_901 29 rfl
theorem dL_law_941 : decode cL_law 941 = .ok (.iadd, 1) := dgt dbL_law_901 30 rfl
theorem dL_law_942 : decode cL_law 942 = .ok (.iaload, 1) := dgt dbL_law_901 31 rfl
theorem dL_law_943 : decode cL_law 943 = .ok (.aload_n 0, 1) := dgt dbL_law_901 32 rfl
theorem dL_law_944 : decode cL_law 944 = .ok (.iload 5, 2) := dgt dbL_law_901 33 rfl
theorem dL_law_946 : decode cL_law 946 = .ok (.iconst 4, 1) := dgt dbL_law_901 34 rfl
theorem dL_law_947 : decode cL_law 947 = .ok (.iadd, 1) := dgt dbL_law_901 35 rfl
theorem dL_law_948 : decode cL_law 948 = .ok (.iaload, 1) := dgt dbL_law_901 36 rfl
theorem dL_law_949 : decode cL_law 949 = .ok (.aload_n 3, 1) := dgt dbL_law_901 37 rfl
theorem dL_law_950 : decode cL_law 950 = .ok (.invokestatic 275, 3) := dgt dbL_law_901 38 rfl
theorem dL_law_953 : decode cL_law 953 = .ok (.istore 6, 2) := dgt dbL_law_901 39 rfl
theorem dL_law_955 : decode cL_law 955 = .ok (.aload_n 2, 1) := dgt dbL_law_901 40 rfl
theorem dL_law_956 : decode cL_law 956 = .ok (.aload_n 0, 1) := dgt dbL_law_901 41 rfl
theorem dL_law_957 : decode cL_law 957 = .ok (.iload 5, 2) := dgt dbL_law_901 42 rfl
theorem dL_law_959 : decode cL_law 959 = .ok (.iconst 1, 1) := dgt dbL_law_901 43 rfl
theorem dL_law_960 : decode cL_law 960 = .ok (.iadd, 1) := dgt dbL_law_901 44 rfl
theorem dL_law_961 : decode cL_law 961 = .ok (.iaload, 1) := dgt dbL_law_901 45 rfl
theorem dL_law_962 : decode cL_law 962 = .ok (.aload_n 0, 1) := dgt dbL_law_901 46 rfl
theorem dL_law_963 : decode cL_law 963 = .ok (.iload 5, 2) := dgt dbL_law_901 47 rfl
theorem dL_law_965 : decode cL_law 965 = .ok (.iconst 2, 1) := dgt dbL_law_901 48 rfl
theorem dL_law_966 : decode cL_law 966 = .ok (.iadd, 1) := dgt dbL_law_901 49 rfl
theorem dL_law_967 : decode cL_law 967 = .ok (.iaload, 1) := dgt dbL_law_901 50 rfl
theorem dL_law_968 : decode cL_law 968 = .ok (.aload_n 0, 1) := dgt dbL_law_901 51 rfl
theorem dL_law_969 : decode cL_law 969 = .ok (.iload 5, 2) := dgt dbL_law_901 52 rfl
theorem dL_law_971 : decode cL_law 971 = .ok (.iconst 3, 1) := dgt dbL_law_901 53 rfl
theorem dL_law_972 : decode cL_law 972 = .ok (.iadd, 1) := dgt dbL_law_901 54 rfl
theorem dL_law_973 : decode cL_law 973 = .ok (.iaload, 1) := dgt dbL_law_901 55 rfl
theorem dL_law_974 : decode cL_law 974 = .ok (.aload_n 0, 1) := dgt dbL_law_901 56 rfl
theorem dL_law_975 : decode cL_law 975 = .ok (.iload 5, 2) := dgt dbL_law_901 57 rfl
theorem dL_law_977 : decode cL_law 977 = .ok (.iconst 4, 1) := dgt dbL_law_901 58 rfl
theorem dL_law_978 : decode cL_law 978 = .ok (.iadd, 1) := dgt dbL_law_901 59 rfl
theorem dL_law_979 : decode cL_law 979 = .ok (.iaload, 1) := dgt dbL_law_901 60 rfl
theorem dL_law_980 : decode cL_law 980 = .ok (.invokevirtual 277, 3) := dgt dbL_law_901 61 rfl
theorem dL_law_983 : decode cL_law 983 = .ok (.istore 7, 2) := dgt dbL_law_901 62 rfl
theorem dL_law_985 : decode cL_law 985 = .ok (.goto 1939, 3) := dgt dbL_law_901 63 rfl
theorem dL_law_988 : decode cL_law 988 = .ok (.aload_n 1, 1) := dgt dbL_law_901 64 rfl
theorem dL_law_989 : decode cL_law 989 = .ok (.aload_n 0, 1) := dgt dbL_law_901 65 rfl
theorem dL_law_990 : decode cL_law 990 = .ok (.iload 5, 2) := dgt dbL_law_901 66 rfl
theorem dL_law_992 : decode cL_law 992 = .ok (.iconst 1, 1) := dgt dbL_law_901 67 rfl
theorem dL_law_993 : decode cL_law 993 = .ok (.iadd, 1) := dgt dbL_law_901 68 rfl
theorem dL_law_994 : decode cL_law 994 = .ok (.iaload, 1) := dgt dbL_law_901 69 rfl
theorem dL_law_995 : decode cL_law 995 = .ok (.aload_n 0, 1) := dgt dbL_law_901 70 rfl
theorem dL_law_996 : decode cL_law 996 = .ok (.iload 5, 2) := dgt dbL_law_901 71 rfl
theorem dL_law_998 : decode cL_law 998 = .ok (.iconst 2, 1) := dgt dbL_law_901 72 rfl
theorem dL_law_999 : decode cL_law 999 = .ok (.iadd, 1) := dgt dbL_law_901 73 rfl
theorem dL_law_1000 : decode cL_law 1000 = .ok (.iaload, 1) := dgt dbL_law_901 74 rfl
theorem dL_law_1001 : decode cL_law 1001 = .ok (.aload_n 0, 1) := dgt dbL_law_901 75 rfl
theorem dL_law_1002 : decode cL_law 1002 = .ok (.iload 5, 2) := dgt dbL_law_901 76 rfl
theorem dL_law_1004 : decode cL_law 1004 = .ok (.iconst 3, 1) := dgt dbL_law_901 77 rfl
theorem dL_law_1005 : decode cL_law 1005 = .ok (.iadd, 1) := dgt dbL_law_901 78 rfl
theorem dL_law_1006 : decode cL_law 1006 = .ok (.iaload, 1) := dgt dbL_law_901 79 rfl
def dlL_law_1007 : List (Nat × Instr × Nat) := [(1007, .aload_n 3, 1), (1008, .invokestatic 278, 3), (1011, .istore 6, 2), (1013, .aload_n 2, 1), (1014, .aload_n 0, 1), (1015, .iload 5, 2), (1017, .iconst 1, 1), (1018, .iadd, 1), (1019, .iaload, 1), (1020, .aload_n 0, 1), (1021, .iload 5, 2), (1023, .iconst 2, 1), (1024, .iadd, 1), (1025, .iaload, 1), (1026, .aload_n 0, 1), (1027, .iload 5, 2), (1029, .iconst 3, 1), (1030, .iadd, 1), (1031, .iaload, 1), (1032, .invokevirtual 281, 3), (1035, .istore 7, 2), (1037, .aload_n 2, 1), (1038, .invokevirtual 282, 3), (1041, .iload 6, 2), (1043, .if_icmp .eq 5, 3), (1046, .iconst 0, 1), (1047, .ireturn, 1), (1048, .iload 6, 2), (1050, .ifCond .ne 15, 3), (1053, .aload_n 3, 1), (1054, .iconst 0, 1), (1055, .laload, 1), (1056, .iload 7, 2), (1058, .i2l, 1), (1059, .lcmp, 1), (1060, .ifCond .eq 5, 3), (1063, .iconst 0, 1), (1064, .ireturn, 1), (1065, .goto 1859, 3), (1068, .aload_n 1, 1), (1069, .aload_n 0, 1), (1070, .iload 5, 2), (1072, .iconst 1, 1), (1073, .iadd, 1), (1074, .iaload, 1), (1075, .aload_n 0, 1), (1076, .iload 5, 2), (1078, .iconst 2, 1), (1079, .iadd, 1), (1080, .iaload, 1), (1081, .aload_n 0, 1), (1082, .iload 5, 2), (1084, .iconst 3, 1), (1085, .iadd, 1), (1086, .iaload, 1), (1087, .aload_n 0, 1), (1088, .iload 5, 2), (1090, .iconst 4, 1), (1091, .iadd, 1), (1092, .iaload, 1), (1093, .aload_n 3, 1), (1094, .invokestatic 286, 3), (1097, .istore 6, 2), (1099, .aload_n 2, 1), (1100, .aload_n 0, 1), (1101, .iload 5, 2), (1103, .iconst 1, 1), (1104, .iadd, 1), (1105, .iaload, 1), (1106, .aload_n 0, 1), (1107, .iload 5, 2), (1109, .iconst 2, 1), (1110, .iadd, 1), (1111, .iaload, 1), (1112, .aload_n 0, 1), (1113, .iload 5, 2), (1115, .iconst 3, 1), (1116, .iadd, 1), (1117, .iaload, 1), (1118, .aload_n 0, 1)]
theorem dbL_law_1007 : ∀ q ∈ dlL_law_1007, decode cL_law q.1 = .ok q.2 := by decide +kernel
theorem dL_law_1007 : decode cL_law 1007 = .ok (.aload_n 3, 1) := dgt dbL_law_1007 0 rfl
theorem dL_law_1008 : decode cL_law 1008 = .ok (.invokestatic 278, 3) := dgt dbL_law_1007 1 rfl
theorem dL_law_1011 : decode cL_law 1011 = .ok (.istore 6, 2) := dgt dbL_law_1007 2 rfl
theorem dL_law_1013 : decode cL_law 1013 = .ok (.aload_n 2, 1) := dgt dbL_law_1007 3 rfl
theorem dL_law_1014 : decode cL_law 1014 = .ok (.aload_n 0, 1) := dgt dbL_law_1007 4 rfl
theorem dL_law_1015 : decode cL_law 1015 = .ok (.iload 5, 2) := dgt dbL_law_1007 5 rfl
theorem dL_law_1017 : decode cL_law 1017 = .ok (.iconst 1, 1) := dgt dbL_law_1007 6 rfl
theorem dL_law_1018 : decode cL_law 1018 = .ok (.iadd, 1) := dgt dbL_law_1007 7 rfl
theorem dL_law_1019 : decode cL_law 1019 = .ok (.iaload, 1) := dgt dbL_law_1007 8 rfl
theorem dL_law_1020 : decode cL_law 1020 = .ok (.aload_n 0, 1) := dgt dbL_law_1007 9 rfl
theorem dL_law_1021 : decode cL_law 1021 = .ok (.iload 5, 2) := dgt dbL_law_1007 10 rfl
theorem dL_law_1023 : decode cL_law 1023 = .ok (.iconst 2, 1) := dgt dbL_law_1007 11 rfl
theorem dL_law_1024 : decode cL_law 1024 = .ok (.iadd, 1) := dgt dbL_law_1007 12 rfl
theorem dL_law_1025 : decode cL_law 1025 = .ok (.iaload, 1) := dgt dbL_law_1007 13 rfl
theorem dL_law_1026 : decode cL_law 1026 = .ok (.aload_n 0, 1) := dgt dbL_law_1007 14 rfl
theorem dL_law_1027 : decode cL_law 1027 = .ok (.iload 5, 2) := dgt dbL_law_1007 15 rfl
theorem dL_law_1029 : decode cL_law 1029 = .ok (.iconst 3, 1) := dgt dbL_law_1007 16 rfl
theorem dL_law_1030 : decode cL_law 1030 = .ok (.iadd, 1) := dgt dbL_law_1007 17 rfl
theorem dL_law_1031 : decode cL_law 1031 = .ok (.iaload, 1) := dgt dbL_law_1007 18 rfl
theorem dL_law_1032 : decode cL_law 1032 = .ok (.invokevirtual 281, 3) := dgt dbL_law_1007 19 rfl
theorem dL_law_1035 : decode cL_law 1035 = .ok (.istore 7, 2) := dgt dbL_law_1007 20 rfl
theorem dL_law_1037 : decode cL_law 1037 = .ok (.aload_n 2, 1) := dgt dbL_law_1007 21 rfl
theorem dL_law_1038 : decode cL_law 1038 = .ok (.invokevirtual 282, 3) := dgt dbL_law_1007 22 rfl
theorem dL_law_1041 : decode cL_law 1041 = .ok (.iload 6, 2) := dgt dbL_law_1007 23 rfl
theorem dL_law_1043 : decode cL_law 1043 = .ok (.if_icmp .eq 5, 3) := dgt dbL_law_1007 24 rfl
theorem dL_law_1046 : decode cL_law 1046 = .ok (.iconst 0, 1) := dgt dbL_law_1007 25 rfl
theorem dL_law_1047 : decode cL_law 1047 = .ok (.ireturn, 1) := dgt dbL_law_1007 26 rfl
theorem dL_law_1048 : decode cL_law 1048 = .ok (.iload 6, 2) := dgt dbL_law_1007 27 rfl
theorem dL_law_1050 : decode cL_law 1050 = .ok (.ifCond .ne 15, 3) := dgt dbL_law_1007 28 rfl
theorem dL_law_1053 : decode cL_law 1053 = .ok (.aload_n 3, 1) := dgt dbL_law_1007 29 rfl
theorem dL_law_1054 : decode cL_law 1054 = .ok (.iconst 0, 1) := dgt dbL_law_1007 30 rfl
theorem dL_law_1055 : decode cL_law 1055 = .ok (.laload, 1) := dgt dbL_law_1007 31 rfl
theorem dL_law_1056 : decode cL_law 1056 = .ok (.iload 7, 2) := dgt dbL_law_1007 32 rfl
theorem dL_law_1058 : decode cL_law 1058 = .ok (.i2l, 1) := dgt dbL_law_1007 33 rfl
theorem dL_law_1059 : decode cL_law 1059 = .ok (.lcmp, 1) := dgt dbL_law_1007 34 rfl
theorem dL_law_1060 : decode cL_law 1060 = .ok (.ifCond .eq 5, 3) := dgt dbL_law_1007 35 rfl
theorem dL_law_1063 : decode cL_law 1063 = .ok (.iconst 0, 1) := dgt dbL_law_1007 36 rfl
theorem dL_law_1064 : decode cL_law 1064 = .ok (.ireturn, 1) := dgt dbL_law_1007 37 rfl
theorem dL_law_1065 : decode cL_law 1065 = .ok (.goto 1859, 3) := dgt dbL_law_1007 38 rfl
theorem dL_law_1068 : decode cL_law 1068 = .ok (.aload_n 1, 1) := dgt dbL_law_1007 39 rfl
theorem dL_law_1069 : decode cL_law 1069 = .ok (.aload_n 0, 1) := dgt dbL_law_1007 40 rfl
theorem dL_law_1070 : decode cL_law 1070 = .ok (.iload 5, 2) := dgt dbL_law_1007 41 rfl
theorem dL_law_1072 : decode cL_law 1072 = .ok (.iconst 1, 1) := dgt dbL_law_1007 42 rfl
theorem dL_law_1073 : decode cL_law 1073 = .ok (.iadd, 1) := dgt dbL_law_1007 43 rfl
theorem dL_law_1074 : decode cL_law 1074 = .ok (.iaload, 1) := dgt dbL_law_1007 44 rfl
theorem dL_law_1075 : decode cL_law 1075 = .ok (.aload_n 0, 1) := dgt dbL_law_1007 45 rfl
theorem dL_law_1076 : decode cL_law 1076 = .ok (.iload 5, 2) := dgt dbL_law_1007 46 rfl
theorem dL_law_1078 : decode cL_law 1078 = .ok (.iconst 2, 1) := dgt dbL_law_1007 47 rfl
theorem dL_law_1079 : decode cL_law 1079 = .ok (.iadd, 1) := dgt dbL_law_1007 48 rfl
theorem dL_law_1080 : decode cL_law 1080 = .ok (.iaload, 1) := dgt dbL_law_1007 49 rfl
theorem dL_law_1081 : decode cL_law 1081 = .ok (.aload_n 0, 1) := dgt dbL_law_1007 50 rfl
theorem dL_law_1082 : decode cL_law 1082 = .ok (.iload 5, 2) := dgt dbL_law_1007 51 rfl
theorem dL_law_1084 : decode cL_law 1084 = .ok (.iconst 3, 1) := dgt dbL_law_1007 52 rfl
theorem dL_law_1085 : decode cL_law 1085 = .ok (.iadd, 1) := dgt dbL_law_1007 53 rfl
theorem dL_law_1086 : decode cL_law 1086 = .ok (.iaload, 1) := dgt dbL_law_1007 54 rfl
theorem dL_law_1087 : decode cL_law 1087 = .ok (.aload_n 0, 1) := dgt dbL_law_1007 55 rfl
theorem dL_law_1088 : decode cL_law 1088 = .ok (.iload 5, 2) := dgt dbL_law_1007 56 rfl
theorem dL_law_1090 : decode cL_law 1090 = .ok (.iconst 4, 1) := dgt dbL_law_1007 57 rfl
theorem dL_law_1091 : decode cL_law 1091 = .ok (.iadd, 1) := dgt dbL_law_1007 58 rfl
theorem dL_law_1092 : decode cL_law 1092 = .ok (.iaload, 1) := dgt dbL_law_1007 59 rfl
theorem dL_law_1093 : decode cL_law 1093 = .ok (.aload_n 3, 1) := dgt dbL_law_1007 60 rfl
theorem dL_law_1094 : decode cL_law 1094 = .ok (.invokestatic 286, 3) := dgt dbL_law_1007 61 rfl
theorem dL_law_1097 : decode cL_law 1097 = .ok (.istore 6, 2) := dgt dbL_law_1007 62 rfl
theorem dL_law_1099 : decode cL_law 1099 = .ok (.aload_n 2, 1) := dgt dbL_law_1007 63 rfl
theorem dL_law_1100 : decode cL_law 1100 = .ok (.aload_n 0, 1) := dgt dbL_law_1007 64 rfl
theorem dL_law_1101 : decode cL_law 1101 = .ok (.iload 5, 2) := dgt dbL_law_1007 65 rfl
theorem dL_law_1103 : decode cL_law 1103 = .ok (.iconst 1, 1) := dgt dbL_law_1007 66 rfl
theorem dL_law_1104 : decode cL_law 1104 = .ok (.iadd, 1) := dgt dbL_law_1007 67 rfl
theorem dL_law_1105 : decode cL_law 1105 = .ok (.iaload, 1) := dgt dbL_law_1007 68 rfl
theorem dL_law_1106 : decode cL_law 1106 = .ok (.aload_n 0, 1) := dgt dbL_law_1007 69 rfl
theorem dL_law_1107 : decode cL_law 1107 = .ok (.iload 5, 2) := dgt dbL_law_1007 70 rfl
theorem dL_law_1109 : decode cL_law 1109 = .ok (.iconst 2, 1) := dgt dbL_law_1007 71 rfl
theorem dL_law_1110 : decode cL_law 1110 = .ok (.iadd, 1) := dgt dbL_law_1007 72 rfl
theorem dL_law_1111 : decode cL_law 1111 = .ok (.iaload, 1) := dgt dbL_law_1007 73 rfl
theorem dL_law_1112 : decode cL_law 1112 = .ok (.aload_n 0, 1) := dgt dbL_law_1007 74 rfl
theorem dL_law_1113 : decode cL_law 1113 = .ok (.iload 5, 2) := dgt dbL_law_1007 75 rfl
theorem dL_law_1115 : decode cL_law 1115 = .ok (.iconst 3, 1) := dgt dbL_law_1007 76 rfl
theorem dL_law_1116 : decode cL_law 1116 = .ok (.iadd, 1) := dgt dbL_law_1007 77 rfl
theorem dL_law_1117 : decode cL_law 1117 = .ok (.iaload, 1) := dgt dbL_law_1007 78 rfl
theorem dL_law_1118 : decode cL_law 1118 = .ok (.aload_n 0, 1) := dgt dbL_law_1007 79 rfl
def dlL_law_1119 : List (Nat × Instr × Nat) := [(1119, .iload 5, 2), (1121, .iconst 4, 1), (1122, .iadd, 1), (1123, .iaload, 1), (1124, .invokevirtual 288, 3), (1127, .istore 7, 2), (1129, .goto 1795, 3), (1132, .aload_n 1, 1), (1133, .aload_n 0, 1), (1134, .iload 5, 2), (1136, .iconst 1, 1), (1137, .iadd, 1), (1138, .iaload, 1), (1139, .aload_n 3, 1), (1140, .invokestatic 289, 3), (1143, .istore 6, 2), (1145, .aload_n 2, 1), (1146, .aload_n 0, 1), (1147, .iload 5, 2), (1149, .iconst 1, 1), (1150, .iadd, 1), (1151, .iaload, 1), (1152, .invokevirtual 291, 3), (1155, .istore 7, 2), (1157, .goto 1767, 3), (1160, .aload_n 1, 1), (1161, .aload_n 0, 1), (1162, .iload 5, 2), (1164, .iconst 1, 1), (1165, .iadd, 1), (1166, .iaload, 1), (1167, .aload_n 0, 1), (1168, .iload 5, 2), (1170, .iconst 2, 1), (1171, .iadd, 1), (1172, .iaload, 1), (1173, .aload_n 0, 1), (1174, .iload 5, 2), (1176, .iconst 3, 1), (1177, .iadd, 1), (1178, .iaload, 1), (1179, .aload_n 3, 1), (1180, .invokestatic 292, 3), (1183, .istore 6, 2), (1185, .aload_n 2, 1), (1186, .aload_n 0, 1), (1187, .iload 5, 2), (1189, .iconst 1, 1), (1190, .iadd, 1), (1191, .iaload, 1), (1192, .aload_n 0, 1), (1193, .iload 5, 2), (1195, .iconst 2, 1), (1196, .iadd, 1), (1197, .iaload, 1), (1198, .aload_n 0, 1), (1199, .iload 5, 2), (1201, .iconst 3, 1), (1202, .iadd, 1), (1203, .iaload, 1), (1204, .invokevirtual 294, 3), (1207, .istore 7, 2), (1209, .goto 1715, 3), (1212, .aload_n 1, 1), (1213, .aload_n 0, 1), (1214, .iload 5, 2), (1216, .iconst 1, 1), (1217, .iadd, 1), (1218, .iaload, 1), (1219, .aload_n 0, 1), (1220, .iload 5, 2), (1222, .iconst 2, 1), (1223, .iadd, 1), (1224, .iaload, 1), (1225, .aload_n 0, 1), (1226, .iload 5, 2), (1228, .iconst 3, 1), (1229, .iadd, 1), (1230, .iaload, 1), (1231, .aload_n 3, 1)]
theorem dbL_law_1119 : ∀ q ∈ dlL_law_1119, decode cL_law q.1 = .ok q.2 := by decide +kernel
theorem dL_law_1119 : decode cL_law 1119 = .ok (.iload 5, 2) := dgt dbL_law_1119 0 rfl
theorem dL_law_1121 : decode cL_law 1121 = .ok (.iconst 4, 1) := dgt dbL_law_1119 1 rfl
theorem dL_law_1122 : decode cL_law 1122 = .ok (.iadd, 1) := dgt dbL_law_1119 2 rfl
theorem dL_law_1123 : decode cL_law 1123 = .ok (.iaload, 1) := dgt dbL_law_1119 3 rfl
theorem dL_law_1124 : decode cL_law 1124 = .ok (.invokevirtual 288, 3) := dgt dbL_law_1119 4 rfl
theorem dL_law_1127 : decode cL_law 1127 = .ok (.istore 7, 2) := dgt dbL_law_1119 5 rfl
theorem dL_law_1129 : decode cL_law 1129 = .ok (.goto 1795, 3) := dgt dbL_law_1119 6 rfl
theorem dL_law_1132 : decode cL_law 1132 = .ok (.aload_n 1, 1) := dgt dbL_law_1119 7 rfl
theorem dL_law_1133 : decode cL_law 1133 = .ok (.aload_n 0, 1) := dgt dbL_law_1119 8 rfl
theorem dL_law_1134 : decode cL_law 1134 = .ok (.iload 5, 2) := dgt dbL_law_1119 9 rfl
theorem dL_law_1136 : decode cL_law 1136 = .ok (.iconst 1, 1) := dgt dbL_law_1119 10 rfl
theorem dL_law_1137 : decode cL_law 1137 = .ok (.iadd, 1) := dgt dbL_law_1119 11 rfl
theorem dL_law_1138 : decode cL_law 1138 = .ok (.iaload, 1) := dgt dbL_law_1119 12 rfl
theorem dL_law_1139 : decode cL_law 1139 = .ok (.aload_n 3, 1) := dgt dbL_law_1119 13 rfl
theorem dL_law_1140 : decode cL_law 1140 = .ok (.invokestatic 289, 3) := dgt dbL_law_1119 14 rfl
theorem dL_law_1143 : decode cL_law 1143 = .ok (.istore 6, 2) := dgt dbL_law_1119 15 rfl
theorem dL_law_1145 : decode cL_law 1145 = .ok (.aload_n 2, 1) := dgt dbL_law_1119 16 rfl
theorem dL_law_1146 : decode cL_law 1146 = .ok (.aload_n 0, 1) := dgt dbL_law_1119 17 rfl
theorem dL_law_1147 : decode cL_law 1147 = .ok (.iload 5, 2) := dgt dbL_law_1119 18 rfl
theorem dL_law_1149 : decode cL_law 1149 = .ok (.iconst 1, 1) := dgt dbL_law_1119 19 rfl
theorem dL_law_1150 : decode cL_law 1150 = .ok (.iadd, 1) := dgt dbL_law_1119 20 rfl
theorem dL_law_1151 : decode cL_law 1151 = .ok (.iaload, 1) := dgt dbL_law_1119 21 rfl
theorem dL_law_1152 : decode cL_law 1152 = .ok (.invokevirtual 291, 3) := dgt dbL_law_1119 22 rfl
theorem dL_law_1155 : decode cL_law 1155 = .ok (.istore 7, 2) := dgt dbL_law_1119 23 rfl
theorem dL_law_1157 : decode cL_law 1157 = .ok (.goto 1767, 3) := dgt dbL_law_1119 24 rfl
theorem dL_law_1160 : decode cL_law 1160 = .ok (.aload_n 1, 1) := dgt dbL_law_1119 25 rfl
theorem dL_law_1161 : decode cL_law 1161 = .ok (.aload_n 0, 1) := dgt dbL_law_1119 26 rfl
theorem dL_law_1162 : decode cL_law 1162 = .ok (.iload 5, 2) := dgt dbL_law_1119 27 rfl
theorem dL_law_1164 : decode cL_law 1164 = .ok (.iconst 1, 1) := dgt dbL_law_1119 28 rfl
theorem dL_law_1165 : decode cL_law 1165 = .ok (.iadd, 1) := dgt dbL_law_1119 29 rfl
theorem dL_law_1166 : decode cL_law 1166 = .ok (.iaload, 1) := dgt dbL_law_1119 30 rfl
theorem dL_law_1167 : decode cL_law 1167 = .ok (.aload_n 0, 1) := dgt dbL_law_1119 31 rfl
theorem dL_law_1168 : decode cL_law 1168 = .ok (.iload 5, 2) := dgt dbL_law_1119 32 rfl
theorem dL_law_1170 : decode cL_law 1170 = .ok (.iconst 2, 1) := dgt dbL_law_1119 33 rfl
theorem dL_law_1171 : decode cL_law 1171 = .ok (.iadd, 1) := dgt dbL_law_1119 34 rfl
theorem dL_law_1172 : decode cL_law 1172 = .ok (.iaload, 1) := dgt dbL_law_1119 35 rfl
theorem dL_law_1173 : decode cL_law 1173 = .ok (.aload_n 0, 1) := dgt dbL_law_1119 36 rfl
theorem dL_law_1174 : decode cL_law 1174 = .ok (.iload 5, 2) := dgt dbL_law_1119 37 rfl
theorem dL_law_1176 : decode cL_law 1176 = .ok (.iconst 3, 1) := dgt dbL_law_1119 38 rfl
theorem dL_law_1177 : decode cL_law 1177 = .ok (.iadd, 1) := dgt dbL_law_1119 39 rfl
theorem dL_law_1178 : decode cL_law 1178 = .ok (.iaload, 1) := dgt dbL_law_1119 40 rfl
theorem dL_law_1179 : decode cL_law 1179 = .ok (.aload_n 3, 1) := dgt dbL_law_1119 41 rfl
theorem dL_law_1180 : decode cL_law 1180 = .ok (.invokestatic 292, 3) := dgt dbL_law_1119 42 rfl
theorem dL_law_1183 : decode cL_law 1183 = .ok (.istore 6, 2) := dgt dbL_law_1119 43 rfl
theorem dL_law_1185 : decode cL_law 1185 = .ok (.aload_n 2, 1) := dgt dbL_law_1119 44 rfl
theorem dL_law_1186 : decode cL_law 1186 = .ok (.aload_n 0, 1) := dgt dbL_law_1119 45 rfl
theorem dL_law_1187 : decode cL_law 1187 = .ok (.iload 5, 2) := dgt dbL_law_1119 46 rfl
theorem dL_law_1189 : decode cL_law 1189 = .ok (.iconst 1, 1) := dgt dbL_law_1119 47 rfl
theorem dL_law_1190 : decode cL_law 1190 = .ok (.iadd, 1) := dgt dbL_law_1119 48 rfl
theorem dL_law_1191 : decode cL_law 1191 = .ok (.iaload, 1) := dgt dbL_law_1119 49 rfl
theorem dL_law_1192 : decode cL_law 1192 = .ok (.aload_n 0, 1) := dgt dbL_law_1119 50 rfl
theorem dL_law_1193 : decode cL_law 1193 = .ok (.iload 5, 2) := dgt dbL_law_1119 51 rfl
theorem dL_law_1195 : decode cL_law 1195 = .ok (.iconst 2, 1) := dgt dbL_law_1119 52 rfl
theorem dL_law_1196 : decode cL_law 1196 = .ok (.iadd, 1) := dgt dbL_law_1119 53 rfl
theorem dL_law_1197 : decode cL_law 1197 = .ok (.iaload, 1) := dgt dbL_law_1119 54 rfl
theorem dL_law_1198 : decode cL_law 1198 = .ok (.aload_n 0, 1) := dgt dbL_law_1119 55 rfl
theorem dL_law_1199 : decode cL_law 1199 = .ok (.iload 5, 2) := dgt dbL_law_1119 56 rfl
theorem dL_law_1201 : decode cL_law 1201 = .ok (.iconst 3, 1) := dgt dbL_law_1119 57 rfl
theorem dL_law_1202 : decode cL_law 1202 = .ok (.iadd, 1) := dgt dbL_law_1119 58 rfl
theorem dL_law_1203 : decode cL_law 1203 = .ok (.iaload, 1) := dgt dbL_law_1119 59 rfl
theorem dL_law_1204 : decode cL_law 1204 = .ok (.invokevirtual 294, 3) := dgt dbL_law_1119 60 rfl
theorem dL_law_1207 : decode cL_law 1207 = .ok (.istore 7, 2) := dgt dbL_law_1119 61 rfl
theorem dL_law_1209 : decode cL_law 1209 = .ok (.goto 1715, 3) := dgt dbL_law_1119 62 rfl
theorem dL_law_1212 : decode cL_law 1212 = .ok (.aload_n 1, 1) := dgt dbL_law_1119 63 rfl
theorem dL_law_1213 : decode cL_law 1213 = .ok (.aload_n 0, 1) := dgt dbL_law_1119 64 rfl
theorem dL_law_1214 : decode cL_law 1214 = .ok (.iload 5, 2) := dgt dbL_law_1119 65 rfl
theorem dL_law_1216 : decode cL_law 1216 = .ok (.iconst 1, 1) := dgt dbL_law_1119 66 rfl
theorem dL_law_1217 : decode cL_law 1217 = .ok (.iadd, 1) := dgt dbL_law_1119 67 rfl
theorem dL_law_1218 : decode cL_law 1218 = .ok (.iaload, 1) := dgt dbL_law_1119 68 rfl
theorem dL_law_1219 : decode cL_law 1219 = .ok (.aload_n 0, 1) := dgt dbL_law_1119 69 rfl
theorem dL_law_1220 : decode cL_law 1220 = .ok (.iload 5, 2) := dgt dbL_law_1119 70 rfl
theorem dL_law_1222 : decode cL_law 1222 = .ok (.iconst 2, 1) := dgt dbL_law_1119 71 rfl
theorem dL_law_1223 : decode cL_law 1223 = .ok (.iadd, 1) := dgt dbL_law_1119 72 rfl
theorem dL_law_1224 : decode cL_law 1224 = .ok (.iaload, 1) := dgt dbL_law_1119 73 rfl
theorem dL_law_1225 : decode cL_law 1225 = .ok (.aload_n 0, 1) := dgt dbL_law_1119 74 rfl
theorem dL_law_1226 : decode cL_law 1226 = .ok (.iload 5, 2) := dgt dbL_law_1119 75 rfl
theorem dL_law_1228 : decode cL_law 1228 = .ok (.iconst 3, 1) := dgt dbL_law_1119 76 rfl
theorem dL_law_1229 : decode cL_law 1229 = .ok (.iadd, 1) := dgt dbL_law_1119 77 rfl
theorem dL_law_1230 : decode cL_law 1230 = .ok (.iaload, 1) := dgt dbL_law_1119 78 rfl
theorem dL_law_1231 : decode cL_law 1231 = .ok (.aload_n 3, 1) := dgt dbL_law_1119 79 rfl
def dlL_law_1232 : List (Nat × Instr × Nat) := [(1232, .invokestatic 295, 3), (1235, .istore 6, 2), (1237, .aload_n 2, 1), (1238, .aload_n 0, 1), (1239, .iload 5, 2), (1241, .iconst 1, 1), (1242, .iadd, 1), (1243, .iaload, 1), (1244, .aload_n 0, 1), (1245, .iload 5, 2), (1247, .iconst 2, 1), (1248, .iadd, 1), (1249, .iaload, 1), (1250, .aload_n 0, 1), (1251, .iload 5, 2), (1253, .iconst 3, 1), (1254, .iadd, 1), (1255, .iaload, 1), (1256, .invokevirtual 297, 3), (1259, .istore 7, 2), (1261, .goto 1663, 3), (1264, .aload_n 1, 1), (1265, .aload_n 0, 1), (1266, .iload 5, 2), (1268, .iconst 1, 1), (1269, .iadd, 1), (1270, .iaload, 1), (1271, .aload_n 0, 1), (1272, .iload 5, 2), (1274, .iconst 2, 1), (1275, .iadd, 1), (1276, .iaload, 1), (1277, .aload_n 3, 1), (1278, .invokestatic 298, 3), (1281, .istore 6, 2), (1283, .aload_n 2, 1), (1284, .aload_n 0, 1), (1285, .iload 5, 2), (1287, .iconst 1, 1), (1288, .iadd, 1), (1289, .iaload, 1), (1290, .aload_n 0, 1), (1291, .iload 5, 2), (1293, .iconst 2, 1), (1294, .iadd, 1), (1295, .iaload, 1), (1296, .invokevirtual 300, 3), (1299, .istore 7, 2), (1301, .goto 1623, 3), (1304, .aload_n 1, 1), (1305, .aload_n 0, 1), (1306, .iload 5, 2), (1308, .iconst 1, 1), (1309, .iadd, 1), (1310, .iaload, 1), (1311, .aload_n 0, 1), (1312, .iload 5, 2), (1314, .iconst 2, 1), (1315, .iadd, 1), (1316, .iaload, 1), (1317, .aload_n 0, 1), (1318, .iload 5, 2), (1320, .iconst 3, 1), (1321, .iadd, 1), (1322, .iaload, 1), (1323, .aload_n 0, 1), (1324, .iload 5, 2), (1326, .iconst 4, 1), (1327, .iadd, 1), (1328, .iaload, 1), (1329, .aload_n 3, 1), (1330, .invokestatic 301, 3), (1333, .istore 6, 2), (1335, .aload_n 2, 1), (1336, .aload_n 0, 1), (1337, .iload 5, 2), (1339, .iconst 1, 1), (1340, .iadd, 1), (1341, .iaload, 1), (1342, .aload_n 0, 1)]
theorem dbL_law_1232 : ∀ q ∈ dlL_law_1232, decode cL_law q.1 = .ok q.2 := by decide +kernel
theorem dL_law_1232 : decode cL_law 1232 = .ok (.invokestatic 295, 3) := dgt dbL_law_1232 0 rfl
theorem dL_law_1235 : decode cL_law 1235 = .ok (.istore 6, 2) := dgt dbL_law_1232 1 rfl
theorem dL_law_1237 : decode cL_law 1237 = .ok (.aload_n 2, 1) := dgt dbL_law_1232 2 rfl
theorem dL_law_1238 : decode cL_law 1238 = .ok (.aload_n 0, 1) := dgt dbL_law_1232 3 rfl
theorem dL_law_1239 : decode cL_law 1239 = .ok (.iload 5, 2) := dgt dbL_law_1232 4 rfl
theorem dL_law_1241 : decode cL_law 1241 = .ok (.iconst 1, 1) := dgt dbL_law_1232 5 rfl
theorem dL_law_1242 : decode cL_law 1242 = .ok (.iadd, 1) := dgt dbL_law_1232 6 rfl
theorem dL_law_1243 : decode cL_law 1243 = .ok (.iaload, 1) := dgt dbL_law_1232 7 rfl
theorem dL_law_1244 : decode cL_law 1244 = .ok (.aload_n 0, 1) := dgt dbL_law_1232 8 rfl
theorem dL_law_1245 : decode cL_law 1245 = .ok (.iload 5, 2) := dgt dbL_law_1232 9 rfl
theorem dL_law_1247 : decode cL_law 1247 = .ok (.iconst 2, 1) := dgt dbL_law_1232 10 rfl
theorem dL_law_1248 : decode cL_law 1248 = .ok (.iadd, 1) := dgt dbL_law_1232 11 rfl
theorem dL_law_1249 : decode cL_law 1249 = .ok (.iaload, 1) := dgt dbL_law_1232 12 rfl
theorem dL_law_1250 : decode cL_law 1250 = .ok (.aload_n 0, 1) := dgt dbL_law_1232 13 rfl
theorem dL_law_1251 : decode cL_law 1251 = .ok (.iload 5, 2) := dgt dbL_law_1232 14 rfl
theorem dL_law_1253 : decode cL_law 1253 = .ok (.iconst 3, 1) := dgt dbL_law_1232 15 rfl
theorem dL_law_1254 : decode cL_law 1254 = .ok (.iadd, 1) := dgt dbL_law_1232 16 rfl
theorem dL_law_1255 : decode cL_law 1255 = .ok (.iaload, 1) := dgt dbL_law_1232 17 rfl
theorem dL_law_1256 : decode cL_law 1256 = .ok (.invokevirtual 297, 3) := dgt dbL_law_1232 18 rfl
theorem dL_law_1259 : decode cL_law 1259 = .ok (.istore 7, 2) := dgt dbL_law_1232 19 rfl
theorem dL_law_1261 : decode cL_law 1261 = .ok (.goto 1663, 3) := dgt dbL_law_1232 20 rfl
theorem dL_law_1264 : decode cL_law 1264 = .ok (.aload_n 1, 1) := dgt dbL_law_1232 21 rfl
theorem dL_law_1265 : decode cL_law 1265 = .ok (.aload_n 0, 1) := dgt dbL_law_1232 22 rfl
theorem dL_law_1266 : decode cL_law 1266 = .ok (.iload 5, 2) := dgt dbL_law_1232 23 rfl
theorem dL_law_1268 : decode cL_law 1268 = .ok (.iconst 1, 1) := dgt dbL_law_1232 24 rfl
theorem dL_law_1269 : decode cL_law 1269 = .ok (.iadd, 1) := dgt dbL_law_1232 25 rfl
theorem dL_law_1270 : decode cL_law 1270 = .ok (.iaload, 1) := dgt dbL_law_1232 26 rfl
theorem dL_law_1271 : decode cL_law 1271 = .ok (.aload_n 0, 1) := dgt dbL_law_1232 27 rfl
theorem dL_law_1272 : decode cL_law 1272 = .ok (.iload 5, 2) := dgt dbL_law_1232 28 rfl
theorem dL_law_1274 : decode cL_law 1274 = .ok (.iconst 2, 1) := dgt dbL_law_1232 29 rfl
theorem dL_law_1275 : decode cL_law 1275 = .ok (.iadd, 1) := dgt dbL_law_1232 30 rfl
theorem dL_law_1276 : decode cL_law 1276 = .ok (.iaload, 1) := dgt dbL_law_1232 31 rfl
theorem dL_law_1277 : decode cL_law 1277 = .ok (.aload_n 3, 1) := dgt dbL_law_1232 32 rfl
theorem dL_law_1278 : decode cL_law 1278 = .ok (.invokestatic 298, 3) := dgt dbL_law_1232 33 rfl
theorem dL_law_1281 : decode cL_law 1281 = .ok (.istore 6, 2) := dgt dbL_law_1232 34 rfl
theorem dL_law_1283 : decode cL_law 1283 = .ok (.aload_n 2, 1) := dgt dbL_law_1232 35 rfl
theorem dL_law_1284 : decode cL_law 1284 = .ok (.aload_n 0, 1) := dgt dbL_law_1232 36 rfl
theorem dL_law_1285 : decode cL_law 1285 = .ok (.iload 5, 2) := dgt dbL_law_1232 37 rfl
theorem dL_law_1287 : decode cL_law 1287 = .ok (.iconst 1, 1) := dgt dbL_law_1232 38 rfl
theorem dL_law_1288 : decode cL_law 1288 = .ok (.iadd, 1) := dgt dbL_law_1232 39 rfl
theorem dL_law_1289 : decode cL_law 1289 = .ok (.iaload, 1) := dgt dbL_law_1232 40 rfl
theorem dL_law_1290 : decode cL_law 1290 = .ok (.aload_n 0, 1) := dgt dbL_law_1232 41 rfl
theorem dL_law_1291 : decode cL_law 1291 = .ok (.iload 5, 2) := dgt dbL_law_1232 42 rfl
theorem dL_law_1293 : decode cL_law 1293 = .ok (.iconst 2, 1) := dgt dbL_law_1232 43 rfl
theorem dL_law_1294 : decode cL_law 1294 = .ok (.iadd, 1) := dgt dbL_law_1232 44 rfl
theorem dL_law_1295 : decode cL_law 1295 = .ok (.iaload, 1) := dgt dbL_law_1232 45 rfl
theorem dL_law_1296 : decode cL_law 1296 = .ok (.invokevirtual 300, 3) := dgt dbL_law_1232 46 rfl
theorem dL_law_1299 : decode cL_law 1299 = .ok (.istore 7, 2) := dgt dbL_law_1232 47 rfl
theorem dL_law_1301 : decode cL_law 1301 = .ok (.goto 1623, 3) := dgt dbL_law_1232 48 rfl
theorem dL_law_1304 : decode cL_law 1304 = .ok (.aload_n 1, 1) := dgt dbL_law_1232 49 rfl
theorem dL_law_1305 : decode cL_law 1305 = .ok (.aload_n 0, 1) := dgt dbL_law_1232 50 rfl
theorem dL_law_1306 : decode cL_law 1306 = .ok (.iload 5, 2) := dgt dbL_law_1232 51 rfl
theorem dL_law_1308 : decode cL_law 1308 = .ok (.iconst 1, 1) := dgt dbL_law_1232 52 rfl
theorem dL_law_1309 : decode cL_law 1309 = .ok (.iadd, 1) := dgt dbL_law_1232 53 rfl
theorem dL_law_1310 : decode cL_law 1310 = .ok (.iaload, 1) := dgt dbL_law_1232 54 rfl
theorem dL_law_1311 : decode cL_law 1311 = .ok (.aload_n 0, 1) := dgt dbL_law_1232 55 rfl
theorem dL_law_1312 : decode cL_law 1312 = .ok (.iload 5, 2) := dgt dbL_law_1232 56 rfl
theorem dL_law_1314 : decode cL_law 1314 = .ok (.iconst 2, 1) := dgt dbL_law_1232 57 rfl
theorem dL_law_1315 : decode cL_law 1315 = .ok (.iadd, 1) := dgt dbL_law_1232 58 rfl
theorem dL_law_1316 : decode cL_law 1316 = .ok (.iaload, 1) := dgt dbL_law_1232 59 rfl
theorem dL_law_1317 : decode cL_law 1317 = .ok (.aload_n 0, 1) := dgt dbL_law_1232 60 rfl
theorem dL_law_1318 : decode cL_law 1318 = .ok (.iload 5, 2) := dgt dbL_law_1232 61 rfl
theorem dL_law_1320 : decode cL_law 1320 = .ok (.iconst 3, 1) := dgt dbL_law_1232 62 rfl
theorem dL_law_1321 : decode cL_law 1321 = .ok (.iadd, 1) := dgt dbL_law_1232 63 rfl
theorem dL_law_1322 : decode cL_law 1322 = .ok (.iaload, 1) := dgt dbL_law_1232 64 rfl
theorem dL_law_1323 : decode cL_law 1323 = .ok (.aload_n 0, 1) := dgt dbL_law_1232 65 rfl
theorem dL_law_1324 : decode cL_law 1324 = .ok (.iload 5, 2) := dgt dbL_law_1232 66 rfl
theorem dL_law_1326 : decode cL_law 1326 = .ok (.iconst 4, 1) := dgt dbL_law_1232 67 rfl
theorem dL_law_1327 : decode cL_law 1327 = .ok (.iadd, 1) := dgt dbL_law_1232 68 rfl
theorem dL_law_1328 : decode cL_law 1328 = .ok (.iaload, 1) := dgt dbL_law_1232 69 rfl
theorem dL_law_1329 : decode cL_law 1329 = .ok (.aload_n 3, 1) := dgt dbL_law_1232 70 rfl
theorem dL_law_1330 : decode cL_law 1330 = .ok (.invokestatic 301, 3) := dgt dbL_law_1232 71 rfl
theorem dL_law_1333 : decode cL_law 1333 = .ok (.istore 6, 2) := dgt dbL_law_1232 72 rfl
theorem dL_law_1335 : decode cL_law 1335 = .ok (.aload_n 2, 1) := dgt dbL_law_1232 73 rfl
theorem dL_law_1336 : decode cL_law 1336 = .ok (.aload_n 0, 1) := dgt dbL_law_1232 74 rfl
theorem dL_law_1337 : decode cL_law 1337 = .ok (.iload 5, 2) := dgt dbL_law_1232 75 rfl
theorem dL_law_1339 : decode cL_law 1339 = .ok (.iconst 1, 1) := dgt dbL_law_1232 76 rfl
theorem dL_law_1340 : decode cL_law 1340 = .ok (.iadd, 1) := dgt dbL_law_1232 77 rfl
theorem dL_law_1341 : decode cL_law 1341 = .ok (.iaload, 1) := dgt dbL_law_1232 78 rfl
theorem dL_law_1342 : decode cL_law 1342 = .ok (.aload_n 0, 1) := dgt dbL_law_1232 79 rfl
def dlL_law_1343 : List (Nat × Instr × Nat) := [(1343, .iload 5, 2), (1345, .iconst 2, 1), (1346, .iadd, 1), (1347, .iaload, 1), (1348, .aload_n 0, 1), (1349, .iload 5, 2), (1351, .iconst 3, 1), (1352, .iadd, 1), (1353, .iaload, 1), (1354, .aload_n 0, 1), (1355, .iload 5, 2), (1357, .iconst 4, 1), (1358, .iadd, 1), (1359, .iaload, 1), (1360, .invokevirtual 303, 3), (1363, .istore 7, 2), (1365, .goto 1559, 3), (1368, .aload_n 1, 1), (1369, .aload_n 0, 1), (1370, .iload 5, 2), (1372, .iconst 1, 1), (1373, .iadd, 1), (1374, .iaload, 1), (1375, .aload_n 0, 1), (1376, .iload 5, 2), (1378, .iconst 2, 1), (1379, .iadd, 1), (1380, .iaload, 1), (1381, .aload_n 0, 1), (1382, .iload 5, 2), (1384, .iconst 3, 1), (1385, .iadd, 1), (1386, .iaload, 1), (1387, .aload_n 3, 1), (1388, .invokestatic 304, 3), (1391, .istore 6, 2), (1393, .aload_n 2, 1), (1394, .aload_n 0, 1), (1395, .iload 5, 2), (1397, .iconst 1, 1), (1398, .iadd, 1), (1399, .iaload, 1), (1400, .aload_n 0, 1), (1401, .iload 5, 2), (1403, .iconst 2, 1), (1404, .iadd, 1), (1405, .iaload, 1), (1406, .aload_n 0, 1), (1407, .iload 5, 2), (1409, .iconst 3, 1), (1410, .iadd, 1), (1411, .iaload, 1), (1412, .invokevirtual 306, 3), (1415, .istore 7, 2), (1417, .goto 1507, 3), (1420, .aload_n 1, 1), (1421, .aload_n 0, 1), (1422, .iload 5, 2), (1424, .iconst 1, 1), (1425, .iadd, 1), (1426, .iaload, 1), (1427, .aload_n 0, 1), (1428, .iload 5, 2), (1430, .iconst 2, 1), (1431, .iadd, 1), (1432, .iaload, 1), (1433, .aload_n 0, 1), (1434, .iload 5, 2), (1436, .iconst 3, 1), (1437, .iadd, 1), (1438, .iaload, 1), (1439, .aload_n 3, 1), (1440, .invokestatic 307, 3), (1443, .istore 6, 2), (1445, .aload_n 2, 1), (1446, .aload_n 0, 1), (1447, .iload 5, 2), (1449, .iconst 1, 1), (1450, .iadd, 1), (1451, .iaload, 1)]
theorem dbL_law_1343 : ∀ q ∈ dlL_law_1343, decode cL_law q.1 = .ok q.2 := by decide +kernel
theorem dL_law_1343 : decode cL_law 1343 = .ok (.iload 5, 2) := dgt dbL_law_1343 0 rfl
theorem dL_law_1345 : decode cL_law 1345 = .ok (.iconst 2, 1) := dgt dbL_law_1343 1 rfl
theorem dL_law_1346 : decode cL_law 1346 = .ok (.iadd, 1) := dgt dbL_law_1343 2 rfl
theorem dL_law_1347 : decode cL_law 1347 = .ok (.iaload, 1) := dgt dbL_law_1343 3 rfl
theorem dL_law_1348 : decode cL_law 1348 = .ok (.aload_n 0, 1) := dgt dbL_law_1343 4 rfl
theorem dL_law_1349 : decode cL_law 1349 = .ok (.iload 5, 2) := dgt dbL_law_1343 5 rfl
theorem dL_law_1351 : decode cL_law 1351 = .ok (.iconst 3, 1) := dgt dbL_law_1343 6 rfl
theorem dL_law_1352 : decode cL_law 1352 = .ok (.iadd, 1) := dgt dbL_law_1343 7 rfl
theorem dL_law_1353 : decode cL_law 1353 = .ok (.iaload, 1) := dgt dbL_law_1343 8 rfl
theorem dL_law_1354 : decode cL_law 1354 = .ok (.aload_n 0, 1) := dgt dbL_law_1343 9 rfl
theorem dL_law_1355 : decode cL_law 1355 = .ok (.iload 5, 2) := dgt dbL_law_1343 10 rfl
theorem dL_law_1357 : decode cL_law 1357 = .ok (.iconst 4, 1) := dgt dbL_law_1343 11 rfl
theorem dL_law_1358 : decode cL_law 1358 = .ok (.iadd, 1) := dgt dbL_law_1343 12 rfl
theorem dL_law_1359 : decode cL_law 1359 = .ok (.iaload, 1) := dgt dbL_law_1343 13 rfl
theorem dL_law_1360 : decode cL_law 1360 = .ok (.invokevirtual 303, 3) := dgt dbL_law_1343 14 rfl
theorem dL_law_1363 : decode cL_law 1363 = .ok (.istore 7, 2) := dgt dbL_law_1343 15 rfl
theorem dL_law_1365 : decode cL_law 1365 = .ok (.goto 1559, 3) := dgt dbL_law_1343 16 rfl
theorem dL_law_1368 : decode cL_law 1368 = .ok (.aload_n 1, 1) := dgt dbL_law_1343 17 rfl
theorem dL_law_1369 : decode cL_law 1369 = .ok (.aload_n 0, 1) := dgt dbL_law_1343 18 rfl
theorem dL_law_1370 : decode cL_law 1370 = .ok (.iload 5, 2) := dgt dbL_law_1343 19 rfl
theorem dL_law_1372 : decode cL_law 1372 = .ok (.iconst 1, 1) := dgt dbL_law_1343 20 rfl
theorem dL_law_1373 : decode cL_law 1373 = .ok (.iadd, 1) := dgt dbL_law_1343 21 rfl
theorem dL_law_1374 : decode cL_law 1374 = .ok (.iaload, 1) := dgt dbL_law_1343 22 rfl
theorem dL_law_1375 : decode cL_law 1375 = .ok (.aload_n 0, 1) := dgt dbL_law_1343 23 rfl
theorem dL_law_1376 : decode cL_law 1376 = .ok (.iload 5, 2) := dgt dbL_law_1343 24 rfl
theorem dL_law_1378 : decode cL_law 1378 = .ok (.iconst 2, 1) := dgt dbL_law_1343 25 rfl
theorem dL_law_1379 : decode cL_law 1379 = .ok (.iadd, 1) := dgt dbL_law_1343 26 rfl
theorem dL_law_1380 : decode cL_law 1380 = .ok (.iaload, 1) := dgt dbL_law_1343 27 rfl
theorem dL_law_1381 : decode cL_law 1381 = .ok (.aload_n 0, 1) := dgt dbL_law_1343 28 rfl
theorem dL_law_1382 : decode cL_law 1382 = .ok (.iload 5, 2) := dgt dbL_law_1343 29 rfl
theorem dL_law_1384 : decode cL_law 1384 = .ok (.iconst 3, 1) := dgt dbL_law_1343 30 rfl
theorem dL_law_1385 : decode cL_law 1385 = .ok (.iadd, 1) := dgt dbL_law_1343 31 rfl
theorem dL_law_1386 : decode cL_law 1386 = .ok (.iaload, 1) := dgt dbL_law_1343 32 rfl
theorem dL_law_1387 : decode cL_law 1387 = .ok (.aload_n 3, 1) := dgt dbL_law_1343 33 rfl
theorem dL_law_1388 : decode cL_law 1388 = .ok (.invokestatic 304, 3) := dgt dbL_law_1343 34 rfl
theorem dL_law_1391 : decode cL_law 1391 = .ok (.istore 6, 2) := dgt dbL_law_1343 35 rfl
theorem dL_law_1393 : decode cL_law 1393 = .ok (.aload_n 2, 1) := dgt dbL_law_1343 36 rfl
theorem dL_law_1394 : decode cL_law 1394 = .ok (.aload_n 0, 1) := dgt dbL_law_1343 37 rfl
theorem dL_law_1395 : decode cL_law 1395 = .ok (.iload 5, 2) := dgt dbL_law_1343 38 rfl
theorem dL_law_1397 : decode cL_law 1397 = .ok (.iconst 1, 1) := dgt dbL_law_1343 39 rfl
theorem dL_law_1398 : decode cL_law 1398 = .ok (.iadd, 1) := dgt dbL_law_1343 40 rfl
theorem dL_law_1399 : decode cL_law 1399 = .ok (.iaload, 1) := dgt dbL_law_1343 41 rfl
theorem dL_law_1400 : decode cL_law 1400 = .ok (.aload_n 0, 1) := dgt dbL_law_1343 42 rfl
theorem dL_law_1401 : decode cL_law 1401 = .ok (.iload 5, 2) := dgt dbL_law_1343 43 rfl
theorem dL_law_1403 : decode cL_law 1403 = .ok (.iconst 2, 1) := dgt dbL_law_1343 44 rfl
theorem dL_law_1404 : decode cL_law 1404 = .ok (.iadd, 1) := dgt dbL_law_1343 45 rfl
theorem dL_law_1405 : decode cL_law 1405 = .ok (.iaload, 1) := dgt dbL_law_1343 46 rfl
theorem dL_law_1406 : decode cL_law 1406 = .ok (.aload_n 0, 1) := dgt dbL_law_1343 47 rfl
theorem dL_law_1407 : decode cL_law 1407 = .ok (.iload 5, 2) := dgt dbL_law_1343 48 rfl
theorem dL_law_1409 : decode cL_law 1409 = .ok (.iconst 3, 1) := dgt dbL_law_1343 49 rfl
theorem dL_law_1410 : decode cL_law 1410 = .ok (.iadd, 1) := dgt dbL_law_1343 50 rfl
theorem dL_law_1411 : decode cL_law 1411 = .ok (.iaload, 1) := dgt dbL_law_1343 51 rfl
theorem dL_law_1412 : decode cL_law 1412 = .ok (.invokevirtual 306, 3) := dgt dbL_law_1343 52 rfl
theorem dL_law_1415 : decode cL_law 1415 = .ok (.istore 7, 2) := dgt dbL_law_1343 53 rfl
theorem dL_law_1417 : decode cL_law 1417 = .ok (.goto 1507, 3) := dgt dbL_law_1343 54 rfl
theorem dL_law_1420 : decode cL_law 1420 = .ok (.aload_n 1, 1) := dgt dbL_law_1343 55 rfl
theorem dL_law_1421 : decode cL_law 1421 = .ok (.aload_n 0, 1) := dgt dbL_law_1343 56 rfl
theorem dL_law_1422 : decode cL_law 1422 = .ok (.iload 5, 2) := dgt dbL_law_1343 57 rfl
theorem dL_law_1424 : decode cL_law 1424 = .ok (.iconst 1, 1) := dgt dbL_law_1343 58 rfl
theorem dL_law_1425 : decode cL_law 1425 = .ok (.iadd, 1) := dgt dbL_law_1343 59 rfl
theorem dL_law_1426 : decode cL_law 1426 = .ok (.iaload, 1) := dgt dbL_law_1343 60 rfl
theorem dL_law_1427 : decode cL_law 1427 = .ok (.aload_n 0, 1) := dgt dbL_law_1343 61 rfl
theorem dL_law_1428 : decode cL_law 1428 = .ok (.iload 5, 2) := dgt dbL_law_1343 62 rfl
theorem dL_law_1430 : decode cL_law 1430 = .ok (.iconst 2, 1) := dgt dbL_law_1343 63 rfl
theorem dL_law_1431 : decode cL_law 1431 = .ok (.iadd, 1) := dgt dbL_law_1343 64 rfl
theorem dL_law_1432 : decode cL_law 1432 = .ok (.iaload, 1) := dgt dbL_law_1343 65 rfl
theorem dL_law_1433 : decode cL_law 1433 = .ok (.aload_n 0, 1) := dgt dbL_law_1343 66 rfl
theorem dL_law_1434 : decode cL_law 1434 = .ok (.iload 5, 2) := dgt dbL_law_1343 67 rfl
theorem dL_law_1436 : decode cL_law 1436 = .ok (.iconst 3, 1) := dgt dbL_law_1343 68 rfl
theorem dL_law_1437 : decode cL_law 1437 = .ok (.iadd, 1) := dgt dbL_law_1343 69 rfl
theorem dL_law_1438 : decode cL_law 1438 = .ok (.iaload, 1) := dgt dbL_law_1343 70 rfl
theorem dL_law_1439 : decode cL_law 1439 = .ok (.aload_n 3, 1) := dgt dbL_law_1343 71 rfl
theorem dL_law_1440 : decode cL_law 1440 = .ok (.invokestatic 307, 3) := dgt dbL_law_1343 72 rfl
theorem dL_law_1443 : decode cL_law 1443 = .ok (.istore 6, 2) := dgt dbL_law_1343 73 rfl
theorem dL_law_1445 : decode cL_law 1445 = .ok (.aload_n 2, 1) := dgt dbL_law_1343 74 rfl
theorem dL_law_1446 : decode cL_law 1446 = .ok (.aload_n 0, 1) := dgt dbL_law_1343 75 rfl
theorem dL_law_1447 : decode cL_law 1447 = .ok (.iload 5, 2) := dgt dbL_law_1343 76 rfl
theorem dL_law_1449 : decode cL_law 1449 = .ok (.iconst 1, 1) := dgt dbL_law_1343 77 rfl
theorem dL_law_1450 : decode cL_law 1450 = .ok (.iadd, 1) := dgt dbL_law_1343 78 rfl
theorem dL_law_1451 : decode cL_law 1451 = .ok (.iaload, 1) := dgt dbL_law_1343 79 rfl
def dlL_law_1452 : List (Nat × Instr × Nat) := [(1452, .aload_n 0, 1), (1453, .iload 5, 2), (1455, .iconst 2, 1), (1456, .iadd, 1), (1457, .iaload, 1), (1458, .aload_n 0, 1), (1459, .iload 5, 2), (1461, .iconst 3, 1), (1462, .iadd, 1), (1463, .iaload, 1), (1464, .invokevirtual 309, 3), (1467, .istore 7, 2), (1469, .goto 1455, 3), (1472, .aload_n 1, 1), (1473, .aload_n 0, 1), (1474, .iload 5, 2), (1476, .iconst 1, 1), (1477, .iadd, 1), (1478, .iaload, 1), (1479, .aload_n 0, 1), (1480, .iload 5, 2), (1482, .iconst 2, 1), (1483, .iadd, 1), (1484, .iaload, 1), (1485, .aload_n 3, 1), (1486, .invokestatic 310, 3), (1489, .istore 6, 2), (1491, .aload_n 2, 1), (1492, .aload_n 0, 1), (1493, .iload 5, 2), (1495, .iconst 1, 1), (1496, .iadd, 1), (1497, .iaload, 1), (1498, .aload_n 0, 1), (1499, .iload 5, 2), (1501, .iconst 2, 1), (1502, .iadd, 1), (1503, .iaload, 1), (1504, .invokevirtual 312, 3), (1507, .istore 7, 2), (1509, .goto 1415, 3), (1512, .aload_n 1, 1), (1513, .aload_n 0, 1), (1514, .iload 5, 2), (1516, .iconst 1, 1), (1517, .iadd, 1), (1518, .iaload, 1), (1519, .aload_n 3, 1), (1520, .invokestatic 313, 3), (1523, .istore 6, 2), (1525, .aload_n 2, 1), (1526, .aload_n 0, 1), (1527, .iload 5, 2), (1529, .iconst 1, 1), (1530, .iadd, 1), (1531, .iaload, 1), (1532, .invokevirtual 315, 3), (1535, .istore 7, 2), (1537, .goto 1387, 3), (1540, .aload_n 1, 1), (1541, .aload_n 0, 1), (1542, .iload 5, 2), (1544, .iconst 1, 1), (1545, .iadd, 1), (1546, .iaload, 1), (1547, .aload_n 0, 1), (1548, .iload 5, 2), (1550, .iconst 2, 1), (1551, .iadd, 1), (1552, .iaload, 1), (1553, .aload_n 0, 1), (1554, .iload 5, 2), (1556, .iconst 3, 1), (1557, .iadd, 1), (1558, .iaload, 1), (1559, .aload_n 3, 1), (1560, .invokestatic 316, 3), (1563, .istore 6, 2), (1565, .aload_n 2, 1), (1566, .aload_n 0, 1)]
theorem dbL_law_1452 : ∀ q ∈ dlL_law_1452, decode cL_law q.1 = .ok q.2 := by decide +kernel
theorem dL_law_1452 : decode cL_law 1452 = .ok (.aload_n 0, 1) := dgt dbL_law_1452 0 rfl
theorem dL_law_1453 : decode cL_law 1453 = .ok (.iload 5, 2) := dgt dbL_law_1452 1 rfl
theorem dL_law_1455 : decode cL_law 1455 = .ok (.iconst 2, 1) := dgt dbL_law_1452 2 rfl
theorem dL_law_1456 : decode cL_law 1456 = .ok (.iadd, 1) := dgt dbL_law_1452 3 rfl
theorem dL_law_1457 : decode cL_law 1457 = .ok (.iaload, 1) := dgt dbL_law_1452 4 rfl
theorem dL_law_1458 : decode cL_law 1458 = .ok (.aload_n 0, 1) := dgt dbL_law_1452 5 rfl
theorem dL_law_1459 : decode cL_law 1459 = .ok (.iload 5, 2) := dgt dbL_law_1452 6 rfl
theorem dL_law_1461 : decode cL_law 1461 = .ok (.iconst 3, 1) := dgt dbL_law_1452 7 rfl
theorem dL_law_1462 : decode cL_law 1462 = .ok (.iadd, 1) := dgt dbL_law_1452 8 rfl
theorem dL_law_1463 : decode cL_law 1463 = .ok (.iaload, 1) := dgt dbL_law_1452 9 rfl
theorem dL_law_1464 : decode cL_law 1464 = .ok (.invokevirtual 309, 3) := dgt dbL_law_1452 10 rfl
theorem dL_law_1467 : decode cL_law 1467 = .ok (.istore 7, 2) := dgt dbL_law_1452 11 rfl
theorem dL_law_1469 : decode cL_law 1469 = .ok (.goto 1455, 3) := dgt dbL_law_1452 12 rfl
theorem dL_law_1472 : decode cL_law 1472 = .ok (.aload_n 1, 1) := dgt dbL_law_1452 13 rfl
theorem dL_law_1473 : decode cL_law 1473 = .ok (.aload_n 0, 1) := dgt dbL_law_1452 14 rfl
theorem dL_law_1474 : decode cL_law 1474 = .ok (.iload 5, 2) := dgt dbL_law_1452 15 rfl
theorem dL_law_1476 : decode cL_law 1476 = .ok (.iconst 1, 1) := dgt dbL_law_1452 16 rfl
theorem dL_law_1477 : decode cL_law 1477 = .ok (.iadd, 1) := dgt dbL_law_1452 17 rfl
theorem dL_law_1478 : decode cL_law 1478 = .ok (.iaload, 1) := dgt dbL_law_1452 18 rfl
theorem dL_law_1479 : decode cL_law 1479 = .ok (.aload_n 0, 1) := dgt dbL_law_1452 19 rfl
theorem dL_law_1480 : decode cL_law 1480 = .ok (.iload 5, 2) := dgt dbL_law_1452 20 rfl
theorem dL_law_1482 : decode cL_law 1482 = .ok (.iconst 2, 1) := dgt dbL_law_1452 21 rfl
theorem dL_law_1483 : decode cL_law 1483 = .ok (.iadd, 1) := dgt dbL_law_1452 22 rfl
theorem dL_law_1484 : decode cL_law 1484 = .ok (.iaload, 1) := dgt dbL_law_1452 23 rfl
theorem dL_law_1485 : decode cL_law 1485 = .ok (.aload_n 3, 1) := dgt dbL_law_1452 24 rfl
theorem dL_law_1486 : decode cL_law 1486 = .ok (.invokestatic 310, 3) := dgt dbL_law_1452 25 rfl
theorem dL_law_1489 : decode cL_law 1489 = .ok (.istore 6, 2) := dgt dbL_law_1452 26 rfl
theorem dL_law_1491 : decode cL_law 1491 = .ok (.aload_n 2, 1) := dgt dbL_law_1452 27 rfl
theorem dL_law_1492 : decode cL_law 1492 = .ok (.aload_n 0, 1) := dgt dbL_law_1452 28 rfl
theorem dL_law_1493 : decode cL_law 1493 = .ok (.iload 5, 2) := dgt dbL_law_1452 29 rfl
theorem dL_law_1495 : decode cL_law 1495 = .ok (.iconst 1, 1) := dgt dbL_law_1452 30 rfl
theorem dL_law_1496 : decode cL_law 1496 = .ok (.iadd, 1) := dgt dbL_law_1452 31 rfl
theorem dL_law_1497 : decode cL_law 1497 = .ok (.iaload, 1) := dgt dbL_law_1452 32 rfl
theorem dL_law_1498 : decode cL_law 1498 = .ok (.aload_n 0, 1) := dgt dbL_law_1452 33 rfl
theorem dL_law_1499 : decode cL_law 1499 = .ok (.iload 5, 2) := dgt dbL_law_1452 34 rfl
theorem dL_law_1501 : decode cL_law 1501 = .ok (.iconst 2, 1) := dgt dbL_law_1452 35 rfl
theorem dL_law_1502 : decode cL_law 1502 = .ok (.iadd, 1) := dgt dbL_law_1452 36 rfl
theorem dL_law_1503 : decode cL_law 1503 = .ok (.iaload, 1) := dgt dbL_law_1452 37 rfl
theorem dL_law_1504 : decode cL_law 1504 = .ok (.invokevirtual 312, 3) := dgt dbL_law_1452 38 rfl
theorem dL_law_1507 : decode cL_law 1507 = .ok (.istore 7, 2) := dgt dbL_law_1452 39 rfl
theorem dL_law_1509 : decode cL_law 1509 = .ok (.goto 1415, 3) := dgt dbL_law_1452 40 rfl
theorem dL_law_1512 : decode cL_law 1512 = .ok (.aload_n 1, 1) := dgt dbL_law_1452 41 rfl
theorem dL_law_1513 : decode cL_law 1513 = .ok (.aload_n 0, 1) := dgt dbL_law_1452 42 rfl
theorem dL_law_1514 : decode cL_law 1514 = .ok (.iload 5, 2) := dgt dbL_law_1452 43 rfl
theorem dL_law_1516 : decode cL_law 1516 = .ok (.iconst 1, 1) := dgt dbL_law_1452 44 rfl
theorem dL_law_1517 : decode cL_law 1517 = .ok (.iadd, 1) := dgt dbL_law_1452 45 rfl
theorem dL_law_1518 : decode cL_law 1518 = .ok (.iaload, 1) := dgt dbL_law_1452 46 rfl
theorem dL_law_1519 : decode cL_law 1519 = .ok (.aload_n 3, 1) := dgt dbL_law_1452 47 rfl
theorem dL_law_1520 : decode cL_law 1520 = .ok (.invokestatic 313, 3) := dgt dbL_law_1452 48 rfl
theorem dL_law_1523 : decode cL_law 1523 = .ok (.istore 6, 2) := dgt dbL_law_1452 49 rfl
theorem dL_law_1525 : decode cL_law 1525 = .ok (.aload_n 2, 1) := dgt dbL_law_1452 50 rfl
theorem dL_law_1526 : decode cL_law 1526 = .ok (.aload_n 0, 1) := dgt dbL_law_1452 51 rfl
theorem dL_law_1527 : decode cL_law 1527 = .ok (.iload 5, 2) := dgt dbL_law_1452 52 rfl
theorem dL_law_1529 : decode cL_law 1529 = .ok (.iconst 1, 1) := dgt dbL_law_1452 53 rfl
theorem dL_law_1530 : decode cL_law 1530 = .ok (.iadd, 1) := dgt dbL_law_1452 54 rfl
theorem dL_law_1531 : decode cL_law 1531 = .ok (.iaload, 1) := dgt dbL_law_1452 55 rfl
theorem dL_law_1532 : decode cL_law 1532 = .ok (.invokevirtual 315, 3) := dgt dbL_law_1452 56 rfl
theorem dL_law_1535 : decode cL_law 1535 = .ok (.istore 7, 2) := dgt dbL_law_1452 57 rfl
theorem dL_law_1537 : decode cL_law 1537 = .ok (.goto 1387, 3) := dgt dbL_law_1452 58 rfl
theorem dL_law_1540 : decode cL_law 1540 = .ok (.aload_n 1, 1) := dgt dbL_law_1452 59 rfl
theorem dL_law_1541 : decode cL_law 1541 = .ok (.aload_n 0, 1) := dgt dbL_law_1452 60 rfl
theorem dL_law_1542 : decode cL_law 1542 = .ok (.iload 5, 2) := dgt dbL_law_1452 61 rfl
theorem dL_law_1544 : decode cL_law 1544 = .ok (.iconst 1, 1) := dgt dbL_law_1452 62 rfl
theorem dL_law_1545 : decode cL_law 1545 = .ok (.iadd, 1) := dgt dbL_law_1452 63 rfl
theorem dL_law_1546 : decode cL_law 1546 = .ok (.iaload, 1) := dgt dbL_law_1452 64 rfl
theorem dL_law_1547 : decode cL_law 1547 = .ok (.aload_n 0, 1) := dgt dbL_law_1452 65 rfl
theorem dL_law_1548 : decode cL_law 1548 = .ok (.iload 5, 2) := dgt dbL_law_1452 66 rfl
theorem dL_law_1550 : decode cL_law 1550 = .ok (.iconst 2, 1) := dgt dbL_law_1452 67 rfl
theorem dL_law_1551 : decode cL_law 1551 = .ok (.iadd, 1) := dgt dbL_law_1452 68 rfl
theorem dL_law_1552 : decode cL_law 1552 = .ok (.iaload, 1) := dgt dbL_law_1452 69 rfl
theorem dL_law_1553 : decode cL_law 1553 = .ok (.aload_n 0, 1) := dgt dbL_law_1452 70 rfl
theorem dL_law_1554 : decode cL_law 1554 = .ok (.iload 5, 2) := dgt dbL_law_1452 71 rfl
theorem dL_law_1556 : decode cL_law 1556 = .ok (.iconst 3, 1) := dgt dbL_law_1452 72 rfl
theorem dL_law_1557 : decode cL_law 1557 = .ok (.iadd, 1) := dgt dbL_law_1452 73 rfl
theorem dL_law_1558 : decode cL_law 1558 = .ok (.iaload, 1) := dgt dbL_law_1452 74 rfl
theorem dL_law_1559 : decode cL_law 1559 = .ok (.aload_n 3, 1) := dgt dbL_law_1452 75 rfl
theorem dL_law_1560 : decode cL_law 1560 = .ok (.invokestatic 316, 3) := dgt dbL_law_1452 76 rfl
theorem dL_law_1563 : decode cL_law 1563 = .ok (.istore 6, 2) := dgt dbL_law_1452 77 rfl
theorem dL_law_1565 : decode cL_law 1565 = .ok (.aload_n 2, 1) := dgt dbL_law_1452 78 rfl
theorem dL_law_1566 : decode cL_law 1566 = .ok (.aload_n 0, 1) := dgt dbL_law_1452 79 rfl
def dlL_law_1567 : List (Nat × Instr × Nat) := [(1567, .iload 5, 2), (1569, .iconst 1, 1), (1570, .iadd, 1), (1571, .iaload, 1), (1572, .aload_n 0, 1), (1573, .iload 5, 2), (1575, .iconst 2, 1), (1576, .iadd, 1), (1577, .iaload, 1), (1578, .aload_n 0, 1), (1579, .iload 5, 2), (1581, .iconst 3, 1), (1582, .iadd, 1), (1583, .iaload, 1), (1584, .invokevirtual 318, 3), (1587, .istore 7, 2), (1589, .goto 1335, 3), (1592, .aload_n 1, 1), (1593, .aload_n 0, 1), (1594, .iload 5, 2), (1596, .iconst 1, 1), (1597, .iadd, 1), (1598, .iaload, 1), (1599, .aload_n 0, 1), (1600, .iload 5, 2), (1602, .iconst 2, 1), (1603, .iadd, 1), (1604, .iaload, 1), (1605, .aload_n 3, 1), (1606, .invokestatic 319, 3), (1609, .istore 6, 2), (1611, .aload_n 2, 1), (1612, .aload_n 0, 1), (1613, .iload 5, 2), (1615, .iconst 1, 1), (1616, .iadd, 1), (1617, .iaload, 1), (1618, .aload_n 0, 1), (1619, .iload 5, 2), (1621, .iconst 2, 1), (1622, .iadd, 1), (1623, .iaload, 1), (1624, .invokevirtual 321, 3), (1627, .istore 7, 2), (1629, .goto 1295, 3), (1632, .aload_n 1, 1), (1633, .aload_n 0, 1), (1634, .iload 5, 2), (1636, .iconst 1, 1), (1637, .iadd, 1), (1638, .iaload, 1), (1639, .aload_n 3, 1), (1640, .invokestatic 322, 3), (1643, .istore 6, 2), (1645, .aload_n 2, 1), (1646, .aload_n 0, 1), (1647, .iload 5, 2), (1649, .iconst 1, 1), (1650, .iadd, 1), (1651, .iaload, 1), (1652, .invokevirtual 324, 3), (1655, .istore 7, 2), (1657, .goto 1267, 3), (1660, .aload_n 1, 1), (1661, .aload_n 0, 1), (1662, .iload 5, 2), (1664, .iconst 1, 1), (1665, .iadd, 1), (1666, .iaload, 1), (1667, .aload_n 0, 1), (1668, .iload 5, 2), (1670, .iconst 2, 1), (1671, .iadd, 1), (1672, .iaload, 1), (1673, .aload_n 0, 1), (1674, .iload 5, 2), (1676, .iconst 3, 1), (1677, .iadd, 1), (1678, .iaload, 1), (1679, .aload_n 0, 1)]
theorem dbL_law_1567 : ∀ q ∈ dlL_law_1567, decode cL_law q.1 = .ok q.2 := by decide +kernel
theorem dL_law_1567 : decode cL_law 1567 = .ok (.iload 5, 2) := dgt dbL_law_1567 0 rfl
theorem dL_law_1569 : decode cL_law 1569 = .ok (.iconst 1, 1) := dgt dbL_law_1567 1 rfl
theorem dL_law_1570 : decode cL_law 1570 = .ok (.iadd, 1) := dgt dbL_law_1567 2 rfl
theorem dL_law_1571 : decode cL_law 1571 = .ok (.iaload, 1) := dgt dbL_law_1567 3 rfl
theorem dL_law_1572 : decode cL_law 1572 = .ok (.aload_n 0, 1) := dgt dbL_law_1567 4 rfl
theorem dL_law_1573 : decode cL_law 1573 = .ok (.iload 5, 2) := dgt dbL_law_1567 5 rfl
theorem dL_law_1575 : decode cL_law 1575 = .ok (.iconst 2, 1) := dgt dbL_law_1567 6 rfl
theorem dL_law_1576 : decode cL_law 1576 = .ok (.iadd, 1) := dgt dbL_law_1567 7 rfl
theorem dL_law_1577 : decode cL_law 1577 = .ok (.iaload, 1) := dgt dbL_law_1567 8 rfl
theorem dL_law_1578 : decode cL_law 1578 = .ok (.aload_n 0, 1) := dgt dbL_law_1567 9 rfl
theorem dL_law_1579 : decode cL_law 1579 = .ok (.iload 5, 2) := dgt dbL_law_1567 10 rfl
theorem dL_law_1581 : decode cL_law 1581 = .ok (.iconst 3, 1) := dgt dbL_law_1567 11 rfl
theorem dL_law_1582 : decode cL_law 1582 = .ok (.iadd, 1) := dgt dbL_law_1567 12 rfl
theorem dL_law_1583 : decode cL_law 1583 = .ok (.iaload, 1) := dgt dbL_law_1567 13 rfl
theorem dL_law_1584 : decode cL_law 1584 = .ok (.invokevirtual 318, 3) := dgt dbL_law_1567 14 rfl
theorem dL_law_1587 : decode cL_law 1587 = .ok (.istore 7, 2) := dgt dbL_law_1567 15 rfl
theorem dL_law_1589 : decode cL_law 1589 = .ok (.goto 1335, 3) := dgt dbL_law_1567 16 rfl
theorem dL_law_1592 : decode cL_law 1592 = .ok (.aload_n 1, 1) := dgt dbL_law_1567 17 rfl
theorem dL_law_1593 : decode cL_law 1593 = .ok (.aload_n 0, 1) := dgt dbL_law_1567 18 rfl
theorem dL_law_1594 : decode cL_law 1594 = .ok (.iload 5, 2) := dgt dbL_law_1567 19 rfl
theorem dL_law_1596 : decode cL_law 1596 = .ok (.iconst 1, 1) := dgt dbL_law_1567 20 rfl
theorem dL_law_1597 : decode cL_law 1597 = .ok (.iadd, 1) := dgt dbL_law_1567 21 rfl
theorem dL_law_1598 : decode cL_law 1598 = .ok (.iaload, 1) := dgt dbL_law_1567 22 rfl
theorem dL_law_1599 : decode cL_law 1599 = .ok (.aload_n 0, 1) := dgt dbL_law_1567 23 rfl
theorem dL_law_1600 : decode cL_law 1600 = .ok (.iload 5, 2) := dgt dbL_law_1567 24 rfl
theorem dL_law_1602 : decode cL_law 1602 = .ok (.iconst 2, 1) := dgt dbL_law_1567 25 rfl
theorem dL_law_1603 : decode cL_law 1603 = .ok (.iadd, 1) := dgt dbL_law_1567 26 rfl
theorem dL_law_1604 : decode cL_law 1604 = .ok (.iaload, 1) := dgt dbL_law_1567 27 rfl
theorem dL_law_1605 : decode cL_law 1605 = .ok (.aload_n 3, 1) := dgt dbL_law_1567 28 rfl
theorem dL_law_1606 : decode cL_law 1606 = .ok (.invokestatic 319, 3) := dgt dbL_law_1567 29 rfl
theorem dL_law_1609 : decode cL_law 1609 = .ok (.istore 6, 2) := dgt dbL_law_1567 30 rfl
theorem dL_law_1611 : decode cL_law 1611 = .ok (.aload_n 2, 1) := dgt dbL_law_1567 31 rfl
theorem dL_law_1612 : decode cL_law 1612 = .ok (.aload_n 0, 1) := dgt dbL_law_1567 32 rfl
theorem dL_law_1613 : decode cL_law 1613 = .ok (.iload 5, 2) := dgt dbL_law_1567 33 rfl
theorem dL_law_1615 : decode cL_law 1615 = .ok (.iconst 1, 1) := dgt dbL_law_1567 34 rfl
theorem dL_law_1616 : decode cL_law 1616 = .ok (.iadd, 1) := dgt dbL_law_1567 35 rfl
theorem dL_law_1617 : decode cL_law 1617 = .ok (.iaload, 1) := dgt dbL_law_1567 36 rfl
theorem dL_law_1618 : decode cL_law 1618 = .ok (.aload_n 0, 1) := dgt dbL_law_1567 37 rfl
theorem dL_law_1619 : decode cL_law 1619 = .ok (.iload 5, 2) := dgt dbL_law_1567 38 rfl
theorem dL_law_1621 : decode cL_law 1621 = .ok (.iconst 2, 1) := dgt dbL_law_1567 39 rfl
theorem dL_law_1622 : decode cL_law 1622 = .ok (.iadd, 1) := dgt dbL_law_1567 40 rfl
theorem dL_law_1623 : decode cL_law 1623 = .ok (.iaload, 1) := dgt dbL_law_1567 41 rfl
theorem dL_law_1624 : decode cL_law 1624 = .ok (.invokevirtual 321, 3) := dgt dbL_law_1567 42 rfl
theorem dL_law_1627 : decode cL_law 1627 = .ok (.istore 7, 2) := dgt dbL_law_1567 43 rfl
theorem dL_law_1629 : decode cL_law 1629 = .ok (.goto 1295, 3) := dgt dbL_law_1567 44 rfl
theorem dL_law_1632 : decode cL_law 1632 = .ok (.aload_n 1, 1) := dgt dbL_law_1567 45 rfl
theorem dL_law_1633 : decode cL_law 1633 = .ok (.aload_n 0, 1) := dgt dbL_law_1567 46 rfl
theorem dL_law_1634 : decode cL_law 1634 = .ok (.iload 5, 2) := dgt dbL_law_1567 47 rfl
theorem dL_law_1636 : decode cL_law 1636 = .ok (.iconst 1, 1) := dgt dbL_law_1567 48 rfl
theorem dL_law_1637 : decode cL_law 1637 = .ok (.iadd, 1) := dgt dbL_law_1567 49 rfl
theorem dL_law_1638 : decode cL_law 1638 = .ok (.iaload, 1) := dgt dbL_law_1567 50 rfl
theorem dL_law_1639 : decode cL_law 1639 = .ok (.aload_n 3, 1) := dgt dbL_law_1567 51 rfl
theorem dL_law_1640 : decode cL_law 1640 = .ok (.invokestatic 322, 3) := dgt dbL_law_1567 52 rfl
theorem dL_law_1643 : decode cL_law 1643 = .ok (.istore 6, 2) := dgt dbL_law_1567 53 rfl
theorem dL_law_1645 : decode cL_law 1645 = .ok (.aload_n 2, 1) := dgt dbL_law_1567 54 rfl
theorem dL_law_1646 : decode cL_law 1646 = .ok (.aload_n 0, 1) := dgt dbL_law_1567 55 rfl
theorem dL_law_1647 : decode cL_law 1647 = .ok (.iload 5, 2) := dgt dbL_law_1567 56 rfl
theorem dL_law_1649 : decode cL_law 1649 = .ok (.iconst 1, 1) := dgt dbL_law_1567 57 rfl
theorem dL_law_1650 : decode cL_law 1650 = .ok (.iadd, 1) := dgt dbL_law_1567 58 rfl
theorem dL_law_1651 : decode cL_law 1651 = .ok (.iaload, 1) := dgt dbL_law_1567 59 rfl
theorem dL_law_1652 : decode cL_law 1652 = .ok (.invokevirtual 324, 3) := dgt dbL_law_1567 60 rfl
theorem dL_law_1655 : decode cL_law 1655 = .ok (.istore 7, 2) := dgt dbL_law_1567 61 rfl
theorem dL_law_1657 : decode cL_law 1657 = .ok (.goto 1267, 3) := dgt dbL_law_1567 62 rfl
theorem dL_law_1660 : decode cL_law 1660 = .ok (.aload_n 1, 1) := dgt dbL_law_1567 63 rfl
theorem dL_law_1661 : decode cL_law 1661 = .ok (.aload_n 0, 1) := dgt dbL_law_1567 64 rfl
theorem dL_law_1662 : decode cL_law 1662 = .ok (.iload 5, 2) := dgt dbL_law_1567 65 rfl
theorem dL_law_1664 : decode cL_law 1664 = .ok (.iconst 1, 1) := dgt dbL_law_1567 66 rfl
theorem dL_law_1665 : decode cL_law 1665 = .ok (.iadd, 1) := dgt dbL_law_1567 67 rfl
theorem dL_law_1666 : decode cL_law 1666 = .ok (.iaload, 1) := dgt dbL_law_1567 68 rfl
theorem dL_law_1667 : decode cL_law 1667 = .ok (.aload_n 0, 1) := dgt dbL_law_1567 69 rfl
theorem dL_law_1668 : decode cL_law 1668 = .ok (.iload 5, 2) := dgt dbL_law_1567 70 rfl
theorem dL_law_1670 : decode cL_law 1670 = .ok (.iconst 2, 1) := dgt dbL_law_1567 71 rfl
theorem dL_law_1671 : decode cL_law 1671 = .ok (.iadd, 1) := dgt dbL_law_1567 72 rfl
theorem dL_law_1672 : decode cL_law 1672 = .ok (.iaload, 1) := dgt dbL_law_1567 73 rfl
theorem dL_law_1673 : decode cL_law 1673 = .ok (.aload_n 0, 1) := dgt dbL_law_1567 74 rfl
theorem dL_law_1674 : decode cL_law 1674 = .ok (.iload 5, 2) := dgt dbL_law_1567 75 rfl
theorem dL_law_1676 : decode cL_law 1676 = .ok (.iconst 3, 1) := dgt dbL_law_1567 76 rfl
theorem dL_law_1677 : decode cL_law 1677 = .ok (.iadd, 1) := dgt dbL_law_1567 77 rfl
theorem dL_law_1678 : decode cL_law 1678 = .ok (.iaload, 1) := dgt dbL_law_1567 78 rfl
theorem dL_law_1679 : decode cL_law 1679 = .ok (.aload_n 0, 1) := dgt dbL_law_1567 79 rfl
def dlL_law_1680 : List (Nat × Instr × Nat) := [(1680, .iload 5, 2), (1682, .iconst 4, 1), (1683, .iadd, 1), (1684, .iaload, 1), (1685, .aload_n 3, 1), (1686, .invokestatic 325, 3), (1689, .istore 6, 2), (1691, .aload_n 2, 1), (1692, .aload_n 0, 1), (1693, .iload 5, 2), (1695, .iconst 1, 1), (1696, .iadd, 1), (1697, .iaload, 1), (1698, .aload_n 0, 1), (1699, .iload 5, 2), (1701, .iconst 2, 1), (1702, .iadd, 1), (1703, .iaload, 1), (1704, .aload_n 0, 1), (1705, .iload 5, 2), (1707, .iconst 3, 1), (1708, .iadd, 1), (1709, .iaload, 1), (1710, .aload_n 0, 1), (1711, .iload 5, 2), (1713, .iconst 4, 1), (1714, .iadd, 1), (1715, .iaload, 1), (1716, .invokevirtual 327, 3), (1719, .istore 7, 2), (1721, .goto 1203, 3), (1724, .aload_n 1, 1), (1725, .aload_n 0, 1), (1726, .iload 5, 2), (1728, .iconst 1, 1), (1729, .iadd, 1), (1730, .iaload, 1), (1731, .aload_n 0, 1), (1732, .iload 5, 2), (1734, .iconst 2, 1), (1735, .iadd, 1), (1736, .iaload, 1), (1737, .aload_n 0, 1), (1738, .iload 5, 2), (1740, .iconst 3, 1), (1741, .iadd, 1), (1742, .iaload, 1), (1743, .aload_n 3, 1), (1744, .invokestatic 328, 3), (1747, .istore 6, 2), (1749, .aload_n 2, 1), (1750, .aload_n 0, 1), (1751, .iload 5, 2), (1753, .iconst 1, 1), (1754, .iadd, 1), (1755, .iaload, 1), (1756, .aload_n 0, 1), (1757, .iload 5, 2), (1759, .iconst 2, 1), (1760, .iadd, 1), (1761, .iaload, 1), (1762, .aload_n 0, 1), (1763, .iload 5, 2), (1765, .iconst 3, 1), (1766, .iadd, 1), (1767, .iaload, 1), (1768, .invokevirtual 330, 3), (1771, .istore 7, 2), (1773, .goto 1151, 3), (1776, .aload_n 1, 1), (1777, .aload_n 0, 1), (1778, .iload 5, 2), (1780, .iconst 1, 1), (1781, .iadd, 1), (1782, .iaload, 1), (1783, .aload_n 0, 1), (1784, .iload 5, 2), (1786, .iconst 2, 1), (1787, .iadd, 1), (1788, .iaload, 1)]
theorem dbL_law_1680 : ∀ q ∈ dlL_law_1680, decode cL_law q.1 = .ok q.2 := by decide +kernel
theorem dL_law_1680 : decode cL_law 1680 = .ok (.iload 5, 2) := dgt dbL_law_1680 0 rfl
theorem dL_law_1682 : decode cL_law 1682 = .ok (.iconst 4, 1) := dgt dbL_law_1680 1 rfl
theorem dL_law_1683 : decode cL_law 1683 = .ok (.iadd, 1) := dgt dbL_law_1680 2 rfl
theorem dL_law_1684 : decode cL_law 1684 = .ok (.iaload, 1) := dgt dbL_law_1680 3 rfl
theorem dL_law_1685 : decode cL_law 1685 = .ok (.aload_n 3, 1) := dgt dbL_law_1680 4 rfl
theorem dL_law_1686 : decode cL_law 1686 = .ok (.invokestatic 325, 3) := dgt dbL_law_1680 5 rfl
theorem dL_law_1689 : decode cL_law 1689 = .ok (.istore 6, 2) := dgt dbL_law_1680 6 rfl
theorem dL_law_1691 : decode cL_law 1691 = .ok (.aload_n 2, 1) := dgt dbL_law_1680 7 rfl
theorem dL_law_1692 : decode cL_law 1692 = .ok (.aload_n 0, 1) := dgt dbL_law_1680 8 rfl
theorem dL_law_1693 : decode cL_law 1693 = .ok (.iload 5, 2) := dgt dbL_law_1680 9 rfl
theorem dL_law_1695 : decode cL_law 1695 = .ok (.iconst 1, 1) := dgt dbL_law_1680 10 rfl
theorem dL_law_1696 : decode cL_law 1696 = .ok (.iadd, 1) := dgt dbL_law_1680 11 rfl
theorem dL_law_1697 : decode cL_law 1697 = .ok (.iaload, 1) := dgt dbL_law_1680 12 rfl
theorem dL_law_1698 : decode cL_law 1698 = .ok (.aload_n 0, 1) := dgt dbL_law_1680 13 rfl
theorem dL_law_1699 : decode cL_law 1699 = .ok (.iload 5, 2) := dgt dbL_law_1680 14 rfl
theorem dL_law_1701 : decode cL_law 1701 = .ok (.iconst 2, 1) := dgt dbL_law_1680 15 rfl
theorem dL_law_1702 : decode cL_law 1702 = .ok (.iadd, 1) := dgt dbL_law_1680 16 rfl
theorem dL_law_1703 : decode cL_law 1703 = .ok (.iaload, 1) := dgt dbL_law_1680 17 rfl
theorem dL_law_1704 : decode cL_law 1704 = .ok (.aload_n 0, 1) := dgt dbL_law_1680 18 rfl
theorem dL_law_1705 : decode cL_law 1705 = .ok (.iload 5, 2) := dgt dbL_law_1680 19 rfl
theorem dL_law_1707 : decode cL_law 1707 = .ok (.iconst 3, 1) := dgt dbL_law_1680 20 rfl
theorem dL_law_1708 : decode cL_law 1708 = .ok (.iadd, 1) := dgt dbL_law_1680 21 rfl
theorem dL_law_1709 : decode cL_law 1709 = .ok (.iaload, 1) := dgt dbL_law_1680 22 rfl
theorem dL_law_1710 : decode cL_law 1710 = .ok (.aload_n 0, 1) := dgt dbL_law_1680 23 rfl
theorem dL_law_1711 : decode cL_law 1711 = .ok (.iload 5, 2) := dgt dbL_law_1680 24 rfl
theorem dL_law_1713 : decode cL_law 1713 = .ok (.iconst 4, 1) := dgt dbL_law_1680 25 rfl
theorem dL_law_1714 : decode cL_law 1714 = .ok (.iadd, 1) := dgt dbL_law_1680 26 rfl
theorem dL_law_1715 : decode cL_law 1715 = .ok (.iaload, 1) := dgt dbL_law_1680 27 rfl
theorem dL_law_1716 : decode cL_law 1716 = .ok (.invokevirtual 327, 3) := dgt dbL_law_1680 28 rfl
theorem dL_law_1719 : decode cL_law 1719 = .ok (.istore 7, 2) := dgt dbL_law_1680 29 rfl
theorem dL_law_1721 : decode cL_law 1721 = .ok (.goto 1203, 3) := dgt dbL_law_1680 30 rfl
theorem dL_law_1724 : decode cL_law 1724 = .ok (.aload_n 1, 1) := dgt dbL_law_1680 31 rfl
theorem dL_law_1725 : decode cL_law 1725 = .ok (.aload_n 0, 1) := dgt dbL_law_1680 32 rfl
theorem dL_law_1726 : decode cL_law 1726 = .ok (.iload 5, 2) := dgt dbL_law_1680 33 rfl
theorem dL_law_1728 : decode cL_law 1728 = .ok (.iconst 1, 1) := dgt dbL_law_1680 34 rfl
theorem dL_law_1729 : decode cL_law 1729 = .ok (.iadd, 1) := dgt dbL_law_1680 35 rfl
theorem dL_law_1730 : decode cL_law 1730 = .ok (.iaload, 1) := dgt dbL_law_1680 36 rfl
theorem dL_law_1731 : decode cL_law 1731 = .ok (.aload_n 0, 1) := dgt dbL_law_1680 37 rfl
theorem dL_law_1732 : decode cL_law 1732 = .ok (.iload 5, 2) := dgt dbL_law_1680 38 rfl
theorem dL_law_1734 : decode cL_law 1734 = .ok (.iconst 2, 1) := dgt dbL_law_1680 39 rfl
theorem dL_law_1735 : decode cL_law 1735 = .ok (.iadd, 1) := dgt dbL_law_1680 40 rfl
theorem dL_law_1736 : decode cL_law 1736 = .ok (.iaload, 1) := dgt dbL_law_1680 41 rfl
theorem dL_law_1737 : decode cL_law 1737 = .ok (.aload_n 0, 1) := dgt dbL_law_1680 42 rfl
theorem dL_law_1738 : decode cL_law 1738 = .ok (.iload 5, 2) := dgt dbL_law_1680 43 rfl
theorem dL_law_1740 : decode cL_law 1740 = .ok (.iconst 3, 1) := dgt dbL_law_1680 44 rfl
theorem dL_law_1741 : decode cL_law 1741 = .ok (.iadd, 1) := dgt dbL_law_1680 45 rfl
theorem dL_law_1742 : decode cL_law 1742 = .ok (.iaload, 1) := dgt dbL_law_1680 46 rfl
theorem dL_law_1743 : decode cL_law 1743 = .ok (.aload_n 3, 1) := dgt dbL_law_1680 47 rfl
theorem dL_law_1744 : decode cL_law 1744 = .ok (.invokestatic 328, 3) := dgt dbL_law_1680 48 rfl
theorem dL_law_1747 : decode cL_law 1747 = .ok (.istore 6, 2) := dgt dbL_law_1680 49 rfl
theorem dL_law_1749 : decode cL_law 1749 = .ok (.aload_n 2, 1) := dgt dbL_law_1680 50 rfl
theorem dL_law_1750 : decode cL_law 1750 = .ok (.aload_n 0, 1) := dgt dbL_law_1680 51 rfl
theorem dL_law_1751 : decode cL_law 1751 = .ok (.iload 5, 2) := dgt dbL_law_1680 52 rfl
theorem dL_law_1753 : decode cL_law 1753 = .ok (.iconst 1, 1) := dgt dbL_law_1680 53 rfl
theorem dL_law_1754 : decode cL_law 1754 = .ok (.iadd, 1) := dgt dbL_law_1680 54 rfl
theorem dL_law_1755 : decode cL_law 1755 = .ok (.iaload, 1) := dgt dbL_law_1680 55 rfl
theorem dL_law_1756 : decode cL_law 1756 = .ok (.aload_n 0, 1) := dgt dbL_law_1680 56 rfl
theorem dL_law_1757 : decode cL_law 1757 = .ok (.iload 5, 2) := dgt dbL_law_1680 57 rfl
theorem dL_law_1759 : decode cL_law 1759 = .ok (.iconst 2, 1) := dgt dbL_law_1680 58 rfl
theorem dL_law_1760 : decode cL_law 1760 = .ok (.iadd, 1) := dgt dbL_law_1680 59 rfl
theorem dL_law_1761 : decode cL_law 1761 = .ok (.iaload, 1) := dgt dbL_law_1680 60 rfl
theorem dL_law_1762 : decode cL_law 1762 = .ok (.aload_n 0, 1) := dgt dbL_law_1680 61 rfl
theorem dL_law_1763 : decode cL_law 1763 = .ok (.iload 5, 2) := dgt dbL_law_1680 62 rfl
theorem dL_law_1765 : decode cL_law 1765 = .ok (.iconst 3, 1) := dgt dbL_law_1680 63 rfl
theorem dL_law_1766 : decode cL_law 1766 = .ok (.iadd, 1) := dgt dbL_law_1680 64 rfl
theorem dL_law_1767 : decode cL_law 1767 = .ok (.iaload, 1) := dgt dbL_law_1680 65 rfl
theorem dL_law_1768 : decode cL_law 1768 = .ok (.invokevirtual 330, 3) := dgt dbL_law_1680 66 rfl
theorem dL_law_1771 : decode cL_law 1771 = .ok (.istore 7, 2) := dgt dbL_law_1680 67 rfl
theorem dL_law_1773 : decode cL_law 1773 = .ok (.goto 1151, 3) := dgt dbL_law_1680 68 rfl
theorem dL_law_1776 : decode cL_law 1776 = .ok (.aload_n 1, 1) := dgt dbL_law_1680 69 rfl
theorem dL_law_1777 : decode cL_law 1777 = .ok (.aload_n 0, 1) := dgt dbL_law_1680 70 rfl
theorem dL_law_1778 : decode cL_law 1778 = .ok (.iload 5, 2) := dgt dbL_law_1680 71 rfl
theorem dL_law_1780 : decode cL_law 1780 = .ok (.iconst 1, 1) := dgt dbL_law_1680 72 rfl
theorem dL_law_1781 : decode cL_law 1781 = .ok (.iadd, 1) := dgt dbL_law_1680 73 rfl
theorem dL_law_1782 : decode cL_law 1782 = .ok (.iaload, 1) := dgt dbL_law_1680 74 rfl
theorem dL_law_1783 : decode cL_law 1783 = .ok (.aload_n 0, 1) := dgt dbL_law_1680 75 rfl
theorem dL_law_1784 : decode cL_law 1784 = .ok (.iload 5, 2) := dgt dbL_law_1680 76 rfl
theorem dL_law_1786 : decode cL_law 1786 = .ok (.iconst 2, 1) := dgt dbL_law_1680 77 rfl
theorem dL_law_1787 : decode cL_law 1787 = .ok (.iadd, 1) := dgt dbL_law_1680 78 rfl
theorem dL_law_1788 : decode cL_law 1788 = .ok (.iaload, 1) := dgt dbL_law_1680 79 rfl
def dlL_law_1789 : List (Nat × Instr × Nat) := [(1789, .aload_n 0, 1), (1790, .iload 5, 2), (1792, .iconst 3, 1), (1793, .iadd, 1), (1794, .iaload, 1), (1795, .ifCond .eq 7, 3), (1798, .iconst 1, 1), (1799, .goto 4, 3), (1802, .iconst 0, 1), (1803, .aload_n 3, 1), (1804, .invokestatic 331, 3), (1807, .istore 6, 2), (1809, .aload_n 2, 1), (1810, .aload_n 0, 1), (1811, .iload 5, 2), (1813, .iconst 1, 1), (1814, .iadd, 1), (1815, .iaload, 1), (1816, .aload_n 0, 1), (1817, .iload 5, 2), (1819, .iconst 2, 1), (1820, .iadd, 1), (1821, .iaload, 1), (1822, .aload_n 0, 1), (1823, .iload 5, 2), (1825, .iconst 3, 1), (1826, .iadd, 1), (1827, .iaload, 1), (1828, .ifCond .eq 7, 3), (1831, .iconst 1, 1), (1832, .goto 4, 3), (1835, .iconst 0, 1), (1836, .invokevirtual 334, 3), (1839, .istore 7, 2), (1841, .goto 1083, 3), (1844, .aload_n 1, 1), (1845, .aload_n 0, 1), (1846, .iload 5, 2), (1848, .iconst 1, 1), (1849, .iadd, 1), (1850, .iaload, 1), (1851, .aload_n 3, 1), (1852, .invokestatic 335, 3), (1855, .istore 6, 2), (1857, .aload_n 2, 1), (1858, .aload_n 0, 1), (1859, .iload 5, 2), (1861, .iconst 1, 1), (1862, .iadd, 1), (1863, .iaload, 1), (1864, .invokevirtual 337, 3), (1867, .istore 7, 2), (1869, .goto 1055, 3), (1872, .aload_n 1, 1), (1873, .aload_n 0, 1), (1874, .iload 5, 2), (1876, .iconst 1, 1), (1877, .iadd, 1), (1878, .iaload, 1), (1879, .aload_n 3, 1), (1880, .invokestatic 338, 3), (1883, .istore 6, 2), (1885, .aload_n 2, 1), (1886, .aload_n 0, 1), (1887, .iload 5, 2), (1889, .iconst 1, 1), (1890, .iadd, 1), (1891, .iaload, 1), (1892, .invokevirtual 340, 3), (1895, .istore 7, 2), (1897, .goto 1027, 3), (1900, .aload_n 1, 1), (1901, .aload_n 0, 1), (1902, .iload 5, 2), (1904, .iconst 1, 1), (1905, .iadd, 1), (1906, .iaload, 1), (1907, .aload_n 0, 1), (1908, .iload 5, 2), (1910, .iconst 2, 1)]
theorem dbL_law_1789 : ∀ q ∈ dlL_law_1789, decode cL_law q.1 = .ok q.2 := by decide +kernel
theorem dL_law_1789 : decode cL_law 1789 = .ok (.aload_n 0, 1) := dgt dbL_law_1789 0 rfl
theorem dL_law_1790 : decode cL_law 1790 = .ok (.iload 5, 2) := dgt dbL_law_1789 1 rfl
theorem dL_law_1792 : decode cL_law 1792 = .ok (.iconst 3, 1) := dgt dbL_law_1789 2 rfl
theorem dL_law_1793 : decode cL_law 1793 = .ok (.iadd, 1) := dgt dbL_law_1789 3 rfl
theorem dL_law_1794 : decode cL_law 1794 = .ok (.iaload, 1) := dgt dbL_law_1789 4 rfl
theorem dL_law_1795 : decode cL_law 1795 = .ok (.ifCond .eq 7, 3) := dgt dbL_law_1789 5 rfl
theorem dL_law_1798 : decode cL_law 1798 = .ok (.iconst 1, 1) := dgt dbL_law_1789 6 rfl
theorem dL_law_1799 : decode cL_law 1799 = .ok (.goto 4, 3) := dgt dbL_law_1789 7 rfl
theorem dL_law_1802 : decode cL_law 1802 = .ok (.iconst 0, 1) := dgt dbL_law_1789 8 rfl
theorem dL_law_1803 : decode cL_law 1803 = .ok (.aload_n 3, 1) := dgt dbL_law_1789 9 rfl
theorem dL_law_1804 : decode cL_law 1804 = .ok (.invokestatic 331, 3) := dgt dbL_law_1789 10 rfl
theorem dL_law_1807 : decode cL_law 1807 = .ok (.istore 6, 2) := dgt dbL_law_1789 11 rfl
theorem dL_law_1809 : decode cL_law 1809 = .ok (.aload_n 2, 1) := dgt dbL_law_1789 12 rfl
theorem dL_law_1810 : decode cL_law 1810 = .ok (.aload_n 0, 1) := dgt dbL_law_1789 13 rfl
theorem dL_law_1811 : decode cL_law 1811 = .ok (.iload 5, 2) := dgt dbL_law_1789 14 rfl
theorem dL_law_1813 : decode cL_law 1813 = .ok (.iconst 1, 1) := dgt dbL_law_1789 15 rfl
theorem dL_law_1814 : decode cL_law 1814 = .ok (.iadd, 1) := dgt dbL_law_1789 16 rfl
theorem dL_law_1815 : decode cL_law 1815 = .ok (.iaload, 1) := dgt dbL_law_1789 17 rfl
theorem dL_law_1816 : decode cL_law 1816 = .ok (.aload_n 0, 1) := dgt dbL_law_1789 18 rfl
theorem dL_law_1817 : decode cL_law 1817 = .ok (.iload 5, 2) := dgt dbL_law_1789 19 rfl
theorem dL_law_1819 : decode cL_law 1819 = .ok (.iconst 2, 1) := dgt dbL_law_1789 20 rfl
theorem dL_law_1820 : decode cL_law 1820 = .ok (.iadd, 1) := dgt dbL_law_1789 21 rfl
theorem dL_law_1821 : decode cL_law 1821 = .ok (.iaload, 1) := dgt dbL_law_1789 22 rfl
theorem dL_law_1822 : decode cL_law 1822 = .ok (.aload_n 0, 1) := dgt dbL_law_1789 23 rfl
theorem dL_law_1823 : decode cL_law 1823 = .ok (.iload 5, 2) := dgt dbL_law_1789 24 rfl
theorem dL_law_1825 : decode cL_law 1825 = .ok (.iconst 3, 1) := dgt dbL_law_1789 25 rfl
theorem dL_law_1826 : decode cL_law 1826 = .ok (.iadd, 1) := dgt dbL_law_1789 26 rfl
theorem dL_law_1827 : decode cL_law 1827 = .ok (.iaload, 1) := dgt dbL_law_1789 27 rfl
theorem dL_law_1828 : decode cL_law 1828 = .ok (.ifCond .eq 7, 3) := dgt dbL_law_1789 28 rfl
theorem dL_law_1831 : decode cL_law 1831 = .ok (.iconst 1, 1) := dgt dbL_law_1789 29 rfl
theorem dL_law_1832 : decode cL_law 1832 = .ok (.goto 4, 3) := dgt dbL_law_1789 30 rfl
theorem dL_law_1835 : decode cL_law 1835 = .ok (.iconst 0, 1) := dgt dbL_law_1789 31 rfl
theorem dL_law_1836 : decode cL_law 1836 = .ok (.invokevirtual 334, 3) := dgt dbL_law_1789 32 rfl
theorem dL_law_1839 : decode cL_law 1839 = .ok (.istore 7, 2) := dgt dbL_law_1789 33 rfl
theorem dL_law_1841 : decode cL_law 1841 = .ok (.goto 1083, 3) := dgt dbL_law_1789 34 rfl
theorem dL_law_1844 : decode cL_law 1844 = .ok (.aload_n 1, 1) := dgt dbL_law_1789 35 rfl
theorem dL_law_1845 : decode cL_law 1845 = .ok (.aload_n 0, 1) := dgt dbL_law_1789 36 rfl
theorem dL_law_1846 : decode cL_law 1846 = .ok (.iload 5, 2) := dgt dbL_law_1789 37 rfl
theorem dL_law_1848 : decode cL_law 1848 = .ok (.iconst 1, 1) := dgt dbL_law_1789 38 rfl
theorem dL_law_1849 : decode cL_law 1849 = .ok (.iadd, 1) := dgt dbL_law_1789 39 rfl
theorem dL_law_1850 : decode cL_law 1850 = .ok (.iaload, 1) := dgt dbL_law_1789 40 rfl
theorem dL_law_1851 : decode cL_law 1851 = .ok (.aload_n 3, 1) := dgt dbL_law_1789 41 rfl
theorem dL_law_1852 : decode cL_law 1852 = .ok (.invokestatic 335, 3) := dgt dbL_law_1789 42 rfl
theorem dL_law_1855 : decode cL_law 1855 = .ok (.istore 6, 2) := dgt dbL_law_1789 43 rfl
theorem dL_law_1857 : decode cL_law 1857 = .ok (.aload_n 2, 1) := dgt dbL_law_1789 44 rfl
theorem dL_law_1858 : decode cL_law 1858 = .ok (.aload_n 0, 1) := dgt dbL_law_1789 45 rfl
theorem dL_law_1859 : decode cL_law 1859 = .ok (.iload 5, 2) := dgt dbL_law_1789 46 rfl
theorem dL_law_1861 : decode cL_law 1861 = .ok (.iconst 1, 1) := dgt dbL_law_1789 47 rfl
theorem dL_law_1862 : decode cL_law 1862 = .ok (.iadd, 1) := dgt dbL_law_1789 48 rfl
theorem dL_law_1863 : decode cL_law 1863 = .ok (.iaload, 1) := dgt dbL_law_1789 49 rfl
theorem dL_law_1864 : decode cL_law 1864 = .ok (.invokevirtual 337, 3) := dgt dbL_law_1789 50 rfl
theorem dL_law_1867 : decode cL_law 1867 = .ok (.istore 7, 2) := dgt dbL_law_1789 51 rfl
theorem dL_law_1869 : decode cL_law 1869 = .ok (.goto 1055, 3) := dgt dbL_law_1789 52 rfl
theorem dL_law_1872 : decode cL_law 1872 = .ok (.aload_n 1, 1) := dgt dbL_law_1789 53 rfl
theorem dL_law_1873 : decode cL_law 1873 = .ok (.aload_n 0, 1) := dgt dbL_law_1789 54 rfl
theorem dL_law_1874 : decode cL_law 1874 = .ok (.iload 5, 2) := dgt dbL_law_1789 55 rfl
theorem dL_law_1876 : decode cL_law 1876 = .ok (.iconst 1, 1) := dgt dbL_law_1789 56 rfl
theorem dL_law_1877 : decode cL_law 1877 = .ok (.iadd, 1) := dgt dbL_law_1789 57 rfl
theorem dL_law_1878 : decode cL_law 1878 = .ok (.iaload, 1) := dgt dbL_law_1789 58 rfl
theorem dL_law_1879 : decode cL_law 1879 = .ok (.aload_n 3, 1) := dgt dbL_law_1789 59 rfl
theorem dL_law_1880 : decode cL_law 1880 = .ok (.invokestatic 338, 3) := dgt dbL_law_1789 60 rfl
theorem dL_law_1883 : decode cL_law 1883 = .ok (.istore 6, 2) := dgt dbL_law_1789 61 rfl
theorem dL_law_1885 : decode cL_law 1885 = .ok (.aload_n 2, 1) := dgt dbL_law_1789 62 rfl
theorem dL_law_1886 : decode cL_law 1886 = .ok (.aload_n 0, 1) := dgt dbL_law_1789 63 rfl
theorem dL_law_1887 : decode cL_law 1887 = .ok (.iload 5, 2) := dgt dbL_law_1789 64 rfl
theorem dL_law_1889 : decode cL_law 1889 = .ok (.iconst 1, 1) := dgt dbL_law_1789 65 rfl
theorem dL_law_1890 : decode cL_law 1890 = .ok (.iadd, 1) := dgt dbL_law_1789 66 rfl
theorem dL_law_1891 : decode cL_law 1891 = .ok (.iaload, 1) := dgt dbL_law_1789 67 rfl
theorem dL_law_1892 : decode cL_law 1892 = .ok (.invokevirtual 340, 3) := dgt dbL_law_1789 68 rfl
theorem dL_law_1895 : decode cL_law 1895 = .ok (.istore 7, 2) := dgt dbL_law_1789 69 rfl
theorem dL_law_1897 : decode cL_law 1897 = .ok (.goto 1027, 3) := dgt dbL_law_1789 70 rfl
theorem dL_law_1900 : decode cL_law 1900 = .ok (.aload_n 1, 1) := dgt dbL_law_1789 71 rfl
theorem dL_law_1901 : decode cL_law 1901 = .ok (.aload_n 0, 1) := dgt dbL_law_1789 72 rfl
theorem dL_law_1902 : decode cL_law 1902 = .ok (.iload 5, 2) := dgt dbL_law_1789 73 rfl
theorem dL_law_1904 : decode cL_law 1904 = .ok (.iconst 1, 1) := dgt dbL_law_1789 74 rfl
theorem dL_law_1905 : decode cL_law 1905 = .ok (.iadd, 1) := dgt dbL_law_1789 75 rfl
theorem dL_law_1906 : decode cL_law 1906 = .ok (.iaload, 1) := dgt dbL_law_1789 76 rfl
theorem dL_law_1907 : decode cL_law 1907 = .ok (.aload_n 0, 1) := dgt dbL_law_1789 77 rfl
theorem dL_law_1908 : decode cL_law 1908 = .ok (.iload 5, 2) := dgt dbL_law_1789 78 rfl
theorem dL_law_1910 : decode cL_law 1910 = .ok (.iconst 2, 1) := dgt dbL_law_1789 79 rfl
def dlL_law_1911 : List (Nat × Instr × Nat) := [(1911, .iadd, 1), (1912, .iaload, 1), (1913, .aload_n 0, 1), (1914, .iload 5, 2), (1916, .iconst 3, 1), (1917, .iadd, 1), (1918, .iaload, 1), (1919, .aload_n 3, 1), (1920, .invokestatic 341, 3), (1923, .istore 6, 2), (1925, .aload_n 2, 1), (1926, .aload_n 0, 1), (1927, .iload 5, 2), (1929, .iconst 1, 1), (1930, .iadd, 1), (1931, .iaload, 1), (1932, .aload_n 0, 1), (1933, .iload 5, 2), (1935, .iconst 2, 1), (1936, .iadd, 1)]
theorem dbL_law_1911 : ∀ q ∈ dlL_law_1911, decode cL_law q.1 = .ok q.2 := by decide +kernel
theorem dL_law_1911 : decode cL_law 1911 = .ok (.iadd, 1) := dgt dbL_law_1911 0 rfl
theorem dL_law_1912 : decode cL_law 1912 = .ok (.iaload, 1) := dgt dbL_law_1911 1 rfl
theorem dL_law_1913 : decode cL_law 1913 = .ok (.aload_n 0, 1) := dgt dbL_law_1911 2 rfl
theorem dL_law_1914 : decode cL_law 1914 = .ok (.iload 5, 2) := dgt dbL_law_1911 3 rfl
theorem dL_law_1916 : decode cL_law 1916 = .ok (.iconst 3, 1) := dgt dbL_law_1911 4 rfl
theorem dL_law_1917 : decode cL_law 1917 = .ok (.iadd, 1) := dgt dbL_law_1911 5 rfl
theorem dL_law_1918 : decode cL_law 1918 = .ok (.iaload, 1) := dgt dbL_law_1911 6 rfl
theorem dL_law_1919 : decode cL_law 1919 = .ok (.aload_n 3, 1) := dgt dbL_law_1911 7 rfl
theorem dL_law_1920 : decode cL_law 1920 = .ok (.invokestatic 341, 3) := dgt dbL_law_1911 8 rfl
theorem dL_law_1923 : decode cL_law 1923 = .ok (.istore 6, 2) := dgt dbL_law_1911 9 rfl
theorem dL_law_1925 : decode cL_law 1925 = .ok (.aload_n 2, 1) := dgt dbL_law_1911 10 rfl
theorem dL_law_1926 : decode cL_law 1926 = .ok (.aload_n 0, 1) := dgt dbL_law_1911 11 rfl
theorem dL_law_1927 : decode cL_law 1927 = .ok (.iload 5, 2) := dgt dbL_law_1911 12 rfl
theorem dL_law_1929 : decode cL_law 1929 = .ok (.iconst 1, 1) := dgt dbL_law_1911 13 rfl
theorem dL_law_1930 : decode cL_law 1930 = .ok (.iadd, 1) := dgt dbL_law_1911 14 rfl
theorem dL_law_1931 : decode cL_law 1931 = .ok (.iaload, 1) := dgt dbL_law_1911 15 rfl
theorem dL_law_1932 : decode cL_law 1932 = .ok (.aload_n 0, 1) := dgt dbL_law_1911 16 rfl
theorem dL_law_1933 : decode cL_law 1933 = .ok (.iload 5, 2) := dgt dbL_law_1911 17 rfl
theorem dL_law_1935 : decode cL_law 1935 = .ok (.iconst 2, 1) := dgt dbL_law_1911 18 rfl
theorem dL_law_1936 : decode cL_law 1936 = .ok (.iadd, 1) := dgt dbL_law_1911 19 rfl

