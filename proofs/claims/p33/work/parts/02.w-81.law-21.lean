def dlL_law_681 : List (Nat × Instr × Nat) := [(681, .iadd, 1), (682, .iaload, 1), (683, .aload_n 0, 1), (684, .iload 5, 2), (686, .iconst 2, 1), (687, .iadd, 1), (688, .iaload, 1), (689, .aload_n 3, 1), (690, .invokestatic 260, 3), (693, .istore 6, 2), (695, .aload_n 2, 1), (696, .aload_n 0, 1), (697, .iload 5, 2), (699, .iconst 1, 1), (700, .iadd, 1), (701, .iaload, 1), (702, .aload_n 0, 1), (703, .iload 5, 2), (705, .iconst 2, 1), (706, .iadd, 1), (707, .iaload, 1), (708, .invokevirtual 262, 3), (711, .istore 7, 2), (713, .goto 2211, 3), (716, .aload_n 1, 1), (717, .aload_n 0, 1), (718, .iload 5, 2), (720, .iconst 1, 1), (721, .iadd, 1), (722, .iaload, 1), (723, .aload_n 0, 1), (724, .iload 5, 2), (726, .iconst 2, 1), (727, .iadd, 1), (728, .iaload, 1), (729, .aload_n 3, 1), (730, .invokestatic 263, 3), (733, .istore 6, 2), (735, .aload_n 2, 1), (736, .aload_n 0, 1), (737, .iload 5, 2), (739, .iconst 1, 1), (740, .iadd, 1), (741, .iaload, 1), (742, .aload_n 0, 1), (743, .iload 5, 2), (745, .iconst 2, 1), (746, .iadd, 1), (747, .iaload, 1), (748, .invokevirtual 265, 3), (751, .lstore 7, 2), (753, .goto 2171, 3), (756, .aload_n 1, 1), (757, .aload_n 0, 1), (758, .iload 5, 2), (760, .iconst 1, 1), (761, .iadd, 1), (762, .iaload, 1), (763, .aload_n 0, 1), (764, .iload 5, 2), (766, .iconst 2, 1), (767, .iadd, 1), (768, .iaload, 1), (769, .aload_n 3, 1), (770, .invokestatic 266, 3), (773, .istore 6, 2), (775, .aload_n 2, 1), (776, .aload_n 0, 1), (777, .iload 5, 2), (779, .iconst 1, 1), (780, .iadd, 1), (781, .iaload, 1), (782, .aload_n 0, 1), (783, .iload 5, 2), (785, .iconst 2, 1), (786, .iadd, 1), (787, .iaload, 1), (788, .invokevirtual 268, 3), (791, .istore 7, 2), (793, .goto 2131, 3)]
theorem dbL_law_681 : ∀ q ∈ dlL_law_681, decode cL_law q.1 = .ok q.2 := by decide +kernel
theorem dL_law_681 : decode cL_law 681 = .ok (.iadd, 1) := dgt dbL_law_681 0 rfl
theorem dL_law_682 : decode cL_law 682 = .ok (.iaload, 1) := dgt dbL_law_681 1 rfl
theorem dL_law_683 : decode cL_law 683 = .ok (.aload_n 0, 1) := dgt dbL_law_681 2 rfl
theorem dL_law_684 : decode cL_law 684 = .ok (.iload 5, 2) := dgt dbL_law_681 3 rfl
theorem dL_law_686 : decode cL_law 686 = .ok (.iconst 2, 1) := dgt dbL_law_681 4 rfl
theorem dL_law_687 : decode cL_law 687 = .ok (.iadd, 1) := dgt dbL_law_681 5 rfl
theorem dL_law_688 : decode cL_law 688 = .ok (.iaload, 1) := dgt dbL_law_681 6 rfl
theorem dL_law_689 : decode cL_law 689 = .ok (.aload_n 3, 1) := dgt dbL_law_681 7 rfl
theorem dL_law_690 : decode cL_law 690 = .ok (.invokestatic 260, 3) := dgt dbL_law_681 8 rfl
theorem dL_law_693 : decode cL_law 693 = .ok (.istore 6, 2) := dgt dbL_law_681 9 rfl
theorem dL_law_695 : decode cL_law 695 = .ok (.aload_n 2, 1) := dgt dbL_law_681 10 rfl
theorem dL_law_696 : decode cL_law 696 = .ok (.aload_n 0, 1) := dgt dbL_law_681 11 rfl
theorem dL_law_697 : decode cL_law 697 = .ok (.iload 5, 2) := dgt dbL_law_681 12 rfl
theorem dL_law_699 : decode cL_law 699 = .ok (.iconst 1, 1) := dgt dbL_law_681 13 rfl
theorem dL_law_700 : decode cL_law 700 = .ok (.iadd, 1) := dgt dbL_law_681 14 rfl
theorem dL_law_701 : decode cL_law 701 = .ok (.iaload, 1) := dgt dbL_law_681 15 rfl
theorem dL_law_702 : decode cL_law 702 = .ok (.aload_n 0, 1) := dgt dbL_law_681 16 rfl
theorem dL_law_703 : decode cL_law 703 = .ok (.iload 5, 2) := dgt dbL_law_681 17 rfl
theorem dL_law_705 : decode cL_law 705 = .ok (.iconst 2, 1) := dgt dbL_law_681 18 rfl
theorem dL_law_706 : decode cL_law 706 = .ok (.iadd, 1) := dgt dbL_law_681 19 rfl
theorem dL_law_707 : decode cL_law 707 = .ok (.iaload, 1) := dgt dbL_law_681 20 rfl
theorem dL_law_708 : decode cL_law 708 = .ok (.invokevirtual 262, 3) := dgt dbL_law_681 21 rfl
theorem dL_law_711 : decode cL_law 711 = .ok (.istore 7, 2) := dgt dbL_law_681 22 rfl
theorem dL_law_713 : decode cL_law 713 = .ok (.goto 2211, 3) := dgt dbL_law_681 23 rfl
theorem dL_law_716 : decode cL_law 716 = .ok (.aload_n 1, 1) := dgt dbL_law_681 24 rfl
theorem dL_law_717 : decode cL_law 717 = .ok (.aload_n 0, 1) := dgt dbL_law_681 25 rfl
theorem dL_law_718 : decode cL_law 718 = .ok (.iload 5, 2) := dgt dbL_law_681 26 rfl
theorem dL_law_720 : decode cL_law 720 = .ok (.iconst 1, 1) := dgt dbL_law_681 27 rfl
theorem dL_law_721 : decode cL_law 721 = .ok (.iadd, 1) := dgt dbL_law_681 28 rfl
theorem dL_law_722 : decode cL_law 722 = .ok (.iaload, 1) := dgt dbL_law_681 29 rfl
theorem dL_law_723 : decode cL_law 723 = .ok (.aload_n 0, 1) := dgt dbL_law_681 30 rfl
theorem dL_law_724 : decode cL_law 724 = .ok (.iload 5, 2) := dgt dbL_law_681 31 rfl
theorem dL_law_726 : decode cL_law 726 = .ok (.iconst 2, 1) := dgt dbL_law_681 32 rfl
theorem dL_law_727 : decode cL_law 727 = .ok (.iadd, 1) := dgt dbL_law_681 33 rfl
theorem dL_law_728 : decode cL_law 728 = .ok (.iaload, 1) := dgt dbL_law_681 34 rfl
theorem dL_law_729 : decode cL_law 729 = .ok (.aload_n 3, 1) := dgt dbL_law_681 35 rfl
theorem dL_law_730 : decode cL_law 730 = .ok (.invokestatic 263, 3) := dgt dbL_law_681 36 rfl
theorem dL_law_733 : decode cL_law 733 = .ok (.istore 6, 2) := dgt dbL_law_681 37 rfl
theorem dL_law_735 : decode cL_law 735 = .ok (.aload_n 2, 1) := dgt dbL_law_681 38 rfl
theorem dL_law_736 : decode cL_law 736 = .ok (.aload_n 0, 1) := dgt dbL_law_681 39 rfl
theorem dL_law_737 : decode cL_law 737 = .ok (.iload 5, 2) := dgt dbL_law_681 40 rfl
theorem dL_law_739 : decode cL_law 739 = .ok (.iconst 1, 1) := dgt dbL_law_681 41 rfl
theorem dL_law_740 : decode cL_law 740 = .ok (.iadd, 1) := dgt dbL_law_681 42 rfl
theorem dL_law_741 : decode cL_law 741 = .ok (.iaload, 1) := dgt dbL_law_681 43 rfl
theorem dL_law_742 : decode cL_law 742 = .ok (.aload_n 0, 1) := dgt dbL_law_681 44 rfl
theorem dL_law_743 : decode cL_law 743 = .ok (.iload 5, 2) := dgt dbL_law_681 45 rfl
theorem dL_law_745 : decode cL_law 745 = .ok (.iconst 2, 1) := dgt dbL_law_681 46 rfl
theorem dL_law_746 : decode cL_law 746 = .ok (.iadd, 1) := dgt dbL_law_681 47 rfl
theorem dL_law_747 : decode cL_law 747 = .ok (.iaload, 1) := dgt dbL_law_681 48 rfl
theorem dL_law_748 : decode cL_law 748 = .ok (.invokevirtual 265, 3) := dgt dbL_law_681 49 rfl
theorem dL_law_751 : decode cL_law 751 = .ok (.lstore 7, 2) := dgt dbL_law_681 50 rfl
theorem dL_law_753 : decode cL_law 753 = .ok (.goto 2171, 3) := dgt dbL_law_681 51 rfl
theorem dL_law_756 : decode cL_law 756 = .ok (.aload_n 1, 1) := dgt dbL_law_681 52 rfl
theorem dL_law_757 : decode cL_law 757 = .ok (.aload_n 0, 1) := dgt dbL_law_681 53 rfl
theorem dL_law_758 : decode cL_law 758 = .ok (.iload 5, 2) := dgt dbL_law_681 54 rfl
theorem dL_law_760 : decode cL_law 760 = .ok (.iconst 1, 1) := dgt dbL_law_681 55 rfl
theorem dL_law_761 : decode cL_law 761 = .ok (.iadd, 1) := dgt dbL_law_681 56 rfl
theorem dL_law_762 : decode cL_law 762 = .ok (.iaload, 1) := dgt dbL_law_681 57 rfl
theorem dL_law_763 : decode cL_law 763 = .ok (.aload_n 0, 1) := dgt dbL_law_681 58 rfl
theorem dL_law_764 : decode cL_law 764 = .ok (.iload 5, 2) := dgt dbL_law_681 59 rfl
theorem dL_law_766 : decode cL_law 766 = .ok (.iconst 2, 1) := dgt dbL_law_681 60 rfl
theorem dL_law_767 : decode cL_law 767 = .ok (.iadd, 1) := dgt dbL_law_681 61 rfl
theorem dL_law_768 : decode cL_law 768 = .ok (.iaload, 1) := dgt dbL_law_681 62 rfl
theorem dL_law_769 : decode cL_law 769 = .ok (.aload_n 3, 1) := dgt dbL_law_681 63 rfl
theorem dL_law_770 : decode cL_law 770 = .ok (.invokestatic 266, 3) := dgt dbL_law_681 64 rfl
theorem dL_law_773 : decode cL_law 773 = .ok (.istore 6, 2) := dgt dbL_law_681 65 rfl
theorem dL_law_775 : decode cL_law 775 = .ok (.aload_n 2, 1) := dgt dbL_law_681 66 rfl
theorem dL_law_776 : decode cL_law 776 = .ok (.aload_n 0, 1) := dgt dbL_law_681 67 rfl
theorem dL_law_777 : decode cL_law 777 = .ok (.iload 5, 2) := dgt dbL_law_681 68 rfl
theorem dL_law_779 : decode cL_law 779 = .ok (.iconst 1, 1) := dgt dbL_law_681 69 rfl
theorem dL_law_780 : decode cL_law 780 = .ok (.iadd, 1) := dgt dbL_law_681 70 rfl
theorem dL_law_781 : decode cL_law 781 = .ok (.iaload, 1) := dgt dbL_law_681 71 rfl
theorem dL_law_782 : decode cL_law 782 = .ok (.aload_n 0, 1) := dgt dbL_law_681 72 rfl
theorem dL_law_783 : decode cL_law 783 = .ok (.iload 5, 2) := dgt dbL_law_681 73 rfl
theorem dL_law_785 : decode cL_law 785 = .ok (.iconst 2, 1) := dgt dbL_law_681 74 rfl
theorem dL_law_786 : decode cL_law 786 = .ok (.iadd, 1) := dgt dbL_law_681 75 rfl
theorem dL_law_787 : decode cL_law 787 = .ok (.iaload, 1) := dgt dbL_law_681 76 rfl
theorem dL_law_788 : decode cL_law 788 = .ok (.invokevirtual 268, 3) := dgt dbL_law_681 77 rfl
theorem dL_law_791 : decode cL_law 791 = .ok (.istore 7, 2) := dgt dbL_law_681 78 rfl
theorem dL_law_793 : decode cL_law 793 = .ok (.goto 2131, 3) := dgt dbL_law_681 79 rfl
def dlL_law_796 : List (Nat × Instr × Nat) := [(796, .aload_n 1, 1), (797, .aload_n 0, 1), (798, .iload 5, 2), (800, .iconst 1, 1), (801, .iadd, 1), (802, .iaload, 1), (803, .aload_n 0, 1), (804, .iload 5, 2), (806, .iconst 2, 1), (807, .iadd, 1), (808, .iaload, 1), (809, .aload_n 0, 1), (810, .iload 5, 2), (812, .iconst 3, 1), (813, .iadd, 1), (814, .iaload, 1), (815, .aload_n 0, 1), (816, .iload 5, 2), (818, .iconst 4, 1), (819, .iadd, 1), (820, .iaload, 1), (821, .aload_n 3, 1), (822, .invokestatic 269, 3), (825, .istore 6, 2), (827, .aload_n 2, 1), (828, .aload_n 0, 1), (829, .iload 5, 2), (831, .iconst 1, 1), (832, .iadd, 1), (833, .iaload, 1), (834, .aload_n 0, 1), (835, .iload 5, 2), (837, .iconst 2, 1), (838, .iadd, 1), (839, .iaload, 1), (840, .aload_n 0, 1), (841, .iload 5, 2), (843, .iconst 3, 1), (844, .iadd, 1), (845, .iaload, 1), (846, .aload_n 0, 1), (847, .iload 5, 2), (849, .iconst 4, 1), (850, .iadd, 1), (851, .iaload, 1), (852, .invokevirtual 271, 3), (855, .istore 7, 2), (857, .goto 2067, 3), (860, .aload_n 1, 1), (861, .aload_n 0, 1), (862, .iload 5, 2), (864, .iconst 1, 1), (865, .iadd, 1), (866, .iaload, 1), (867, .aload_n 0, 1), (868, .iload 5, 2), (870, .iconst 2, 1), (871, .iadd, 1), (872, .iaload, 1), (873, .aload_n 0, 1), (874, .iload 5, 2), (876, .iconst 3, 1), (877, .iadd, 1), (878, .iaload, 1), (879, .aload_n 0, 1), (880, .iload 5, 2), (882, .iconst 4, 1), (883, .iadd, 1), (884, .iaload, 1), (885, .aload_n 3, 1), (886, .invokestatic 272, 3), (889, .istore 6, 2), (891, .aload_n 2, 1), (892, .aload_n 0, 1), (893, .iload 5, 2), (895, .iconst 1, 1), (896, .iadd, 1), (897, .iaload, 1), (898, .aload_n 0, 1), (899, .iload 5, 2)]
theorem dbL_law_796 : ∀ q ∈ dlL_law_796, decode cL_law q.1 = .ok q.2 := by decide +kernel
theorem dL_law_796 : decode cL_law 796 = .ok (.aload_n 1, 1) := dgt dbL_law_796 0 rfl
theorem dL_law_797 : decode cL_law 797 = .ok (.aload_n 0, 1) := dgt dbL_law_796 1 rfl
theorem dL_law_798 : decode cL_law 798 = .ok (.iload 5, 2) := dgt dbL_law_796 2 rfl
theorem dL_law_800 : decode cL_law 800 = .ok (.iconst 1, 1) := dgt dbL_law_796 3 rfl
theorem dL_law_801 : decode cL_law 801 = .ok (.iadd, 1) := dgt dbL_law_796 4 rfl
theorem dL_law_802 : decode cL_law 802 = .ok (.iaload, 1) := dgt dbL_law_796 5 rfl
theorem dL_law_803 : decode cL_law 803 = .ok (.aload_n 0, 1) := dgt dbL_law_796 6 rfl
theorem dL_law_804 : decode cL_law 804 = .ok (.iload 5, 2) := dgt dbL_law_796 7 rfl
theorem dL_law_806 : decode cL_law 806 = .ok (.iconst 2, 1) := dgt dbL_law_796 8 rfl
theorem dL_law_807 : decode cL_law 807 = .ok (.iadd, 1) := dgt dbL_law_796 9 rfl
theorem dL_law_808 : decode cL_law 808 = .ok (.iaload, 1) := dgt dbL_law_796 10 rfl
theorem dL_law_809 : decode cL_law 809 = .ok (.aload_n 0, 1) := dgt dbL_law_796 11 rfl
theorem dL_law_810 : decode cL_law 810 = .ok (.iload 5, 2) := dgt dbL_law_796 12 rfl
theorem dL_law_812 : decode cL_law 812 = .ok (.iconst 3, 1) := dgt dbL_law_796 13 rfl
theorem dL_law_813 : decode cL_law 813 = .ok (.iadd, 1) := dgt dbL_law_796 14 rfl
theorem dL_law_814 : decode cL_law 814 = .ok (.iaload, 1) := dgt dbL_law_796 15 rfl
theorem dL_law_815 : decode cL_law 815 = .ok (.aload_n 0, 1) := dgt dbL_law_796 16 rfl
theorem dL_law_816 : decode cL_law 816 = .ok (.iload 5, 2) := dgt dbL_law_796 17 rfl
theorem dL_law_818 : decode cL_law 818 = .ok (.iconst 4, 1) := dgt dbL_law_796 18 rfl
theorem dL_law_819 : decode cL_law 819 = .ok (.iadd, 1) := dgt dbL_law_796 19 rfl
theorem dL_law_820 : decode cL_law 820 = .ok (.iaload, 1) := dgt dbL_law_796 20 rfl
theorem dL_law_821 : decode cL_law 821 = .ok (.aload_n 3, 1) := dgt dbL_law_796 21 rfl
theorem dL_law_822 : decode cL_law 822 = .ok (.invokestatic 269, 3) := dgt dbL_law_796 22 rfl
theorem dL_law_825 : decode cL_law 825 = .ok (.istore 6, 2) := dgt dbL_law_796 23 rfl
theorem dL_law_827 : decode cL_law 827 = .ok (.aload_n 2, 1) := dgt dbL_law_796 24 rfl
theorem dL_law_828 : decode cL_law 828 = .ok (.aload_n 0, 1) := dgt dbL_law_796 25 rfl
theorem dL_law_829 : decode cL_law 829 = .ok (.iload 5, 2) := dgt dbL_law_796 26 rfl
theorem dL_law_831 : decode cL_law 831 = .ok (.iconst 1, 1) := dgt dbL_law_796 27 rfl
theorem dL_law_832 : decode cL_law 832 = .ok (.iadd, 1) := dgt dbL_law_796 28 rfl
theorem dL_law_833 : decode cL_law 833 = .ok (.iaload, 1) := dgt dbL_law_796 29 rfl
theorem dL_law_834 : decode cL_law 834 = .ok (.aload_n 0, 1) := dgt dbL_law_796 30 rfl
theorem dL_law_835 : decode cL_law 835 = .ok (.iload 5, 2) := dgt dbL_law_796 31 rfl
theorem dL_law_837 : decode cL_law 837 = .ok (.iconst 2, 1) := dgt dbL_law_796 32 rfl
theorem dL_law_838 : decode cL_law 838 = .ok (.iadd, 1) := dgt dbL_law_796 33 rfl
theorem dL_law_839 : decode cL_law 839 = .ok (.iaload, 1) := dgt dbL_law_796 34 rfl
theorem dL_law_840 : decode cL_law 840 = .ok (.aload_n 0, 1) := dgt dbL_law_796 35 rfl
theorem dL_law_841 : decode cL_law 841 = .ok (.iload 5, 2) := dgt dbL_law_796 36 rfl
theorem dL_law_843 : decode cL_law 843 = .ok (.iconst 3, 1) := dgt dbL_law_796 37 rfl
theorem dL_law_844 : decode cL_law 844 = .ok (.iadd, 1) := dgt dbL_law_796 38 rfl
theorem dL_law_845 : decode cL_law 845 = .ok (.iaload, 1) := dgt dbL_law_796 39 rfl
theorem dL_law_846 : decode cL_law 846 = .ok (.aload_n 0, 1) := dgt dbL_law_796 40 rfl
theorem dL_law_847 : decode cL_law 847 = .ok (.iload 5, 2) := dgt dbL_law_796 41 rfl
theorem dL_law_849 : decode cL_law 849 = .ok (.iconst 4, 1) := dgt dbL_law_796 42 rfl
theorem dL_law_850 : decode cL_law 850 = .ok (.iadd, 1) := dgt dbL_law_796 43 rfl
theorem dL_law_851 : decode cL_law 851 = .ok (.iaload, 1) := dgt dbL_law_796 44 rfl
theorem dL_law_852 : decode cL_law 852 = .ok (.invokevirtual 271, 3) := dgt dbL_law_796 45 rfl
theorem dL_law_855 : decode cL_law 855 = .ok (.istore 7, 2) := dgt dbL_law_796 46 rfl
theorem dL_law_857 : decode cL_law 857 = .ok (.goto 2067, 3) := dgt dbL_law_796 47 rfl
theorem dL_law_860 : decode cL_law 860 = .ok (.aload_n 1, 1) := dgt dbL_law_796 48 rfl
theorem dL_law_861 : decode cL_law 861 = .ok (.aload_n 0, 1) := dgt dbL_law_796 49 rfl
theorem dL_law_862 : decode cL_law 862 = .ok (.iload 5, 2) := dgt dbL_law_796 50 rfl
theorem dL_law_864 : decode cL_law 864 = .ok (.iconst 1, 1) := dgt dbL_law_796 51 rfl
theorem dL_law_865 : decode cL_law 865 = .ok (.iadd, 1) := dgt dbL_law_796 52 rfl
theorem dL_law_866 : decode cL_law 866 = .ok (.iaload, 1) := dgt dbL_law_796 53 rfl
theorem dL_law_867 : decode cL_law 867 = .ok (.aload_n 0, 1) := dgt dbL_law_796 54 rfl
theorem dL_law_868 : decode cL_law 868 = .ok (.iload 5, 2) := dgt dbL_law_796 55 rfl
theorem dL_law_870 : decode cL_law 870 = .ok (.iconst 2, 1) := dgt dbL_law_796 56 rfl
theorem dL_law_871 : decode cL_law 871 = .ok (.iadd, 1) := dgt dbL_law_796 57 rfl
theorem dL_law_872 : decode cL_law 872 = .ok (.iaload, 1) := dgt dbL_law_796 58 rfl
theorem dL_law_873 : decode cL_law 873 = .ok (.aload_n 0, 1) := dgt dbL_law_796 59 rfl
theorem dL_law_874 : decode cL_law 874 = .ok (.iload 5, 2) := dgt dbL_law_796 60 rfl
theorem dL_law_876 : decode cL_law 876 = .ok (.iconst 3, 1) := dgt dbL_law_796 61 rfl
theorem dL_law_877 : decode cL_law 877 = .ok (.iadd, 1) := dgt dbL_law_796 62 rfl
theorem dL_law_878 : decode cL_law 878 = .ok (.iaload, 1) := dgt dbL_law_796 63 rfl
theorem dL_law_879 : decode cL_law 879 = .ok (.aload_n 0, 1) := dgt dbL_law_796 64 rfl
theorem dL_law_880 : decode cL_law 880 = .ok (.iload 5, 2) := dgt dbL_law_796 65 rfl
theorem dL_law_882 : decode cL_law 882 = .ok (.iconst 4, 1) := dgt dbL_law_796 66 rfl
theorem dL_law_883 : decode cL_law 883 = .ok (.iadd, 1) := dgt dbL_law_796 67 rfl
theorem dL_law_884 : decode cL_law 884 = .ok (.iaload, 1) := dgt dbL_law_796 68 rfl
theorem dL_law_885 : decode cL_law 885 = .ok (.aload_n 3, 1) := dgt dbL_law_796 69 rfl
theorem dL_law_886 : decode cL_law 886 = .ok (.invokestatic 272, 3) := dgt dbL_law_796 70 rfl
theorem dL_law_889 : decode cL_law 889 = .ok (.istore 6, 2) := dgt dbL_law_796 71 rfl
theorem dL_law_891 : decode cL_law 891 = .ok (.aload_n 2, 1) := dgt dbL_law_796 72 rfl
theorem dL_law_892 : decode cL_law 892 = .ok (.aload_n 0, 1) := dgt dbL_law_796 73 rfl
theorem dL_law_893 : decode cL_law 893 = .ok (.iload 5, 2) := dgt dbL_law_796 74 rfl
theorem dL_law_895 : decode cL_law 895 = .ok (.iconst 1, 1) := dgt dbL_law_796 75 rfl
theorem dL_law_896 : decode cL_law 896 = .ok (.iadd, 1) := dgt dbL_law_796 76 rfl
theorem dL_law_897 : decode cL_law 897 = .ok (.iaload, 1) := dgt dbL_law_796 77 rfl
theorem dL_law_898 : decode cL_law 898 = .ok (.aload_n 0, 1) := dgt dbL_law_796 78 rfl
theorem dL_law_899 : decode cL_law 899 = .ok (.iload 5, 2) := dgt dbL_law_796 79 rfl
def dlL_law_901 : List (Nat × Instr × Nat) := [(901, .iconst 2, 1), (902, .iadd, 1), (903, .iaload, 1), (904, .aload_n 0, 1), (905, .iload 5, 2), (907, .iconst 3, 1), (908, .iadd, 1), (909, .iaload, 1), (910, .aload_n 0, 1), (911, .iload 5, 2), (913, .iconst 4, 1), (914, .iadd, 1), (915, .iaload, 1), (916, .invokevirtual 274, 3), (919, .istore 7, 2), (921, .goto 2003, 3), (924, .aload_n 1, 1), (925, .aload_n 0, 1), (926, .iload 5, 2), (928, .iconst 1, 1), (929, .iadd, 1), (930, .iaload, 1), (931, .aload_n 0, 1), (932, .iload 5, 2), (934, .iconst 2, 1), (935, .iadd, 1), (936, .iaload, 1), (937, .aload_n 0, 1), (938, .iload 5, 2), (940, .iconst 3, 1), (941, .iadd, 1), (942, .iaload, 1), (943, .aload_n 0, 1), (944, .iload 5, 2), (946, .iconst 4, 1), (947, .iadd, 1), (948, .iaload, 1), (949, .aload_n 3, 1), (950, .invokestatic 275, 3), (953, .istore 6, 2), (955, .aload_n 2, 1), (956, .aload_n 0, 1), (957, .iload 5, 2), (959, .iconst 1, 1), (960, .iadd, 1), (961, .iaload, 1), (962, .aload_n 0, 1), (963, .iload 5, 2), (965, .iconst 2, 1), (966, .iadd, 1), (967, .iaload, 1), (968, .aload_n 0, 1), (969, .iload 5, 2), (971, .iconst 3, 1), (972, .iadd, 1), (973, .iaload, 1), (974, .aload_n 0, 1), (975, .iload 5, 2), (977, .iconst 4, 1), (978, .iadd, 1), (979, .iaload, 1), (980, .invokevirtual 277, 3), (983, .istore 7, 2), (985, .goto 1939, 3), (988, .aload_n 1, 1), (989, .aload_n 0, 1), (990, .iload 5, 2), (992, .iconst 1, 1), (993, .iadd, 1), (994, .iaload, 1), (995, .aload_n 0, 1), (996, .iload 5, 2), (998, .iconst 2, 1), (999, .iadd, 1), (1000, .iaload, 1), (1001, .aload_n 0, 1), (1002, .iload 5, 2), (1004, .iconst 3, 1), (1005, .iadd, 1), (1006, .iaload, 1)]
theorem dbL_law_901 : ∀ q ∈ dlL_law_901, decode cL_law q.1 = .ok q.2 := by decide +kernel
theorem dL_law_901 : decode cL_law 901 = .ok (.iconst 2, 1) := dgt dbL_law_901 0 rfl
theorem dL_law_902 : decode cL_law 902 = .ok (.iadd, 1) := dgt dbL_law_901 1 rfl
theorem dL_law_903 : decode cL_law 903 = .ok (.iaload, 1) := dgt dbL_law_901 2 rfl
theorem dL_law_904 : decode cL_law 904 = .ok (.aload_n 0, 1) := dgt dbL_law_901 3 rfl
theorem dL_law_905 : decode cL_law 905 = .ok (.iload 5, 2) := dgt dbL_law_901 4 rfl
theorem dL_law_907 : decode cL_law 907 = .ok (.iconst 3, 1) := dgt dbL_law_901 5 rfl
theorem dL_law_908 : decode cL_law 908 = .ok (.iadd, 1) := dgt dbL_law_901 6 rfl
theorem dL_law_909 : decode cL_law 909 = .ok (.iaload, 1) := dgt dbL_law_901 7 rfl
theorem dL_law_910 : decode cL_law 910 = .ok (.aload_n 0, 1) := dgt dbL_law_901 8 rfl
theorem dL_law_911 : decode cL_law 911 = .ok (.iload 5, 2) := dgt dbL_law_901 9 rfl
theorem dL_law_913 : decode cL_law 913 = .ok (.iconst 4, 1) := dgt dbL_law_901 10 rfl
theorem dL_law_914 : decode cL_law 914 = .ok (.iadd, 1) := dgt dbL_law_901 11 rfl
theorem dL_law_915 : decode cL_law 915 = .ok (.iaload, 1) := dgt dbL_law_901 12 rfl
theorem dL_law_916 : decode cL_law 916 = .ok (.invokevirtual 274, 3) := dgt dbL_law_901 13 rfl
theorem dL_law_919 : decode cL_law 919 = .ok (.istore 7, 2) := dgt dbL_law_901 14 rfl
theorem dL_law_921 : decode cL_law 921 = .ok (.goto 2003, 3) := dgt dbL_law_901 15 rfl
theorem dL_law_924 : decode cL_law 924 = .ok (.aload_n 1, 1) := dgt dbL_law_901 16 rfl
theorem dL_law_925 : decode cL_law 925 = .ok (.aload_n 0, 1) := dgt dbL_law_901 17 rfl
theorem dL_law_926 : decode cL_law 926 = .ok (.iload 5, 2) := dgt dbL_law_901 18 rfl
theorem dL_law_928 : decode cL_law 928 = .ok (.iconst 1, 1) := dgt dbL_law_901 19 rfl
theorem dL_law_929 : decode cL_law 929 = .ok (.iadd, 1) := dgt dbL_law_901 20 rfl
theorem dL_law_930 : decode cL_law 930 = .ok (.iaload, 1) := dgt dbL_law_901 21 rfl
theorem dL_law_931 : decode cL_law 931 = .ok (.aload_n 0, 1) := dgt dbL_law_901 22 rfl
theorem dL_law_932 : decode cL_law 932 = .ok (.iload 5, 2) := dgt dbL_law_901 23 rfl
theorem dL_law_934 : decode cL_law 934 = .ok (.iconst 2, 1) := dgt dbL_law_901 24 rfl
theorem dL_law_935 : decode cL_law 935 = .ok (.iadd, 1) := dgt dbL_law_901 25 rfl
theorem dL_law_936 : decode cL_law 936 = .ok (.iaload, 1) := dgt dbL_law_901 26 rfl
theorem dL_law_937 : decode cL_law 937 = .ok (.aload_n 0, 1) := dgt dbL_law_901 27 rfl
theorem dL_law_938 : decode cL_law 938 = .ok (.iload 5, 2) := dgt dbL_law_901 28 rfl
theorem dL_law_940 : decode cL_law 940 = .ok (.iconst 3, 1) := dgt dbL_law_901 29 rfl
theorem dL_law_941 : decode cL_law 941 = .ok (.iadd, 1) := dgt dbL_law_901 30 rfl
theorem dL_law_942 : decode cL_law 942 = .ok (.iaload, 1) := dgt dbL_law_901 31 rfl
theorem dL_law_943 : decode cL_law 943 = .ok (.aload_n 0, 1) := dgt dbL_law_901 32 rfl
theorem dL_law_944 : decode cL_law 944 = .ok (.iload 5, 2) := dgt dbL_law_901 33 rfl
theorem dL_law_946 : decode cL_law 946 = .ok (.iconst 4, 1) := dgt dbL_law_901 34 rfl
theorem dL_law_947 : decode cL_law 947 = .ok (.iadd, 1) := dgt dbL_law_901 35 rfl
theorem dL_law_948 : decode cL_law 948 = .ok (.iaload, 1) := dgt dbL_law_901 36 rfl
theorem dL_law_949 : decode cL_law 949 = .ok (.aload_n 3, 1) := dgt dbL_law_901 37 rfl
theorem dL_law_950 : decode cL_law 950 = .ok (.invokestatic 275, 3) := dgt dbL_law_901 38 rfl
theorem dL_law_953 : decode cL_law 953 = .ok (.istore 6, 2) := dgt dbL_law_901 39 rfl
theorem dL_law_955 : decode cL_law 955 = .ok (.aload_n 2, 1) := dgt dbL_law_901 40 rfl
theorem dL_law_956 : decode cL_law 956 = .ok (.aload_n 0, 1) := dgt dbL_law_901 41 rfl
theorem dL_law_957 : decode cL_law 957 = .ok (.iload 5, 2) := dgt dbL_law_901 42 rfl
theorem dL_law_959 : decode cL_law 959 = .ok (.iconst 1, 1) := dgt dbL_law_901 43 rfl
theorem dL_law_960 : decode cL_law 960 = .ok (.iadd, 1) := dgt dbL_law_901 44 rfl
theorem dL_law_961 : decode cL_law 961 = .ok (.iaload, 1) := dgt dbL_law_901 45 rfl
theorem dL_law_962 : decode cL_law 962 = .ok (.aload_n 0, 1) := dgt dbL_law_901 46 rfl
theorem dL_law_963 : decode cL_law 963 = .ok (.iload 5, 2) := dgt dbL_law_901 47 rfl
theorem dL_law_965 : decode cL_law 965 = .ok (.iconst 2, 1) := dgt dbL_law_901 48 rfl
theorem dL_law_966 : decode cL_law 966 = .ok (.iadd, 1) := dgt dbL_law_901 49 rfl
theorem dL_law_967 : decode cL_law 967 = .ok (.iaload, 1) := dgt dbL_law_901 50 rfl
theorem dL_law_968 : decode cL_law 968 = .ok (.aload_n 0, 1) := dgt dbL_law_901 51 rfl
theorem dL_law_969 : decode cL_law 969 = .ok (.iload 5, 2) := dgt dbL_law_901 52 rfl
theorem dL_law_971 : decode cL_law 971 = .ok (.iconst 3, 1) := dgt dbL_law_901 53 rfl
theorem dL_law_972 : decode cL_law 972 = .ok (.iadd, 1) := dgt dbL_law_901 54 rfl
theorem dL_law_973 : decode cL_law 973 = .ok (.iaload, 1) := dgt dbL_law_901 55 rfl
theorem dL_law_974 : decode cL_law 974 = .ok (.aload_n 0, 1) := dgt dbL_law_901 56 rfl
theorem dL_law_975 : decode cL_law 975 = .ok (.iload 5, 2) := dgt dbL_law_901 57 rfl
theorem dL_law_977 : decode cL_law 977 = .ok (.iconst 4, 1) := dgt dbL_law_901 58 rfl
theorem dL_law_978 : decode cL_law 978 = .ok (.iadd, 1) := dgt dbL_law_901 59 rfl
theorem dL_law_979 : decode cL_law 979 = .ok (.iaload, 1) := dgt dbL_law_901 60 rfl
theorem dL_law_980 : decode cL_law 980 = .ok (.invokevirtual 277, 3) := dgt dbL_law_901 61 rfl
theorem dL_law_983 : decode cL_law 983 = .ok (.istore 7, 2) := dgt dbL_law_901 62 rfl
theorem dL_law_985 : decode cL_law 985 = .ok (.goto 1939, 3) := dgt dbL_law_901 63 rfl
theorem dL_law_988 : decode cL_law 988 = .ok (.aload_n 1, 1) := dgt dbL_law_901 64 rfl
theorem dL_law_989 : decode cL_law 989 = .ok (.aload_n 0, 1) := dgt dbL_law_901 65 rfl
theorem dL_law_990 : decode cL_law 990 = .ok (.iload 5, 2) := dgt dbL_law_901 66 rfl
theorem dL_law_992 : decode cL_law 992 = .ok (.iconst 1, 1) := dgt dbL_law_901 67 rfl
theorem dL_law_993 : decode cL_law 993 = .ok (.iadd, 1) := dgt dbL_law_901 68 rfl
theorem dL_law_994 : decode cL_law 994 = .ok (.iaload, 1) := dgt dbL_law_901 69 rfl
theorem dL_law_995 : decode cL_law 995 = .ok (.aload_n 0, 1) := dgt dbL_law_901 70 rfl
theorem dL_law_996 : decode cL_law 996 = .ok (.iload 5, 2) := dgt dbL_law_901 71 rfl
theorem dL_law_998 : decode cL_law 998 = .ok (.iconst 2, 1) := dgt dbL_law_901 72 rfl
theorem dL_law_999 : decode cL_law 999 = .ok (.iadd, 1) := dgt dbL_law_901 73 rfl
theorem dL_law_1000 : decode cL_law 1000 = .ok (.iaload, 1) := dgt dbL_law_901 74 rfl
theorem dL_law_1001 : decode cL_law 1001 = .ok (.aload_n 0, 1) := dgt dbL_law_901 75 rfl
theorem dL_law_1002 : decode cL_law 1002 = .ok (.iload 5, 2) := dgt dbL_law_901 76 rfl
theorem dL_law_1004 : decode cL_law 1004 = .ok (.iconst 3, 1) := dgt dbL_law_901 77 rfl
theorem dL_law_1005 : decode cL_law 1005 = .ok (.iadd, 1) := dgt dbL_law_901 78 rfl
theorem dL_law_1006 : decode cL_law 1006 = .ok (.iaload, 1) := dgt dbL_law_901 79 rfl
def dlL_law_1007 : List (Nat × Instr × Nat) := [(1007, .aload_n 3, 1), (1008, .invokestatic 278, 3), (1011, .istore 6, 2), (1013, .aload_n 2, 1), (1014, .aload_n 0, 1), (1015, .iload 5, 2), (1017, .iconst 1, 1), (1018, .iadd, 1), (1019, .iaload, 1), (1020, .aload_n 0, 1), (1021, .iload 5, 2), (1023, .iconst 2, 1), (1024, .iadd, 1), (1025, .iaload, 1), (1026, .aload_n 0, 1), (1027, .iload 5, 2), (1029, .iconst 3, 1), (1030, .iadd, 1), (1031, .iaload, 1), (1032, .invokevirtual 281, 3), (1035, .istore 7, 2), (1037, .goto 1887, 3), (1040, .aload_n 1, 1), (1041, .aload_n 0, 1), (1042, .iload 5, 2), (1044, .iconst 1, 1), (1045, .iadd, 1), (1046, .iaload, 1), (1047, .aload_n 0, 1), (1048, .iload 5, 2), (1050, .iconst 2, 1), (1051, .iadd, 1), (1052, .iaload, 1), (1053, .aload_n 0, 1), (1054, .iload 5, 2), (1056, .iconst 3, 1), (1057, .iadd, 1), (1058, .iaload, 1), (1059, .aload_n 0, 1), (1060, .iload 5, 2), (1062, .iconst 4, 1), (1063, .iadd, 1), (1064, .iaload, 1), (1065, .aload_n 3, 1), (1066, .invokestatic 282, 3), (1069, .istore 6, 2), (1071, .aload_n 2, 1), (1072, .aload_n 0, 1), (1073, .iload 5, 2), (1075, .iconst 1, 1), (1076, .iadd, 1), (1077, .iaload, 1), (1078, .aload_n 0, 1), (1079, .iload 5, 2), (1081, .iconst 2, 1), (1082, .iadd, 1), (1083, .iaload, 1), (1084, .aload_n 0, 1), (1085, .iload 5, 2), (1087, .iconst 3, 1), (1088, .iadd, 1), (1089, .iaload, 1), (1090, .aload_n 0, 1), (1091, .iload 5, 2), (1093, .iconst 4, 1), (1094, .iadd, 1), (1095, .iaload, 1), (1096, .invokevirtual 284, 3), (1099, .istore 7, 2), (1101, .goto 1823, 3), (1104, .aload_n 1, 1), (1105, .aload_n 0, 1), (1106, .iload 5, 2), (1108, .iconst 1, 1), (1109, .iadd, 1), (1110, .iaload, 1), (1111, .aload_n 3, 1), (1112, .invokestatic 285, 3), (1115, .istore 6, 2), (1117, .aload_n 2, 1)]
theorem dbL_law_1007 : ∀ q ∈ dlL_law_1007, decode cL_law q.1 = .ok q.2 := by decide +kernel
theorem dL_law_1007 : decode cL_law 1007 = .ok (.aload_n 3, 1) := dgt dbL_law_1007 0 rfl
theorem dL_law_1008 : decode cL_law 1008 = .ok (.invokestatic 278, 3) := dgt dbL_law_1007 1 rfl
theorem dL_law_1011 : decode cL_law 1011 = .ok (.istore 6, 2) := dgt dbL_law_1007 2 rfl
theorem dL_law_1013 : decode cL_law 1013 = .ok (.aload_n 2, 1) := dgt dbL_law_1007 3 rfl
theorem dL_law_1014 : decode cL_law 1014 = .ok (.aload_n 0, 1) := dgt dbL_law_1007 4 rfl
theorem dL_law_1015 : decode cL_law 1015 = .ok (.iload 5, 2) := dgt dbL_law_1007 5 rfl
theorem dL_law_1017 : decode cL_law 1017 = .ok (.iconst 1, 1) := dgt dbL_law_1007 6 rfl
theorem dL_law_1018 : decode cL_law 1018 = .ok (.iadd, 1) := dgt dbL_law_1007 7 rfl
theorem dL_law_1019 : decode cL_law 1019 = .ok (.iaload, 1) := dgt dbL_law_1007 8 rfl
theorem dL_law_1020 : decode cL_law 1020 = .ok (.aload_n 0, 1) := dgt dbL_law_1007 9 rfl
theorem dL_law_1021 : decode cL_law 1021 = .ok (.iload 5, 2) := dgt dbL_law_1007 10 rfl
theorem dL_law_1023 : decode cL_law 1023 = .ok (.iconst 2, 1) := dgt dbL_law_1007 11 rfl
theorem dL_law_1024 : decode cL_law 1024 = .ok (.iadd, 1) := dgt dbL_law_1007 12 rfl
theorem dL_law_1025 : decode cL_law 1025 = .ok (.iaload, 1) := dgt dbL_law_1007 13 rfl
theorem dL_law_1026 : decode cL_law 1026 = .ok (.aload_n 0, 1) := dgt dbL_law_1007 14 rfl
theorem dL_law_1027 : decode cL_law 1027 = .ok (.iload 5, 2) := dgt dbL_law_1007 15 rfl
theorem dL_law_1029 : decode cL_law 1029 = .ok (.iconst 3, 1) := dgt dbL_law_1007 16 rfl
theorem dL_law_1030 : decode cL_law 1030 = .ok (.iadd, 1) := dgt dbL_law_1007 17 rfl
theorem dL_law_1031 : decode cL_law 1031 = .ok (.iaload, 1) := dgt dbL_law_1007 18 rfl
theorem dL_law_1032 : decode cL_law 1032 = .ok (.invokevirtual 281, 3) := dgt dbL_law_1007 19 rfl
theorem dL_law_1035 : decode cL_law 1035 = .ok (.istore 7, 2) := dgt dbL_law_1007 20 rfl
theorem dL_law_1037 : decode cL_law 1037 = .ok (.goto 1887, 3) := dgt dbL_law_1007 21 rfl
theorem dL_law_1040 : decode cL_law 1040 = .ok (.aload_n 1, 1) := dgt dbL_law_1007 22 rfl
theorem dL_law_1041 : decode cL_law 1041 = .ok (.aload_n 0, 1) := dgt dbL_law_1007 23 rfl
theorem dL_law_1042 : decode cL_law 1042 = .ok (.iload 5, 2) := dgt dbL_law_1007 24 rfl
theorem dL_law_1044 : decode cL_law 1044 = .ok (.iconst 1, 1) := dgt dbL_law_1007 25 rfl
theorem dL_law_1045 : decode cL_law 1045 = .ok (.iadd, 1) := dgt dbL_law_1007 26 rfl
theorem dL_law_1046 : decode cL_law 1046 = .ok (.iaload, 1) := dgt dbL_law_1007 27 rfl
theorem dL_law_1047 : decode cL_law 1047 = .ok (.aload_n 0, 1) := dgt dbL_law_1007 28 rfl
theorem dL_law_1048 : decode cL_law 1048 = .ok (.iload 5, 2) := dgt dbL_law_1007 29 rfl
theorem dL_law_1050 : decode cL_law 1050 = .ok (.iconst 2, 1) := dgt dbL_law_1007 30 rfl
theorem dL_law_1051 : decode cL_law 1051 = .ok (.iadd, 1) := dgt dbL_law_1007 31 rfl
theorem dL_law_1052 : decode cL_law 1052 = .ok (.iaload, 1) := dgt dbL_law_1007 32 rfl
theorem dL_law_1053 : decode cL_law 1053 = .ok (.aload_n 0, 1) := dgt dbL_law_1007 33 rfl
theorem dL_law_1054 : decode cL_law 1054 = .ok (.iload 5, 2) := dgt dbL_law_1007 34 rfl
theorem dL_law_1056 : decode cL_law 1056 = .ok (.iconst 3, 1) := dgt dbL_law_1007 35 rfl
theorem dL_law_1057 : decode cL_law 1057 = .ok (.iadd, 1) := dgt dbL_law_1007 36 rfl
theorem dL_law_1058 : decode cL_law 1058 = .ok (.iaload, 1) := dgt dbL_law_1007 37 rfl
theorem dL_law_1059 : decode cL_law 1059 = .ok (.aload_n 0, 1) := dgt dbL_law_1007 38 rfl
theorem dL_law_1060 : decode cL_law 1060 = .ok (.iload 5, 2) := dgt dbL_law_1007 39 rfl
theorem dL_law_1062 : decode cL_law 1062 = .ok (.iconst 4, 1) := dgt dbL_law_1007 40 rfl
theorem dL_law_1063 : decode cL_law 1063 = .ok (.iadd, 1) := dgt dbL_law_1007 41 rfl
theorem dL_law_1064 : decode cL_law 1064 = .ok (.iaload, 1) := dgt dbL_law_1007 42 rfl
theorem dL_law_1065 : decode cL_law 1065 = .ok (.aload_n 3, 1) := dgt dbL_law_1007 43 rfl
theorem dL_law_1066 : decode cL_law 1066 = .ok (.invokestatic 282, 3) := dgt dbL_law_1007 44 rfl
theorem dL_law_1069 : decode cL_law 1069 = .ok (.istore 6, 2) := dgt dbL_law_1007 45 rfl
theorem dL_law_1071 : decode cL_law 1071 = .ok (.aload_n 2, 1) := dgt dbL_law_1007 46 rfl
theorem dL_law_1072 : decode cL_law 1072 = .ok (.aload_n 0, 1) := dgt dbL_law_1007 47 rfl
theorem dL_law_1073 : decode cL_law 1073 = .ok (.iload 5, 2) := dgt dbL_law_1007 48 rfl
theorem dL_law_1075 : decode cL_law 1075 = .ok (.iconst 1, 1) := dgt dbL_law_1007 49 rfl
theorem dL_law_1076 : decode cL_law 1076 = .ok (.iadd, 1) := dgt dbL_law_1007 50 rfl
theorem dL_law_1077 : decode cL_law 1077 = .ok (.iaload, 1) := dgt dbL_law_1007 51 rfl
theorem dL_law_1078 : decode cL_law 1078 = .ok (.aload_n 0, 1) := dgt dbL_law_1007 52 rfl
theorem dL_law_1079 : decode cL_law 1079 = .ok (.iload 5, 2) := dgt dbL_law_1007 53 rfl
theorem dL_law_1081 : decode cL_law 1081 = .ok (.iconst 2, 1) := dgt dbL_law_1007 54 rfl
theorem dL_law_1082 : decode cL_law 1082 = .ok (.iadd, 1) := dgt dbL_law_1007 55 rfl
theorem dL_law_1083 : decode cL_law 1083 = .ok (.iaload, 1) := dgt dbL_law_1007 56 rfl
theorem dL_law_1084 : decode cL_law 1084 = .ok (.aload_n 0, 1) := dgt dbL_law_1007 57 rfl
theorem dL_law_1085 : decode cL_law 1085 = .ok (.iload 5, 2) := dgt dbL_law_1007 58 rfl
theorem dL_law_1087 : decode cL_law 1087 = .ok (.iconst 3, 1) := dgt dbL_law_1007 59 rfl
theorem dL_law_1088 : decode cL_law 1088 = .ok (.iadd, 1) := dgt dbL_law_1007 60 rfl
theorem dL_law_1089 : decode cL_law 1089 = .ok (.iaload, 1) := dgt dbL_law_1007 61 rfl
theorem dL_law_1090 : decode cL_law 1090 = .ok (.aload_n 0, 1) := dgt dbL_law_1007 62 rfl
theorem dL_law_1091 : decode cL_law 1091 = .ok (.iload 5, 2) := dgt dbL_law_1007 63 rfl
theorem dL_law_1093 : decode cL_law 1093 = .ok (.iconst 4, 1) := dgt dbL_law_1007 64 rfl
theorem dL_law_1094 : decode cL_law 1094 = .ok (.iadd, 1) := dgt dbL_law_1007 65 rfl
theorem dL_law_1095 : decode cL_law 1095 = .ok (.iaload, 1) := dgt dbL_law_1007 66 rfl
theorem dL_law_1096 : decode cL_law 1096 = .ok (.invokevirtual 284, 3) := dgt dbL_law_1007 67 rfl
theorem dL_law_1099 : decode cL_law 1099 = .ok (.istore 7, 2) := dgt dbL_law_1007 68 rfl
theorem dL_law_1101 : decode cL_law 1101 = .ok (.goto 1823, 3) := dgt dbL_law_1007 69 rfl
theorem dL_law_1104 : decode cL_law 1104 = .ok (.aload_n 1, 1) := dgt dbL_law_1007 70 rfl
theorem dL_law_1105 : decode cL_law 1105 = .ok (.aload_n 0, 1) := dgt dbL_law_1007 71 rfl
theorem dL_law_1106 : decode cL_law 1106 = .ok (.iload 5, 2) := dgt dbL_law_1007 72 rfl
theorem dL_law_1108 : decode cL_law 1108 = .ok (.iconst 1, 1) := dgt dbL_law_1007 73 rfl
theorem dL_law_1109 : decode cL_law 1109 = .ok (.iadd, 1) := dgt dbL_law_1007 74 rfl
theorem dL_law_1110 : decode cL_law 1110 = .ok (.iaload, 1) := dgt dbL_law_1007 75 rfl
theorem dL_law_1111 : decode cL_law 1111 = .ok (.aload_n 3, 1) := dgt dbL_law_1007 76 rfl
theorem dL_law_1112 : decode cL_law 1112 = .ok (.invokestatic 285, 3) := dgt dbL_law_1007 77 rfl
theorem dL_law_1115 : decode cL_law 1115 = .ok (.istore 6, 2) := dgt dbL_law_1007 78 rfl
theorem dL_law_1117 : decode cL_law 1117 = .ok (.aload_n 2, 1) := dgt dbL_law_1007 79 rfl
def dlL_law_1118 : List (Nat × Instr × Nat) := [(1118, .aload_n 0, 1), (1119, .iload 5, 2), (1121, .iconst 1, 1), (1122, .iadd, 1), (1123, .iaload, 1), (1124, .invokevirtual 287, 3), (1127, .istore 7, 2), (1129, .goto 1795, 3), (1132, .aload_n 1, 1), (1133, .aload_n 0, 1), (1134, .iload 5, 2), (1136, .iconst 1, 1), (1137, .iadd, 1), (1138, .iaload, 1), (1139, .aload_n 0, 1), (1140, .iload 5, 2), (1142, .iconst 2, 1), (1143, .iadd, 1), (1144, .iaload, 1), (1145, .aload_n 0, 1), (1146, .iload 5, 2), (1148, .iconst 3, 1), (1149, .iadd, 1), (1150, .iaload, 1), (1151, .aload_n 3, 1), (1152, .invokestatic 288, 3), (1155, .istore 6, 2), (1157, .aload_n 2, 1), (1158, .aload_n 0, 1), (1159, .iload 5, 2), (1161, .iconst 1, 1), (1162, .iadd, 1), (1163, .iaload, 1), (1164, .aload_n 0, 1), (1165, .iload 5, 2), (1167, .iconst 2, 1), (1168, .iadd, 1), (1169, .iaload, 1), (1170, .aload_n 0, 1), (1171, .iload 5, 2), (1173, .iconst 3, 1), (1174, .iadd, 1), (1175, .iaload, 1), (1176, .invokevirtual 290, 3), (1179, .istore 7, 2), (1181, .goto 1743, 3), (1184, .aload_n 1, 1), (1185, .aload_n 0, 1), (1186, .iload 5, 2), (1188, .iconst 1, 1), (1189, .iadd, 1), (1190, .iaload, 1), (1191, .aload_n 0, 1), (1192, .iload 5, 2), (1194, .iconst 2, 1), (1195, .iadd, 1), (1196, .iaload, 1), (1197, .aload_n 0, 1), (1198, .iload 5, 2), (1200, .iconst 3, 1), (1201, .iadd, 1), (1202, .iaload, 1), (1203, .aload_n 3, 1), (1204, .invokestatic 291, 3), (1207, .istore 6, 2), (1209, .aload_n 2, 1), (1210, .aload_n 0, 1), (1211, .iload 5, 2), (1213, .iconst 1, 1), (1214, .iadd, 1), (1215, .iaload, 1), (1216, .aload_n 0, 1), (1217, .iload 5, 2), (1219, .iconst 2, 1), (1220, .iadd, 1), (1221, .iaload, 1), (1222, .aload_n 0, 1), (1223, .iload 5, 2), (1225, .iconst 3, 1), (1226, .iadd, 1)]
theorem dbL_law_1118 : ∀ q ∈ dlL_law_1118, decode cL_law q.1 = .ok q.2 := by decide +kernel
theorem dL_law_1118 : decode cL_law 1118 = .ok (.aload_n 0, 1) := dgt dbL_law_1118 0 rfl
theorem dL_law_1119 : decode cL_law 1119 = .ok (.iload 5, 2) := dgt dbL_law_1118 1 rfl
theorem dL_law_1121 : decode cL_law 1121 = .ok (.iconst 1, 1) := dgt dbL_law_1118 2 rfl
theorem dL_law_1122 : decode cL_law 1122 = .ok (.iadd, 1) := dgt dbL_law_1118 3 rfl
theorem dL_law_1123 : decode cL_law 1123 = .ok (.iaload, 1) := dgt dbL_law_1118 4 rfl
theorem dL_law_1124 : decode cL_law 1124 = .ok (.invokevirtual 287, 3) := dgt dbL_law_1118 5 rfl
theorem dL_law_1127 : decode cL_law 1127 = .ok (.istore 7, 2) := dgt dbL_law_1118 6 rfl
theorem dL_law_1129 : decode cL_law 1129 = .ok (.goto 1795, 3) := dgt dbL_law_1118 7 rfl
theorem dL_law_1132 : decode cL_law 1132 = .ok (.aload_n 1, 1) := dgt dbL_law_1118 8 rfl
theorem dL_law_1133 : decode cL_law 1133 = .ok (.aload_n 0, 1) := dgt dbL_law_1118 9 rfl
theorem dL_law_1134 : decode cL_law 1134 = .ok (.iload 5, 2) := dgt dbL_law_1118 10 rfl
theorem dL_law_1136 : decode cL_law 1136 = .ok (.iconst 1, 1) := dgt dbL_law_1118 11 rfl
theorem dL_law_1137 : decode cL_law 1137 = .ok (.iadd, 1) := dgt dbL_law_1118 12 rfl
theorem dL_law_1138 : decode cL_law 1138 = .ok (.iaload, 1) := dgt dbL_law_1118 13 rfl
theorem dL_law_1139 : decode cL_law 1139 = .ok (.aload_n 0, 1) := dgt dbL_law_1118 14 rfl
theorem dL_law_1140 : decode cL_law 1140 = .ok (.iload 5, 2) := dgt dbL_law_1118 15 rfl
theorem dL_law_1142 : decode cL_law 1142 = .ok (.iconst 2, 1) := dgt dbL_law_1118 16 rfl
theorem dL_law_1143 : decode cL_law 1143 = .ok (.iadd, 1) := dgt dbL_law_1118 17 rfl
theorem dL_law_1144 : decode cL_law 1144 = .ok (.iaload, 1) := dgt dbL_law_1118 18 rfl
theorem dL_law_1145 : decode cL_law 1145 = .ok (.aload_n 0, 1) := dgt dbL_law_1118 19 rfl
theorem dL_law_1146 : decode cL_law 1146 = .ok (.iload 5, 2) := dgt dbL_law_1118 20 rfl
theorem dL_law_1148 : decode cL_law 1148 = .ok (.iconst 3, 1) := dgt dbL_law_1118 21 rfl
theorem dL_law_1149 : decode cL_law 1149 = .ok (.iadd, 1) := dgt dbL_law_1118 22 rfl
theorem dL_law_1150 : decode cL_law 1150 = .ok (.iaload, 1) := dgt dbL_law_1118 23 rfl
theorem dL_law_1151 : decode cL_law 1151 = .ok (.aload_n 3, 1) := dgt dbL_law_1118 24 rfl
theorem dL_law_1152 : decode cL_law 1152 = .ok (.invokestatic 288, 3) := dgt dbL_law_1118 25 rfl
theorem dL_law_1155 : decode cL_law 1155 = .ok (.istore 6, 2) := dgt dbL_law_1118 26 rfl
theorem dL_law_1157 : decode cL_law 1157 = .ok (.aload_n 2, 1) := dgt dbL_law_1118 27 rfl
theorem dL_law_1158 : decode cL_law 1158 = .ok (.aload_n 0, 1) := dgt dbL_law_1118 28 rfl
theorem dL_law_1159 : decode cL_law 1159 = .ok (.iload 5, 2) := dgt dbL_law_1118 29 rfl
theorem dL_law_1161 : decode cL_law 1161 = .ok (.iconst 1, 1) := dgt dbL_law_1118 30 rfl
theorem dL_law_1162 : decode cL_law 1162 = .ok (.iadd, 1) := dgt dbL_law_1118 31 rfl
theorem dL_law_1163 : decode cL_law 1163 = .ok (.iaload, 1) := dgt dbL_law_1118 32 rfl
theorem dL_law_1164 : decode cL_law 1164 = .ok (.aload_n 0, 1) := dgt dbL_law_1118 33 rfl
theorem dL_law_1165 : decode cL_law 1165 = .ok (.iload 5, 2) := dgt dbL_law_1118 34 rfl
theorem dL_law_1167 : decode cL_law 1167 = .ok (.iconst 2, 1) := dgt dbL_law_1118 35 rfl
theorem dL_law_1168 : decode cL_law 1168 = .ok (.iadd, 1) := dgt dbL_law_1118 36 rfl
theorem dL_law_1169 : decode cL_law 1169 = .ok (.iaload, 1) := dgt dbL_law_1118 37 rfl
theorem dL_law_1170 : decode cL_law 1170 = .ok (.aload_n 0, 1) := dgt dbL_law_1118 38 rfl
theorem dL_law_1171 : decode cL_law 1171 = .ok (.iload 5, 2) := dgt dbL_law_1118 39 rfl
theorem dL_law_1173 : decode cL_law 1173 = .ok (.iconst 3, 1) := dgt dbL_law_1118 40 rfl
theorem dL_law_1174 : decode cL_law 1174 = .ok (.iadd, 1) := dgt dbL_law_1118 41 rfl
theorem dL_law_1175 : decode cL_law 1175 = .ok (.iaload, 1) := dgt dbL_law_1118 42 rfl
theorem dL_law_1176 : decode cL_law 1176 = .ok (.invokevirtual 290, 3) := dgt dbL_law_1118 43 rfl
theorem dL_law_1179 : decode cL_law 1179 = .ok (.istore 7, 2) := dgt dbL_law_1118 44 rfl
theorem dL_law_1181 : decode cL_law 1181 = .ok (.goto 1743, 3) := dgt dbL_law_1118 45 rfl
theorem dL_law_1184 : decode cL_law 1184 = .ok (.aload_n 1, 1) := dgt dbL_law_1118 46 rfl
theorem dL_law_1185 : decode cL_law 1185 = .ok (.aload_n 0, 1) := dgt dbL_law_1118 47 rfl
theorem dL_law_1186 : decode cL_law 1186 = .ok (.iload 5, 2) := dgt dbL_law_1118 48 rfl
theorem dL_law_1188 : decode cL_law 1188 = .ok (.iconst 1, 1) := dgt dbL_law_1118 49 rfl
theorem dL_law_1189 : decode cL_law 1189 = .ok (.iadd, 1) := dgt dbL_law_1118 50 rfl
theorem dL_law_1190 : decode cL_law 1190 = .ok (.iaload, 1) := dgt dbL_law_1118 51 rfl
theorem dL_law_1191 : decode cL_law 1191 = .ok (.aload_n 0, 1) := dgt dbL_law_1118 52 rfl
theorem dL_law_1192 : decode cL_law 1192 = .ok (.iload 5, 2) := dgt dbL_law_1118 53 rfl
theorem dL_law_1194 : decode cL_law 1194 = .ok (.iconst 2, 1) := dgt dbL_law_1118 54 rfl
theorem dL_law_1195 : decode cL_law 1195 = .ok (.iadd, 1) := dgt dbL_law_1118 55 rfl
theorem dL_law_1196 : decode cL_law 1196 = .ok (.iaload, 1) := dgt dbL_law_1118 56 rfl
theorem dL_law_1197 : decode cL_law 1197 = .ok (.aload_n 0, 1) := dgt dbL_law_1118 57 rfl
theorem dL_law_1198 : decode cL_law 1198 = .ok (.iload 5, 2) := dgt dbL_law_1118 58 rfl
theorem dL_law_1200 : decode cL_law 1200 = .ok (.iconst 3, 1) := dgt dbL_law_1118 59 rfl
theorem dL_law_1201 : decode cL_law 1201 = .ok (.iadd, 1) := dgt dbL_law_1118 60 rfl
theorem dL_law_1202 : decode cL_law 1202 = .ok (.iaload, 1) := dgt dbL_law_1118 61 rfl
theorem dL_law_1203 : decode cL_law 1203 = .ok (.aload_n 3, 1) := dgt dbL_law_1118 62 rfl
theorem dL_law_1204 : decode cL_law 1204 = .ok (.invokestatic 291, 3) := dgt dbL_law_1118 63 rfl
theorem dL_law_1207 : decode cL_law 1207 = .ok (.istore 6, 2) := dgt dbL_law_1118 64 rfl
theorem dL_law_1209 : decode cL_law 1209 = .ok (.aload_n 2, 1) := dgt dbL_law_1118 65 rfl
theorem dL_law_1210 : decode cL_law 1210 = .ok (.aload_n 0, 1) := dgt dbL_law_1118 66 rfl
theorem dL_law_1211 : decode cL_law 1211 = .ok (.iload 5, 2) := dgt dbL_law_1118 67 rfl
theorem dL_law_1213 : decode cL_law 1213 = .ok (.iconst 1, 1) := dgt dbL_law_1118 68 rfl
theorem dL_law_1214 : decode cL_law 1214 = .ok (.iadd, 1) := dgt dbL_law_1118 69 rfl
theorem dL_law_1215 : decode cL_law 1215 = .ok (.iaload, 1) := dgt dbL_law_1118 70 rfl
theorem dL_law_1216 : decode cL_law 1216 = .ok (.aload_n 0, 1) := dgt dbL_law_1118 71 rfl
theorem dL_law_1217 : decode cL_law 1217 = .ok (.iload 5, 2) := dgt dbL_law_1118 72 rfl
theorem dL_law_1219 : decode cL_law 1219 = .ok (.iconst 2, 1) := dgt dbL_law_1118 73 rfl
theorem dL_law_1220 : decode cL_law 1220 = .ok (.iadd, 1) := dgt dbL_law_1118 74 rfl
theorem dL_law_1221 : decode cL_law 1221 = .ok (.iaload, 1) := dgt dbL_law_1118 75 rfl
theorem dL_law_1222 : decode cL_law 1222 = .ok (.aload_n 0, 1) := dgt dbL_law_1118 76 rfl
theorem dL_law_1223 : decode cL_law 1223 = .ok (.iload 5, 2) := dgt dbL_law_1118 77 rfl
theorem dL_law_1225 : decode cL_law 1225 = .ok (.iconst 3, 1) := dgt dbL_law_1118 78 rfl
theorem dL_law_1226 : decode cL_law 1226 = .ok (.iadd, 1) := dgt dbL_law_1118 79 rfl
def dlL_law_1227 : List (Nat × Instr × Nat) := [(1227, .iaload, 1), (1228, .invokevirtual 293, 3), (1231, .istore 7, 2), (1233, .goto 1691, 3), (1236, .aload_n 1, 1), (1237, .aload_n 0, 1), (1238, .iload 5, 2), (1240, .iconst 1, 1), (1241, .iadd, 1), (1242, .iaload, 1), (1243, .aload_n 0, 1), (1244, .iload 5, 2), (1246, .iconst 2, 1), (1247, .iadd, 1), (1248, .iaload, 1), (1249, .aload_n 3, 1), (1250, .invokestatic 294, 3), (1253, .istore 6, 2), (1255, .aload_n 2, 1), (1256, .aload_n 0, 1), (1257, .iload 5, 2), (1259, .iconst 1, 1), (1260, .iadd, 1), (1261, .iaload, 1), (1262, .aload_n 0, 1), (1263, .iload 5, 2), (1265, .iconst 2, 1), (1266, .iadd, 1), (1267, .iaload, 1), (1268, .invokevirtual 296, 3), (1271, .istore 7, 2), (1273, .goto 1651, 3), (1276, .aload_n 1, 1), (1277, .aload_n 0, 1), (1278, .iload 5, 2), (1280, .iconst 1, 1), (1281, .iadd, 1), (1282, .iaload, 1), (1283, .aload_n 0, 1), (1284, .iload 5, 2), (1286, .iconst 2, 1), (1287, .iadd, 1), (1288, .iaload, 1), (1289, .aload_n 0, 1), (1290, .iload 5, 2), (1292, .iconst 3, 1), (1293, .iadd, 1), (1294, .iaload, 1), (1295, .aload_n 0, 1), (1296, .iload 5, 2), (1298, .iconst 4, 1), (1299, .iadd, 1), (1300, .iaload, 1), (1301, .aload_n 3, 1), (1302, .invokestatic 297, 3), (1305, .istore 6, 2), (1307, .aload_n 2, 1), (1308, .aload_n 0, 1), (1309, .iload 5, 2), (1311, .iconst 1, 1), (1312, .iadd, 1), (1313, .iaload, 1), (1314, .aload_n 0, 1), (1315, .iload 5, 2), (1317, .iconst 2, 1), (1318, .iadd, 1), (1319, .iaload, 1), (1320, .aload_n 0, 1), (1321, .iload 5, 2), (1323, .iconst 3, 1), (1324, .iadd, 1), (1325, .iaload, 1), (1326, .aload_n 0, 1), (1327, .iload 5, 2), (1329, .iconst 4, 1), (1330, .iadd, 1), (1331, .iaload, 1), (1332, .invokevirtual 299, 3), (1335, .istore 7, 2), (1337, .goto 1587, 3)]
theorem dbL_law_1227 : ∀ q ∈ dlL_law_1227, decode cL_law q.1 = .ok q.2 := by decide +kernel
theorem dL_law_1227 : decode cL_law 1227 = .ok (.iaload, 1) := dgt dbL_law_1227 0 rfl
theorem dL_law_1228 : decode cL_law 1228 = .ok (.invokevirtual 293, 3) := dgt dbL_law_1227 1 rfl
theorem dL_law_1231 : decode cL_law 1231 = .ok (.istore 7, 2) := dgt dbL_law_1227 2 rfl
theorem dL_law_1233 : decode cL_law 1233 = .ok (.goto 1691, 3) := dgt dbL_law_1227 3 rfl
theorem dL_law_1236 : decode cL_law 1236 = .ok (.aload_n 1, 1) := dgt dbL_law_1227 4 rfl
theorem dL_law_1237 : decode cL_law 1237 = .ok (.aload_n 0, 1) := dgt dbL_law_1227 5 rfl
theorem dL_law_1238 : decode cL_law 1238 = .ok (.iload 5, 2) := dgt dbL_law_1227 6 rfl
theorem dL_law_1240 : decode cL_law 1240 = .ok (.iconst 1, 1) := dgt dbL_law_1227 7 rfl
theorem dL_law_1241 : decode cL_law 1241 = .ok (.iadd, 1) := dgt dbL_law_1227 8 rfl
theorem dL_law_1242 : decode cL_law 1242 = .ok (.iaload, 1) := dgt dbL_law_1227 9 rfl
theorem dL_law_1243 : decode cL_law 1243 = .ok (.aload_n 0, 1) := dgt dbL_law_1227 10 rfl
theorem dL_law_1244 : decode cL_law 1244 = .ok (.iload 5, 2) := dgt dbL_law_1227 11 rfl
theorem dL_law_1246 : decode cL_law 1246 = .ok (.iconst 2, 1) := dgt dbL_law_1227 12 rfl
theorem dL_law_1247 : decode cL_law 1247 = .ok (.iadd, 1) := dgt dbL_law_1227 13 rfl
theorem dL_law_1248 : decode cL_law 1248 = .ok (.iaload, 1) := dgt dbL_law_1227 14 rfl
theorem dL_law_1249 : decode cL_law 1249 = .ok (.aload_n 3, 1) := dgt dbL_law_1227 15 rfl
theorem dL_law_1250 : decode cL_law 1250 = .ok (.invokestatic 294, 3) := dgt dbL_law_1227 16 rfl
theorem dL_law_1253 : decode cL_law 1253 = .ok (.istore 6, 2) := dgt dbL_law_1227 17 rfl
theorem dL_law_1255 : decode cL_law 1255 = .ok (.aload_n 2, 1) := dgt dbL_law_1227 18 rfl
theorem dL_law_1256 : decode cL_law 1256 = .ok (.aload_n 0, 1) := dgt dbL_law_1227 19 rfl
theorem dL_law_1257 : decode cL_law 1257 = .ok (.iload 5, 2) := dgt dbL_law_1227 20 rfl
theorem dL_law_1259 : decode cL_law 1259 = .ok (.iconst 1, 1) := dgt dbL_law_1227 21 rfl
theorem dL_law_1260 : decode cL_law 1260 = .ok (.iadd, 1) := dgt dbL_law_1227 22 rfl
theorem dL_law_1261 : decode cL_law 1261 = .ok (.iaload, 1) := dgt dbL_law_1227 23 rfl
theorem dL_law_1262 : decode cL_law 1262 = .ok (.aload_n 0, 1) := dgt dbL_law_1227 24 rfl
theorem dL_law_1263 : decode cL_law 1263 = .ok (.iload 5, 2) := dgt dbL_law_1227 25 rfl
theorem dL_law_1265 : decode cL_law 1265 = .ok (.iconst 2, 1) := dgt dbL_law_1227 26 rfl
theorem dL_law_1266 : decode cL_law 1266 = .ok (.iadd, 1) := dgt dbL_law_1227 27 rfl
theorem dL_law_1267 : decode cL_law 1267 = .ok (.iaload, 1) := dgt dbL_law_1227 28 rfl
theorem dL_law_1268 : decode cL_law 1268 = .ok (.invokevirtual 296, 3) := dgt dbL_law_1227 29 rfl
theorem dL_law_1271 : decode cL_law 1271 = .ok (.istore 7, 2) := dgt dbL_law_1227 30 rfl
theorem dL_law_1273 : decode cL_law 1273 = .ok (.goto 1651, 3) := dgt dbL_law_1227 31 rfl
theorem dL_law_1276 : decode cL_law 1276 = .ok (.aload_n 1, 1) := dgt dbL_law_1227 32 rfl
theorem dL_law_1277 : decode cL_law 1277 = .ok (.aload_n 0, 1) := dgt dbL_law_1227 33 rfl
theorem dL_law_1278 : decode cL_law 1278 = .ok (.iload 5, 2) := dgt dbL_law_1227 34 rfl
theorem dL_law_1280 : decode cL_law 1280 = .ok (.iconst 1, 1) := dgt dbL_law_1227 35 rfl
theorem dL_law_1281 : decode cL_law 1281 = .ok (.iadd, 1) := dgt dbL_law_1227 36 rfl
theorem dL_law_1282 : decode cL_law 1282 = .ok (.iaload, 1) := dgt dbL_law_1227 37 rfl
theorem dL_law_1283 : decode cL_law 1283 = .ok (.aload_n 0, 1) := dgt dbL_law_1227 38 rfl
theorem dL_law_1284 : decode cL_law 1284 = .ok (.iload 5, 2) := dgt dbL_law_1227 39 rfl
theorem dL_law_1286 : decode cL_law 1286 = .ok (.iconst 2, 1) := dgt dbL_law_1227 40 rfl
theorem dL_law_1287 : decode cL_law 1287 = .ok (.iadd, 1) := dgt dbL_law_1227 41 rfl
theorem dL_law_1288 : decode cL_law 1288 = .ok (.iaload, 1) := dgt dbL_law_1227 42 rfl
theorem dL_law_1289 : decode cL_law 1289 = .ok (.aload_n 0, 1) := dgt dbL_law_1227 43 rfl
theorem dL_law_1290 : decode cL_law 1290 = .ok (.iload 5, 2) := dgt dbL_law_1227 44 rfl
theorem dL_law_1292 : decode cL_law 1292 = .ok (.iconst 3, 1) := dgt dbL_law_1227 45 rfl
theorem dL_law_1293 : decode cL_law 1293 = .ok (.iadd, 1) := dgt dbL_law_1227 46 rfl
theorem dL_law_1294 : decode cL_law 1294 = .ok (.iaload, 1) := dgt dbL_law_1227 47 rfl
theorem dL_law_1295 : decode cL_law 1295 = .ok (.aload_n 0, 1) := dgt dbL_law_1227 48 rfl
theorem dL_law_1296 : decode cL_law 1296 = .ok (.iload 5, 2) := dgt dbL_law_1227 49 rfl
theorem dL_law_1298 : decode cL_law 1298 = .ok (.iconst 4, 1) := dgt dbL_law_1227 50 rfl
theorem dL_law_1299 : decode cL_law 1299 = .ok (.iadd, 1) := dgt dbL_law_1227 51 rfl
theorem dL_law_1300 : decode cL_law 1300 = .ok (.iaload, 1) := dgt dbL_law_1227 52 rfl
theorem dL_law_1301 : decode cL_law 1301 = .ok (.aload_n 3, 1) := dgt dbL_law_1227 53 rfl
theorem dL_law_1302 : decode cL_law 1302 = .ok (.invokestatic 297, 3) := dgt dbL_law_1227 54 rfl
theorem dL_law_1305 : decode cL_law 1305 = .ok (.istore 6, 2) := dgt dbL_law_1227 55 rfl
theorem dL_law_1307 : decode cL_law 1307 = .ok (.aload_n 2, 1) := dgt dbL_law_1227 56 rfl
theorem dL_law_1308 : decode cL_law 1308 = .ok (.aload_n 0, 1) := dgt dbL_law_1227 57 rfl
theorem dL_law_1309 : decode cL_law 1309 = .ok (.iload 5, 2) := dgt dbL_law_1227 58 rfl
theorem dL_law_1311 : decode cL_law 1311 = .ok (.iconst 1, 1) := dgt dbL_law_1227 59 rfl
theorem dL_law_1312 : decode cL_law 1312 = .ok (.iadd, 1) := dgt dbL_law_1227 60 rfl
theorem dL_law_1313 : decode cL_law 1313 = .ok (.iaload, 1) := dgt dbL_law_1227 61 rfl
theorem dL_law_1314 : decode cL_law 1314 = .ok (.aload_n 0, 1) := dgt dbL_law_1227 62 rfl
theorem dL_law_1315 : decode cL_law 1315 = .ok (.iload 5, 2) := dgt dbL_law_1227 63 rfl
theorem dL_law_1317 : decode cL_law 1317 = .ok (.iconst 2, 1) := dgt dbL_law_1227 64 rfl
theorem dL_law_1318 : decode cL_law 1318 = .ok (.iadd, 1) := dgt dbL_law_1227 65 rfl
theorem dL_law_1319 : decode cL_law 1319 = .ok (.iaload, 1) := dgt dbL_law_1227 66 rfl
theorem dL_law_1320 : decode cL_law 1320 = .ok (.aload_n 0, 1) := dgt dbL_law_1227 67 rfl
theorem dL_law_1321 : decode cL_law 1321 = .ok (.iload 5, 2) := dgt dbL_law_1227 68 rfl
theorem dL_law_1323 : decode cL_law 1323 = .ok (.iconst 3, 1) := dgt dbL_law_1227 69 rfl
theorem dL_law_1324 : decode cL_law 1324 = .ok (.iadd, 1) := dgt dbL_law_1227 70 rfl
theorem dL_law_1325 : decode cL_law 1325 = .ok (.iaload, 1) := dgt dbL_law_1227 71 rfl
theorem dL_law_1326 : decode cL_law 1326 = .ok (.aload_n 0, 1) := dgt dbL_law_1227 72 rfl
theorem dL_law_1327 : decode cL_law 1327 = .ok (.iload 5, 2) := dgt dbL_law_1227 73 rfl
theorem dL_law_1329 : decode cL_law 1329 = .ok (.iconst 4, 1) := dgt dbL_law_1227 74 rfl
theorem dL_law_1330 : decode cL_law 1330 = .ok (.iadd, 1) := dgt dbL_law_1227 75 rfl
theorem dL_law_1331 : decode cL_law 1331 = .ok (.iaload, 1) := dgt dbL_law_1227 76 rfl
theorem dL_law_1332 : decode cL_law 1332 = .ok (.invokevirtual 299, 3) := dgt dbL_law_1227 77 rfl
theorem dL_law_1335 : decode cL_law 1335 = .ok (.istore 7, 2) := dgt dbL_law_1227 78 rfl
theorem dL_law_1337 : decode cL_law 1337 = .ok (.goto 1587, 3) := dgt dbL_law_1227 79 rfl
def dlL_law_1340 : List (Nat × Instr × Nat) := [(1340, .aload_n 1, 1), (1341, .aload_n 0, 1), (1342, .iload 5, 2), (1344, .iconst 1, 1), (1345, .iadd, 1), (1346, .iaload, 1), (1347, .aload_n 0, 1), (1348, .iload 5, 2), (1350, .iconst 2, 1), (1351, .iadd, 1), (1352, .iaload, 1), (1353, .aload_n 0, 1), (1354, .iload 5, 2), (1356, .iconst 3, 1), (1357, .iadd, 1), (1358, .iaload, 1), (1359, .aload_n 3, 1), (1360, .invokestatic 300, 3), (1363, .istore 6, 2), (1365, .aload_n 2, 1), (1366, .aload_n 0, 1), (1367, .iload 5, 2), (1369, .iconst 1, 1), (1370, .iadd, 1), (1371, .iaload, 1), (1372, .aload_n 0, 1), (1373, .iload 5, 2), (1375, .iconst 2, 1), (1376, .iadd, 1), (1377, .iaload, 1), (1378, .aload_n 0, 1), (1379, .iload 5, 2), (1381, .iconst 3, 1), (1382, .iadd, 1), (1383, .iaload, 1), (1384, .invokevirtual 302, 3), (1387, .istore 7, 2), (1389, .goto 1535, 3), (1392, .aload_n 1, 1), (1393, .aload_n 0, 1), (1394, .iload 5, 2), (1396, .iconst 1, 1), (1397, .iadd, 1), (1398, .iaload, 1), (1399, .aload_n 0, 1), (1400, .iload 5, 2), (1402, .iconst 2, 1), (1403, .iadd, 1), (1404, .iaload, 1), (1405, .aload_n 0, 1), (1406, .iload 5, 2), (1408, .iconst 3, 1), (1409, .iadd, 1), (1410, .iaload, 1), (1411, .aload_n 3, 1), (1412, .invokestatic 303, 3), (1415, .istore 6, 2), (1417, .aload_n 2, 1), (1418, .aload_n 0, 1), (1419, .iload 5, 2), (1421, .iconst 1, 1), (1422, .iadd, 1), (1423, .iaload, 1), (1424, .aload_n 0, 1), (1425, .iload 5, 2), (1427, .iconst 2, 1), (1428, .iadd, 1), (1429, .iaload, 1), (1430, .aload_n 0, 1), (1431, .iload 5, 2), (1433, .iconst 3, 1), (1434, .iadd, 1), (1435, .iaload, 1), (1436, .invokevirtual 305, 3), (1439, .istore 7, 2), (1441, .goto 1483, 3), (1444, .aload_n 1, 1), (1445, .aload_n 0, 1), (1446, .iload 5, 2), (1448, .iconst 1, 1)]
theorem dbL_law_1340 : ∀ q ∈ dlL_law_1340, decode cL_law q.1 = .ok q.2 := by decide +kernel
theorem dL_law_1340 : decode cL_law 1340 = .ok (.aload_n 1, 1) := dgt dbL_law_1340 0 rfl
theorem dL_law_1341 : decode cL_law 1341 = .ok (.aload_n 0, 1) := dgt dbL_law_1340 1 rfl
theorem dL_law_1342 : decode cL_law 1342 = .ok (.iload 5, 2) := dgt dbL_law_1340 2 rfl
theorem dL_law_1344 : decode cL_law 1344 = .ok (.iconst 1, 1) := dgt dbL_law_1340 3 rfl
theorem dL_law_1345 : decode cL_law 1345 = .ok (.iadd, 1) := dgt dbL_law_1340 4 rfl
theorem dL_law_1346 : decode cL_law 1346 = .ok (.iaload, 1) := dgt dbL_law_1340 5 rfl
theorem dL_law_1347 : decode cL_law 1347 = .ok (.aload_n 0, 1) := dgt dbL_law_1340 6 rfl
theorem dL_law_1348 : decode cL_law 1348 = .ok (.iload 5, 2) := dgt dbL_law_1340 7 rfl
theorem dL_law_1350 : decode cL_law 1350 = .ok (.iconst 2, 1) := dgt dbL_law_1340 8 rfl
theorem dL_law_1351 : decode cL_law 1351 = .ok (.iadd, 1) := dgt dbL_law_1340 9 rfl
theorem dL_law_1352 : decode cL_law 1352 = .ok (.iaload, 1) := dgt dbL_law_1340 10 rfl
theorem dL_law_1353 : decode cL_law 1353 = .ok (.aload_n 0, 1) := dgt dbL_law_1340 11 rfl
theorem dL_law_1354 : decode cL_law 1354 = .ok (.iload 5, 2) := dgt dbL_law_1340 12 rfl
theorem dL_law_1356 : decode cL_law 1356 = .ok (.iconst 3, 1) := dgt dbL_law_1340 13 rfl
theorem dL_law_1357 : decode cL_law 1357 = .ok (.iadd, 1) := dgt dbL_law_1340 14 rfl
theorem dL_law_1358 : decode cL_law 1358 = .ok (.iaload, 1) := dgt dbL_law_1340 15 rfl
theorem dL_law_1359 : decode cL_law 1359 = .ok (.aload_n 3, 1) := dgt dbL_law_1340 16 rfl
theorem dL_law_1360 : decode cL_law 1360 = .ok (.invokestatic 300, 3) := dgt dbL_law_1340 17 rfl
theorem dL_law_1363 : decode cL_law 1363 = .ok (.istore 6, 2) := dgt dbL_law_1340 18 rfl
theorem dL_law_1365 : decode cL_law 1365 = .ok (.aload_n 2, 1) := dgt dbL_law_1340 19 rfl
theorem dL_law_1366 : decode cL_law 1366 = .ok (.aload_n 0, 1) := dgt dbL_law_1340 20 rfl
theorem dL_law_1367 : decode cL_law 1367 = .ok (.iload 5, 2) := dgt dbL_law_1340 21 rfl
theorem dL_law_1369 : decode cL_law 1369 = .ok (.iconst 1, 1) := dgt dbL_law_1340 22 rfl
theorem dL_law_1370 : decode cL_law 1370 = .ok (.iadd, 1) := dgt dbL_law_1340 23 rfl
theorem dL_law_1371 : decode cL_law 1371 = .ok (.iaload, 1) := dgt dbL_law_1340 24 rfl
theorem dL_law_1372 : decode cL_law 1372 = .ok (.aload_n 0, 1) := dgt dbL_law_1340 25 rfl
theorem dL_law_1373 : decode cL_law 1373 = .ok (.iload 5, 2) := dgt dbL_law_1340 26 rfl
theorem dL_law_1375 : decode cL_law 1375 = .ok (.iconst 2, 1) := dgt dbL_law_1340 27 rfl
theorem dL_law_1376 : decode cL_law 1376 = .ok (.iadd, 1) := dgt dbL_law_1340 28 rfl
theorem dL_law_1377 : decode cL_law 1377 = .ok (.iaload, 1) := dgt dbL_law_1340 29 rfl
theorem dL_law_1378 : decode cL_law 1378 = .ok (.aload_n 0, 1) := dgt dbL_law_1340 30 rfl
theorem dL_law_1379 : decode cL_law 1379 = .ok (.iload 5, 2) := dgt dbL_law_1340 31 rfl
theorem dL_law_1381 : decode cL_law 1381 = .ok (.iconst 3, 1) := dgt dbL_law_1340 32 rfl
theorem dL_law_1382 : decode cL_law 1382 = .ok (.iadd, 1) := dgt dbL_law_1340 33 rfl
theorem dL_law_1383 : decode cL_law 1383 = .ok (.iaload, 1) := dgt dbL_law_1340 34 rfl
theorem dL_law_1384 : decode cL_law 1384 = .ok (.invokevirtual 302, 3) := dgt dbL_law_1340 35 rfl
theorem dL_law_1387 : decode cL_law 1387 = .ok (.istore 7, 2) := dgt dbL_law_1340 36 rfl
theorem dL_law_1389 : decode cL_law 1389 = .ok (.goto 1535, 3) := dgt dbL_law_1340 37 rfl
theorem dL_law_1392 : decode cL_law 1392 = .ok (.aload_n 1, 1) := dgt dbL_law_1340 38 rfl
theorem dL_law_1393 : decode cL_law 1393 = .ok (.aload_n 0, 1) := dgt dbL_law_1340 39 rfl
theorem dL_law_1394 : decode cL_law 1394 = .ok (.iload 5, 2) := dgt dbL_law_1340 40 rfl
theorem dL_law_1396 : decode cL_law 1396 = .ok (.iconst 1, 1) := dgt dbL_law_1340 41 rfl
theorem dL_law_1397 : decode cL_law 1397 = .ok (.iadd, 1) := dgt dbL_law_1340 42 rfl
theorem dL_law_1398 : decode cL_law 1398 = .ok (.iaload, 1) := dgt dbL_law_1340 43 rfl
theorem dL_law_1399 : decode cL_law 1399 = .ok (.aload_n 0, 1) := dgt dbL_law_1340 44 rfl
theorem dL_law_1400 : decode cL_law 1400 = .ok (.iload 5, 2) := dgt dbL_law_1340 45 rfl
theorem dL_law_1402 : decode cL_law 1402 = .ok (.iconst 2, 1) := dgt dbL_law_1340 46 rfl
theorem dL_law_1403 : decode cL_law 1403 = .ok (.iadd, 1) := dgt dbL_law_1340 47 rfl
theorem dL_law_1404 : decode cL_law 1404 = .ok (.iaload, 1) := dgt dbL_law_1340 48 rfl
theorem dL_law_1405 : decode cL_law 1405 = .ok (.aload_n 0, 1) := dgt dbL_law_1340 49 rfl
theorem dL_law_1406 : decode cL_law 1406 = .ok (.iload 5, 2) := dgt dbL_law_1340 50 rfl
theorem dL_law_1408 : decode cL_law 1408 = .ok (.iconst 3, 1) := dgt dbL_law_1340 51 rfl
theorem dL_law_1409 : decode cL_law 1409 = .ok (.iadd, 1) := dgt dbL_law_1340 52 rfl
theorem dL_law_1410 : decode cL_law 1410 = .ok (.iaload, 1) := dgt dbL_law_1340 53 rfl
theorem dL_law_1411 : decode cL_law 1411 = .ok (.aload_n 3, 1) := dgt dbL_law_1340 54 rfl
theorem dL_law_1412 : decode cL_law 1412 = .ok (.invokestatic 303, 3) := dgt dbL_law_1340 55 rfl
theorem dL_law_1415 : decode cL_law 1415 = .ok (.istore 6, 2) := dgt dbL_law_1340 56 rfl
theorem dL_law_1417 : decode cL_law 1417 = .ok (.aload_n 2, 1) := dgt dbL_law_1340 57 rfl
theorem dL_law_1418 : decode cL_law 1418 = .ok (.aload_n 0, 1) := dgt dbL_law_1340 58 rfl
theorem dL_law_1419 : decode cL_law 1419 = .ok (.iload 5, 2) := dgt dbL_law_1340 59 rfl
theorem dL_law_1421 : decode cL_law 1421 = .ok (.iconst 1, 1) := dgt dbL_law_1340 60 rfl
theorem dL_law_1422 : decode cL_law 1422 = .ok (.iadd, 1) := dgt dbL_law_1340 61 rfl
theorem dL_law_1423 : decode cL_law 1423 = .ok (.iaload, 1) := dgt dbL_law_1340 62 rfl
theorem dL_law_1424 : decode cL_law 1424 = .ok (.aload_n 0, 1) := dgt dbL_law_1340 63 rfl
theorem dL_law_1425 : decode cL_law 1425 = .ok (.iload 5, 2) := dgt dbL_law_1340 64 rfl
theorem dL_law_1427 : decode cL_law 1427 = .ok (.iconst 2, 1) := dgt dbL_law_1340 65 rfl
theorem dL_law_1428 : decode cL_law 1428 = .ok (.iadd, 1) := dgt dbL_law_1340 66 rfl
theorem dL_law_1429 : decode cL_law 1429 = .ok (.iaload, 1) := dgt dbL_law_1340 67 rfl
theorem dL_law_1430 : decode cL_law 1430 = .ok (.aload_n 0, 1) := dgt dbL_law_1340 68 rfl
theorem dL_law_1431 : decode cL_law 1431 = .ok (.iload 5, 2) := dgt dbL_law_1340 69 rfl
theorem dL_law_1433 : decode cL_law 1433 = .ok (.iconst 3, 1) := dgt dbL_law_1340 70 rfl
theorem dL_law_1434 : decode cL_law 1434 = .ok (.iadd, 1) := dgt dbL_law_1340 71 rfl
theorem dL_law_1435 : decode cL_law 1435 = .ok (.iaload, 1) := dgt dbL_law_1340 72 rfl
theorem dL_law_1436 : decode cL_law 1436 = .ok (.invokevirtual 305, 3) := dgt dbL_law_1340 73 rfl
theorem dL_law_1439 : decode cL_law 1439 = .ok (.istore 7, 2) := dgt dbL_law_1340 74 rfl
theorem dL_law_1441 : decode cL_law 1441 = .ok (.goto 1483, 3) := dgt dbL_law_1340 75 rfl
theorem dL_law_1444 : decode cL_law 1444 = .ok (.aload_n 1, 1) := dgt dbL_law_1340 76 rfl
theorem dL_law_1445 : decode cL_law 1445 = .ok (.aload_n 0, 1) := dgt dbL_law_1340 77 rfl
theorem dL_law_1446 : decode cL_law 1446 = .ok (.iload 5, 2) := dgt dbL_law_1340 78 rfl
theorem dL_law_1448 : decode cL_law 1448 = .ok (.iconst 1, 1) := dgt dbL_law_1340 79 rfl
def dlL_law_1449 : List (Nat × Instr × Nat) := [(1449, .iadd, 1), (1450, .iaload, 1), (1451, .aload_n 0, 1), (1452, .iload 5, 2), (1454, .iconst 2, 1), (1455, .iadd, 1), (1456, .iaload, 1), (1457, .aload_n 3, 1), (1458, .invokestatic 306, 3), (1461, .istore 6, 2), (1463, .aload_n 2, 1), (1464, .aload_n 0, 1), (1465, .iload 5, 2), (1467, .iconst 1, 1), (1468, .iadd, 1), (1469, .iaload, 1), (1470, .aload_n 0, 1), (1471, .iload 5, 2), (1473, .iconst 2, 1), (1474, .iadd, 1), (1475, .iaload, 1), (1476, .invokevirtual 308, 3), (1479, .istore 7, 2), (1481, .goto 1443, 3), (1484, .aload_n 1, 1), (1485, .aload_n 0, 1), (1486, .iload 5, 2), (1488, .iconst 1, 1), (1489, .iadd, 1), (1490, .iaload, 1), (1491, .aload_n 3, 1), (1492, .invokestatic 309, 3), (1495, .istore 6, 2), (1497, .aload_n 2, 1), (1498, .aload_n 0, 1), (1499, .iload 5, 2), (1501, .iconst 1, 1), (1502, .iadd, 1), (1503, .iaload, 1), (1504, .invokevirtual 311, 3), (1507, .istore 7, 2), (1509, .goto 1415, 3), (1512, .aload_n 1, 1), (1513, .aload_n 0, 1), (1514, .iload 5, 2), (1516, .iconst 1, 1), (1517, .iadd, 1), (1518, .iaload, 1), (1519, .aload_n 0, 1), (1520, .iload 5, 2), (1522, .iconst 2, 1), (1523, .iadd, 1), (1524, .iaload, 1), (1525, .aload_n 0, 1), (1526, .iload 5, 2), (1528, .iconst 3, 1), (1529, .iadd, 1), (1530, .iaload, 1), (1531, .aload_n 3, 1), (1532, .invokestatic 312, 3), (1535, .istore 6, 2), (1537, .aload_n 2, 1), (1538, .aload_n 0, 1), (1539, .iload 5, 2), (1541, .iconst 1, 1), (1542, .iadd, 1), (1543, .iaload, 1), (1544, .aload_n 0, 1), (1545, .iload 5, 2), (1547, .iconst 2, 1), (1548, .iadd, 1), (1549, .iaload, 1), (1550, .aload_n 0, 1), (1551, .iload 5, 2), (1553, .iconst 3, 1), (1554, .iadd, 1), (1555, .iaload, 1), (1556, .invokevirtual 314, 3), (1559, .istore 7, 2), (1561, .goto 1363, 3)]
theorem dbL_law_1449 : ∀ q ∈ dlL_law_1449, decode cL_law q.1 = .ok q.2 := by decide +kernel
theorem dL_law_1449 : decode cL_law 1449 = .ok (.iadd, 1) := dgt dbL_law_1449 0 rfl
theorem dL_law_1450 : decode cL_law 1450 = .ok (.iaload, 1) := dgt dbL_law_1449 1 rfl
theorem dL_law_1451 : decode cL_law 1451 = .ok (.aload_n 0, 1) := dgt dbL_law_1449 2 rfl
theorem dL_law_1452 : decode cL_law 1452 = .ok (.iload 5, 2) := dgt dbL_law_1449 3 rfl
theorem dL_law_1454 : decode cL_law 1454 = .ok (.iconst 2, 1) := dgt dbL_law_1449 4 rfl
theorem dL_law_1455 : decode cL_law 1455 = .ok (.iadd, 1) := dgt dbL_law_1449 5 rfl
theorem dL_law_1456 : decode cL_law 1456 = .ok (.iaload, 1) := dgt dbL_law_1449 6 rfl
theorem dL_law_1457 : decode cL_law 1457 = .ok (.aload_n 3, 1) := dgt dbL_law_1449 7 rfl
theorem dL_law_1458 : decode cL_law 1458 = .ok (.invokestatic 306, 3) := dgt dbL_law_1449 8 rfl
theorem dL_law_1461 : decode cL_law 1461 = .ok (.istore 6, 2) := dgt dbL_law_1449 9 rfl
theorem dL_law_1463 : decode cL_law 1463 = .ok (.aload_n 2, 1) := dgt dbL_law_1449 10 rfl
theorem dL_law_1464 : decode cL_law 1464 = .ok (.aload_n 0, 1) := dgt dbL_law_1449 11 rfl
theorem dL_law_1465 : decode cL_law 1465 = .ok (.iload 5, 2) := dgt dbL_law_1449 12 rfl
theorem dL_law_1467 : decode cL_law 1467 = .ok (.iconst 1, 1) := dgt dbL_law_1449 13 rfl
theorem dL_law_1468 : decode cL_law 1468 = .ok (.iadd, 1) := dgt dbL_law_1449 14 rfl
theorem dL_law_1469 : decode cL_law 1469 = .ok (.iaload, 1) := dgt dbL_law_1449 15 rfl
theorem dL_law_1470 : decode cL_law 1470 = .ok (.aload_n 0, 1) := dgt dbL_law_1449 16 rfl
theorem dL_law_1471 : decode cL_law 1471 = .ok (.iload 5, 2) := dgt dbL_law_1449 17 rfl
theorem dL_law_1473 : decode cL_law 1473 = .ok (.iconst 2, 1) := dgt dbL_law_1449 18 rfl
theorem dL_law_1474 : decode cL_law 1474 = .ok (.iadd, 1) := dgt dbL_law_1449 19 rfl
theorem dL_law_1475 : decode cL_law 1475 = .ok (.iaload, 1) := dgt dbL_law_1449 20 rfl
theorem dL_law_1476 : decode cL_law 1476 = .ok (.invokevirtual 308, 3) := dgt dbL_law_1449 21 rfl
theorem dL_law_1479 : decode cL_law 1479 = .ok (.istore 7, 2) := dgt dbL_law_1449 22 rfl
theorem dL_law_1481 : decode cL_law 1481 = .ok (.goto 1443, 3) := dgt dbL_law_1449 23 rfl
theorem dL_law_1484 : decode cL_law 1484 = .ok (.aload_n 1, 1) := dgt dbL_law_1449 24 rfl
theorem dL_law_1485 : decode cL_law 1485 = .ok (.aload_n 0, 1) := dgt dbL_law_1449 25 rfl
theorem dL_law_1486 : decode cL_law 1486 = .ok (.iload 5, 2) := dgt dbL_law_1449 26 rfl
theorem dL_law_1488 : decode cL_law 1488 = .ok (.iconst 1, 1) := dgt dbL_law_1449 27 rfl
theorem dL_law_1489 : decode cL_law 1489 = .ok (.iadd, 1) := dgt dbL_law_1449 28 rfl
theorem dL_law_1490 : decode cL_law 1490 = .ok (.iaload, 1) := dgt dbL_law_1449 29 rfl
theorem dL_law_1491 : decode cL_law 1491 = .ok (.aload_n 3, 1) := dgt dbL_law_1449 30 rfl
theorem dL_law_1492 : decode cL_law 1492 = .ok (.invokestatic 309, 3) := dgt dbL_law_1449 31 rfl
theorem dL_law_1495 : decode cL_law 1495 = .ok (.istore 6, 2) := dgt dbL_law_1449 32 rfl
theorem dL_law_1497 : decode cL_law 1497 = .ok (.aload_n 2, 1) := dgt dbL_law_1449 33 rfl
theorem dL_law_1498 : decode cL_law 1498 = .ok (.aload_n 0, 1) := dgt dbL_law_1449 34 rfl
theorem dL_law_1499 : decode cL_law 1499 = .ok (.iload 5, 2) := dgt dbL_law_1449 35 rfl
theorem dL_law_1501 : decode cL_law 1501 = .ok (.iconst 1, 1) := dgt dbL_law_1449 36 rfl
theorem dL_law_1502 : decode cL_law 1502 = .ok (.iadd, 1) := dgt dbL_law_1449 37 rfl
theorem dL_law_1503 : decode cL_law 1503 = .ok (.iaload, 1) := dgt dbL_law_1449 38 rfl
theorem dL_law_1504 : decode cL_law 1504 = .ok (.invokevirtual 311, 3) := dgt dbL_law_1449 39 rfl
theorem dL_law_1507 : decode cL_law 1507 = .ok (.istore 7, 2) := dgt dbL_law_1449 40 rfl
theorem dL_law_1509 : decode cL_law 1509 = .ok (.goto 1415, 3) := dgt dbL_law_1449 41 rfl
theorem dL_law_1512 : decode cL_law 1512 = .ok (.aload_n 1, 1) := dgt dbL_law_1449 42 rfl
theorem dL_law_1513 : decode cL_law 1513 = .ok (.aload_n 0, 1) := dgt dbL_law_1449 43 rfl
theorem dL_law_1514 : decode cL_law 1514 = .ok (.iload 5, 2) := dgt dbL_law_1449 44 rfl
theorem dL_law_1516 : decode cL_law 1516 = .ok (.iconst 1, 1) := dgt dbL_law_1449 45 rfl
theorem dL_law_1517 : decode cL_law 1517 = .ok (.iadd, 1) := dgt dbL_law_1449 46 rfl
theorem dL_law_1518 : decode cL_law 1518 = .ok (.iaload, 1) := dgt dbL_law_1449 47 rfl
theorem dL_law_1519 : decode cL_law 1519 = .ok (.aload_n 0, 1) := dgt dbL_law_1449 48 rfl
theorem dL_law_1520 : decode cL_law 1520 = .ok (.iload 5, 2) := dgt dbL_law_1449 49 rfl
theorem dL_law_1522 : decode cL_law 1522 = .ok (.iconst 2, 1) := dgt dbL_law_1449 50 rfl
theorem dL_law_1523 : decode cL_law 1523 = .ok (.iadd, 1) := dgt dbL_law_1449 51 rfl
theorem dL_law_1524 : decode cL_law 1524 = .ok (.iaload, 1) := dgt dbL_law_1449 52 rfl
theorem dL_law_1525 : decode cL_law 1525 = .ok (.aload_n 0, 1) := dgt dbL_law_1449 53 rfl
theorem dL_law_1526 : decode cL_law 1526 = .ok (.iload 5, 2) := dgt dbL_law_1449 54 rfl
theorem dL_law_1528 : decode cL_law 1528 = .ok (.iconst 3, 1) := dgt dbL_law_1449 55 rfl
theorem dL_law_1529 : decode cL_law 1529 = .ok (.iadd, 1) := dgt dbL_law_1449 56 rfl
theorem dL_law_1530 : decode cL_law 1530 = .ok (.iaload, 1) := dgt dbL_law_1449 57 rfl
theorem dL_law_1531 : decode cL_law 1531 = .ok (.aload_n 3, 1) := dgt dbL_law_1449 58 rfl
theorem dL_law_1532 : decode cL_law 1532 = .ok (.invokestatic 312, 3) := dgt dbL_law_1449 59 rfl
theorem dL_law_1535 : decode cL_law 1535 = .ok (.istore 6, 2) := dgt dbL_law_1449 60 rfl
theorem dL_law_1537 : decode cL_law 1537 = .ok (.aload_n 2, 1) := dgt dbL_law_1449 61 rfl
theorem dL_law_1538 : decode cL_law 1538 = .ok (.aload_n 0, 1) := dgt dbL_law_1449 62 rfl
theorem dL_law_1539 : decode cL_law 1539 = .ok (.iload 5, 2) := dgt dbL_law_1449 63 rfl
theorem dL_law_1541 : decode cL_law 1541 = .ok (.iconst 1, 1) := dgt dbL_law_1449 64 rfl
theorem dL_law_1542 : decode cL_law 1542 = .ok (.iadd, 1) := dgt dbL_law_1449 65 rfl
theorem dL_law_1543 : decode cL_law 1543 = .ok (.iaload, 1) := dgt dbL_law_1449 66 rfl
theorem dL_law_1544 : decode cL_law 1544 = .ok (.aload_n 0, 1) := dgt dbL_law_1449 67 rfl
theorem dL_law_1545 : decode cL_law 1545 = .ok (.iload 5, 2) := dgt dbL_law_1449 68 rfl
theorem dL_law_1547 : decode cL_law 1547 = .ok (.iconst 2, 1) := dgt dbL_law_1449 69 rfl
theorem dL_law_1548 : decode cL_law 1548 = .ok (.iadd, 1) := dgt dbL_law_1449 70 rfl
theorem dL_law_1549 : decode cL_law 1549 = .ok (.iaload, 1) := dgt dbL_law_1449 71 rfl
theorem dL_law_1550 : decode cL_law 1550 = .ok (.aload_n 0, 1) := dgt dbL_law_1449 72 rfl
theorem dL_law_1551 : decode cL_law 1551 = .ok (.iload 5, 2) := dgt dbL_law_1449 73 rfl
theorem dL_law_1553 : decode cL_law 1553 = .ok (.iconst 3, 1) := dgt dbL_law_1449 74 rfl
theorem dL_law_1554 : decode cL_law 1554 = .ok (.iadd, 1) := dgt dbL_law_1449 75 rfl
theorem dL_law_1555 : decode cL_law 1555 = .ok (.iaload, 1) := dgt dbL_law_1449 76 rfl
theorem dL_law_1556 : decode cL_law 1556 = .ok (.invokevirtual 314, 3) := dgt dbL_law_1449 77 rfl
theorem dL_law_1559 : decode cL_law 1559 = .ok (.istore 7, 2) := dgt dbL_law_1449 78 rfl
theorem dL_law_1561 : decode cL_law 1561 = .ok (.goto 1363, 3) := dgt dbL_law_1449 79 rfl
def dlL_law_1564 : List (Nat × Instr × Nat) := [(1564, .aload_n 1, 1), (1565, .aload_n 0, 1), (1566, .iload 5, 2), (1568, .iconst 1, 1), (1569, .iadd, 1), (1570, .iaload, 1), (1571, .aload_n 0, 1), (1572, .iload 5, 2), (1574, .iconst 2, 1), (1575, .iadd, 1), (1576, .iaload, 1), (1577, .aload_n 3, 1), (1578, .invokestatic 315, 3), (1581, .istore 6, 2), (1583, .aload_n 2, 1), (1584, .aload_n 0, 1), (1585, .iload 5, 2), (1587, .iconst 1, 1), (1588, .iadd, 1), (1589, .iaload, 1), (1590, .aload_n 0, 1), (1591, .iload 5, 2), (1593, .iconst 2, 1), (1594, .iadd, 1), (1595, .iaload, 1), (1596, .invokevirtual 317, 3), (1599, .istore 7, 2), (1601, .goto 1323, 3), (1604, .aload_n 1, 1), (1605, .aload_n 0, 1), (1606, .iload 5, 2), (1608, .iconst 1, 1), (1609, .iadd, 1), (1610, .iaload, 1), (1611, .aload_n 3, 1), (1612, .invokestatic 318, 3), (1615, .istore 6, 2), (1617, .aload_n 2, 1), (1618, .aload_n 0, 1), (1619, .iload 5, 2), (1621, .iconst 1, 1), (1622, .iadd, 1), (1623, .iaload, 1), (1624, .invokevirtual 320, 3), (1627, .istore 7, 2), (1629, .goto 1295, 3), (1632, .aload_n 1, 1), (1633, .aload_n 0, 1), (1634, .iload 5, 2), (1636, .iconst 1, 1), (1637, .iadd, 1), (1638, .iaload, 1), (1639, .aload_n 0, 1), (1640, .iload 5, 2), (1642, .iconst 2, 1), (1643, .iadd, 1), (1644, .iaload, 1), (1645, .aload_n 0, 1), (1646, .iload 5, 2), (1648, .iconst 3, 1), (1649, .iadd, 1), (1650, .iaload, 1), (1651, .aload_n 0, 1), (1652, .iload 5, 2), (1654, .iconst 4, 1), (1655, .iadd, 1), (1656, .iaload, 1), (1657, .aload_n 3, 1), (1658, .invokestatic 321, 3), (1661, .istore 6, 2), (1663, .aload_n 2, 1), (1664, .aload_n 0, 1), (1665, .iload 5, 2), (1667, .iconst 1, 1), (1668, .iadd, 1), (1669, .iaload, 1), (1670, .aload_n 0, 1), (1671, .iload 5, 2), (1673, .iconst 2, 1), (1674, .iadd, 1)]
theorem dbL_law_1564 : ∀ q ∈ dlL_law_1564, decode cL_law q.1 = .ok q.2 := by decide +kernel
theorem dL_law_1564 : decode cL_law 1564 = .ok (.aload_n 1, 1) := dgt dbL_law_1564 0 rfl
theorem dL_law_1565 : decode cL_law 1565 = .ok (.aload_n 0, 1) := dgt dbL_law_1564 1 rfl
theorem dL_law_1566 : decode cL_law 1566 = .ok (.iload 5, 2) := dgt dbL_law_1564 2 rfl
theorem dL_law_1568 : decode cL_law 1568 = .ok (.iconst 1, 1) := dgt dbL_law_1564 3 rfl
theorem dL_law_1569 : decode cL_law 1569 = .ok (.iadd, 1) := dgt dbL_law_1564 4 rfl
theorem dL_law_1570 : decode cL_law 1570 = .ok (.iaload, 1) := dgt dbL_law_1564 5 rfl
theorem dL_law_1571 : decode cL_law 1571 = .ok (.aload_n 0, 1) := dgt dbL_law_1564 6 rfl
theorem dL_law_1572 : decode cL_law 1572 = .ok (.iload 5, 2) := dgt dbL_law_1564 7 rfl
theorem dL_law_1574 : decode cL_law 1574 = .ok (.iconst 2, 1) := dgt dbL_law_1564 8 rfl
theorem dL_law_1575 : decode cL_law 1575 = .ok (.iadd, 1) := dgt dbL_law_1564 9 rfl
theorem dL_law_1576 : decode cL_law 1576 = .ok (.iaload, 1) := dgt dbL_law_1564 10 rfl
theorem dL_law_1577 : decode cL_law 1577 = .ok (.aload_n 3, 1) := dgt dbL_law_1564 11 rfl
theorem dL_law_1578 : decode cL_law 1578 = .ok (.invokestatic 315, 3) := dgt dbL_law_1564 12 rfl
theorem dL_law_1581 : decode cL_law 1581 = .ok (.istore 6, 2) := dgt dbL_law_1564 13 rfl
theorem dL_law_1583 : decode cL_law 1583 = .ok (.aload_n 2, 1) := dgt dbL_law_1564 14 rfl
theorem dL_law_1584 : decode cL_law 1584 = .ok (.aload_n 0, 1) := dgt dbL_law_1564 15 rfl
theorem dL_law_1585 : decode cL_law 1585 = .ok (.iload 5, 2) := dgt dbL_law_1564 16 rfl
theorem dL_law_1587 : decode cL_law 1587 = .ok (.iconst 1, 1) := dgt dbL_law_1564 17 rfl
theorem dL_law_1588 : decode cL_law 1588 = .ok (.iadd, 1) := dgt dbL_law_1564 18 rfl
theorem dL_law_1589 : decode cL_law 1589 = .ok (.iaload, 1) := dgt dbL_law_1564 19 rfl
theorem dL_law_1590 : decode cL_law 1590 = .ok (.aload_n 0, 1) := dgt dbL_law_1564 20 rfl
theorem dL_law_1591 : decode cL_law 1591 = .ok (.iload 5, 2) := dgt dbL_law_1564 21 rfl
theorem dL_law_1593 : decode cL_law 1593 = .ok (.iconst 2, 1) := dgt dbL_law_1564 22 rfl
theorem dL_law_1594 : decode cL_law 1594 = .ok (.iadd, 1) := dgt dbL_law_1564 23 rfl
theorem dL_law_1595 : decode cL_law 1595 = .ok (.iaload, 1) := dgt dbL_law_1564 24 rfl
theorem dL_law_1596 : decode cL_law 1596 = .ok (.invokevirtual 317, 3) := dgt dbL_law_1564 25 rfl
theorem dL_law_1599 : decode cL_law 1599 = .ok (.istore 7, 2) := dgt dbL_law_1564 26 rfl
theorem dL_law_1601 : decode cL_law 1601 = .ok (.goto 1323, 3) := dgt dbL_law_1564 27 rfl
theorem dL_law_1604 : decode cL_law 1604 = .ok (.aload_n 1, 1) := dgt dbL_law_1564 28 rfl
theorem dL_law_1605 : decode cL_law 1605 = .ok (.aload_n 0, 1) := dgt dbL_law_1564 29 rfl
theorem dL_law_1606 : decode cL_law 1606 = .ok (.iload 5, 2) := dgt dbL_law_1564 30 rfl
theorem dL_law_1608 : decode cL_law 1608 = .ok (.iconst 1, 1) := dgt dbL_law_1564 31 rfl
theorem dL_law_1609 : decode cL_law 1609 = .ok (.iadd, 1) := dgt dbL_law_1564 32 rfl
theorem dL_law_1610 : decode cL_law 1610 = .ok (.iaload, 1) := dgt dbL_law_1564 33 rfl
theorem dL_law_1611 : decode cL_law 1611 = .ok (.aload_n 3, 1) := dgt dbL_law_1564 34 rfl
theorem dL_law_1612 : decode cL_law 1612 = .ok (.invokestatic 318, 3) := dgt dbL_law_1564 35 rfl
theorem dL_law_1615 : decode cL_law 1615 = .ok (.istore 6, 2) := dgt dbL_law_1564 36 rfl
theorem dL_law_1617 : decode cL_law 1617 = .ok (.aload_n 2, 1) := dgt dbL_law_1564 37 rfl
theorem dL_law_1618 : decode cL_law 1618 = .ok (.aload_n 0, 1) := dgt dbL_law_1564 38 rfl
theorem dL_law_1619 : decode cL_law 1619 = .ok (.iload 5, 2) := dgt dbL_law_1564 39 rfl
theorem dL_law_1621 : decode cL_law 1621 = .ok (.iconst 1, 1) := dgt dbL_law_1564 40 rfl
theorem dL_law_1622 : decode cL_law 1622 = .ok (.iadd, 1) := dgt dbL_law_1564 41 rfl
theorem dL_law_1623 : decode cL_law 1623 = .ok (.iaload, 1) := dgt dbL_law_1564 42 rfl
theorem dL_law_1624 : decode cL_law 1624 = .ok (.invokevirtual 320, 3) := dgt dbL_law_1564 43 rfl
theorem dL_law_1627 : decode cL_law 1627 = .ok (.istore 7, 2) := dgt dbL_law_1564 44 rfl
theorem dL_law_1629 : decode cL_law 1629 = .ok (.goto 1295, 3) := dgt dbL_law_1564 45 rfl
theorem dL_law_1632 : decode cL_law 1632 = .ok (.aload_n 1, 1) := dgt dbL_law_1564 46 rfl
theorem dL_law_1633 : decode cL_law 1633 = .ok (.aload_n 0, 1) := dgt dbL_law_1564 47 rfl
theorem dL_law_1634 : decode cL_law 1634 = .ok (.iload 5, 2) := dgt dbL_law_1564 48 rfl
theorem dL_law_1636 : decode cL_law 1636 = .ok (.iconst 1, 1) := dgt dbL_law_1564 49 rfl
theorem dL_law_1637 : decode cL_law 1637 = .ok (.iadd, 1) := dgt dbL_law_1564 50 rfl
theorem dL_law_1638 : decode cL_law 1638 = .ok (.iaload, 1) := dgt dbL_law_1564 51 rfl
theorem dL_law_1639 : decode cL_law 1639 = .ok (.aload_n 0, 1) := dgt dbL_law_1564 52 rfl
theorem dL_law_1640 : decode cL_law 1640 = .ok (.iload 5, 2) := dgt dbL_law_1564 53 rfl
theorem dL_law_1642 : decode cL_law 1642 = .ok (.iconst 2, 1) := dgt dbL_law_1564 54 rfl
theorem dL_law_1643 : decode cL_law 1643 = .ok (.iadd, 1) := dgt dbL_law_1564 55 rfl
theorem dL_law_1644 : decode cL_law 1644 = .ok (.iaload, 1) := dgt dbL_law_1564 56 rfl
theorem dL_law_1645 : decode cL_law 1645 = .ok (.aload_n 0, 1) := dgt dbL_law_1564 57 rfl
theorem dL_law_1646 : decode cL_law 1646 = .ok (.iload 5, 2) := dgt dbL_law_1564 58 rfl
theorem dL_law_1648 : decode cL_law 1648 = .ok (.iconst 3, 1) := dgt dbL_law_1564 59 rfl
theorem dL_law_1649 : decode cL_law 1649 = .ok (.iadd, 1) := dgt dbL_law_1564 60 rfl
theorem dL_law_1650 : decode cL_law 1650 = .ok (.iaload, 1) := dgt dbL_law_1564 61 rfl
theorem dL_law_1651 : decode cL_law 1651 = .ok (.aload_n 0, 1) := dgt dbL_law_1564 62 rfl
theorem dL_law_1652 : decode cL_law 1652 = .ok (.iload 5, 2) := dgt dbL_law_1564 63 rfl
theorem dL_law_1654 : decode cL_law 1654 = .ok (.iconst 4, 1) := dgt dbL_law_1564 64 rfl
theorem dL_law_1655 : decode cL_law 1655 = .ok (.iadd, 1) := dgt dbL_law_1564 65 rfl
theorem dL_law_1656 : decode cL_law 1656 = .ok (.iaload, 1) := dgt dbL_law_1564 66 rfl
theorem dL_law_1657 : decode cL_law 1657 = .ok (.aload_n 3, 1) := dgt dbL_law_1564 67 rfl
theorem dL_law_1658 : decode cL_law 1658 = .ok (.invokestatic 321, 3) := dgt dbL_law_1564 68 rfl
theorem dL_law_1661 : decode cL_law 1661 = .ok (.istore 6, 2) := dgt dbL_law_1564 69 rfl
theorem dL_law_1663 : decode cL_law 1663 = .ok (.aload_n 2, 1) := dgt dbL_law_1564 70 rfl
theorem dL_law_1664 : decode cL_law 1664 = .ok (.aload_n 0, 1) := dgt dbL_law_1564 71 rfl
theorem dL_law_1665 : decode cL_law 1665 = .ok (.iload 5, 2) := dgt dbL_law_1564 72 rfl
theorem dL_law_1667 : decode cL_law 1667 = .ok (.iconst 1, 1) := dgt dbL_law_1564 73 rfl
theorem dL_law_1668 : decode cL_law 1668 = .ok (.iadd, 1) := dgt dbL_law_1564 74 rfl
theorem dL_law_1669 : decode cL_law 1669 = .ok (.iaload, 1) := dgt dbL_law_1564 75 rfl
theorem dL_law_1670 : decode cL_law 1670 = .ok (.aload_n 0, 1) := dgt dbL_law_1564 76 rfl
theorem dL_law_1671 : decode cL_law 1671 = .ok (.iload 5, 2) := dgt dbL_law_1564 77 rfl
theorem dL_law_1673 : decode cL_law 1673 = .ok (.iconst 2, 1) := dgt dbL_law_1564 78 rfl
theorem dL_law_1674 : decode cL_law 1674 = .ok (.iadd, 1) := dgt dbL_law_1564 79 rfl
def dlL_law_1675 : List (Nat × Instr × Nat) := [(1675, .iaload, 1), (1676, .aload_n 0, 1), (1677, .iload 5, 2), (1679, .iconst 3, 1), (1680, .iadd, 1), (1681, .iaload, 1), (1682, .aload_n 0, 1), (1683, .iload 5, 2), (1685, .iconst 4, 1), (1686, .iadd, 1), (1687, .iaload, 1), (1688, .invokevirtual 323, 3), (1691, .istore 7, 2), (1693, .goto 1231, 3), (1696, .aload_n 1, 1), (1697, .aload_n 0, 1), (1698, .iload 5, 2), (1700, .iconst 1, 1), (1701, .iadd, 1), (1702, .iaload, 1), (1703, .aload_n 0, 1), (1704, .iload 5, 2), (1706, .iconst 2, 1), (1707, .iadd, 1), (1708, .iaload, 1), (1709, .aload_n 0, 1), (1710, .iload 5, 2), (1712, .iconst 3, 1), (1713, .iadd, 1), (1714, .iaload, 1), (1715, .aload_n 3, 1), (1716, .invokestatic 324, 3), (1719, .istore 6, 2), (1721, .aload_n 2, 1), (1722, .aload_n 0, 1), (1723, .iload 5, 2), (1725, .iconst 1, 1), (1726, .iadd, 1), (1727, .iaload, 1), (1728, .aload_n 0, 1), (1729, .iload 5, 2), (1731, .iconst 2, 1), (1732, .iadd, 1), (1733, .iaload, 1), (1734, .aload_n 0, 1), (1735, .iload 5, 2), (1737, .iconst 3, 1), (1738, .iadd, 1), (1739, .iaload, 1), (1740, .invokevirtual 326, 3), (1743, .istore 7, 2), (1745, .aload_n 2, 1), (1746, .invokevirtual 327, 3), (1749, .iload 6, 2), (1751, .if_icmp .eq 5, 3), (1754, .iconst 0, 1), (1755, .ireturn, 1), (1756, .iload 6, 2), (1758, .ifCond .ne 15, 3), (1761, .aload_n 3, 1), (1762, .iconst 0, 1), (1763, .laload, 1), (1764, .iload 7, 2), (1766, .i2l, 1), (1767, .lcmp, 1), (1768, .ifCond .eq 5, 3), (1771, .iconst 0, 1), (1772, .ireturn, 1), (1773, .goto 1151, 3), (1776, .aload_n 1, 1), (1777, .aload_n 0, 1), (1778, .iload 5, 2), (1780, .iconst 1, 1), (1781, .iadd, 1), (1782, .iaload, 1), (1783, .aload_n 0, 1), (1784, .iload 5, 2), (1786, .iconst 2, 1), (1787, .iadd, 1), (1788, .iaload, 1)]
theorem dbL_law_1675 : ∀ q ∈ dlL_law_1675, decode cL_law q.1 = .ok q.2 := by decide +kernel
theorem dL_law_1675 : decode cL_law 1675 = .ok (.iaload, 1) := dgt dbL_law_1675 0 rfl
theorem dL_law_1676 : decode cL_law 1676 = .ok (.aload_n 0, 1) := dgt dbL_law_1675 1 rfl
theorem dL_law_1677 : decode cL_law 1677 = .ok (.iload 5, 2) := dgt dbL_law_1675 2 rfl
theorem dL_law_1679 : decode cL_law 1679 = .ok (.iconst 3, 1) := dgt dbL_law_1675 3 rfl
theorem dL_law_1680 : decode cL_law 1680 = .ok (.iadd, 1) := dgt dbL_law_1675 4 rfl
theorem dL_law_1681 : decode cL_law 1681 = .ok (.iaload, 1) := dgt dbL_law_1675 5 rfl
theorem dL_law_1682 : decode cL_law 1682 = .ok (.aload_n 0, 1) := dgt dbL_law_1675 6 rfl
theorem dL_law_1683 : decode cL_law 1683 = .ok (.iload 5, 2) := dgt dbL_law_1675 7 rfl
theorem dL_law_1685 : decode cL_law 1685 = .ok (.iconst 4, 1) := dgt dbL_law_1675 8 rfl
theorem dL_law_1686 : decode cL_law 1686 = .ok (.iadd, 1) := dgt dbL_law_1675 9 rfl
theorem dL_law_1687 : decode cL_law 1687 = .ok (.iaload, 1) := dgt dbL_law_1675 10 rfl
theorem dL_law_1688 : decode cL_law 1688 = .ok (.invokevirtual 323, 3) := dgt dbL_law_1675 11 rfl
theorem dL_law_1691 : decode cL_law 1691 = .ok (.istore 7, 2) := dgt dbL_law_1675 12 rfl
theorem dL_law_1693 : decode cL_law 1693 = .ok (.goto 1231, 3) := dgt dbL_law_1675 13 rfl
theorem dL_law_1696 : decode cL_law 1696 = .ok (.aload_n 1, 1) := dgt dbL_law_1675 14 rfl
theorem dL_law_1697 : decode cL_law 1697 = .ok (.aload_n 0, 1) := dgt dbL_law_1675 15 rfl
theorem dL_law_1698 : decode cL_law 1698 = .ok (.iload 5, 2) := dgt dbL_law_1675 16 rfl
theorem dL_law_1700 : decode cL_law 1700 = .ok (.iconst 1, 1) := dgt dbL_law_1675 17 rfl
theorem dL_law_1701 : decode cL_law 1701 = .ok (.iadd, 1) := dgt dbL_law_1675 18 rfl
theorem dL_law_1702 : decode cL_law 1702 = .ok (.iaload, 1) := dgt dbL_law_1675 19 rfl
theorem dL_law_1703 : decode cL_law 1703 = .ok (.aload_n 0, 1) := dgt dbL_law_1675 20 rfl
theorem dL_law_1704 : decode cL_law 1704 = .ok (.iload 5, 2) := dgt dbL_law_1675 21 rfl
theorem dL_law_1706 : decode cL_law 1706 = .ok (.iconst 2, 1) := dgt dbL_law_1675 22 rfl
theorem dL_law_1707 : decode cL_law 1707 = .ok (.iadd, 1) := dgt dbL_law_1675 23 rfl
theorem dL_law_1708 : decode cL_law 1708 = .ok (.iaload, 1) := dgt dbL_law_1675 24 rfl
theorem dL_law_1709 : decode cL_law 1709 = .ok (.aload_n 0, 1) := dgt dbL_law_1675 25 rfl
theorem dL_law_1710 : decode cL_law 1710 = .ok (.iload 5, 2) := dgt dbL_law_1675 26 rfl
theorem dL_law_1712 : decode cL_law 1712 = .ok (.iconst 3, 1) := dgt dbL_law_1675 27 rfl
theorem dL_law_1713 : decode cL_law 1713 = .ok (.iadd, 1) := dgt dbL_law_1675 28 rfl
theorem dL_law_1714 : decode cL_law 1714 = .ok (.iaload, 1) := dgt dbL_law_1675 29 rfl
theorem dL_law_1715 : decode cL_law 1715 = .ok (.aload_n 3, 1) := dgt dbL_law_1675 30 rfl
theorem dL_law_1716 : decode cL_law 1716 = .ok (.invokestatic 324, 3) := dgt dbL_law_1675 31 rfl
theorem dL_law_1719 : decode cL_law 1719 = .ok (.istore 6, 2) := dgt dbL_law_1675 32 rfl
theorem dL_law_1721 : decode cL_law 1721 = .ok (.aload_n 2, 1) := dgt dbL_law_1675 33 rfl
theorem dL_law_1722 : decode cL_law 1722 = .ok (.aload_n 0, 1) := dgt dbL_law_1675 34 rfl
theorem dL_law_1723 : decode cL_law 1723 = .ok (.iload 5, 2) := dgt dbL_law_1675 35 rfl
theorem dL_law_1725 : decode cL_law 1725 = .ok (.iconst 1, 1) := dgt dbL_law_1675 36 rfl
theorem dL_law_1726 : decode cL_law 1726 = .ok (.iadd, 1) := dgt dbL_law_1675 37 rfl
theorem dL_law_1727 : decode cL_law 1727 = .ok (.iaload, 1) := dgt dbL_law_1675 38 rfl
theorem dL_law_1728 : decode cL_law 1728 = .ok (.aload_n 0, 1) := dgt dbL_law_1675 39 rfl
theorem dL_law_1729 : decode cL_law 1729 = .ok (.iload 5, 2) := dgt dbL_law_1675 40 rfl
theorem dL_law_1731 : decode cL_law 1731 = .ok (.iconst 2, 1) := dgt dbL_law_1675 41 rfl
theorem dL_law_1732 : decode cL_law 1732 = .ok (.iadd, 1) := dgt dbL_law_1675 42 rfl
theorem dL_law_1733 : decode cL_law 1733 = .ok (.iaload, 1) := dgt dbL_law_1675 43 rfl
theorem dL_law_1734 : decode cL_law 1734 = .ok (.aload_n 0, 1) := dgt dbL_law_1675 44 rfl
theorem dL_law_1735 : decode cL_law 1735 = .ok (.iload 5, 2) := dgt dbL_law_1675 45 rfl
theorem dL_law_1737 : decode cL_law 1737 = .ok (.iconst 3, 1) := dgt dbL_law_1675 46 rfl
theorem dL_law_1738 : decode cL_law 1738 = .ok (.iadd, 1) := dgt dbL_law_1675 47 rfl
theorem dL_law_1739 : decode cL_law 1739 = .ok (.iaload, 1) := dgt dbL_law_1675 48 rfl
theorem dL_law_1740 : decode cL_law 1740 = .ok (.invokevirtual 326, 3) := dgt dbL_law_1675 49 rfl
theorem dL_law_1743 : decode cL_law 1743 = .ok (.istore 7, 2) := dgt dbL_law_1675 50 rfl
theorem dL_law_1745 : decode cL_law 1745 = .ok (.aload_n 2, 1) := dgt dbL_law_1675 51 rfl
theorem dL_law_1746 : decode cL_law 1746 = .ok (.invokevirtual 327, 3) := dgt dbL_law_1675 52 rfl
theorem dL_law_1749 : decode cL_law 1749 = .ok (.iload 6, 2) := dgt dbL_law_1675 53 rfl
theorem dL_law_1751 : decode cL_law 1751 = .ok (.if_icmp .eq 5, 3) := dgt dbL_law_1675 54 rfl
theorem dL_law_1754 : decode cL_law 1754 = .ok (.iconst 0, 1) := dgt dbL_law_1675 55 rfl
theorem dL_law_1755 : decode cL_law 1755 = .ok (.ireturn, 1) := dgt dbL_law_1675 56 rfl
theorem dL_law_1756 : decode cL_law 1756 = .ok (.iload 6, 2) := dgt dbL_law_1675 57 rfl
theorem dL_law_1758 : decode cL_law 1758 = .ok (.ifCond .ne 15, 3) := dgt dbL_law_1675 58 rfl
theorem dL_law_1761 : decode cL_law 1761 = .ok (.aload_n 3, 1) := dgt dbL_law_1675 59 rfl
theorem dL_law_1762 : decode cL_law 1762 = .ok (.iconst 0, 1) := dgt dbL_law_1675 60 rfl
theorem dL_law_1763 : decode cL_law 1763 = .ok (.laload, 1) := dgt dbL_law_1675 61 rfl
theorem dL_law_1764 : decode cL_law 1764 = .ok (.iload 7, 2) := dgt dbL_law_1675 62 rfl
theorem dL_law_1766 : decode cL_law 1766 = .ok (.i2l, 1) := dgt dbL_law_1675 63 rfl
theorem dL_law_1767 : decode cL_law 1767 = .ok (.lcmp, 1) := dgt dbL_law_1675 64 rfl
theorem dL_law_1768 : decode cL_law 1768 = .ok (.ifCond .eq 5, 3) := dgt dbL_law_1675 65 rfl
theorem dL_law_1771 : decode cL_law 1771 = .ok (.iconst 0, 1) := dgt dbL_law_1675 66 rfl
theorem dL_law_1772 : decode cL_law 1772 = .ok (.ireturn, 1) := dgt dbL_law_1675 67 rfl
theorem dL_law_1773 : decode cL_law 1773 = .ok (.goto 1151, 3) := dgt dbL_law_1675 68 rfl
theorem dL_law_1776 : decode cL_law 1776 = .ok (.aload_n 1, 1) := dgt dbL_law_1675 69 rfl
theorem dL_law_1777 : decode cL_law 1777 = .ok (.aload_n 0, 1) := dgt dbL_law_1675 70 rfl
theorem dL_law_1778 : decode cL_law 1778 = .ok (.iload 5, 2) := dgt dbL_law_1675 71 rfl
theorem dL_law_1780 : decode cL_law 1780 = .ok (.iconst 1, 1) := dgt dbL_law_1675 72 rfl
theorem dL_law_1781 : decode cL_law 1781 = .ok (.iadd, 1) := dgt dbL_law_1675 73 rfl
theorem dL_law_1782 : decode cL_law 1782 = .ok (.iaload, 1) := dgt dbL_law_1675 74 rfl
theorem dL_law_1783 : decode cL_law 1783 = .ok (.aload_n 0, 1) := dgt dbL_law_1675 75 rfl
theorem dL_law_1784 : decode cL_law 1784 = .ok (.iload 5, 2) := dgt dbL_law_1675 76 rfl
theorem dL_law_1786 : decode cL_law 1786 = .ok (.iconst 2, 1) := dgt dbL_law_1675 77 rfl
theorem dL_law_1787 : decode cL_law 1787 = .ok (.iadd, 1) := dgt dbL_law_1675 78 rfl
theorem dL_law_1788 : decode cL_law 1788 = .ok (.iaload, 1) := dgt dbL_law_1675 79 rfl
def dlL_law_1789 : List (Nat × Instr × Nat) := [(1789, .aload_n 0, 1), (1790, .iload 5, 2), (1792, .iconst 3, 1), (1793, .iadd, 1), (1794, .iaload, 1), (1795, .ifCond .eq 7, 3), (1798, .iconst 1, 1), (1799, .goto 4, 3), (1802, .iconst 0, 1), (1803, .aload_n 3, 1), (1804, .invokestatic 331, 3), (1807, .istore 6, 2), (1809, .aload_n 2, 1), (1810, .aload_n 0, 1), (1811, .iload 5, 2), (1813, .iconst 1, 1), (1814, .iadd, 1), (1815, .iaload, 1), (1816, .aload_n 0, 1), (1817, .iload 5, 2), (1819, .iconst 2, 1), (1820, .iadd, 1), (1821, .iaload, 1), (1822, .aload_n 0, 1), (1823, .iload 5, 2), (1825, .iconst 3, 1), (1826, .iadd, 1), (1827, .iaload, 1), (1828, .ifCond .eq 7, 3), (1831, .iconst 1, 1), (1832, .goto 4, 3), (1835, .iconst 0, 1), (1836, .invokevirtual 334, 3), (1839, .istore 7, 2), (1841, .goto 1083, 3), (1844, .aload_n 1, 1), (1845, .aload_n 0, 1), (1846, .iload 5, 2), (1848, .iconst 1, 1), (1849, .iadd, 1), (1850, .iaload, 1), (1851, .aload_n 3, 1), (1852, .invokestatic 335, 3), (1855, .istore 6, 2), (1857, .aload_n 2, 1), (1858, .aload_n 0, 1), (1859, .iload 5, 2), (1861, .iconst 1, 1), (1862, .iadd, 1), (1863, .iaload, 1), (1864, .invokevirtual 337, 3), (1867, .istore 7, 2), (1869, .goto 1055, 3), (1872, .aload_n 1, 1), (1873, .aload_n 0, 1), (1874, .iload 5, 2), (1876, .iconst 1, 1), (1877, .iadd, 1), (1878, .iaload, 1), (1879, .aload_n 3, 1), (1880, .invokestatic 338, 3), (1883, .istore 6, 2), (1885, .aload_n 2, 1), (1886, .aload_n 0, 1), (1887, .iload 5, 2), (1889, .iconst 1, 1), (1890, .iadd, 1), (1891, .iaload, 1), (1892, .invokevirtual 340, 3), (1895, .istore 7, 2), (1897, .goto 1027, 3), (1900, .aload_n 1, 1), (1901, .aload_n 0, 1), (1902, .iload 5, 2), (1904, .iconst 1, 1), (1905, .iadd, 1), (1906, .iaload, 1), (1907, .aload_n 0, 1), (1908, .iload 5, 2), (1910, .iconst 2, 1)]
theorem dbL_law_1789 : ∀ q ∈ dlL_law_1789, decode cL_law q.1 = .ok q.2 := by decide +kernel
theorem dL_law_1789 : decode cL_law 1789 = .ok (.aload_n 0, 1) := dgt dbL_law_1789 0 rfl
theorem dL_law_1790 : decode cL_law 1790 = .ok (.iload 5, 2) := dgt dbL_law_1789 1 rfl
theorem dL_law_1792 : decode cL_law 1792 = .ok (.iconst 3, 1) := dgt dbL_law_1789 2 rfl
theorem dL_law_1793 : decode cL_law 1793 = .ok (.iadd, 1) := dgt dbL_law_1789 3 rfl
theorem dL_law_1794 : decode cL_law 1794 = .ok (.iaload, 1) := dgt dbL_law_1789 4 rfl
theorem dL_law_1795 : decode cL_law 1795 = .ok (.ifCond .eq 7, 3) := dgt dbL_law_1789 5 rfl
theorem dL_law_1798 : decode cL_law 1798 = .ok (.iconst 1, 1) := dgt dbL_law_1789 6 rfl
theorem dL_law_1799 : decode cL_law 1799 = .ok (.goto 4, 3) := dgt dbL_law_1789 7 rfl
theorem dL_law_1802 : decode cL_law 1802 = .ok (.iconst 0, 1) := dgt dbL_law_1789 8 rfl
theorem dL_law_1803 : decode cL_law 1803 = .ok (.aload_n 3, 1) := dgt dbL_law_1789 9 rfl
theorem dL_law_1804 : decode cL_law 1804 = .ok (.invokestatic 331, 3) := dgt dbL_law_1789 10 rfl
theorem dL_law_1807 : decode cL_law 1807 = .ok (.istore 6, 2) := dgt dbL_law_1789 11 rfl
theorem dL_law_1809 : decode cL_law 1809 = .ok (.aload_n 2, 1) := dgt dbL_law_1789 12 rfl
theorem dL_law_1810 : decode cL_law 1810 = .ok (.aload_n 0, 1) := dgt dbL_law_1789 13 rfl
theorem dL_law_1811 : decode cL_law 1811 = .ok (.iload 5, 2) := dgt dbL_law_1789 14 rfl
theorem dL_law_1813 : decode cL_law 1813 = .ok (.iconst 1, 1) := dgt dbL_law_1789 15 rfl
theorem dL_law_1814 : decode cL_law 1814 = .ok (.iadd, 1) := dgt dbL_law_1789 16 rfl
theorem dL_law_1815 : decode cL_law 1815 = .ok (.iaload, 1) := dgt dbL_law_1789 17 rfl
theorem dL_law_1816 : decode cL_law 1816 = .ok (.aload_n 0, 1) := dgt dbL_law_1789 18 rfl
theorem dL_law_1817 : decode cL_law 1817 = .ok (.iload 5, 2) := dgt dbL_law_1789 19 rfl
theorem dL_law_1819 : decode cL_law 1819 = .ok (.iconst 2, 1) := dgt dbL_law_1789 20 rfl
theorem dL_law_1820 : decode cL_law 1820 = .ok (.iadd, 1) := dgt dbL_law_1789 21 rfl
theorem dL_law_1821 : decode cL_law 1821 = .ok (.iaload, 1) := dgt dbL_law_1789 22 rfl
theorem dL_law_1822 : decode cL_law 1822 = .ok (.aload_n 0, 1) := dgt dbL_law_1789 23 rfl
theorem dL_law_1823 : decode cL_law 1823 = .ok (.iload 5, 2) := dgt dbL_law_1789 24 rfl
theorem dL_law_1825 : decode cL_law 1825 = .ok (.iconst 3, 1) := dgt dbL_law_1789 25 rfl
theorem dL_law_1826 : decode cL_law 1826 = .ok (.iadd, 1) := dgt dbL_law_1789 26 rfl
theorem dL_law_1827 : decode cL_law 1827 = .ok (.iaload, 1) := dgt dbL_law_1789 27 rfl
theorem dL_law_1828 : decode cL_law 1828 = .ok (.ifCond .eq 7, 3) := dgt dbL_law_1789 28 rfl
theorem dL_law_1831 : decode cL_law 1831 = .ok (.iconst 1, 1) := dgt dbL_law_1789 29 rfl
theorem dL_law_1832 : decode cL_law 1832 = .ok (.goto 4, 3) := dgt dbL_law_1789 30 rfl
theorem dL_law_1835 : decode cL_law 1835 = .ok (.iconst 0, 1) := dgt dbL_law_1789 31 rfl
theorem dL_law_1836 : decode cL_law 1836 = .ok (.invokevirtual 334, 3) := dgt dbL_law_1789 32 rfl
theorem dL_law_1839 : decode cL_law 1839 = .ok (.istore 7, 2) := dgt dbL_law_1789 33 rfl
theorem dL_law_1841 : decode cL_law 1841 = .ok (.goto 1083, 3) := dgt dbL_law_1789 34 rfl
theorem dL_law_1844 : decode cL_law 1844 = .ok (.aload_n 1, 1) := dgt dbL_law_1789 35 rfl
theorem dL_law_1845 : decode cL_law 1845 = .ok (.aload_n 0, 1) := dgt dbL_law_1789 36 rfl
theorem dL_law_1846 : decode cL_law 1846 = .ok (.iload 5, 2) := dgt dbL_law_1789 37 rfl
theorem dL_law_1848 : decode cL_law 1848 = .ok (.iconst 1, 1) := dgt dbL_law_1789 38 rfl
theorem dL_law_1849 : decode cL_law 1849 = .ok (.iadd, 1) := dgt dbL_law_1789 39 rfl
theorem dL_law_1850 : decode cL_law 1850 = .ok (.iaload, 1) := dgt dbL_law_1789 40 rfl
theorem dL_law_1851 : decode cL_law 1851 = .ok (.aload_n 3, 1) := dgt dbL_law_1789 41 rfl
theorem dL_law_1852 : decode cL_law 1852 = .ok (.invokestatic 335, 3) := dgt dbL_law_1789 42 rfl
theorem dL_law_1855 : decode cL_law 1855 = .ok (.istore 6, 2) := dgt dbL_law_1789 43 rfl
theorem dL_law_1857 : decode cL_law 1857 = .ok (.aload_n 2, 1) := dgt dbL_law_1789 44 rfl
theorem dL_law_1858 : decode cL_law 1858 = .ok (.aload_n 0, 1) := dgt dbL_law_1789 45 rfl
theorem dL_law_1859 : decode cL_law 1859 = .ok (.iload 5, 2) := dgt dbL_law_1789 46 rfl
theorem dL_law_1861 : decode cL_law 1861 = .ok (.iconst 1, 1) := dgt dbL_law_1789 47 rfl
theorem dL_law_1862 : decode cL_law 1862 = .ok (.iadd, 1) := dgt dbL_law_1789 48 rfl
theorem dL_law_1863 : decode cL_law 1863 = .ok (.iaload, 1) := dgt dbL_law_1789 49 rfl
theorem dL_law_1864 : decode cL_law 1864 = .ok (.invokevirtual 337, 3) := dgt dbL_law_1789 50 rfl
theorem dL_law_1867 : decode cL_law 1867 = .ok (.istore 7, 2) := dgt dbL_law_1789 51 rfl
theorem dL_law_1869 : decode cL_law 1869 = .ok (.goto 1055, 3) := dgt dbL_law_1789 52 rfl
theorem dL_law_1872 : decode cL_law 1872 = .ok (.aload_n 1, 1) := dgt dbL_law_1789 53 rfl
theorem dL_law_1873 : decode cL_law 1873 = .ok (.aload_n 0, 1) := dgt dbL_law_1789 54 rfl
theorem dL_law_1874 : decode cL_law 1874 = .ok (.iload 5, 2) := dgt dbL_law_1789 55 rfl
theorem dL_law_1876 : decode cL_law 1876 = .ok (.iconst 1, 1) := dgt dbL_law_1789 56 rfl
theorem dL_law_1877 : decode cL_law 1877 = .ok (.iadd, 1) := dgt dbL_law_1789 57 rfl
theorem dL_law_1878 : decode cL_law 1878 = .ok (.iaload, 1) := dgt dbL_law_1789 58 rfl
theorem dL_law_1879 : decode cL_law 1879 = .ok (.aload_n 3, 1) := dgt dbL_law_1789 59 rfl
theorem dL_law_1880 : decode cL_law 1880 = .ok (.invokestatic 338, 3) := dgt dbL_law_1789 60 rfl
theorem dL_law_1883 : decode cL_law 1883 = .ok (.istore 6, 2) := dgt dbL_law_1789 61 rfl
theorem dL_law_1885 : decode cL_law 1885 = .ok (.aload_n 2, 1) := dgt dbL_law_1789 62 rfl
theorem dL_law_1886 : decode cL_law 1886 = .ok (.aload_n 0, 1) := dgt dbL_law_1789 63 rfl
theorem dL_law_1887 : decode cL_law 1887 = .ok (.iload 5, 2) := dgt dbL_law_1789 64 rfl
theorem dL_law_1889 : decode cL_law 1889 = .ok (.iconst 1, 1) := dgt dbL_law_1789 65 rfl
theorem dL_law_1890 : decode cL_law 1890 = .ok (.iadd, 1) := dgt dbL_law_1789 66 rfl
theorem dL_law_1891 : decode cL_law 1891 = .ok (.iaload, 1) := dgt dbL_law_1789 67 rfl
theorem dL_law_1892 : decode cL_law 1892 = .ok (.invokevirtual 340, 3) := dgt dbL_law_1789 68 rfl
theorem dL_law_1895 : decode cL_law 1895 = .ok (.istore 7, 2) := dgt dbL_law_1789 69 rfl
theorem dL_law_1897 : decode cL_law 1897 = .ok (.goto 1027, 3) := dgt dbL_law_1789 70 rfl
theorem dL_law_1900 : decode cL_law 1900 = .ok (.aload_n 1, 1) := dgt dbL_law_1789 71 rfl
theorem dL_law_1901 : decode cL_law 1901 = .ok (.aload_n 0, 1) := dgt dbL_law_1789 72 rfl
theorem dL_law_1902 : decode cL_law 1902 = .ok (.iload 5, 2) := dgt dbL_law_1789 73 rfl
theorem dL_law_1904 : decode cL_law 1904 = .ok (.iconst 1, 1) := dgt dbL_law_1789 74 rfl
theorem dL_law_1905 : decode cL_law 1905 = .ok (.iadd, 1) := dgt dbL_law_1789 75 rfl
theorem dL_law_1906 : decode cL_law 1906 = .ok (.iaload, 1) := dgt dbL_law_1789 76 rfl
theorem dL_law_1907 : decode cL_law 1907 = .ok (.aload_n 0, 1) := dgt dbL_law_1789 77 rfl
theorem dL_law_1908 : decode cL_law 1908 = .ok (.iload 5, 2) := dgt dbL_law_1789 78 rfl
theorem dL_law_1910 : decode cL_law 1910 = .ok (.iconst 2, 1) := dgt dbL_law_1789 79 rfl
def dlL_law_1911 : List (Nat × Instr × Nat) := [(1911, .iadd, 1), (1912, .iaload, 1), (1913, .aload_n 0, 1), (1914, .iload 5, 2), (1916, .iconst 3, 1), (1917, .iadd, 1), (1918, .iaload, 1), (1919, .aload_n 3, 1), (1920, .invokestatic 341, 3), (1923, .istore 6, 2), (1925, .aload_n 2, 1), (1926, .aload_n 0, 1), (1927, .iload 5, 2), (1929, .iconst 1, 1), (1930, .iadd, 1), (1931, .iaload, 1), (1932, .aload_n 0, 1), (1933, .iload 5, 2), (1935, .iconst 2, 1), (1936, .iadd, 1)]
theorem dbL_law_1911 : ∀ q ∈ dlL_law_1911, decode cL_law q.1 = .ok q.2 := by decide +kernel
theorem dL_law_1911 : decode cL_law 1911 = .ok (.iadd, 1) := dgt dbL_law_1911 0 rfl
theorem dL_law_1912 : decode cL_law 1912 = .ok (.iaload, 1) := dgt dbL_law_1911 1 rfl
theorem dL_law_1913 : decode cL_law 1913 = .ok (.aload_n 0, 1) := dgt dbL_law_1911 2 rfl
theorem dL_law_1914 : decode cL_law 1914 = .ok (.iload 5, 2) := dgt dbL_law_1911 3 rfl
theorem dL_law_1916 : decode cL_law 1916 = .ok (.iconst 3, 1) := dgt dbL_law_1911 4 rfl
theorem dL_law_1917 : decode cL_law 1917 = .ok (.iadd, 1) := dgt dbL_law_1911 5 rfl
theorem dL_law_1918 : decode cL_law 1918 = .ok (.iaload, 1) := dgt dbL_law_1911 6 rfl
theorem dL_law_1919 : decode cL_law 1919 = .ok (.aload_n 3, 1) := dgt dbL_law_1911 7 rfl
theorem dL_law_1920 : decode cL_law 1920 = .ok (.invokestatic 341, 3) := dgt dbL_law_1911 8 rfl
theorem dL_law_1923 : decode cL_law 1923 = .ok (.istore 6, 2) := dgt dbL_law_1911 9 rfl
theorem dL_law_1925 : decode cL_law 1925 = .ok (.aload_n 2, 1) := dgt dbL_law_1911 10 rfl
theorem dL_law_1926 : decode cL_law 1926 = .ok (.aload_n 0, 1) := dgt dbL_law_1911 11 rfl
theorem dL_law_1927 : decode cL_law 1927 = .ok (.iload 5, 2) := dgt dbL_law_1911 12 rfl
theorem dL_law_1929 : decode cL_law 1929 = .ok (.iconst 1, 1) := dgt dbL_law_1911 13 rfl
theorem dL_law_1930 : decode cL_law 1930 = .ok (.iadd, 1) := dgt dbL_law_1911 14 rfl
theorem dL_law_1931 : decode cL_law 1931 = .ok (.iaload, 1) := dgt dbL_law_1911 15 rfl
theorem dL_law_1932 : decode cL_law 1932 = .ok (.aload_n 0, 1) := dgt dbL_law_1911 16 rfl
theorem dL_law_1933 : decode cL_law 1933 = .ok (.iload 5, 2) := dgt dbL_law_1911 17 rfl
theorem dL_law_1935 : decode cL_law 1935 = .ok (.iconst 2, 1) := dgt dbL_law_1911 18 rfl
theorem dL_law_1936 : decode cL_law 1936 = .ok (.iadd, 1) := dgt dbL_law_1911 19 rfl

