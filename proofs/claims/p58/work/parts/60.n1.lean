theorem kqdL_law_676 : kq cL_law [(676, .iadd, 1), (677, .iaload, 1), (678, .invokevirtual 63, 3), (681, .pop, 1), (682, .aload_n 2, 1), (683, .aload_n 0, 1), (684, .iload_n 3, 1), (685, .iconst 1, 1), (686, .iadd, 1), (687, .iaload, 1), (688, .invokevirtual 66, 3), (691, .pop, 1), (692, .goto 1264, 3), (695, .aload_n 1, 1), (696, .aload_n 0, 1), (697, .iload_n 3, 1), (698, .iconst 1, 1), (699, .iadd, 1), (700, .iaload, 1), (701, .invokevirtual 67, 3), (704, .pop, 1), (705, .aload_n 2, 1), (706, .aload_n 0, 1), (707, .iload_n 3, 1), (708, .iconst 1, 1), (709, .iadd, 1), (710, .iaload, 1), (711, .invokevirtual 70, 3), (714, .pop, 1), (715, .goto 1241, 3), (718, .aload_n 1, 1), (719, .aload_n 0, 1), (720, .iload_n 3, 1), (721, .iconst 1, 1), (722, .iadd, 1), (723, .iaload, 1), (724, .aload_n 0, 1), (725, .iload_n 3, 1), (726, .iconst 2, 1), (727, .iadd, 1), (728, .iaload, 1), (729, .invokevirtual 71, 3), (732, .pop, 1), (733, .aload_n 2, 1), (734, .aload_n 0, 1), (735, .iload_n 3, 1), (736, .iconst 1, 1), (737, .iadd, 1), (738, .iaload, 1), (739, .aload_n 0, 1), (740, .iload_n 3, 1), (741, .iconst 2, 1), (742, .iadd, 1), (743, .iaload, 1), (744, .invokevirtual 75, 3), (747, .pop, 1), (748, .goto 1208, 3), (751, .aload_n 1, 1), (752, .aload_n 0, 1), (753, .iload_n 3, 1), (754, .iconst 1, 1), (755, .iadd, 1), (756, .iaload, 1), (757, .aload_n 0, 1)] = true := by decide +kernel
theorem dL_law_676 : decode cL_law 676 = .ok (.iadd, 1) := kq.at kqdL_law_676 0 rfl
theorem dL_law_677 : decode cL_law 677 = .ok (.iaload, 1) := kq.at kqdL_law_676 1 rfl
theorem dL_law_678 : decode cL_law 678 = .ok (.invokevirtual 63, 3) := kq.at kqdL_law_676 2 rfl
theorem dL_law_681 : decode cL_law 681 = .ok (.pop, 1) := kq.at kqdL_law_676 3 rfl
theorem dL_law_682 : decode cL_law 682 = .ok (.aload_n 2, 1) := kq.at kqdL_law_676 4 rfl
theorem dL_law_683 : decode cL_law 683 = .ok (.aload_n 0, 1) := kq.at kqdL_law_676 5 rfl
theorem dL_law_684 : decode cL_law 684 = .ok (.iload_n 3, 1) := kq.at kqdL_law_676 6 rfl
theorem dL_law_685 : decode cL_law 685 = .ok (.iconst 1, 1) := kq.at kqdL_law_676 7 rfl
theorem dL_law_686 : decode cL_law 686 = .ok (.iadd, 1) := kq.at kqdL_law_676 8 rfl
theorem dL_law_687 : decode cL_law 687 = .ok (.iaload, 1) := kq.at kqdL_law_676 9 rfl
theorem dL_law_688 : decode cL_law 688 = .ok (.invokevirtual 66, 3) := kq.at kqdL_law_676 10 rfl
theorem dL_law_691 : decode cL_law 691 = .ok (.pop, 1) := kq.at kqdL_law_676 11 rfl
theorem dL_law_692 : decode cL_law 692 = .ok (.goto 1264, 3) := kq.at kqdL_law_676 12 rfl
theorem dL_law_695 : decode cL_law 695 = .ok (.aload_n 1, 1) := kq.at kqdL_law_676 13 rfl
theorem dL_law_696 : decode cL_law 696 = .ok (.aload_n 0, 1) := kq.at kqdL_law_676 14 rfl
theorem dL_law_697 : decode cL_law 697 = .ok (.iload_n 3, 1) := kq.at kqdL_law_676 15 rfl
theorem dL_law_698 : decode cL_law 698 = .ok (.iconst 1, 1) := kq.at kqdL_law_676 16 rfl
theorem dL_law_699 : decode cL_law 699 = .ok (.iadd, 1) := kq.at kqdL_law_676 17 rfl
theorem dL_law_700 : decode cL_law 700 = .ok (.iaload, 1) := kq.at kqdL_law_676 18 rfl
theorem dL_law_701 : decode cL_law 701 = .ok (.invokevirtual 67, 3) := kq.at kqdL_law_676 19 rfl
theorem dL_law_704 : decode cL_law 704 = .ok (.pop, 1) := kq.at kqdL_law_676 20 rfl
theorem dL_law_705 : decode cL_law 705 = .ok (.aload_n 2, 1) := kq.at kqdL_law_676 21 rfl
theorem dL_law_706 : decode cL_law 706 = .ok (.aload_n 0, 1) := kq.at kqdL_law_676 22 rfl
theorem dL_law_707 : decode cL_law 707 = .ok (.iload_n 3, 1) := kq.at kqdL_law_676 23 rfl
theorem dL_law_708 : decode cL_law 708 = .ok (.iconst 1, 1) := kq.at kqdL_law_676 24 rfl
theorem dL_law_709 : decode cL_law 709 = .ok (.iadd, 1) := kq.at kqdL_law_676 25 rfl
theorem dL_law_710 : decode cL_law 710 = .ok (.iaload, 1) := kq.at kqdL_law_676 26 rfl
theorem dL_law_711 : decode cL_law 711 = .ok (.invokevirtual 70, 3) := kq.at kqdL_law_676 27 rfl
theorem dL_law_714 : decode cL_law 714 = .ok (.pop, 1) := kq.at kqdL_law_676 28 rfl
theorem dL_law_715 : decode cL_law 715 = .ok (.goto 1241, 3) := kq.at kqdL_law_676 29 rfl
theorem dL_law_718 : decode cL_law 718 = .ok (.aload_n 1, 1) := kq.at kqdL_law_676 30 rfl
theorem dL_law_719 : decode cL_law 719 = .ok (.aload_n 0, 1) := kq.at kqdL_law_676 31 rfl
theorem dL_law_720 : decode cL_law 720 = .ok (.iload_n 3, 1) := kq.at kqdL_law_676 32 rfl
theorem dL_law_721 : decode cL_law 721 = .ok (.iconst 1, 1) := kq.at kqdL_law_676 33 rfl
theorem dL_law_722 : decode cL_law 722 = .ok (.iadd, 1) := kq.at kqdL_law_676 34 rfl
theorem dL_law_723 : decode cL_law 723 = .ok (.iaload, 1) := kq.at kqdL_law_676 35 rfl
theorem dL_law_724 : decode cL_law 724 = .ok (.aload_n 0, 1) := kq.at kqdL_law_676 36 rfl
theorem dL_law_725 : decode cL_law 725 = .ok (.iload_n 3, 1) := kq.at kqdL_law_676 37 rfl
theorem dL_law_726 : decode cL_law 726 = .ok (.iconst 2, 1) := kq.at kqdL_law_676 38 rfl
theorem dL_law_727 : decode cL_law 727 = .ok (.iadd, 1) := kq.at kqdL_law_676 39 rfl
theorem dL_law_728 : decode cL_law 728 = .ok (.iaload, 1) := kq.at kqdL_law_676 40 rfl
theorem dL_law_729 : decode cL_law 729 = .ok (.invokevirtual 71, 3) := kq.at kqdL_law_676 41 rfl
theorem dL_law_732 : decode cL_law 732 = .ok (.pop, 1) := kq.at kqdL_law_676 42 rfl
theorem dL_law_733 : decode cL_law 733 = .ok (.aload_n 2, 1) := kq.at kqdL_law_676 43 rfl
theorem dL_law_734 : decode cL_law 734 = .ok (.aload_n 0, 1) := kq.at kqdL_law_676 44 rfl
theorem dL_law_735 : decode cL_law 735 = .ok (.iload_n 3, 1) := kq.at kqdL_law_676 45 rfl
theorem dL_law_736 : decode cL_law 736 = .ok (.iconst 1, 1) := kq.at kqdL_law_676 46 rfl
theorem dL_law_737 : decode cL_law 737 = .ok (.iadd, 1) := kq.at kqdL_law_676 47 rfl
theorem dL_law_738 : decode cL_law 738 = .ok (.iaload, 1) := kq.at kqdL_law_676 48 rfl
theorem dL_law_739 : decode cL_law 739 = .ok (.aload_n 0, 1) := kq.at kqdL_law_676 49 rfl
theorem dL_law_740 : decode cL_law 740 = .ok (.iload_n 3, 1) := kq.at kqdL_law_676 50 rfl
theorem dL_law_741 : decode cL_law 741 = .ok (.iconst 2, 1) := kq.at kqdL_law_676 51 rfl
theorem dL_law_742 : decode cL_law 742 = .ok (.iadd, 1) := kq.at kqdL_law_676 52 rfl
theorem dL_law_743 : decode cL_law 743 = .ok (.iaload, 1) := kq.at kqdL_law_676 53 rfl
theorem dL_law_744 : decode cL_law 744 = .ok (.invokevirtual 75, 3) := kq.at kqdL_law_676 54 rfl
theorem dL_law_747 : decode cL_law 747 = .ok (.pop, 1) := kq.at kqdL_law_676 55 rfl
theorem dL_law_748 : decode cL_law 748 = .ok (.goto 1208, 3) := kq.at kqdL_law_676 56 rfl
theorem dL_law_751 : decode cL_law 751 = .ok (.aload_n 1, 1) := kq.at kqdL_law_676 57 rfl
theorem dL_law_752 : decode cL_law 752 = .ok (.aload_n 0, 1) := kq.at kqdL_law_676 58 rfl
theorem dL_law_753 : decode cL_law 753 = .ok (.iload_n 3, 1) := kq.at kqdL_law_676 59 rfl
theorem dL_law_754 : decode cL_law 754 = .ok (.iconst 1, 1) := kq.at kqdL_law_676 60 rfl
theorem dL_law_755 : decode cL_law 755 = .ok (.iadd, 1) := kq.at kqdL_law_676 61 rfl
theorem dL_law_756 : decode cL_law 756 = .ok (.iaload, 1) := kq.at kqdL_law_676 62 rfl
theorem dL_law_757 : decode cL_law 757 = .ok (.aload_n 0, 1) := kq.at kqdL_law_676 63 rfl
theorem kqdL_law_758 : kq cL_law [(758, .iload_n 3, 1), (759, .iconst 2, 1), (760, .iadd, 1), (761, .iaload, 1), (762, .invokevirtual 76, 3), (765, .pop, 1), (766, .aload_n 2, 1), (767, .aload_n 0, 1), (768, .iload_n 3, 1), (769, .iconst 1, 1), (770, .iadd, 1), (771, .iaload, 1), (772, .aload_n 0, 1), (773, .iload_n 3, 1), (774, .iconst 2, 1), (775, .iadd, 1), (776, .iaload, 1), (777, .invokevirtual 79, 3), (780, .pop, 1), (781, .goto 1175, 3), (784, .aload_n 1, 1), (785, .aload_n 0, 1), (786, .iload_n 3, 1), (787, .iconst 1, 1), (788, .iadd, 1), (789, .iaload, 1), (790, .aload_n 0, 1), (791, .iload_n 3, 1), (792, .iconst 2, 1), (793, .iadd, 1), (794, .iaload, 1), (795, .invokevirtual 80, 3), (798, .pop, 1), (799, .aload_n 2, 1), (800, .aload_n 0, 1), (801, .iload_n 3, 1), (802, .iconst 1, 1), (803, .iadd, 1), (804, .iaload, 1), (805, .aload_n 0, 1), (806, .iload_n 3, 1), (807, .iconst 2, 1), (808, .iadd, 1), (809, .iaload, 1), (810, .invokevirtual 83, 3), (813, .pop, 1), (814, .goto 1142, 3), (817, .aload_n 1, 1), (818, .aload_n 0, 1), (819, .iload_n 3, 1), (820, .iconst 1, 1), (821, .iadd, 1), (822, .iaload, 1), (823, .aload_n 0, 1), (824, .iload_n 3, 1), (825, .iconst 2, 1), (826, .iadd, 1), (827, .iaload, 1), (828, .ifCond .eq 7, 3), (831, .iconst 1, 1), (832, .goto 4, 3), (835, .iconst 0, 1), (836, .invokevirtual 84, 3), (839, .pop, 1)] = true := by decide +kernel
theorem dL_law_758 : decode cL_law 758 = .ok (.iload_n 3, 1) := kq.at kqdL_law_758 0 rfl
theorem dL_law_759 : decode cL_law 759 = .ok (.iconst 2, 1) := kq.at kqdL_law_758 1 rfl
theorem dL_law_760 : decode cL_law 760 = .ok (.iadd, 1) := kq.at kqdL_law_758 2 rfl
theorem dL_law_761 : decode cL_law 761 = .ok (.iaload, 1) := kq.at kqdL_law_758 3 rfl
theorem dL_law_762 : decode cL_law 762 = .ok (.invokevirtual 76, 3) := kq.at kqdL_law_758 4 rfl
theorem dL_law_765 : decode cL_law 765 = .ok (.pop, 1) := kq.at kqdL_law_758 5 rfl
theorem dL_law_766 : decode cL_law 766 = .ok (.aload_n 2, 1) := kq.at kqdL_law_758 6 rfl
theorem dL_law_767 : decode cL_law 767 = .ok (.aload_n 0, 1) := kq.at kqdL_law_758 7 rfl
theorem dL_law_768 : decode cL_law 768 = .ok (.iload_n 3, 1) := kq.at kqdL_law_758 8 rfl
theorem dL_law_769 : decode cL_law 769 = .ok (.iconst 1, 1) := kq.at kqdL_law_758 9 rfl
theorem dL_law_770 : decode cL_law 770 = .ok (.iadd, 1) := kq.at kqdL_law_758 10 rfl
theorem dL_law_771 : decode cL_law 771 = .ok (.iaload, 1) := kq.at kqdL_law_758 11 rfl
theorem dL_law_772 : decode cL_law 772 = .ok (.aload_n 0, 1) := kq.at kqdL_law_758 12 rfl
theorem dL_law_773 : decode cL_law 773 = .ok (.iload_n 3, 1) := kq.at kqdL_law_758 13 rfl
theorem dL_law_774 : decode cL_law 774 = .ok (.iconst 2, 1) := kq.at kqdL_law_758 14 rfl
theorem dL_law_775 : decode cL_law 775 = .ok (.iadd, 1) := kq.at kqdL_law_758 15 rfl
theorem dL_law_776 : decode cL_law 776 = .ok (.iaload, 1) := kq.at kqdL_law_758 16 rfl
theorem dL_law_777 : decode cL_law 777 = .ok (.invokevirtual 79, 3) := kq.at kqdL_law_758 17 rfl
theorem dL_law_780 : decode cL_law 780 = .ok (.pop, 1) := kq.at kqdL_law_758 18 rfl
theorem dL_law_781 : decode cL_law 781 = .ok (.goto 1175, 3) := kq.at kqdL_law_758 19 rfl
theorem dL_law_784 : decode cL_law 784 = .ok (.aload_n 1, 1) := kq.at kqdL_law_758 20 rfl
theorem dL_law_785 : decode cL_law 785 = .ok (.aload_n 0, 1) := kq.at kqdL_law_758 21 rfl
theorem dL_law_786 : decode cL_law 786 = .ok (.iload_n 3, 1) := kq.at kqdL_law_758 22 rfl
theorem dL_law_787 : decode cL_law 787 = .ok (.iconst 1, 1) := kq.at kqdL_law_758 23 rfl
theorem dL_law_788 : decode cL_law 788 = .ok (.iadd, 1) := kq.at kqdL_law_758 24 rfl
theorem dL_law_789 : decode cL_law 789 = .ok (.iaload, 1) := kq.at kqdL_law_758 25 rfl
theorem dL_law_790 : decode cL_law 790 = .ok (.aload_n 0, 1) := kq.at kqdL_law_758 26 rfl
theorem dL_law_791 : decode cL_law 791 = .ok (.iload_n 3, 1) := kq.at kqdL_law_758 27 rfl
theorem dL_law_792 : decode cL_law 792 = .ok (.iconst 2, 1) := kq.at kqdL_law_758 28 rfl
theorem dL_law_793 : decode cL_law 793 = .ok (.iadd, 1) := kq.at kqdL_law_758 29 rfl
theorem dL_law_794 : decode cL_law 794 = .ok (.iaload, 1) := kq.at kqdL_law_758 30 rfl
theorem dL_law_795 : decode cL_law 795 = .ok (.invokevirtual 80, 3) := kq.at kqdL_law_758 31 rfl
theorem dL_law_798 : decode cL_law 798 = .ok (.pop, 1) := kq.at kqdL_law_758 32 rfl
theorem dL_law_799 : decode cL_law 799 = .ok (.aload_n 2, 1) := kq.at kqdL_law_758 33 rfl
theorem dL_law_800 : decode cL_law 800 = .ok (.aload_n 0, 1) := kq.at kqdL_law_758 34 rfl
theorem dL_law_801 : decode cL_law 801 = .ok (.iload_n 3, 1) := kq.at kqdL_law_758 35 rfl
theorem dL_law_802 : decode cL_law 802 = .ok (.iconst 1, 1) := kq.at kqdL_law_758 36 rfl
theorem dL_law_803 : decode cL_law 803 = .ok (.iadd, 1) := kq.at kqdL_law_758 37 rfl
theorem dL_law_804 : decode cL_law 804 = .ok (.iaload, 1) := kq.at kqdL_law_758 38 rfl
theorem dL_law_805 : decode cL_law 805 = .ok (.aload_n 0, 1) := kq.at kqdL_law_758 39 rfl
theorem dL_law_806 : decode cL_law 806 = .ok (.iload_n 3, 1) := kq.at kqdL_law_758 40 rfl
theorem dL_law_807 : decode cL_law 807 = .ok (.iconst 2, 1) := kq.at kqdL_law_758 41 rfl
theorem dL_law_808 : decode cL_law 808 = .ok (.iadd, 1) := kq.at kqdL_law_758 42 rfl
theorem dL_law_809 : decode cL_law 809 = .ok (.iaload, 1) := kq.at kqdL_law_758 43 rfl
theorem dL_law_810 : decode cL_law 810 = .ok (.invokevirtual 83, 3) := kq.at kqdL_law_758 44 rfl
theorem dL_law_813 : decode cL_law 813 = .ok (.pop, 1) := kq.at kqdL_law_758 45 rfl
theorem dL_law_814 : decode cL_law 814 = .ok (.goto 1142, 3) := kq.at kqdL_law_758 46 rfl
theorem dL_law_817 : decode cL_law 817 = .ok (.aload_n 1, 1) := kq.at kqdL_law_758 47 rfl
theorem dL_law_818 : decode cL_law 818 = .ok (.aload_n 0, 1) := kq.at kqdL_law_758 48 rfl
theorem dL_law_819 : decode cL_law 819 = .ok (.iload_n 3, 1) := kq.at kqdL_law_758 49 rfl
theorem dL_law_820 : decode cL_law 820 = .ok (.iconst 1, 1) := kq.at kqdL_law_758 50 rfl
theorem dL_law_821 : decode cL_law 821 = .ok (.iadd, 1) := kq.at kqdL_law_758 51 rfl
theorem dL_law_822 : decode cL_law 822 = .ok (.iaload, 1) := kq.at kqdL_law_758 52 rfl
theorem dL_law_823 : decode cL_law 823 = .ok (.aload_n 0, 1) := kq.at kqdL_law_758 53 rfl
theorem dL_law_824 : decode cL_law 824 = .ok (.iload_n 3, 1) := kq.at kqdL_law_758 54 rfl
theorem dL_law_825 : decode cL_law 825 = .ok (.iconst 2, 1) := kq.at kqdL_law_758 55 rfl
theorem dL_law_826 : decode cL_law 826 = .ok (.iadd, 1) := kq.at kqdL_law_758 56 rfl
theorem dL_law_827 : decode cL_law 827 = .ok (.iaload, 1) := kq.at kqdL_law_758 57 rfl
theorem dL_law_828 : decode cL_law 828 = .ok (.ifCond .eq 7, 3) := kq.at kqdL_law_758 58 rfl
theorem dL_law_831 : decode cL_law 831 = .ok (.iconst 1, 1) := kq.at kqdL_law_758 59 rfl
theorem dL_law_832 : decode cL_law 832 = .ok (.goto 4, 3) := kq.at kqdL_law_758 60 rfl
theorem dL_law_835 : decode cL_law 835 = .ok (.iconst 0, 1) := kq.at kqdL_law_758 61 rfl
theorem dL_law_836 : decode cL_law 836 = .ok (.invokevirtual 84, 3) := kq.at kqdL_law_758 62 rfl
theorem dL_law_839 : decode cL_law 839 = .ok (.pop, 1) := kq.at kqdL_law_758 63 rfl
theorem kqdL_law_840 : kq cL_law [(840, .aload_n 2, 1), (841, .aload_n 0, 1), (842, .iload_n 3, 1), (843, .iconst 1, 1), (844, .iadd, 1), (845, .iaload, 1), (846, .aload_n 0, 1), (847, .iload_n 3, 1), (848, .iconst 2, 1), (849, .iadd, 1), (850, .iaload, 1), (851, .ifCond .eq 7, 3), (854, .iconst 1, 1), (855, .goto 4, 3), (858, .iconst 0, 1), (859, .invokevirtual 88, 3), (862, .pop, 1), (863, .goto 1093, 3), (866, .aload_n 1, 1), (867, .invokevirtual 89, 3), (870, .pop, 1), (871, .aload_n 2, 1), (872, .invokevirtual 92, 3), (875, .pop, 1), (876, .goto 1080, 3), (879, .aload_n 1, 1), (880, .aload_n 0, 1), (881, .iload_n 3, 1), (882, .iconst 1, 1), (883, .iadd, 1), (884, .iaload, 1), (885, .invokevirtual 93, 3), (888, .pop, 1), (889, .aload_n 2, 1), (890, .aload_n 0, 1), (891, .iload_n 3, 1), (892, .iconst 1, 1), (893, .iadd, 1), (894, .iaload, 1), (895, .invokevirtual 96, 3), (898, .pop, 1), (899, .goto 1057, 3), (902, .aload_n 1, 1), (903, .aload_n 0, 1), (904, .iload_n 3, 1), (905, .iconst 1, 1), (906, .iadd, 1), (907, .iaload, 1), (908, .invokevirtual 97, 3), (911, .pop, 1), (912, .aload_n 2, 1), (913, .aload_n 0, 1), (914, .iload_n 3, 1), (915, .iconst 1, 1), (916, .iadd, 1), (917, .iaload, 1), (918, .invokevirtual 100, 3), (921, .pop, 1), (922, .goto 1034, 3), (925, .aload_n 1, 1), (926, .aload_n 0, 1), (927, .iload_n 3, 1), (928, .iconst 1, 1), (929, .iadd, 1)] = true := by decide +kernel
theorem dL_law_840 : decode cL_law 840 = .ok (.aload_n 2, 1) := kq.at kqdL_law_840 0 rfl
theorem dL_law_841 : decode cL_law 841 = .ok (.aload_n 0, 1) := kq.at kqdL_law_840 1 rfl
theorem dL_law_842 : decode cL_law 842 = .ok (.iload_n 3, 1) := kq.at kqdL_law_840 2 rfl
theorem dL_law_843 : decode cL_law 843 = .ok (.iconst 1, 1) := kq.at kqdL_law_840 3 rfl
theorem dL_law_844 : decode cL_law 844 = .ok (.iadd, 1) := kq.at kqdL_law_840 4 rfl
theorem dL_law_845 : decode cL_law 845 = .ok (.iaload, 1) := kq.at kqdL_law_840 5 rfl
theorem dL_law_846 : decode cL_law 846 = .ok (.aload_n 0, 1) := kq.at kqdL_law_840 6 rfl
theorem dL_law_847 : decode cL_law 847 = .ok (.iload_n 3, 1) := kq.at kqdL_law_840 7 rfl
theorem dL_law_848 : decode cL_law 848 = .ok (.iconst 2, 1) := kq.at kqdL_law_840 8 rfl
theorem dL_law_849 : decode cL_law 849 = .ok (.iadd, 1) := kq.at kqdL_law_840 9 rfl
theorem dL_law_850 : decode cL_law 850 = .ok (.iaload, 1) := kq.at kqdL_law_840 10 rfl
theorem dL_law_851 : decode cL_law 851 = .ok (.ifCond .eq 7, 3) := kq.at kqdL_law_840 11 rfl
theorem dL_law_854 : decode cL_law 854 = .ok (.iconst 1, 1) := kq.at kqdL_law_840 12 rfl
theorem dL_law_855 : decode cL_law 855 = .ok (.goto 4, 3) := kq.at kqdL_law_840 13 rfl
theorem dL_law_858 : decode cL_law 858 = .ok (.iconst 0, 1) := kq.at kqdL_law_840 14 rfl
theorem dL_law_859 : decode cL_law 859 = .ok (.invokevirtual 88, 3) := kq.at kqdL_law_840 15 rfl
theorem dL_law_862 : decode cL_law 862 = .ok (.pop, 1) := kq.at kqdL_law_840 16 rfl
theorem dL_law_863 : decode cL_law 863 = .ok (.goto 1093, 3) := kq.at kqdL_law_840 17 rfl
theorem dL_law_866 : decode cL_law 866 = .ok (.aload_n 1, 1) := kq.at kqdL_law_840 18 rfl
theorem dL_law_867 : decode cL_law 867 = .ok (.invokevirtual 89, 3) := kq.at kqdL_law_840 19 rfl
theorem dL_law_870 : decode cL_law 870 = .ok (.pop, 1) := kq.at kqdL_law_840 20 rfl
theorem dL_law_871 : decode cL_law 871 = .ok (.aload_n 2, 1) := kq.at kqdL_law_840 21 rfl
theorem dL_law_872 : decode cL_law 872 = .ok (.invokevirtual 92, 3) := kq.at kqdL_law_840 22 rfl
theorem dL_law_875 : decode cL_law 875 = .ok (.pop, 1) := kq.at kqdL_law_840 23 rfl
theorem dL_law_876 : decode cL_law 876 = .ok (.goto 1080, 3) := kq.at kqdL_law_840 24 rfl
theorem dL_law_879 : decode cL_law 879 = .ok (.aload_n 1, 1) := kq.at kqdL_law_840 25 rfl
theorem dL_law_880 : decode cL_law 880 = .ok (.aload_n 0, 1) := kq.at kqdL_law_840 26 rfl
theorem dL_law_881 : decode cL_law 881 = .ok (.iload_n 3, 1) := kq.at kqdL_law_840 27 rfl
theorem dL_law_882 : decode cL_law 882 = .ok (.iconst 1, 1) := kq.at kqdL_law_840 28 rfl
theorem dL_law_883 : decode cL_law 883 = .ok (.iadd, 1) := kq.at kqdL_law_840 29 rfl
theorem dL_law_884 : decode cL_law 884 = .ok (.iaload, 1) := kq.at kqdL_law_840 30 rfl
theorem dL_law_885 : decode cL_law 885 = .ok (.invokevirtual 93, 3) := kq.at kqdL_law_840 31 rfl
theorem dL_law_888 : decode cL_law 888 = .ok (.pop, 1) := kq.at kqdL_law_840 32 rfl
theorem dL_law_889 : decode cL_law 889 = .ok (.aload_n 2, 1) := kq.at kqdL_law_840 33 rfl
theorem dL_law_890 : decode cL_law 890 = .ok (.aload_n 0, 1) := kq.at kqdL_law_840 34 rfl
theorem dL_law_891 : decode cL_law 891 = .ok (.iload_n 3, 1) := kq.at kqdL_law_840 35 rfl
theorem dL_law_892 : decode cL_law 892 = .ok (.iconst 1, 1) := kq.at kqdL_law_840 36 rfl
theorem dL_law_893 : decode cL_law 893 = .ok (.iadd, 1) := kq.at kqdL_law_840 37 rfl
theorem dL_law_894 : decode cL_law 894 = .ok (.iaload, 1) := kq.at kqdL_law_840 38 rfl
theorem dL_law_895 : decode cL_law 895 = .ok (.invokevirtual 96, 3) := kq.at kqdL_law_840 39 rfl
theorem dL_law_898 : decode cL_law 898 = .ok (.pop, 1) := kq.at kqdL_law_840 40 rfl
theorem dL_law_899 : decode cL_law 899 = .ok (.goto 1057, 3) := kq.at kqdL_law_840 41 rfl
theorem dL_law_902 : decode cL_law 902 = .ok (.aload_n 1, 1) := kq.at kqdL_law_840 42 rfl
theorem dL_law_903 : decode cL_law 903 = .ok (.aload_n 0, 1) := kq.at kqdL_law_840 43 rfl
theorem dL_law_904 : decode cL_law 904 = .ok (.iload_n 3, 1) := kq.at kqdL_law_840 44 rfl
theorem dL_law_905 : decode cL_law 905 = .ok (.iconst 1, 1) := kq.at kqdL_law_840 45 rfl
theorem dL_law_906 : decode cL_law 906 = .ok (.iadd, 1) := kq.at kqdL_law_840 46 rfl
theorem dL_law_907 : decode cL_law 907 = .ok (.iaload, 1) := kq.at kqdL_law_840 47 rfl
theorem dL_law_908 : decode cL_law 908 = .ok (.invokevirtual 97, 3) := kq.at kqdL_law_840 48 rfl
theorem dL_law_911 : decode cL_law 911 = .ok (.pop, 1) := kq.at kqdL_law_840 49 rfl
theorem dL_law_912 : decode cL_law 912 = .ok (.aload_n 2, 1) := kq.at kqdL_law_840 50 rfl
theorem dL_law_913 : decode cL_law 913 = .ok (.aload_n 0, 1) := kq.at kqdL_law_840 51 rfl
theorem dL_law_914 : decode cL_law 914 = .ok (.iload_n 3, 1) := kq.at kqdL_law_840 52 rfl
theorem dL_law_915 : decode cL_law 915 = .ok (.iconst 1, 1) := kq.at kqdL_law_840 53 rfl
theorem dL_law_916 : decode cL_law 916 = .ok (.iadd, 1) := kq.at kqdL_law_840 54 rfl
theorem dL_law_917 : decode cL_law 917 = .ok (.iaload, 1) := kq.at kqdL_law_840 55 rfl
theorem dL_law_918 : decode cL_law 918 = .ok (.invokevirtual 100, 3) := kq.at kqdL_law_840 56 rfl
theorem dL_law_921 : decode cL_law 921 = .ok (.pop, 1) := kq.at kqdL_law_840 57 rfl
theorem dL_law_922 : decode cL_law 922 = .ok (.goto 1034, 3) := kq.at kqdL_law_840 58 rfl
theorem dL_law_925 : decode cL_law 925 = .ok (.aload_n 1, 1) := kq.at kqdL_law_840 59 rfl
theorem dL_law_926 : decode cL_law 926 = .ok (.aload_n 0, 1) := kq.at kqdL_law_840 60 rfl
theorem dL_law_927 : decode cL_law 927 = .ok (.iload_n 3, 1) := kq.at kqdL_law_840 61 rfl
theorem dL_law_928 : decode cL_law 928 = .ok (.iconst 1, 1) := kq.at kqdL_law_840 62 rfl
theorem dL_law_929 : decode cL_law 929 = .ok (.iadd, 1) := kq.at kqdL_law_840 63 rfl
theorem kqdL_law_930 : kq cL_law [(930, .iaload, 1), (931, .invokevirtual 101, 3), (934, .pop, 1), (935, .aload_n 2, 1), (936, .aload_n 0, 1), (937, .iload_n 3, 1), (938, .iconst 1, 1), (939, .iadd, 1), (940, .iaload, 1), (941, .invokevirtual 104, 3), (944, .pop, 1), (945, .goto 1011, 3), (948, .aload_n 1, 1), (949, .aload_n 0, 1), (950, .iload_n 3, 1), (951, .iconst 1, 1), (952, .iadd, 1), (953, .iaload, 1), (954, .aload_n 0, 1), (955, .iload_n 3, 1), (956, .iconst 2, 1), (957, .iadd, 1), (958, .iaload, 1), (959, .invokevirtual 105, 3), (962, .pop, 1), (963, .aload_n 2, 1), (964, .aload_n 0, 1), (965, .iload_n 3, 1), (966, .iconst 1, 1), (967, .iadd, 1), (968, .iaload, 1), (969, .aload_n 0, 1), (970, .iload_n 3, 1), (971, .iconst 2, 1), (972, .iadd, 1), (973, .iaload, 1), (974, .invokevirtual 108, 3), (977, .pop, 1), (978, .goto 978, 3), (981, .aload_n 1, 1), (982, .aload_n 0, 1), (983, .iload_n 3, 1), (984, .iconst 1, 1), (985, .iadd, 1), (986, .iaload, 1), (987, .aload_n 0, 1), (988, .iload_n 3, 1), (989, .iconst 2, 1), (990, .iadd, 1), (991, .iaload, 1), (992, .aload_n 0, 1), (993, .iload_n 3, 1), (994, .iconst 3, 1), (995, .iadd, 1), (996, .iaload, 1), (997, .invokevirtual 109, 3), (1000, .pop, 1), (1001, .aload_n 2, 1), (1002, .aload_n 0, 1), (1003, .iload_n 3, 1), (1004, .iconst 1, 1), (1005, .iadd, 1), (1006, .iaload, 1), (1007, .aload_n 0, 1)] = true := by decide +kernel
theorem dL_law_930 : decode cL_law 930 = .ok (.iaload, 1) := kq.at kqdL_law_930 0 rfl
theorem dL_law_931 : decode cL_law 931 = .ok (.invokevirtual 101, 3) := kq.at kqdL_law_930 1 rfl
theorem dL_law_934 : decode cL_law 934 = .ok (.pop, 1) := kq.at kqdL_law_930 2 rfl
theorem dL_law_935 : decode cL_law 935 = .ok (.aload_n 2, 1) := kq.at kqdL_law_930 3 rfl
theorem dL_law_936 : decode cL_law 936 = .ok (.aload_n 0, 1) := kq.at kqdL_law_930 4 rfl
theorem dL_law_937 : decode cL_law 937 = .ok (.iload_n 3, 1) := kq.at kqdL_law_930 5 rfl
theorem dL_law_938 : decode cL_law 938 = .ok (.iconst 1, 1) := kq.at kqdL_law_930 6 rfl
theorem dL_law_939 : decode cL_law 939 = .ok (.iadd, 1) := kq.at kqdL_law_930 7 rfl
theorem dL_law_940 : decode cL_law 940 = .ok (.iaload, 1) := kq.at kqdL_law_930 8 rfl
theorem dL_law_941 : decode cL_law 941 = .ok (.invokevirtual 104, 3) := kq.at kqdL_law_930 9 rfl
theorem dL_law_944 : decode cL_law 944 = .ok (.pop, 1) := kq.at kqdL_law_930 10 rfl
theorem dL_law_945 : decode cL_law 945 = .ok (.goto 1011, 3) := kq.at kqdL_law_930 11 rfl
theorem dL_law_948 : decode cL_law 948 = .ok (.aload_n 1, 1) := kq.at kqdL_law_930 12 rfl
theorem dL_law_949 : decode cL_law 949 = .ok (.aload_n 0, 1) := kq.at kqdL_law_930 13 rfl
theorem dL_law_950 : decode cL_law 950 = .ok (.iload_n 3, 1) := kq.at kqdL_law_930 14 rfl
theorem dL_law_951 : decode cL_law 951 = .ok (.iconst 1, 1) := kq.at kqdL_law_930 15 rfl
theorem dL_law_952 : decode cL_law 952 = .ok (.iadd, 1) := kq.at kqdL_law_930 16 rfl
theorem dL_law_953 : decode cL_law 953 = .ok (.iaload, 1) := kq.at kqdL_law_930 17 rfl
theorem dL_law_954 : decode cL_law 954 = .ok (.aload_n 0, 1) := kq.at kqdL_law_930 18 rfl
theorem dL_law_955 : decode cL_law 955 = .ok (.iload_n 3, 1) := kq.at kqdL_law_930 19 rfl
theorem dL_law_956 : decode cL_law 956 = .ok (.iconst 2, 1) := kq.at kqdL_law_930 20 rfl
theorem dL_law_957 : decode cL_law 957 = .ok (.iadd, 1) := kq.at kqdL_law_930 21 rfl
theorem dL_law_958 : decode cL_law 958 = .ok (.iaload, 1) := kq.at kqdL_law_930 22 rfl
theorem dL_law_959 : decode cL_law 959 = .ok (.invokevirtual 105, 3) := kq.at kqdL_law_930 23 rfl
theorem dL_law_962 : decode cL_law 962 = .ok (.pop, 1) := kq.at kqdL_law_930 24 rfl
theorem dL_law_963 : decode cL_law 963 = .ok (.aload_n 2, 1) := kq.at kqdL_law_930 25 rfl
theorem dL_law_964 : decode cL_law 964 = .ok (.aload_n 0, 1) := kq.at kqdL_law_930 26 rfl
theorem dL_law_965 : decode cL_law 965 = .ok (.iload_n 3, 1) := kq.at kqdL_law_930 27 rfl
theorem dL_law_966 : decode cL_law 966 = .ok (.iconst 1, 1) := kq.at kqdL_law_930 28 rfl
theorem dL_law_967 : decode cL_law 967 = .ok (.iadd, 1) := kq.at kqdL_law_930 29 rfl
theorem dL_law_968 : decode cL_law 968 = .ok (.iaload, 1) := kq.at kqdL_law_930 30 rfl
theorem dL_law_969 : decode cL_law 969 = .ok (.aload_n 0, 1) := kq.at kqdL_law_930 31 rfl
theorem dL_law_970 : decode cL_law 970 = .ok (.iload_n 3, 1) := kq.at kqdL_law_930 32 rfl
theorem dL_law_971 : decode cL_law 971 = .ok (.iconst 2, 1) := kq.at kqdL_law_930 33 rfl
theorem dL_law_972 : decode cL_law 972 = .ok (.iadd, 1) := kq.at kqdL_law_930 34 rfl
theorem dL_law_973 : decode cL_law 973 = .ok (.iaload, 1) := kq.at kqdL_law_930 35 rfl
theorem dL_law_974 : decode cL_law 974 = .ok (.invokevirtual 108, 3) := kq.at kqdL_law_930 36 rfl
theorem dL_law_977 : decode cL_law 977 = .ok (.pop, 1) := kq.at kqdL_law_930 37 rfl
theorem dL_law_978 : decode cL_law 978 = .ok (.goto 978, 3) := kq.at kqdL_law_930 38 rfl
theorem dL_law_981 : decode cL_law 981 = .ok (.aload_n 1, 1) := kq.at kqdL_law_930 39 rfl
theorem dL_law_982 : decode cL_law 982 = .ok (.aload_n 0, 1) := kq.at kqdL_law_930 40 rfl
theorem dL_law_983 : decode cL_law 983 = .ok (.iload_n 3, 1) := kq.at kqdL_law_930 41 rfl
theorem dL_law_984 : decode cL_law 984 = .ok (.iconst 1, 1) := kq.at kqdL_law_930 42 rfl
theorem dL_law_985 : decode cL_law 985 = .ok (.iadd, 1) := kq.at kqdL_law_930 43 rfl
theorem dL_law_986 : decode cL_law 986 = .ok (.iaload, 1) := kq.at kqdL_law_930 44 rfl
theorem dL_law_987 : decode cL_law 987 = .ok (.aload_n 0, 1) := kq.at kqdL_law_930 45 rfl
theorem dL_law_988 : decode cL_law 988 = .ok (.iload_n 3, 1) := kq.at kqdL_law_930 46 rfl
theorem dL_law_989 : decode cL_law 989 = .ok (.iconst 2, 1) := kq.at kqdL_law_930 47 rfl
theorem dL_law_990 : decode cL_law 990 = .ok (.iadd, 1) := kq.at kqdL_law_930 48 rfl
theorem dL_law_991 : decode cL_law 991 = .ok (.iaload, 1) := kq.at kqdL_law_930 49 rfl
theorem dL_law_992 : decode cL_law 992 = .ok (.aload_n 0, 1) := kq.at kqdL_law_930 50 rfl
theorem dL_law_993 : decode cL_law 993 = .ok (.iload_n 3, 1) := kq.at kqdL_law_930 51 rfl
theorem dL_law_994 : decode cL_law 994 = .ok (.iconst 3, 1) := kq.at kqdL_law_930 52 rfl
theorem dL_law_995 : decode cL_law 995 = .ok (.iadd, 1) := kq.at kqdL_law_930 53 rfl
theorem dL_law_996 : decode cL_law 996 = .ok (.iaload, 1) := kq.at kqdL_law_930 54 rfl
theorem dL_law_997 : decode cL_law 997 = .ok (.invokevirtual 109, 3) := kq.at kqdL_law_930 55 rfl
theorem dL_law_1000 : decode cL_law 1000 = .ok (.pop, 1) := kq.at kqdL_law_930 56 rfl
theorem dL_law_1001 : decode cL_law 1001 = .ok (.aload_n 2, 1) := kq.at kqdL_law_930 57 rfl
theorem dL_law_1002 : decode cL_law 1002 = .ok (.aload_n 0, 1) := kq.at kqdL_law_930 58 rfl
theorem dL_law_1003 : decode cL_law 1003 = .ok (.iload_n 3, 1) := kq.at kqdL_law_930 59 rfl
theorem dL_law_1004 : decode cL_law 1004 = .ok (.iconst 1, 1) := kq.at kqdL_law_930 60 rfl
theorem dL_law_1005 : decode cL_law 1005 = .ok (.iadd, 1) := kq.at kqdL_law_930 61 rfl
theorem dL_law_1006 : decode cL_law 1006 = .ok (.iaload, 1) := kq.at kqdL_law_930 62 rfl
theorem dL_law_1007 : decode cL_law 1007 = .ok (.aload_n 0, 1) := kq.at kqdL_law_930 63 rfl
theorem kqdL_law_1008 : kq cL_law [(1008, .iload_n 3, 1), (1009, .iconst 2, 1), (1010, .iadd, 1), (1011, .iaload, 1), (1012, .aload_n 0, 1), (1013, .iload_n 3, 1), (1014, .iconst 3, 1), (1015, .iadd, 1), (1016, .iaload, 1), (1017, .invokevirtual 113, 3), (1020, .pop, 1), (1021, .goto 935, 3), (1024, .aload_n 1, 1), (1025, .invokevirtual 114, 3), (1028, .pop, 1), (1029, .aload_n 2, 1), (1030, .invokevirtual 117, 3), (1033, .pop, 1), (1034, .goto 922, 3), (1037, .aload_n 1, 1), (1038, .aload_n 0, 1), (1039, .iload_n 3, 1), (1040, .iconst 1, 1), (1041, .iadd, 1), (1042, .iaload, 1), (1043, .invokevirtual 118, 3), (1046, .pop, 1), (1047, .aload_n 2, 1), (1048, .aload_n 0, 1), (1049, .iload_n 3, 1), (1050, .iconst 1, 1), (1051, .iadd, 1), (1052, .iaload, 1), (1053, .invokevirtual 121, 3), (1056, .pop, 1), (1057, .goto 899, 3), (1060, .aload_n 1, 1), (1061, .invokevirtual 122, 3), (1064, .pop, 1), (1065, .aload_n 2, 1), (1066, .invokevirtual 125, 3), (1069, .pop, 1), (1070, .goto 886, 3), (1073, .aload_n 1, 1), (1074, .invokevirtual 126, 3), (1077, .pop, 1), (1078, .aload_n 2, 1), (1079, .invokevirtual 129, 3), (1082, .pop, 1), (1083, .goto 873, 3), (1086, .aload_n 1, 1), (1087, .invokevirtual 130, 3), (1090, .pop, 1), (1091, .aload_n 2, 1), (1092, .invokevirtual 133, 3), (1095, .pop, 1), (1096, .goto 860, 3), (1099, .aload_n 1, 1), (1100, .invokevirtual 134, 3), (1103, .pop, 1), (1104, .aload_n 2, 1), (1105, .invokevirtual 137, 3), (1108, .pop, 1), (1109, .goto 847, 3)] = true := by decide +kernel
theorem dL_law_1008 : decode cL_law 1008 = .ok (.iload_n 3, 1) := kq.at kqdL_law_1008 0 rfl
theorem dL_law_1009 : decode cL_law 1009 = .ok (.iconst 2, 1) := kq.at kqdL_law_1008 1 rfl
theorem dL_law_1010 : decode cL_law 1010 = .ok (.iadd, 1) := kq.at kqdL_law_1008 2 rfl
theorem dL_law_1011 : decode cL_law 1011 = .ok (.iaload, 1) := kq.at kqdL_law_1008 3 rfl
theorem dL_law_1012 : decode cL_law 1012 = .ok (.aload_n 0, 1) := kq.at kqdL_law_1008 4 rfl
theorem dL_law_1013 : decode cL_law 1013 = .ok (.iload_n 3, 1) := kq.at kqdL_law_1008 5 rfl
theorem dL_law_1014 : decode cL_law 1014 = .ok (.iconst 3, 1) := kq.at kqdL_law_1008 6 rfl
theorem dL_law_1015 : decode cL_law 1015 = .ok (.iadd, 1) := kq.at kqdL_law_1008 7 rfl
theorem dL_law_1016 : decode cL_law 1016 = .ok (.iaload, 1) := kq.at kqdL_law_1008 8 rfl
theorem dL_law_1017 : decode cL_law 1017 = .ok (.invokevirtual 113, 3) := kq.at kqdL_law_1008 9 rfl
theorem dL_law_1020 : decode cL_law 1020 = .ok (.pop, 1) := kq.at kqdL_law_1008 10 rfl
theorem dL_law_1021 : decode cL_law 1021 = .ok (.goto 935, 3) := kq.at kqdL_law_1008 11 rfl
theorem dL_law_1024 : decode cL_law 1024 = .ok (.aload_n 1, 1) := kq.at kqdL_law_1008 12 rfl
theorem dL_law_1025 : decode cL_law 1025 = .ok (.invokevirtual 114, 3) := kq.at kqdL_law_1008 13 rfl
theorem dL_law_1028 : decode cL_law 1028 = .ok (.pop, 1) := kq.at kqdL_law_1008 14 rfl
theorem dL_law_1029 : decode cL_law 1029 = .ok (.aload_n 2, 1) := kq.at kqdL_law_1008 15 rfl
theorem dL_law_1030 : decode cL_law 1030 = .ok (.invokevirtual 117, 3) := kq.at kqdL_law_1008 16 rfl
theorem dL_law_1033 : decode cL_law 1033 = .ok (.pop, 1) := kq.at kqdL_law_1008 17 rfl
theorem dL_law_1034 : decode cL_law 1034 = .ok (.goto 922, 3) := kq.at kqdL_law_1008 18 rfl
theorem dL_law_1037 : decode cL_law 1037 = .ok (.aload_n 1, 1) := kq.at kqdL_law_1008 19 rfl
theorem dL_law_1038 : decode cL_law 1038 = .ok (.aload_n 0, 1) := kq.at kqdL_law_1008 20 rfl
theorem dL_law_1039 : decode cL_law 1039 = .ok (.iload_n 3, 1) := kq.at kqdL_law_1008 21 rfl
theorem dL_law_1040 : decode cL_law 1040 = .ok (.iconst 1, 1) := kq.at kqdL_law_1008 22 rfl
theorem dL_law_1041 : decode cL_law 1041 = .ok (.iadd, 1) := kq.at kqdL_law_1008 23 rfl
theorem dL_law_1042 : decode cL_law 1042 = .ok (.iaload, 1) := kq.at kqdL_law_1008 24 rfl
theorem dL_law_1043 : decode cL_law 1043 = .ok (.invokevirtual 118, 3) := kq.at kqdL_law_1008 25 rfl
theorem dL_law_1046 : decode cL_law 1046 = .ok (.pop, 1) := kq.at kqdL_law_1008 26 rfl
theorem dL_law_1047 : decode cL_law 1047 = .ok (.aload_n 2, 1) := kq.at kqdL_law_1008 27 rfl
theorem dL_law_1048 : decode cL_law 1048 = .ok (.aload_n 0, 1) := kq.at kqdL_law_1008 28 rfl
theorem dL_law_1049 : decode cL_law 1049 = .ok (.iload_n 3, 1) := kq.at kqdL_law_1008 29 rfl
theorem dL_law_1050 : decode cL_law 1050 = .ok (.iconst 1, 1) := kq.at kqdL_law_1008 30 rfl
theorem dL_law_1051 : decode cL_law 1051 = .ok (.iadd, 1) := kq.at kqdL_law_1008 31 rfl
theorem dL_law_1052 : decode cL_law 1052 = .ok (.iaload, 1) := kq.at kqdL_law_1008 32 rfl
theorem dL_law_1053 : decode cL_law 1053 = .ok (.invokevirtual 121, 3) := kq.at kqdL_law_1008 33 rfl
theorem dL_law_1056 : decode cL_law 1056 = .ok (.pop, 1) := kq.at kqdL_law_1008 34 rfl
theorem dL_law_1057 : decode cL_law 1057 = .ok (.goto 899, 3) := kq.at kqdL_law_1008 35 rfl
theorem dL_law_1060 : decode cL_law 1060 = .ok (.aload_n 1, 1) := kq.at kqdL_law_1008 36 rfl
theorem dL_law_1061 : decode cL_law 1061 = .ok (.invokevirtual 122, 3) := kq.at kqdL_law_1008 37 rfl
theorem dL_law_1064 : decode cL_law 1064 = .ok (.pop, 1) := kq.at kqdL_law_1008 38 rfl
theorem dL_law_1065 : decode cL_law 1065 = .ok (.aload_n 2, 1) := kq.at kqdL_law_1008 39 rfl
theorem dL_law_1066 : decode cL_law 1066 = .ok (.invokevirtual 125, 3) := kq.at kqdL_law_1008 40 rfl
theorem dL_law_1069 : decode cL_law 1069 = .ok (.pop, 1) := kq.at kqdL_law_1008 41 rfl
theorem dL_law_1070 : decode cL_law 1070 = .ok (.goto 886, 3) := kq.at kqdL_law_1008 42 rfl
theorem dL_law_1073 : decode cL_law 1073 = .ok (.aload_n 1, 1) := kq.at kqdL_law_1008 43 rfl
theorem dL_law_1074 : decode cL_law 1074 = .ok (.invokevirtual 126, 3) := kq.at kqdL_law_1008 44 rfl
theorem dL_law_1077 : decode cL_law 1077 = .ok (.pop, 1) := kq.at kqdL_law_1008 45 rfl
theorem dL_law_1078 : decode cL_law 1078 = .ok (.aload_n 2, 1) := kq.at kqdL_law_1008 46 rfl
theorem dL_law_1079 : decode cL_law 1079 = .ok (.invokevirtual 129, 3) := kq.at kqdL_law_1008 47 rfl
theorem dL_law_1082 : decode cL_law 1082 = .ok (.pop, 1) := kq.at kqdL_law_1008 48 rfl
theorem dL_law_1083 : decode cL_law 1083 = .ok (.goto 873, 3) := kq.at kqdL_law_1008 49 rfl
theorem dL_law_1086 : decode cL_law 1086 = .ok (.aload_n 1, 1) := kq.at kqdL_law_1008 50 rfl
theorem dL_law_1087 : decode cL_law 1087 = .ok (.invokevirtual 130, 3) := kq.at kqdL_law_1008 51 rfl
theorem dL_law_1090 : decode cL_law 1090 = .ok (.pop, 1) := kq.at kqdL_law_1008 52 rfl
theorem dL_law_1091 : decode cL_law 1091 = .ok (.aload_n 2, 1) := kq.at kqdL_law_1008 53 rfl
theorem dL_law_1092 : decode cL_law 1092 = .ok (.invokevirtual 133, 3) := kq.at kqdL_law_1008 54 rfl
theorem dL_law_1095 : decode cL_law 1095 = .ok (.pop, 1) := kq.at kqdL_law_1008 55 rfl
theorem dL_law_1096 : decode cL_law 1096 = .ok (.goto 860, 3) := kq.at kqdL_law_1008 56 rfl
theorem dL_law_1099 : decode cL_law 1099 = .ok (.aload_n 1, 1) := kq.at kqdL_law_1008 57 rfl
theorem dL_law_1100 : decode cL_law 1100 = .ok (.invokevirtual 134, 3) := kq.at kqdL_law_1008 58 rfl
theorem dL_law_1103 : decode cL_law 1103 = .ok (.pop, 1) := kq.at kqdL_law_1008 59 rfl
theorem dL_law_1104 : decode cL_law 1104 = .ok (.aload_n 2, 1) := kq.at kqdL_law_1008 60 rfl
theorem dL_law_1105 : decode cL_law 1105 = .ok (.invokevirtual 137, 3) := kq.at kqdL_law_1008 61 rfl
theorem dL_law_1108 : decode cL_law 1108 = .ok (.pop, 1) := kq.at kqdL_law_1008 62 rfl
theorem dL_law_1109 : decode cL_law 1109 = .ok (.goto 847, 3) := kq.at kqdL_law_1008 63 rfl
