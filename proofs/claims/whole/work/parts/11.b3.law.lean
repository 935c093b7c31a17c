def tb_L_law_9 : List (Nat × Instr × Nat) := [(766, .aload_n 0, 1), (767, .iload 4, 2), (769, .iconst 5, 1), (770, .iadd, 1), (771, .iaload, 1), (772, .aload_n 3, 1), (773, .invokestatic 110, 3), (776, .istore 5, 2), (778, .aload_n 2, 1), (779, .aload_n 0, 1), (780, .iload 4, 2), (782, .iconst 1, 1), (783, .iadd, 1), (784, .iaload, 1), (785, .aload_n 0, 1), (786, .iload 4, 2), (788, .iconst 2, 1), (789, .iadd, 1), (790, .iaload, 1), (791, .aload_n 0, 1), (792, .iload 4, 2), (794, .iconst 3, 1), (795, .iadd, 1), (796, .iaload, 1), (797, .aload_n 0, 1), (798, .iload 4, 2), (800, .iconst 4, 1), (801, .iadd, 1), (802, .iaload, 1), (803, .aload_n 0, 1), (804, .iload 4, 2), (806, .iconst 5, 1), (807, .iadd, 1), (808, .iaload, 1), (809, .invokevirtual 113, 3), (812, .istore 6, 2), (814, .aload_n 2, 1), (815, .invokevirtual 72, 3), (818, .iload 5, 2), (820, .if_icmp .eq 5, 3), (823, .iconst 0, 1), (824, .ireturn, 1), (825, .iload 5, 2), (827, .ifCond .ne 15, 3), (830, .aload_n 3, 1), (831, .iconst 0, 1), (832, .laload, 1), (833, .iload 6, 2), (835, .i2l, 1), (836, .lcmp, 1)]
theorem dd_L_law_9 : ∀ (i : Nat) (q : Nat × Instr × Nat), tb_L_law_9[i]? = some q → decode b_L_law q.1 = .ok (q.2.1, q.2.2) := z_tab (by decide +kernel)
theorem d_L_law_766 : decode b_L_law 766 = .ok (.aload_n 0, 1) := dd_L_law_9 0 (766, .aload_n 0, 1) rfl
theorem d_L_law_767 : decode b_L_law 767 = .ok (.iload 4, 2) := dd_L_law_9 1 (767, .iload 4, 2) rfl
theorem d_L_law_769 : decode b_L_law 769 = .ok (.iconst 5, 1) := dd_L_law_9 2 (769, .iconst 5, 1) rfl
theorem d_L_law_770 : decode b_L_law 770 = .ok (.iadd, 1) := dd_L_law_9 3 (770, .iadd, 1) rfl
theorem d_L_law_771 : decode b_L_law 771 = .ok (.iaload, 1) := dd_L_law_9 4 (771, .iaload, 1) rfl
theorem d_L_law_772 : decode b_L_law 772 = .ok (.aload_n 3, 1) := dd_L_law_9 5 (772, .aload_n 3, 1) rfl
theorem d_L_law_773 : decode b_L_law 773 = .ok (.invokestatic 110, 3) := dd_L_law_9 6 (773, .invokestatic 110, 3) rfl
theorem d_L_law_776 : decode b_L_law 776 = .ok (.istore 5, 2) := dd_L_law_9 7 (776, .istore 5, 2) rfl
theorem d_L_law_778 : decode b_L_law 778 = .ok (.aload_n 2, 1) := dd_L_law_9 8 (778, .aload_n 2, 1) rfl
theorem d_L_law_779 : decode b_L_law 779 = .ok (.aload_n 0, 1) := dd_L_law_9 9 (779, .aload_n 0, 1) rfl
theorem d_L_law_780 : decode b_L_law 780 = .ok (.iload 4, 2) := dd_L_law_9 10 (780, .iload 4, 2) rfl
theorem d_L_law_782 : decode b_L_law 782 = .ok (.iconst 1, 1) := dd_L_law_9 11 (782, .iconst 1, 1) rfl
theorem d_L_law_783 : decode b_L_law 783 = .ok (.iadd, 1) := dd_L_law_9 12 (783, .iadd, 1) rfl
theorem d_L_law_784 : decode b_L_law 784 = .ok (.iaload, 1) := dd_L_law_9 13 (784, .iaload, 1) rfl
theorem d_L_law_785 : decode b_L_law 785 = .ok (.aload_n 0, 1) := dd_L_law_9 14 (785, .aload_n 0, 1) rfl
theorem d_L_law_786 : decode b_L_law 786 = .ok (.iload 4, 2) := dd_L_law_9 15 (786, .iload 4, 2) rfl
theorem d_L_law_788 : decode b_L_law 788 = .ok (.iconst 2, 1) := dd_L_law_9 16 (788, .iconst 2, 1) rfl
theorem d_L_law_789 : decode b_L_law 789 = .ok (.iadd, 1) := dd_L_law_9 17 (789, .iadd, 1) rfl
theorem d_L_law_790 : decode b_L_law 790 = .ok (.iaload, 1) := dd_L_law_9 18 (790, .iaload, 1) rfl
theorem d_L_law_791 : decode b_L_law 791 = .ok (.aload_n 0, 1) := dd_L_law_9 19 (791, .aload_n 0, 1) rfl
theorem d_L_law_792 : decode b_L_law 792 = .ok (.iload 4, 2) := dd_L_law_9 20 (792, .iload 4, 2) rfl
theorem d_L_law_794 : decode b_L_law 794 = .ok (.iconst 3, 1) := dd_L_law_9 21 (794, .iconst 3, 1) rfl
theorem d_L_law_795 : decode b_L_law 795 = .ok (.iadd, 1) := dd_L_law_9 22 (795, .iadd, 1) rfl
theorem d_L_law_796 : decode b_L_law 796 = .ok (.iaload, 1) := dd_L_law_9 23 (796, .iaload, 1) rfl
theorem d_L_law_797 : decode b_L_law 797 = .ok (.aload_n 0, 1) := dd_L_law_9 24 (797, .aload_n 0, 1) rfl
theorem d_L_law_798 : decode b_L_law 798 = .ok (.iload 4, 2) := dd_L_law_9 25 (798, .iload 4, 2) rfl
theorem d_L_law_800 : decode b_L_law 800 = .ok (.iconst 4, 1) := dd_L_law_9 26 (800, .iconst 4, 1) rfl
theorem d_L_law_801 : decode b_L_law 801 = .ok (.iadd, 1) := dd_L_law_9 27 (801, .iadd, 1) rfl
theorem d_L_law_802 : decode b_L_law 802 = .ok (.iaload, 1) := dd_L_law_9 28 (802, .iaload, 1) rfl
theorem d_L_law_803 : decode b_L_law 803 = .ok (.aload_n 0, 1) := dd_L_law_9 29 (803, .aload_n 0, 1) rfl
theorem d_L_law_804 : decode b_L_law 804 = .ok (.iload 4, 2) := dd_L_law_9 30 (804, .iload 4, 2) rfl
theorem d_L_law_806 : decode b_L_law 806 = .ok (.iconst 5, 1) := dd_L_law_9 31 (806, .iconst 5, 1) rfl
theorem d_L_law_807 : decode b_L_law 807 = .ok (.iadd, 1) := dd_L_law_9 32 (807, .iadd, 1) rfl
theorem d_L_law_808 : decode b_L_law 808 = .ok (.iaload, 1) := dd_L_law_9 33 (808, .iaload, 1) rfl
theorem d_L_law_809 : decode b_L_law 809 = .ok (.invokevirtual 113, 3) := dd_L_law_9 34 (809, .invokevirtual 113, 3) rfl
theorem d_L_law_812 : decode b_L_law 812 = .ok (.istore 6, 2) := dd_L_law_9 35 (812, .istore 6, 2) rfl
theorem d_L_law_814 : decode b_L_law 814 = .ok (.aload_n 2, 1) := dd_L_law_9 36 (814, .aload_n 2, 1) rfl
theorem d_L_law_815 : decode b_L_law 815 = .ok (.invokevirtual 72, 3) := dd_L_law_9 37 (815, .invokevirtual 72, 3) rfl
theorem d_L_law_818 : decode b_L_law 818 = .ok (.iload 5, 2) := dd_L_law_9 38 (818, .iload 5, 2) rfl
theorem d_L_law_820 : decode b_L_law 820 = .ok (.if_icmp .eq 5, 3) := dd_L_law_9 39 (820, .if_icmp .eq 5, 3) rfl
theorem d_L_law_823 : decode b_L_law 823 = .ok (.iconst 0, 1) := dd_L_law_9 40 (823, .iconst 0, 1) rfl
theorem d_L_law_824 : decode b_L_law 824 = .ok (.ireturn, 1) := dd_L_law_9 41 (824, .ireturn, 1) rfl
theorem d_L_law_825 : decode b_L_law 825 = .ok (.iload 5, 2) := dd_L_law_9 42 (825, .iload 5, 2) rfl
theorem d_L_law_827 : decode b_L_law 827 = .ok (.ifCond .ne 15, 3) := dd_L_law_9 43 (827, .ifCond .ne 15, 3) rfl
theorem d_L_law_830 : decode b_L_law 830 = .ok (.aload_n 3, 1) := dd_L_law_9 44 (830, .aload_n 3, 1) rfl
theorem d_L_law_831 : decode b_L_law 831 = .ok (.iconst 0, 1) := dd_L_law_9 45 (831, .iconst 0, 1) rfl
theorem d_L_law_832 : decode b_L_law 832 = .ok (.laload, 1) := dd_L_law_9 46 (832, .laload, 1) rfl
theorem d_L_law_833 : decode b_L_law 833 = .ok (.iload 6, 2) := dd_L_law_9 47 (833, .iload 6, 2) rfl
theorem d_L_law_835 : decode b_L_law 835 = .ok (.i2l, 1) := dd_L_law_9 48 (835, .i2l, 1) rfl
theorem d_L_law_836 : decode b_L_law 836 = .ok (.lcmp, 1) := dd_L_law_9 49 (836, .lcmp, 1) rfl
def tb_L_law_10 : List (Nat × Instr × Nat) := [(837, .ifCond .eq 5, 3), (840, .iconst 0, 1), (841, .ireturn, 1), (842, .goto 132, 3), (845, .aload_n 1, 1), (846, .aload_n 0, 1), (847, .iload 4, 2), (849, .iconst 1, 1), (850, .iadd, 1), (851, .iaload, 1), (852, .aload_n 0, 1), (853, .iload 4, 2), (855, .iconst 2, 1), (856, .iadd, 1), (857, .iaload, 1), (858, .aload_n 0, 1), (859, .iload 4, 2), (861, .iconst 3, 1), (862, .iadd, 1), (863, .iaload, 1), (864, .aload_n 3, 1), (865, .invokestatic 114, 3), (868, .istore 5, 2), (870, .aload_n 2, 1), (871, .aload_n 0, 1), (872, .iload 4, 2), (874, .iconst 1, 1), (875, .iadd, 1), (876, .iaload, 1), (877, .aload_n 0, 1), (878, .iload 4, 2), (880, .iconst 2, 1), (881, .iadd, 1), (882, .iaload, 1), (883, .aload_n 0, 1), (884, .iload 4, 2), (886, .iconst 3, 1), (887, .iadd, 1), (888, .iaload, 1), (889, .invokevirtual 116, 3), (892, .istore 6, 2), (894, .aload_n 2, 1), (895, .invokevirtual 72, 3), (898, .iload 5, 2), (900, .if_icmp .eq 5, 3), (903, .iconst 0, 1), (904, .ireturn, 1), (905, .iload 5, 2), (907, .ifCond .ne 15, 3), (910, .aload_n 3, 1)]
theorem dd_L_law_10 : ∀ (i : Nat) (q : Nat × Instr × Nat), tb_L_law_10[i]? = some q → decode b_L_law q.1 = .ok (q.2.1, q.2.2) := z_tab (by decide +kernel)
theorem d_L_law_837 : decode b_L_law 837 = .ok (.ifCond .eq 5, 3) := dd_L_law_10 0 (837, .ifCond .eq 5, 3) rfl
theorem d_L_law_840 : decode b_L_law 840 = .ok (.iconst 0, 1) := dd_L_law_10 1 (840, .iconst 0, 1) rfl
theorem d_L_law_841 : decode b_L_law 841 = .ok (.ireturn, 1) := dd_L_law_10 2 (841, .ireturn, 1) rfl
theorem d_L_law_842 : decode b_L_law 842 = .ok (.goto 132, 3) := dd_L_law_10 3 (842, .goto 132, 3) rfl
theorem d_L_law_845 : decode b_L_law 845 = .ok (.aload_n 1, 1) := dd_L_law_10 4 (845, .aload_n 1, 1) rfl
theorem d_L_law_846 : decode b_L_law 846 = .ok (.aload_n 0, 1) := dd_L_law_10 5 (846, .aload_n 0, 1) rfl
theorem d_L_law_847 : decode b_L_law 847 = .ok (.iload 4, 2) := dd_L_law_10 6 (847, .iload 4, 2) rfl
theorem d_L_law_849 : decode b_L_law 849 = .ok (.iconst 1, 1) := dd_L_law_10 7 (849, .iconst 1, 1) rfl
theorem d_L_law_850 : decode b_L_law 850 = .ok (.iadd, 1) := dd_L_law_10 8 (850, .iadd, 1) rfl
theorem d_L_law_851 : decode b_L_law 851 = .ok (.iaload, 1) := dd_L_law_10 9 (851, .iaload, 1) rfl
theorem d_L_law_852 : decode b_L_law 852 = .ok (.aload_n 0, 1) := dd_L_law_10 10 (852, .aload_n 0, 1) rfl
theorem d_L_law_853 : decode b_L_law 853 = .ok (.iload 4, 2) := dd_L_law_10 11 (853, .iload 4, 2) rfl
theorem d_L_law_855 : decode b_L_law 855 = .ok (.iconst 2, 1) := dd_L_law_10 12 (855, .iconst 2, 1) rfl
theorem d_L_law_856 : decode b_L_law 856 = .ok (.iadd, 1) := dd_L_law_10 13 (856, .iadd, 1) rfl
theorem d_L_law_857 : decode b_L_law 857 = .ok (.iaload, 1) := dd_L_law_10 14 (857, .iaload, 1) rfl
theorem d_L_law_858 : decode b_L_law 858 = .ok (.aload_n 0, 1) := dd_L_law_10 15 (858, .aload_n 0, 1) rfl
theorem d_L_law_859 : decode b_L_law 859 = .ok (.iload 4, 2) := dd_L_law_10 16 (859, .iload 4, 2) rfl
theorem d_L_law_861 : decode b_L_law 861 = .ok (.iconst 3, 1) := dd_L_law_10 17 (861, .iconst 3, 1) rfl
theorem d_L_law_862 : decode b_L_law 862 = .ok (.iadd, 1) := dd_L_law_10 18 (862, .iadd, 1) rfl
theorem d_L_law_863 : decode b_L_law 863 = .ok (.iaload, 1) := dd_L_law_10 19 (863, .iaload, 1) rfl
theorem d_L_law_864 : decode b_L_law 864 = .ok (.aload_n 3, 1) := dd_L_law_10 20 (864, .aload_n 3, 1) rfl
theorem d_L_law_865 : decode b_L_law 865 = .ok (.invokestatic 114, 3) := dd_L_law_10 21 (865, .invokestatic 114, 3) rfl
theorem d_L_law_868 : decode b_L_law 868 = .ok (.istore 5, 2) := dd_L_law_10 22 (868, .istore 5, 2) rfl
theorem d_L_law_870 : decode b_L_law 870 = .ok (.aload_n 2, 1) := dd_L_law_10 23 (870, .aload_n 2, 1) rfl
theorem d_L_law_871 : decode b_L_law 871 = .ok (.aload_n 0, 1) := dd_L_law_10 24 (871, .aload_n 0, 1) rfl
theorem d_L_law_872 : decode b_L_law 872 = .ok (.iload 4, 2) := dd_L_law_10 25 (872, .iload 4, 2) rfl
theorem d_L_law_874 : decode b_L_law 874 = .ok (.iconst 1, 1) := dd_L_law_10 26 (874, .iconst 1, 1) rfl
theorem d_L_law_875 : decode b_L_law 875 = .ok (.iadd, 1) := dd_L_law_10 27 (875, .iadd, 1) rfl
theorem d_L_law_876 : decode b_L_law 876 = .ok (.iaload, 1) := dd_L_law_10 28 (876, .iaload, 1) rfl
theorem d_L_law_877 : decode b_L_law 877 = .ok (.aload_n 0, 1) := dd_L_law_10 29 (877, .aload_n 0, 1) rfl
theorem d_L_law_878 : decode b_L_law 878 = .ok (.iload 4, 2) := dd_L_law_10 30 (878, .iload 4, 2) rfl
theorem d_L_law_880 : decode b_L_law 880 = .ok (.iconst 2, 1) := dd_L_law_10 31 (880, .iconst 2, 1) rfl
theorem d_L_law_881 : decode b_L_law 881 = .ok (.iadd, 1) := dd_L_law_10 32 (881, .iadd, 1) rfl
theorem d_L_law_882 : decode b_L_law 882 = .ok (.iaload, 1) := dd_L_law_10 33 (882, .iaload, 1) rfl
theorem d_L_law_883 : decode b_L_law 883 = .ok (.aload_n 0, 1) := dd_L_law_10 34 (883, .aload_n 0, 1) rfl
theorem d_L_law_884 : decode b_L_law 884 = .ok (.iload 4, 2) := dd_L_law_10 35 (884, .iload 4, 2) rfl
theorem d_L_law_886 : decode b_L_law 886 = .ok (.iconst 3, 1) := dd_L_law_10 36 (886, .iconst 3, 1) rfl
theorem d_L_law_887 : decode b_L_law 887 = .ok (.iadd, 1) := dd_L_law_10 37 (887, .iadd, 1) rfl
theorem d_L_law_888 : decode b_L_law 888 = .ok (.iaload, 1) := dd_L_law_10 38 (888, .iaload, 1) rfl
theorem d_L_law_889 : decode b_L_law 889 = .ok (.invokevirtual 116, 3) := dd_L_law_10 39 (889, .invokevirtual 116, 3) rfl
theorem d_L_law_892 : decode b_L_law 892 = .ok (.istore 6, 2) := dd_L_law_10 40 (892, .istore 6, 2) rfl
theorem d_L_law_894 : decode b_L_law 894 = .ok (.aload_n 2, 1) := dd_L_law_10 41 (894, .aload_n 2, 1) rfl
theorem d_L_law_895 : decode b_L_law 895 = .ok (.invokevirtual 72, 3) := dd_L_law_10 42 (895, .invokevirtual 72, 3) rfl
theorem d_L_law_898 : decode b_L_law 898 = .ok (.iload 5, 2) := dd_L_law_10 43 (898, .iload 5, 2) rfl
theorem d_L_law_900 : decode b_L_law 900 = .ok (.if_icmp .eq 5, 3) := dd_L_law_10 44 (900, .if_icmp .eq 5, 3) rfl
theorem d_L_law_903 : decode b_L_law 903 = .ok (.iconst 0, 1) := dd_L_law_10 45 (903, .iconst 0, 1) rfl
theorem d_L_law_904 : decode b_L_law 904 = .ok (.ireturn, 1) := dd_L_law_10 46 (904, .ireturn, 1) rfl
theorem d_L_law_905 : decode b_L_law 905 = .ok (.iload 5, 2) := dd_L_law_10 47 (905, .iload 5, 2) rfl
theorem d_L_law_907 : decode b_L_law 907 = .ok (.ifCond .ne 15, 3) := dd_L_law_10 48 (907, .ifCond .ne 15, 3) rfl
theorem d_L_law_910 : decode b_L_law 910 = .ok (.aload_n 3, 1) := dd_L_law_10 49 (910, .aload_n 3, 1) rfl
def tb_L_law_11 : List (Nat × Instr × Nat) := [(911, .iconst 0, 1), (912, .laload, 1), (913, .iload 6, 2), (915, .i2l, 1), (916, .lcmp, 1), (917, .ifCond .eq 5, 3), (920, .iconst 0, 1), (921, .ireturn, 1), (922, .goto 52, 3), (925, .aload_n 1, 1), (926, .invokevirtual 117, 3), (929, .aload_n 2, 1), (930, .invokevirtual 120, 3), (933, .if_icmp .eq 41, 3), (936, .iconst 0, 1), (937, .ireturn, 1), (938, .aload_n 1, 1), (939, .aload_n 0, 1), (940, .iload 4, 2), (942, .iconst 1, 1), (943, .iadd, 1), (944, .iaload, 1), (945, .invokevirtual 121, 3), (948, .aload_n 2, 1), (949, .aload_n 0, 1), (950, .iload 4, 2), (952, .iconst 1, 1), (953, .iadd, 1), (954, .iaload, 1), (955, .invokevirtual 124, 3), (958, .if_icmp .eq 16, 3), (961, .iconst 0, 1), (962, .ireturn, 1), (963, .aload_n 1, 1), (964, .invokevirtual 125, 3), (967, .aload_n 2, 1), (968, .invokevirtual 128, 3), (971, .goto 3, 3), (974, .iinc 4 6, 3), (977, .goto (-944), 3), (980, .iconst 1, 1), (981, .ireturn, 1)]
theorem dd_L_law_11 : ∀ (i : Nat) (q : Nat × Instr × Nat), tb_L_law_11[i]? = some q → decode b_L_law q.1 = .ok (q.2.1, q.2.2) := z_tab (by decide +kernel)
theorem d_L_law_911 : decode b_L_law 911 = .ok (.iconst 0, 1) := dd_L_law_11 0 (911, .iconst 0, 1) rfl
theorem d_L_law_912 : decode b_L_law 912 = .ok (.laload, 1) := dd_L_law_11 1 (912, .laload, 1) rfl
theorem d_L_law_913 : decode b_L_law 913 = .ok (.iload 6, 2) := dd_L_law_11 2 (913, .iload 6, 2) rfl
theorem d_L_law_915 : decode b_L_law 915 = .ok (.i2l, 1) := dd_L_law_11 3 (915, .i2l, 1) rfl
theorem d_L_law_916 : decode b_L_law 916 = .ok (.lcmp, 1) := dd_L_law_11 4 (916, .lcmp, 1) rfl
theorem d_L_law_917 : decode b_L_law 917 = .ok (.ifCond .eq 5, 3) := dd_L_law_11 5 (917, .ifCond .eq 5, 3) rfl
theorem d_L_law_920 : decode b_L_law 920 = .ok (.iconst 0, 1) := dd_L_law_11 6 (920, .iconst 0, 1) rfl
theorem d_L_law_921 : decode b_L_law 921 = .ok (.ireturn, 1) := dd_L_law_11 7 (921, .ireturn, 1) rfl
theorem d_L_law_922 : decode b_L_law 922 = .ok (.goto 52, 3) := dd_L_law_11 8 (922, .goto 52, 3) rfl
theorem d_L_law_925 : decode b_L_law 925 = .ok (.aload_n 1, 1) := dd_L_law_11 9 (925, .aload_n 1, 1) rfl
theorem d_L_law_926 : decode b_L_law 926 = .ok (.invokevirtual 117, 3) := dd_L_law_11 10 (926, .invokevirtual 117, 3) rfl
theorem d_L_law_929 : decode b_L_law 929 = .ok (.aload_n 2, 1) := dd_L_law_11 11 (929, .aload_n 2, 1) rfl
theorem d_L_law_930 : decode b_L_law 930 = .ok (.invokevirtual 120, 3) := dd_L_law_11 12 (930, .invokevirtual 120, 3) rfl
theorem d_L_law_933 : decode b_L_law 933 = .ok (.if_icmp .eq 41, 3) := dd_L_law_11 13 (933, .if_icmp .eq 41, 3) rfl
theorem d_L_law_936 : decode b_L_law 936 = .ok (.iconst 0, 1) := dd_L_law_11 14 (936, .iconst 0, 1) rfl
theorem d_L_law_937 : decode b_L_law 937 = .ok (.ireturn, 1) := dd_L_law_11 15 (937, .ireturn, 1) rfl
theorem d_L_law_938 : decode b_L_law 938 = .ok (.aload_n 1, 1) := dd_L_law_11 16 (938, .aload_n 1, 1) rfl
theorem d_L_law_939 : decode b_L_law 939 = .ok (.aload_n 0, 1) := dd_L_law_11 17 (939, .aload_n 0, 1) rfl
theorem d_L_law_940 : decode b_L_law 940 = .ok (.iload 4, 2) := dd_L_law_11 18 (940, .iload 4, 2) rfl
theorem d_L_law_942 : decode b_L_law 942 = .ok (.iconst 1, 1) := dd_L_law_11 19 (942, .iconst 1, 1) rfl
theorem d_L_law_943 : decode b_L_law 943 = .ok (.iadd, 1) := dd_L_law_11 20 (943, .iadd, 1) rfl
theorem d_L_law_944 : decode b_L_law 944 = .ok (.iaload, 1) := dd_L_law_11 21 (944, .iaload, 1) rfl
theorem d_L_law_945 : decode b_L_law 945 = .ok (.invokevirtual 121, 3) := dd_L_law_11 22 (945, .invokevirtual 121, 3) rfl
theorem d_L_law_948 : decode b_L_law 948 = .ok (.aload_n 2, 1) := dd_L_law_11 23 (948, .aload_n 2, 1) rfl
theorem d_L_law_949 : decode b_L_law 949 = .ok (.aload_n 0, 1) := dd_L_law_11 24 (949, .aload_n 0, 1) rfl
theorem d_L_law_950 : decode b_L_law 950 = .ok (.iload 4, 2) := dd_L_law_11 25 (950, .iload 4, 2) rfl
theorem d_L_law_952 : decode b_L_law 952 = .ok (.iconst 1, 1) := dd_L_law_11 26 (952, .iconst 1, 1) rfl
theorem d_L_law_953 : decode b_L_law 953 = .ok (.iadd, 1) := dd_L_law_11 27 (953, .iadd, 1) rfl
theorem d_L_law_954 : decode b_L_law 954 = .ok (.iaload, 1) := dd_L_law_11 28 (954, .iaload, 1) rfl
theorem d_L_law_955 : decode b_L_law 955 = .ok (.invokevirtual 124, 3) := dd_L_law_11 29 (955, .invokevirtual 124, 3) rfl
theorem d_L_law_958 : decode b_L_law 958 = .ok (.if_icmp .eq 16, 3) := dd_L_law_11 30 (958, .if_icmp .eq 16, 3) rfl
theorem d_L_law_961 : decode b_L_law 961 = .ok (.iconst 0, 1) := dd_L_law_11 31 (961, .iconst 0, 1) rfl
theorem d_L_law_962 : decode b_L_law 962 = .ok (.ireturn, 1) := dd_L_law_11 32 (962, .ireturn, 1) rfl
theorem d_L_law_963 : decode b_L_law 963 = .ok (.aload_n 1, 1) := dd_L_law_11 33 (963, .aload_n 1, 1) rfl
theorem d_L_law_964 : decode b_L_law 964 = .ok (.invokevirtual 125, 3) := dd_L_law_11 34 (964, .invokevirtual 125, 3) rfl
theorem d_L_law_967 : decode b_L_law 967 = .ok (.aload_n 2, 1) := dd_L_law_11 35 (967, .aload_n 2, 1) rfl
theorem d_L_law_968 : decode b_L_law 968 = .ok (.invokevirtual 128, 3) := dd_L_law_11 36 (968, .invokevirtual 128, 3) rfl
theorem d_L_law_971 : decode b_L_law 971 = .ok (.goto 3, 3) := dd_L_law_11 37 (971, .goto 3, 3) rfl
theorem d_L_law_974 : decode b_L_law 974 = .ok (.iinc 4 6, 3) := dd_L_law_11 38 (974, .iinc 4 6, 3) rfl
theorem d_L_law_977 : decode b_L_law 977 = .ok (.goto (-944), 3) := dd_L_law_11 39 (977, .goto (-944), 3) rfl
theorem d_L_law_980 : decode b_L_law 980 = .ok (.iconst 1, 1) := dd_L_law_11 40 (980, .iconst 1, 1) rfl
theorem d_L_law_981 : decode b_L_law 981 = .ok (.ireturn, 1) := dd_L_law_11 41 (981, .ireturn, 1) rfl
