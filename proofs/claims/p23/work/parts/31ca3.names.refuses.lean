/-! ===== the names of the law: refuses (printed; those that the walks use) ===== -/
theorem dL_refuses_798 : decode cL_refuses 798 = .ok (.goto 7, 3) := by decide +kernel
theorem dL_refuses_801 : decode cL_refuses 801 = .ok (.bipush 41, 2) := by decide +kernel
theorem dL_refuses_803 : decode cL_refuses 803 = .ok (.iload_n 2, 1) := by decide +kernel
theorem dL_refuses_804 : decode cL_refuses 804 = .ok (.iadd, 1) := by decide +kernel
theorem dL_refuses_805 : decode cL_refuses 805 = .ok (.invokestatic 101, 3) := by decide +kernel
theorem dL_refuses_808 : decode cL_refuses 808 = .ok (.ldc 18, 2) := by decide +kernel
theorem dL_refuses_810 : decode cL_refuses 810 = .ok (.if_icmp .ne 61, 3) := by decide +kernel
theorem dL_refuses_813 : decode cL_refuses 813 = .ok (.aload_n 0, 1) := by decide +kernel
theorem dL_refuses_814 : decode cL_refuses 814 = .ok (.iload 12, 2) := by decide +kernel
theorem dL_refuses_816 : decode cL_refuses 816 = .ok (.iload 9, 2) := by decide +kernel
theorem dL_refuses_818 : decode cL_refuses 818 = .ok (.invokestatic 129, 3) := by decide +kernel
theorem dL_refuses_821 : decode cL_refuses 821 = .ok (.ldc 18, 2) := by decide +kernel
theorem dL_refuses_823 : decode cL_refuses 823 = .ok (.if_icmp .ne 48, 3) := by decide +kernel
theorem dL_refuses_826 : decode cL_refuses 826 = .ok (.aload_n 0, 1) := by decide +kernel
theorem dL_refuses_827 : decode cL_refuses 827 = .ok (.iload 12, 2) := by decide +kernel
theorem dL_refuses_829 : decode cL_refuses 829 = .ok (.iconst 0, 1) := by decide +kernel
theorem dL_refuses_830 : decode cL_refuses 830 = .ok (.iconst (-1), 1) := by decide +kernel
theorem dL_refuses_831 : decode cL_refuses 831 = .ok (.iload_n 2, 1) := by decide +kernel
theorem dL_refuses_832 : decode cL_refuses 832 = .ok (.isub, 1) := by decide +kernel
theorem dL_refuses_833 : decode cL_refuses 833 = .ok (.invokestatic 133, 3) := by decide +kernel
theorem dL_refuses_836 : decode cL_refuses 836 = .ok (.ldc 15, 2) := by decide +kernel
theorem dL_refuses_838 : decode cL_refuses 838 = .ok (.if_icmp .ne 33, 3) := by decide +kernel
theorem dL_refuses_841 : decode cL_refuses 841 = .ok (.aload_n 0, 1) := by decide +kernel
theorem dL_refuses_842 : decode cL_refuses 842 = .ok (.iload 12, 2) := by decide +kernel
theorem dL_refuses_844 : decode cL_refuses 844 = .ok (.iload_n 3, 1) := by decide +kernel
theorem dL_refuses_845 : decode cL_refuses 845 = .ok (.ifCond .eq 9, 3) := by decide +kernel
theorem dL_refuses_848 : decode cL_refuses 848 = .ok (.iconst (-1), 1) := by decide +kernel
theorem dL_refuses_849 : decode cL_refuses 849 = .ok (.iload_n 2, 1) := by decide +kernel
theorem dL_refuses_850 : decode cL_refuses 850 = .ok (.isub, 1) := by decide +kernel
theorem dL_refuses_851 : decode cL_refuses 851 = .ok (.goto 7, 3) := by decide +kernel
theorem dL_refuses_854 : decode cL_refuses 854 = .ok (.bipush 50, 2) := by decide +kernel
theorem dL_refuses_856 : decode cL_refuses 856 = .ok (.iload_n 2, 1) := by decide +kernel
theorem dL_refuses_857 : decode cL_refuses 857 = .ok (.iadd, 1) := by decide +kernel
theorem dL_refuses_858 : decode cL_refuses 858 = .ok (.iconst 0, 1) := by decide +kernel
theorem dL_refuses_859 : decode cL_refuses 859 = .ok (.invokestatic 133, 3) := by decide +kernel
theorem dL_refuses_862 : decode cL_refuses 862 = .ok (.ldc 18, 2) := by decide +kernel
theorem dL_refuses_864 : decode cL_refuses 864 = .ok (.if_icmp .ne 7, 3) := by decide +kernel
theorem dL_refuses_867 : decode cL_refuses 867 = .ok (.iconst 1, 1) := by decide +kernel
theorem dL_refuses_868 : decode cL_refuses 868 = .ok (.goto 4, 3) := by decide +kernel
theorem dL_refuses_872 : decode cL_refuses 872 = .ok (.istore 11, 2) := by decide +kernel
theorem dL_refuses_874 : decode cL_refuses 874 = .ok (.aload_n 1, 1) := by decide +kernel
theorem dL_refuses_875 : decode cL_refuses 875 = .ok (.iconst 1, 1) := by decide +kernel
theorem dL_refuses_876 : decode cL_refuses 876 = .ok (.iaload, 1) := by decide +kernel
theorem dL_refuses_877 : decode cL_refuses 877 = .ok (.ifCond .le 236, 3) := by decide +kernel
theorem dL_refuses_1113 : decode cL_refuses 1113 = .ok (.aload_n 1, 1) := by decide +kernel
theorem dL_refuses_1114 : decode cL_refuses 1114 = .ok (.iconst 2, 1) := by decide +kernel
theorem dL_refuses_1115 : decode cL_refuses 1115 = .ok (.iaload, 1) := by decide +kernel
theorem dL_refuses_1116 : decode cL_refuses 1116 = .ok (.ifCond .ne 7, 3) := by decide +kernel
theorem dL_refuses_1119 : decode cL_refuses 1119 = .ok (.iconst 0, 1) := by decide +kernel
theorem dL_refuses_1120 : decode cL_refuses 1120 = .ok (.goto 11, 3) := by decide +kernel
theorem dL_refuses_1131 : decode cL_refuses 1131 = .ok (.istore 12, 2) := by decide +kernel
theorem dL_refuses_1133 : decode cL_refuses 1133 = .ok (.iload 11, 2) := by decide +kernel
theorem dL_refuses_1135 : decode cL_refuses 1135 = .ok (.ifCond .eq 84, 3) := by decide +kernel
theorem dL_refuses_1138 : decode cL_refuses 1138 = .ok (.aload_n 1, 1) := by decide +kernel
theorem dL_refuses_1139 : decode cL_refuses 1139 = .ok (.iconst 2, 1) := by decide +kernel
theorem dL_refuses_1140 : decode cL_refuses 1140 = .ok (.iaload, 1) := by decide +kernel
theorem dL_refuses_1141 : decode cL_refuses 1141 = .ok (.ifCond .eq 74, 3) := by decide +kernel
theorem dL_refuses_1215 : decode cL_refuses 1215 = .ok (.iconst 1, 1) := by decide +kernel
theorem dL_refuses_1216 : decode cL_refuses 1216 = .ok (.goto 4, 3) := by decide +kernel
theorem dL_refuses_1220 : decode cL_refuses 1220 = .ok (.istore 11, 2) := by decide +kernel
theorem dL_refuses_1222 : decode cL_refuses 1222 = .ok (.iload 11, 2) := by decide +kernel
theorem dL_refuses_1224 : decode cL_refuses 1224 = .ok (.ifCond .eq 43, 3) := by decide +kernel
theorem dL_refuses_1227 : decode cL_refuses 1227 = .ok (.aload_n 1, 1) := by decide +kernel
theorem dL_refuses_1228 : decode cL_refuses 1228 = .ok (.iconst 3, 1) := by decide +kernel
theorem dL_refuses_1229 : decode cL_refuses 1229 = .ok (.iaload, 1) := by decide +kernel
theorem dL_refuses_1230 : decode cL_refuses 1230 = .ok (.ifCond .eq 33, 3) := by decide +kernel
theorem dL_refuses_1263 : decode cL_refuses 1263 = .ok (.iconst 1, 1) := by decide +kernel
theorem dL_refuses_1264 : decode cL_refuses 1264 = .ok (.goto 4, 3) := by decide +kernel
theorem dL_refuses_1268 : decode cL_refuses 1268 = .ok (.ireturn, 1) := by decide +kernel
