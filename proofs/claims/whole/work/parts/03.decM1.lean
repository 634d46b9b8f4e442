theorem dM_erased_49 : decode cM_erased 49 = .ok (.iconst 1, 1) := by decide +kernel
theorem dM_erased_50 : decode cM_erased 50 = .ok (.goto 4, 3) := by decide +kernel
theorem dM_erased_53 : decode cM_erased 53 = .ok (.iconst 0, 1) := by decide +kernel
theorem dM_erased_54 : decode cM_erased 54 = .ok (.istore_n 3, 1) := by decide +kernel
theorem dM_erased_55 : decode cM_erased 55 = .ok (.iinc 4 1, 3) := by decide +kernel
theorem dM_erased_58 : decode cM_erased 58 = .ok (.goto (-53), 3) := by decide +kernel
theorem dM_erased_61 : decode cM_erased 61 = .ok (.iload_n 3, 1) := by decide +kernel
theorem dM_erased_62 : decode cM_erased 62 = .ok (.ireturn, 1) := by decide +kernel
theorem dM_issue_0 : decode cM_issue 0 = .ok (.aload_n 0, 1) := by decide +kernel
theorem dM_issue_1 : decode cM_issue 1 = .ok (.getfield 44, 3) := by decide +kernel
theorem dM_issue_4 : decode cM_issue 4 = .ok (.istore 4, 2) := by decide +kernel
theorem dM_issue_6 : decode cM_issue 6 = .ok (.iconst 0, 1) := by decide +kernel
theorem dM_issue_7 : decode cM_issue 7 = .ok (.istore 5, 2) := by decide +kernel
theorem dM_issue_9 : decode cM_issue 9 = .ok (.iconst 0, 1) := by decide +kernel
theorem dM_issue_10 : decode cM_issue 10 = .ok (.istore 6, 2) := by decide +kernel
theorem dM_issue_12 : decode cM_issue 12 = .ok (.iload 6, 2) := by decide +kernel
theorem dM_issue_14 : decode cM_issue 14 = .ok (.iload 4, 2) := by decide +kernel
theorem dM_issue_16 : decode cM_issue 16 = .ok (.if_icmp .ge 45, 3) := by decide +kernel
theorem dM_issue_19 : decode cM_issue 19 = .ok (.aload_n 0, 1) := by decide +kernel
theorem dM_issue_20 : decode cM_issue 20 = .ok (.iload_n 1, 1) := by decide +kernel
theorem dM_issue_21 : decode cM_issue 21 = .ok (.iload 6, 2) := by decide +kernel
theorem dM_issue_23 : decode cM_issue 23 = .ok (.invokevirtual 48, 3) := by decide +kernel
theorem dM_issue_26 : decode cM_issue 26 = .ok (.ifCond .eq 25, 3) := by decide +kernel
theorem dM_issue_29 : decode cM_issue 29 = .ok (.aload_n 0, 1) := by decide +kernel
theorem dM_issue_30 : decode cM_issue 30 = .ok (.getfield 16, 3) := by decide +kernel
theorem dM_issue_33 : decode cM_issue 33 = .ok (.iload 6, 2) := by decide +kernel
theorem dM_issue_35 : decode cM_issue 35 = .ok (.iaload, 1) := by decide +kernel
theorem dM_issue_36 : decode cM_issue 36 = .ok (.iload 5, 2) := by decide +kernel
theorem dM_issue_38 : decode cM_issue 38 = .ok (.if_icmp .le 13, 3) := by decide +kernel
theorem dM_issue_41 : decode cM_issue 41 = .ok (.aload_n 0, 1) := by decide +kernel
theorem dM_issue_42 : decode cM_issue 42 = .ok (.getfield 16, 3) := by decide +kernel
theorem dM_issue_45 : decode cM_issue 45 = .ok (.iload 6, 2) := by decide +kernel
theorem dM_issue_47 : decode cM_issue 47 = .ok (.iaload, 1) := by decide +kernel
theorem dM_issue_48 : decode cM_issue 48 = .ok (.goto 5, 3) := by decide +kernel
theorem dM_issue_51 : decode cM_issue 51 = .ok (.iload 5, 2) := by decide +kernel
theorem dM_issue_53 : decode cM_issue 53 = .ok (.istore 5, 2) := by decide +kernel
theorem dM_issue_55 : decode cM_issue 55 = .ok (.iinc 6 1, 3) := by decide +kernel
theorem dM_issue_58 : decode cM_issue 58 = .ok (.goto (-46), 3) := by decide +kernel
theorem dM_issue_61 : decode cM_issue 61 = .ok (.aload_n 0, 1) := by decide +kernel
theorem dM_issue_62 : decode cM_issue 62 = .ok (.getfield 7, 3) := by decide +kernel
theorem dM_issue_65 : decode cM_issue 65 = .ok (.iload 4, 2) := by decide +kernel
theorem dM_issue_67 : decode cM_issue 67 = .ok (.iload_n 1, 1) := by decide +kernel
theorem dM_issue_68 : decode cM_issue 68 = .ok (.iastore, 1) := by decide +kernel
theorem dM_issue_69 : decode cM_issue 69 = .ok (.aload_n 0, 1) := by decide +kernel
theorem dM_issue_70 : decode cM_issue 70 = .ok (.getfield 16, 3) := by decide +kernel
theorem dM_issue_73 : decode cM_issue 73 = .ok (.iload 4, 2) := by decide +kernel
theorem dM_issue_75 : decode cM_issue 75 = .ok (.iload 5, 2) := by decide +kernel
theorem dM_issue_77 : decode cM_issue 77 = .ok (.iconst 1, 1) := by decide +kernel
theorem dM_issue_78 : decode cM_issue 78 = .ok (.iadd, 1) := by decide +kernel
theorem dM_issue_79 : decode cM_issue 79 = .ok (.iastore, 1) := by decide +kernel
theorem dM_issue_80 : decode cM_issue 80 = .ok (.aload_n 0, 1) := by decide +kernel
theorem dM_issue_81 : decode cM_issue 81 = .ok (.getfield 19, 3) := by decide +kernel
theorem dM_issue_84 : decode cM_issue 84 = .ok (.iload 4, 2) := by decide +kernel
theorem dM_issue_86 : decode cM_issue 86 = .ok (.iload_n 2, 1) := by decide +kernel
theorem dM_issue_87 : decode cM_issue 87 = .ok (.iastore, 1) := by decide +kernel
theorem dM_issue_88 : decode cM_issue 88 = .ok (.aload_n 0, 1) := by decide +kernel
theorem dM_issue_89 : decode cM_issue 89 = .ok (.getfield 22, 3) := by decide +kernel
theorem dM_issue_92 : decode cM_issue 92 = .ok (.iload 4, 2) := by decide +kernel
theorem dM_issue_94 : decode cM_issue 94 = .ok (.iload_n 3, 1) := by decide +kernel
theorem dM_issue_95 : decode cM_issue 95 = .ok (.iastore, 1) := by decide +kernel
theorem dM_issue_96 : decode cM_issue 96 = .ok (.aload_n 0, 1) := by decide +kernel
theorem dM_issue_97 : decode cM_issue 97 = .ok (.getfield 13, 3) := by decide +kernel
theorem dM_issue_100 : decode cM_issue 100 = .ok (.iload 4, 2) := by decide +kernel
theorem dM_issue_102 : decode cM_issue 102 = .ok (.aload_n 0, 1) := by decide +kernel
theorem dM_issue_103 : decode cM_issue 103 = .ok (.iload_n 1, 1) := by decide +kernel
theorem dM_issue_104 : decode cM_issue 104 = .ok (.iload_n 1, 1) := by decide +kernel
theorem dM_issue_105 : decode cM_issue 105 = .ok (.invokevirtual 69, 3) := by decide +kernel
theorem dM_issue_108 : decode cM_issue 108 = .ok (.iconst 1, 1) := by decide +kernel
theorem dM_issue_109 : decode cM_issue 109 = .ok (.iadd, 1) := by decide +kernel
theorem dM_issue_110 : decode cM_issue 110 = .ok (.iastore, 1) := by decide +kernel
theorem dM_issue_111 : decode cM_issue 111 = .ok (.aload_n 0, 1) := by decide +kernel
theorem dM_issue_112 : decode cM_issue 112 = .ok (.dup, 1) := by decide +kernel
theorem dM_issue_113 : decode cM_issue 113 = .ok (.getfield 44, 3) := by decide +kernel
theorem dM_issue_116 : decode cM_issue 116 = .ok (.iconst 1, 1) := by decide +kernel
theorem dM_issue_117 : decode cM_issue 117 = .ok (.iadd, 1) := by decide +kernel
theorem dM_issue_118 : decode cM_issue 118 = .ok (.putfield 44, 3) := by decide +kernel
theorem dM_issue_121 : decode cM_issue 121 = .ok (.aload_n 0, 1) := by decide +kernel
theorem dM_issue_122 : decode cM_issue 122 = .ok (.getfield 28, 3) := by decide +kernel
theorem dM_issue_125 : decode cM_issue 125 = .ok (.bipush 100, 2) := by decide +kernel
theorem dM_issue_127 : decode cM_issue 127 = .ok (.iload_n 1, 1) := by decide +kernel
theorem dM_issue_128 : decode cM_issue 128 = .ok (.imul, 1) := by decide +kernel
theorem dM_issue_129 : decode cM_issue 129 = .ok (.iload 4, 2) := by decide +kernel
theorem dM_issue_131 : decode cM_issue 131 = .ok (.iadd, 1) := by decide +kernel
theorem dM_issue_132 : decode cM_issue 132 = .ok (.iconst 1, 1) := by decide +kernel
theorem dM_issue_133 : decode cM_issue 133 = .ok (.bastore, 1) := by decide +kernel
theorem dM_issue_134 : decode cM_issue 134 = .ok (.iconst 0, 1) := by decide +kernel
theorem dM_issue_135 : decode cM_issue 135 = .ok (.istore 6, 2) := by decide +kernel
theorem dM_issue_137 : decode cM_issue 137 = .ok (.iload 6, 2) := by decide +kernel
theorem dM_issue_139 : decode cM_issue 139 = .ok (.iconst 3, 1) := by decide +kernel
theorem dM_issue_140 : decode cM_issue 140 = .ok (.if_icmp .ge 28, 3) := by decide +kernel
theorem dM_issue_143 : decode cM_issue 143 = .ok (.aload_n 0, 1) := by decide +kernel
theorem dM_issue_144 : decode cM_issue 144 = .ok (.getfield 25, 3) := by decide +kernel
theorem dM_issue_147 : decode cM_issue 147 = .ok (.iconst 3, 1) := by decide +kernel
theorem dM_issue_148 : decode cM_issue 148 = .ok (.iload 4, 2) := by decide +kernel
theorem dM_issue_150 : decode cM_issue 150 = .ok (.imul, 1) := by decide +kernel
theorem dM_issue_151 : decode cM_issue 151 = .ok (.iload 6, 2) := by decide +kernel
theorem dM_issue_153 : decode cM_issue 153 = .ok (.iadd, 1) := by decide +kernel
theorem dM_issue_154 : decode cM_issue 154 = .ok (.aload_n 0, 1) := by decide +kernel
theorem dM_issue_155 : decode cM_issue 155 = .ok (.iload_n 1, 1) := by decide +kernel
theorem dM_issue_156 : decode cM_issue 156 = .ok (.iload 6, 2) := by decide +kernel
theorem dM_issue_158 : decode cM_issue 158 = .ok (.invokevirtual 69, 3) := by decide +kernel
theorem dM_issue_161 : decode cM_issue 161 = .ok (.iastore, 1) := by decide +kernel
theorem dM_issue_162 : decode cM_issue 162 = .ok (.iinc 6 1, 3) := by decide +kernel
theorem dM_issue_165 : decode cM_issue 165 = .ok (.goto (-28), 3) := by decide +kernel
theorem dM_issue_168 : decode cM_issue 168 = .ok (.iload 4, 2) := by decide +kernel
theorem dM_issue_170 : decode cM_issue 170 = .ok (.ireturn, 1) := by decide +kernel
theorem dM_count_0 : decode cM_count 0 = .ok (.iconst 0, 1) := by decide +kernel
theorem dM_count_1 : decode cM_count 1 = .ok (.istore_n 3, 1) := by decide +kernel
theorem dM_count_2 : decode cM_count 2 = .ok (.iconst 0, 1) := by decide +kernel
theorem dM_count_3 : decode cM_count 3 = .ok (.istore 4, 2) := by decide +kernel
theorem dM_count_5 : decode cM_count 5 = .ok (.iload 4, 2) := by decide +kernel
theorem dM_count_7 : decode cM_count 7 = .ok (.aload_n 0, 1) := by decide +kernel
theorem dM_count_8 : decode cM_count 8 = .ok (.getfield 44, 3) := by decide +kernel
theorem dM_count_11 : decode cM_count 11 = .ok (.if_icmp .ge 38, 3) := by decide +kernel
theorem dM_count_14 : decode cM_count 14 = .ok (.aload_n 0, 1) := by decide +kernel
theorem dM_count_15 : decode cM_count 15 = .ok (.getfield 7, 3) := by decide +kernel
theorem dM_count_18 : decode cM_count 18 = .ok (.iload 4, 2) := by decide +kernel
theorem dM_count_20 : decode cM_count 20 = .ok (.iaload, 1) := by decide +kernel
theorem dM_count_21 : decode cM_count 21 = .ok (.iload_n 2, 1) := by decide +kernel
theorem dM_count_22 : decode cM_count 22 = .ok (.if_icmp .ne 19, 3) := by decide +kernel
theorem dM_count_25 : decode cM_count 25 = .ok (.aload_n 0, 1) := by decide +kernel
theorem dM_count_26 : decode cM_count 26 = .ok (.iload_n 1, 1) := by decide +kernel
theorem dM_count_27 : decode cM_count 27 = .ok (.iload 4, 2) := by decide +kernel
theorem dM_count_29 : decode cM_count 29 = .ok (.invokevirtual 48, 3) := by decide +kernel
theorem dM_count_32 : decode cM_count 32 = .ok (.ifCond .eq 9, 3) := by decide +kernel
theorem dM_count_35 : decode cM_count 35 = .ok (.iload_n 3, 1) := by decide +kernel
theorem dM_count_36 : decode cM_count 36 = .ok (.iconst 1, 1) := by decide +kernel
theorem dM_count_37 : decode cM_count 37 = .ok (.iadd, 1) := by decide +kernel
theorem dM_count_38 : decode cM_count 38 = .ok (.goto 4, 3) := by decide +kernel
theorem dM_count_41 : decode cM_count 41 = .ok (.iload_n 3, 1) := by decide +kernel
theorem dM_count_42 : decode cM_count 42 = .ok (.istore_n 3, 1) := by decide +kernel
theorem dM_count_43 : decode cM_count 43 = .ok (.iinc 4 1, 3) := by decide +kernel
theorem dM_count_46 : decode cM_count 46 = .ok (.goto (-41), 3) := by decide +kernel
theorem dM_count_49 : decode cM_count 49 = .ok (.iload_n 3, 1) := by decide +kernel
theorem dM_count_50 : decode cM_count 50 = .ok (.ireturn, 1) := by decide +kernel
theorem dM_erase_0 : decode cM_erase 0 = .ok (.iload_n 1, 1) := by decide +kernel
theorem dM_erase_1 : decode cM_erase 1 = .ok (.invokestatic 72, 3) := by decide +kernel
theorem dM_erase_4 : decode cM_erase 4 = .ok (.ifCond .ne 5, 3) := by decide +kernel
theorem dM_erase_7 : decode cM_erase 7 = .ok (.iconst (-1), 1) := by decide +kernel
theorem dM_erase_8 : decode cM_erase 8 = .ok (.ireturn, 1) := by decide +kernel
theorem dM_erase_9 : decode cM_erase 9 = .ok (.aload_n 0, 1) := by decide +kernel
theorem dM_erase_10 : decode cM_erase 10 = .ok (.iload_n 1, 1) := by decide +kernel
theorem dM_erase_11 : decode cM_erase 11 = .ok (.invokevirtual 76, 3) := by decide +kernel
theorem dM_erase_14 : decode cM_erase 14 = .ok (.iload_n 2, 1) := by decide +kernel
theorem dM_erase_15 : decode cM_erase 15 = .ok (.ifCond .lt 11, 3) := by decide +kernel
theorem dM_erase_18 : decode cM_erase 18 = .ok (.iload_n 2, 1) := by decide +kernel
theorem dM_erase_19 : decode cM_erase 19 = .ok (.aload_n 0, 1) := by decide +kernel
theorem dM_erase_20 : decode cM_erase 20 = .ok (.getfield 59, 3) := by decide +kernel
theorem dM_erase_23 : decode cM_erase 23 = .ok (.if_icmp .lt 5, 3) := by decide +kernel
theorem dM_erase_26 : decode cM_erase 26 = .ok (.iconst (-1), 1) := by decide +kernel
theorem dM_erase_27 : decode cM_erase 27 = .ok (.ireturn, 1) := by decide +kernel
theorem dM_erase_28 : decode cM_erase 28 = .ok (.aload_n 0, 1) := by decide +kernel
theorem dM_erase_29 : decode cM_erase 29 = .ok (.getfield 44, 3) := by decide +kernel
theorem dM_erase_32 : decode cM_erase 32 = .ok (.bipush 100, 2) := by decide +kernel
theorem dM_erase_34 : decode cM_erase 34 = .ok (.if_icmp .ne 6, 3) := by decide +kernel
theorem dM_erase_37 : decode cM_erase 37 = .ok (.bipush (-2), 2) := by decide +kernel
theorem dM_erase_39 : decode cM_erase 39 = .ok (.ireturn, 1) := by decide +kernel
theorem dM_erase_40 : decode cM_erase 40 = .ok (.aload_n 0, 1) := by decide +kernel
theorem dM_erase_41 : decode cM_erase 41 = .ok (.iload_n 1, 1) := by decide +kernel
theorem dM_erase_42 : decode cM_erase 42 = .ok (.iconst 0, 1) := by decide +kernel
theorem dM_erase_43 : decode cM_erase 43 = .ok (.aload_n 0, 1) := by decide +kernel
theorem dM_erase_44 : decode cM_erase 44 = .ok (.getfield 38, 3) := by decide +kernel
theorem dM_erase_47 : decode cM_erase 47 = .ok (.iload_n 2, 1) := by decide +kernel
theorem dM_erase_48 : decode cM_erase 48 = .ok (.iaload, 1) := by decide +kernel
theorem dM_erase_49 : decode cM_erase 49 = .ok (.invokevirtual 80, 3) := by decide +kernel
theorem dM_erase_52 : decode cM_erase 52 = .ok (.ireturn, 1) := by decide +kernel
theorem dM_deliver_0 : decode cM_deliver 0 = .ok (.iload_n 1, 1) := by decide +kernel
theorem dM_deliver_1 : decode cM_deliver 1 = .ok (.invokestatic 72, 3) := by decide +kernel
theorem dM_deliver_4 : decode cM_deliver 4 = .ok (.ifCond .eq 11, 3) := by decide +kernel
theorem dM_deliver_7 : decode cM_deliver 7 = .ok (.aload_n 0, 1) := by decide +kernel
theorem dM_deliver_8 : decode cM_deliver 8 = .ok (.iload_n 2, 1) := by decide +kernel
theorem dM_deliver_9 : decode cM_deliver 9 = .ok (.invokevirtual 83, 3) := by decide +kernel
theorem dM_deliver_12 : decode cM_deliver 12 = .ok (.ifCond .ne 5, 3) := by decide +kernel
theorem dM_deliver_15 : decode cM_deliver 15 = .ok (.iconst (-1), 1) := by decide +kernel
theorem dM_deliver_16 : decode cM_deliver 16 = .ok (.ireturn, 1) := by decide +kernel
theorem dM_deliver_17 : decode cM_deliver 17 = .ok (.aload_n 0, 1) := by decide +kernel
theorem dM_deliver_18 : decode cM_deliver 18 = .ok (.iload_n 1, 1) := by decide +kernel
theorem dM_deliver_19 : decode cM_deliver 19 = .ok (.iload_n 2, 1) := by decide +kernel
theorem dM_deliver_20 : decode cM_deliver 20 = .ok (.invokevirtual 48, 3) := by decide +kernel
theorem dM_deliver_23 : decode cM_deliver 23 = .ok (.ifCond .ne 17, 3) := by decide +kernel
theorem dM_deliver_26 : decode cM_deliver 26 = .ok (.aload_n 0, 1) := by decide +kernel
theorem dM_deliver_27 : decode cM_deliver 27 = .ok (.getfield 32, 3) := by decide +kernel
theorem dM_deliver_30 : decode cM_deliver 30 = .ok (.bipush 100, 2) := by decide +kernel
theorem dM_deliver_32 : decode cM_deliver 32 = .ok (.iload_n 1, 1) := by decide +kernel
theorem dM_deliver_33 : decode cM_deliver 33 = .ok (.imul, 1) := by decide +kernel
theorem dM_deliver_34 : decode cM_deliver 34 = .ok (.iload_n 2, 1) := by decide +kernel
theorem dM_deliver_35 : decode cM_deliver 35 = .ok (.iadd, 1) := by decide +kernel
theorem dM_deliver_36 : decode cM_deliver 36 = .ok (.baload, 1) := by decide +kernel
theorem dM_deliver_37 : decode cM_deliver 37 = .ok (.ifCond .eq 5, 3) := by decide +kernel
theorem dM_deliver_40 : decode cM_deliver 40 = .ok (.iconst 0, 1) := by decide +kernel
theorem dM_deliver_41 : decode cM_deliver 41 = .ok (.ireturn, 1) := by decide +kernel
theorem dM_deliver_42 : decode cM_deliver 42 = .ok (.aload_n 0, 1) := by decide +kernel
theorem dM_deliver_43 : decode cM_deliver 43 = .ok (.getfield 32, 3) := by decide +kernel
theorem dM_deliver_46 : decode cM_deliver 46 = .ok (.bipush 100, 2) := by decide +kernel
theorem dM_deliver_48 : decode cM_deliver 48 = .ok (.iload_n 1, 1) := by decide +kernel
theorem dM_deliver_49 : decode cM_deliver 49 = .ok (.imul, 1) := by decide +kernel
theorem dM_deliver_50 : decode cM_deliver 50 = .ok (.iload_n 2, 1) := by decide +kernel
theorem dM_deliver_51 : decode cM_deliver 51 = .ok (.iadd, 1) := by decide +kernel
theorem dM_deliver_52 : decode cM_deliver 52 = .ok (.iconst 1, 1) := by decide +kernel
theorem dM_deliver_53 : decode cM_deliver 53 = .ok (.bastore, 1) := by decide +kernel
theorem dM_deliver_54 : decode cM_deliver 54 = .ok (.iconst 0, 1) := by decide +kernel
theorem dM_deliver_55 : decode cM_deliver 55 = .ok (.istore_n 3, 1) := by decide +kernel
theorem dM_deliver_56 : decode cM_deliver 56 = .ok (.iconst 1, 1) := by decide +kernel
theorem dM_deliver_57 : decode cM_deliver 57 = .ok (.istore 4, 2) := by decide +kernel
theorem dM_deliver_59 : decode cM_deliver 59 = .ok (.iload 4, 2) := by decide +kernel
theorem dM_deliver_61 : decode cM_deliver 61 = .ok (.ifCond .eq 84, 3) := by decide +kernel
theorem dM_deliver_64 : decode cM_deliver 64 = .ok (.iconst 0, 1) := by decide +kernel
theorem dM_deliver_65 : decode cM_deliver 65 = .ok (.istore 4, 2) := by decide +kernel
theorem dM_deliver_67 : decode cM_deliver 67 = .ok (.iconst 0, 1) := by decide +kernel
theorem dM_deliver_68 : decode cM_deliver 68 = .ok (.istore 5, 2) := by decide +kernel
theorem dM_deliver_70 : decode cM_deliver 70 = .ok (.iload 5, 2) := by decide +kernel
theorem dM_deliver_72 : decode cM_deliver 72 = .ok (.aload_n 0, 1) := by decide +kernel
theorem dM_deliver_73 : decode cM_deliver 73 = .ok (.getfield 44, 3) := by decide +kernel
theorem dM_deliver_76 : decode cM_deliver 76 = .ok (.if_icmp .ge 66, 3) := by decide +kernel
theorem dM_deliver_79 : decode cM_deliver 79 = .ok (.aload_n 0, 1) := by decide +kernel
theorem dM_deliver_80 : decode cM_deliver 80 = .ok (.getfield 32, 3) := by decide +kernel
theorem dM_deliver_83 : decode cM_deliver 83 = .ok (.bipush 100, 2) := by decide +kernel
theorem dM_deliver_85 : decode cM_deliver 85 = .ok (.iload_n 1, 1) := by decide +kernel
theorem dM_deliver_86 : decode cM_deliver 86 = .ok (.imul, 1) := by decide +kernel
theorem dM_deliver_87 : decode cM_deliver 87 = .ok (.iload 5, 2) := by decide +kernel
theorem dM_deliver_89 : decode cM_deliver 89 = .ok (.iadd, 1) := by decide +kernel
theorem dM_deliver_90 : decode cM_deliver 90 = .ok (.baload, 1) := by decide +kernel
theorem dM_deliver_91 : decode cM_deliver 91 = .ok (.ifCond .eq 45, 3) := by decide +kernel
theorem dM_deliver_94 : decode cM_deliver 94 = .ok (.aload_n 0, 1) := by decide +kernel
theorem dM_deliver_95 : decode cM_deliver 95 = .ok (.iload_n 1, 1) := by decide +kernel
theorem dM_deliver_96 : decode cM_deliver 96 = .ok (.iload 5, 2) := by decide +kernel
theorem dM_deliver_98 : decode cM_deliver 98 = .ok (.invokevirtual 86, 3) := by decide +kernel
theorem dM_deliver_101 : decode cM_deliver 101 = .ok (.ifCond .eq 35, 3) := by decide +kernel
theorem dM_deliver_104 : decode cM_deliver 104 = .ok (.aload_n 0, 1) := by decide +kernel
theorem dM_deliver_105 : decode cM_deliver 105 = .ok (.getfield 32, 3) := by decide +kernel
theorem dM_deliver_108 : decode cM_deliver 108 = .ok (.bipush 100, 2) := by decide +kernel
theorem dM_deliver_110 : decode cM_deliver 110 = .ok (.iload_n 1, 1) := by decide +kernel
theorem dM_deliver_111 : decode cM_deliver 111 = .ok (.imul, 1) := by decide +kernel
theorem dM_deliver_112 : decode cM_deliver 112 = .ok (.iload 5, 2) := by decide +kernel
theorem dM_deliver_114 : decode cM_deliver 114 = .ok (.iadd, 1) := by decide +kernel
theorem dM_deliver_115 : decode cM_deliver 115 = .ok (.iconst 0, 1) := by decide +kernel
theorem dM_deliver_116 : decode cM_deliver 116 = .ok (.bastore, 1) := by decide +kernel
theorem dM_deliver_117 : decode cM_deliver 117 = .ok (.aload_n 0, 1) := by decide +kernel
theorem dM_deliver_118 : decode cM_deliver 118 = .ok (.getfield 28, 3) := by decide +kernel
theorem dM_deliver_121 : decode cM_deliver 121 = .ok (.bipush 100, 2) := by decide +kernel
theorem dM_deliver_123 : decode cM_deliver 123 = .ok (.iload_n 1, 1) := by decide +kernel
theorem dM_deliver_124 : decode cM_deliver 124 = .ok (.imul, 1) := by decide +kernel
theorem dM_deliver_125 : decode cM_deliver 125 = .ok (.iload 5, 2) := by decide +kernel
theorem dM_deliver_127 : decode cM_deliver 127 = .ok (.iadd, 1) := by decide +kernel
theorem dM_deliver_128 : decode cM_deliver 128 = .ok (.iconst 1, 1) := by decide +kernel
theorem dM_deliver_129 : decode cM_deliver 129 = .ok (.bastore, 1) := by decide +kernel
theorem dM_deliver_130 : decode cM_deliver 130 = .ok (.iinc 3 1, 3) := by decide +kernel
theorem dM_deliver_133 : decode cM_deliver 133 = .ok (.iconst 1, 1) := by decide +kernel
theorem dM_deliver_134 : decode cM_deliver 134 = .ok (.istore 4, 2) := by decide +kernel
theorem dM_deliver_136 : decode cM_deliver 136 = .ok (.iinc 5 1, 3) := by decide +kernel
theorem dM_deliver_139 : decode cM_deliver 139 = .ok (.goto (-69), 3) := by decide +kernel
theorem dM_deliver_142 : decode cM_deliver 142 = .ok (.goto (-83), 3) := by decide +kernel
theorem dM_deliver_145 : decode cM_deliver 145 = .ok (.iload_n 3, 1) := by decide +kernel
theorem dM_deliver_146 : decode cM_deliver 146 = .ok (.ireturn, 1) := by decide +kernel
theorem dM_isOperation_0 : decode cM_isOperation 0 = .ok (.iload_n 1, 1) := by decide +kernel
theorem dM_isOperation_1 : decode cM_isOperation 1 = .ok (.ifCond .lt 15, 3) := by decide +kernel
theorem dM_isOperation_4 : decode cM_isOperation 4 = .ok (.iload_n 1, 1) := by decide +kernel
theorem dM_isOperation_5 : decode cM_isOperation 5 = .ok (.aload_n 0, 1) := by decide +kernel
theorem dM_isOperation_6 : decode cM_isOperation 6 = .ok (.getfield 44, 3) := by decide +kernel
theorem dM_isOperation_9 : decode cM_isOperation 9 = .ok (.if_icmp .ge 7, 3) := by decide +kernel
theorem dM_isOperation_12 : decode cM_isOperation 12 = .ok (.iconst 1, 1) := by decide +kernel
theorem dM_isOperation_13 : decode cM_isOperation 13 = .ok (.goto 4, 3) := by decide +kernel
theorem dM_isOperation_16 : decode cM_isOperation 16 = .ok (.iconst 0, 1) := by decide +kernel
theorem dM_isOperation_17 : decode cM_isOperation 17 = .ok (.ireturn, 1) := by decide +kernel
theorem dM_ready_0 : decode cM_ready 0 = .ok (.aload_n 0, 1) := by decide +kernel
theorem dM_ready_1 : decode cM_ready 1 = .ok (.iload_n 1, 1) := by decide +kernel
theorem dM_ready_2 : decode cM_ready 2 = .ok (.aload_n 0, 1) := by decide +kernel
theorem dM_ready_3 : decode cM_ready 3 = .ok (.getfield 7, 3) := by decide +kernel
theorem dM_ready_6 : decode cM_ready 6 = .ok (.iload_n 2, 1) := by decide +kernel
theorem dM_ready_7 : decode cM_ready 7 = .ok (.iaload, 1) := by decide +kernel
theorem dM_ready_8 : decode cM_ready 8 = .ok (.invokevirtual 69, 3) := by decide +kernel
theorem dM_ready_11 : decode cM_ready 11 = .ok (.aload_n 0, 1) := by decide +kernel
theorem dM_ready_12 : decode cM_ready 12 = .ok (.getfield 13, 3) := by decide +kernel
theorem dM_ready_15 : decode cM_ready 15 = .ok (.iload_n 2, 1) := by decide +kernel
theorem dM_ready_16 : decode cM_ready 16 = .ok (.iaload, 1) := by decide +kernel
theorem dM_ready_17 : decode cM_ready 17 = .ok (.iconst 1, 1) := by decide +kernel
theorem dM_ready_18 : decode cM_ready 18 = .ok (.isub, 1) := by decide +kernel
theorem dM_ready_19 : decode cM_ready 19 = .ok (.if_icmp .ne 7, 3) := by decide +kernel
theorem dM_ready_22 : decode cM_ready 22 = .ok (.iconst 1, 1) := by decide +kernel
theorem dM_ready_23 : decode cM_ready 23 = .ok (.goto 4, 3) := by decide +kernel
