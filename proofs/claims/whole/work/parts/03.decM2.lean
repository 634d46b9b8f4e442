theorem dM_ready_26 : decode cM_ready 26 = .ok (.iconst 0, 1) := by decide +kernel
theorem dM_ready_27 : decode cM_ready 27 = .ok (.istore_n 3, 1) := by decide +kernel
theorem dM_ready_28 : decode cM_ready 28 = .ok (.iconst 0, 1) := by decide +kernel
theorem dM_ready_29 : decode cM_ready 29 = .ok (.istore 4, 2) := by decide +kernel
theorem dM_ready_31 : decode cM_ready 31 = .ok (.iload 4, 2) := by decide +kernel
theorem dM_ready_33 : decode cM_ready 33 = .ok (.iconst 3, 1) := by decide +kernel
theorem dM_ready_34 : decode cM_ready 34 = .ok (.if_icmp .ge 51, 3) := by decide +kernel
theorem dM_ready_37 : decode cM_ready 37 = .ok (.iload_n 3, 1) := by decide +kernel
theorem dM_ready_38 : decode cM_ready 38 = .ok (.ifCond .eq 39, 3) := by decide +kernel
theorem dM_ready_41 : decode cM_ready 41 = .ok (.iload 4, 2) := by decide +kernel
theorem dM_ready_43 : decode cM_ready 43 = .ok (.aload_n 0, 1) := by decide +kernel
theorem dM_ready_44 : decode cM_ready 44 = .ok (.getfield 7, 3) := by decide +kernel
theorem dM_ready_47 : decode cM_ready 47 = .ok (.iload_n 2, 1) := by decide +kernel
theorem dM_ready_48 : decode cM_ready 48 = .ok (.iaload, 1) := by decide +kernel
theorem dM_ready_49 : decode cM_ready 49 = .ok (.if_icmp .eq 24, 3) := by decide +kernel
theorem dM_ready_52 : decode cM_ready 52 = .ok (.aload_n 0, 1) := by decide +kernel
theorem dM_ready_53 : decode cM_ready 53 = .ok (.iload_n 1, 1) := by decide +kernel
theorem dM_ready_54 : decode cM_ready 54 = .ok (.iload 4, 2) := by decide +kernel
theorem dM_ready_56 : decode cM_ready 56 = .ok (.invokevirtual 69, 3) := by decide +kernel
theorem dM_ready_59 : decode cM_ready 59 = .ok (.aload_n 0, 1) := by decide +kernel
theorem dM_ready_60 : decode cM_ready 60 = .ok (.getfield 25, 3) := by decide +kernel
theorem dM_ready_63 : decode cM_ready 63 = .ok (.iconst 3, 1) := by decide +kernel
theorem dM_ready_64 : decode cM_ready 64 = .ok (.iload_n 2, 1) := by decide +kernel
theorem dM_ready_65 : decode cM_ready 65 = .ok (.imul, 1) := by decide +kernel
theorem dM_ready_66 : decode cM_ready 66 = .ok (.iload 4, 2) := by decide +kernel
theorem dM_ready_68 : decode cM_ready 68 = .ok (.iadd, 1) := by decide +kernel
theorem dM_ready_69 : decode cM_ready 69 = .ok (.iaload, 1) := by decide +kernel
theorem dM_ready_70 : decode cM_ready 70 = .ok (.if_icmp .lt 7, 3) := by decide +kernel
theorem dM_ready_73 : decode cM_ready 73 = .ok (.iconst 1, 1) := by decide +kernel
theorem dM_ready_74 : decode cM_ready 74 = .ok (.goto 4, 3) := by decide +kernel
theorem dM_ready_77 : decode cM_ready 77 = .ok (.iconst 0, 1) := by decide +kernel
theorem dM_ready_78 : decode cM_ready 78 = .ok (.istore_n 3, 1) := by decide +kernel
theorem dM_ready_79 : decode cM_ready 79 = .ok (.iinc 4 1, 3) := by decide +kernel
theorem dM_ready_82 : decode cM_ready 82 = .ok (.goto (-51), 3) := by decide +kernel
theorem dM_ready_85 : decode cM_ready 85 = .ok (.iload_n 3, 1) := by decide +kernel
theorem dM_ready_86 : decode cM_ready 86 = .ok (.ireturn, 1) := by decide +kernel
theorem dM_sync_0 : decode cM_sync 0 = .ok (.iload_n 1, 1) := by decide +kernel
theorem dM_sync_1 : decode cM_sync 1 = .ok (.invokestatic 72, 3) := by decide +kernel
theorem dM_sync_4 : decode cM_sync 4 = .ok (.ifCond .eq 10, 3) := by decide +kernel
theorem dM_sync_7 : decode cM_sync 7 = .ok (.iload_n 2, 1) := by decide +kernel
theorem dM_sync_8 : decode cM_sync 8 = .ok (.invokestatic 72, 3) := by decide +kernel
theorem dM_sync_11 : decode cM_sync 11 = .ok (.ifCond .ne 5, 3) := by decide +kernel
theorem dM_sync_14 : decode cM_sync 14 = .ok (.iconst (-1), 1) := by decide +kernel
theorem dM_sync_15 : decode cM_sync 15 = .ok (.ireturn, 1) := by decide +kernel
theorem dM_sync_16 : decode cM_sync 16 = .ok (.iconst 0, 1) := by decide +kernel
theorem dM_sync_17 : decode cM_sync 17 = .ok (.istore_n 3, 1) := by decide +kernel
theorem dM_sync_18 : decode cM_sync 18 = .ok (.iconst 0, 1) := by decide +kernel
theorem dM_sync_19 : decode cM_sync 19 = .ok (.istore 4, 2) := by decide +kernel
theorem dM_sync_21 : decode cM_sync 21 = .ok (.iload 4, 2) := by decide +kernel
theorem dM_sync_23 : decode cM_sync 23 = .ok (.aload_n 0, 1) := by decide +kernel
theorem dM_sync_24 : decode cM_sync 24 = .ok (.getfield 44, 3) := by decide +kernel
theorem dM_sync_27 : decode cM_sync 27 = .ok (.if_icmp .ge 33, 3) := by decide +kernel
theorem dM_sync_30 : decode cM_sync 30 = .ok (.iload_n 3, 1) := by decide +kernel
theorem dM_sync_31 : decode cM_sync 31 = .ok (.aload_n 0, 1) := by decide +kernel
theorem dM_sync_32 : decode cM_sync 32 = .ok (.iload_n 2, 1) := by decide +kernel
theorem dM_sync_33 : decode cM_sync 33 = .ok (.iload 4, 2) := by decide +kernel
theorem dM_sync_35 : decode cM_sync 35 = .ok (.invokevirtual 48, 3) := by decide +kernel
theorem dM_sync_38 : decode cM_sync 38 = .ok (.ifCond .eq 13, 3) := by decide +kernel
theorem dM_sync_41 : decode cM_sync 41 = .ok (.aload_n 0, 1) := by decide +kernel
theorem dM_sync_42 : decode cM_sync 42 = .ok (.iload_n 1, 1) := by decide +kernel
theorem dM_sync_43 : decode cM_sync 43 = .ok (.iload 4, 2) := by decide +kernel
theorem dM_sync_45 : decode cM_sync 45 = .ok (.invokevirtual 89, 3) := by decide +kernel
theorem dM_sync_48 : decode cM_sync 48 = .ok (.goto 4, 3) := by decide +kernel
theorem dM_sync_51 : decode cM_sync 51 = .ok (.iconst 0, 1) := by decide +kernel
theorem dM_sync_52 : decode cM_sync 52 = .ok (.iadd, 1) := by decide +kernel
theorem dM_sync_53 : decode cM_sync 53 = .ok (.istore_n 3, 1) := by decide +kernel
theorem dM_sync_54 : decode cM_sync 54 = .ok (.iinc 4 1, 3) := by decide +kernel
theorem dM_sync_57 : decode cM_sync 57 = .ok (.goto (-36), 3) := by decide +kernel
theorem dM_sync_60 : decode cM_sync 60 = .ok (.iload_n 3, 1) := by decide +kernel
theorem dM_sync_61 : decode cM_sync 61 = .ok (.ireturn, 1) := by decide +kernel
theorem dM_known_0 : decode cM_known 0 = .ok (.iload_n 1, 1) := by decide +kernel
theorem dM_known_1 : decode cM_known 1 = .ok (.invokestatic 72, 3) := by decide +kernel
theorem dM_known_4 : decode cM_known 4 = .ok (.ifCond .eq 17, 3) := by decide +kernel
theorem dM_known_7 : decode cM_known 7 = .ok (.iload_n 2, 1) := by decide +kernel
theorem dM_known_8 : decode cM_known 8 = .ok (.invokestatic 72, 3) := by decide +kernel
theorem dM_known_11 : decode cM_known 11 = .ok (.ifCond .eq 10, 3) := by decide +kernel
theorem dM_known_14 : decode cM_known 14 = .ok (.iload_n 3, 1) := by decide +kernel
theorem dM_known_15 : decode cM_known 15 = .ok (.invokestatic 72, 3) := by decide +kernel
theorem dM_known_18 : decode cM_known 18 = .ok (.ifCond .ne 5, 3) := by decide +kernel
theorem dM_known_21 : decode cM_known 21 = .ok (.iconst (-1), 1) := by decide +kernel
theorem dM_known_22 : decode cM_known 22 = .ok (.ireturn, 1) := by decide +kernel
theorem dM_known_23 : decode cM_known 23 = .ok (.iload_n 2, 1) := by decide +kernel
theorem dM_known_24 : decode cM_known 24 = .ok (.iload_n 1, 1) := by decide +kernel
theorem dM_known_25 : decode cM_known 25 = .ok (.if_icmp .ne 10, 3) := by decide +kernel
theorem dM_known_28 : decode cM_known 28 = .ok (.aload_n 0, 1) := by decide +kernel
theorem dM_known_29 : decode cM_known 29 = .ok (.iload_n 1, 1) := by decide +kernel
theorem dM_known_30 : decode cM_known 30 = .ok (.iload_n 3, 1) := by decide +kernel
theorem dM_known_31 : decode cM_known 31 = .ok (.invokevirtual 69, 3) := by decide +kernel
theorem dM_known_34 : decode cM_known 34 = .ok (.ireturn, 1) := by decide +kernel
theorem dM_known_35 : decode cM_known 35 = .ok (.iconst 0, 1) := by decide +kernel
theorem dM_known_36 : decode cM_known 36 = .ok (.istore 4, 2) := by decide +kernel
theorem dM_known_38 : decode cM_known 38 = .ok (.iconst 0, 1) := by decide +kernel
theorem dM_known_39 : decode cM_known 39 = .ok (.istore 5, 2) := by decide +kernel
theorem dM_known_41 : decode cM_known 41 = .ok (.iconst 0, 1) := by decide +kernel
theorem dM_known_42 : decode cM_known 42 = .ok (.istore 6, 2) := by decide +kernel
theorem dM_known_44 : decode cM_known 44 = .ok (.iload 6, 2) := by decide +kernel
theorem dM_known_46 : decode cM_known 46 = .ok (.aload_n 0, 1) := by decide +kernel
theorem dM_known_47 : decode cM_known 47 = .ok (.getfield 44, 3) := by decide +kernel
theorem dM_known_50 : decode cM_known 50 = .ok (.if_icmp .ge 64, 3) := by decide +kernel
theorem dM_known_53 : decode cM_known 53 = .ok (.aload_n 0, 1) := by decide +kernel
theorem dM_known_54 : decode cM_known 54 = .ok (.getfield 7, 3) := by decide +kernel
theorem dM_known_57 : decode cM_known 57 = .ok (.iload 6, 2) := by decide +kernel
theorem dM_known_59 : decode cM_known 59 = .ok (.iaload, 1) := by decide +kernel
theorem dM_known_60 : decode cM_known 60 = .ok (.iload_n 2, 1) := by decide +kernel
theorem dM_known_61 : decode cM_known 61 = .ok (.if_icmp .ne 47, 3) := by decide +kernel
theorem dM_known_64 : decode cM_known 64 = .ok (.aload_n 0, 1) := by decide +kernel
theorem dM_known_65 : decode cM_known 65 = .ok (.iload_n 1, 1) := by decide +kernel
theorem dM_known_66 : decode cM_known 66 = .ok (.iload 6, 2) := by decide +kernel
theorem dM_known_68 : decode cM_known 68 = .ok (.invokevirtual 48, 3) := by decide +kernel
theorem dM_known_71 : decode cM_known 71 = .ok (.ifCond .eq 37, 3) := by decide +kernel
theorem dM_known_74 : decode cM_known 74 = .ok (.aload_n 0, 1) := by decide +kernel
theorem dM_known_75 : decode cM_known 75 = .ok (.getfield 13, 3) := by decide +kernel
theorem dM_known_78 : decode cM_known 78 = .ok (.iload 6, 2) := by decide +kernel
theorem dM_known_80 : decode cM_known 80 = .ok (.iaload, 1) := by decide +kernel
theorem dM_known_81 : decode cM_known 81 = .ok (.iload 5, 2) := by decide +kernel
theorem dM_known_83 : decode cM_known 83 = .ok (.if_icmp .le 25, 3) := by decide +kernel
theorem dM_known_86 : decode cM_known 86 = .ok (.aload_n 0, 1) := by decide +kernel
theorem dM_known_87 : decode cM_known 87 = .ok (.getfield 13, 3) := by decide +kernel
theorem dM_known_90 : decode cM_known 90 = .ok (.iload 6, 2) := by decide +kernel
theorem dM_known_92 : decode cM_known 92 = .ok (.iaload, 1) := by decide +kernel
theorem dM_known_93 : decode cM_known 93 = .ok (.istore 5, 2) := by decide +kernel
theorem dM_known_95 : decode cM_known 95 = .ok (.aload_n 0, 1) := by decide +kernel
theorem dM_known_96 : decode cM_known 96 = .ok (.getfield 25, 3) := by decide +kernel
theorem dM_known_99 : decode cM_known 99 = .ok (.iconst 3, 1) := by decide +kernel
theorem dM_known_100 : decode cM_known 100 = .ok (.iload 6, 2) := by decide +kernel
theorem dM_known_102 : decode cM_known 102 = .ok (.imul, 1) := by decide +kernel
theorem dM_known_103 : decode cM_known 103 = .ok (.iload_n 3, 1) := by decide +kernel
theorem dM_known_104 : decode cM_known 104 = .ok (.iadd, 1) := by decide +kernel
theorem dM_known_105 : decode cM_known 105 = .ok (.iaload, 1) := by decide +kernel
theorem dM_known_106 : decode cM_known 106 = .ok (.istore 4, 2) := by decide +kernel
theorem dM_known_108 : decode cM_known 108 = .ok (.iinc 6 1, 3) := by decide +kernel
theorem dM_known_111 : decode cM_known 111 = .ok (.goto (-67), 3) := by decide +kernel
theorem dM_known_114 : decode cM_known 114 = .ok (.iload 4, 2) := by decide +kernel
theorem dM_known_116 : decode cM_known 116 = .ok (.ireturn, 1) := by decide +kernel
theorem dM_stable_0 : decode cM_stable 0 = .ok (.iload_n 1, 1) := by decide +kernel
theorem dM_stable_1 : decode cM_stable 1 = .ok (.invokestatic 72, 3) := by decide +kernel
theorem dM_stable_4 : decode cM_stable 4 = .ok (.ifCond .eq 20, 3) := by decide +kernel
theorem dM_stable_7 : decode cM_stable 7 = .ok (.aload_n 0, 1) := by decide +kernel
theorem dM_stable_8 : decode cM_stable 8 = .ok (.iload_n 2, 1) := by decide +kernel
theorem dM_stable_9 : decode cM_stable 9 = .ok (.invokevirtual 83, 3) := by decide +kernel
theorem dM_stable_12 : decode cM_stable 12 = .ok (.ifCond .eq 12, 3) := by decide +kernel
theorem dM_stable_15 : decode cM_stable 15 = .ok (.aload_n 0, 1) := by decide +kernel
theorem dM_stable_16 : decode cM_stable 16 = .ok (.iload_n 1, 1) := by decide +kernel
theorem dM_stable_17 : decode cM_stable 17 = .ok (.iload_n 2, 1) := by decide +kernel
theorem dM_stable_18 : decode cM_stable 18 = .ok (.invokevirtual 48, 3) := by decide +kernel
theorem dM_stable_21 : decode cM_stable 21 = .ok (.ifCond .ne 5, 3) := by decide +kernel
theorem dM_stable_24 : decode cM_stable 24 = .ok (.iconst 0, 1) := by decide +kernel
theorem dM_stable_25 : decode cM_stable 25 = .ok (.ireturn, 1) := by decide +kernel
theorem dM_stable_26 : decode cM_stable 26 = .ok (.iconst 1, 1) := by decide +kernel
theorem dM_stable_27 : decode cM_stable 27 = .ok (.istore_n 3, 1) := by decide +kernel
theorem dM_stable_28 : decode cM_stable 28 = .ok (.iconst 0, 1) := by decide +kernel
theorem dM_stable_29 : decode cM_stable 29 = .ok (.istore 4, 2) := by decide +kernel
theorem dM_stable_31 : decode cM_stable 31 = .ok (.iload 4, 2) := by decide +kernel
theorem dM_stable_33 : decode cM_stable 33 = .ok (.iconst 3, 1) := by decide +kernel
theorem dM_stable_34 : decode cM_stable 34 = .ok (.if_icmp .ge 41, 3) := by decide +kernel
theorem dM_stable_37 : decode cM_stable 37 = .ok (.iload_n 3, 1) := by decide +kernel
theorem dM_stable_38 : decode cM_stable 38 = .ok (.ifCond .eq 29, 3) := by decide +kernel
theorem dM_stable_41 : decode cM_stable 41 = .ok (.aload_n 0, 1) := by decide +kernel
theorem dM_stable_42 : decode cM_stable 42 = .ok (.iload_n 1, 1) := by decide +kernel
theorem dM_stable_43 : decode cM_stable 43 = .ok (.iload 4, 2) := by decide +kernel
theorem dM_stable_45 : decode cM_stable 45 = .ok (.aload_n 0, 1) := by decide +kernel
theorem dM_stable_46 : decode cM_stable 46 = .ok (.getfield 7, 3) := by decide +kernel
theorem dM_stable_49 : decode cM_stable 49 = .ok (.iload_n 2, 1) := by decide +kernel
theorem dM_stable_50 : decode cM_stable 50 = .ok (.iaload, 1) := by decide +kernel
theorem dM_stable_51 : decode cM_stable 51 = .ok (.invokevirtual 92, 3) := by decide +kernel
theorem dM_stable_54 : decode cM_stable 54 = .ok (.aload_n 0, 1) := by decide +kernel
theorem dM_stable_55 : decode cM_stable 55 = .ok (.getfield 13, 3) := by decide +kernel
theorem dM_stable_58 : decode cM_stable 58 = .ok (.iload_n 2, 1) := by decide +kernel
theorem dM_stable_59 : decode cM_stable 59 = .ok (.iaload, 1) := by decide +kernel
theorem dM_stable_60 : decode cM_stable 60 = .ok (.if_icmp .lt 7, 3) := by decide +kernel
theorem dM_stable_63 : decode cM_stable 63 = .ok (.iconst 1, 1) := by decide +kernel
theorem dM_stable_64 : decode cM_stable 64 = .ok (.goto 4, 3) := by decide +kernel
theorem dM_stable_67 : decode cM_stable 67 = .ok (.iconst 0, 1) := by decide +kernel
theorem dM_stable_68 : decode cM_stable 68 = .ok (.istore_n 3, 1) := by decide +kernel
theorem dM_stable_69 : decode cM_stable 69 = .ok (.iinc 4 1, 3) := by decide +kernel
theorem dM_stable_72 : decode cM_stable 72 = .ok (.goto (-41), 3) := by decide +kernel
theorem dM_stable_75 : decode cM_stable 75 = .ok (.iload_n 3, 1) := by decide +kernel
theorem dM_stable_76 : decode cM_stable 76 = .ok (.ireturn, 1) := by decide +kernel
theorem dM_collect_0 : decode cM_collect 0 = .ok (.iload_n 1, 1) := by decide +kernel
theorem dM_collect_1 : decode cM_collect 1 = .ok (.invokestatic 72, 3) := by decide +kernel
theorem dM_collect_4 : decode cM_collect 4 = .ok (.ifCond .ne 5, 3) := by decide +kernel
theorem dM_collect_7 : decode cM_collect 7 = .ok (.iconst (-1), 1) := by decide +kernel
theorem dM_collect_8 : decode cM_collect 8 = .ok (.ireturn, 1) := by decide +kernel
theorem dM_collect_9 : decode cM_collect 9 = .ok (.iconst 0, 1) := by decide +kernel
theorem dM_collect_10 : decode cM_collect 10 = .ok (.istore_n 2, 1) := by decide +kernel
theorem dM_collect_11 : decode cM_collect 11 = .ok (.iconst 0, 1) := by decide +kernel
theorem dM_collect_12 : decode cM_collect 12 = .ok (.istore_n 3, 1) := by decide +kernel
theorem dM_collect_13 : decode cM_collect 13 = .ok (.iload_n 3, 1) := by decide +kernel
theorem dM_collect_14 : decode cM_collect 14 = .ok (.aload_n 0, 1) := by decide +kernel
theorem dM_collect_15 : decode cM_collect 15 = .ok (.getfield 44, 3) := by decide +kernel
theorem dM_collect_18 : decode cM_collect 18 = .ok (.if_icmp .ge 42, 3) := by decide +kernel
theorem dM_collect_21 : decode cM_collect 21 = .ok (.aload_n 0, 1) := by decide +kernel
theorem dM_collect_22 : decode cM_collect 22 = .ok (.iload_n 1, 1) := by decide +kernel
theorem dM_collect_23 : decode cM_collect 23 = .ok (.iload_n 3, 1) := by decide +kernel
theorem dM_collect_24 : decode cM_collect 24 = .ok (.invokevirtual 98, 3) := by decide +kernel
theorem dM_collect_27 : decode cM_collect 27 = .ok (.ifCond .eq 27, 3) := by decide +kernel
theorem dM_collect_30 : decode cM_collect 30 = .ok (.aload_n 0, 1) := by decide +kernel
theorem dM_collect_31 : decode cM_collect 31 = .ok (.iload_n 1, 1) := by decide +kernel
theorem dM_collect_32 : decode cM_collect 32 = .ok (.iload_n 3, 1) := by decide +kernel
theorem dM_collect_33 : decode cM_collect 33 = .ok (.invokevirtual 101, 3) := by decide +kernel
theorem dM_collect_36 : decode cM_collect 36 = .ok (.ifCond .eq 18, 3) := by decide +kernel
theorem dM_collect_39 : decode cM_collect 39 = .ok (.aload_n 0, 1) := by decide +kernel
theorem dM_collect_40 : decode cM_collect 40 = .ok (.getfield 35, 3) := by decide +kernel
theorem dM_collect_43 : decode cM_collect 43 = .ok (.bipush 100, 2) := by decide +kernel
theorem dM_collect_45 : decode cM_collect 45 = .ok (.iload_n 1, 1) := by decide +kernel
theorem dM_collect_46 : decode cM_collect 46 = .ok (.imul, 1) := by decide +kernel
theorem dM_collect_47 : decode cM_collect 47 = .ok (.iload_n 3, 1) := by decide +kernel
theorem dM_collect_48 : decode cM_collect 48 = .ok (.iadd, 1) := by decide +kernel
theorem dM_collect_49 : decode cM_collect 49 = .ok (.iconst 1, 1) := by decide +kernel
theorem dM_collect_50 : decode cM_collect 50 = .ok (.bastore, 1) := by decide +kernel
theorem dM_collect_51 : decode cM_collect 51 = .ok (.iinc 2 1, 3) := by decide +kernel
theorem dM_collect_54 : decode cM_collect 54 = .ok (.iinc 3 1, 3) := by decide +kernel
theorem dM_collect_57 : decode cM_collect 57 = .ok (.goto (-44), 3) := by decide +kernel
theorem dM_collect_60 : decode cM_collect 60 = .ok (.iload_n 2, 1) := by decide +kernel
theorem dM_collect_61 : decode cM_collect 61 = .ok (.ireturn, 1) := by decide +kernel
theorem dM_keeps_0 : decode cM_keeps 0 = .ok (.aload_n 0, 1) := by decide +kernel
theorem dM_keeps_1 : decode cM_keeps 1 = .ok (.getfield 19, 3) := by decide +kernel
theorem dM_keeps_4 : decode cM_keeps 4 = .ok (.iload_n 2, 1) := by decide +kernel
theorem dM_keeps_5 : decode cM_keeps 5 = .ok (.iaload, 1) := by decide +kernel
theorem dM_keeps_6 : decode cM_keeps 6 = .ok (.ifCond .le 30, 3) := by decide +kernel
theorem dM_keeps_9 : decode cM_keeps 9 = .ok (.aload_n 0, 1) := by decide +kernel
theorem dM_keeps_10 : decode cM_keeps 10 = .ok (.iload_n 1, 1) := by decide +kernel
theorem dM_keeps_11 : decode cM_keeps 11 = .ok (.iload_n 2, 1) := by decide +kernel
theorem dM_keeps_12 : decode cM_keeps 12 = .ok (.invokevirtual 48, 3) := by decide +kernel
theorem dM_keeps_15 : decode cM_keeps 15 = .ok (.ifCond .eq 21, 3) := by decide +kernel
theorem dM_keeps_18 : decode cM_keeps 18 = .ok (.aload_n 0, 1) := by decide +kernel
theorem dM_keeps_19 : decode cM_keeps 19 = .ok (.getfield 35, 3) := by decide +kernel
theorem dM_keeps_22 : decode cM_keeps 22 = .ok (.bipush 100, 2) := by decide +kernel
theorem dM_keeps_24 : decode cM_keeps 24 = .ok (.iload_n 1, 1) := by decide +kernel
theorem dM_keeps_25 : decode cM_keeps 25 = .ok (.imul, 1) := by decide +kernel
theorem dM_keeps_26 : decode cM_keeps 26 = .ok (.iload_n 2, 1) := by decide +kernel
theorem dM_keeps_27 : decode cM_keeps 27 = .ok (.iadd, 1) := by decide +kernel
theorem dM_keeps_28 : decode cM_keeps 28 = .ok (.baload, 1) := by decide +kernel
theorem dM_keeps_29 : decode cM_keeps 29 = .ok (.ifCond .ne 7, 3) := by decide +kernel
theorem dM_keeps_32 : decode cM_keeps 32 = .ok (.iconst 1, 1) := by decide +kernel
theorem dM_keeps_33 : decode cM_keeps 33 = .ok (.goto 4, 3) := by decide +kernel
theorem dM_keeps_36 : decode cM_keeps 36 = .ok (.iconst 0, 1) := by decide +kernel
theorem dM_keeps_37 : decode cM_keeps 37 = .ok (.ireturn, 1) := by decide +kernel
theorem dM_idle_0 : decode cM_idle 0 = .ok (.iconst 0, 1) := by decide +kernel
theorem dM_idle_1 : decode cM_idle 1 = .ok (.istore_n 3, 1) := by decide +kernel
theorem dM_idle_2 : decode cM_idle 2 = .ok (.iconst 1, 1) := by decide +kernel
theorem dM_idle_3 : decode cM_idle 3 = .ok (.istore 4, 2) := by decide +kernel
theorem dM_idle_5 : decode cM_idle 5 = .ok (.iconst 0, 1) := by decide +kernel
theorem dM_idle_6 : decode cM_idle 6 = .ok (.istore 5, 2) := by decide +kernel
theorem dM_idle_8 : decode cM_idle 8 = .ok (.iload 5, 2) := by decide +kernel
theorem dM_idle_10 : decode cM_idle 10 = .ok (.aload_n 0, 1) := by decide +kernel
theorem dM_idle_11 : decode cM_idle 11 = .ok (.getfield 44, 3) := by decide +kernel
theorem dM_idle_14 : decode cM_idle 14 = .ok (.if_icmp .ge 92, 3) := by decide +kernel
theorem dM_idle_17 : decode cM_idle 17 = .ok (.aload_n 0, 1) := by decide +kernel
theorem dM_idle_18 : decode cM_idle 18 = .ok (.getfield 22, 3) := by decide +kernel
theorem dM_idle_21 : decode cM_idle 21 = .ok (.iload 5, 2) := by decide +kernel
theorem dM_idle_23 : decode cM_idle 23 = .ok (.iaload, 1) := by decide +kernel
theorem dM_idle_24 : decode cM_idle 24 = .ok (.iload_n 2, 1) := by decide +kernel
theorem dM_idle_25 : decode cM_idle 25 = .ok (.if_icmp .ne 75, 3) := by decide +kernel
theorem dM_idle_28 : decode cM_idle 28 = .ok (.aload_n 0, 1) := by decide +kernel
theorem dM_idle_29 : decode cM_idle 29 = .ok (.iload_n 1, 1) := by decide +kernel
theorem dM_idle_30 : decode cM_idle 30 = .ok (.iload 5, 2) := by decide +kernel
theorem dM_idle_32 : decode cM_idle 32 = .ok (.invokevirtual 48, 3) := by decide +kernel
theorem dM_idle_35 : decode cM_idle 35 = .ok (.ifCond .eq 65, 3) := by decide +kernel
theorem dM_idle_38 : decode cM_idle 38 = .ok (.iload_n 3, 1) := by decide +kernel
theorem dM_idle_39 : decode cM_idle 39 = .ok (.ifCond .ne 23, 3) := by decide +kernel
theorem dM_idle_42 : decode cM_idle 42 = .ok (.aload_n 0, 1) := by decide +kernel
theorem dM_idle_43 : decode cM_idle 43 = .ok (.getfield 19, 3) := by decide +kernel
theorem dM_idle_46 : decode cM_idle 46 = .ok (.iload 5, 2) := by decide +kernel
theorem dM_idle_48 : decode cM_idle 48 = .ok (.iaload, 1) := by decide +kernel
theorem dM_idle_49 : decode cM_idle 49 = .ok (.ifCond .ne 17, 3) := by decide +kernel
theorem dM_idle_52 : decode cM_idle 52 = .ok (.aload_n 0, 1) := by decide +kernel
theorem dM_idle_53 : decode cM_idle 53 = .ok (.iload_n 1, 1) := by decide +kernel
theorem dM_idle_54 : decode cM_idle 54 = .ok (.iload 5, 2) := by decide +kernel
theorem dM_idle_56 : decode cM_idle 56 = .ok (.invokevirtual 95, 3) := by decide +kernel
theorem dM_idle_59 : decode cM_idle 59 = .ok (.ifCond .eq 7, 3) := by decide +kernel
theorem dM_idle_62 : decode cM_idle 62 = .ok (.iconst 1, 1) := by decide +kernel
theorem dM_idle_63 : decode cM_idle 63 = .ok (.goto 4, 3) := by decide +kernel
theorem dM_idle_66 : decode cM_idle 66 = .ok (.iconst 0, 1) := by decide +kernel
theorem dM_idle_67 : decode cM_idle 67 = .ok (.istore_n 3, 1) := by decide +kernel
theorem dM_idle_68 : decode cM_idle 68 = .ok (.iload 4, 2) := by decide +kernel
theorem dM_idle_70 : decode cM_idle 70 = .ok (.ifCond .eq 27, 3) := by decide +kernel
theorem dM_idle_73 : decode cM_idle 73 = .ok (.aload_n 0, 1) := by decide +kernel
theorem dM_idle_74 : decode cM_idle 74 = .ok (.getfield 19, 3) := by decide +kernel
theorem dM_idle_77 : decode cM_idle 77 = .ok (.iload 5, 2) := by decide +kernel
