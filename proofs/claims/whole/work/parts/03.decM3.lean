theorem dM_idle_79 : decode cM_idle 79 = .ok (.iaload, 1) := by decide +kernel
theorem dM_idle_80 : decode cM_idle 80 = .ok (.ifCond .eq 13, 3) := by decide +kernel
theorem dM_idle_83 : decode cM_idle 83 = .ok (.aload_n 0, 1) := by decide +kernel
theorem dM_idle_84 : decode cM_idle 84 = .ok (.iload_n 1, 1) := by decide +kernel
theorem dM_idle_85 : decode cM_idle 85 = .ok (.iload 5, 2) := by decide +kernel
theorem dM_idle_87 : decode cM_idle 87 = .ok (.invokevirtual 95, 3) := by decide +kernel
theorem dM_idle_90 : decode cM_idle 90 = .ok (.ifCond .eq 7, 3) := by decide +kernel
theorem dM_idle_93 : decode cM_idle 93 = .ok (.iconst 1, 1) := by decide +kernel
theorem dM_idle_94 : decode cM_idle 94 = .ok (.goto 4, 3) := by decide +kernel
theorem dM_idle_97 : decode cM_idle 97 = .ok (.iconst 0, 1) := by decide +kernel
theorem dM_idle_98 : decode cM_idle 98 = .ok (.istore 4, 2) := by decide +kernel
theorem dM_idle_100 : decode cM_idle 100 = .ok (.iinc 5 1, 3) := by decide +kernel
theorem dM_idle_103 : decode cM_idle 103 = .ok (.goto (-95), 3) := by decide +kernel
theorem dM_idle_106 : decode cM_idle 106 = .ok (.iload_n 3, 1) := by decide +kernel
theorem dM_idle_107 : decode cM_idle 107 = .ok (.ifCond .eq 12, 3) := by decide +kernel
theorem dM_idle_110 : decode cM_idle 110 = .ok (.iload 4, 2) := by decide +kernel
theorem dM_idle_112 : decode cM_idle 112 = .ok (.ifCond .eq 7, 3) := by decide +kernel
theorem dM_idle_115 : decode cM_idle 115 = .ok (.iconst 1, 1) := by decide +kernel
theorem dM_idle_116 : decode cM_idle 116 = .ok (.goto 4, 3) := by decide +kernel
theorem dM_idle_119 : decode cM_idle 119 = .ok (.iconst 0, 1) := by decide +kernel
theorem dM_idle_120 : decode cM_idle 120 = .ok (.ireturn, 1) := by decide +kernel
theorem dM_length_0 : decode cM_length 0 = .ok (.iload_n 1, 1) := by decide +kernel
theorem dM_length_1 : decode cM_length 1 = .ok (.invokestatic 72, 3) := by decide +kernel
theorem dM_length_4 : decode cM_length 4 = .ok (.ifCond .ne 5, 3) := by decide +kernel
theorem dM_length_7 : decode cM_length 7 = .ok (.iconst (-1), 1) := by decide +kernel
theorem dM_length_8 : decode cM_length 8 = .ok (.ireturn, 1) := by decide +kernel
theorem dM_length_9 : decode cM_length 9 = .ok (.aload_n 0, 1) := by decide +kernel
theorem dM_length_10 : decode cM_length 10 = .ok (.iload_n 1, 1) := by decide +kernel
theorem dM_length_11 : decode cM_length 11 = .ok (.invokevirtual 76, 3) := by decide +kernel
theorem dM_length_14 : decode cM_length 14 = .ok (.aload_n 0, 1) := by decide +kernel
theorem dM_length_15 : decode cM_length 15 = .ok (.getfield 59, 3) := by decide +kernel
theorem dM_length_18 : decode cM_length 18 = .ok (.ireturn, 1) := by decide +kernel
theorem dM_at_0 : decode cM_at 0 = .ok (.iload_n 1, 1) := by decide +kernel
theorem dM_at_1 : decode cM_at 1 = .ok (.invokestatic 72, 3) := by decide +kernel
theorem dM_at_4 : decode cM_at 4 = .ok (.ifCond .eq 7, 3) := by decide +kernel
theorem dM_at_7 : decode cM_at 7 = .ok (.iload_n 2, 1) := by decide +kernel
theorem dM_at_8 : decode cM_at 8 = .ok (.ifCond .ge 5, 3) := by decide +kernel
theorem dM_at_11 : decode cM_at 11 = .ok (.iconst (-1), 1) := by decide +kernel
theorem dM_at_12 : decode cM_at 12 = .ok (.ireturn, 1) := by decide +kernel
theorem dM_at_13 : decode cM_at 13 = .ok (.aload_n 0, 1) := by decide +kernel
theorem dM_at_14 : decode cM_at 14 = .ok (.iload_n 1, 1) := by decide +kernel
theorem dM_at_15 : decode cM_at 15 = .ok (.invokevirtual 76, 3) := by decide +kernel
theorem dM_at_18 : decode cM_at 18 = .ok (.iload_n 2, 1) := by decide +kernel
theorem dM_at_19 : decode cM_at 19 = .ok (.aload_n 0, 1) := by decide +kernel
theorem dM_at_20 : decode cM_at 20 = .ok (.getfield 59, 3) := by decide +kernel
theorem dM_at_23 : decode cM_at 23 = .ok (.if_icmp .ge 17, 3) := by decide +kernel
theorem dM_at_26 : decode cM_at 26 = .ok (.aload_n 0, 1) := by decide +kernel
theorem dM_at_27 : decode cM_at 27 = .ok (.getfield 19, 3) := by decide +kernel
theorem dM_at_30 : decode cM_at 30 = .ok (.aload_n 0, 1) := by decide +kernel
theorem dM_at_31 : decode cM_at 31 = .ok (.getfield 38, 3) := by decide +kernel
theorem dM_at_34 : decode cM_at 34 = .ok (.iload_n 2, 1) := by decide +kernel
theorem dM_at_35 : decode cM_at 35 = .ok (.iaload, 1) := by decide +kernel
theorem dM_at_36 : decode cM_at 36 = .ok (.iaload, 1) := by decide +kernel
theorem dM_at_37 : decode cM_at 37 = .ok (.goto 4, 3) := by decide +kernel
theorem dM_at_40 : decode cM_at 40 = .ok (.iconst (-1), 1) := by decide +kernel
theorem dM_at_41 : decode cM_at 41 = .ok (.ireturn, 1) := by decide +kernel
theorem dM_position_0 : decode cM_position 0 = .ok (.iload_n 1, 1) := by decide +kernel
theorem dM_position_1 : decode cM_position 1 = .ok (.invokestatic 72, 3) := by decide +kernel
theorem dM_position_4 : decode cM_position 4 = .ok (.ifCond .eq 11, 3) := by decide +kernel
theorem dM_position_7 : decode cM_position 7 = .ok (.aload_n 0, 1) := by decide +kernel
theorem dM_position_8 : decode cM_position 8 = .ok (.iload_n 2, 1) := by decide +kernel
theorem dM_position_9 : decode cM_position 9 = .ok (.invokevirtual 83, 3) := by decide +kernel
theorem dM_position_12 : decode cM_position 12 = .ok (.ifCond .ne 5, 3) := by decide +kernel
theorem dM_position_15 : decode cM_position 15 = .ok (.iconst (-1), 1) := by decide +kernel
theorem dM_position_16 : decode cM_position 16 = .ok (.ireturn, 1) := by decide +kernel
theorem dM_position_17 : decode cM_position 17 = .ok (.aload_n 0, 1) := by decide +kernel
theorem dM_position_18 : decode cM_position 18 = .ok (.iload_n 1, 1) := by decide +kernel
theorem dM_position_19 : decode cM_position 19 = .ok (.invokevirtual 76, 3) := by decide +kernel
theorem dM_position_22 : decode cM_position 22 = .ok (.iconst (-1), 1) := by decide +kernel
theorem dM_position_23 : decode cM_position 23 = .ok (.istore_n 3, 1) := by decide +kernel
theorem dM_position_24 : decode cM_position 24 = .ok (.iconst 0, 1) := by decide +kernel
theorem dM_position_25 : decode cM_position 25 = .ok (.istore 4, 2) := by decide +kernel
theorem dM_position_27 : decode cM_position 27 = .ok (.iload 4, 2) := by decide +kernel
theorem dM_position_29 : decode cM_position 29 = .ok (.aload_n 0, 1) := by decide +kernel
theorem dM_position_30 : decode cM_position 30 = .ok (.getfield 59, 3) := by decide +kernel
theorem dM_position_33 : decode cM_position 33 = .ok (.if_icmp .ge 27, 3) := by decide +kernel
theorem dM_position_36 : decode cM_position 36 = .ok (.aload_n 0, 1) := by decide +kernel
theorem dM_position_37 : decode cM_position 37 = .ok (.getfield 38, 3) := by decide +kernel
theorem dM_position_40 : decode cM_position 40 = .ok (.iload 4, 2) := by decide +kernel
theorem dM_position_42 : decode cM_position 42 = .ok (.iaload, 1) := by decide +kernel
theorem dM_position_43 : decode cM_position 43 = .ok (.iload_n 2, 1) := by decide +kernel
theorem dM_position_44 : decode cM_position 44 = .ok (.if_icmp .ne 8, 3) := by decide +kernel
theorem dM_position_47 : decode cM_position 47 = .ok (.iload 4, 2) := by decide +kernel
theorem dM_position_49 : decode cM_position 49 = .ok (.goto 4, 3) := by decide +kernel
theorem dM_position_52 : decode cM_position 52 = .ok (.iload_n 3, 1) := by decide +kernel
theorem dM_position_53 : decode cM_position 53 = .ok (.istore_n 3, 1) := by decide +kernel
theorem dM_position_54 : decode cM_position 54 = .ok (.iinc 4 1, 3) := by decide +kernel
theorem dM_position_57 : decode cM_position 57 = .ok (.goto (-30), 3) := by decide +kernel
theorem dM_position_60 : decode cM_position 60 = .ok (.iload_n 3, 1) := by decide +kernel
theorem dM_position_61 : decode cM_position 61 = .ok (.ireturn, 1) := by decide +kernel
theorem dM_same_0 : decode cM_same 0 = .ok (.iload_n 1, 1) := by decide +kernel
theorem dM_same_1 : decode cM_same 1 = .ok (.invokestatic 72, 3) := by decide +kernel
theorem dM_same_4 : decode cM_same 4 = .ok (.ifCond .eq 10, 3) := by decide +kernel
theorem dM_same_7 : decode cM_same 7 = .ok (.iload_n 2, 1) := by decide +kernel
theorem dM_same_8 : decode cM_same 8 = .ok (.invokestatic 72, 3) := by decide +kernel
theorem dM_same_11 : decode cM_same 11 = .ok (.ifCond .ne 5, 3) := by decide +kernel
theorem dM_same_14 : decode cM_same 14 = .ok (.iconst 0, 1) := by decide +kernel
theorem dM_same_15 : decode cM_same 15 = .ok (.ireturn, 1) := by decide +kernel
theorem dM_same_16 : decode cM_same 16 = .ok (.aload_n 0, 1) := by decide +kernel
theorem dM_same_17 : decode cM_same 17 = .ok (.iload_n 1, 1) := by decide +kernel
theorem dM_same_18 : decode cM_same 18 = .ok (.invokevirtual 76, 3) := by decide +kernel
theorem dM_same_21 : decode cM_same 21 = .ok (.aload_n 0, 1) := by decide +kernel
theorem dM_same_22 : decode cM_same 22 = .ok (.getfield 59, 3) := by decide +kernel
theorem dM_same_25 : decode cM_same 25 = .ok (.istore_n 3, 1) := by decide +kernel
theorem dM_same_26 : decode cM_same 26 = .ok (.iconst 0, 1) := by decide +kernel
theorem dM_same_27 : decode cM_same 27 = .ok (.istore 4, 2) := by decide +kernel
theorem dM_same_29 : decode cM_same 29 = .ok (.iload 4, 2) := by decide +kernel
theorem dM_same_31 : decode cM_same 31 = .ok (.iload_n 3, 1) := by decide +kernel
theorem dM_same_32 : decode cM_same 32 = .ok (.if_icmp .ge 28, 3) := by decide +kernel
theorem dM_same_35 : decode cM_same 35 = .ok (.aload_n 0, 1) := by decide +kernel
theorem dM_same_36 : decode cM_same 36 = .ok (.getfield 41, 3) := by decide +kernel
theorem dM_same_39 : decode cM_same 39 = .ok (.iload 4, 2) := by decide +kernel
theorem dM_same_41 : decode cM_same 41 = .ok (.aload_n 0, 1) := by decide +kernel
theorem dM_same_42 : decode cM_same 42 = .ok (.getfield 19, 3) := by decide +kernel
theorem dM_same_45 : decode cM_same 45 = .ok (.aload_n 0, 1) := by decide +kernel
theorem dM_same_46 : decode cM_same 46 = .ok (.getfield 38, 3) := by decide +kernel
theorem dM_same_49 : decode cM_same 49 = .ok (.iload 4, 2) := by decide +kernel
theorem dM_same_51 : decode cM_same 51 = .ok (.iaload, 1) := by decide +kernel
theorem dM_same_52 : decode cM_same 52 = .ok (.iaload, 1) := by decide +kernel
theorem dM_same_53 : decode cM_same 53 = .ok (.iastore, 1) := by decide +kernel
theorem dM_same_54 : decode cM_same 54 = .ok (.iinc 4 1, 3) := by decide +kernel
theorem dM_same_57 : decode cM_same 57 = .ok (.goto (-28), 3) := by decide +kernel
theorem dM_same_60 : decode cM_same 60 = .ok (.aload_n 0, 1) := by decide +kernel
theorem dM_same_61 : decode cM_same 61 = .ok (.iload_n 2, 1) := by decide +kernel
theorem dM_same_62 : decode cM_same 62 = .ok (.invokevirtual 76, 3) := by decide +kernel
theorem dM_same_65 : decode cM_same 65 = .ok (.iload_n 3, 1) := by decide +kernel
theorem dM_same_66 : decode cM_same 66 = .ok (.aload_n 0, 1) := by decide +kernel
theorem dM_same_67 : decode cM_same 67 = .ok (.getfield 59, 3) := by decide +kernel
theorem dM_same_70 : decode cM_same 70 = .ok (.if_icmp .ne 7, 3) := by decide +kernel
theorem dM_same_73 : decode cM_same 73 = .ok (.iconst 1, 1) := by decide +kernel
theorem dM_same_74 : decode cM_same 74 = .ok (.goto 4, 3) := by decide +kernel
theorem dM_same_77 : decode cM_same 77 = .ok (.iconst 0, 1) := by decide +kernel
theorem dM_same_78 : decode cM_same 78 = .ok (.istore 4, 2) := by decide +kernel
theorem dM_same_80 : decode cM_same 80 = .ok (.iconst 0, 1) := by decide +kernel
theorem dM_same_81 : decode cM_same 81 = .ok (.istore 5, 2) := by decide +kernel
theorem dM_same_83 : decode cM_same 83 = .ok (.iload 5, 2) := by decide +kernel
theorem dM_same_85 : decode cM_same 85 = .ok (.iload_n 3, 1) := by decide +kernel
theorem dM_same_86 : decode cM_same 86 = .ok (.if_icmp .ge 43, 3) := by decide +kernel
theorem dM_same_89 : decode cM_same 89 = .ok (.iload 4, 2) := by decide +kernel
theorem dM_same_91 : decode cM_same 91 = .ok (.ifCond .eq 38, 3) := by decide +kernel
theorem dM_same_94 : decode cM_same 94 = .ok (.aload_n 0, 1) := by decide +kernel
theorem dM_same_95 : decode cM_same 95 = .ok (.getfield 41, 3) := by decide +kernel
theorem dM_same_98 : decode cM_same 98 = .ok (.iload 5, 2) := by decide +kernel
theorem dM_same_100 : decode cM_same 100 = .ok (.iaload, 1) := by decide +kernel
theorem dM_same_101 : decode cM_same 101 = .ok (.aload_n 0, 1) := by decide +kernel
theorem dM_same_102 : decode cM_same 102 = .ok (.getfield 19, 3) := by decide +kernel
theorem dM_same_105 : decode cM_same 105 = .ok (.aload_n 0, 1) := by decide +kernel
theorem dM_same_106 : decode cM_same 106 = .ok (.getfield 38, 3) := by decide +kernel
theorem dM_same_109 : decode cM_same 109 = .ok (.iload 5, 2) := by decide +kernel
theorem dM_same_111 : decode cM_same 111 = .ok (.iaload, 1) := by decide +kernel
theorem dM_same_112 : decode cM_same 112 = .ok (.iaload, 1) := by decide +kernel
theorem dM_same_113 : decode cM_same 113 = .ok (.if_icmp .ne 7, 3) := by decide +kernel
theorem dM_same_116 : decode cM_same 116 = .ok (.iconst 1, 1) := by decide +kernel
theorem dM_same_117 : decode cM_same 117 = .ok (.goto 4, 3) := by decide +kernel
theorem dM_same_120 : decode cM_same 120 = .ok (.iconst 0, 1) := by decide +kernel
theorem dM_same_121 : decode cM_same 121 = .ok (.istore 4, 2) := by decide +kernel
theorem dM_same_123 : decode cM_same 123 = .ok (.iinc 5 1, 3) := by decide +kernel
theorem dM_same_126 : decode cM_same 126 = .ok (.goto (-43), 3) := by decide +kernel
theorem dM_same_129 : decode cM_same 129 = .ok (.iload 4, 2) := by decide +kernel
theorem dM_same_131 : decode cM_same 131 = .ok (.ireturn, 1) := by decide +kernel
theorem dM_operations_0 : decode cM_operations 0 = .ok (.aload_n 0, 1) := by decide +kernel
theorem dM_operations_1 : decode cM_operations 1 = .ok (.getfield 44, 3) := by decide +kernel
theorem dM_operations_4 : decode cM_operations 4 = .ok (.ireturn, 1) := by decide +kernel
theorem dM_stamp_0 : decode cM_stamp 0 = .ok (.aload_n 0, 1) := by decide +kernel
theorem dM_stamp_1 : decode cM_stamp 1 = .ok (.iload_n 1, 1) := by decide +kernel
theorem dM_stamp_2 : decode cM_stamp 2 = .ok (.invokevirtual 83, 3) := by decide +kernel
theorem dM_stamp_5 : decode cM_stamp 5 = .ok (.ifCond .eq 21, 3) := by decide +kernel
theorem dM_stamp_8 : decode cM_stamp 8 = .ok (.iconst 4, 1) := by decide +kernel
theorem dM_stamp_9 : decode cM_stamp 9 = .ok (.aload_n 0, 1) := by decide +kernel
theorem dM_stamp_10 : decode cM_stamp 10 = .ok (.getfield 16, 3) := by decide +kernel
theorem dM_stamp_13 : decode cM_stamp 13 = .ok (.iload_n 1, 1) := by decide +kernel
theorem dM_stamp_14 : decode cM_stamp 14 = .ok (.iaload, 1) := by decide +kernel
theorem dM_stamp_15 : decode cM_stamp 15 = .ok (.imul, 1) := by decide +kernel
theorem dM_stamp_16 : decode cM_stamp 16 = .ok (.aload_n 0, 1) := by decide +kernel
theorem dM_stamp_17 : decode cM_stamp 17 = .ok (.getfield 7, 3) := by decide +kernel
theorem dM_stamp_20 : decode cM_stamp 20 = .ok (.iload_n 1, 1) := by decide +kernel
theorem dM_stamp_21 : decode cM_stamp 21 = .ok (.iaload, 1) := by decide +kernel
theorem dM_stamp_22 : decode cM_stamp 22 = .ok (.iadd, 1) := by decide +kernel
theorem dM_stamp_23 : decode cM_stamp 23 = .ok (.goto 4, 3) := by decide +kernel
theorem dM_stamp_26 : decode cM_stamp 26 = .ok (.iconst (-1), 1) := by decide +kernel
theorem dM_stamp_27 : decode cM_stamp 27 = .ok (.ireturn, 1) := by decide +kernel
theorem dM_kept_0 : decode cM_kept 0 = .ok (.iload_n 1, 1) := by decide +kernel
theorem dM_kept_1 : decode cM_kept 1 = .ok (.invokestatic 72, 3) := by decide +kernel
theorem dM_kept_4 : decode cM_kept 4 = .ok (.ifCond .ne 5, 3) := by decide +kernel
theorem dM_kept_7 : decode cM_kept 7 = .ok (.iconst (-1), 1) := by decide +kernel
theorem dM_kept_8 : decode cM_kept 8 = .ok (.ireturn, 1) := by decide +kernel
theorem dM_kept_9 : decode cM_kept 9 = .ok (.iconst 0, 1) := by decide +kernel
theorem dM_kept_10 : decode cM_kept 10 = .ok (.istore_n 2, 1) := by decide +kernel
theorem dM_kept_11 : decode cM_kept 11 = .ok (.iconst 0, 1) := by decide +kernel
theorem dM_kept_12 : decode cM_kept 12 = .ok (.istore_n 3, 1) := by decide +kernel
theorem dM_kept_13 : decode cM_kept 13 = .ok (.iload_n 3, 1) := by decide +kernel
theorem dM_kept_14 : decode cM_kept 14 = .ok (.aload_n 0, 1) := by decide +kernel
theorem dM_kept_15 : decode cM_kept 15 = .ok (.getfield 44, 3) := by decide +kernel
theorem dM_kept_18 : decode cM_kept 18 = .ok (.if_icmp .ge 26, 3) := by decide +kernel
theorem dM_kept_21 : decode cM_kept 21 = .ok (.aload_n 0, 1) := by decide +kernel
theorem dM_kept_22 : decode cM_kept 22 = .ok (.iload_n 1, 1) := by decide +kernel
theorem dM_kept_23 : decode cM_kept 23 = .ok (.iload_n 3, 1) := by decide +kernel
theorem dM_kept_24 : decode cM_kept 24 = .ok (.invokevirtual 98, 3) := by decide +kernel
theorem dM_kept_27 : decode cM_kept 27 = .ok (.ifCond .eq 9, 3) := by decide +kernel
theorem dM_kept_30 : decode cM_kept 30 = .ok (.iload_n 2, 1) := by decide +kernel
theorem dM_kept_31 : decode cM_kept 31 = .ok (.iconst 1, 1) := by decide +kernel
theorem dM_kept_32 : decode cM_kept 32 = .ok (.iadd, 1) := by decide +kernel
theorem dM_kept_33 : decode cM_kept 33 = .ok (.goto 4, 3) := by decide +kernel
theorem dM_kept_36 : decode cM_kept 36 = .ok (.iload_n 2, 1) := by decide +kernel
theorem dM_kept_37 : decode cM_kept 37 = .ok (.istore_n 2, 1) := by decide +kernel
theorem dM_kept_38 : decode cM_kept 38 = .ok (.iinc 3 1, 3) := by decide +kernel
theorem dM_kept_41 : decode cM_kept 41 = .ok (.goto (-28), 3) := by decide +kernel
theorem dM_kept_44 : decode cM_kept 44 = .ok (.iload_n 2, 1) := by decide +kernel
theorem dM_kept_45 : decode cM_kept 45 = .ok (.ireturn, 1) := by decide +kernel
theorem dM_waiting_0 : decode cM_waiting 0 = .ok (.iload_n 1, 1) := by decide +kernel
theorem dM_waiting_1 : decode cM_waiting 1 = .ok (.invokestatic 72, 3) := by decide +kernel
theorem dM_waiting_4 : decode cM_waiting 4 = .ok (.ifCond .ne 5, 3) := by decide +kernel
theorem dM_waiting_7 : decode cM_waiting 7 = .ok (.iconst (-1), 1) := by decide +kernel
theorem dM_waiting_8 : decode cM_waiting 8 = .ok (.ireturn, 1) := by decide +kernel
theorem dM_waiting_9 : decode cM_waiting 9 = .ok (.iconst 0, 1) := by decide +kernel
theorem dM_waiting_10 : decode cM_waiting 10 = .ok (.istore_n 2, 1) := by decide +kernel
theorem dM_waiting_11 : decode cM_waiting 11 = .ok (.iconst 0, 1) := by decide +kernel
theorem dM_waiting_12 : decode cM_waiting 12 = .ok (.istore_n 3, 1) := by decide +kernel
theorem dM_waiting_13 : decode cM_waiting 13 = .ok (.iload_n 3, 1) := by decide +kernel
theorem dM_waiting_14 : decode cM_waiting 14 = .ok (.aload_n 0, 1) := by decide +kernel
theorem dM_waiting_15 : decode cM_waiting 15 = .ok (.getfield 44, 3) := by decide +kernel
theorem dM_waiting_18 : decode cM_waiting 18 = .ok (.if_icmp .ge 31, 3) := by decide +kernel
theorem dM_waiting_21 : decode cM_waiting 21 = .ok (.aload_n 0, 1) := by decide +kernel
theorem dM_waiting_22 : decode cM_waiting 22 = .ok (.getfield 32, 3) := by decide +kernel
theorem dM_waiting_25 : decode cM_waiting 25 = .ok (.bipush 100, 2) := by decide +kernel
theorem dM_waiting_27 : decode cM_waiting 27 = .ok (.iload_n 1, 1) := by decide +kernel
theorem dM_waiting_28 : decode cM_waiting 28 = .ok (.imul, 1) := by decide +kernel
theorem dM_waiting_29 : decode cM_waiting 29 = .ok (.iload_n 3, 1) := by decide +kernel
theorem dM_waiting_30 : decode cM_waiting 30 = .ok (.iadd, 1) := by decide +kernel
theorem dM_waiting_31 : decode cM_waiting 31 = .ok (.baload, 1) := by decide +kernel
theorem dM_waiting_32 : decode cM_waiting 32 = .ok (.ifCond .eq 9, 3) := by decide +kernel
theorem dM_waiting_35 : decode cM_waiting 35 = .ok (.iload_n 2, 1) := by decide +kernel
theorem dM_waiting_36 : decode cM_waiting 36 = .ok (.iconst 1, 1) := by decide +kernel
theorem dM_waiting_37 : decode cM_waiting 37 = .ok (.iadd, 1) := by decide +kernel
theorem dM_waiting_38 : decode cM_waiting 38 = .ok (.goto 4, 3) := by decide +kernel
theorem dM_waiting_41 : decode cM_waiting 41 = .ok (.iload_n 2, 1) := by decide +kernel
theorem dM_waiting_42 : decode cM_waiting 42 = .ok (.istore_n 2, 1) := by decide +kernel
theorem dM_waiting_43 : decode cM_waiting 43 = .ok (.iinc 3 1, 3) := by decide +kernel
theorem dM_waiting_46 : decode cM_waiting 46 = .ok (.goto (-33), 3) := by decide +kernel
theorem dM_waiting_49 : decode cM_waiting 49 = .ok (.iload_n 2, 1) := by decide +kernel
theorem dM_waiting_50 : decode cM_waiting 50 = .ok (.ireturn, 1) := by decide +kernel
