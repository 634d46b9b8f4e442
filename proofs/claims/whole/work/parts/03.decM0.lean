theorem dM_init_0 : decode cM_init 0 = .ok (.aload_n 0, 1) := by decide +kernel
theorem dM_init_1 : decode cM_init 1 = .ok (.invokespecial 1, 3) := by decide +kernel
theorem dM_init_4 : decode cM_init 4 = .ok (.aload_n 0, 1) := by decide +kernel
theorem dM_init_5 : decode cM_init 5 = .ok (.bipush 100, 2) := by decide +kernel
theorem dM_init_7 : decode cM_init 7 = .ok (.newarray .int, 2) := by decide +kernel
theorem dM_init_9 : decode cM_init 9 = .ok (.putfield 7, 3) := by decide +kernel
theorem dM_init_12 : decode cM_init 12 = .ok (.aload_n 0, 1) := by decide +kernel
theorem dM_init_13 : decode cM_init 13 = .ok (.bipush 100, 2) := by decide +kernel
theorem dM_init_15 : decode cM_init 15 = .ok (.newarray .int, 2) := by decide +kernel
theorem dM_init_17 : decode cM_init 17 = .ok (.putfield 13, 3) := by decide +kernel
theorem dM_init_20 : decode cM_init 20 = .ok (.aload_n 0, 1) := by decide +kernel
theorem dM_init_21 : decode cM_init 21 = .ok (.bipush 100, 2) := by decide +kernel
theorem dM_init_23 : decode cM_init 23 = .ok (.newarray .int, 2) := by decide +kernel
theorem dM_init_25 : decode cM_init 25 = .ok (.putfield 16, 3) := by decide +kernel
theorem dM_init_28 : decode cM_init 28 = .ok (.aload_n 0, 1) := by decide +kernel
theorem dM_init_29 : decode cM_init 29 = .ok (.bipush 100, 2) := by decide +kernel
theorem dM_init_31 : decode cM_init 31 = .ok (.newarray .int, 2) := by decide +kernel
theorem dM_init_33 : decode cM_init 33 = .ok (.putfield 19, 3) := by decide +kernel
theorem dM_init_36 : decode cM_init 36 = .ok (.aload_n 0, 1) := by decide +kernel
theorem dM_init_37 : decode cM_init 37 = .ok (.bipush 100, 2) := by decide +kernel
theorem dM_init_39 : decode cM_init 39 = .ok (.newarray .int, 2) := by decide +kernel
theorem dM_init_41 : decode cM_init 41 = .ok (.putfield 22, 3) := by decide +kernel
theorem dM_init_44 : decode cM_init 44 = .ok (.aload_n 0, 1) := by decide +kernel
theorem dM_init_45 : decode cM_init 45 = .ok (.sipush 300, 3) := by decide +kernel
theorem dM_init_48 : decode cM_init 48 = .ok (.newarray .int, 2) := by decide +kernel
theorem dM_init_50 : decode cM_init 50 = .ok (.putfield 25, 3) := by decide +kernel
theorem dM_init_53 : decode cM_init 53 = .ok (.aload_n 0, 1) := by decide +kernel
theorem dM_init_54 : decode cM_init 54 = .ok (.sipush 300, 3) := by decide +kernel
theorem dM_init_57 : decode cM_init 57 = .ok (.newarray .boolean, 2) := by decide +kernel
theorem dM_init_59 : decode cM_init 59 = .ok (.putfield 28, 3) := by decide +kernel
theorem dM_init_62 : decode cM_init 62 = .ok (.aload_n 0, 1) := by decide +kernel
theorem dM_init_63 : decode cM_init 63 = .ok (.sipush 300, 3) := by decide +kernel
theorem dM_init_66 : decode cM_init 66 = .ok (.newarray .boolean, 2) := by decide +kernel
theorem dM_init_68 : decode cM_init 68 = .ok (.putfield 32, 3) := by decide +kernel
theorem dM_init_71 : decode cM_init 71 = .ok (.aload_n 0, 1) := by decide +kernel
theorem dM_init_72 : decode cM_init 72 = .ok (.sipush 300, 3) := by decide +kernel
theorem dM_init_75 : decode cM_init 75 = .ok (.newarray .boolean, 2) := by decide +kernel
theorem dM_init_77 : decode cM_init 77 = .ok (.putfield 35, 3) := by decide +kernel
theorem dM_init_80 : decode cM_init 80 = .ok (.aload_n 0, 1) := by decide +kernel
theorem dM_init_81 : decode cM_init 81 = .ok (.bipush 100, 2) := by decide +kernel
theorem dM_init_83 : decode cM_init 83 = .ok (.newarray .int, 2) := by decide +kernel
theorem dM_init_85 : decode cM_init 85 = .ok (.putfield 38, 3) := by decide +kernel
theorem dM_init_88 : decode cM_init 88 = .ok (.aload_n 0, 1) := by decide +kernel
theorem dM_init_89 : decode cM_init 89 = .ok (.bipush 100, 2) := by decide +kernel
theorem dM_init_91 : decode cM_init 91 = .ok (.newarray .int, 2) := by decide +kernel
theorem dM_init_93 : decode cM_init 93 = .ok (.putfield 41, 3) := by decide +kernel
theorem dM_init_96 : decode cM_init 96 = .ok (.return_, 1) := by decide +kernel
theorem dM_insert_0 : decode cM_insert 0 = .ok (.iload_n 1, 1) := by decide +kernel
theorem dM_insert_1 : decode cM_insert 1 = .ok (.invokestatic 72, 3) := by decide +kernel
theorem dM_insert_4 : decode cM_insert 4 = .ok (.ifCond .eq 15, 3) := by decide +kernel
theorem dM_insert_7 : decode cM_insert 7 = .ok (.iload_n 3, 1) := by decide +kernel
theorem dM_insert_8 : decode cM_insert 8 = .ok (.bipush 32, 2) := by decide +kernel
theorem dM_insert_10 : decode cM_insert 10 = .ok (.if_icmp .lt 9, 3) := by decide +kernel
theorem dM_insert_13 : decode cM_insert 13 = .ok (.iload_n 3, 1) := by decide +kernel
theorem dM_insert_14 : decode cM_insert 14 = .ok (.bipush 126, 2) := by decide +kernel
theorem dM_insert_16 : decode cM_insert 16 = .ok (.if_icmp .le 5, 3) := by decide +kernel
theorem dM_insert_19 : decode cM_insert 19 = .ok (.iconst (-1), 1) := by decide +kernel
theorem dM_insert_20 : decode cM_insert 20 = .ok (.ireturn, 1) := by decide +kernel
theorem dM_insert_21 : decode cM_insert 21 = .ok (.aload_n 0, 1) := by decide +kernel
theorem dM_insert_22 : decode cM_insert 22 = .ok (.iload_n 1, 1) := by decide +kernel
theorem dM_insert_23 : decode cM_insert 23 = .ok (.invokevirtual 76, 3) := by decide +kernel
theorem dM_insert_26 : decode cM_insert 26 = .ok (.iload_n 2, 1) := by decide +kernel
theorem dM_insert_27 : decode cM_insert 27 = .ok (.ifCond .lt 11, 3) := by decide +kernel
theorem dM_insert_30 : decode cM_insert 30 = .ok (.iload_n 2, 1) := by decide +kernel
theorem dM_insert_31 : decode cM_insert 31 = .ok (.aload_n 0, 1) := by decide +kernel
theorem dM_insert_32 : decode cM_insert 32 = .ok (.getfield 59, 3) := by decide +kernel
theorem dM_insert_35 : decode cM_insert 35 = .ok (.if_icmp .le 5, 3) := by decide +kernel
theorem dM_insert_38 : decode cM_insert 38 = .ok (.iconst (-1), 1) := by decide +kernel
theorem dM_insert_39 : decode cM_insert 39 = .ok (.ireturn, 1) := by decide +kernel
theorem dM_insert_40 : decode cM_insert 40 = .ok (.aload_n 0, 1) := by decide +kernel
theorem dM_insert_41 : decode cM_insert 41 = .ok (.getfield 44, 3) := by decide +kernel
theorem dM_insert_44 : decode cM_insert 44 = .ok (.bipush 100, 2) := by decide +kernel
theorem dM_insert_46 : decode cM_insert 46 = .ok (.if_icmp .ne 6, 3) := by decide +kernel
theorem dM_insert_49 : decode cM_insert 49 = .ok (.bipush (-2), 2) := by decide +kernel
theorem dM_insert_51 : decode cM_insert 51 = .ok (.ireturn, 1) := by decide +kernel
theorem dM_insert_52 : decode cM_insert 52 = .ok (.aload_n 0, 1) := by decide +kernel
theorem dM_insert_53 : decode cM_insert 53 = .ok (.iload_n 1, 1) := by decide +kernel
theorem dM_insert_54 : decode cM_insert 54 = .ok (.iload_n 3, 1) := by decide +kernel
theorem dM_insert_55 : decode cM_insert 55 = .ok (.iload_n 2, 1) := by decide +kernel
theorem dM_insert_56 : decode cM_insert 56 = .ok (.ifCond .ne 7, 3) := by decide +kernel
theorem dM_insert_59 : decode cM_insert 59 = .ok (.iconst (-1), 1) := by decide +kernel
theorem dM_insert_60 : decode cM_insert 60 = .ok (.goto 11, 3) := by decide +kernel
theorem dM_insert_63 : decode cM_insert 63 = .ok (.aload_n 0, 1) := by decide +kernel
theorem dM_insert_64 : decode cM_insert 64 = .ok (.getfield 38, 3) := by decide +kernel
theorem dM_insert_67 : decode cM_insert 67 = .ok (.iload_n 2, 1) := by decide +kernel
theorem dM_insert_68 : decode cM_insert 68 = .ok (.iconst 1, 1) := by decide +kernel
theorem dM_insert_69 : decode cM_insert 69 = .ok (.isub, 1) := by decide +kernel
theorem dM_insert_70 : decode cM_insert 70 = .ok (.iaload, 1) := by decide +kernel
theorem dM_insert_71 : decode cM_insert 71 = .ok (.invokevirtual 80, 3) := by decide +kernel
theorem dM_insert_74 : decode cM_insert 74 = .ok (.ireturn, 1) := by decide +kernel
theorem dM_isReplica_0 : decode cM_isReplica 0 = .ok (.iload_n 0, 1) := by decide +kernel
theorem dM_isReplica_1 : decode cM_isReplica 1 = .ok (.ifCond .lt 12, 3) := by decide +kernel
theorem dM_isReplica_4 : decode cM_isReplica 4 = .ok (.iload_n 0, 1) := by decide +kernel
theorem dM_isReplica_5 : decode cM_isReplica 5 = .ok (.iconst 3, 1) := by decide +kernel
theorem dM_isReplica_6 : decode cM_isReplica 6 = .ok (.if_icmp .ge 7, 3) := by decide +kernel
theorem dM_isReplica_9 : decode cM_isReplica 9 = .ok (.iconst 1, 1) := by decide +kernel
theorem dM_isReplica_10 : decode cM_isReplica 10 = .ok (.goto 4, 3) := by decide +kernel
theorem dM_isReplica_13 : decode cM_isReplica 13 = .ok (.iconst 0, 1) := by decide +kernel
theorem dM_isReplica_14 : decode cM_isReplica 14 = .ok (.ireturn, 1) := by decide +kernel
theorem dM_walk_0 : decode cM_walk 0 = .ok (.aload_n 0, 1) := by decide +kernel
theorem dM_walk_1 : decode cM_walk 1 = .ok (.iconst 0, 1) := by decide +kernel
theorem dM_walk_2 : decode cM_walk 2 = .ok (.putfield 59, 3) := by decide +kernel
theorem dM_walk_5 : decode cM_walk 5 = .ok (.aload_n 0, 1) := by decide +kernel
theorem dM_walk_6 : decode cM_walk 6 = .ok (.iload_n 1, 1) := by decide +kernel
theorem dM_walk_7 : decode cM_walk 7 = .ok (.iconst (-1), 1) := by decide +kernel
theorem dM_walk_8 : decode cM_walk 8 = .ok (.invokevirtual 62, 3) := by decide +kernel
theorem dM_walk_11 : decode cM_walk 11 = .ok (.istore_n 2, 1) := by decide +kernel
theorem dM_walk_12 : decode cM_walk 12 = .ok (.iload_n 2, 1) := by decide +kernel
theorem dM_walk_13 : decode cM_walk 13 = .ok (.ifCond .lt 42, 3) := by decide +kernel
theorem dM_walk_16 : decode cM_walk 16 = .ok (.aload_n 0, 1) := by decide +kernel
theorem dM_walk_17 : decode cM_walk 17 = .ok (.iload_n 1, 1) := by decide +kernel
theorem dM_walk_18 : decode cM_walk 18 = .ok (.iload_n 2, 1) := by decide +kernel
theorem dM_walk_19 : decode cM_walk 19 = .ok (.invokevirtual 66, 3) := by decide +kernel
theorem dM_walk_22 : decode cM_walk 22 = .ok (.ifCond .ne 23, 3) := by decide +kernel
theorem dM_walk_25 : decode cM_walk 25 = .ok (.aload_n 0, 1) := by decide +kernel
theorem dM_walk_26 : decode cM_walk 26 = .ok (.getfield 38, 3) := by decide +kernel
theorem dM_walk_29 : decode cM_walk 29 = .ok (.aload_n 0, 1) := by decide +kernel
theorem dM_walk_30 : decode cM_walk 30 = .ok (.getfield 59, 3) := by decide +kernel
theorem dM_walk_33 : decode cM_walk 33 = .ok (.iload_n 2, 1) := by decide +kernel
theorem dM_walk_34 : decode cM_walk 34 = .ok (.iastore, 1) := by decide +kernel
theorem dM_walk_35 : decode cM_walk 35 = .ok (.aload_n 0, 1) := by decide +kernel
theorem dM_walk_36 : decode cM_walk 36 = .ok (.dup, 1) := by decide +kernel
theorem dM_walk_37 : decode cM_walk 37 = .ok (.getfield 59, 3) := by decide +kernel
theorem dM_walk_40 : decode cM_walk 40 = .ok (.iconst 1, 1) := by decide +kernel
theorem dM_walk_41 : decode cM_walk 41 = .ok (.iadd, 1) := by decide +kernel
theorem dM_walk_42 : decode cM_walk 42 = .ok (.putfield 59, 3) := by decide +kernel
theorem dM_walk_45 : decode cM_walk 45 = .ok (.aload_n 0, 1) := by decide +kernel
theorem dM_walk_46 : decode cM_walk 46 = .ok (.iload_n 1, 1) := by decide +kernel
theorem dM_walk_47 : decode cM_walk 47 = .ok (.iload_n 2, 1) := by decide +kernel
theorem dM_walk_48 : decode cM_walk 48 = .ok (.invokevirtual 62, 3) := by decide +kernel
theorem dM_walk_51 : decode cM_walk 51 = .ok (.istore_n 2, 1) := by decide +kernel
theorem dM_walk_52 : decode cM_walk 52 = .ok (.goto (-40), 3) := by decide +kernel
theorem dM_walk_55 : decode cM_walk 55 = .ok (.return_, 1) := by decide +kernel
theorem dM_next_0 : decode cM_next 0 = .ok (.aload_n 0, 1) := by decide +kernel
theorem dM_next_1 : decode cM_next 1 = .ok (.iload_n 1, 1) := by decide +kernel
theorem dM_next_2 : decode cM_next 2 = .ok (.iload_n 2, 1) := by decide +kernel
theorem dM_next_3 : decode cM_next 3 = .ok (.iconst (-1), 1) := by decide +kernel
theorem dM_next_4 : decode cM_next 4 = .ok (.invokevirtual 55, 3) := by decide +kernel
theorem dM_next_7 : decode cM_next 7 = .ok (.istore_n 3, 1) := by decide +kernel
theorem dM_next_8 : decode cM_next 8 = .ok (.iload_n 2, 1) := by decide +kernel
theorem dM_next_9 : decode cM_next 9 = .ok (.istore 4, 2) := by decide +kernel
theorem dM_next_11 : decode cM_next 11 = .ok (.iload_n 3, 1) := by decide +kernel
theorem dM_next_12 : decode cM_next 12 = .ok (.ifCond .ge 35, 3) := by decide +kernel
theorem dM_next_15 : decode cM_next 15 = .ok (.iload 4, 2) := by decide +kernel
theorem dM_next_17 : decode cM_next 17 = .ok (.ifCond .lt 30, 3) := by decide +kernel
theorem dM_next_20 : decode cM_next 20 = .ok (.aload_n 0, 1) := by decide +kernel
theorem dM_next_21 : decode cM_next 21 = .ok (.iload_n 1, 1) := by decide +kernel
theorem dM_next_22 : decode cM_next 22 = .ok (.aload_n 0, 1) := by decide +kernel
theorem dM_next_23 : decode cM_next 23 = .ok (.getfield 22, 3) := by decide +kernel
theorem dM_next_26 : decode cM_next 26 = .ok (.iload 4, 2) := by decide +kernel
theorem dM_next_28 : decode cM_next 28 = .ok (.iaload, 1) := by decide +kernel
theorem dM_next_29 : decode cM_next 29 = .ok (.iload 4, 2) := by decide +kernel
theorem dM_next_31 : decode cM_next 31 = .ok (.invokevirtual 55, 3) := by decide +kernel
theorem dM_next_34 : decode cM_next 34 = .ok (.istore_n 3, 1) := by decide +kernel
theorem dM_next_35 : decode cM_next 35 = .ok (.aload_n 0, 1) := by decide +kernel
theorem dM_next_36 : decode cM_next 36 = .ok (.getfield 22, 3) := by decide +kernel
theorem dM_next_39 : decode cM_next 39 = .ok (.iload 4, 2) := by decide +kernel
theorem dM_next_41 : decode cM_next 41 = .ok (.iaload, 1) := by decide +kernel
theorem dM_next_42 : decode cM_next 42 = .ok (.istore 4, 2) := by decide +kernel
theorem dM_next_44 : decode cM_next 44 = .ok (.goto (-33), 3) := by decide +kernel
theorem dM_next_47 : decode cM_next 47 = .ok (.iload_n 3, 1) := by decide +kernel
theorem dM_next_48 : decode cM_next 48 = .ok (.ireturn, 1) := by decide +kernel
theorem dM_first_0 : decode cM_first 0 = .ok (.iconst (-1), 1) := by decide +kernel
theorem dM_first_1 : decode cM_first 1 = .ok (.istore 4, 2) := by decide +kernel
theorem dM_first_3 : decode cM_first 3 = .ok (.iconst 0, 1) := by decide +kernel
theorem dM_first_4 : decode cM_first 4 = .ok (.istore 5, 2) := by decide +kernel
theorem dM_first_6 : decode cM_first 6 = .ok (.iload 5, 2) := by decide +kernel
theorem dM_first_8 : decode cM_first 8 = .ok (.aload_n 0, 1) := by decide +kernel
theorem dM_first_9 : decode cM_first 9 = .ok (.getfield 44, 3) := by decide +kernel
theorem dM_first_12 : decode cM_first 12 = .ok (.if_icmp .ge 91, 3) := by decide +kernel
theorem dM_first_15 : decode cM_first 15 = .ok (.aload_n 0, 1) := by decide +kernel
theorem dM_first_16 : decode cM_first 16 = .ok (.iload_n 1, 1) := by decide +kernel
theorem dM_first_17 : decode cM_first 17 = .ok (.iload 5, 2) := by decide +kernel
theorem dM_first_19 : decode cM_first 19 = .ok (.invokevirtual 48, 3) := by decide +kernel
theorem dM_first_22 : decode cM_first 22 = .ok (.ifCond .eq 42, 3) := by decide +kernel
theorem dM_first_25 : decode cM_first 25 = .ok (.aload_n 0, 1) := by decide +kernel
theorem dM_first_26 : decode cM_first 26 = .ok (.getfield 19, 3) := by decide +kernel
theorem dM_first_29 : decode cM_first 29 = .ok (.iload 5, 2) := by decide +kernel
theorem dM_first_31 : decode cM_first 31 = .ok (.iaload, 1) := by decide +kernel
theorem dM_first_32 : decode cM_first 32 = .ok (.ifCond .le 32, 3) := by decide +kernel
theorem dM_first_35 : decode cM_first 35 = .ok (.aload_n 0, 1) := by decide +kernel
theorem dM_first_36 : decode cM_first 36 = .ok (.getfield 22, 3) := by decide +kernel
theorem dM_first_39 : decode cM_first 39 = .ok (.iload 5, 2) := by decide +kernel
theorem dM_first_41 : decode cM_first 41 = .ok (.iaload, 1) := by decide +kernel
theorem dM_first_42 : decode cM_first 42 = .ok (.iload_n 2, 1) := by decide +kernel
theorem dM_first_43 : decode cM_first 43 = .ok (.if_icmp .ne 21, 3) := by decide +kernel
theorem dM_first_46 : decode cM_first 46 = .ok (.iload_n 3, 1) := by decide +kernel
theorem dM_first_47 : decode cM_first 47 = .ok (.ifCond .lt 13, 3) := by decide +kernel
theorem dM_first_50 : decode cM_first 50 = .ok (.aload_n 0, 1) := by decide +kernel
theorem dM_first_51 : decode cM_first 51 = .ok (.iload_n 3, 1) := by decide +kernel
theorem dM_first_52 : decode cM_first 52 = .ok (.iload 5, 2) := by decide +kernel
theorem dM_first_54 : decode cM_first 54 = .ok (.invokevirtual 52, 3) := by decide +kernel
theorem dM_first_57 : decode cM_first 57 = .ok (.ifCond .eq 7, 3) := by decide +kernel
theorem dM_first_60 : decode cM_first 60 = .ok (.iconst 1, 1) := by decide +kernel
theorem dM_first_61 : decode cM_first 61 = .ok (.goto 4, 3) := by decide +kernel
theorem dM_first_64 : decode cM_first 64 = .ok (.iconst 0, 1) := by decide +kernel
theorem dM_first_65 : decode cM_first 65 = .ok (.istore 6, 2) := by decide +kernel
theorem dM_first_67 : decode cM_first 67 = .ok (.iload 6, 2) := by decide +kernel
theorem dM_first_69 : decode cM_first 69 = .ok (.ifCond .eq 24, 3) := by decide +kernel
theorem dM_first_72 : decode cM_first 72 = .ok (.iload 4, 2) := by decide +kernel
theorem dM_first_74 : decode cM_first 74 = .ok (.ifCond .lt 14, 3) := by decide +kernel
theorem dM_first_77 : decode cM_first 77 = .ok (.aload_n 0, 1) := by decide +kernel
theorem dM_first_78 : decode cM_first 78 = .ok (.iload 5, 2) := by decide +kernel
theorem dM_first_80 : decode cM_first 80 = .ok (.iload 4, 2) := by decide +kernel
theorem dM_first_82 : decode cM_first 82 = .ok (.invokevirtual 52, 3) := by decide +kernel
theorem dM_first_85 : decode cM_first 85 = .ok (.ifCond .eq 8, 3) := by decide +kernel
theorem dM_first_88 : decode cM_first 88 = .ok (.iload 5, 2) := by decide +kernel
theorem dM_first_90 : decode cM_first 90 = .ok (.goto 5, 3) := by decide +kernel
theorem dM_first_93 : decode cM_first 93 = .ok (.iload 4, 2) := by decide +kernel
theorem dM_first_95 : decode cM_first 95 = .ok (.istore 4, 2) := by decide +kernel
theorem dM_first_97 : decode cM_first 97 = .ok (.iinc 5 1, 3) := by decide +kernel
theorem dM_first_100 : decode cM_first 100 = .ok (.goto (-94), 3) := by decide +kernel
theorem dM_first_103 : decode cM_first 103 = .ok (.iload 4, 2) := by decide +kernel
theorem dM_first_105 : decode cM_first 105 = .ok (.ireturn, 1) := by decide +kernel
theorem dM_has_0 : decode cM_has 0 = .ok (.aload_n 0, 1) := by decide +kernel
theorem dM_has_1 : decode cM_has 1 = .ok (.getfield 28, 3) := by decide +kernel
theorem dM_has_4 : decode cM_has 4 = .ok (.bipush 100, 2) := by decide +kernel
theorem dM_has_6 : decode cM_has 6 = .ok (.iload_n 1, 1) := by decide +kernel
theorem dM_has_7 : decode cM_has 7 = .ok (.imul, 1) := by decide +kernel
theorem dM_has_8 : decode cM_has 8 = .ok (.iload_n 2, 1) := by decide +kernel
theorem dM_has_9 : decode cM_has 9 = .ok (.iadd, 1) := by decide +kernel
theorem dM_has_10 : decode cM_has 10 = .ok (.baload, 1) := by decide +kernel
theorem dM_has_11 : decode cM_has 11 = .ok (.ireturn, 1) := by decide +kernel
theorem dM_sooner_0 : decode cM_sooner 0 = .ok (.aload_n 0, 1) := by decide +kernel
theorem dM_sooner_1 : decode cM_sooner 1 = .ok (.getfield 16, 3) := by decide +kernel
theorem dM_sooner_4 : decode cM_sooner 4 = .ok (.iload_n 1, 1) := by decide +kernel
theorem dM_sooner_5 : decode cM_sooner 5 = .ok (.iaload, 1) := by decide +kernel
theorem dM_sooner_6 : decode cM_sooner 6 = .ok (.aload_n 0, 1) := by decide +kernel
theorem dM_sooner_7 : decode cM_sooner 7 = .ok (.getfield 16, 3) := by decide +kernel
theorem dM_sooner_10 : decode cM_sooner 10 = .ok (.iload_n 2, 1) := by decide +kernel
theorem dM_sooner_11 : decode cM_sooner 11 = .ok (.iaload, 1) := by decide +kernel
theorem dM_sooner_12 : decode cM_sooner 12 = .ok (.if_icmp .gt 33, 3) := by decide +kernel
theorem dM_sooner_15 : decode cM_sooner 15 = .ok (.aload_n 0, 1) := by decide +kernel
theorem dM_sooner_16 : decode cM_sooner 16 = .ok (.getfield 16, 3) := by decide +kernel
theorem dM_sooner_19 : decode cM_sooner 19 = .ok (.iload_n 1, 1) := by decide +kernel
theorem dM_sooner_20 : decode cM_sooner 20 = .ok (.iaload, 1) := by decide +kernel
theorem dM_sooner_21 : decode cM_sooner 21 = .ok (.aload_n 0, 1) := by decide +kernel
theorem dM_sooner_22 : decode cM_sooner 22 = .ok (.getfield 16, 3) := by decide +kernel
theorem dM_sooner_25 : decode cM_sooner 25 = .ok (.iload_n 2, 1) := by decide +kernel
theorem dM_sooner_26 : decode cM_sooner 26 = .ok (.iaload, 1) := by decide +kernel
theorem dM_sooner_27 : decode cM_sooner 27 = .ok (.if_icmp .ne 22, 3) := by decide +kernel
theorem dM_sooner_30 : decode cM_sooner 30 = .ok (.aload_n 0, 1) := by decide +kernel
theorem dM_sooner_31 : decode cM_sooner 31 = .ok (.getfield 7, 3) := by decide +kernel
theorem dM_sooner_34 : decode cM_sooner 34 = .ok (.iload_n 1, 1) := by decide +kernel
theorem dM_sooner_35 : decode cM_sooner 35 = .ok (.iaload, 1) := by decide +kernel
theorem dM_sooner_36 : decode cM_sooner 36 = .ok (.aload_n 0, 1) := by decide +kernel
theorem dM_sooner_37 : decode cM_sooner 37 = .ok (.getfield 7, 3) := by decide +kernel
theorem dM_sooner_40 : decode cM_sooner 40 = .ok (.iload_n 2, 1) := by decide +kernel
theorem dM_sooner_41 : decode cM_sooner 41 = .ok (.iaload, 1) := by decide +kernel
theorem dM_sooner_42 : decode cM_sooner 42 = .ok (.if_icmp .le 7, 3) := by decide +kernel
theorem dM_sooner_45 : decode cM_sooner 45 = .ok (.iconst 1, 1) := by decide +kernel
theorem dM_sooner_46 : decode cM_sooner 46 = .ok (.goto 4, 3) := by decide +kernel
theorem dM_sooner_49 : decode cM_sooner 49 = .ok (.iconst 0, 1) := by decide +kernel
theorem dM_sooner_50 : decode cM_sooner 50 = .ok (.ireturn, 1) := by decide +kernel
theorem dM_erased_0 : decode cM_erased 0 = .ok (.iconst 0, 1) := by decide +kernel
theorem dM_erased_1 : decode cM_erased 1 = .ok (.istore_n 3, 1) := by decide +kernel
theorem dM_erased_2 : decode cM_erased 2 = .ok (.iconst 0, 1) := by decide +kernel
theorem dM_erased_3 : decode cM_erased 3 = .ok (.istore 4, 2) := by decide +kernel
theorem dM_erased_5 : decode cM_erased 5 = .ok (.iload 4, 2) := by decide +kernel
theorem dM_erased_7 : decode cM_erased 7 = .ok (.aload_n 0, 1) := by decide +kernel
theorem dM_erased_8 : decode cM_erased 8 = .ok (.getfield 44, 3) := by decide +kernel
theorem dM_erased_11 : decode cM_erased 11 = .ok (.if_icmp .ge 50, 3) := by decide +kernel
theorem dM_erased_14 : decode cM_erased 14 = .ok (.iload_n 3, 1) := by decide +kernel
theorem dM_erased_15 : decode cM_erased 15 = .ok (.ifCond .ne 34, 3) := by decide +kernel
theorem dM_erased_18 : decode cM_erased 18 = .ok (.aload_n 0, 1) := by decide +kernel
theorem dM_erased_19 : decode cM_erased 19 = .ok (.getfield 19, 3) := by decide +kernel
theorem dM_erased_22 : decode cM_erased 22 = .ok (.iload 4, 2) := by decide +kernel
theorem dM_erased_24 : decode cM_erased 24 = .ok (.iaload, 1) := by decide +kernel
theorem dM_erased_25 : decode cM_erased 25 = .ok (.ifCond .ne 28, 3) := by decide +kernel
theorem dM_erased_28 : decode cM_erased 28 = .ok (.aload_n 0, 1) := by decide +kernel
theorem dM_erased_29 : decode cM_erased 29 = .ok (.getfield 22, 3) := by decide +kernel
theorem dM_erased_32 : decode cM_erased 32 = .ok (.iload 4, 2) := by decide +kernel
theorem dM_erased_34 : decode cM_erased 34 = .ok (.iaload, 1) := by decide +kernel
theorem dM_erased_35 : decode cM_erased 35 = .ok (.iload_n 2, 1) := by decide +kernel
theorem dM_erased_36 : decode cM_erased 36 = .ok (.if_icmp .ne 17, 3) := by decide +kernel
theorem dM_erased_39 : decode cM_erased 39 = .ok (.aload_n 0, 1) := by decide +kernel
theorem dM_erased_40 : decode cM_erased 40 = .ok (.iload_n 1, 1) := by decide +kernel
theorem dM_erased_41 : decode cM_erased 41 = .ok (.iload 4, 2) := by decide +kernel
theorem dM_erased_43 : decode cM_erased 43 = .ok (.invokevirtual 48, 3) := by decide +kernel
theorem dM_erased_46 : decode cM_erased 46 = .ok (.ifCond .eq 7, 3) := by decide +kernel
