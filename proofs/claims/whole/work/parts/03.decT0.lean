theorem dT_init_0 : decode cT_init 0 = .ok (.aload_n 0, 1) := by decide +kernel
theorem dT_init_1 : decode cT_init 1 = .ok (.invokespecial 1, 3) := by decide +kernel
theorem dT_init_4 : decode cT_init 4 = .ok (.aload_n 0, 1) := by decide +kernel
theorem dT_init_5 : decode cT_init 5 = .ok (.new 7, 3) := by decide +kernel
theorem dT_init_8 : decode cT_init 8 = .ok (.dup, 1) := by decide +kernel
theorem dT_init_9 : decode cT_init 9 = .ok (.invokespecial 9, 3) := by decide +kernel
theorem dT_init_12 : decode cT_init 12 = .ok (.putfield 10, 3) := by decide +kernel
theorem dT_init_15 : decode cT_init 15 = .ok (.aload_n 0, 1) := by decide +kernel
theorem dT_init_16 : decode cT_init 16 = .ok (.iconst 3, 1) := by decide +kernel
theorem dT_init_17 : decode cT_init 17 = .ok (.anewarray 16, 3) := by decide +kernel
theorem dT_init_20 : decode cT_init 20 = .ok (.putfield 18, 3) := by decide +kernel
theorem dT_init_23 : decode cT_init 23 = .ok (.iconst 0, 1) := by decide +kernel
theorem dT_init_24 : decode cT_init 24 = .ok (.istore_n 1, 1) := by decide +kernel
theorem dT_init_25 : decode cT_init 25 = .ok (.iload_n 1, 1) := by decide +kernel
theorem dT_init_26 : decode cT_init 26 = .ok (.iconst 3, 1) := by decide +kernel
theorem dT_init_27 : decode cT_init 27 = .ok (.if_icmp .ge 27, 3) := by decide +kernel
theorem dT_init_30 : decode cT_init 30 = .ok (.aload_n 0, 1) := by decide +kernel
theorem dT_init_31 : decode cT_init 31 = .ok (.getfield 18, 3) := by decide +kernel
theorem dT_init_34 : decode cT_init 34 = .ok (.iload_n 1, 1) := by decide +kernel
theorem dT_init_35 : decode cT_init 35 = .ok (.new 16, 3) := by decide +kernel
theorem dT_init_38 : decode cT_init 38 = .ok (.dup, 1) := by decide +kernel
theorem dT_init_39 : decode cT_init 39 = .ok (.iload_n 1, 1) := by decide +kernel
theorem dT_init_40 : decode cT_init 40 = .ok (.aload_n 0, 1) := by decide +kernel
theorem dT_init_41 : decode cT_init 41 = .ok (.getfield 10, 3) := by decide +kernel
theorem dT_init_44 : decode cT_init 44 = .ok (.invokespecial 22, 3) := by decide +kernel
theorem dT_init_47 : decode cT_init 47 = .ok (.aastore, 1) := by decide +kernel
theorem dT_init_48 : decode cT_init 48 = .ok (.iinc 1 1, 3) := by decide +kernel
theorem dT_init_51 : decode cT_init 51 = .ok (.goto (-26), 3) := by decide +kernel
theorem dT_init_54 : decode cT_init 54 = .ok (.return_, 1) := by decide +kernel
theorem dT_insert_0 : decode cT_insert 0 = .ok (.iload_n 1, 1) := by decide +kernel
theorem dT_insert_1 : decode cT_insert 1 = .ok (.invokestatic 25, 3) := by decide +kernel
theorem dT_insert_4 : decode cT_insert 4 = .ok (.ifCond .eq 15, 3) := by decide +kernel
theorem dT_insert_7 : decode cT_insert 7 = .ok (.iload_n 3, 1) := by decide +kernel
theorem dT_insert_8 : decode cT_insert 8 = .ok (.bipush 32, 2) := by decide +kernel
theorem dT_insert_10 : decode cT_insert 10 = .ok (.if_icmp .lt 9, 3) := by decide +kernel
theorem dT_insert_13 : decode cT_insert 13 = .ok (.iload_n 3, 1) := by decide +kernel
theorem dT_insert_14 : decode cT_insert 14 = .ok (.bipush 126, 2) := by decide +kernel
theorem dT_insert_16 : decode cT_insert 16 = .ok (.if_icmp .le 5, 3) := by decide +kernel
theorem dT_insert_19 : decode cT_insert 19 = .ok (.iconst (-1), 1) := by decide +kernel
theorem dT_insert_20 : decode cT_insert 20 = .ok (.ireturn, 1) := by decide +kernel
theorem dT_insert_21 : decode cT_insert 21 = .ok (.aload_n 0, 1) := by decide +kernel
theorem dT_insert_22 : decode cT_insert 22 = .ok (.getfield 18, 3) := by decide +kernel
theorem dT_insert_25 : decode cT_insert 25 = .ok (.iload_n 1, 1) := by decide +kernel
theorem dT_insert_26 : decode cT_insert 26 = .ok (.aaload, 1) := by decide +kernel
theorem dT_insert_27 : decode cT_insert 27 = .ok (.astore 4, 2) := by decide +kernel
theorem dT_insert_29 : decode cT_insert 29 = .ok (.iload_n 2, 1) := by decide +kernel
theorem dT_insert_30 : decode cT_insert 30 = .ok (.ifCond .lt 12, 3) := by decide +kernel
theorem dT_insert_33 : decode cT_insert 33 = .ok (.iload_n 2, 1) := by decide +kernel
theorem dT_insert_34 : decode cT_insert 34 = .ok (.aload 4, 2) := by decide +kernel
theorem dT_insert_36 : decode cT_insert 36 = .ok (.getfield 29, 3) := by decide +kernel
theorem dT_insert_39 : decode cT_insert 39 = .ok (.if_icmp .le 5, 3) := by decide +kernel
theorem dT_insert_42 : decode cT_insert 42 = .ok (.iconst (-1), 1) := by decide +kernel
theorem dT_insert_43 : decode cT_insert 43 = .ok (.ireturn, 1) := by decide +kernel
theorem dT_insert_44 : decode cT_insert 44 = .ok (.aload_n 0, 1) := by decide +kernel
theorem dT_insert_45 : decode cT_insert 45 = .ok (.getfield 10, 3) := by decide +kernel
theorem dT_insert_48 : decode cT_insert 48 = .ok (.invokevirtual 33, 3) := by decide +kernel
theorem dT_insert_51 : decode cT_insert 51 = .ok (.ifCond .eq 8, 3) := by decide +kernel
theorem dT_insert_54 : decode cT_insert 54 = .ok (.bipush (-2), 2) := by decide +kernel
theorem dT_insert_56 : decode cT_insert 56 = .ok (.goto 15, 3) := by decide +kernel
theorem dT_insert_59 : decode cT_insert 59 = .ok (.aload 4, 2) := by decide +kernel
theorem dT_insert_61 : decode cT_insert 61 = .ok (.aload 4, 2) := by decide +kernel
theorem dT_insert_63 : decode cT_insert 63 = .ok (.iload_n 2, 1) := by decide +kernel
theorem dT_insert_64 : decode cT_insert 64 = .ok (.invokevirtual 37, 3) := by decide +kernel
theorem dT_insert_67 : decode cT_insert 67 = .ok (.iload_n 3, 1) := by decide +kernel
theorem dT_insert_68 : decode cT_insert 68 = .ok (.invokevirtual 41, 3) := by decide +kernel
theorem dT_insert_71 : decode cT_insert 71 = .ok (.ireturn, 1) := by decide +kernel
theorem dT_isReplica_0 : decode cT_isReplica 0 = .ok (.iload_n 0, 1) := by decide +kernel
theorem dT_isReplica_1 : decode cT_isReplica 1 = .ok (.ifCond .lt 12, 3) := by decide +kernel
theorem dT_isReplica_4 : decode cT_isReplica 4 = .ok (.iload_n 0, 1) := by decide +kernel
theorem dT_isReplica_5 : decode cT_isReplica 5 = .ok (.iconst 3, 1) := by decide +kernel
theorem dT_isReplica_6 : decode cT_isReplica 6 = .ok (.if_icmp .ge 7, 3) := by decide +kernel
theorem dT_isReplica_9 : decode cT_isReplica 9 = .ok (.iconst 1, 1) := by decide +kernel
theorem dT_isReplica_10 : decode cT_isReplica 10 = .ok (.goto 4, 3) := by decide +kernel
theorem dT_isReplica_13 : decode cT_isReplica 13 = .ok (.iconst 0, 1) := by decide +kernel
theorem dT_isReplica_14 : decode cT_isReplica 14 = .ok (.ireturn, 1) := by decide +kernel
theorem dT_erase_0 : decode cT_erase 0 = .ok (.iload_n 1, 1) := by decide +kernel
theorem dT_erase_1 : decode cT_erase 1 = .ok (.invokestatic 25, 3) := by decide +kernel
theorem dT_erase_4 : decode cT_erase 4 = .ok (.ifCond .ne 5, 3) := by decide +kernel
theorem dT_erase_7 : decode cT_erase 7 = .ok (.iconst (-1), 1) := by decide +kernel
theorem dT_erase_8 : decode cT_erase 8 = .ok (.ireturn, 1) := by decide +kernel
theorem dT_erase_9 : decode cT_erase 9 = .ok (.aload_n 0, 1) := by decide +kernel
theorem dT_erase_10 : decode cT_erase 10 = .ok (.getfield 18, 3) := by decide +kernel
theorem dT_erase_13 : decode cT_erase 13 = .ok (.iload_n 1, 1) := by decide +kernel
theorem dT_erase_14 : decode cT_erase 14 = .ok (.aaload, 1) := by decide +kernel
theorem dT_erase_15 : decode cT_erase 15 = .ok (.iload_n 2, 1) := by decide +kernel
theorem dT_erase_16 : decode cT_erase 16 = .ok (.invokevirtual 45, 3) := by decide +kernel
theorem dT_erase_19 : decode cT_erase 19 = .ok (.istore_n 3, 1) := by decide +kernel
theorem dT_erase_20 : decode cT_erase 20 = .ok (.iload_n 3, 1) := by decide +kernel
theorem dT_erase_21 : decode cT_erase 21 = .ok (.iconst (-1), 1) := by decide +kernel
theorem dT_erase_22 : decode cT_erase 22 = .ok (.if_icmp .ne 5, 3) := by decide +kernel
theorem dT_erase_25 : decode cT_erase 25 = .ok (.iconst (-1), 1) := by decide +kernel
theorem dT_erase_26 : decode cT_erase 26 = .ok (.ireturn, 1) := by decide +kernel
theorem dT_erase_27 : decode cT_erase 27 = .ok (.aload_n 0, 1) := by decide +kernel
theorem dT_erase_28 : decode cT_erase 28 = .ok (.getfield 10, 3) := by decide +kernel
theorem dT_erase_31 : decode cT_erase 31 = .ok (.invokevirtual 33, 3) := by decide +kernel
theorem dT_erase_34 : decode cT_erase 34 = .ok (.ifCond .eq 8, 3) := by decide +kernel
theorem dT_erase_37 : decode cT_erase 37 = .ok (.bipush (-2), 2) := by decide +kernel
theorem dT_erase_39 : decode cT_erase 39 = .ok (.goto 14, 3) := by decide +kernel
theorem dT_erase_42 : decode cT_erase 42 = .ok (.aload_n 0, 1) := by decide +kernel
theorem dT_erase_43 : decode cT_erase 43 = .ok (.getfield 18, 3) := by decide +kernel
theorem dT_erase_46 : decode cT_erase 46 = .ok (.iload_n 1, 1) := by decide +kernel
theorem dT_erase_47 : decode cT_erase 47 = .ok (.aaload, 1) := by decide +kernel
theorem dT_erase_48 : decode cT_erase 48 = .ok (.iload_n 3, 1) := by decide +kernel
theorem dT_erase_49 : decode cT_erase 49 = .ok (.iconst 0, 1) := by decide +kernel
theorem dT_erase_50 : decode cT_erase 50 = .ok (.invokevirtual 41, 3) := by decide +kernel
theorem dT_erase_53 : decode cT_erase 53 = .ok (.ireturn, 1) := by decide +kernel
theorem dT_deliver_0 : decode cT_deliver 0 = .ok (.iload_n 1, 1) := by decide +kernel
theorem dT_deliver_1 : decode cT_deliver 1 = .ok (.invokestatic 25, 3) := by decide +kernel
theorem dT_deliver_4 : decode cT_deliver 4 = .ok (.ifCond .eq 14, 3) := by decide +kernel
theorem dT_deliver_7 : decode cT_deliver 7 = .ok (.aload_n 0, 1) := by decide +kernel
theorem dT_deliver_8 : decode cT_deliver 8 = .ok (.getfield 10, 3) := by decide +kernel
theorem dT_deliver_11 : decode cT_deliver 11 = .ok (.iload_n 2, 1) := by decide +kernel
theorem dT_deliver_12 : decode cT_deliver 12 = .ok (.invokevirtual 48, 3) := by decide +kernel
theorem dT_deliver_15 : decode cT_deliver 15 = .ok (.ifCond .ne 5, 3) := by decide +kernel
theorem dT_deliver_18 : decode cT_deliver 18 = .ok (.iconst (-1), 1) := by decide +kernel
theorem dT_deliver_19 : decode cT_deliver 19 = .ok (.ireturn, 1) := by decide +kernel
theorem dT_deliver_20 : decode cT_deliver 20 = .ok (.aload_n 0, 1) := by decide +kernel
theorem dT_deliver_21 : decode cT_deliver 21 = .ok (.getfield 18, 3) := by decide +kernel
theorem dT_deliver_24 : decode cT_deliver 24 = .ok (.iload_n 1, 1) := by decide +kernel
theorem dT_deliver_25 : decode cT_deliver 25 = .ok (.aaload, 1) := by decide +kernel
theorem dT_deliver_26 : decode cT_deliver 26 = .ok (.iload_n 2, 1) := by decide +kernel
theorem dT_deliver_27 : decode cT_deliver 27 = .ok (.invokevirtual 51, 3) := by decide +kernel
theorem dT_deliver_30 : decode cT_deliver 30 = .ok (.aload_n 0, 1) := by decide +kernel
theorem dT_deliver_31 : decode cT_deliver 31 = .ok (.getfield 18, 3) := by decide +kernel
theorem dT_deliver_34 : decode cT_deliver 34 = .ok (.iload_n 1, 1) := by decide +kernel
theorem dT_deliver_35 : decode cT_deliver 35 = .ok (.aaload, 1) := by decide +kernel
theorem dT_deliver_36 : decode cT_deliver 36 = .ok (.invokevirtual 55, 3) := by decide +kernel
theorem dT_deliver_39 : decode cT_deliver 39 = .ok (.ireturn, 1) := by decide +kernel
theorem dT_sync_0 : decode cT_sync 0 = .ok (.iload_n 1, 1) := by decide +kernel
theorem dT_sync_1 : decode cT_sync 1 = .ok (.invokestatic 25, 3) := by decide +kernel
theorem dT_sync_4 : decode cT_sync 4 = .ok (.ifCond .eq 10, 3) := by decide +kernel
theorem dT_sync_7 : decode cT_sync 7 = .ok (.iload_n 2, 1) := by decide +kernel
theorem dT_sync_8 : decode cT_sync 8 = .ok (.invokestatic 25, 3) := by decide +kernel
theorem dT_sync_11 : decode cT_sync 11 = .ok (.ifCond .ne 5, 3) := by decide +kernel
theorem dT_sync_14 : decode cT_sync 14 = .ok (.iconst (-1), 1) := by decide +kernel
theorem dT_sync_15 : decode cT_sync 15 = .ok (.ireturn, 1) := by decide +kernel
theorem dT_sync_16 : decode cT_sync 16 = .ok (.aload_n 0, 1) := by decide +kernel
theorem dT_sync_17 : decode cT_sync 17 = .ok (.getfield 18, 3) := by decide +kernel
theorem dT_sync_20 : decode cT_sync 20 = .ok (.iload_n 1, 1) := by decide +kernel
theorem dT_sync_21 : decode cT_sync 21 = .ok (.aaload, 1) := by decide +kernel
theorem dT_sync_22 : decode cT_sync 22 = .ok (.aload_n 0, 1) := by decide +kernel
theorem dT_sync_23 : decode cT_sync 23 = .ok (.getfield 18, 3) := by decide +kernel
theorem dT_sync_26 : decode cT_sync 26 = .ok (.iload_n 2, 1) := by decide +kernel
theorem dT_sync_27 : decode cT_sync 27 = .ok (.aaload, 1) := by decide +kernel
theorem dT_sync_28 : decode cT_sync 28 = .ok (.invokevirtual 59, 3) := by decide +kernel
theorem dT_sync_31 : decode cT_sync 31 = .ok (.aload_n 0, 1) := by decide +kernel
theorem dT_sync_32 : decode cT_sync 32 = .ok (.getfield 18, 3) := by decide +kernel
theorem dT_sync_35 : decode cT_sync 35 = .ok (.iload_n 1, 1) := by decide +kernel
theorem dT_sync_36 : decode cT_sync 36 = .ok (.aaload, 1) := by decide +kernel
theorem dT_sync_37 : decode cT_sync 37 = .ok (.invokevirtual 55, 3) := by decide +kernel
theorem dT_sync_40 : decode cT_sync 40 = .ok (.ireturn, 1) := by decide +kernel
theorem dT_collect_0 : decode cT_collect 0 = .ok (.iload_n 1, 1) := by decide +kernel
theorem dT_collect_1 : decode cT_collect 1 = .ok (.invokestatic 25, 3) := by decide +kernel
theorem dT_collect_4 : decode cT_collect 4 = .ok (.ifCond .eq 15, 3) := by decide +kernel
theorem dT_collect_7 : decode cT_collect 7 = .ok (.aload_n 0, 1) := by decide +kernel
theorem dT_collect_8 : decode cT_collect 8 = .ok (.getfield 18, 3) := by decide +kernel
theorem dT_collect_11 : decode cT_collect 11 = .ok (.iload_n 1, 1) := by decide +kernel
theorem dT_collect_12 : decode cT_collect 12 = .ok (.aaload, 1) := by decide +kernel
theorem dT_collect_13 : decode cT_collect 13 = .ok (.invokevirtual 63, 3) := by decide +kernel
theorem dT_collect_16 : decode cT_collect 16 = .ok (.goto 4, 3) := by decide +kernel
theorem dT_collect_19 : decode cT_collect 19 = .ok (.iconst (-1), 1) := by decide +kernel
theorem dT_collect_20 : decode cT_collect 20 = .ok (.ireturn, 1) := by decide +kernel
theorem dT_length_0 : decode cT_length 0 = .ok (.iload_n 1, 1) := by decide +kernel
theorem dT_length_1 : decode cT_length 1 = .ok (.invokestatic 25, 3) := by decide +kernel
theorem dT_length_4 : decode cT_length 4 = .ok (.ifCond .eq 15, 3) := by decide +kernel
theorem dT_length_7 : decode cT_length 7 = .ok (.aload_n 0, 1) := by decide +kernel
theorem dT_length_8 : decode cT_length 8 = .ok (.getfield 18, 3) := by decide +kernel
theorem dT_length_11 : decode cT_length 11 = .ok (.iload_n 1, 1) := by decide +kernel
theorem dT_length_12 : decode cT_length 12 = .ok (.aaload, 1) := by decide +kernel
theorem dT_length_13 : decode cT_length 13 = .ok (.getfield 29, 3) := by decide +kernel
theorem dT_length_16 : decode cT_length 16 = .ok (.goto 4, 3) := by decide +kernel
theorem dT_length_19 : decode cT_length 19 = .ok (.iconst (-1), 1) := by decide +kernel
theorem dT_length_20 : decode cT_length 20 = .ok (.ireturn, 1) := by decide +kernel
theorem dT_at_0 : decode cT_at 0 = .ok (.iload_n 1, 1) := by decide +kernel
theorem dT_at_1 : decode cT_at 1 = .ok (.invokestatic 25, 3) := by decide +kernel
theorem dT_at_4 : decode cT_at 4 = .ok (.ifCond .ne 5, 3) := by decide +kernel
theorem dT_at_7 : decode cT_at 7 = .ok (.iconst (-1), 1) := by decide +kernel
theorem dT_at_8 : decode cT_at 8 = .ok (.ireturn, 1) := by decide +kernel
theorem dT_at_9 : decode cT_at 9 = .ok (.aload_n 0, 1) := by decide +kernel
theorem dT_at_10 : decode cT_at 10 = .ok (.getfield 18, 3) := by decide +kernel
theorem dT_at_13 : decode cT_at 13 = .ok (.iload_n 1, 1) := by decide +kernel
theorem dT_at_14 : decode cT_at 14 = .ok (.aaload, 1) := by decide +kernel
theorem dT_at_15 : decode cT_at 15 = .ok (.iload_n 2, 1) := by decide +kernel
theorem dT_at_16 : decode cT_at 16 = .ok (.invokevirtual 45, 3) := by decide +kernel
theorem dT_at_19 : decode cT_at 19 = .ok (.istore_n 3, 1) := by decide +kernel
theorem dT_at_20 : decode cT_at 20 = .ok (.iload_n 3, 1) := by decide +kernel
theorem dT_at_21 : decode cT_at 21 = .ok (.iconst (-1), 1) := by decide +kernel
theorem dT_at_22 : decode cT_at 22 = .ok (.if_icmp .ne 5, 3) := by decide +kernel
theorem dT_at_25 : decode cT_at 25 = .ok (.iconst (-1), 1) := by decide +kernel
theorem dT_at_26 : decode cT_at 26 = .ok (.ireturn, 1) := by decide +kernel
theorem dT_at_27 : decode cT_at 27 = .ok (.aload_n 0, 1) := by decide +kernel
theorem dT_at_28 : decode cT_at 28 = .ok (.getfield 10, 3) := by decide +kernel
theorem dT_at_31 : decode cT_at 31 = .ok (.getfield 66, 3) := by decide +kernel
theorem dT_at_34 : decode cT_at 34 = .ok (.iload_n 3, 1) := by decide +kernel
theorem dT_at_35 : decode cT_at 35 = .ok (.caload, 1) := by decide +kernel
theorem dT_at_36 : decode cT_at 36 = .ok (.ireturn, 1) := by decide +kernel
theorem dT_position_0 : decode cT_position 0 = .ok (.iload_n 1, 1) := by decide +kernel
theorem dT_position_1 : decode cT_position 1 = .ok (.invokestatic 25, 3) := by decide +kernel
theorem dT_position_4 : decode cT_position 4 = .ok (.ifCond .ne 5, 3) := by decide +kernel
theorem dT_position_7 : decode cT_position 7 = .ok (.iconst (-1), 1) := by decide +kernel
theorem dT_position_8 : decode cT_position 8 = .ok (.ireturn, 1) := by decide +kernel
theorem dT_position_9 : decode cT_position 9 = .ok (.aload_n 0, 1) := by decide +kernel
theorem dT_position_10 : decode cT_position 10 = .ok (.getfield 18, 3) := by decide +kernel
theorem dT_position_13 : decode cT_position 13 = .ok (.iload_n 1, 1) := by decide +kernel
theorem dT_position_14 : decode cT_position 14 = .ok (.aaload, 1) := by decide +kernel
theorem dT_position_15 : decode cT_position 15 = .ok (.iload_n 2, 1) := by decide +kernel
theorem dT_position_16 : decode cT_position 16 = .ok (.invokevirtual 70, 3) := by decide +kernel
theorem dT_position_19 : decode cT_position 19 = .ok (.istore_n 3, 1) := by decide +kernel
theorem dT_position_20 : decode cT_position 20 = .ok (.iload_n 3, 1) := by decide +kernel
theorem dT_position_21 : decode cT_position 21 = .ok (.iconst (-1), 1) := by decide +kernel
theorem dT_position_22 : decode cT_position 22 = .ok (.if_icmp .ne 7, 3) := by decide +kernel
theorem dT_position_25 : decode cT_position 25 = .ok (.iconst (-1), 1) := by decide +kernel
theorem dT_position_26 : decode cT_position 26 = .ok (.goto 4, 3) := by decide +kernel
theorem dT_position_29 : decode cT_position 29 = .ok (.iload_n 3, 1) := by decide +kernel
theorem dT_position_30 : decode cT_position 30 = .ok (.ireturn, 1) := by decide +kernel
theorem dT_same_0 : decode cT_same 0 = .ok (.iload_n 1, 1) := by decide +kernel
theorem dT_same_1 : decode cT_same 1 = .ok (.invokestatic 25, 3) := by decide +kernel
theorem dT_same_4 : decode cT_same 4 = .ok (.ifCond .eq 32, 3) := by decide +kernel
theorem dT_same_7 : decode cT_same 7 = .ok (.iload_n 2, 1) := by decide +kernel
theorem dT_same_8 : decode cT_same 8 = .ok (.invokestatic 25, 3) := by decide +kernel
theorem dT_same_11 : decode cT_same 11 = .ok (.ifCond .eq 25, 3) := by decide +kernel
theorem dT_same_14 : decode cT_same 14 = .ok (.aload_n 0, 1) := by decide +kernel
theorem dT_same_15 : decode cT_same 15 = .ok (.getfield 18, 3) := by decide +kernel
theorem dT_same_18 : decode cT_same 18 = .ok (.iload_n 1, 1) := by decide +kernel
theorem dT_same_19 : decode cT_same 19 = .ok (.aaload, 1) := by decide +kernel
theorem dT_same_20 : decode cT_same 20 = .ok (.aload_n 0, 1) := by decide +kernel
theorem dT_same_21 : decode cT_same 21 = .ok (.getfield 18, 3) := by decide +kernel
theorem dT_same_24 : decode cT_same 24 = .ok (.iload_n 2, 1) := by decide +kernel
theorem dT_same_25 : decode cT_same 25 = .ok (.aaload, 1) := by decide +kernel
theorem dT_same_26 : decode cT_same 26 = .ok (.invokevirtual 73, 3) := by decide +kernel
theorem dT_same_29 : decode cT_same 29 = .ok (.ifCond .eq 7, 3) := by decide +kernel
theorem dT_same_32 : decode cT_same 32 = .ok (.iconst 1, 1) := by decide +kernel
theorem dT_same_33 : decode cT_same 33 = .ok (.goto 4, 3) := by decide +kernel
theorem dT_same_36 : decode cT_same 36 = .ok (.iconst 0, 1) := by decide +kernel
theorem dT_same_37 : decode cT_same 37 = .ok (.ireturn, 1) := by decide +kernel
theorem dT_operations_0 : decode cT_operations 0 = .ok (.aload_n 0, 1) := by decide +kernel
theorem dT_operations_1 : decode cT_operations 1 = .ok (.getfield 10, 3) := by decide +kernel
theorem dT_operations_4 : decode cT_operations 4 = .ok (.getfield 77, 3) := by decide +kernel
theorem dT_operations_7 : decode cT_operations 7 = .ok (.ireturn, 1) := by decide +kernel
theorem dT_stamp_0 : decode cT_stamp 0 = .ok (.aload_n 0, 1) := by decide +kernel
theorem dT_stamp_1 : decode cT_stamp 1 = .ok (.getfield 10, 3) := by decide +kernel
theorem dT_stamp_4 : decode cT_stamp 4 = .ok (.iload_n 1, 1) := by decide +kernel
theorem dT_stamp_5 : decode cT_stamp 5 = .ok (.invokevirtual 48, 3) := by decide +kernel
theorem dT_stamp_8 : decode cT_stamp 8 = .ok (.ifCond .ne 5, 3) := by decide +kernel
theorem dT_stamp_11 : decode cT_stamp 11 = .ok (.iconst (-1), 1) := by decide +kernel
theorem dT_stamp_12 : decode cT_stamp 12 = .ok (.ireturn, 1) := by decide +kernel
theorem dT_stamp_13 : decode cT_stamp 13 = .ok (.iconst 4, 1) := by decide +kernel
theorem dT_stamp_14 : decode cT_stamp 14 = .ok (.aload_n 0, 1) := by decide +kernel
theorem dT_stamp_15 : decode cT_stamp 15 = .ok (.getfield 10, 3) := by decide +kernel
theorem dT_stamp_18 : decode cT_stamp 18 = .ok (.getfield 80, 3) := by decide +kernel
theorem dT_stamp_21 : decode cT_stamp 21 = .ok (.iload_n 1, 1) := by decide +kernel
theorem dT_stamp_22 : decode cT_stamp 22 = .ok (.iaload, 1) := by decide +kernel
theorem dT_stamp_23 : decode cT_stamp 23 = .ok (.imul, 1) := by decide +kernel
theorem dT_stamp_24 : decode cT_stamp 24 = .ok (.aload_n 0, 1) := by decide +kernel
theorem dT_stamp_25 : decode cT_stamp 25 = .ok (.getfield 10, 3) := by decide +kernel
theorem dT_stamp_28 : decode cT_stamp 28 = .ok (.getfield 84, 3) := by decide +kernel
theorem dT_stamp_31 : decode cT_stamp 31 = .ok (.iload_n 1, 1) := by decide +kernel
theorem dT_stamp_32 : decode cT_stamp 32 = .ok (.iaload, 1) := by decide +kernel
theorem dT_stamp_33 : decode cT_stamp 33 = .ok (.iadd, 1) := by decide +kernel
theorem dT_stamp_34 : decode cT_stamp 34 = .ok (.ireturn, 1) := by decide +kernel
theorem dT_known_0 : decode cT_known 0 = .ok (.iload_n 1, 1) := by decide +kernel
theorem dT_known_1 : decode cT_known 1 = .ok (.invokestatic 25, 3) := by decide +kernel
theorem dT_known_4 : decode cT_known 4 = .ok (.ifCond .eq 17, 3) := by decide +kernel
theorem dT_known_7 : decode cT_known 7 = .ok (.iload_n 2, 1) := by decide +kernel
theorem dT_known_8 : decode cT_known 8 = .ok (.invokestatic 25, 3) := by decide +kernel
theorem dT_known_11 : decode cT_known 11 = .ok (.ifCond .eq 10, 3) := by decide +kernel
theorem dT_known_14 : decode cT_known 14 = .ok (.iload_n 3, 1) := by decide +kernel
theorem dT_known_15 : decode cT_known 15 = .ok (.invokestatic 25, 3) := by decide +kernel
theorem dT_known_18 : decode cT_known 18 = .ok (.ifCond .ne 5, 3) := by decide +kernel
theorem dT_known_21 : decode cT_known 21 = .ok (.iconst (-1), 1) := by decide +kernel
theorem dT_known_22 : decode cT_known 22 = .ok (.ireturn, 1) := by decide +kernel
theorem dT_known_23 : decode cT_known 23 = .ok (.aload_n 0, 1) := by decide +kernel
theorem dT_known_24 : decode cT_known 24 = .ok (.getfield 18, 3) := by decide +kernel
theorem dT_known_27 : decode cT_known 27 = .ok (.iload_n 1, 1) := by decide +kernel
theorem dT_known_28 : decode cT_known 28 = .ok (.aaload, 1) := by decide +kernel
theorem dT_known_29 : decode cT_known 29 = .ok (.getfield 87, 3) := by decide +kernel
theorem dT_known_32 : decode cT_known 32 = .ok (.iload_n 2, 1) := by decide +kernel
theorem dT_known_33 : decode cT_known 33 = .ok (.aaload, 1) := by decide +kernel
theorem dT_known_34 : decode cT_known 34 = .ok (.iload_n 3, 1) := by decide +kernel
theorem dT_known_35 : decode cT_known 35 = .ok (.iaload, 1) := by decide +kernel
