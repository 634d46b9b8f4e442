theorem dL_init_0 : decode cL_init 0 = .ok (.aload_n 0, 1) := by decide +kernel
theorem dL_init_1 : decode cL_init 1 = .ok (.invokespecial 3, 3) := by decide +kernel
theorem dL_init_4 : decode cL_init 4 = .ok (.aload_n 0, 1) := by decide +kernel
theorem dL_init_5 : decode cL_init 5 = .ok (.bipush 100, 2) := by decide +kernel
theorem dL_init_7 : decode cL_init 7 = .ok (.newarray .int, 2) := by decide +kernel
theorem dL_init_9 : decode cL_init 9 = .ok (.putfield 9, 3) := by decide +kernel
theorem dL_init_12 : decode cL_init 12 = .ok (.aload_n 0, 1) := by decide +kernel
theorem dL_init_13 : decode cL_init 13 = .ok (.bipush 100, 2) := by decide +kernel
theorem dL_init_15 : decode cL_init 15 = .ok (.newarray .int, 2) := by decide +kernel
theorem dL_init_17 : decode cL_init 17 = .ok (.putfield 15, 3) := by decide +kernel
theorem dL_init_20 : decode cL_init 20 = .ok (.aload_n 0, 1) := by decide +kernel
theorem dL_init_21 : decode cL_init 21 = .ok (.bipush 100, 2) := by decide +kernel
theorem dL_init_23 : decode cL_init 23 = .ok (.newarray .int, 2) := by decide +kernel
theorem dL_init_25 : decode cL_init 25 = .ok (.putfield 18, 3) := by decide +kernel
theorem dL_init_28 : decode cL_init 28 = .ok (.aload_n 0, 1) := by decide +kernel
theorem dL_init_29 : decode cL_init 29 = .ok (.bipush 100, 2) := by decide +kernel
theorem dL_init_31 : decode cL_init 31 = .ok (.newarray .char, 2) := by decide +kernel
theorem dL_init_33 : decode cL_init 33 = .ok (.putfield 21, 3) := by decide +kernel
theorem dL_init_36 : decode cL_init 36 = .ok (.aload_n 0, 1) := by decide +kernel
theorem dL_init_37 : decode cL_init 37 = .ok (.sipush 300, 3) := by decide +kernel
theorem dL_init_40 : decode cL_init 40 = .ok (.newarray .int, 2) := by decide +kernel
theorem dL_init_42 : decode cL_init 42 = .ok (.putfield 25, 3) := by decide +kernel
theorem dL_init_45 : decode cL_init 45 = .ok (.aload_n 0, 1) := by decide +kernel
theorem dL_init_46 : decode cL_init 46 = .ok (.bipush 100, 2) := by decide +kernel
theorem dL_init_48 : decode cL_init 48 = .ok (.newarray .int, 2) := by decide +kernel
theorem dL_init_50 : decode cL_init 50 = .ok (.putfield 28, 3) := by decide +kernel
theorem dL_init_53 : decode cL_init 53 = .ok (.return_, 1) := by decide +kernel
theorem dL_isFull_0 : decode cL_isFull 0 = .ok (.aload_n 0, 1) := by decide +kernel
theorem dL_isFull_1 : decode cL_isFull 1 = .ok (.getfield 31, 3) := by decide +kernel
theorem dL_isFull_4 : decode cL_isFull 4 = .ok (.bipush 100, 2) := by decide +kernel
theorem dL_isFull_6 : decode cL_isFull 6 = .ok (.if_icmp .lt 7, 3) := by decide +kernel
theorem dL_isFull_9 : decode cL_isFull 9 = .ok (.iconst 1, 1) := by decide +kernel
theorem dL_isFull_10 : decode cL_isFull 10 = .ok (.goto 4, 3) := by decide +kernel
theorem dL_isFull_13 : decode cL_isFull 13 = .ok (.iconst 0, 1) := by decide +kernel
theorem dL_isFull_14 : decode cL_isFull 14 = .ok (.ireturn, 1) := by decide +kernel
theorem dL_record_0 : decode cL_record 0 = .ok (.aload_n 0, 1) := by decide +kernel
theorem dL_record_1 : decode cL_record 1 = .ok (.getfield 31, 3) := by decide +kernel
theorem dL_record_4 : decode cL_record 4 = .ok (.istore 6, 2) := by decide +kernel
theorem dL_record_6 : decode cL_record 6 = .ok (.aload_n 0, 1) := by decide +kernel
theorem dL_record_7 : decode cL_record 7 = .ok (.dup, 1) := by decide +kernel
theorem dL_record_8 : decode cL_record 8 = .ok (.getfield 31, 3) := by decide +kernel
theorem dL_record_11 : decode cL_record 11 = .ok (.iconst 1, 1) := by decide +kernel
theorem dL_record_12 : decode cL_record 12 = .ok (.iadd, 1) := by decide +kernel
theorem dL_record_13 : decode cL_record 13 = .ok (.putfield 31, 3) := by decide +kernel
theorem dL_record_16 : decode cL_record 16 = .ok (.aload_n 0, 1) := by decide +kernel
theorem dL_record_17 : decode cL_record 17 = .ok (.getfield 9, 3) := by decide +kernel
theorem dL_record_20 : decode cL_record 20 = .ok (.iload 6, 2) := by decide +kernel
theorem dL_record_22 : decode cL_record 22 = .ok (.iload_n 1, 1) := by decide +kernel
theorem dL_record_23 : decode cL_record 23 = .ok (.iastore, 1) := by decide +kernel
theorem dL_record_24 : decode cL_record 24 = .ok (.aload_n 0, 1) := by decide +kernel
theorem dL_record_25 : decode cL_record 25 = .ok (.getfield 15, 3) := by decide +kernel
theorem dL_record_28 : decode cL_record 28 = .ok (.iload 6, 2) := by decide +kernel
theorem dL_record_30 : decode cL_record 30 = .ok (.iload_n 2, 1) := by decide +kernel
theorem dL_record_31 : decode cL_record 31 = .ok (.iastore, 1) := by decide +kernel
theorem dL_record_32 : decode cL_record 32 = .ok (.aload_n 0, 1) := by decide +kernel
theorem dL_record_33 : decode cL_record 33 = .ok (.getfield 18, 3) := by decide +kernel
theorem dL_record_36 : decode cL_record 36 = .ok (.iload 6, 2) := by decide +kernel
theorem dL_record_38 : decode cL_record 38 = .ok (.iload 4, 2) := by decide +kernel
theorem dL_record_40 : decode cL_record 40 = .ok (.iastore, 1) := by decide +kernel
theorem dL_record_41 : decode cL_record 41 = .ok (.aload_n 0, 1) := by decide +kernel
theorem dL_record_42 : decode cL_record 42 = .ok (.getfield 21, 3) := by decide +kernel
theorem dL_record_45 : decode cL_record 45 = .ok (.iload 6, 2) := by decide +kernel
theorem dL_record_47 : decode cL_record 47 = .ok (.iload 5, 2) := by decide +kernel
theorem dL_record_49 : decode cL_record 49 = .ok (.castore, 1) := by decide +kernel
theorem dL_record_50 : decode cL_record 50 = .ok (.iconst 0, 1) := by decide +kernel
theorem dL_record_51 : decode cL_record 51 = .ok (.istore 7, 2) := by decide +kernel
theorem dL_record_53 : decode cL_record 53 = .ok (.iload 7, 2) := by decide +kernel
theorem dL_record_55 : decode cL_record 55 = .ok (.iconst 3, 1) := by decide +kernel
theorem dL_record_56 : decode cL_record 56 = .ok (.if_icmp .ge 37, 3) := by decide +kernel
theorem dL_record_59 : decode cL_record 59 = .ok (.aload_n 0, 1) := by decide +kernel
theorem dL_record_60 : decode cL_record 60 = .ok (.getfield 25, 3) := by decide +kernel
theorem dL_record_63 : decode cL_record 63 = .ok (.iload 6, 2) := by decide +kernel
theorem dL_record_65 : decode cL_record 65 = .ok (.iconst 3, 1) := by decide +kernel
theorem dL_record_66 : decode cL_record 66 = .ok (.imul, 1) := by decide +kernel
theorem dL_record_67 : decode cL_record 67 = .ok (.iload 7, 2) := by decide +kernel
theorem dL_record_69 : decode cL_record 69 = .ok (.iadd, 1) := by decide +kernel
theorem dL_record_70 : decode cL_record 70 = .ok (.aload_n 3, 1) := by decide +kernel
theorem dL_record_71 : decode cL_record 71 = .ok (.iload 7, 2) := by decide +kernel
theorem dL_record_73 : decode cL_record 73 = .ok (.iaload, 1) := by decide +kernel
theorem dL_record_74 : decode cL_record 74 = .ok (.iload 7, 2) := by decide +kernel
theorem dL_record_76 : decode cL_record 76 = .ok (.iload_n 1, 1) := by decide +kernel
theorem dL_record_77 : decode cL_record 77 = .ok (.if_icmp .ne 7, 3) := by decide +kernel
theorem dL_record_80 : decode cL_record 80 = .ok (.iconst 1, 1) := by decide +kernel
theorem dL_record_81 : decode cL_record 81 = .ok (.goto 4, 3) := by decide +kernel
theorem dL_record_84 : decode cL_record 84 = .ok (.iconst 0, 1) := by decide +kernel
theorem dL_record_85 : decode cL_record 85 = .ok (.iadd, 1) := by decide +kernel
theorem dL_record_86 : decode cL_record 86 = .ok (.iastore, 1) := by decide +kernel
theorem dL_record_87 : decode cL_record 87 = .ok (.iinc 7 1, 3) := by decide +kernel
theorem dL_record_90 : decode cL_record 90 = .ok (.goto (-37), 3) := by decide +kernel
theorem dL_record_93 : decode cL_record 93 = .ok (.iload 5, 2) := by decide +kernel
theorem dL_record_95 : decode cL_record 95 = .ok (.ifCond .eq 9, 3) := by decide +kernel
theorem dL_record_98 : decode cL_record 98 = .ok (.aload_n 0, 1) := by decide +kernel
theorem dL_record_99 : decode cL_record 99 = .ok (.iload 6, 2) := by decide +kernel
theorem dL_record_101 : decode cL_record 101 = .ok (.invokevirtual 39, 3) := by decide +kernel
theorem dL_record_104 : decode cL_record 104 = .ok (.iload 6, 2) := by decide +kernel
theorem dL_record_106 : decode cL_record 106 = .ok (.ireturn, 1) := by decide +kernel
theorem dL_putInOrder_0 : decode cL_putInOrder 0 = .ok (.aload_n 0, 1) := by decide +kernel
theorem dL_putInOrder_1 : decode cL_putInOrder 1 = .ok (.aload_n 0, 1) := by decide +kernel
theorem dL_putInOrder_2 : decode cL_putInOrder 2 = .ok (.getfield 18, 3) := by decide +kernel
theorem dL_putInOrder_5 : decode cL_putInOrder 5 = .ok (.iload_n 1, 1) := by decide +kernel
theorem dL_putInOrder_6 : decode cL_putInOrder 6 = .ok (.iaload, 1) := by decide +kernel
theorem dL_putInOrder_7 : decode cL_putInOrder 7 = .ok (.invokevirtual 43, 3) := by decide +kernel
theorem dL_putInOrder_10 : decode cL_putInOrder 10 = .ok (.istore_n 2, 1) := by decide +kernel
theorem dL_putInOrder_11 : decode cL_putInOrder 11 = .ok (.iload_n 2, 1) := by decide +kernel
theorem dL_putInOrder_12 : decode cL_putInOrder 12 = .ok (.aload_n 0, 1) := by decide +kernel
theorem dL_putInOrder_13 : decode cL_putInOrder 13 = .ok (.getfield 47, 3) := by decide +kernel
theorem dL_putInOrder_16 : decode cL_putInOrder 16 = .ok (.if_icmp .ge 23, 3) := by decide +kernel
theorem dL_putInOrder_19 : decode cL_putInOrder 19 = .ok (.aload_n 0, 1) := by decide +kernel
theorem dL_putInOrder_20 : decode cL_putInOrder 20 = .ok (.aload_n 0, 1) := by decide +kernel
theorem dL_putInOrder_21 : decode cL_putInOrder 21 = .ok (.getfield 28, 3) := by decide +kernel
theorem dL_putInOrder_24 : decode cL_putInOrder 24 = .ok (.iload_n 2, 1) := by decide +kernel
theorem dL_putInOrder_25 : decode cL_putInOrder 25 = .ok (.iaload, 1) := by decide +kernel
theorem dL_putInOrder_26 : decode cL_putInOrder 26 = .ok (.iload_n 1, 1) := by decide +kernel
theorem dL_putInOrder_27 : decode cL_putInOrder 27 = .ok (.invokevirtual 50, 3) := by decide +kernel
theorem dL_putInOrder_30 : decode cL_putInOrder 30 = .ok (.ifCond .eq 9, 3) := by decide +kernel
theorem dL_putInOrder_33 : decode cL_putInOrder 33 = .ok (.iinc 2 1, 3) := by decide +kernel
theorem dL_putInOrder_36 : decode cL_putInOrder 36 = .ok (.goto (-25), 3) := by decide +kernel
theorem dL_putInOrder_39 : decode cL_putInOrder 39 = .ok (.aload_n 0, 1) := by decide +kernel
theorem dL_putInOrder_40 : decode cL_putInOrder 40 = .ok (.getfield 47, 3) := by decide +kernel
theorem dL_putInOrder_43 : decode cL_putInOrder 43 = .ok (.istore_n 3, 1) := by decide +kernel
theorem dL_putInOrder_44 : decode cL_putInOrder 44 = .ok (.iload_n 3, 1) := by decide +kernel
theorem dL_putInOrder_45 : decode cL_putInOrder 45 = .ok (.iload_n 2, 1) := by decide +kernel
theorem dL_putInOrder_46 : decode cL_putInOrder 46 = .ok (.if_icmp .le 23, 3) := by decide +kernel
theorem dL_putInOrder_49 : decode cL_putInOrder 49 = .ok (.aload_n 0, 1) := by decide +kernel
theorem dL_putInOrder_50 : decode cL_putInOrder 50 = .ok (.getfield 28, 3) := by decide +kernel
theorem dL_putInOrder_53 : decode cL_putInOrder 53 = .ok (.iload_n 3, 1) := by decide +kernel
theorem dL_putInOrder_54 : decode cL_putInOrder 54 = .ok (.aload_n 0, 1) := by decide +kernel
theorem dL_putInOrder_55 : decode cL_putInOrder 55 = .ok (.getfield 28, 3) := by decide +kernel
theorem dL_putInOrder_58 : decode cL_putInOrder 58 = .ok (.iload_n 3, 1) := by decide +kernel
theorem dL_putInOrder_59 : decode cL_putInOrder 59 = .ok (.iconst 1, 1) := by decide +kernel
theorem dL_putInOrder_60 : decode cL_putInOrder 60 = .ok (.isub, 1) := by decide +kernel
theorem dL_putInOrder_61 : decode cL_putInOrder 61 = .ok (.iaload, 1) := by decide +kernel
theorem dL_putInOrder_62 : decode cL_putInOrder 62 = .ok (.iastore, 1) := by decide +kernel
theorem dL_putInOrder_63 : decode cL_putInOrder 63 = .ok (.iinc 3 (-1), 3) := by decide +kernel
theorem dL_putInOrder_66 : decode cL_putInOrder 66 = .ok (.goto (-22), 3) := by decide +kernel
theorem dL_putInOrder_69 : decode cL_putInOrder 69 = .ok (.aload_n 0, 1) := by decide +kernel
theorem dL_putInOrder_70 : decode cL_putInOrder 70 = .ok (.getfield 28, 3) := by decide +kernel
theorem dL_putInOrder_73 : decode cL_putInOrder 73 = .ok (.iload_n 2, 1) := by decide +kernel
theorem dL_putInOrder_74 : decode cL_putInOrder 74 = .ok (.iload_n 1, 1) := by decide +kernel
theorem dL_putInOrder_75 : decode cL_putInOrder 75 = .ok (.iastore, 1) := by decide +kernel
theorem dL_putInOrder_76 : decode cL_putInOrder 76 = .ok (.aload_n 0, 1) := by decide +kernel
theorem dL_putInOrder_77 : decode cL_putInOrder 77 = .ok (.dup, 1) := by decide +kernel
theorem dL_putInOrder_78 : decode cL_putInOrder 78 = .ok (.getfield 47, 3) := by decide +kernel
theorem dL_putInOrder_81 : decode cL_putInOrder 81 = .ok (.iconst 1, 1) := by decide +kernel
theorem dL_putInOrder_82 : decode cL_putInOrder 82 = .ok (.iadd, 1) := by decide +kernel
theorem dL_putInOrder_83 : decode cL_putInOrder 83 = .ok (.putfield 47, 3) := by decide +kernel
theorem dL_putInOrder_86 : decode cL_putInOrder 86 = .ok (.return_, 1) := by decide +kernel
theorem dL_indexBehind_0 : decode cL_indexBehind 0 = .ok (.iconst 0, 1) := by decide +kernel
theorem dL_indexBehind_1 : decode cL_indexBehind 1 = .ok (.istore_n 2, 1) := by decide +kernel
theorem dL_indexBehind_2 : decode cL_indexBehind 2 = .ok (.iload_n 1, 1) := by decide +kernel
theorem dL_indexBehind_3 : decode cL_indexBehind 3 = .ok (.iconst (-1), 1) := by decide +kernel
theorem dL_indexBehind_4 : decode cL_indexBehind 4 = .ok (.if_icmp .eq 38, 3) := by decide +kernel
theorem dL_indexBehind_7 : decode cL_indexBehind 7 = .ok (.iload_n 2, 1) := by decide +kernel
theorem dL_indexBehind_8 : decode cL_indexBehind 8 = .ok (.aload_n 0, 1) := by decide +kernel
theorem dL_indexBehind_9 : decode cL_indexBehind 9 = .ok (.getfield 47, 3) := by decide +kernel
theorem dL_indexBehind_12 : decode cL_indexBehind 12 = .ok (.if_icmp .ge 19, 3) := by decide +kernel
theorem dL_indexBehind_15 : decode cL_indexBehind 15 = .ok (.aload_n 0, 1) := by decide +kernel
theorem dL_indexBehind_16 : decode cL_indexBehind 16 = .ok (.getfield 28, 3) := by decide +kernel
theorem dL_indexBehind_19 : decode cL_indexBehind 19 = .ok (.iload_n 2, 1) := by decide +kernel
theorem dL_indexBehind_20 : decode cL_indexBehind 20 = .ok (.iaload, 1) := by decide +kernel
theorem dL_indexBehind_21 : decode cL_indexBehind 21 = .ok (.iload_n 1, 1) := by decide +kernel
theorem dL_indexBehind_22 : decode cL_indexBehind 22 = .ok (.if_icmp .eq 9, 3) := by decide +kernel
theorem dL_indexBehind_25 : decode cL_indexBehind 25 = .ok (.iinc 2 1, 3) := by decide +kernel
theorem dL_indexBehind_28 : decode cL_indexBehind 28 = .ok (.goto (-21), 3) := by decide +kernel
theorem dL_indexBehind_31 : decode cL_indexBehind 31 = .ok (.iload_n 2, 1) := by decide +kernel
theorem dL_indexBehind_32 : decode cL_indexBehind 32 = .ok (.iconst 1, 1) := by decide +kernel
theorem dL_indexBehind_33 : decode cL_indexBehind 33 = .ok (.iadd, 1) := by decide +kernel
theorem dL_indexBehind_34 : decode cL_indexBehind 34 = .ok (.aload_n 0, 1) := by decide +kernel
theorem dL_indexBehind_35 : decode cL_indexBehind 35 = .ok (.getfield 47, 3) := by decide +kernel
theorem dL_indexBehind_38 : decode cL_indexBehind 38 = .ok (.invokestatic 54, 3) := by decide +kernel
theorem dL_indexBehind_41 : decode cL_indexBehind 41 = .ok (.istore_n 2, 1) := by decide +kernel
theorem dL_indexBehind_42 : decode cL_indexBehind 42 = .ok (.iload_n 2, 1) := by decide +kernel
theorem dL_indexBehind_43 : decode cL_indexBehind 43 = .ok (.ireturn, 1) := by decide +kernel
theorem dL_goesFirst_0 : decode cL_goesFirst 0 = .ok (.aload_n 0, 1) := by decide +kernel
theorem dL_goesFirst_1 : decode cL_goesFirst 1 = .ok (.getfield 15, 3) := by decide +kernel
theorem dL_goesFirst_4 : decode cL_goesFirst 4 = .ok (.iload_n 1, 1) := by decide +kernel
theorem dL_goesFirst_5 : decode cL_goesFirst 5 = .ok (.iaload, 1) := by decide +kernel
theorem dL_goesFirst_6 : decode cL_goesFirst 6 = .ok (.aload_n 0, 1) := by decide +kernel
theorem dL_goesFirst_7 : decode cL_goesFirst 7 = .ok (.getfield 15, 3) := by decide +kernel
theorem dL_goesFirst_10 : decode cL_goesFirst 10 = .ok (.iload_n 2, 1) := by decide +kernel
theorem dL_goesFirst_11 : decode cL_goesFirst 11 = .ok (.iaload, 1) := by decide +kernel
theorem dL_goesFirst_12 : decode cL_goesFirst 12 = .ok (.if_icmp .eq 24, 3) := by decide +kernel
theorem dL_goesFirst_15 : decode cL_goesFirst 15 = .ok (.aload_n 0, 1) := by decide +kernel
theorem dL_goesFirst_16 : decode cL_goesFirst 16 = .ok (.getfield 15, 3) := by decide +kernel
theorem dL_goesFirst_19 : decode cL_goesFirst 19 = .ok (.iload_n 1, 1) := by decide +kernel
theorem dL_goesFirst_20 : decode cL_goesFirst 20 = .ok (.iaload, 1) := by decide +kernel
theorem dL_goesFirst_21 : decode cL_goesFirst 21 = .ok (.aload_n 0, 1) := by decide +kernel
theorem dL_goesFirst_22 : decode cL_goesFirst 22 = .ok (.getfield 15, 3) := by decide +kernel
theorem dL_goesFirst_25 : decode cL_goesFirst 25 = .ok (.iload_n 2, 1) := by decide +kernel
theorem dL_goesFirst_26 : decode cL_goesFirst 26 = .ok (.iaload, 1) := by decide +kernel
theorem dL_goesFirst_27 : decode cL_goesFirst 27 = .ok (.if_icmp .le 7, 3) := by decide +kernel
theorem dL_goesFirst_30 : decode cL_goesFirst 30 = .ok (.iconst 1, 1) := by decide +kernel
theorem dL_goesFirst_31 : decode cL_goesFirst 31 = .ok (.goto 4, 3) := by decide +kernel
theorem dL_goesFirst_34 : decode cL_goesFirst 34 = .ok (.iconst 0, 1) := by decide +kernel
theorem dL_goesFirst_35 : decode cL_goesFirst 35 = .ok (.ireturn, 1) := by decide +kernel
theorem dL_goesFirst_36 : decode cL_goesFirst 36 = .ok (.aload_n 0, 1) := by decide +kernel
theorem dL_goesFirst_37 : decode cL_goesFirst 37 = .ok (.getfield 9, 3) := by decide +kernel
theorem dL_goesFirst_40 : decode cL_goesFirst 40 = .ok (.iload_n 1, 1) := by decide +kernel
theorem dL_goesFirst_41 : decode cL_goesFirst 41 = .ok (.iaload, 1) := by decide +kernel
theorem dL_goesFirst_42 : decode cL_goesFirst 42 = .ok (.aload_n 0, 1) := by decide +kernel
theorem dL_goesFirst_43 : decode cL_goesFirst 43 = .ok (.getfield 9, 3) := by decide +kernel
theorem dL_goesFirst_46 : decode cL_goesFirst 46 = .ok (.iload_n 2, 1) := by decide +kernel
theorem dL_goesFirst_47 : decode cL_goesFirst 47 = .ok (.iaload, 1) := by decide +kernel
theorem dL_goesFirst_48 : decode cL_goesFirst 48 = .ok (.if_icmp .le 7, 3) := by decide +kernel
theorem dL_goesFirst_51 : decode cL_goesFirst 51 = .ok (.iconst 1, 1) := by decide +kernel
theorem dL_goesFirst_52 : decode cL_goesFirst 52 = .ok (.goto 4, 3) := by decide +kernel
theorem dL_goesFirst_55 : decode cL_goesFirst 55 = .ok (.iconst 0, 1) := by decide +kernel
theorem dL_goesFirst_56 : decode cL_goesFirst 56 = .ok (.ireturn, 1) := by decide +kernel
theorem dL_clockOf_0 : decode cL_clockOf 0 = .ok (.aload_n 0, 1) := by decide +kernel
theorem dL_clockOf_1 : decode cL_clockOf 1 = .ok (.getfield 25, 3) := by decide +kernel
theorem dL_clockOf_4 : decode cL_clockOf 4 = .ok (.iload_n 1, 1) := by decide +kernel
theorem dL_clockOf_5 : decode cL_clockOf 5 = .ok (.iconst 3, 1) := by decide +kernel
theorem dL_clockOf_6 : decode cL_clockOf 6 = .ok (.imul, 1) := by decide +kernel
theorem dL_clockOf_7 : decode cL_clockOf 7 = .ok (.iload_n 2, 1) := by decide +kernel
theorem dL_clockOf_8 : decode cL_clockOf 8 = .ok (.iadd, 1) := by decide +kernel
theorem dL_clockOf_9 : decode cL_clockOf 9 = .ok (.iaload, 1) := by decide +kernel
theorem dL_clockOf_10 : decode cL_clockOf 10 = .ok (.ireturn, 1) := by decide +kernel
theorem dL_placeInLine_0 : decode cL_placeInLine 0 = .ok (.aload_n 0, 1) := by decide +kernel
theorem dL_placeInLine_1 : decode cL_placeInLine 1 = .ok (.iload_n 1, 1) := by decide +kernel
theorem dL_placeInLine_2 : decode cL_placeInLine 2 = .ok (.aload_n 0, 1) := by decide +kernel
theorem dL_placeInLine_3 : decode cL_placeInLine 3 = .ok (.getfield 9, 3) := by decide +kernel
theorem dL_placeInLine_6 : decode cL_placeInLine 6 = .ok (.iload_n 1, 1) := by decide +kernel
theorem dL_placeInLine_7 : decode cL_placeInLine 7 = .ok (.iaload, 1) := by decide +kernel
theorem dL_placeInLine_8 : decode cL_placeInLine 8 = .ok (.invokevirtual 35, 3) := by decide +kernel
theorem dL_placeInLine_11 : decode cL_placeInLine 11 = .ok (.ireturn, 1) := by decide +kernel
theorem dL_isErase_0 : decode cL_isErase 0 = .ok (.aload_n 0, 1) := by decide +kernel
theorem dL_isErase_1 : decode cL_isErase 1 = .ok (.getfield 21, 3) := by decide +kernel
theorem dL_isErase_4 : decode cL_isErase 4 = .ok (.iload_n 1, 1) := by decide +kernel
theorem dL_isErase_5 : decode cL_isErase 5 = .ok (.caload, 1) := by decide +kernel
theorem dL_isErase_6 : decode cL_isErase 6 = .ok (.ifCond .ne 7, 3) := by decide +kernel
theorem dL_isErase_9 : decode cL_isErase 9 = .ok (.iconst 1, 1) := by decide +kernel
theorem dL_isErase_10 : decode cL_isErase 10 = .ok (.goto 4, 3) := by decide +kernel
theorem dL_isErase_13 : decode cL_isErase 13 = .ok (.iconst 0, 1) := by decide +kernel
theorem dL_isErase_14 : decode cL_isErase 14 = .ok (.ireturn, 1) := by decide +kernel
theorem dL_isIssued_0 : decode cL_isIssued 0 = .ok (.iload_n 1, 1) := by decide +kernel
theorem dL_isIssued_1 : decode cL_isIssued 1 = .ok (.ifCond .lt 15, 3) := by decide +kernel
theorem dL_isIssued_4 : decode cL_isIssued 4 = .ok (.iload_n 1, 1) := by decide +kernel
theorem dL_isIssued_5 : decode cL_isIssued 5 = .ok (.aload_n 0, 1) := by decide +kernel
theorem dL_isIssued_6 : decode cL_isIssued 6 = .ok (.getfield 31, 3) := by decide +kernel
theorem dL_isIssued_9 : decode cL_isIssued 9 = .ok (.if_icmp .ge 7, 3) := by decide +kernel
theorem dL_isIssued_12 : decode cL_isIssued 12 = .ok (.iconst 1, 1) := by decide +kernel
theorem dL_isIssued_13 : decode cL_isIssued 13 = .ok (.goto 4, 3) := by decide +kernel
theorem dL_isIssued_16 : decode cL_isIssued 16 = .ok (.iconst 0, 1) := by decide +kernel
theorem dL_isIssued_17 : decode cL_isIssued 17 = .ok (.ireturn, 1) := by decide +kernel
