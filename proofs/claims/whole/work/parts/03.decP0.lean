theorem dP_init_0 : decode cP_init 0 = .ok (.aload_n 0, 1) := by decide +kernel
theorem dP_init_1 : decode cP_init 1 = .ok (.invokespecial 3, 3) := by decide +kernel
theorem dP_init_4 : decode cP_init 4 = .ok (.aload_n 0, 1) := by decide +kernel
theorem dP_init_5 : decode cP_init 5 = .ok (.iconst 3, 1) := by decide +kernel
theorem dP_init_6 : decode cP_init 6 = .ok (.iconst 3, 1) := by decide +kernel
theorem dP_init_7 : decode cP_init 7 = .ok (.multianewarray 9 2, 4) := by decide +kernel
theorem dP_init_11 : decode cP_init 11 = .ok (.putfield 11, 3) := by decide +kernel
theorem dP_init_14 : decode cP_init 14 = .ok (.aload_n 0, 1) := by decide +kernel
theorem dP_init_15 : decode cP_init 15 = .ok (.bipush 100, 2) := by decide +kernel
theorem dP_init_17 : decode cP_init 17 = .ok (.newarray .boolean, 2) := by decide +kernel
theorem dP_init_19 : decode cP_init 19 = .ok (.putfield 16, 3) := by decide +kernel
theorem dP_init_22 : decode cP_init 22 = .ok (.aload_n 0, 1) := by decide +kernel
theorem dP_init_23 : decode cP_init 23 = .ok (.bipush 100, 2) := by decide +kernel
theorem dP_init_25 : decode cP_init 25 = .ok (.newarray .boolean, 2) := by decide +kernel
theorem dP_init_27 : decode cP_init 27 = .ok (.putfield 20, 3) := by decide +kernel
theorem dP_init_30 : decode cP_init 30 = .ok (.aload_n 0, 1) := by decide +kernel
theorem dP_init_31 : decode cP_init 31 = .ok (.bipush 100, 2) := by decide +kernel
theorem dP_init_33 : decode cP_init 33 = .ok (.newarray .boolean, 2) := by decide +kernel
theorem dP_init_35 : decode cP_init 35 = .ok (.putfield 23, 3) := by decide +kernel
theorem dP_init_38 : decode cP_init 38 = .ok (.aload_n 0, 1) := by decide +kernel
theorem dP_init_39 : decode cP_init 39 = .ok (.bipush 100, 2) := by decide +kernel
theorem dP_init_41 : decode cP_init 41 = .ok (.newarray .boolean, 2) := by decide +kernel
theorem dP_init_43 : decode cP_init 43 = .ok (.putfield 26, 3) := by decide +kernel
theorem dP_init_46 : decode cP_init 46 = .ok (.aload_n 0, 1) := by decide +kernel
theorem dP_init_47 : decode cP_init 47 = .ok (.bipush 100, 2) := by decide +kernel
theorem dP_init_49 : decode cP_init 49 = .ok (.newarray .int, 2) := by decide +kernel
theorem dP_init_51 : decode cP_init 51 = .ok (.putfield 29, 3) := by decide +kernel
theorem dP_init_54 : decode cP_init 54 = .ok (.aload_n 0, 1) := by decide +kernel
theorem dP_init_55 : decode cP_init 55 = .ok (.iload_n 1, 1) := by decide +kernel
theorem dP_init_56 : decode cP_init 56 = .ok (.putfield 33, 3) := by decide +kernel
theorem dP_init_59 : decode cP_init 59 = .ok (.aload_n 0, 1) := by decide +kernel
theorem dP_init_60 : decode cP_init 60 = .ok (.aload_n 2, 1) := by decide +kernel
theorem dP_init_61 : decode cP_init 61 = .ok (.putfield 37, 3) := by decide +kernel
theorem dP_init_64 : decode cP_init 64 = .ok (.return_, 1) := by decide +kernel
theorem dP_elementBefore_0 : decode cP_elementBefore 0 = .ok (.iload_n 1, 1) := by decide +kernel
theorem dP_elementBefore_1 : decode cP_elementBefore 1 = .ok (.ifCond .ne 7, 3) := by decide +kernel
theorem dP_elementBefore_4 : decode cP_elementBefore 4 = .ok (.iconst (-1), 1) := by decide +kernel
theorem dP_elementBefore_5 : decode cP_elementBefore 5 = .ok (.goto 11, 3) := by decide +kernel
theorem dP_elementBefore_8 : decode cP_elementBefore 8 = .ok (.aload_n 0, 1) := by decide +kernel
theorem dP_elementBefore_9 : decode cP_elementBefore 9 = .ok (.getfield 29, 3) := by decide +kernel
theorem dP_elementBefore_12 : decode cP_elementBefore 12 = .ok (.iload_n 1, 1) := by decide +kernel
theorem dP_elementBefore_13 : decode cP_elementBefore 13 = .ok (.iconst 1, 1) := by decide +kernel
theorem dP_elementBefore_14 : decode cP_elementBefore 14 = .ok (.isub, 1) := by decide +kernel
theorem dP_elementBefore_15 : decode cP_elementBefore 15 = .ok (.iaload, 1) := by decide +kernel
theorem dP_elementBefore_16 : decode cP_elementBefore 16 = .ok (.ireturn, 1) := by decide +kernel
theorem dP_issue_0 : decode cP_issue 0 = .ok (.aload_n 0, 1) := by decide +kernel
theorem dP_issue_1 : decode cP_issue 1 = .ok (.getfield 37, 3) := by decide +kernel
theorem dP_issue_4 : decode cP_issue 4 = .ok (.aload_n 0, 1) := by decide +kernel
theorem dP_issue_5 : decode cP_issue 5 = .ok (.getfield 33, 3) := by decide +kernel
theorem dP_issue_8 : decode cP_issue 8 = .ok (.aload_n 0, 1) := by decide +kernel
theorem dP_issue_9 : decode cP_issue 9 = .ok (.getfield 57, 3) := by decide +kernel
theorem dP_issue_12 : decode cP_issue 12 = .ok (.iconst 1, 1) := by decide +kernel
theorem dP_issue_13 : decode cP_issue 13 = .ok (.iadd, 1) := by decide +kernel
theorem dP_issue_14 : decode cP_issue 14 = .ok (.aload_n 0, 1) := by decide +kernel
theorem dP_issue_15 : decode cP_issue 15 = .ok (.getfield 11, 3) := by decide +kernel
theorem dP_issue_18 : decode cP_issue 18 = .ok (.aload_n 0, 1) := by decide +kernel
theorem dP_issue_19 : decode cP_issue 19 = .ok (.getfield 33, 3) := by decide +kernel
theorem dP_issue_22 : decode cP_issue 22 = .ok (.aaload, 1) := by decide +kernel
theorem dP_issue_23 : decode cP_issue 23 = .ok (.iload_n 1, 1) := by decide +kernel
theorem dP_issue_24 : decode cP_issue 24 = .ok (.iload_n 2, 1) := by decide +kernel
theorem dP_issue_25 : decode cP_issue 25 = .ok (.invokevirtual 60, 3) := by decide +kernel
theorem dP_issue_28 : decode cP_issue 28 = .ok (.istore_n 3, 1) := by decide +kernel
theorem dP_issue_29 : decode cP_issue 29 = .ok (.aload_n 0, 1) := by decide +kernel
theorem dP_issue_30 : decode cP_issue 30 = .ok (.iload_n 3, 1) := by decide +kernel
theorem dP_issue_31 : decode cP_issue 31 = .ok (.invokevirtual 64, 3) := by decide +kernel
theorem dP_issue_34 : decode cP_issue 34 = .ok (.aload_n 0, 1) := by decide +kernel
theorem dP_issue_35 : decode cP_issue 35 = .ok (.invokevirtual 68, 3) := by decide +kernel
theorem dP_issue_38 : decode cP_issue 38 = .ok (.iload_n 3, 1) := by decide +kernel
theorem dP_issue_39 : decode cP_issue 39 = .ok (.ireturn, 1) := by decide +kernel
theorem dP_apply_0 : decode cP_apply 0 = .ok (.aload_n 0, 1) := by decide +kernel
theorem dP_apply_1 : decode cP_apply 1 = .ok (.getfield 37, 3) := by decide +kernel
theorem dP_apply_4 : decode cP_apply 4 = .ok (.getfield 54, 3) := by decide +kernel
theorem dP_apply_7 : decode cP_apply 7 = .ok (.iload_n 1, 1) := by decide +kernel
theorem dP_apply_8 : decode cP_apply 8 = .ok (.iaload, 1) := by decide +kernel
theorem dP_apply_9 : decode cP_apply 9 = .ok (.istore_n 2, 1) := by decide +kernel
theorem dP_apply_10 : decode cP_apply 10 = .ok (.iconst 0, 1) := by decide +kernel
theorem dP_apply_11 : decode cP_apply 11 = .ok (.istore_n 3, 1) := by decide +kernel
theorem dP_apply_12 : decode cP_apply 12 = .ok (.iload_n 3, 1) := by decide +kernel
theorem dP_apply_13 : decode cP_apply 13 = .ok (.iconst 3, 1) := by decide +kernel
theorem dP_apply_14 : decode cP_apply 14 = .ok (.if_icmp .ge 26, 3) := by decide +kernel
theorem dP_apply_17 : decode cP_apply 17 = .ok (.aload_n 0, 1) := by decide +kernel
theorem dP_apply_18 : decode cP_apply 18 = .ok (.getfield 11, 3) := by decide +kernel
theorem dP_apply_21 : decode cP_apply 21 = .ok (.iload_n 2, 1) := by decide +kernel
theorem dP_apply_22 : decode cP_apply 22 = .ok (.aaload, 1) := by decide +kernel
theorem dP_apply_23 : decode cP_apply 23 = .ok (.iload_n 3, 1) := by decide +kernel
theorem dP_apply_24 : decode cP_apply 24 = .ok (.aload_n 0, 1) := by decide +kernel
theorem dP_apply_25 : decode cP_apply 25 = .ok (.getfield 37, 3) := by decide +kernel
theorem dP_apply_28 : decode cP_apply 28 = .ok (.iload_n 1, 1) := by decide +kernel
theorem dP_apply_29 : decode cP_apply 29 = .ok (.iload_n 3, 1) := by decide +kernel
theorem dP_apply_30 : decode cP_apply 30 = .ok (.invokevirtual 87, 3) := by decide +kernel
theorem dP_apply_33 : decode cP_apply 33 = .ok (.iastore, 1) := by decide +kernel
theorem dP_apply_34 : decode cP_apply 34 = .ok (.iinc 3 1, 3) := by decide +kernel
theorem dP_apply_37 : decode cP_apply 37 = .ok (.goto (-25), 3) := by decide +kernel
theorem dP_apply_40 : decode cP_apply 40 = .ok (.aload_n 0, 1) := by decide +kernel
theorem dP_apply_41 : decode cP_apply 41 = .ok (.getfield 11, 3) := by decide +kernel
theorem dP_apply_44 : decode cP_apply 44 = .ok (.aload_n 0, 1) := by decide +kernel
theorem dP_apply_45 : decode cP_apply 45 = .ok (.getfield 33, 3) := by decide +kernel
theorem dP_apply_48 : decode cP_apply 48 = .ok (.aaload, 1) := by decide +kernel
theorem dP_apply_49 : decode cP_apply 49 = .ok (.iload_n 2, 1) := by decide +kernel
theorem dP_apply_50 : decode cP_apply 50 = .ok (.aload_n 0, 1) := by decide +kernel
theorem dP_apply_51 : decode cP_apply 51 = .ok (.getfield 37, 3) := by decide +kernel
theorem dP_apply_54 : decode cP_apply 54 = .ok (.iload_n 1, 1) := by decide +kernel
theorem dP_apply_55 : decode cP_apply 55 = .ok (.invokevirtual 50, 3) := by decide +kernel
theorem dP_apply_58 : decode cP_apply 58 = .ok (.iastore, 1) := by decide +kernel
theorem dP_apply_59 : decode cP_apply 59 = .ok (.aload_n 0, 1) := by decide +kernel
theorem dP_apply_60 : decode cP_apply 60 = .ok (.aload_n 0, 1) := by decide +kernel
theorem dP_apply_61 : decode cP_apply 61 = .ok (.getfield 57, 3) := by decide +kernel
theorem dP_apply_64 : decode cP_apply 64 = .ok (.aload_n 0, 1) := by decide +kernel
theorem dP_apply_65 : decode cP_apply 65 = .ok (.getfield 37, 3) := by decide +kernel
theorem dP_apply_68 : decode cP_apply 68 = .ok (.getfield 91, 3) := by decide +kernel
theorem dP_apply_71 : decode cP_apply 71 = .ok (.iload_n 1, 1) := by decide +kernel
theorem dP_apply_72 : decode cP_apply 72 = .ok (.iaload, 1) := by decide +kernel
theorem dP_apply_73 : decode cP_apply 73 = .ok (.invokestatic 94, 3) := by decide +kernel
theorem dP_apply_76 : decode cP_apply 76 = .ok (.putfield 57, 3) := by decide +kernel
theorem dP_apply_79 : decode cP_apply 79 = .ok (.aload_n 0, 1) := by decide +kernel
theorem dP_apply_80 : decode cP_apply 80 = .ok (.getfield 37, 3) := by decide +kernel
theorem dP_apply_83 : decode cP_apply 83 = .ok (.iload_n 1, 1) := by decide +kernel
theorem dP_apply_84 : decode cP_apply 84 = .ok (.invokevirtual 99, 3) := by decide +kernel
theorem dP_apply_87 : decode cP_apply 87 = .ok (.ifCond .eq 21, 3) := by decide +kernel
theorem dP_apply_90 : decode cP_apply 90 = .ok (.aload_n 0, 1) := by decide +kernel
theorem dP_apply_91 : decode cP_apply 91 = .ok (.getfield 20, 3) := by decide +kernel
theorem dP_apply_94 : decode cP_apply 94 = .ok (.aload_n 0, 1) := by decide +kernel
theorem dP_apply_95 : decode cP_apply 95 = .ok (.getfield 37, 3) := by decide +kernel
theorem dP_apply_98 : decode cP_apply 98 = .ok (.getfield 102, 3) := by decide +kernel
theorem dP_apply_101 : decode cP_apply 101 = .ok (.iload_n 1, 1) := by decide +kernel
theorem dP_apply_102 : decode cP_apply 102 = .ok (.iaload, 1) := by decide +kernel
theorem dP_apply_103 : decode cP_apply 103 = .ok (.iconst 1, 1) := by decide +kernel
theorem dP_apply_104 : decode cP_apply 104 = .ok (.bastore, 1) := by decide +kernel
theorem dP_apply_105 : decode cP_apply 105 = .ok (.goto 20, 3) := by decide +kernel
theorem dP_apply_108 : decode cP_apply 108 = .ok (.aload_n 0, 1) := by decide +kernel
theorem dP_apply_109 : decode cP_apply 109 = .ok (.getfield 23, 3) := by decide +kernel
theorem dP_apply_112 : decode cP_apply 112 = .ok (.iload_n 1, 1) := by decide +kernel
theorem dP_apply_113 : decode cP_apply 113 = .ok (.iconst 1, 1) := by decide +kernel
theorem dP_apply_114 : decode cP_apply 114 = .ok (.bastore, 1) := by decide +kernel
theorem dP_apply_115 : decode cP_apply 115 = .ok (.aload_n 0, 1) := by decide +kernel
theorem dP_apply_116 : decode cP_apply 116 = .ok (.dup, 1) := by decide +kernel
theorem dP_apply_117 : decode cP_apply 117 = .ok (.getfield 105, 3) := by decide +kernel
theorem dP_apply_120 : decode cP_apply 120 = .ok (.iconst 1, 1) := by decide +kernel
theorem dP_apply_121 : decode cP_apply 121 = .ok (.iadd, 1) := by decide +kernel
theorem dP_apply_122 : decode cP_apply 122 = .ok (.putfield 105, 3) := by decide +kernel
theorem dP_apply_125 : decode cP_apply 125 = .ok (.return_, 1) := by decide +kernel
theorem dP_rewriteText_0 : decode cP_rewriteText 0 = .ok (.aload_n 0, 1) := by decide +kernel
theorem dP_rewriteText_1 : decode cP_rewriteText 1 = .ok (.iconst 0, 1) := by decide +kernel
theorem dP_rewriteText_2 : decode cP_rewriteText 2 = .ok (.putfield 41, 3) := by decide +kernel
theorem dP_rewriteText_5 : decode cP_rewriteText 5 = .ok (.iconst 0, 1) := by decide +kernel
theorem dP_rewriteText_6 : decode cP_rewriteText 6 = .ok (.istore_n 1, 1) := by decide +kernel
theorem dP_rewriteText_7 : decode cP_rewriteText 7 = .ok (.iload_n 1, 1) := by decide +kernel
theorem dP_rewriteText_8 : decode cP_rewriteText 8 = .ok (.aload_n 0, 1) := by decide +kernel
theorem dP_rewriteText_9 : decode cP_rewriteText 9 = .ok (.getfield 37, 3) := by decide +kernel
theorem dP_rewriteText_12 : decode cP_rewriteText 12 = .ok (.getfield 108, 3) := by decide +kernel
theorem dP_rewriteText_15 : decode cP_rewriteText 15 = .ok (.if_icmp .ge 56, 3) := by decide +kernel
theorem dP_rewriteText_18 : decode cP_rewriteText 18 = .ok (.aload_n 0, 1) := by decide +kernel
theorem dP_rewriteText_19 : decode cP_rewriteText 19 = .ok (.getfield 37, 3) := by decide +kernel
theorem dP_rewriteText_22 : decode cP_rewriteText 22 = .ok (.getfield 111, 3) := by decide +kernel
theorem dP_rewriteText_25 : decode cP_rewriteText 25 = .ok (.iload_n 1, 1) := by decide +kernel
theorem dP_rewriteText_26 : decode cP_rewriteText 26 = .ok (.iaload, 1) := by decide +kernel
theorem dP_rewriteText_27 : decode cP_rewriteText 27 = .ok (.istore_n 2, 1) := by decide +kernel
theorem dP_rewriteText_28 : decode cP_rewriteText 28 = .ok (.aload_n 0, 1) := by decide +kernel
theorem dP_rewriteText_29 : decode cP_rewriteText 29 = .ok (.iload_n 2, 1) := by decide +kernel
theorem dP_rewriteText_30 : decode cP_rewriteText 30 = .ok (.invokevirtual 71, 3) := by decide +kernel
theorem dP_rewriteText_33 : decode cP_rewriteText 33 = .ok (.ifCond .eq 32, 3) := by decide +kernel
theorem dP_rewriteText_36 : decode cP_rewriteText 36 = .ok (.aload_n 0, 1) := by decide +kernel
theorem dP_rewriteText_37 : decode cP_rewriteText 37 = .ok (.getfield 20, 3) := by decide +kernel
theorem dP_rewriteText_40 : decode cP_rewriteText 40 = .ok (.iload_n 2, 1) := by decide +kernel
theorem dP_rewriteText_41 : decode cP_rewriteText 41 = .ok (.baload, 1) := by decide +kernel
theorem dP_rewriteText_42 : decode cP_rewriteText 42 = .ok (.ifCond .ne 23, 3) := by decide +kernel
theorem dP_rewriteText_45 : decode cP_rewriteText 45 = .ok (.aload_n 0, 1) := by decide +kernel
theorem dP_rewriteText_46 : decode cP_rewriteText 46 = .ok (.getfield 29, 3) := by decide +kernel
theorem dP_rewriteText_49 : decode cP_rewriteText 49 = .ok (.aload_n 0, 1) := by decide +kernel
theorem dP_rewriteText_50 : decode cP_rewriteText 50 = .ok (.getfield 41, 3) := by decide +kernel
theorem dP_rewriteText_53 : decode cP_rewriteText 53 = .ok (.iload_n 2, 1) := by decide +kernel
theorem dP_rewriteText_54 : decode cP_rewriteText 54 = .ok (.iastore, 1) := by decide +kernel
theorem dP_rewriteText_55 : decode cP_rewriteText 55 = .ok (.aload_n 0, 1) := by decide +kernel
theorem dP_rewriteText_56 : decode cP_rewriteText 56 = .ok (.dup, 1) := by decide +kernel
theorem dP_rewriteText_57 : decode cP_rewriteText 57 = .ok (.getfield 41, 3) := by decide +kernel
theorem dP_rewriteText_60 : decode cP_rewriteText 60 = .ok (.iconst 1, 1) := by decide +kernel
theorem dP_rewriteText_61 : decode cP_rewriteText 61 = .ok (.iadd, 1) := by decide +kernel
theorem dP_rewriteText_62 : decode cP_rewriteText 62 = .ok (.putfield 41, 3) := by decide +kernel
theorem dP_rewriteText_65 : decode cP_rewriteText 65 = .ok (.iinc 1 1, 3) := by decide +kernel
theorem dP_rewriteText_68 : decode cP_rewriteText 68 = .ok (.goto (-61), 3) := by decide +kernel
theorem dP_rewriteText_71 : decode cP_rewriteText 71 = .ok (.return_, 1) := by decide +kernel
theorem dP_hasApplied_0 : decode cP_hasApplied 0 = .ok (.aload_n 0, 1) := by decide +kernel
theorem dP_hasApplied_1 : decode cP_hasApplied 1 = .ok (.getfield 37, 3) := by decide +kernel
theorem dP_hasApplied_4 : decode cP_hasApplied 4 = .ok (.iload_n 1, 1) := by decide +kernel
theorem dP_hasApplied_5 : decode cP_hasApplied 5 = .ok (.invokevirtual 50, 3) := by decide +kernel
theorem dP_hasApplied_8 : decode cP_hasApplied 8 = .ok (.aload_n 0, 1) := by decide +kernel
theorem dP_hasApplied_9 : decode cP_hasApplied 9 = .ok (.getfield 11, 3) := by decide +kernel
theorem dP_hasApplied_12 : decode cP_hasApplied 12 = .ok (.aload_n 0, 1) := by decide +kernel
theorem dP_hasApplied_13 : decode cP_hasApplied 13 = .ok (.getfield 33, 3) := by decide +kernel
theorem dP_hasApplied_16 : decode cP_hasApplied 16 = .ok (.aaload, 1) := by decide +kernel
theorem dP_hasApplied_17 : decode cP_hasApplied 17 = .ok (.aload_n 0, 1) := by decide +kernel
theorem dP_hasApplied_18 : decode cP_hasApplied 18 = .ok (.getfield 37, 3) := by decide +kernel
theorem dP_hasApplied_21 : decode cP_hasApplied 21 = .ok (.getfield 54, 3) := by decide +kernel
theorem dP_hasApplied_24 : decode cP_hasApplied 24 = .ok (.iload_n 1, 1) := by decide +kernel
theorem dP_hasApplied_25 : decode cP_hasApplied 25 = .ok (.iaload, 1) := by decide +kernel
theorem dP_hasApplied_26 : decode cP_hasApplied 26 = .ok (.iaload, 1) := by decide +kernel
theorem dP_hasApplied_27 : decode cP_hasApplied 27 = .ok (.if_icmp .gt 7, 3) := by decide +kernel
theorem dP_hasApplied_30 : decode cP_hasApplied 30 = .ok (.iconst 1, 1) := by decide +kernel
theorem dP_hasApplied_31 : decode cP_hasApplied 31 = .ok (.goto 4, 3) := by decide +kernel
theorem dP_hasApplied_34 : decode cP_hasApplied 34 = .ok (.iconst 0, 1) := by decide +kernel
theorem dP_hasApplied_35 : decode cP_hasApplied 35 = .ok (.ireturn, 1) := by decide +kernel
theorem dP_elementAt_0 : decode cP_elementAt 0 = .ok (.iload_n 1, 1) := by decide +kernel
theorem dP_elementAt_1 : decode cP_elementAt 1 = .ok (.ifCond .lt 20, 3) := by decide +kernel
theorem dP_elementAt_4 : decode cP_elementAt 4 = .ok (.iload_n 1, 1) := by decide +kernel
theorem dP_elementAt_5 : decode cP_elementAt 5 = .ok (.aload_n 0, 1) := by decide +kernel
theorem dP_elementAt_6 : decode cP_elementAt 6 = .ok (.getfield 41, 3) := by decide +kernel
theorem dP_elementAt_9 : decode cP_elementAt 9 = .ok (.if_icmp .ge 12, 3) := by decide +kernel
theorem dP_elementAt_12 : decode cP_elementAt 12 = .ok (.aload_n 0, 1) := by decide +kernel
theorem dP_elementAt_13 : decode cP_elementAt 13 = .ok (.getfield 29, 3) := by decide +kernel
theorem dP_elementAt_16 : decode cP_elementAt 16 = .ok (.iload_n 1, 1) := by decide +kernel
theorem dP_elementAt_17 : decode cP_elementAt 17 = .ok (.iaload, 1) := by decide +kernel
theorem dP_elementAt_18 : decode cP_elementAt 18 = .ok (.goto 4, 3) := by decide +kernel
theorem dP_elementAt_21 : decode cP_elementAt 21 = .ok (.iconst (-1), 1) := by decide +kernel
theorem dP_elementAt_22 : decode cP_elementAt 22 = .ok (.ireturn, 1) := by decide +kernel
theorem dP_receive_0 : decode cP_receive 0 = .ok (.aload_n 0, 1) := by decide +kernel
theorem dP_receive_1 : decode cP_receive 1 = .ok (.iload_n 1, 1) := by decide +kernel
theorem dP_receive_2 : decode cP_receive 2 = .ok (.invokevirtual 71, 3) := by decide +kernel
theorem dP_receive_5 : decode cP_receive 5 = .ok (.ifCond .ne 29, 3) := by decide +kernel
theorem dP_receive_8 : decode cP_receive 8 = .ok (.aload_n 0, 1) := by decide +kernel
theorem dP_receive_9 : decode cP_receive 9 = .ok (.getfield 16, 3) := by decide +kernel
theorem dP_receive_12 : decode cP_receive 12 = .ok (.iload_n 1, 1) := by decide +kernel
theorem dP_receive_13 : decode cP_receive 13 = .ok (.baload, 1) := by decide +kernel
theorem dP_receive_14 : decode cP_receive 14 = .ok (.ifCond .ne 20, 3) := by decide +kernel
theorem dP_receive_17 : decode cP_receive 17 = .ok (.aload_n 0, 1) := by decide +kernel
theorem dP_receive_18 : decode cP_receive 18 = .ok (.getfield 16, 3) := by decide +kernel
theorem dP_receive_21 : decode cP_receive 21 = .ok (.iload_n 1, 1) := by decide +kernel
theorem dP_receive_22 : decode cP_receive 22 = .ok (.iconst 1, 1) := by decide +kernel
theorem dP_receive_23 : decode cP_receive 23 = .ok (.bastore, 1) := by decide +kernel
theorem dP_receive_24 : decode cP_receive 24 = .ok (.aload_n 0, 1) := by decide +kernel
theorem dP_receive_25 : decode cP_receive 25 = .ok (.dup, 1) := by decide +kernel
theorem dP_receive_26 : decode cP_receive 26 = .ok (.getfield 75, 3) := by decide +kernel
theorem dP_receive_29 : decode cP_receive 29 = .ok (.iconst 1, 1) := by decide +kernel
theorem dP_receive_30 : decode cP_receive 30 = .ok (.iadd, 1) := by decide +kernel
theorem dP_receive_31 : decode cP_receive 31 = .ok (.putfield 75, 3) := by decide +kernel
theorem dP_receive_34 : decode cP_receive 34 = .ok (.return_, 1) := by decide +kernel
theorem dP_applyReady_0 : decode cP_applyReady 0 = .ok (.iconst 0, 1) := by decide +kernel
theorem dP_applyReady_1 : decode cP_applyReady 1 = .ok (.istore_n 1, 1) := by decide +kernel
theorem dP_applyReady_2 : decode cP_applyReady 2 = .ok (.iconst 0, 1) := by decide +kernel
theorem dP_applyReady_3 : decode cP_applyReady 3 = .ok (.istore_n 2, 1) := by decide +kernel
theorem dP_applyReady_4 : decode cP_applyReady 4 = .ok (.iload_n 2, 1) := by decide +kernel
theorem dP_applyReady_5 : decode cP_applyReady 5 = .ok (.aload_n 0, 1) := by decide +kernel
theorem dP_applyReady_6 : decode cP_applyReady 6 = .ok (.getfield 37, 3) := by decide +kernel
theorem dP_applyReady_9 : decode cP_applyReady 9 = .ok (.getfield 78, 3) := by decide +kernel
theorem dP_applyReady_12 : decode cP_applyReady 12 = .ok (.if_icmp .ge 51, 3) := by decide +kernel
theorem dP_applyReady_15 : decode cP_applyReady 15 = .ok (.aload_n 0, 1) := by decide +kernel
theorem dP_applyReady_16 : decode cP_applyReady 16 = .ok (.getfield 16, 3) := by decide +kernel
theorem dP_applyReady_19 : decode cP_applyReady 19 = .ok (.iload_n 2, 1) := by decide +kernel
theorem dP_applyReady_20 : decode cP_applyReady 20 = .ok (.baload, 1) := by decide +kernel
theorem dP_applyReady_21 : decode cP_applyReady 21 = .ok (.ifCond .eq 36, 3) := by decide +kernel
theorem dP_applyReady_24 : decode cP_applyReady 24 = .ok (.aload_n 0, 1) := by decide +kernel
theorem dP_applyReady_25 : decode cP_applyReady 25 = .ok (.iload_n 2, 1) := by decide +kernel
theorem dP_applyReady_26 : decode cP_applyReady 26 = .ok (.invokevirtual 84, 3) := by decide +kernel
theorem dP_applyReady_29 : decode cP_applyReady 29 = .ok (.ifCond .eq 28, 3) := by decide +kernel
theorem dP_applyReady_32 : decode cP_applyReady 32 = .ok (.aload_n 0, 1) := by decide +kernel
theorem dP_applyReady_33 : decode cP_applyReady 33 = .ok (.getfield 16, 3) := by decide +kernel
theorem dP_applyReady_36 : decode cP_applyReady 36 = .ok (.iload_n 2, 1) := by decide +kernel
theorem dP_applyReady_37 : decode cP_applyReady 37 = .ok (.iconst 0, 1) := by decide +kernel
theorem dP_applyReady_38 : decode cP_applyReady 38 = .ok (.bastore, 1) := by decide +kernel
theorem dP_applyReady_39 : decode cP_applyReady 39 = .ok (.aload_n 0, 1) := by decide +kernel
theorem dP_applyReady_40 : decode cP_applyReady 40 = .ok (.dup, 1) := by decide +kernel
theorem dP_applyReady_41 : decode cP_applyReady 41 = .ok (.getfield 75, 3) := by decide +kernel
theorem dP_applyReady_44 : decode cP_applyReady 44 = .ok (.iconst 1, 1) := by decide +kernel
theorem dP_applyReady_45 : decode cP_applyReady 45 = .ok (.isub, 1) := by decide +kernel
theorem dP_applyReady_46 : decode cP_applyReady 46 = .ok (.putfield 75, 3) := by decide +kernel
theorem dP_applyReady_49 : decode cP_applyReady 49 = .ok (.aload_n 0, 1) := by decide +kernel
theorem dP_applyReady_50 : decode cP_applyReady 50 = .ok (.iload_n 2, 1) := by decide +kernel
theorem dP_applyReady_51 : decode cP_applyReady 51 = .ok (.invokevirtual 64, 3) := by decide +kernel
theorem dP_applyReady_54 : decode cP_applyReady 54 = .ok (.iinc 1 1, 3) := by decide +kernel
theorem dP_applyReady_57 : decode cP_applyReady 57 = .ok (.iinc 2 1, 3) := by decide +kernel
theorem dP_applyReady_60 : decode cP_applyReady 60 = .ok (.goto (-56), 3) := by decide +kernel
theorem dP_applyReady_63 : decode cP_applyReady 63 = .ok (.iload_n 1, 1) := by decide +kernel
theorem dP_applyReady_64 : decode cP_applyReady 64 = .ok (.ifCond .le 7, 3) := by decide +kernel
theorem dP_applyReady_67 : decode cP_applyReady 67 = .ok (.aload_n 0, 1) := by decide +kernel
theorem dP_applyReady_68 : decode cP_applyReady 68 = .ok (.invokevirtual 68, 3) := by decide +kernel
theorem dP_applyReady_71 : decode cP_applyReady 71 = .ok (.iload_n 1, 1) := by decide +kernel
theorem dP_applyReady_72 : decode cP_applyReady 72 = .ok (.ireturn, 1) := by decide +kernel
theorem dP_isReady_0 : decode cP_isReady 0 = .ok (.aload_n 0, 1) := by decide +kernel
theorem dP_isReady_1 : decode cP_isReady 1 = .ok (.getfield 37, 3) := by decide +kernel
theorem dP_isReady_4 : decode cP_isReady 4 = .ok (.getfield 54, 3) := by decide +kernel
theorem dP_isReady_7 : decode cP_isReady 7 = .ok (.iload_n 1, 1) := by decide +kernel
