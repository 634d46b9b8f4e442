theorem dP_isReady_8 : decode cP_isReady 8 = .ok (.iaload, 1) := by decide +kernel
theorem dP_isReady_9 : decode cP_isReady 9 = .ok (.istore_n 2, 1) := by decide +kernel
theorem dP_isReady_10 : decode cP_isReady 10 = .ok (.aload_n 0, 1) := by decide +kernel
theorem dP_isReady_11 : decode cP_isReady 11 = .ok (.getfield 11, 3) := by decide +kernel
theorem dP_isReady_14 : decode cP_isReady 14 = .ok (.aload_n 0, 1) := by decide +kernel
theorem dP_isReady_15 : decode cP_isReady 15 = .ok (.getfield 33, 3) := by decide +kernel
theorem dP_isReady_18 : decode cP_isReady 18 = .ok (.aaload, 1) := by decide +kernel
theorem dP_isReady_19 : decode cP_isReady 19 = .ok (.iload_n 2, 1) := by decide +kernel
theorem dP_isReady_20 : decode cP_isReady 20 = .ok (.iaload, 1) := by decide +kernel
theorem dP_isReady_21 : decode cP_isReady 21 = .ok (.aload_n 0, 1) := by decide +kernel
theorem dP_isReady_22 : decode cP_isReady 22 = .ok (.getfield 37, 3) := by decide +kernel
theorem dP_isReady_25 : decode cP_isReady 25 = .ok (.iload_n 1, 1) := by decide +kernel
theorem dP_isReady_26 : decode cP_isReady 26 = .ok (.invokevirtual 50, 3) := by decide +kernel
theorem dP_isReady_29 : decode cP_isReady 29 = .ok (.iconst 1, 1) := by decide +kernel
theorem dP_isReady_30 : decode cP_isReady 30 = .ok (.isub, 1) := by decide +kernel
theorem dP_isReady_31 : decode cP_isReady 31 = .ok (.if_icmp .eq 5, 3) := by decide +kernel
theorem dP_isReady_34 : decode cP_isReady 34 = .ok (.iconst 0, 1) := by decide +kernel
theorem dP_isReady_35 : decode cP_isReady 35 = .ok (.ireturn, 1) := by decide +kernel
theorem dP_isReady_36 : decode cP_isReady 36 = .ok (.iconst 0, 1) := by decide +kernel
theorem dP_isReady_37 : decode cP_isReady 37 = .ok (.istore_n 3, 1) := by decide +kernel
theorem dP_isReady_38 : decode cP_isReady 38 = .ok (.iload_n 3, 1) := by decide +kernel
theorem dP_isReady_39 : decode cP_isReady 39 = .ok (.iconst 3, 1) := by decide +kernel
theorem dP_isReady_40 : decode cP_isReady 40 = .ok (.if_icmp .ge 39, 3) := by decide +kernel
theorem dP_isReady_43 : decode cP_isReady 43 = .ok (.iload_n 3, 1) := by decide +kernel
theorem dP_isReady_44 : decode cP_isReady 44 = .ok (.iload_n 2, 1) := by decide +kernel
theorem dP_isReady_45 : decode cP_isReady 45 = .ok (.if_icmp .eq 28, 3) := by decide +kernel
theorem dP_isReady_48 : decode cP_isReady 48 = .ok (.aload_n 0, 1) := by decide +kernel
theorem dP_isReady_49 : decode cP_isReady 49 = .ok (.getfield 11, 3) := by decide +kernel
theorem dP_isReady_52 : decode cP_isReady 52 = .ok (.aload_n 0, 1) := by decide +kernel
theorem dP_isReady_53 : decode cP_isReady 53 = .ok (.getfield 33, 3) := by decide +kernel
theorem dP_isReady_56 : decode cP_isReady 56 = .ok (.aaload, 1) := by decide +kernel
theorem dP_isReady_57 : decode cP_isReady 57 = .ok (.iload_n 3, 1) := by decide +kernel
theorem dP_isReady_58 : decode cP_isReady 58 = .ok (.iaload, 1) := by decide +kernel
theorem dP_isReady_59 : decode cP_isReady 59 = .ok (.aload_n 0, 1) := by decide +kernel
theorem dP_isReady_60 : decode cP_isReady 60 = .ok (.getfield 37, 3) := by decide +kernel
theorem dP_isReady_63 : decode cP_isReady 63 = .ok (.iload_n 1, 1) := by decide +kernel
theorem dP_isReady_64 : decode cP_isReady 64 = .ok (.iload_n 3, 1) := by decide +kernel
theorem dP_isReady_65 : decode cP_isReady 65 = .ok (.invokevirtual 87, 3) := by decide +kernel
theorem dP_isReady_68 : decode cP_isReady 68 = .ok (.if_icmp .ge 5, 3) := by decide +kernel
theorem dP_isReady_71 : decode cP_isReady 71 = .ok (.iconst 0, 1) := by decide +kernel
theorem dP_isReady_72 : decode cP_isReady 72 = .ok (.ireturn, 1) := by decide +kernel
theorem dP_isReady_73 : decode cP_isReady 73 = .ok (.iinc 3 1, 3) := by decide +kernel
theorem dP_isReady_76 : decode cP_isReady 76 = .ok (.goto (-38), 3) := by decide +kernel
theorem dP_isReady_79 : decode cP_isReady 79 = .ok (.iconst 1, 1) := by decide +kernel
theorem dP_isReady_80 : decode cP_isReady 80 = .ok (.ireturn, 1) := by decide +kernel
theorem dP_receiveAllOf_0 : decode cP_receiveAllOf 0 = .ok (.iconst 0, 1) := by decide +kernel
theorem dP_receiveAllOf_1 : decode cP_receiveAllOf 1 = .ok (.istore_n 2, 1) := by decide +kernel
theorem dP_receiveAllOf_2 : decode cP_receiveAllOf 2 = .ok (.iload_n 2, 1) := by decide +kernel
theorem dP_receiveAllOf_3 : decode cP_receiveAllOf 3 = .ok (.aload_n 0, 1) := by decide +kernel
theorem dP_receiveAllOf_4 : decode cP_receiveAllOf 4 = .ok (.getfield 37, 3) := by decide +kernel
theorem dP_receiveAllOf_7 : decode cP_receiveAllOf 7 = .ok (.getfield 78, 3) := by decide +kernel
theorem dP_receiveAllOf_10 : decode cP_receiveAllOf 10 = .ok (.if_icmp .ge 22, 3) := by decide +kernel
theorem dP_receiveAllOf_13 : decode cP_receiveAllOf 13 = .ok (.aload_n 1, 1) := by decide +kernel
theorem dP_receiveAllOf_14 : decode cP_receiveAllOf 14 = .ok (.iload_n 2, 1) := by decide +kernel
theorem dP_receiveAllOf_15 : decode cP_receiveAllOf 15 = .ok (.invokevirtual 71, 3) := by decide +kernel
theorem dP_receiveAllOf_18 : decode cP_receiveAllOf 18 = .ok (.ifCond .eq 8, 3) := by decide +kernel
theorem dP_receiveAllOf_21 : decode cP_receiveAllOf 21 = .ok (.aload_n 0, 1) := by decide +kernel
theorem dP_receiveAllOf_22 : decode cP_receiveAllOf 22 = .ok (.iload_n 2, 1) := by decide +kernel
theorem dP_receiveAllOf_23 : decode cP_receiveAllOf 23 = .ok (.invokevirtual 81, 3) := by decide +kernel
theorem dP_receiveAllOf_26 : decode cP_receiveAllOf 26 = .ok (.iinc 2 1, 3) := by decide +kernel
theorem dP_receiveAllOf_29 : decode cP_receiveAllOf 29 = .ok (.goto (-27), 3) := by decide +kernel
theorem dP_receiveAllOf_32 : decode cP_receiveAllOf 32 = .ok (.return_, 1) := by decide +kernel
theorem dP_dropErased_0 : decode cP_dropErased 0 = .ok (.aload_n 0, 1) := by decide +kernel
theorem dP_dropErased_1 : decode cP_dropErased 1 = .ok (.invokevirtual 114, 3) := by decide +kernel
theorem dP_dropErased_4 : decode cP_dropErased 4 = .ok (.iconst 0, 1) := by decide +kernel
theorem dP_dropErased_5 : decode cP_dropErased 5 = .ok (.istore_n 1, 1) := by decide +kernel
theorem dP_dropErased_6 : decode cP_dropErased 6 = .ok (.iconst 0, 1) := by decide +kernel
theorem dP_dropErased_7 : decode cP_dropErased 7 = .ok (.istore_n 2, 1) := by decide +kernel
theorem dP_dropErased_8 : decode cP_dropErased 8 = .ok (.iload_n 2, 1) := by decide +kernel
theorem dP_dropErased_9 : decode cP_dropErased 9 = .ok (.aload_n 0, 1) := by decide +kernel
theorem dP_dropErased_10 : decode cP_dropErased 10 = .ok (.getfield 37, 3) := by decide +kernel
theorem dP_dropErased_13 : decode cP_dropErased 13 = .ok (.getfield 78, 3) := by decide +kernel
theorem dP_dropErased_16 : decode cP_dropErased 16 = .ok (.if_icmp .ge 37, 3) := by decide +kernel
theorem dP_dropErased_19 : decode cP_dropErased 19 = .ok (.aload_n 0, 1) := by decide +kernel
theorem dP_dropErased_20 : decode cP_dropErased 20 = .ok (.getfield 26, 3) := by decide +kernel
theorem dP_dropErased_23 : decode cP_dropErased 23 = .ok (.iload_n 2, 1) := by decide +kernel
theorem dP_dropErased_24 : decode cP_dropErased 24 = .ok (.baload, 1) := by decide +kernel
theorem dP_dropErased_25 : decode cP_dropErased 25 = .ok (.ifCond .eq 22, 3) := by decide +kernel
theorem dP_dropErased_28 : decode cP_dropErased 28 = .ok (.aload_n 0, 1) := by decide +kernel
theorem dP_dropErased_29 : decode cP_dropErased 29 = .ok (.getfield 23, 3) := by decide +kernel
theorem dP_dropErased_32 : decode cP_dropErased 32 = .ok (.iload_n 2, 1) := by decide +kernel
theorem dP_dropErased_33 : decode cP_dropErased 33 = .ok (.baload, 1) := by decide +kernel
theorem dP_dropErased_34 : decode cP_dropErased 34 = .ok (.ifCond .eq 13, 3) := by decide +kernel
theorem dP_dropErased_37 : decode cP_dropErased 37 = .ok (.aload_n 0, 1) := by decide +kernel
theorem dP_dropErased_38 : decode cP_dropErased 38 = .ok (.getfield 23, 3) := by decide +kernel
theorem dP_dropErased_41 : decode cP_dropErased 41 = .ok (.iload_n 2, 1) := by decide +kernel
theorem dP_dropErased_42 : decode cP_dropErased 42 = .ok (.iconst 0, 1) := by decide +kernel
theorem dP_dropErased_43 : decode cP_dropErased 43 = .ok (.bastore, 1) := by decide +kernel
theorem dP_dropErased_44 : decode cP_dropErased 44 = .ok (.iinc 1 1, 3) := by decide +kernel
theorem dP_dropErased_47 : decode cP_dropErased 47 = .ok (.iinc 2 1, 3) := by decide +kernel
theorem dP_dropErased_50 : decode cP_dropErased 50 = .ok (.goto (-42), 3) := by decide +kernel
theorem dP_dropErased_53 : decode cP_dropErased 53 = .ok (.aload_n 0, 1) := by decide +kernel
theorem dP_dropErased_54 : decode cP_dropErased 54 = .ok (.dup, 1) := by decide +kernel
theorem dP_dropErased_55 : decode cP_dropErased 55 = .ok (.getfield 105, 3) := by decide +kernel
theorem dP_dropErased_58 : decode cP_dropErased 58 = .ok (.iload_n 1, 1) := by decide +kernel
theorem dP_dropErased_59 : decode cP_dropErased 59 = .ok (.isub, 1) := by decide +kernel
theorem dP_dropErased_60 : decode cP_dropErased 60 = .ok (.putfield 105, 3) := by decide +kernel
theorem dP_dropErased_63 : decode cP_dropErased 63 = .ok (.iload_n 1, 1) := by decide +kernel
theorem dP_dropErased_64 : decode cP_dropErased 64 = .ok (.ireturn, 1) := by decide +kernel
theorem dP_markWhatMayGo_0 : decode cP_markWhatMayGo 0 = .ok (.iconst 0, 1) := by decide +kernel
theorem dP_markWhatMayGo_1 : decode cP_markWhatMayGo 1 = .ok (.istore_n 1, 1) := by decide +kernel
theorem dP_markWhatMayGo_2 : decode cP_markWhatMayGo 2 = .ok (.iload_n 1, 1) := by decide +kernel
theorem dP_markWhatMayGo_3 : decode cP_markWhatMayGo 3 = .ok (.aload_n 0, 1) := by decide +kernel
theorem dP_markWhatMayGo_4 : decode cP_markWhatMayGo 4 = .ok (.getfield 37, 3) := by decide +kernel
theorem dP_markWhatMayGo_7 : decode cP_markWhatMayGo 7 = .ok (.getfield 78, 3) := by decide +kernel
theorem dP_markWhatMayGo_10 : decode cP_markWhatMayGo 10 = .ok (.if_icmp .ge 50, 3) := by decide +kernel
theorem dP_markWhatMayGo_13 : decode cP_markWhatMayGo 13 = .ok (.aload_n 0, 1) := by decide +kernel
theorem dP_markWhatMayGo_14 : decode cP_markWhatMayGo 14 = .ok (.getfield 26, 3) := by decide +kernel
theorem dP_markWhatMayGo_17 : decode cP_markWhatMayGo 17 = .ok (.iload_n 1, 1) := by decide +kernel
theorem dP_markWhatMayGo_18 : decode cP_markWhatMayGo 18 = .ok (.iconst 0, 1) := by decide +kernel
theorem dP_markWhatMayGo_19 : decode cP_markWhatMayGo 19 = .ok (.bastore, 1) := by decide +kernel
theorem dP_markWhatMayGo_20 : decode cP_markWhatMayGo 20 = .ok (.aload_n 0, 1) := by decide +kernel
theorem dP_markWhatMayGo_21 : decode cP_markWhatMayGo 21 = .ok (.getfield 37, 3) := by decide +kernel
theorem dP_markWhatMayGo_24 : decode cP_markWhatMayGo 24 = .ok (.iload_n 1, 1) := by decide +kernel
theorem dP_markWhatMayGo_25 : decode cP_markWhatMayGo 25 = .ok (.invokevirtual 99, 3) := by decide +kernel
theorem dP_markWhatMayGo_28 : decode cP_markWhatMayGo 28 = .ok (.ifCond .eq 26, 3) := by decide +kernel
theorem dP_markWhatMayGo_31 : decode cP_markWhatMayGo 31 = .ok (.aload_n 0, 1) := by decide +kernel
theorem dP_markWhatMayGo_32 : decode cP_markWhatMayGo 32 = .ok (.iload_n 1, 1) := by decide +kernel
theorem dP_markWhatMayGo_33 : decode cP_markWhatMayGo 33 = .ok (.invokevirtual 117, 3) := by decide +kernel
theorem dP_markWhatMayGo_36 : decode cP_markWhatMayGo 36 = .ok (.ifCond .eq 18, 3) := by decide +kernel
theorem dP_markWhatMayGo_39 : decode cP_markWhatMayGo 39 = .ok (.aload_n 0, 1) := by decide +kernel
theorem dP_markWhatMayGo_40 : decode cP_markWhatMayGo 40 = .ok (.getfield 26, 3) := by decide +kernel
theorem dP_markWhatMayGo_43 : decode cP_markWhatMayGo 43 = .ok (.aload_n 0, 1) := by decide +kernel
theorem dP_markWhatMayGo_44 : decode cP_markWhatMayGo 44 = .ok (.getfield 37, 3) := by decide +kernel
theorem dP_markWhatMayGo_47 : decode cP_markWhatMayGo 47 = .ok (.getfield 102, 3) := by decide +kernel
theorem dP_markWhatMayGo_50 : decode cP_markWhatMayGo 50 = .ok (.iload_n 1, 1) := by decide +kernel
theorem dP_markWhatMayGo_51 : decode cP_markWhatMayGo 51 = .ok (.iaload, 1) := by decide +kernel
theorem dP_markWhatMayGo_52 : decode cP_markWhatMayGo 52 = .ok (.iconst 1, 1) := by decide +kernel
theorem dP_markWhatMayGo_53 : decode cP_markWhatMayGo 53 = .ok (.bastore, 1) := by decide +kernel
theorem dP_markWhatMayGo_54 : decode cP_markWhatMayGo 54 = .ok (.iinc 1 1, 3) := by decide +kernel
theorem dP_markWhatMayGo_57 : decode cP_markWhatMayGo 57 = .ok (.goto (-55), 3) := by decide +kernel
theorem dP_markWhatMayGo_60 : decode cP_markWhatMayGo 60 = .ok (.iconst 0, 1) := by decide +kernel
theorem dP_markWhatMayGo_61 : decode cP_markWhatMayGo 61 = .ok (.istore_n 1, 1) := by decide +kernel
theorem dP_markWhatMayGo_62 : decode cP_markWhatMayGo 62 = .ok (.iload_n 1, 1) := by decide +kernel
theorem dP_markWhatMayGo_63 : decode cP_markWhatMayGo 63 = .ok (.aload_n 0, 1) := by decide +kernel
theorem dP_markWhatMayGo_64 : decode cP_markWhatMayGo 64 = .ok (.getfield 37, 3) := by decide +kernel
theorem dP_markWhatMayGo_67 : decode cP_markWhatMayGo 67 = .ok (.getfield 78, 3) := by decide +kernel
theorem dP_markWhatMayGo_70 : decode cP_markWhatMayGo 70 = .ok (.if_icmp .ge 32, 3) := by decide +kernel
theorem dP_markWhatMayGo_73 : decode cP_markWhatMayGo 73 = .ok (.aload_n 0, 1) := by decide +kernel
theorem dP_markWhatMayGo_74 : decode cP_markWhatMayGo 74 = .ok (.iload_n 1, 1) := by decide +kernel
theorem dP_markWhatMayGo_75 : decode cP_markWhatMayGo 75 = .ok (.invokevirtual 120, 3) := by decide +kernel
theorem dP_markWhatMayGo_78 : decode cP_markWhatMayGo 78 = .ok (.ifCond .eq 18, 3) := by decide +kernel
theorem dP_markWhatMayGo_81 : decode cP_markWhatMayGo 81 = .ok (.aload_n 0, 1) := by decide +kernel
theorem dP_markWhatMayGo_82 : decode cP_markWhatMayGo 82 = .ok (.getfield 26, 3) := by decide +kernel
theorem dP_markWhatMayGo_85 : decode cP_markWhatMayGo 85 = .ok (.aload_n 0, 1) := by decide +kernel
theorem dP_markWhatMayGo_86 : decode cP_markWhatMayGo 86 = .ok (.getfield 37, 3) := by decide +kernel
theorem dP_markWhatMayGo_89 : decode cP_markWhatMayGo 89 = .ok (.getfield 102, 3) := by decide +kernel
theorem dP_markWhatMayGo_92 : decode cP_markWhatMayGo 92 = .ok (.iload_n 1, 1) := by decide +kernel
theorem dP_markWhatMayGo_93 : decode cP_markWhatMayGo 93 = .ok (.iaload, 1) := by decide +kernel
theorem dP_markWhatMayGo_94 : decode cP_markWhatMayGo 94 = .ok (.iconst 0, 1) := by decide +kernel
theorem dP_markWhatMayGo_95 : decode cP_markWhatMayGo 95 = .ok (.bastore, 1) := by decide +kernel
theorem dP_markWhatMayGo_96 : decode cP_markWhatMayGo 96 = .ok (.iinc 1 1, 3) := by decide +kernel
theorem dP_markWhatMayGo_99 : decode cP_markWhatMayGo 99 = .ok (.goto (-37), 3) := by decide +kernel
theorem dP_markWhatMayGo_102 : decode cP_markWhatMayGo 102 = .ok (.return_, 1) := by decide +kernel
theorem dP_isSettled_0 : decode cP_isSettled 0 = .ok (.aload_n 0, 1) := by decide +kernel
theorem dP_isSettled_1 : decode cP_isSettled 1 = .ok (.getfield 37, 3) := by decide +kernel
theorem dP_isSettled_4 : decode cP_isSettled 4 = .ok (.getfield 54, 3) := by decide +kernel
theorem dP_isSettled_7 : decode cP_isSettled 7 = .ok (.iload_n 1, 1) := by decide +kernel
theorem dP_isSettled_8 : decode cP_isSettled 8 = .ok (.iaload, 1) := by decide +kernel
theorem dP_isSettled_9 : decode cP_isSettled 9 = .ok (.istore_n 2, 1) := by decide +kernel
theorem dP_isSettled_10 : decode cP_isSettled 10 = .ok (.aload_n 0, 1) := by decide +kernel
theorem dP_isSettled_11 : decode cP_isSettled 11 = .ok (.getfield 37, 3) := by decide +kernel
theorem dP_isSettled_14 : decode cP_isSettled 14 = .ok (.iload_n 1, 1) := by decide +kernel
theorem dP_isSettled_15 : decode cP_isSettled 15 = .ok (.invokevirtual 50, 3) := by decide +kernel
theorem dP_isSettled_18 : decode cP_isSettled 18 = .ok (.istore_n 3, 1) := by decide +kernel
theorem dP_isSettled_19 : decode cP_isSettled 19 = .ok (.iconst 0, 1) := by decide +kernel
theorem dP_isSettled_20 : decode cP_isSettled 20 = .ok (.istore 4, 2) := by decide +kernel
theorem dP_isSettled_22 : decode cP_isSettled 22 = .ok (.iload 4, 2) := by decide +kernel
theorem dP_isSettled_24 : decode cP_isSettled 24 = .ok (.iconst 3, 1) := by decide +kernel
theorem dP_isSettled_25 : decode cP_isSettled 25 = .ok (.if_icmp .ge 24, 3) := by decide +kernel
theorem dP_isSettled_28 : decode cP_isSettled 28 = .ok (.aload_n 0, 1) := by decide +kernel
theorem dP_isSettled_29 : decode cP_isSettled 29 = .ok (.getfield 11, 3) := by decide +kernel
theorem dP_isSettled_32 : decode cP_isSettled 32 = .ok (.iload 4, 2) := by decide +kernel
theorem dP_isSettled_34 : decode cP_isSettled 34 = .ok (.aaload, 1) := by decide +kernel
theorem dP_isSettled_35 : decode cP_isSettled 35 = .ok (.iload_n 2, 1) := by decide +kernel
theorem dP_isSettled_36 : decode cP_isSettled 36 = .ok (.iaload, 1) := by decide +kernel
theorem dP_isSettled_37 : decode cP_isSettled 37 = .ok (.iload_n 3, 1) := by decide +kernel
theorem dP_isSettled_38 : decode cP_isSettled 38 = .ok (.if_icmp .ge 5, 3) := by decide +kernel
theorem dP_isSettled_41 : decode cP_isSettled 41 = .ok (.iconst 0, 1) := by decide +kernel
theorem dP_isSettled_42 : decode cP_isSettled 42 = .ok (.ireturn, 1) := by decide +kernel
theorem dP_isSettled_43 : decode cP_isSettled 43 = .ok (.iinc 4 1, 3) := by decide +kernel
theorem dP_isSettled_46 : decode cP_isSettled 46 = .ok (.goto (-24), 3) := by decide +kernel
theorem dP_isSettled_49 : decode cP_isSettled 49 = .ok (.iconst 1, 1) := by decide +kernel
theorem dP_isSettled_50 : decode cP_isSettled 50 = .ok (.ireturn, 1) := by decide +kernel
theorem dP_holdsItsTarget_0 : decode cP_holdsItsTarget 0 = .ok (.aload_n 0, 1) := by decide +kernel
theorem dP_holdsItsTarget_1 : decode cP_holdsItsTarget 1 = .ok (.getfield 37, 3) := by decide +kernel
theorem dP_holdsItsTarget_4 : decode cP_holdsItsTarget 4 = .ok (.iload_n 1, 1) := by decide +kernel
theorem dP_holdsItsTarget_5 : decode cP_holdsItsTarget 5 = .ok (.invokevirtual 99, 3) := by decide +kernel
theorem dP_holdsItsTarget_8 : decode cP_holdsItsTarget 8 = .ok (.ifCond .ne 36, 3) := by decide +kernel
theorem dP_holdsItsTarget_11 : decode cP_holdsItsTarget 11 = .ok (.aload_n 0, 1) := by decide +kernel
theorem dP_holdsItsTarget_12 : decode cP_holdsItsTarget 12 = .ok (.getfield 37, 3) := by decide +kernel
theorem dP_holdsItsTarget_15 : decode cP_holdsItsTarget 15 = .ok (.getfield 102, 3) := by decide +kernel
theorem dP_holdsItsTarget_18 : decode cP_holdsItsTarget 18 = .ok (.iload_n 1, 1) := by decide +kernel
theorem dP_holdsItsTarget_19 : decode cP_holdsItsTarget 19 = .ok (.iaload, 1) := by decide +kernel
theorem dP_holdsItsTarget_20 : decode cP_holdsItsTarget 20 = .ok (.iconst (-1), 1) := by decide +kernel
theorem dP_holdsItsTarget_21 : decode cP_holdsItsTarget 21 = .ok (.if_icmp .eq 23, 3) := by decide +kernel
theorem dP_holdsItsTarget_24 : decode cP_holdsItsTarget 24 = .ok (.aload_n 0, 1) := by decide +kernel
theorem dP_holdsItsTarget_25 : decode cP_holdsItsTarget 25 = .ok (.iload_n 1, 1) := by decide +kernel
theorem dP_holdsItsTarget_26 : decode cP_holdsItsTarget 26 = .ok (.invokevirtual 71, 3) := by decide +kernel
theorem dP_holdsItsTarget_29 : decode cP_holdsItsTarget 29 = .ok (.ifCond .eq 15, 3) := by decide +kernel
theorem dP_holdsItsTarget_32 : decode cP_holdsItsTarget 32 = .ok (.aload_n 0, 1) := by decide +kernel
theorem dP_holdsItsTarget_33 : decode cP_holdsItsTarget 33 = .ok (.iload_n 1, 1) := by decide +kernel
theorem dP_holdsItsTarget_34 : decode cP_holdsItsTarget 34 = .ok (.invokevirtual 117, 3) := by decide +kernel
theorem dP_holdsItsTarget_37 : decode cP_holdsItsTarget 37 = .ok (.ifCond .ne 7, 3) := by decide +kernel
theorem dP_holdsItsTarget_40 : decode cP_holdsItsTarget 40 = .ok (.iconst 1, 1) := by decide +kernel
theorem dP_holdsItsTarget_41 : decode cP_holdsItsTarget 41 = .ok (.goto 4, 3) := by decide +kernel
theorem dP_holdsItsTarget_44 : decode cP_holdsItsTarget 44 = .ok (.iconst 0, 1) := by decide +kernel
theorem dP_holdsItsTarget_45 : decode cP_holdsItsTarget 45 = .ok (.ireturn, 1) := by decide +kernel
theorem dP_positionOf_0 : decode cP_positionOf 0 = .ok (.iconst 0, 1) := by decide +kernel
theorem dP_positionOf_1 : decode cP_positionOf 1 = .ok (.istore_n 2, 1) := by decide +kernel
theorem dP_positionOf_2 : decode cP_positionOf 2 = .ok (.iload_n 2, 1) := by decide +kernel
theorem dP_positionOf_3 : decode cP_positionOf 3 = .ok (.aload_n 0, 1) := by decide +kernel
theorem dP_positionOf_4 : decode cP_positionOf 4 = .ok (.getfield 41, 3) := by decide +kernel
theorem dP_positionOf_7 : decode cP_positionOf 7 = .ok (.if_icmp .ge 21, 3) := by decide +kernel
theorem dP_positionOf_10 : decode cP_positionOf 10 = .ok (.aload_n 0, 1) := by decide +kernel
theorem dP_positionOf_11 : decode cP_positionOf 11 = .ok (.getfield 29, 3) := by decide +kernel
theorem dP_positionOf_14 : decode cP_positionOf 14 = .ok (.iload_n 2, 1) := by decide +kernel
theorem dP_positionOf_15 : decode cP_positionOf 15 = .ok (.iaload, 1) := by decide +kernel
theorem dP_positionOf_16 : decode cP_positionOf 16 = .ok (.iload_n 1, 1) := by decide +kernel
theorem dP_positionOf_17 : decode cP_positionOf 17 = .ok (.if_icmp .ne 5, 3) := by decide +kernel
theorem dP_positionOf_20 : decode cP_positionOf 20 = .ok (.iload_n 2, 1) := by decide +kernel
theorem dP_positionOf_21 : decode cP_positionOf 21 = .ok (.ireturn, 1) := by decide +kernel
theorem dP_positionOf_22 : decode cP_positionOf 22 = .ok (.iinc 2 1, 3) := by decide +kernel
theorem dP_positionOf_25 : decode cP_positionOf 25 = .ok (.goto (-23), 3) := by decide +kernel
theorem dP_positionOf_28 : decode cP_positionOf 28 = .ok (.iconst (-1), 1) := by decide +kernel
theorem dP_positionOf_29 : decode cP_positionOf 29 = .ok (.ireturn, 1) := by decide +kernel
theorem dP_readsLike_0 : decode cP_readsLike 0 = .ok (.aload_n 0, 1) := by decide +kernel
theorem dP_readsLike_1 : decode cP_readsLike 1 = .ok (.getfield 41, 3) := by decide +kernel
theorem dP_readsLike_4 : decode cP_readsLike 4 = .ok (.aload_n 1, 1) := by decide +kernel
theorem dP_readsLike_5 : decode cP_readsLike 5 = .ok (.getfield 41, 3) := by decide +kernel
theorem dP_readsLike_8 : decode cP_readsLike 8 = .ok (.if_icmp .eq 5, 3) := by decide +kernel
theorem dP_readsLike_11 : decode cP_readsLike 11 = .ok (.iconst 0, 1) := by decide +kernel
theorem dP_readsLike_12 : decode cP_readsLike 12 = .ok (.ireturn, 1) := by decide +kernel
theorem dP_readsLike_13 : decode cP_readsLike 13 = .ok (.iconst 0, 1) := by decide +kernel
theorem dP_readsLike_14 : decode cP_readsLike 14 = .ok (.istore_n 2, 1) := by decide +kernel
theorem dP_readsLike_15 : decode cP_readsLike 15 = .ok (.iload_n 2, 1) := by decide +kernel
theorem dP_readsLike_16 : decode cP_readsLike 16 = .ok (.aload_n 0, 1) := by decide +kernel
theorem dP_readsLike_17 : decode cP_readsLike 17 = .ok (.getfield 41, 3) := by decide +kernel
theorem dP_readsLike_20 : decode cP_readsLike 20 = .ok (.if_icmp .ge 42, 3) := by decide +kernel
theorem dP_readsLike_23 : decode cP_readsLike 23 = .ok (.aload_n 0, 1) := by decide +kernel
theorem dP_readsLike_24 : decode cP_readsLike 24 = .ok (.getfield 37, 3) := by decide +kernel
theorem dP_readsLike_27 : decode cP_readsLike 27 = .ok (.getfield 44, 3) := by decide +kernel
theorem dP_readsLike_30 : decode cP_readsLike 30 = .ok (.aload_n 0, 1) := by decide +kernel
theorem dP_readsLike_31 : decode cP_readsLike 31 = .ok (.getfield 29, 3) := by decide +kernel
theorem dP_readsLike_34 : decode cP_readsLike 34 = .ok (.iload_n 2, 1) := by decide +kernel
theorem dP_readsLike_35 : decode cP_readsLike 35 = .ok (.iaload, 1) := by decide +kernel
theorem dP_readsLike_36 : decode cP_readsLike 36 = .ok (.caload, 1) := by decide +kernel
theorem dP_readsLike_37 : decode cP_readsLike 37 = .ok (.aload_n 0, 1) := by decide +kernel
theorem dP_readsLike_38 : decode cP_readsLike 38 = .ok (.getfield 37, 3) := by decide +kernel
theorem dP_readsLike_41 : decode cP_readsLike 41 = .ok (.getfield 44, 3) := by decide +kernel
theorem dP_readsLike_44 : decode cP_readsLike 44 = .ok (.aload_n 1, 1) := by decide +kernel
theorem dP_readsLike_45 : decode cP_readsLike 45 = .ok (.getfield 29, 3) := by decide +kernel
theorem dP_readsLike_48 : decode cP_readsLike 48 = .ok (.iload_n 2, 1) := by decide +kernel
theorem dP_readsLike_49 : decode cP_readsLike 49 = .ok (.iaload, 1) := by decide +kernel
theorem dP_readsLike_50 : decode cP_readsLike 50 = .ok (.caload, 1) := by decide +kernel
theorem dP_readsLike_51 : decode cP_readsLike 51 = .ok (.if_icmp .eq 5, 3) := by decide +kernel
theorem dP_readsLike_54 : decode cP_readsLike 54 = .ok (.iconst 0, 1) := by decide +kernel
theorem dP_readsLike_55 : decode cP_readsLike 55 = .ok (.ireturn, 1) := by decide +kernel
theorem dP_readsLike_56 : decode cP_readsLike 56 = .ok (.iinc 2 1, 3) := by decide +kernel
theorem dP_readsLike_59 : decode cP_readsLike 59 = .ok (.goto (-44), 3) := by decide +kernel
theorem dP_readsLike_62 : decode cP_readsLike 62 = .ok (.iconst 1, 1) := by decide +kernel
theorem dP_readsLike_63 : decode cP_readsLike 63 = .ok (.ireturn, 1) := by decide +kernel
