theorem dT_known_36 : decode cT_known 36 = .ok (.ireturn, 1) := by decide +kernel
theorem dT_stable_0 : decode cT_stable 0 = .ok (.iload_n 1, 1) := by decide +kernel
theorem dT_stable_1 : decode cT_stable 1 = .ok (.invokestatic 25, 3) := by decide +kernel
theorem dT_stable_4 : decode cT_stable 4 = .ok (.ifCond .eq 31, 3) := by decide +kernel
theorem dT_stable_7 : decode cT_stable 7 = .ok (.aload_n 0, 1) := by decide +kernel
theorem dT_stable_8 : decode cT_stable 8 = .ok (.getfield 10, 3) := by decide +kernel
theorem dT_stable_11 : decode cT_stable 11 = .ok (.iload_n 2, 1) := by decide +kernel
theorem dT_stable_12 : decode cT_stable 12 = .ok (.invokevirtual 48, 3) := by decide +kernel
theorem dT_stable_15 : decode cT_stable 15 = .ok (.ifCond .eq 20, 3) := by decide +kernel
theorem dT_stable_18 : decode cT_stable 18 = .ok (.aload_n 0, 1) := by decide +kernel
theorem dT_stable_19 : decode cT_stable 19 = .ok (.getfield 18, 3) := by decide +kernel
theorem dT_stable_22 : decode cT_stable 22 = .ok (.iload_n 1, 1) := by decide +kernel
theorem dT_stable_23 : decode cT_stable 23 = .ok (.aaload, 1) := by decide +kernel
theorem dT_stable_24 : decode cT_stable 24 = .ok (.iload_n 2, 1) := by decide +kernel
theorem dT_stable_25 : decode cT_stable 25 = .ok (.invokevirtual 91, 3) := by decide +kernel
theorem dT_stable_28 : decode cT_stable 28 = .ok (.ifCond .eq 7, 3) := by decide +kernel
theorem dT_stable_31 : decode cT_stable 31 = .ok (.iconst 1, 1) := by decide +kernel
theorem dT_stable_32 : decode cT_stable 32 = .ok (.goto 4, 3) := by decide +kernel
theorem dT_stable_35 : decode cT_stable 35 = .ok (.iconst 0, 1) := by decide +kernel
theorem dT_stable_36 : decode cT_stable 36 = .ok (.ireturn, 1) := by decide +kernel
theorem dT_kept_0 : decode cT_kept 0 = .ok (.iload_n 1, 1) := by decide +kernel
theorem dT_kept_1 : decode cT_kept 1 = .ok (.invokestatic 25, 3) := by decide +kernel
theorem dT_kept_4 : decode cT_kept 4 = .ok (.ifCond .eq 15, 3) := by decide +kernel
theorem dT_kept_7 : decode cT_kept 7 = .ok (.aload_n 0, 1) := by decide +kernel
theorem dT_kept_8 : decode cT_kept 8 = .ok (.getfield 18, 3) := by decide +kernel
theorem dT_kept_11 : decode cT_kept 11 = .ok (.iload_n 1, 1) := by decide +kernel
theorem dT_kept_12 : decode cT_kept 12 = .ok (.aaload, 1) := by decide +kernel
theorem dT_kept_13 : decode cT_kept 13 = .ok (.getfield 94, 3) := by decide +kernel
theorem dT_kept_16 : decode cT_kept 16 = .ok (.goto 4, 3) := by decide +kernel
theorem dT_kept_19 : decode cT_kept 19 = .ok (.iconst (-1), 1) := by decide +kernel
theorem dT_kept_20 : decode cT_kept 20 = .ok (.ireturn, 1) := by decide +kernel
theorem dT_waiting_0 : decode cT_waiting 0 = .ok (.iload_n 1, 1) := by decide +kernel
theorem dT_waiting_1 : decode cT_waiting 1 = .ok (.invokestatic 25, 3) := by decide +kernel
theorem dT_waiting_4 : decode cT_waiting 4 = .ok (.ifCond .eq 15, 3) := by decide +kernel
theorem dT_waiting_7 : decode cT_waiting 7 = .ok (.aload_n 0, 1) := by decide +kernel
theorem dT_waiting_8 : decode cT_waiting 8 = .ok (.getfield 18, 3) := by decide +kernel
theorem dT_waiting_11 : decode cT_waiting 11 = .ok (.iload_n 1, 1) := by decide +kernel
theorem dT_waiting_12 : decode cT_waiting 12 = .ok (.aaload, 1) := by decide +kernel
theorem dT_waiting_13 : decode cT_waiting 13 = .ok (.getfield 97, 3) := by decide +kernel
theorem dT_waiting_16 : decode cT_waiting 16 = .ok (.goto 4, 3) := by decide +kernel
theorem dT_waiting_19 : decode cT_waiting 19 = .ok (.iconst (-1), 1) := by decide +kernel
theorem dT_waiting_20 : decode cT_waiting 20 = .ok (.ireturn, 1) := by decide +kernel
