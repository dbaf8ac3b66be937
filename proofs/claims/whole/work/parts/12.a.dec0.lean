theorem d_G_run_0 : decode b_G_run 0 = .ok (.iload_n 1, 1) := by decide +kernel
theorem d_G_run_1 : decode b_G_run 1 = .ok (.iconst 2, 1) := by decide +kernel
theorem d_G_run_2 : decode b_G_run 2 = .ok (.invokestatic 44, 3) := by decide +kernel
theorem d_G_run_5 : decode b_G_run 5 = .ok (.ifCond .eq 14, 3) := by decide +kernel
theorem d_G_run_8 : decode b_G_run 8 = .ok (.iload_n 2, 1) := by decide +kernel
theorem d_G_run_9 : decode b_G_run 9 = .ok (.iconst 1, 1) := by decide +kernel
theorem d_G_run_10 : decode b_G_run 10 = .ok (.if_icmp .lt 9, 3) := by decide +kernel
theorem d_G_run_13 : decode b_G_run 13 = .ok (.iload_n 2, 1) := by decide +kernel
theorem d_G_run_14 : decode b_G_run 14 = .ok (.bipush 100, 2) := by decide +kernel
theorem d_G_run_16 : decode b_G_run 16 = .ok (.if_icmp .le 5, 3) := by decide +kernel
theorem d_G_run_19 : decode b_G_run 19 = .ok (.iconst (-1), 1) := by decide +kernel
theorem d_G_run_20 : decode b_G_run 20 = .ok (.ireturn, 1) := by decide +kernel
theorem d_G_run_21 : decode b_G_run 21 = .ok (.aload_n 0, 1) := by decide +kernel
theorem d_G_run_22 : decode b_G_run 22 = .ok (.iload_n 1, 1) := by decide +kernel
theorem d_G_run_23 : decode b_G_run 23 = .ok (.invokevirtual 80, 3) := by decide +kernel
theorem d_G_run_26 : decode b_G_run 26 = .ok (.ifCond .ne 6, 3) := by decide +kernel
theorem d_G_run_29 : decode b_G_run 29 = .ok (.bipush (-2), 2) := by decide +kernel
theorem d_G_run_31 : decode b_G_run 31 = .ok (.ireturn, 1) := by decide +kernel
theorem d_G_run_32 : decode b_G_run 32 = .ok (.iconst 0, 1) := by decide +kernel
theorem d_G_run_33 : decode b_G_run 33 = .ok (.istore_n 3, 1) := by decide +kernel
theorem d_G_run_34 : decode b_G_run 34 = .ok (.iload_n 3, 1) := by decide +kernel
theorem d_G_run_35 : decode b_G_run 35 = .ok (.iload_n 2, 1) := by decide +kernel
theorem d_G_run_36 : decode b_G_run 36 = .ok (.if_icmp .ge 22, 3) := by decide +kernel
theorem d_G_run_39 : decode b_G_run 39 = .ok (.aload_n 0, 1) := by decide +kernel
theorem d_G_run_40 : decode b_G_run 40 = .ok (.aload_n 0, 1) := by decide +kernel
theorem d_G_run_41 : decode b_G_run 41 = .ok (.getfield 18, 3) := by decide +kernel
theorem d_G_run_44 : decode b_G_run 44 = .ok (.iload_n 1, 1) := by decide +kernel
theorem d_G_run_45 : decode b_G_run 45 = .ok (.aaload, 1) := by decide +kernel
theorem d_G_run_46 : decode b_G_run 46 = .ok (.invokevirtual 84, 3) := by decide +kernel
theorem d_G_run_49 : decode b_G_run 49 = .ok (.ifCond .eq 9, 3) := by decide +kernel
theorem d_G_run_52 : decode b_G_run 52 = .ok (.iinc 3 1, 3) := by decide +kernel
theorem d_G_run_55 : decode b_G_run 55 = .ok (.goto (-21), 3) := by decide +kernel
theorem d_G_run_58 : decode b_G_run 58 = .ok (.iload_n 3, 1) := by decide +kernel
theorem d_G_run_59 : decode b_G_run 59 = .ok (.ireturn, 1) := by decide +kernel
