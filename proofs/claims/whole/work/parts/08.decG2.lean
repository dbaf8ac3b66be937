theorem d_G_told_196 : decode b_G_told 196 = .ok (.ifCond .eq 13, 3) := by decide +kernel
theorem d_G_told_199 : decode b_G_told 199 = .ok (.aload_n 0, 1) := by decide +kernel
theorem d_G_told_200 : decode b_G_told 200 = .ok (.getfield 25, 3) := by decide +kernel
theorem d_G_told_203 : decode b_G_told 203 = .ok (.getfield 135, 3) := by decide +kernel
theorem d_G_told_206 : decode b_G_told 206 = .ok (.goto 4, 3) := by decide +kernel
theorem d_G_told_209 : decode b_G_told 209 = .ok (.iconst 0, 1) := by decide +kernel
theorem d_G_told_210 : decode b_G_told 210 = .ok (.ireturn, 1) := by decide +kernel
theorem d_G_told_211 : decode b_G_told 211 = .ok (.iconst (-1), 1) := by decide +kernel
theorem d_G_told_212 : decode b_G_told 212 = .ok (.ireturn, 1) := by decide +kernel
theorem d_G_holder_0 : decode b_G_holder 0 = .ok (.iconst 0, 1) := by decide +kernel
theorem d_G_holder_1 : decode b_G_holder 1 = .ok (.istore_n 1, 1) := by decide +kernel
theorem d_G_holder_2 : decode b_G_holder 2 = .ok (.iload_n 1, 1) := by decide +kernel
theorem d_G_holder_3 : decode b_G_holder 3 = .ok (.iconst 2, 1) := by decide +kernel
theorem d_G_holder_4 : decode b_G_holder 4 = .ok (.if_icmp .ge 23, 3) := by decide +kernel
theorem d_G_holder_7 : decode b_G_holder 7 = .ok (.aload_n 0, 1) := by decide +kernel
theorem d_G_holder_8 : decode b_G_holder 8 = .ok (.getfield 18, 3) := by decide +kernel
theorem d_G_holder_11 : decode b_G_holder 11 = .ok (.iload_n 1, 1) := by decide +kernel
theorem d_G_holder_12 : decode b_G_holder 12 = .ok (.aaload, 1) := by decide +kernel
theorem d_G_holder_13 : decode b_G_holder 13 = .ok (.getfield 77, 3) := by decide +kernel
theorem d_G_holder_16 : decode b_G_holder 16 = .ok (.ifCond .eq 5, 3) := by decide +kernel
theorem d_G_holder_19 : decode b_G_holder 19 = .ok (.iload_n 1, 1) := by decide +kernel
theorem d_G_holder_20 : decode b_G_holder 20 = .ok (.ireturn, 1) := by decide +kernel
theorem d_G_holder_21 : decode b_G_holder 21 = .ok (.iinc 1 1, 3) := by decide +kernel
theorem d_G_holder_24 : decode b_G_holder 24 = .ok (.goto (-22), 3) := by decide +kernel
theorem d_G_holder_27 : decode b_G_holder 27 = .ok (.bipush (-2), 2) := by decide +kernel
theorem d_G_holder_29 : decode b_G_holder 29 = .ok (.ireturn, 1) := by decide +kernel
theorem d_G_create_0 : decode b_G_create 0 = .ok (.iload_n 1, 1) := by decide +kernel
theorem d_G_create_1 : decode b_G_create 1 = .ok (.iconst 2, 1) := by decide +kernel
theorem d_G_create_2 : decode b_G_create 2 = .ok (.invokestatic 44, 3) := by decide +kernel
theorem d_G_create_5 : decode b_G_create 5 = .ok (.ifCond .ne 5, 3) := by decide +kernel
theorem d_G_create_8 : decode b_G_create 8 = .ok (.iconst (-1), 1) := by decide +kernel
theorem d_G_create_9 : decode b_G_create 9 = .ok (.ireturn, 1) := by decide +kernel
theorem d_G_create_10 : decode b_G_create 10 = .ok (.aload_n 0, 1) := by decide +kernel
theorem d_G_create_11 : decode b_G_create 11 = .ok (.getfield 18, 3) := by decide +kernel
theorem d_G_create_14 : decode b_G_create 14 = .ok (.iload_n 1, 1) := by decide +kernel
theorem d_G_create_15 : decode b_G_create 15 = .ok (.aaload, 1) := by decide +kernel
theorem d_G_create_16 : decode b_G_create 16 = .ok (.getfield 48, 3) := by decide +kernel
theorem d_G_create_19 : decode b_G_create 19 = .ok (.ifCond .eq 22, 3) := by decide +kernel
theorem d_G_create_22 : decode b_G_create 22 = .ok (.aload_n 0, 1) := by decide +kernel
theorem d_G_create_23 : decode b_G_create 23 = .ok (.invokevirtual 52, 3) := by decide +kernel
theorem d_G_create_26 : decode b_G_create 26 = .ok (.bipush (-2), 2) := by decide +kernel
theorem d_G_create_28 : decode b_G_create 28 = .ok (.if_icmp .ne 13, 3) := by decide +kernel
theorem d_G_create_31 : decode b_G_create 31 = .ok (.aload_n 0, 1) := by decide +kernel
theorem d_G_create_32 : decode b_G_create 32 = .ok (.getfield 25, 3) := by decide +kernel
theorem d_G_create_35 : decode b_G_create 35 = .ok (.getfield 56, 3) := by decide +kernel
theorem d_G_create_38 : decode b_G_create 38 = .ok (.ifCond .eq 6, 3) := by decide +kernel
theorem d_G_create_41 : decode b_G_create 41 = .ok (.bipush (-2), 2) := by decide +kernel
theorem d_G_create_43 : decode b_G_create 43 = .ok (.ireturn, 1) := by decide +kernel
theorem d_G_create_44 : decode b_G_create 44 = .ok (.aload_n 0, 1) := by decide +kernel
theorem d_G_create_45 : decode b_G_create 45 = .ok (.getfield 18, 3) := by decide +kernel
theorem d_G_create_48 : decode b_G_create 48 = .ok (.iload_n 1, 1) := by decide +kernel
theorem d_G_create_49 : decode b_G_create 49 = .ok (.aaload, 1) := by decide +kernel
theorem d_G_create_50 : decode b_G_create 50 = .ok (.getfield 59, 3) := by decide +kernel
theorem d_G_create_53 : decode b_G_create 53 = .ok (.invokevirtual 63, 3) := by decide +kernel
theorem d_G_create_56 : decode b_G_create 56 = .ok (.aload_n 0, 1) := by decide +kernel
theorem d_G_create_57 : decode b_G_create 57 = .ok (.getfield 9, 3) := by decide +kernel
theorem d_G_create_60 : decode b_G_create 60 = .ok (.iconst 0, 1) := by decide +kernel
theorem d_G_create_61 : decode b_G_create 61 = .ok (.aload_n 0, 1) := by decide +kernel
theorem d_G_create_62 : decode b_G_create 62 = .ok (.getfield 18, 3) := by decide +kernel
theorem d_G_create_65 : decode b_G_create 65 = .ok (.iload_n 1, 1) := by decide +kernel
theorem d_G_create_66 : decode b_G_create 66 = .ok (.aaload, 1) := by decide +kernel
theorem d_G_create_67 : decode b_G_create 67 = .ok (.getfield 59, 3) := by decide +kernel
theorem d_G_create_70 : decode b_G_create 70 = .ok (.getfield 68, 3) := by decide +kernel
theorem d_G_create_73 : decode b_G_create 73 = .ok (.iconst 0, 1) := by decide +kernel
theorem d_G_create_74 : decode b_G_create 74 = .ok (.bipush 64, 2) := by decide +kernel
theorem d_G_create_76 : decode b_G_create 76 = .ok (.invokestatic 71, 3) := by decide +kernel
theorem d_G_create_79 : decode b_G_create 79 = .ok (.aload_n 0, 1) := by decide +kernel
theorem d_G_create_80 : decode b_G_create 80 = .ok (.getfield 18, 3) := by decide +kernel
theorem d_G_create_83 : decode b_G_create 83 = .ok (.iload_n 1, 1) := by decide +kernel
theorem d_G_create_84 : decode b_G_create 84 = .ok (.aaload, 1) := by decide +kernel
theorem d_G_create_85 : decode b_G_create 85 = .ok (.iconst 1, 1) := by decide +kernel
theorem d_G_create_86 : decode b_G_create 86 = .ok (.putfield 77, 3) := by decide +kernel
theorem d_G_create_89 : decode b_G_create 89 = .ok (.aload_n 0, 1) := by decide +kernel
theorem d_G_create_90 : decode b_G_create 90 = .ok (.iload_n 1, 1) := by decide +kernel
theorem d_G_create_91 : decode b_G_create 91 = .ok (.putfield 36, 3) := by decide +kernel
theorem d_G_create_94 : decode b_G_create 94 = .ok (.aload_n 0, 1) := by decide +kernel
theorem d_G_create_95 : decode b_G_create 95 = .ok (.dup, 1) := by decide +kernel
theorem d_G_create_96 : decode b_G_create 96 = .ok (.getfield 40, 3) := by decide +kernel
theorem d_G_create_99 : decode b_G_create 99 = .ok (.iconst 1, 1) := by decide +kernel
theorem d_G_create_100 : decode b_G_create 100 = .ok (.iadd, 1) := by decide +kernel
theorem d_G_create_101 : decode b_G_create 101 = .ok (.putfield 40, 3) := by decide +kernel
theorem d_G_create_104 : decode b_G_create 104 = .ok (.aload_n 0, 1) := by decide +kernel
theorem d_G_create_105 : decode b_G_create 105 = .ok (.getfield 40, 3) := by decide +kernel
theorem d_G_create_108 : decode b_G_create 108 = .ok (.ireturn, 1) := by decide +kernel
theorem d_G_endMove_0 : decode b_G_endMove 0 = .ok (.aload_n 0, 1) := by decide +kernel
theorem d_G_endMove_1 : decode b_G_endMove 1 = .ok (.getfield 25, 3) := by decide +kernel
theorem d_G_endMove_4 : decode b_G_endMove 4 = .ok (.iconst 0, 1) := by decide +kernel
theorem d_G_endMove_5 : decode b_G_endMove 5 = .ok (.putfield 56, 3) := by decide +kernel
theorem d_G_endMove_8 : decode b_G_endMove 8 = .ok (.aload_n 0, 1) := by decide +kernel
theorem d_G_endMove_9 : decode b_G_endMove 9 = .ok (.invokevirtual 189, 3) := by decide +kernel
theorem d_G_endMove_12 : decode b_G_endMove 12 = .ok (.invokevirtual 289, 3) := by decide +kernel
theorem d_G_endMove_15 : decode b_G_endMove 15 = .ok (.return_, 1) := by decide +kernel
theorem d_G_renewNumber_0 : decode b_G_renewNumber 0 = .ok (.aload_n 0, 1) := by decide +kernel
theorem d_G_renewNumber_1 : decode b_G_renewNumber 1 = .ok (.dup, 1) := by decide +kernel
theorem d_G_renewNumber_2 : decode b_G_renewNumber 2 = .ok (.getfield 40, 3) := by decide +kernel
theorem d_G_renewNumber_5 : decode b_G_renewNumber 5 = .ok (.iconst 1, 1) := by decide +kernel
theorem d_G_renewNumber_6 : decode b_G_renewNumber 6 = .ok (.iadd, 1) := by decide +kernel
theorem d_G_renewNumber_7 : decode b_G_renewNumber 7 = .ok (.putfield 40, 3) := by decide +kernel
theorem d_G_renewNumber_10 : decode b_G_renewNumber 10 = .ok (.aload_n 1, 1) := by decide +kernel
theorem d_G_renewNumber_11 : decode b_G_renewNumber 11 = .ok (.getfield 59, 3) := by decide +kernel
theorem d_G_renewNumber_14 : decode b_G_renewNumber 14 = .ok (.getfield 109, 3) := by decide +kernel
theorem d_G_renewNumber_17 : decode b_G_renewNumber 17 = .ok (.ifCond .eq 11, 3) := by decide +kernel
theorem d_G_renewNumber_20 : decode b_G_renewNumber 20 = .ok (.aload_n 1, 1) := by decide +kernel
theorem d_G_renewNumber_21 : decode b_G_renewNumber 21 = .ok (.aload_n 0, 1) := by decide +kernel
theorem d_G_renewNumber_22 : decode b_G_renewNumber 22 = .ok (.getfield 40, 3) := by decide +kernel
theorem d_G_renewNumber_25 : decode b_G_renewNumber 25 = .ok (.invokevirtual 251, 3) := by decide +kernel
theorem d_G_renewNumber_28 : decode b_G_renewNumber 28 = .ok (.return_, 1) := by decide +kernel
theorem d_G_handOver_0 : decode b_G_handOver 0 = .ok (.aload_n 0, 1) := by decide +kernel
theorem d_G_handOver_1 : decode b_G_handOver 1 = .ok (.invokevirtual 189, 3) := by decide +kernel
theorem d_G_handOver_4 : decode b_G_handOver 4 = .ok (.astore_n 1, 1) := by decide +kernel
theorem d_G_handOver_5 : decode b_G_handOver 5 = .ok (.aload_n 0, 1) := by decide +kernel
theorem d_G_handOver_6 : decode b_G_handOver 6 = .ok (.invokevirtual 124, 3) := by decide +kernel
theorem d_G_handOver_9 : decode b_G_handOver 9 = .ok (.iconst 0, 1) := by decide +kernel
theorem d_G_handOver_10 : decode b_G_handOver 10 = .ok (.putfield 77, 3) := by decide +kernel
theorem d_G_handOver_13 : decode b_G_handOver 13 = .ok (.aload_n 1, 1) := by decide +kernel
theorem d_G_handOver_14 : decode b_G_handOver 14 = .ok (.iconst 1, 1) := by decide +kernel
theorem d_G_handOver_15 : decode b_G_handOver 15 = .ok (.putfield 77, 3) := by decide +kernel
theorem d_G_handOver_18 : decode b_G_handOver 18 = .ok (.aload_n 0, 1) := by decide +kernel
theorem d_G_handOver_19 : decode b_G_handOver 19 = .ok (.aload_n 0, 1) := by decide +kernel
theorem d_G_handOver_20 : decode b_G_handOver 20 = .ok (.getfield 25, 3) := by decide +kernel
theorem d_G_handOver_23 : decode b_G_handOver 23 = .ok (.getfield 198, 3) := by decide +kernel
theorem d_G_handOver_26 : decode b_G_handOver 26 = .ok (.invokestatic 112, 3) := by decide +kernel
theorem d_G_handOver_29 : decode b_G_handOver 29 = .ok (.putfield 36, 3) := by decide +kernel
theorem d_G_handOver_32 : decode b_G_handOver 32 = .ok (.aload_n 0, 1) := by decide +kernel
theorem d_G_handOver_33 : decode b_G_handOver 33 = .ok (.invokevirtual 179, 3) := by decide +kernel
theorem d_G_handOver_36 : decode b_G_handOver 36 = .ok (.aload_n 0, 1) := by decide +kernel
theorem d_G_handOver_37 : decode b_G_handOver 37 = .ok (.aload_n 1, 1) := by decide +kernel
theorem d_G_handOver_38 : decode b_G_handOver 38 = .ok (.invokevirtual 182, 3) := by decide +kernel
theorem d_G_handOver_41 : decode b_G_handOver 41 = .ok (.return_, 1) := by decide +kernel
theorem d_G_abort_0 : decode b_G_abort 0 = .ok (.aload_n 0, 1) := by decide +kernel
theorem d_G_abort_1 : decode b_G_abort 1 = .ok (.getfield 25, 3) := by decide +kernel
theorem d_G_abort_4 : decode b_G_abort 4 = .ok (.getfield 56, 3) := by decide +kernel
theorem d_G_abort_7 : decode b_G_abort 7 = .ok (.ifCond .ne 5, 3) := by decide +kernel
theorem d_G_abort_10 : decode b_G_abort 10 = .ok (.iconst 0, 1) := by decide +kernel
theorem d_G_abort_11 : decode b_G_abort 11 = .ok (.ireturn, 1) := by decide +kernel
theorem d_G_abort_12 : decode b_G_abort 12 = .ok (.aload_n 0, 1) := by decide +kernel
theorem d_G_abort_13 : decode b_G_abort 13 = .ok (.invokevirtual 179, 3) := by decide +kernel
theorem d_G_abort_16 : decode b_G_abort 16 = .ok (.aload_n 0, 1) := by decide +kernel
theorem d_G_abort_17 : decode b_G_abort 17 = .ok (.invokevirtual 124, 3) := by decide +kernel
theorem d_G_abort_20 : decode b_G_abort 20 = .ok (.getfield 77, 3) := by decide +kernel
theorem d_G_abort_23 : decode b_G_abort 23 = .ok (.ifCond .eq 11, 3) := by decide +kernel
theorem d_G_abort_26 : decode b_G_abort 26 = .ok (.aload_n 0, 1) := by decide +kernel
theorem d_G_abort_27 : decode b_G_abort 27 = .ok (.aload_n 0, 1) := by decide +kernel
theorem d_G_abort_28 : decode b_G_abort 28 = .ok (.invokevirtual 124, 3) := by decide +kernel
theorem d_G_abort_31 : decode b_G_abort 31 = .ok (.invokevirtual 182, 3) := by decide +kernel
theorem d_G_abort_34 : decode b_G_abort 34 = .ok (.iconst 1, 1) := by decide +kernel
theorem d_G_abort_35 : decode b_G_abort 35 = .ok (.ireturn, 1) := by decide +kernel
theorem d_G_takeOver_0 : decode b_G_takeOver 0 = .ok (.aload_n 0, 1) := by decide +kernel
theorem d_G_takeOver_1 : decode b_G_takeOver 1 = .ok (.getfield 25, 3) := by decide +kernel
theorem d_G_takeOver_4 : decode b_G_takeOver 4 = .ok (.getfield 56, 3) := by decide +kernel
theorem d_G_takeOver_7 : decode b_G_takeOver 7 = .ok (.ifCond .eq 23, 3) := by decide +kernel
theorem d_G_takeOver_10 : decode b_G_takeOver 10 = .ok (.aload_n 0, 1) := by decide +kernel
theorem d_G_takeOver_11 : decode b_G_takeOver 11 = .ok (.invokevirtual 124, 3) := by decide +kernel
theorem d_G_takeOver_14 : decode b_G_takeOver 14 = .ok (.getfield 77, 3) := by decide +kernel
theorem d_G_takeOver_17 : decode b_G_takeOver 17 = .ok (.ifCond .ne 13, 3) := by decide +kernel
theorem d_G_takeOver_20 : decode b_G_takeOver 20 = .ok (.aload_n 0, 1) := by decide +kernel
theorem d_G_takeOver_21 : decode b_G_takeOver 21 = .ok (.invokevirtual 189, 3) := by decide +kernel
theorem d_G_takeOver_24 : decode b_G_takeOver 24 = .ok (.getfield 192, 3) := by decide +kernel
theorem d_G_takeOver_27 : decode b_G_takeOver 27 = .ok (.ifCond .ne 5, 3) := by decide +kernel
theorem d_G_takeOver_30 : decode b_G_takeOver 30 = .ok (.iconst 0, 1) := by decide +kernel
theorem d_G_takeOver_31 : decode b_G_takeOver 31 = .ok (.ireturn, 1) := by decide +kernel
theorem d_G_takeOver_32 : decode b_G_takeOver 32 = .ok (.aload_n 0, 1) := by decide +kernel
theorem d_G_takeOver_33 : decode b_G_takeOver 33 = .ok (.invokevirtual 195, 3) := by decide +kernel
theorem d_G_takeOver_36 : decode b_G_takeOver 36 = .ok (.iconst 1, 1) := by decide +kernel
theorem d_G_takeOver_37 : decode b_G_takeOver 37 = .ok (.ireturn, 1) := by decide +kernel
theorem d_G_crash_0 : decode b_G_crash 0 = .ok (.iload_n 1, 1) := by decide +kernel
theorem d_G_crash_1 : decode b_G_crash 1 = .ok (.iconst 2, 1) := by decide +kernel
theorem d_G_crash_2 : decode b_G_crash 2 = .ok (.invokestatic 44, 3) := by decide +kernel
theorem d_G_crash_5 : decode b_G_crash 5 = .ok (.ifCond .eq 15, 3) := by decide +kernel
theorem d_G_crash_8 : decode b_G_crash 8 = .ok (.aload_n 0, 1) := by decide +kernel
theorem d_G_crash_9 : decode b_G_crash 9 = .ok (.getfield 18, 3) := by decide +kernel
theorem d_G_crash_12 : decode b_G_crash 12 = .ok (.iload_n 1, 1) := by decide +kernel
theorem d_G_crash_13 : decode b_G_crash 13 = .ok (.aaload, 1) := by decide +kernel
theorem d_G_crash_14 : decode b_G_crash 14 = .ok (.getfield 48, 3) := by decide +kernel
theorem d_G_crash_17 : decode b_G_crash 17 = .ok (.ifCond .ne 5, 3) := by decide +kernel
theorem d_G_crash_20 : decode b_G_crash 20 = .ok (.iconst 0, 1) := by decide +kernel
theorem d_G_crash_21 : decode b_G_crash 21 = .ok (.ireturn, 1) := by decide +kernel
theorem d_G_crash_22 : decode b_G_crash 22 = .ok (.aload_n 0, 1) := by decide +kernel
theorem d_G_crash_23 : decode b_G_crash 23 = .ok (.getfield 18, 3) := by decide +kernel
theorem d_G_crash_26 : decode b_G_crash 26 = .ok (.iload_n 1, 1) := by decide +kernel
theorem d_G_crash_27 : decode b_G_crash 27 = .ok (.aaload, 1) := by decide +kernel
theorem d_G_crash_28 : decode b_G_crash 28 = .ok (.invokevirtual 186, 3) := by decide +kernel
theorem d_G_crash_31 : decode b_G_crash 31 = .ok (.aload_n 0, 1) := by decide +kernel
theorem d_G_crash_32 : decode b_G_crash 32 = .ok (.getfield 25, 3) := by decide +kernel
theorem d_G_crash_35 : decode b_G_crash 35 = .ok (.getfield 56, 3) := by decide +kernel
theorem d_G_crash_38 : decode b_G_crash 38 = .ok (.ifCond .eq 27, 3) := by decide +kernel
theorem d_G_crash_41 : decode b_G_crash 41 = .ok (.aload_n 0, 1) := by decide +kernel
theorem d_G_crash_42 : decode b_G_crash 42 = .ok (.invokevirtual 124, 3) := by decide +kernel
theorem d_G_crash_45 : decode b_G_crash 45 = .ok (.getfield 77, 3) := by decide +kernel
theorem d_G_crash_48 : decode b_G_crash 48 = .ok (.ifCond .ne 17, 3) := by decide +kernel
theorem d_G_crash_51 : decode b_G_crash 51 = .ok (.aload_n 0, 1) := by decide +kernel
theorem d_G_crash_52 : decode b_G_crash 52 = .ok (.invokevirtual 189, 3) := by decide +kernel
theorem d_G_crash_55 : decode b_G_crash 55 = .ok (.getfield 192, 3) := by decide +kernel
theorem d_G_crash_58 : decode b_G_crash 58 = .ok (.ifCond .ne 7, 3) := by decide +kernel
theorem d_G_crash_61 : decode b_G_crash 61 = .ok (.aload_n 0, 1) := by decide +kernel
theorem d_G_crash_62 : decode b_G_crash 62 = .ok (.invokevirtual 179, 3) := by decide +kernel
theorem d_G_crash_65 : decode b_G_crash 65 = .ok (.iconst 1, 1) := by decide +kernel
theorem d_G_crash_66 : decode b_G_crash 66 = .ok (.ireturn, 1) := by decide +kernel
theorem d_G_move_0 : decode b_G_move 0 = .ok (.aload_n 0, 1) := by decide +kernel
theorem d_G_move_1 : decode b_G_move 1 = .ok (.getfield 25, 3) := by decide +kernel
theorem d_G_move_4 : decode b_G_move 4 = .ok (.getfield 56, 3) := by decide +kernel
theorem d_G_move_7 : decode b_G_move 7 = .ok (.ifCond .ne 41, 3) := by decide +kernel
theorem d_G_move_10 : decode b_G_move 10 = .ok (.aload_n 0, 1) := by decide +kernel
theorem d_G_move_11 : decode b_G_move 11 = .ok (.getfield 36, 3) := by decide +kernel
theorem d_G_move_14 : decode b_G_move 14 = .ok (.bipush (-2), 2) := by decide +kernel
theorem d_G_move_16 : decode b_G_move 16 = .ok (.if_icmp .eq 32, 3) := by decide +kernel
theorem d_G_move_19 : decode b_G_move 19 = .ok (.aload_n 0, 1) := by decide +kernel
theorem d_G_move_20 : decode b_G_move 20 = .ok (.aload_n 0, 1) := by decide +kernel
theorem d_G_move_21 : decode b_G_move 21 = .ok (.getfield 36, 3) := by decide +kernel
theorem d_G_move_24 : decode b_G_move 24 = .ok (.invokevirtual 80, 3) := by decide +kernel
theorem d_G_move_27 : decode b_G_move 27 = .ok (.ifCond .eq 21, 3) := by decide +kernel
theorem d_G_move_30 : decode b_G_move 30 = .ok (.aload_n 0, 1) := by decide +kernel
theorem d_G_move_31 : decode b_G_move 31 = .ok (.getfield 18, 3) := by decide +kernel
theorem d_G_move_34 : decode b_G_move 34 = .ok (.aload_n 0, 1) := by decide +kernel
theorem d_G_move_35 : decode b_G_move 35 = .ok (.getfield 36, 3) := by decide +kernel
theorem d_G_move_38 : decode b_G_move 38 = .ok (.invokestatic 112, 3) := by decide +kernel
theorem d_G_move_41 : decode b_G_move 41 = .ok (.aaload, 1) := by decide +kernel
theorem d_G_move_42 : decode b_G_move 42 = .ok (.getfield 48, 3) := by decide +kernel
theorem d_G_move_45 : decode b_G_move 45 = .ok (.ifCond .ne 6, 3) := by decide +kernel
theorem d_G_move_48 : decode b_G_move 48 = .ok (.bipush (-2), 2) := by decide +kernel
theorem d_G_move_50 : decode b_G_move 50 = .ok (.ireturn, 1) := by decide +kernel
theorem d_G_move_51 : decode b_G_move 51 = .ok (.aload_n 0, 1) := by decide +kernel
theorem d_G_move_52 : decode b_G_move 52 = .ok (.getfield 25, 3) := by decide +kernel
theorem d_G_move_55 : decode b_G_move 55 = .ok (.aload_n 0, 1) := by decide +kernel
theorem d_G_move_56 : decode b_G_move 56 = .ok (.getfield 36, 3) := by decide +kernel
theorem d_G_move_59 : decode b_G_move 59 = .ok (.invokevirtual 116, 3) := by decide +kernel
theorem d_G_move_62 : decode b_G_move 62 = .ok (.aload_n 0, 1) := by decide +kernel
theorem d_G_move_63 : decode b_G_move 63 = .ok (.getfield 18, 3) := by decide +kernel
theorem d_G_move_66 : decode b_G_move 66 = .ok (.aload_n 0, 1) := by decide +kernel
theorem d_G_move_67 : decode b_G_move 67 = .ok (.getfield 36, 3) := by decide +kernel
theorem d_G_move_70 : decode b_G_move 70 = .ok (.invokestatic 112, 3) := by decide +kernel
theorem d_G_move_73 : decode b_G_move 73 = .ok (.aaload, 1) := by decide +kernel
theorem d_G_move_74 : decode b_G_move 74 = .ok (.invokevirtual 120, 3) := by decide +kernel
theorem d_G_move_77 : decode b_G_move 77 = .ok (.aload_n 0, 1) := by decide +kernel
theorem d_G_move_78 : decode b_G_move 78 = .ok (.getfield 25, 3) := by decide +kernel
theorem d_G_move_81 : decode b_G_move 81 = .ok (.getfield 123, 3) := by decide +kernel
theorem d_G_move_84 : decode b_G_move 84 = .ok (.ireturn, 1) := by decide +kernel
theorem d_G_disk_0 : decode b_G_disk 0 = .ok (.iload_n 1, 1) := by decide +kernel
theorem d_G_disk_1 : decode b_G_disk 1 = .ok (.iconst 2, 1) := by decide +kernel
theorem d_G_disk_2 : decode b_G_disk 2 = .ok (.invokestatic 44, 3) := by decide +kernel
theorem d_G_disk_5 : decode b_G_disk 5 = .ok (.ifCond .ne 5, 3) := by decide +kernel
theorem d_G_disk_8 : decode b_G_disk 8 = .ok (.iconst (-1), 1) := by decide +kernel
theorem d_G_disk_9 : decode b_G_disk 9 = .ok (.ireturn, 1) := by decide +kernel
theorem d_G_disk_10 : decode b_G_disk 10 = .ok (.aload_n 0, 1) := by decide +kernel
theorem d_G_disk_11 : decode b_G_disk 11 = .ok (.getfield 18, 3) := by decide +kernel
theorem d_G_disk_14 : decode b_G_disk 14 = .ok (.iload_n 1, 1) := by decide +kernel
theorem d_G_disk_15 : decode b_G_disk 15 = .ok (.aaload, 1) := by decide +kernel
theorem d_G_disk_16 : decode b_G_disk 16 = .ok (.astore_n 2, 1) := by decide +kernel
theorem d_G_disk_17 : decode b_G_disk 17 = .ok (.aload_n 2, 1) := by decide +kernel
theorem d_G_disk_18 : decode b_G_disk 18 = .ok (.getfield 48, 3) := by decide +kernel
theorem d_G_disk_21 : decode b_G_disk 21 = .ok (.ifCond .eq 18, 3) := by decide +kernel
theorem d_G_disk_24 : decode b_G_disk 24 = .ok (.aload_n 2, 1) := by decide +kernel
theorem d_G_disk_25 : decode b_G_disk 25 = .ok (.getfield 94, 3) := by decide +kernel
theorem d_G_disk_28 : decode b_G_disk 28 = .ok (.ifCond .eq 11, 3) := by decide +kernel
theorem d_G_disk_31 : decode b_G_disk 31 = .ok (.aload_n 0, 1) := by decide +kernel
theorem d_G_disk_32 : decode b_G_disk 32 = .ok (.iload_n 1, 1) := by decide +kernel
theorem d_G_disk_33 : decode b_G_disk 33 = .ok (.invokevirtual 97, 3) := by decide +kernel
theorem d_G_disk_36 : decode b_G_disk 36 = .ok (.ifCond .eq 6, 3) := by decide +kernel
theorem d_G_disk_39 : decode b_G_disk 39 = .ok (.bipush (-2), 2) := by decide +kernel
theorem d_G_disk_41 : decode b_G_disk 41 = .ok (.ireturn, 1) := by decide +kernel
theorem d_G_disk_42 : decode b_G_disk 42 = .ok (.aload_n 2, 1) := by decide +kernel
theorem d_G_disk_43 : decode b_G_disk 43 = .ok (.iconst 0, 1) := by decide +kernel
theorem d_G_disk_44 : decode b_G_disk 44 = .ok (.putfield 94, 3) := by decide +kernel
theorem d_G_disk_47 : decode b_G_disk 47 = .ok (.aload_n 2, 1) := by decide +kernel
theorem d_G_disk_48 : decode b_G_disk 48 = .ok (.getfield 100, 3) := by decide +kernel
theorem d_G_disk_51 : decode b_G_disk 51 = .ok (.aload_n 0, 1) := by decide +kernel
theorem d_G_disk_52 : decode b_G_disk 52 = .ok (.getfield 40, 3) := by decide +kernel
theorem d_G_disk_55 : decode b_G_disk 55 = .ok (.if_icmp .eq 5, 3) := by decide +kernel
theorem d_G_disk_58 : decode b_G_disk 58 = .ok (.iconst 0, 1) := by decide +kernel
theorem d_G_disk_59 : decode b_G_disk 59 = .ok (.ireturn, 1) := by decide +kernel
theorem d_G_disk_60 : decode b_G_disk 60 = .ok (.aload_n 0, 1) := by decide +kernel
theorem d_G_disk_61 : decode b_G_disk 61 = .ok (.getfield 13, 3) := by decide +kernel
theorem d_G_disk_64 : decode b_G_disk 64 = .ok (.aload_n 2, 1) := by decide +kernel
theorem d_G_disk_65 : decode b_G_disk 65 = .ok (.getfield 103, 3) := by decide +kernel
theorem d_G_disk_68 : decode b_G_disk 68 = .ok (.aload_n 2, 1) := by decide +kernel
theorem d_G_disk_69 : decode b_G_disk 69 = .ok (.getfield 106, 3) := by decide +kernel
theorem d_G_disk_72 : decode b_G_disk 72 = .ok (.iastore, 1) := by decide +kernel
theorem d_G_disk_73 : decode b_G_disk 73 = .ok (.aload_n 2, 1) := by decide +kernel
theorem d_G_disk_74 : decode b_G_disk 74 = .ok (.getfield 77, 3) := by decide +kernel
theorem d_G_disk_77 : decode b_G_disk 77 = .ok (.ifCond .eq 11, 3) := by decide +kernel
theorem d_G_disk_80 : decode b_G_disk 80 = .ok (.aload_n 2, 1) := by decide +kernel
theorem d_G_disk_81 : decode b_G_disk 81 = .ok (.getfield 59, 3) := by decide +kernel
theorem d_G_disk_84 : decode b_G_disk 84 = .ok (.iconst 0, 1) := by decide +kernel
theorem d_G_disk_85 : decode b_G_disk 85 = .ok (.putfield 109, 3) := by decide +kernel
theorem d_G_disk_88 : decode b_G_disk 88 = .ok (.iconst 1, 1) := by decide +kernel
theorem d_G_disk_89 : decode b_G_disk 89 = .ok (.ireturn, 1) := by decide +kernel
