theorem d_A_clear_16 : decode b_A_clear 16 = .ok (.aload_n 0, 1) := by decide +kernel
theorem d_A_clear_17 : decode b_A_clear 17 = .ok (.iconst 0, 1) := by decide +kernel
theorem d_A_clear_18 : decode b_A_clear 18 = .ok (.putfield 24, 3) := by decide +kernel
theorem d_A_clear_21 : decode b_A_clear 21 = .ok (.aload_n 0, 1) := by decide +kernel
theorem d_A_clear_22 : decode b_A_clear 22 = .ok (.iconst 0, 1) := by decide +kernel
theorem d_A_clear_23 : decode b_A_clear 23 = .ok (.putfield 28, 3) := by decide +kernel
theorem d_A_clear_26 : decode b_A_clear 26 = .ok (.aload_n 0, 1) := by decide +kernel
theorem d_A_clear_27 : decode b_A_clear 27 = .ok (.iconst 0, 1) := by decide +kernel
theorem d_A_clear_28 : decode b_A_clear 28 = .ok (.putfield 31, 3) := by decide +kernel
theorem d_A_clear_31 : decode b_A_clear 31 = .ok (.aload_n 0, 1) := by decide +kernel
theorem d_A_clear_32 : decode b_A_clear 32 = .ok (.iconst 0, 1) := by decide +kernel
theorem d_A_clear_33 : decode b_A_clear 33 = .ok (.putfield 34, 3) := by decide +kernel
theorem d_A_clear_36 : decode b_A_clear 36 = .ok (.aload_n 0, 1) := by decide +kernel
theorem d_A_clear_37 : decode b_A_clear 37 = .ok (.iconst 0, 1) := by decide +kernel
theorem d_A_clear_38 : decode b_A_clear 38 = .ok (.putfield 37, 3) := by decide +kernel
theorem d_A_clear_41 : decode b_A_clear 41 = .ok (.aload_n 0, 1) := by decide +kernel
theorem d_A_clear_42 : decode b_A_clear 42 = .ok (.iconst 0, 1) := by decide +kernel
theorem d_A_clear_43 : decode b_A_clear 43 = .ok (.putfield 40, 3) := by decide +kernel
theorem d_A_clear_46 : decode b_A_clear 46 = .ok (.return_, 1) := by decide +kernel
theorem d_H_joinAsTarget_0 : decode b_H_joinAsTarget 0 = .ok (.aload_n 0, 1) := by decide +kernel
theorem d_H_joinAsTarget_1 : decode b_H_joinAsTarget 1 = .ok (.getfield 12, 3) := by decide +kernel
theorem d_H_joinAsTarget_4 : decode b_H_joinAsTarget 4 = .ok (.invokevirtual 54, 3) := by decide +kernel
theorem d_H_joinAsTarget_7 : decode b_H_joinAsTarget 7 = .ok (.aload_n 0, 1) := by decide +kernel
theorem d_H_joinAsTarget_8 : decode b_H_joinAsTarget 8 = .ok (.getfield 18, 3) := by decide +kernel
theorem d_H_joinAsTarget_11 : decode b_H_joinAsTarget 11 = .ok (.iconst 0, 1) := by decide +kernel
theorem d_H_joinAsTarget_12 : decode b_H_joinAsTarget 12 = .ok (.invokestatic 57, 3) := by decide +kernel
theorem d_H_joinAsTarget_15 : decode b_H_joinAsTarget 15 = .ok (.aload_n 0, 1) := by decide +kernel
theorem d_H_joinAsTarget_16 : decode b_H_joinAsTarget 16 = .ok (.iconst 1, 1) := by decide +kernel
theorem d_H_joinAsTarget_17 : decode b_H_joinAsTarget 17 = .ok (.putfield 29, 3) := by decide +kernel
theorem d_H_joinAsTarget_20 : decode b_H_joinAsTarget 20 = .ok (.return_, 1) := by decide +kernel
theorem d_V_begin_0 : decode b_V_begin 0 = .ok (.aload_n 0, 1) := by decide +kernel
theorem d_V_begin_1 : decode b_V_begin 1 = .ok (.getfield 9, 3) := by decide +kernel
theorem d_V_begin_4 : decode b_V_begin 4 = .ok (.iconst 0, 1) := by decide +kernel
theorem d_V_begin_5 : decode b_V_begin 5 = .ok (.invokestatic 41, 3) := by decide +kernel
theorem d_V_begin_8 : decode b_V_begin 8 = .ok (.aload_n 0, 1) := by decide +kernel
theorem d_V_begin_9 : decode b_V_begin 9 = .ok (.iconst 1, 1) := by decide +kernel
theorem d_V_begin_10 : decode b_V_begin 10 = .ok (.putfield 18, 3) := by decide +kernel
theorem d_V_begin_13 : decode b_V_begin 13 = .ok (.aload_n 0, 1) := by decide +kernel
theorem d_V_begin_14 : decode b_V_begin 14 = .ok (.iconst 0, 1) := by decide +kernel
theorem d_V_begin_15 : decode b_V_begin 15 = .ok (.putfield 22, 3) := by decide +kernel
theorem d_V_begin_18 : decode b_V_begin 18 = .ok (.aload_n 0, 1) := by decide +kernel
theorem d_V_begin_19 : decode b_V_begin 19 = .ok (.dup, 1) := by decide +kernel
theorem d_V_begin_20 : decode b_V_begin 20 = .ok (.getfield 25, 3) := by decide +kernel
theorem d_V_begin_23 : decode b_V_begin 23 = .ok (.iconst 1, 1) := by decide +kernel
theorem d_V_begin_24 : decode b_V_begin 24 = .ok (.iadd, 1) := by decide +kernel
theorem d_V_begin_25 : decode b_V_begin 25 = .ok (.putfield 25, 3) := by decide +kernel
theorem d_V_begin_28 : decode b_V_begin 28 = .ok (.aload_n 0, 1) := by decide +kernel
theorem d_V_begin_29 : decode b_V_begin 29 = .ok (.iload_n 1, 1) := by decide +kernel
theorem d_V_begin_30 : decode b_V_begin 30 = .ok (.putfield 29, 3) := by decide +kernel
theorem d_V_begin_33 : decode b_V_begin 33 = .ok (.aload_n 0, 1) := by decide +kernel
theorem d_V_begin_34 : decode b_V_begin 34 = .ok (.iconst 0, 1) := by decide +kernel
theorem d_V_begin_35 : decode b_V_begin 35 = .ok (.putfield 32, 3) := by decide +kernel
theorem d_V_begin_38 : decode b_V_begin 38 = .ok (.aload_n 0, 1) := by decide +kernel
theorem d_V_begin_39 : decode b_V_begin 39 = .ok (.iconst 0, 1) := by decide +kernel
theorem d_V_begin_40 : decode b_V_begin 40 = .ok (.putfield 35, 3) := by decide +kernel
theorem d_V_begin_43 : decode b_V_begin 43 = .ok (.aload_n 0, 1) := by decide +kernel
theorem d_V_begin_44 : decode b_V_begin 44 = .ok (.iconst 0, 1) := by decide +kernel
theorem d_V_begin_45 : decode b_V_begin 45 = .ok (.putfield 38, 3) := by decide +kernel
theorem d_V_begin_48 : decode b_V_begin 48 = .ok (.return_, 1) := by decide +kernel
theorem d_G_holdsStopped_0 : decode b_G_holdsStopped 0 = .ok (.aload_n 0, 1) := by decide +kernel
theorem d_G_holdsStopped_1 : decode b_G_holdsStopped 1 = .ok (.getfield 18, 3) := by decide +kernel
theorem d_G_holdsStopped_4 : decode b_G_holdsStopped 4 = .ok (.iload_n 1, 1) := by decide +kernel
theorem d_G_holdsStopped_5 : decode b_G_holdsStopped 5 = .ok (.aaload, 1) := by decide +kernel
theorem d_G_holdsStopped_6 : decode b_G_holdsStopped 6 = .ok (.getfield 77, 3) := by decide +kernel
theorem d_G_holdsStopped_9 : decode b_G_holdsStopped 9 = .ok (.ifCond .eq 27, 3) := by decide +kernel
theorem d_G_holdsStopped_12 : decode b_G_holdsStopped 12 = .ok (.aload_n 0, 1) := by decide +kernel
theorem d_G_holdsStopped_13 : decode b_G_holdsStopped 13 = .ok (.getfield 25, 3) := by decide +kernel
theorem d_G_holdsStopped_16 : decode b_G_holdsStopped 16 = .ok (.getfield 56, 3) := by decide +kernel
theorem d_G_holdsStopped_19 : decode b_G_holdsStopped 19 = .ok (.ifCond .eq 17, 3) := by decide +kernel
theorem d_G_holdsStopped_22 : decode b_G_holdsStopped 22 = .ok (.aload_n 0, 1) := by decide +kernel
theorem d_G_holdsStopped_23 : decode b_G_holdsStopped 23 = .ok (.getfield 25, 3) := by decide +kernel
theorem d_G_holdsStopped_26 : decode b_G_holdsStopped 26 = .ok (.getfield 132, 3) := by decide +kernel
theorem d_G_holdsStopped_29 : decode b_G_holdsStopped 29 = .ok (.ifCond .eq 7, 3) := by decide +kernel
theorem d_G_holdsStopped_32 : decode b_G_holdsStopped 32 = .ok (.iconst 1, 1) := by decide +kernel
theorem d_G_holdsStopped_33 : decode b_G_holdsStopped 33 = .ok (.goto 4, 3) := by decide +kernel
theorem d_G_holdsStopped_36 : decode b_G_holdsStopped 36 = .ok (.iconst 0, 1) := by decide +kernel
theorem d_G_holdsStopped_37 : decode b_G_holdsStopped 37 = .ok (.ireturn, 1) := by decide +kernel
theorem d_G_runsGuest_0 : decode b_G_runsGuest 0 = .ok (.aload_n 0, 1) := by decide +kernel
theorem d_G_runsGuest_1 : decode b_G_runsGuest 1 = .ok (.getfield 18, 3) := by decide +kernel
theorem d_G_runsGuest_4 : decode b_G_runsGuest 4 = .ok (.iload_n 1, 1) := by decide +kernel
theorem d_G_runsGuest_5 : decode b_G_runsGuest 5 = .ok (.aaload, 1) := by decide +kernel
theorem d_G_runsGuest_6 : decode b_G_runsGuest 6 = .ok (.getfield 48, 3) := by decide +kernel
theorem d_G_runsGuest_9 : decode b_G_runsGuest 9 = .ok (.ifCond .eq 35, 3) := by decide +kernel
theorem d_G_runsGuest_12 : decode b_G_runsGuest 12 = .ok (.aload_n 0, 1) := by decide +kernel
theorem d_G_runsGuest_13 : decode b_G_runsGuest 13 = .ok (.getfield 18, 3) := by decide +kernel
theorem d_G_runsGuest_16 : decode b_G_runsGuest 16 = .ok (.iload_n 1, 1) := by decide +kernel
theorem d_G_runsGuest_17 : decode b_G_runsGuest 17 = .ok (.aaload, 1) := by decide +kernel
theorem d_G_runsGuest_18 : decode b_G_runsGuest 18 = .ok (.getfield 77, 3) := by decide +kernel
theorem d_G_runsGuest_21 : decode b_G_runsGuest 21 = .ok (.ifCond .eq 23, 3) := by decide +kernel
theorem d_G_runsGuest_24 : decode b_G_runsGuest 24 = .ok (.aload_n 0, 1) := by decide +kernel
theorem d_G_runsGuest_25 : decode b_G_runsGuest 25 = .ok (.getfield 36, 3) := by decide +kernel
theorem d_G_runsGuest_28 : decode b_G_runsGuest 28 = .ok (.iload_n 1, 1) := by decide +kernel
theorem d_G_runsGuest_29 : decode b_G_runsGuest 29 = .ok (.if_icmp .ne 15, 3) := by decide +kernel
theorem d_G_runsGuest_32 : decode b_G_runsGuest 32 = .ok (.aload_n 0, 1) := by decide +kernel
theorem d_G_runsGuest_33 : decode b_G_runsGuest 33 = .ok (.iload_n 1, 1) := by decide +kernel
theorem d_G_runsGuest_34 : decode b_G_runsGuest 34 = .ok (.invokevirtual 97, 3) := by decide +kernel
theorem d_G_runsGuest_37 : decode b_G_runsGuest 37 = .ok (.ifCond .ne 7, 3) := by decide +kernel
theorem d_G_runsGuest_40 : decode b_G_runsGuest 40 = .ok (.iconst 1, 1) := by decide +kernel
theorem d_G_runsGuest_41 : decode b_G_runsGuest 41 = .ok (.goto 4, 3) := by decide +kernel
theorem d_G_runsGuest_44 : decode b_G_runsGuest 44 = .ok (.iconst 0, 1) := by decide +kernel
theorem d_G_runsGuest_45 : decode b_G_runsGuest 45 = .ok (.ireturn, 1) := by decide +kernel
theorem d_G_source_0 : decode b_G_source 0 = .ok (.aload_n 0, 1) := by decide +kernel
theorem d_G_source_1 : decode b_G_source 1 = .ok (.getfield 18, 3) := by decide +kernel
theorem d_G_source_4 : decode b_G_source 4 = .ok (.aload_n 0, 1) := by decide +kernel
theorem d_G_source_5 : decode b_G_source 5 = .ok (.getfield 25, 3) := by decide +kernel
theorem d_G_source_8 : decode b_G_source 8 = .ok (.getfield 198, 3) := by decide +kernel
theorem d_G_source_11 : decode b_G_source 11 = .ok (.aaload, 1) := by decide +kernel
theorem d_G_source_12 : decode b_G_source 12 = .ok (.areturn, 1) := by decide +kernel
theorem d_G_target_0 : decode b_G_target 0 = .ok (.aload_n 0, 1) := by decide +kernel
theorem d_G_target_1 : decode b_G_target 1 = .ok (.getfield 18, 3) := by decide +kernel
theorem d_G_target_4 : decode b_G_target 4 = .ok (.aload_n 0, 1) := by decide +kernel
theorem d_G_target_5 : decode b_G_target 5 = .ok (.getfield 25, 3) := by decide +kernel
theorem d_G_target_8 : decode b_G_target 8 = .ok (.getfield 198, 3) := by decide +kernel
theorem d_G_target_11 : decode b_G_target 11 = .ok (.invokestatic 112, 3) := by decide +kernel
theorem d_G_target_14 : decode b_G_target 14 = .ok (.aaload, 1) := by decide +kernel
theorem d_G_target_15 : decode b_G_target 15 = .ok (.areturn, 1) := by decide +kernel
theorem d_G_storeWord_0 : decode b_G_storeWord 0 = .ok (.aload_n 1, 1) := by decide +kernel
theorem d_G_storeWord_1 : decode b_G_storeWord 1 = .ok (.getfield 68, 3) := by decide +kernel
theorem d_G_storeWord_4 : decode b_G_storeWord 4 = .ok (.iload_n 2, 1) := by decide +kernel
theorem d_G_storeWord_5 : decode b_G_storeWord 5 = .ok (.iload_n 3, 1) := by decide +kernel
theorem d_G_storeWord_6 : decode b_G_storeWord 6 = .ok (.iastore, 1) := by decide +kernel
theorem d_G_storeWord_7 : decode b_G_storeWord 7 = .ok (.aload_n 0, 1) := by decide +kernel
theorem d_G_storeWord_8 : decode b_G_storeWord 8 = .ok (.getfield 25, 3) := by decide +kernel
theorem d_G_storeWord_11 : decode b_G_storeWord 11 = .ok (.iload_n 2, 1) := by decide +kernel
theorem d_G_storeWord_12 : decode b_G_storeWord 12 = .ok (.bipush 8, 2) := by decide +kernel
theorem d_G_storeWord_14 : decode b_G_storeWord 14 = .ok (.idiv, 1) := by decide +kernel
theorem d_G_storeWord_15 : decode b_G_storeWord 15 = .ok (.invokevirtual 257, 3) := by decide +kernel
theorem d_G_storeWord_18 : decode b_G_storeWord 18 = .ok (.return_, 1) := by decide +kernel
theorem d_G_perform_0 : decode b_G_perform 0 = .ok (.aload_n 1, 1) := by decide +kernel
theorem d_G_perform_1 : decode b_G_perform 1 = .ok (.getfield 59, 3) := by decide +kernel
theorem d_G_perform_4 : decode b_G_perform 4 = .ok (.astore_n 3, 1) := by decide +kernel
theorem d_G_perform_5 : decode b_G_perform 5 = .ok (.iload_n 2, 1) := by decide +kernel
theorem d_G_perform_6 : decode b_G_perform 6 = .ok (.iconst 4, 1) := by decide +kernel
theorem d_G_perform_7 : decode b_G_perform 7 = .ok (.ishr, 1) := by decide +kernel
theorem d_G_perform_8 : decode b_G_perform 8 = .ok (.iconst 3, 1) := by decide +kernel
theorem d_G_perform_9 : decode b_G_perform 9 = .ok (.iand, 1) := by decide +kernel
theorem d_G_perform_10 : decode b_G_perform 10 = .ok (.istore 4, 2) := by decide +kernel
theorem d_G_perform_12 : decode b_G_perform 12 = .ok (.iload_n 2, 1) := by decide +kernel
theorem d_G_perform_13 : decode b_G_perform 13 = .ok (.bipush 8, 2) := by decide +kernel
theorem d_G_perform_15 : decode b_G_perform 15 = .ok (.ishr, 1) := by decide +kernel
theorem d_G_perform_16 : decode b_G_perform 16 = .ok (.bipush 7, 2) := by decide +kernel
theorem d_G_perform_18 : decode b_G_perform 18 = .ok (.iand, 1) := by decide +kernel
theorem d_G_perform_19 : decode b_G_perform 19 = .ok (.istore 5, 2) := by decide +kernel
theorem d_G_perform_21 : decode b_G_perform 21 = .ok (.iload_n 2, 1) := by decide +kernel
theorem d_G_perform_22 : decode b_G_perform 22 = .ok (.bipush 15, 2) := by decide +kernel
theorem d_G_perform_24 : decode b_G_perform 24 = .ok (.iand, 1) := by decide +kernel
theorem d_G_perform_25 : decode b_G_perform 25 = .ok (.lookupswitch 96 #[(6, 35), (11, 55), (12, 79)], 35) := by decide +kernel
theorem d_G_perform_60 : decode b_G_perform 60 = .ok (.aload_n 0, 1) := by decide +kernel
theorem d_G_perform_61 : decode b_G_perform 61 = .ok (.aload_n 3, 1) := by decide +kernel
theorem d_G_perform_62 : decode b_G_perform 62 = .ok (.aload_n 3, 1) := by decide +kernel
theorem d_G_perform_63 : decode b_G_perform 63 = .ok (.iload_n 2, 1) := by decide +kernel
theorem d_G_perform_64 : decode b_G_perform 64 = .ok (.invokevirtual 240, 3) := by decide +kernel
theorem d_G_perform_67 : decode b_G_perform 67 = .ok (.aload_n 3, 1) := by decide +kernel
theorem d_G_perform_68 : decode b_G_perform 68 = .ok (.getfield 209, 3) := by decide +kernel
theorem d_G_perform_71 : decode b_G_perform 71 = .ok (.iload 4, 2) := by decide +kernel
theorem d_G_perform_73 : decode b_G_perform 73 = .ok (.iaload, 1) := by decide +kernel
theorem d_G_perform_74 : decode b_G_perform 74 = .ok (.invokevirtual 243, 3) := by decide +kernel
theorem d_G_perform_77 : decode b_G_perform 77 = .ok (.goto 49, 3) := by decide +kernel
theorem d_G_perform_80 : decode b_G_perform 80 = .ok (.aload_n 3, 1) := by decide +kernel
theorem d_G_perform_81 : decode b_G_perform 81 = .ok (.iload 5, 2) := by decide +kernel
theorem d_G_perform_83 : decode b_G_perform 83 = .ok (.aload_n 3, 1) := by decide +kernel
theorem d_G_perform_84 : decode b_G_perform 84 = .ok (.getfield 209, 3) := by decide +kernel
theorem d_G_perform_87 : decode b_G_perform 87 = .ok (.iload 4, 2) := by decide +kernel
theorem d_G_perform_89 : decode b_G_perform 89 = .ok (.iaload, 1) := by decide +kernel
theorem d_G_perform_90 : decode b_G_perform 90 = .ok (.invokevirtual 247, 3) := by decide +kernel
theorem d_G_perform_93 : decode b_G_perform 93 = .ok (.aload_n 1, 1) := by decide +kernel
theorem d_G_perform_94 : decode b_G_perform 94 = .ok (.aload_n 0, 1) := by decide +kernel
theorem d_G_perform_95 : decode b_G_perform 95 = .ok (.getfield 40, 3) := by decide +kernel
theorem d_G_perform_98 : decode b_G_perform 98 = .ok (.invokevirtual 251, 3) := by decide +kernel
theorem d_G_perform_101 : decode b_G_perform 101 = .ok (.goto 25, 3) := by decide +kernel
theorem d_G_perform_104 : decode b_G_perform 104 = .ok (.aload_n 3, 1) := by decide +kernel
theorem d_G_perform_105 : decode b_G_perform 105 = .ok (.getfield 209, 3) := by decide +kernel
theorem d_G_perform_108 : decode b_G_perform 108 = .ok (.iload 4, 2) := by decide +kernel
theorem d_G_perform_110 : decode b_G_perform 110 = .ok (.aload_n 0, 1) := by decide +kernel
theorem d_G_perform_111 : decode b_G_perform 111 = .ok (.getfield 13, 3) := by decide +kernel
theorem d_G_perform_114 : decode b_G_perform 114 = .ok (.iload 5, 2) := by decide +kernel
theorem d_G_perform_116 : decode b_G_perform 116 = .ok (.iaload, 1) := by decide +kernel
theorem d_G_perform_117 : decode b_G_perform 117 = .ok (.iastore, 1) := by decide +kernel
theorem d_G_perform_118 : decode b_G_perform 118 = .ok (.goto 8, 3) := by decide +kernel
theorem d_G_perform_121 : decode b_G_perform 121 = .ok (.aload_n 3, 1) := by decide +kernel
theorem d_G_perform_122 : decode b_G_perform 122 = .ok (.iload_n 2, 1) := by decide +kernel
theorem d_G_perform_123 : decode b_G_perform 123 = .ok (.invokevirtual 254, 3) := by decide +kernel
theorem d_G_perform_126 : decode b_G_perform 126 = .ok (.return_, 1) := by decide +kernel
theorem d_G_retireNext_0 : decode b_G_retireNext 0 = .ok (.aload_n 1, 1) := by decide +kernel
theorem d_G_retireNext_1 : decode b_G_retireNext 1 = .ok (.getfield 59, 3) := by decide +kernel
theorem d_G_retireNext_4 : decode b_G_retireNext 4 = .ok (.astore_n 2, 1) := by decide +kernel
theorem d_G_retireNext_5 : decode b_G_retireNext 5 = .ok (.aload_n 2, 1) := by decide +kernel
theorem d_G_retireNext_6 : decode b_G_retireNext 6 = .ok (.getfield 68, 3) := by decide +kernel
theorem d_G_retireNext_9 : decode b_G_retireNext 9 = .ok (.aload_n 2, 1) := by decide +kernel
theorem d_G_retireNext_10 : decode b_G_retireNext 10 = .ok (.getfield 212, 3) := by decide +kernel
theorem d_G_retireNext_13 : decode b_G_retireNext 13 = .ok (.iaload, 1) := by decide +kernel
theorem d_G_retireNext_14 : decode b_G_retireNext 14 = .ok (.istore_n 3, 1) := by decide +kernel
theorem d_G_retireNext_15 : decode b_G_retireNext 15 = .ok (.aload_n 2, 1) := by decide +kernel
theorem d_G_retireNext_16 : decode b_G_retireNext 16 = .ok (.iload_n 3, 1) := by decide +kernel
theorem d_G_retireNext_17 : decode b_G_retireNext 17 = .ok (.bipush 15, 2) := by decide +kernel
theorem d_G_retireNext_19 : decode b_G_retireNext 19 = .ok (.iand, 1) := by decide +kernel
theorem d_G_retireNext_20 : decode b_G_retireNext 20 = .ok (.invokevirtual 230, 3) := by decide +kernel
theorem d_G_retireNext_23 : decode b_G_retireNext 23 = .ok (.ifCond .eq 5, 3) := by decide +kernel
theorem d_G_retireNext_26 : decode b_G_retireNext 26 = .ok (.iconst 0, 1) := by decide +kernel
theorem d_G_retireNext_27 : decode b_G_retireNext 27 = .ok (.ireturn, 1) := by decide +kernel
theorem d_G_retireNext_28 : decode b_G_retireNext 28 = .ok (.aload_n 2, 1) := by decide +kernel
theorem d_G_retireNext_29 : decode b_G_retireNext 29 = .ok (.aload_n 2, 1) := by decide +kernel
theorem d_G_retireNext_30 : decode b_G_retireNext 30 = .ok (.getfield 212, 3) := by decide +kernel
theorem d_G_retireNext_33 : decode b_G_retireNext 33 = .ok (.iconst 1, 1) := by decide +kernel
theorem d_G_retireNext_34 : decode b_G_retireNext 34 = .ok (.iadd, 1) := by decide +kernel
theorem d_G_retireNext_35 : decode b_G_retireNext 35 = .ok (.bipush 64, 2) := by decide +kernel
theorem d_G_retireNext_37 : decode b_G_retireNext 37 = .ok (.irem, 1) := by decide +kernel
theorem d_G_retireNext_38 : decode b_G_retireNext 38 = .ok (.putfield 212, 3) := by decide +kernel
theorem d_G_retireNext_41 : decode b_G_retireNext 41 = .ok (.aload_n 0, 1) := by decide +kernel
theorem d_G_retireNext_42 : decode b_G_retireNext 42 = .ok (.aload_n 1, 1) := by decide +kernel
theorem d_G_retireNext_43 : decode b_G_retireNext 43 = .ok (.iload_n 3, 1) := by decide +kernel
theorem d_G_retireNext_44 : decode b_G_retireNext 44 = .ok (.invokevirtual 233, 3) := by decide +kernel
theorem d_G_retireNext_47 : decode b_G_retireNext 47 = .ok (.aload_n 2, 1) := by decide +kernel
theorem d_G_retireNext_48 : decode b_G_retireNext 48 = .ok (.dup, 1) := by decide +kernel
theorem d_G_retireNext_49 : decode b_G_retireNext 49 = .ok (.getfield 218, 3) := by decide +kernel
theorem d_G_retireNext_52 : decode b_G_retireNext 52 = .ok (.iconst 1, 1) := by decide +kernel
theorem d_G_retireNext_53 : decode b_G_retireNext 53 = .ok (.iadd, 1) := by decide +kernel
theorem d_G_retireNext_54 : decode b_G_retireNext 54 = .ok (.putfield 218, 3) := by decide +kernel
theorem d_G_retireNext_57 : decode b_G_retireNext 57 = .ok (.aload_n 2, 1) := by decide +kernel
theorem d_G_retireNext_58 : decode b_G_retireNext 58 = .ok (.invokevirtual 237, 3) := by decide +kernel
theorem d_G_retireNext_61 : decode b_G_retireNext 61 = .ok (.iconst 1, 1) := by decide +kernel
theorem d_G_retireNext_62 : decode b_G_retireNext 62 = .ok (.ireturn, 1) := by decide +kernel
theorem d_G_image_0 : decode b_G_image 0 = .ok (.iload_n 1, 1) := by decide +kernel
theorem d_G_image_1 : decode b_G_image 1 = .ok (.bipush 64, 2) := by decide +kernel
theorem d_G_image_3 : decode b_G_image 3 = .ok (.invokestatic 44, 3) := by decide +kernel
theorem d_G_image_6 : decode b_G_image 6 = .ok (.ifCond .ne 5, 3) := by decide +kernel
theorem d_G_image_9 : decode b_G_image 9 = .ok (.iconst 0, 1) := by decide +kernel
theorem d_G_image_10 : decode b_G_image 10 = .ok (.ireturn, 1) := by decide +kernel
theorem d_G_image_11 : decode b_G_image 11 = .ok (.aload_n 0, 1) := by decide +kernel
theorem d_G_image_12 : decode b_G_image 12 = .ok (.getfield 9, 3) := by decide +kernel
theorem d_G_image_15 : decode b_G_image 15 = .ok (.iload_n 1, 1) := by decide +kernel
theorem d_G_image_16 : decode b_G_image 16 = .ok (.iload_n 2, 1) := by decide +kernel
theorem d_G_image_17 : decode b_G_image 17 = .ok (.iastore, 1) := by decide +kernel
theorem d_G_image_18 : decode b_G_image 18 = .ok (.iconst 1, 1) := by decide +kernel
theorem d_G_image_19 : decode b_G_image 19 = .ok (.ireturn, 1) := by decide +kernel
theorem d_G_block_0 : decode b_G_block 0 = .ok (.iload_n 1, 1) := by decide +kernel
theorem d_G_block_1 : decode b_G_block 1 = .ok (.bipush 8, 2) := by decide +kernel
theorem d_G_block_3 : decode b_G_block 3 = .ok (.invokestatic 44, 3) := by decide +kernel
theorem d_G_block_6 : decode b_G_block 6 = .ok (.ifCond .eq 12, 3) := by decide +kernel
theorem d_G_block_9 : decode b_G_block 9 = .ok (.aload_n 0, 1) := by decide +kernel
theorem d_G_block_10 : decode b_G_block 10 = .ok (.getfield 13, 3) := by decide +kernel
theorem d_G_block_13 : decode b_G_block 13 = .ok (.iload_n 1, 1) := by decide +kernel
theorem d_G_block_14 : decode b_G_block 14 = .ok (.iaload, 1) := by decide +kernel
theorem d_G_block_15 : decode b_G_block 15 = .ok (.goto 4, 3) := by decide +kernel
theorem d_G_block_18 : decode b_G_block 18 = .ok (.iconst 0, 1) := by decide +kernel
theorem d_G_block_19 : decode b_G_block 19 = .ok (.ireturn, 1) := by decide +kernel
theorem d_G_isUp_0 : decode b_G_isUp 0 = .ok (.iload_n 1, 1) := by decide +kernel
theorem d_G_isUp_1 : decode b_G_isUp 1 = .ok (.iconst 2, 1) := by decide +kernel
theorem d_G_isUp_2 : decode b_G_isUp 2 = .ok (.invokestatic 44, 3) := by decide +kernel
theorem d_G_isUp_5 : decode b_G_isUp 5 = .ok (.ifCond .eq 19, 3) := by decide +kernel
theorem d_G_isUp_8 : decode b_G_isUp 8 = .ok (.aload_n 0, 1) := by decide +kernel
theorem d_G_isUp_9 : decode b_G_isUp 9 = .ok (.getfield 18, 3) := by decide +kernel
theorem d_G_isUp_12 : decode b_G_isUp 12 = .ok (.iload_n 1, 1) := by decide +kernel
theorem d_G_isUp_13 : decode b_G_isUp 13 = .ok (.aaload, 1) := by decide +kernel
theorem d_G_isUp_14 : decode b_G_isUp 14 = .ok (.getfield 48, 3) := by decide +kernel
theorem d_G_isUp_17 : decode b_G_isUp 17 = .ok (.ifCond .eq 7, 3) := by decide +kernel
theorem d_G_isUp_20 : decode b_G_isUp 20 = .ok (.iconst 1, 1) := by decide +kernel
theorem d_G_isUp_21 : decode b_G_isUp 21 = .ok (.goto 4, 3) := by decide +kernel
theorem d_G_isUp_24 : decode b_G_isUp 24 = .ok (.iconst 0, 1) := by decide +kernel
theorem d_G_isUp_25 : decode b_G_isUp 25 = .ok (.ireturn, 1) := by decide +kernel
theorem d_G_back_0 : decode b_G_back 0 = .ok (.iload_n 1, 1) := by decide +kernel
theorem d_G_back_1 : decode b_G_back 1 = .ok (.iconst 2, 1) := by decide +kernel
theorem d_G_back_2 : decode b_G_back 2 = .ok (.invokestatic 44, 3) := by decide +kernel
theorem d_G_back_5 : decode b_G_back 5 = .ok (.ifCond .eq 15, 3) := by decide +kernel
theorem d_G_back_8 : decode b_G_back 8 = .ok (.aload_n 0, 1) := by decide +kernel
theorem d_G_back_9 : decode b_G_back 9 = .ok (.getfield 18, 3) := by decide +kernel
theorem d_G_back_12 : decode b_G_back 12 = .ok (.iload_n 1, 1) := by decide +kernel
theorem d_G_back_13 : decode b_G_back 13 = .ok (.aaload, 1) := by decide +kernel
theorem d_G_back_14 : decode b_G_back 14 = .ok (.getfield 48, 3) := by decide +kernel
theorem d_G_back_17 : decode b_G_back 17 = .ok (.ifCond .eq 5, 3) := by decide +kernel
theorem d_G_back_20 : decode b_G_back 20 = .ok (.iconst 0, 1) := by decide +kernel
theorem d_G_back_21 : decode b_G_back 21 = .ok (.ireturn, 1) := by decide +kernel
theorem d_G_back_22 : decode b_G_back 22 = .ok (.aload_n 0, 1) := by decide +kernel
theorem d_G_back_23 : decode b_G_back 23 = .ok (.getfield 18, 3) := by decide +kernel
theorem d_G_back_26 : decode b_G_back 26 = .ok (.iload_n 1, 1) := by decide +kernel
theorem d_G_back_27 : decode b_G_back 27 = .ok (.aaload, 1) := by decide +kernel
theorem d_G_back_28 : decode b_G_back 28 = .ok (.iconst 1, 1) := by decide +kernel
theorem d_G_back_29 : decode b_G_back 29 = .ok (.putfield 48, 3) := by decide +kernel
theorem d_G_back_32 : decode b_G_back 32 = .ok (.iconst 1, 1) := by decide +kernel
theorem d_G_back_33 : decode b_G_back 33 = .ok (.ireturn, 1) := by decide +kernel
theorem d_G_memory_0 : decode b_G_memory 0 = .ok (.iload_n 1, 1) := by decide +kernel
theorem d_G_memory_1 : decode b_G_memory 1 = .ok (.iconst 2, 1) := by decide +kernel
theorem d_G_memory_2 : decode b_G_memory 2 = .ok (.invokestatic 44, 3) := by decide +kernel
theorem d_G_memory_5 : decode b_G_memory 5 = .ok (.ifCond .eq 12, 3) := by decide +kernel
theorem d_G_memory_8 : decode b_G_memory 8 = .ok (.iload_n 2, 1) := by decide +kernel
theorem d_G_memory_9 : decode b_G_memory 9 = .ok (.bipush 64, 2) := by decide +kernel
theorem d_G_memory_11 : decode b_G_memory 11 = .ok (.invokestatic 44, 3) := by decide +kernel
theorem d_G_memory_14 : decode b_G_memory 14 = .ok (.ifCond .ne 5, 3) := by decide +kernel
theorem d_G_memory_17 : decode b_G_memory 17 = .ok (.iconst 0, 1) := by decide +kernel
theorem d_G_memory_18 : decode b_G_memory 18 = .ok (.ireturn, 1) := by decide +kernel
theorem d_G_memory_19 : decode b_G_memory 19 = .ok (.aload_n 0, 1) := by decide +kernel
theorem d_G_memory_20 : decode b_G_memory 20 = .ok (.getfield 18, 3) := by decide +kernel
theorem d_G_memory_23 : decode b_G_memory 23 = .ok (.iload_n 1, 1) := by decide +kernel
theorem d_G_memory_24 : decode b_G_memory 24 = .ok (.aaload, 1) := by decide +kernel
theorem d_G_memory_25 : decode b_G_memory 25 = .ok (.astore_n 3, 1) := by decide +kernel
theorem d_G_memory_26 : decode b_G_memory 26 = .ok (.aload_n 3, 1) := by decide +kernel
theorem d_G_memory_27 : decode b_G_memory 27 = .ok (.getfield 77, 3) := by decide +kernel
theorem d_G_memory_30 : decode b_G_memory 30 = .ok (.ifCond .ne 10, 3) := by decide +kernel
theorem d_G_memory_33 : decode b_G_memory 33 = .ok (.aload_n 3, 1) := by decide +kernel
theorem d_G_memory_34 : decode b_G_memory 34 = .ok (.getfield 224, 3) := by decide +kernel
theorem d_G_memory_37 : decode b_G_memory 37 = .ok (.ifCond .eq 15, 3) := by decide +kernel
theorem d_G_memory_40 : decode b_G_memory 40 = .ok (.aload_n 3, 1) := by decide +kernel
theorem d_G_memory_41 : decode b_G_memory 41 = .ok (.getfield 59, 3) := by decide +kernel
theorem d_G_memory_44 : decode b_G_memory 44 = .ok (.getfield 68, 3) := by decide +kernel
theorem d_G_memory_47 : decode b_G_memory 47 = .ok (.iload_n 2, 1) := by decide +kernel
theorem d_G_memory_48 : decode b_G_memory 48 = .ok (.iaload, 1) := by decide +kernel
theorem d_G_memory_49 : decode b_G_memory 49 = .ok (.goto 4, 3) := by decide +kernel
theorem d_G_memory_52 : decode b_G_memory 52 = .ok (.iconst 0, 1) := by decide +kernel
theorem d_G_memory_53 : decode b_G_memory 53 = .ok (.ireturn, 1) := by decide +kernel
theorem d_G_input_0 : decode b_G_input 0 = .ok (.iload_n 1, 1) := by decide +kernel
theorem d_G_input_1 : decode b_G_input 1 = .ok (.iconst 2, 1) := by decide +kernel
theorem d_G_input_2 : decode b_G_input 2 = .ok (.invokestatic 44, 3) := by decide +kernel
theorem d_G_input_5 : decode b_G_input 5 = .ok (.ifCond .ne 5, 3) := by decide +kernel
theorem d_G_input_8 : decode b_G_input 8 = .ok (.iconst (-1), 1) := by decide +kernel
theorem d_G_input_9 : decode b_G_input 9 = .ok (.ireturn, 1) := by decide +kernel
theorem d_G_input_10 : decode b_G_input 10 = .ok (.aload_n 0, 1) := by decide +kernel
theorem d_G_input_11 : decode b_G_input 11 = .ok (.iload_n 1, 1) := by decide +kernel
theorem d_G_input_12 : decode b_G_input 12 = .ok (.invokevirtual 80, 3) := by decide +kernel
theorem d_G_input_15 : decode b_G_input 15 = .ok (.ifCond .ne 6, 3) := by decide +kernel
theorem d_G_input_18 : decode b_G_input 18 = .ok (.bipush (-2), 2) := by decide +kernel
theorem d_G_input_20 : decode b_G_input 20 = .ok (.ireturn, 1) := by decide +kernel
theorem d_G_input_21 : decode b_G_input 21 = .ok (.aload_n 0, 1) := by decide +kernel
theorem d_G_input_22 : decode b_G_input 22 = .ok (.getfield 18, 3) := by decide +kernel
theorem d_G_input_25 : decode b_G_input 25 = .ok (.iload_n 1, 1) := by decide +kernel
theorem d_G_input_26 : decode b_G_input 26 = .ok (.aaload, 1) := by decide +kernel
theorem d_G_input_27 : decode b_G_input 27 = .ok (.getfield 59, 3) := by decide +kernel
theorem d_G_input_30 : decode b_G_input 30 = .ok (.astore_n 3, 1) := by decide +kernel
theorem d_G_input_31 : decode b_G_input 31 = .ok (.aload_n 3, 1) := by decide +kernel
theorem d_G_input_32 : decode b_G_input 32 = .ok (.getfield 88, 3) := by decide +kernel
theorem d_G_input_35 : decode b_G_input 35 = .ok (.bipush 8, 2) := by decide +kernel
theorem d_G_input_37 : decode b_G_input 37 = .ok (.if_icmp .ne 6, 3) := by decide +kernel
theorem d_G_input_40 : decode b_G_input 40 = .ok (.bipush (-3), 2) := by decide +kernel
theorem d_G_input_42 : decode b_G_input 42 = .ok (.ireturn, 1) := by decide +kernel
theorem d_G_input_43 : decode b_G_input 43 = .ok (.aload_n 3, 1) := by decide +kernel
theorem d_G_input_44 : decode b_G_input 44 = .ok (.getfield 91, 3) := by decide +kernel
theorem d_G_input_47 : decode b_G_input 47 = .ok (.aload_n 3, 1) := by decide +kernel
theorem d_G_input_48 : decode b_G_input 48 = .ok (.getfield 88, 3) := by decide +kernel
theorem d_G_input_51 : decode b_G_input 51 = .ok (.iload_n 2, 1) := by decide +kernel
theorem d_G_input_52 : decode b_G_input 52 = .ok (.iastore, 1) := by decide +kernel
theorem d_G_input_53 : decode b_G_input 53 = .ok (.aload_n 3, 1) := by decide +kernel
theorem d_G_input_54 : decode b_G_input 54 = .ok (.dup, 1) := by decide +kernel
theorem d_G_input_55 : decode b_G_input 55 = .ok (.getfield 88, 3) := by decide +kernel
theorem d_G_input_58 : decode b_G_input 58 = .ok (.iconst 1, 1) := by decide +kernel
theorem d_G_input_59 : decode b_G_input 59 = .ok (.iadd, 1) := by decide +kernel
theorem d_G_input_60 : decode b_G_input 60 = .ok (.putfield 88, 3) := by decide +kernel
theorem d_G_input_63 : decode b_G_input 63 = .ok (.aload_n 3, 1) := by decide +kernel
theorem d_G_input_64 : decode b_G_input 64 = .ok (.getfield 88, 3) := by decide +kernel
theorem d_G_input_67 : decode b_G_input 67 = .ok (.ireturn, 1) := by decide +kernel
theorem d_G_guest_0 : decode b_G_guest 0 = .ok (.iload_n 1, 1) := by decide +kernel
theorem d_G_guest_1 : decode b_G_guest 1 = .ok (.iconst 2, 1) := by decide +kernel
theorem d_G_guest_2 : decode b_G_guest 2 = .ok (.invokestatic 44, 3) := by decide +kernel
theorem d_G_guest_5 : decode b_G_guest 5 = .ok (.ifCond .eq 15, 3) := by decide +kernel
theorem d_G_guest_8 : decode b_G_guest 8 = .ok (.aload_n 0, 1) := by decide +kernel
theorem d_G_guest_9 : decode b_G_guest 9 = .ok (.getfield 18, 3) := by decide +kernel
theorem d_G_guest_12 : decode b_G_guest 12 = .ok (.iload_n 1, 1) := by decide +kernel
theorem d_G_guest_13 : decode b_G_guest 13 = .ok (.aaload, 1) := by decide +kernel
theorem d_G_guest_14 : decode b_G_guest 14 = .ok (.getfield 77, 3) := by decide +kernel
theorem d_G_guest_17 : decode b_G_guest 17 = .ok (.ifCond .ne 5, 3) := by decide +kernel
theorem d_G_guest_20 : decode b_G_guest 20 = .ok (.iconst 0, 1) := by decide +kernel
theorem d_G_guest_21 : decode b_G_guest 21 = .ok (.ireturn, 1) := by decide +kernel
theorem d_G_guest_22 : decode b_G_guest 22 = .ok (.aload_n 0, 1) := by decide +kernel
theorem d_G_guest_23 : decode b_G_guest 23 = .ok (.getfield 18, 3) := by decide +kernel
theorem d_G_guest_26 : decode b_G_guest 26 = .ok (.iload_n 1, 1) := by decide +kernel
theorem d_G_guest_27 : decode b_G_guest 27 = .ok (.aaload, 1) := by decide +kernel
theorem d_G_guest_28 : decode b_G_guest 28 = .ok (.getfield 59, 3) := by decide +kernel
theorem d_G_guest_31 : decode b_G_guest 31 = .ok (.astore_n 3, 1) := by decide +kernel
theorem d_G_guest_32 : decode b_G_guest 32 = .ok (.iload_n 2, 1) := by decide +kernel
theorem d_G_guest_33 : decode b_G_guest 33 = .ok (.iconst 4, 1) := by decide +kernel
theorem d_G_guest_34 : decode b_G_guest 34 = .ok (.invokestatic 44, 3) := by decide +kernel
theorem d_G_guest_37 : decode b_G_guest 37 = .ok (.ifCond .eq 10, 3) := by decide +kernel
theorem d_G_guest_40 : decode b_G_guest 40 = .ok (.aload_n 3, 1) := by decide +kernel
theorem d_G_guest_41 : decode b_G_guest 41 = .ok (.getfield 209, 3) := by decide +kernel
theorem d_G_guest_44 : decode b_G_guest 44 = .ok (.iload_n 2, 1) := by decide +kernel
theorem d_G_guest_45 : decode b_G_guest 45 = .ok (.iaload, 1) := by decide +kernel
theorem d_G_guest_46 : decode b_G_guest 46 = .ok (.ireturn, 1) := by decide +kernel
theorem d_G_guest_47 : decode b_G_guest 47 = .ok (.iload_n 2, 1) := by decide +kernel
theorem d_G_guest_48 : decode b_G_guest 48 = .ok (.tableswitch 78 4 9 #[40, 45, 50, 55, 60, 65], 40) := by decide +kernel
theorem d_G_guest_88 : decode b_G_guest 88 = .ok (.aload_n 3, 1) := by decide +kernel
theorem d_G_guest_89 : decode b_G_guest 89 = .ok (.getfield 212, 3) := by decide +kernel
theorem d_G_guest_92 : decode b_G_guest 92 = .ok (.ireturn, 1) := by decide +kernel
theorem d_G_guest_93 : decode b_G_guest 93 = .ok (.aload_n 3, 1) := by decide +kernel
theorem d_G_guest_94 : decode b_G_guest 94 = .ok (.getfield 215, 3) := by decide +kernel
theorem d_G_guest_97 : decode b_G_guest 97 = .ok (.ireturn, 1) := by decide +kernel
theorem d_G_guest_98 : decode b_G_guest 98 = .ok (.aload_n 3, 1) := by decide +kernel
theorem d_G_guest_99 : decode b_G_guest 99 = .ok (.getfield 218, 3) := by decide +kernel
theorem d_G_guest_102 : decode b_G_guest 102 = .ok (.ireturn, 1) := by decide +kernel
theorem d_G_guest_103 : decode b_G_guest 103 = .ok (.aload_n 3, 1) := by decide +kernel
theorem d_G_guest_104 : decode b_G_guest 104 = .ok (.getfield 88, 3) := by decide +kernel
theorem d_G_guest_107 : decode b_G_guest 107 = .ok (.ireturn, 1) := by decide +kernel
theorem d_G_guest_108 : decode b_G_guest 108 = .ok (.aload_n 3, 1) := by decide +kernel
theorem d_G_guest_109 : decode b_G_guest 109 = .ok (.getfield 221, 3) := by decide +kernel
theorem d_G_guest_112 : decode b_G_guest 112 = .ok (.ireturn, 1) := by decide +kernel
theorem d_G_guest_113 : decode b_G_guest 113 = .ok (.aload_n 3, 1) := by decide +kernel
theorem d_G_guest_114 : decode b_G_guest 114 = .ok (.getfield 109, 3) := by decide +kernel
theorem d_G_guest_117 : decode b_G_guest 117 = .ok (.ifCond .eq 7, 3) := by decide +kernel
theorem d_G_guest_120 : decode b_G_guest 120 = .ok (.iconst 1, 1) := by decide +kernel
theorem d_G_guest_121 : decode b_G_guest 121 = .ok (.goto 4, 3) := by decide +kernel
theorem d_G_guest_124 : decode b_G_guest 124 = .ok (.iconst 0, 1) := by decide +kernel
theorem d_G_guest_125 : decode b_G_guest 125 = .ok (.ireturn, 1) := by decide +kernel
theorem d_G_guest_126 : decode b_G_guest 126 = .ok (.iconst 0, 1) := by decide +kernel
theorem d_G_guest_127 : decode b_G_guest 127 = .ok (.ireturn, 1) := by decide +kernel
theorem d_G_output_0 : decode b_G_output 0 = .ok (.iload_n 1, 1) := by decide +kernel
theorem d_G_output_1 : decode b_G_output 1 = .ok (.iconst 2, 1) := by decide +kernel
theorem d_G_output_2 : decode b_G_output 2 = .ok (.invokestatic 44, 3) := by decide +kernel
theorem d_G_output_5 : decode b_G_output 5 = .ok (.ifCond .eq 15, 3) := by decide +kernel
theorem d_G_output_8 : decode b_G_output 8 = .ok (.aload_n 0, 1) := by decide +kernel
theorem d_G_output_9 : decode b_G_output 9 = .ok (.getfield 18, 3) := by decide +kernel
theorem d_G_output_12 : decode b_G_output 12 = .ok (.iload_n 1, 1) := by decide +kernel
theorem d_G_output_13 : decode b_G_output 13 = .ok (.aaload, 1) := by decide +kernel
theorem d_G_output_14 : decode b_G_output 14 = .ok (.getfield 77, 3) := by decide +kernel
theorem d_G_output_17 : decode b_G_output 17 = .ok (.ifCond .ne 5, 3) := by decide +kernel
theorem d_G_output_20 : decode b_G_output 20 = .ok (.iconst 0, 1) := by decide +kernel
theorem d_G_output_21 : decode b_G_output 21 = .ok (.ireturn, 1) := by decide +kernel
theorem d_G_output_22 : decode b_G_output 22 = .ok (.aload_n 0, 1) := by decide +kernel
theorem d_G_output_23 : decode b_G_output 23 = .ok (.getfield 18, 3) := by decide +kernel
theorem d_G_output_26 : decode b_G_output 26 = .ok (.iload_n 1, 1) := by decide +kernel
theorem d_G_output_27 : decode b_G_output 27 = .ok (.aaload, 1) := by decide +kernel
theorem d_G_output_28 : decode b_G_output 28 = .ok (.getfield 59, 3) := by decide +kernel
theorem d_G_output_31 : decode b_G_output 31 = .ok (.astore_n 3, 1) := by decide +kernel
theorem d_G_output_32 : decode b_G_output 32 = .ok (.iload_n 2, 1) := by decide +kernel
theorem d_G_output_33 : decode b_G_output 33 = .ok (.aload_n 3, 1) := by decide +kernel
theorem d_G_output_34 : decode b_G_output 34 = .ok (.getfield 221, 3) := by decide +kernel
theorem d_G_output_37 : decode b_G_output 37 = .ok (.invokestatic 44, 3) := by decide +kernel
theorem d_G_output_40 : decode b_G_output 40 = .ok (.ifCond .eq 12, 3) := by decide +kernel
theorem d_G_output_43 : decode b_G_output 43 = .ok (.aload_n 3, 1) := by decide +kernel
theorem d_G_output_44 : decode b_G_output 44 = .ok (.getfield 227, 3) := by decide +kernel
theorem d_G_output_47 : decode b_G_output 47 = .ok (.iload_n 2, 1) := by decide +kernel
theorem d_G_output_48 : decode b_G_output 48 = .ok (.iaload, 1) := by decide +kernel
theorem d_G_output_49 : decode b_G_output 49 = .ok (.goto 4, 3) := by decide +kernel
theorem d_G_output_52 : decode b_G_output 52 = .ok (.iconst 0, 1) := by decide +kernel
theorem d_G_output_53 : decode b_G_output 53 = .ok (.ireturn, 1) := by decide +kernel
theorem d_G_told_0 : decode b_G_told 0 = .ok (.iload_n 1, 1) := by decide +kernel
theorem d_G_told_1 : decode b_G_told 1 = .ok (.tableswitch 210 0 8 #[51, 56, 61, 83, 106, 132, 154, 162, 188], 51) := by decide +kernel
theorem d_G_told_52 : decode b_G_told 52 = .ok (.aload_n 0, 1) := by decide +kernel
theorem d_G_told_53 : decode b_G_told 53 = .ok (.getfield 36, 3) := by decide +kernel
theorem d_G_told_56 : decode b_G_told 56 = .ok (.ireturn, 1) := by decide +kernel
theorem d_G_told_57 : decode b_G_told 57 = .ok (.aload_n 0, 1) := by decide +kernel
theorem d_G_told_58 : decode b_G_told 58 = .ok (.getfield 40, 3) := by decide +kernel
theorem d_G_told_61 : decode b_G_told 61 = .ok (.ireturn, 1) := by decide +kernel
theorem d_G_told_62 : decode b_G_told 62 = .ok (.aload_n 0, 1) := by decide +kernel
theorem d_G_told_63 : decode b_G_told 63 = .ok (.getfield 25, 3) := by decide +kernel
theorem d_G_told_66 : decode b_G_told 66 = .ok (.getfield 56, 3) := by decide +kernel
theorem d_G_told_69 : decode b_G_told 69 = .ok (.ifCond .eq 13, 3) := by decide +kernel
theorem d_G_told_72 : decode b_G_told 72 = .ok (.aload_n 0, 1) := by decide +kernel
theorem d_G_told_73 : decode b_G_told 73 = .ok (.getfield 25, 3) := by decide +kernel
theorem d_G_told_76 : decode b_G_told 76 = .ok (.getfield 123, 3) := by decide +kernel
theorem d_G_told_79 : decode b_G_told 79 = .ok (.goto 4, 3) := by decide +kernel
theorem d_G_told_82 : decode b_G_told 82 = .ok (.iconst 0, 1) := by decide +kernel
theorem d_G_told_83 : decode b_G_told 83 = .ok (.ireturn, 1) := by decide +kernel
theorem d_G_told_84 : decode b_G_told 84 = .ok (.aload_n 0, 1) := by decide +kernel
theorem d_G_told_85 : decode b_G_told 85 = .ok (.getfield 25, 3) := by decide +kernel
theorem d_G_told_88 : decode b_G_told 88 = .ok (.getfield 56, 3) := by decide +kernel
theorem d_G_told_91 : decode b_G_told 91 = .ok (.ifCond .eq 13, 3) := by decide +kernel
theorem d_G_told_94 : decode b_G_told 94 = .ok (.aload_n 0, 1) := by decide +kernel
theorem d_G_told_95 : decode b_G_told 95 = .ok (.getfield 25, 3) := by decide +kernel
theorem d_G_told_98 : decode b_G_told 98 = .ok (.getfield 198, 3) := by decide +kernel
theorem d_G_told_101 : decode b_G_told 101 = .ok (.goto 5, 3) := by decide +kernel
theorem d_G_told_104 : decode b_G_told 104 = .ok (.bipush (-2), 2) := by decide +kernel
theorem d_G_told_106 : decode b_G_told 106 = .ok (.ireturn, 1) := by decide +kernel
theorem d_G_told_107 : decode b_G_told 107 = .ok (.aload_n 0, 1) := by decide +kernel
theorem d_G_told_108 : decode b_G_told 108 = .ok (.getfield 25, 3) := by decide +kernel
theorem d_G_told_111 : decode b_G_told 111 = .ok (.getfield 56, 3) := by decide +kernel
theorem d_G_told_114 : decode b_G_told 114 = .ok (.ifCond .eq 17, 3) := by decide +kernel
theorem d_G_told_117 : decode b_G_told 117 = .ok (.aload_n 0, 1) := by decide +kernel
theorem d_G_told_118 : decode b_G_told 118 = .ok (.getfield 25, 3) := by decide +kernel
theorem d_G_told_121 : decode b_G_told 121 = .ok (.getfield 132, 3) := by decide +kernel
theorem d_G_told_124 : decode b_G_told 124 = .ok (.ifCond .eq 7, 3) := by decide +kernel
theorem d_G_told_127 : decode b_G_told 127 = .ok (.iconst 1, 1) := by decide +kernel
theorem d_G_told_128 : decode b_G_told 128 = .ok (.goto 4, 3) := by decide +kernel
theorem d_G_told_131 : decode b_G_told 131 = .ok (.iconst 0, 1) := by decide +kernel
theorem d_G_told_132 : decode b_G_told 132 = .ok (.ireturn, 1) := by decide +kernel
theorem d_G_told_133 : decode b_G_told 133 = .ok (.aload_n 0, 1) := by decide +kernel
theorem d_G_told_134 : decode b_G_told 134 = .ok (.getfield 25, 3) := by decide +kernel
theorem d_G_told_137 : decode b_G_told 137 = .ok (.getfield 56, 3) := by decide +kernel
theorem d_G_told_140 : decode b_G_told 140 = .ok (.ifCond .eq 13, 3) := by decide +kernel
theorem d_G_told_143 : decode b_G_told 143 = .ok (.aload_n 0, 1) := by decide +kernel
theorem d_G_told_144 : decode b_G_told 144 = .ok (.getfield 25, 3) := by decide +kernel
theorem d_G_told_147 : decode b_G_told 147 = .ok (.invokevirtual 144, 3) := by decide +kernel
theorem d_G_told_150 : decode b_G_told 150 = .ok (.goto 4, 3) := by decide +kernel
theorem d_G_told_153 : decode b_G_told 153 = .ok (.iconst 0, 1) := by decide +kernel
theorem d_G_told_154 : decode b_G_told 154 = .ok (.ireturn, 1) := by decide +kernel
theorem d_G_told_155 : decode b_G_told 155 = .ok (.aload_n 0, 1) := by decide +kernel
theorem d_G_told_156 : decode b_G_told 156 = .ok (.getfield 32, 3) := by decide +kernel
theorem d_G_told_159 : decode b_G_told 159 = .ok (.getfield 162, 3) := by decide +kernel
theorem d_G_told_162 : decode b_G_told 162 = .ok (.ireturn, 1) := by decide +kernel
theorem d_G_told_163 : decode b_G_told 163 = .ok (.aload_n 0, 1) := by decide +kernel
theorem d_G_told_164 : decode b_G_told 164 = .ok (.getfield 25, 3) := by decide +kernel
theorem d_G_told_167 : decode b_G_told 167 = .ok (.getfield 56, 3) := by decide +kernel
theorem d_G_told_170 : decode b_G_told 170 = .ok (.ifCond .eq 17, 3) := by decide +kernel
theorem d_G_told_173 : decode b_G_told 173 = .ok (.aload_n 0, 1) := by decide +kernel
theorem d_G_told_174 : decode b_G_told 174 = .ok (.invokevirtual 189, 3) := by decide +kernel
theorem d_G_told_177 : decode b_G_told 177 = .ok (.getfield 192, 3) := by decide +kernel
theorem d_G_told_180 : decode b_G_told 180 = .ok (.ifCond .eq 7, 3) := by decide +kernel
theorem d_G_told_183 : decode b_G_told 183 = .ok (.iconst 1, 1) := by decide +kernel
theorem d_G_told_184 : decode b_G_told 184 = .ok (.goto 4, 3) := by decide +kernel
theorem d_G_told_187 : decode b_G_told 187 = .ok (.iconst 0, 1) := by decide +kernel
theorem d_G_told_188 : decode b_G_told 188 = .ok (.ireturn, 1) := by decide +kernel
theorem d_G_told_189 : decode b_G_told 189 = .ok (.aload_n 0, 1) := by decide +kernel
theorem d_G_told_190 : decode b_G_told 190 = .ok (.getfield 25, 3) := by decide +kernel
theorem d_G_told_193 : decode b_G_told 193 = .ok (.getfield 56, 3) := by decide +kernel
