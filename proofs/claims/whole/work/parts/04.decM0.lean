theorem d_M_isHost_0 : decode b_M_isHost 0 = .ok (.iload_n 0, 1) := by decide +kernel
theorem d_M_isHost_1 : decode b_M_isHost 1 = .ok (.ifCond .eq 8, 3) := by decide +kernel
theorem d_M_isHost_4 : decode b_M_isHost 4 = .ok (.iload_n 0, 1) := by decide +kernel
theorem d_M_isHost_5 : decode b_M_isHost 5 = .ok (.iconst 1, 1) := by decide +kernel
theorem d_M_isHost_6 : decode b_M_isHost 6 = .ok (.if_icmp .ne 7, 3) := by decide +kernel
theorem d_M_isHost_9 : decode b_M_isHost 9 = .ok (.iconst 1, 1) := by decide +kernel
theorem d_M_isHost_10 : decode b_M_isHost 10 = .ok (.goto 4, 3) := by decide +kernel
theorem d_M_isHost_13 : decode b_M_isHost 13 = .ok (.iconst 0, 1) := by decide +kernel
theorem d_M_isHost_14 : decode b_M_isHost 14 = .ok (.ireturn, 1) := by decide +kernel
theorem d_M_runs_0 : decode b_M_runs 0 = .ok (.aload_n 0, 1) := by decide +kernel
theorem d_M_runs_1 : decode b_M_runs 1 = .ok (.getfield 19, 3) := by decide +kernel
theorem d_M_runs_4 : decode b_M_runs 4 = .ok (.iload_n 1, 1) := by decide +kernel
theorem d_M_runs_5 : decode b_M_runs 5 = .ok (.baload, 1) := by decide +kernel
theorem d_M_runs_6 : decode b_M_runs 6 = .ok (.ifCond .eq 31, 3) := by decide +kernel
theorem d_M_runs_9 : decode b_M_runs 9 = .ok (.aload_n 0, 1) := by decide +kernel
theorem d_M_runs_10 : decode b_M_runs 10 = .ok (.getfield 23, 3) := by decide +kernel
theorem d_M_runs_13 : decode b_M_runs 13 = .ok (.iload_n 1, 1) := by decide +kernel
theorem d_M_runs_14 : decode b_M_runs 14 = .ok (.baload, 1) := by decide +kernel
theorem d_M_runs_15 : decode b_M_runs 15 = .ok (.ifCond .eq 22, 3) := by decide +kernel
theorem d_M_runs_18 : decode b_M_runs 18 = .ok (.aload_n 0, 1) := by decide +kernel
theorem d_M_runs_19 : decode b_M_runs 19 = .ok (.getfield 29, 3) := by decide +kernel
theorem d_M_runs_22 : decode b_M_runs 22 = .ok (.iload_n 1, 1) := by decide +kernel
theorem d_M_runs_23 : decode b_M_runs 23 = .ok (.if_icmp .ne 14, 3) := by decide +kernel
theorem d_M_runs_26 : decode b_M_runs 26 = .ok (.aload_n 0, 1) := by decide +kernel
theorem d_M_runs_27 : decode b_M_runs 27 = .ok (.getfield 72, 3) := by decide +kernel
theorem d_M_runs_30 : decode b_M_runs 30 = .ok (.ifCond .ne 7, 3) := by decide +kernel
theorem d_M_runs_33 : decode b_M_runs 33 = .ok (.iconst 1, 1) := by decide +kernel
theorem d_M_runs_34 : decode b_M_runs 34 = .ok (.goto 4, 3) := by decide +kernel
theorem d_M_runs_37 : decode b_M_runs 37 = .ok (.iconst 0, 1) := by decide +kernel
theorem d_M_runs_38 : decode b_M_runs 38 = .ok (.ireturn, 1) := by decide +kernel
theorem d_M_image_0 : decode b_M_image 0 = .ok (.iload_n 1, 1) := by decide +kernel
theorem d_M_image_1 : decode b_M_image 1 = .ok (.ifCond .lt 9, 3) := by decide +kernel
theorem d_M_image_4 : decode b_M_image 4 = .ok (.iload_n 1, 1) := by decide +kernel
theorem d_M_image_5 : decode b_M_image 5 = .ok (.bipush 63, 2) := by decide +kernel
theorem d_M_image_7 : decode b_M_image 7 = .ok (.if_icmp .le 5, 3) := by decide +kernel
theorem d_M_image_10 : decode b_M_image 10 = .ok (.iconst 0, 1) := by decide +kernel
theorem d_M_image_11 : decode b_M_image 11 = .ok (.ireturn, 1) := by decide +kernel
theorem d_M_image_12 : decode b_M_image 12 = .ok (.aload_n 0, 1) := by decide +kernel
theorem d_M_image_13 : decode b_M_image 13 = .ok (.getfield 7, 3) := by decide +kernel
theorem d_M_image_16 : decode b_M_image 16 = .ok (.iload_n 1, 1) := by decide +kernel
theorem d_M_image_17 : decode b_M_image 17 = .ok (.iload_n 2, 1) := by decide +kernel
theorem d_M_image_18 : decode b_M_image 18 = .ok (.iastore, 1) := by decide +kernel
theorem d_M_image_19 : decode b_M_image 19 = .ok (.iconst 1, 1) := by decide +kernel
theorem d_M_image_20 : decode b_M_image 20 = .ok (.ireturn, 1) := by decide +kernel
theorem d_M_order_0 : decode b_M_order 0 = .ok (.aload_n 0, 1) := by decide +kernel
theorem d_M_order_1 : decode b_M_order 1 = .ok (.getfield 33, 3) := by decide +kernel
theorem d_M_order_4 : decode b_M_order 4 = .ok (.iload_n 1, 1) := by decide +kernel
theorem d_M_order_5 : decode b_M_order 5 = .ok (.iconst 1, 1) := by decide +kernel
theorem d_M_order_6 : decode b_M_order 6 = .ok (.bastore, 1) := by decide +kernel
theorem d_M_order_7 : decode b_M_order 7 = .ok (.aload_n 0, 1) := by decide +kernel
theorem d_M_order_8 : decode b_M_order 8 = .ok (.getfield 36, 3) := by decide +kernel
theorem d_M_order_11 : decode b_M_order 11 = .ok (.iload_n 1, 1) := by decide +kernel
theorem d_M_order_12 : decode b_M_order 12 = .ok (.aload_n 0, 1) := by decide +kernel
theorem d_M_order_13 : decode b_M_order 13 = .ok (.getfield 16, 3) := by decide +kernel
theorem d_M_order_16 : decode b_M_order 16 = .ok (.bipush 60, 2) := by decide +kernel
theorem d_M_order_18 : decode b_M_order 18 = .ok (.iload_n 1, 1) := by decide +kernel
theorem d_M_order_19 : decode b_M_order 19 = .ok (.imul, 1) := by decide +kernel
theorem d_M_order_20 : decode b_M_order 20 = .ok (.bipush 57, 2) := by decide +kernel
theorem d_M_order_22 : decode b_M_order 22 = .ok (.iadd, 1) := by decide +kernel
theorem d_M_order_23 : decode b_M_order 23 = .ok (.iaload, 1) := by decide +kernel
theorem d_M_order_24 : decode b_M_order 24 = .ok (.iastore, 1) := by decide +kernel
theorem d_M_order_25 : decode b_M_order 25 = .ok (.aload_n 0, 1) := by decide +kernel
theorem d_M_order_26 : decode b_M_order 26 = .ok (.getfield 39, 3) := by decide +kernel
theorem d_M_order_29 : decode b_M_order 29 = .ok (.iload_n 1, 1) := by decide +kernel
theorem d_M_order_30 : decode b_M_order 30 = .ok (.aload_n 0, 1) := by decide +kernel
theorem d_M_order_31 : decode b_M_order 31 = .ok (.getfield 16, 3) := by decide +kernel
theorem d_M_order_34 : decode b_M_order 34 = .ok (.bipush 60, 2) := by decide +kernel
theorem d_M_order_36 : decode b_M_order 36 = .ok (.iload_n 1, 1) := by decide +kernel
theorem d_M_order_37 : decode b_M_order 37 = .ok (.imul, 1) := by decide +kernel
theorem d_M_order_38 : decode b_M_order 38 = .ok (.bipush 58, 2) := by decide +kernel
theorem d_M_order_40 : decode b_M_order 40 = .ok (.iadd, 1) := by decide +kernel
theorem d_M_order_41 : decode b_M_order 41 = .ok (.iaload, 1) := by decide +kernel
theorem d_M_order_42 : decode b_M_order 42 = .ok (.iastore, 1) := by decide +kernel
theorem d_M_order_43 : decode b_M_order 43 = .ok (.aload_n 0, 1) := by decide +kernel
theorem d_M_order_44 : decode b_M_order 44 = .ok (.getfield 42, 3) := by decide +kernel
theorem d_M_order_47 : decode b_M_order 47 = .ok (.iload_n 1, 1) := by decide +kernel
theorem d_M_order_48 : decode b_M_order 48 = .ok (.aload_n 0, 1) := by decide +kernel
theorem d_M_order_49 : decode b_M_order 49 = .ok (.getfield 83, 3) := by decide +kernel
theorem d_M_order_52 : decode b_M_order 52 = .ok (.iastore, 1) := by decide +kernel
theorem d_M_order_53 : decode b_M_order 53 = .ok (.return_, 1) := by decide +kernel
theorem d_M_tick_0 : decode b_M_tick 0 = .ok (.aload_n 0, 1) := by decide +kernel
theorem d_M_tick_1 : decode b_M_tick 1 = .ok (.getfield 16, 3) := by decide +kernel
theorem d_M_tick_4 : decode b_M_tick 4 = .ok (.iload_n 1, 1) := by decide +kernel
theorem d_M_tick_5 : decode b_M_tick 5 = .ok (.iconst 5, 1) := by decide +kernel
theorem d_M_tick_6 : decode b_M_tick 6 = .ok (.iadd, 1) := by decide +kernel
theorem d_M_tick_7 : decode b_M_tick 7 = .ok (.iaload, 1) := by decide +kernel
theorem d_M_tick_8 : decode b_M_tick 8 = .ok (.ifCond .ne 4, 3) := by decide +kernel
theorem d_M_tick_11 : decode b_M_tick 11 = .ok (.return_, 1) := by decide +kernel
theorem d_M_tick_12 : decode b_M_tick 12 = .ok (.aload_n 0, 1) := by decide +kernel
theorem d_M_tick_13 : decode b_M_tick 13 = .ok (.getfield 16, 3) := by decide +kernel
theorem d_M_tick_16 : decode b_M_tick 16 = .ok (.iload_n 1, 1) := by decide +kernel
theorem d_M_tick_17 : decode b_M_tick 17 = .ok (.iconst 5, 1) := by decide +kernel
theorem d_M_tick_18 : decode b_M_tick 18 = .ok (.iadd, 1) := by decide +kernel
theorem d_M_tick_19 : decode b_M_tick 19 = .ok (.dup2, 1) := by decide +kernel
theorem d_M_tick_20 : decode b_M_tick 20 = .ok (.iaload, 1) := by decide +kernel
theorem d_M_tick_21 : decode b_M_tick 21 = .ok (.iconst 1, 1) := by decide +kernel
theorem d_M_tick_22 : decode b_M_tick 22 = .ok (.isub, 1) := by decide +kernel
theorem d_M_tick_23 : decode b_M_tick 23 = .ok (.iastore, 1) := by decide +kernel
theorem d_M_tick_24 : decode b_M_tick 24 = .ok (.aload_n 0, 1) := by decide +kernel
theorem d_M_tick_25 : decode b_M_tick 25 = .ok (.getfield 16, 3) := by decide +kernel
theorem d_M_tick_28 : decode b_M_tick 28 = .ok (.iload_n 1, 1) := by decide +kernel
theorem d_M_tick_29 : decode b_M_tick 29 = .ok (.iconst 5, 1) := by decide +kernel
theorem d_M_tick_30 : decode b_M_tick 30 = .ok (.iadd, 1) := by decide +kernel
theorem d_M_tick_31 : decode b_M_tick 31 = .ok (.iaload, 1) := by decide +kernel
theorem d_M_tick_32 : decode b_M_tick 32 = .ok (.ifCond .le 4, 3) := by decide +kernel
theorem d_M_tick_35 : decode b_M_tick 35 = .ok (.return_, 1) := by decide +kernel
theorem d_M_tick_36 : decode b_M_tick 36 = .ok (.aload_n 0, 1) := by decide +kernel
theorem d_M_tick_37 : decode b_M_tick 37 = .ok (.getfield 16, 3) := by decide +kernel
theorem d_M_tick_40 : decode b_M_tick 40 = .ok (.iload_n 1, 1) := by decide +kernel
theorem d_M_tick_41 : decode b_M_tick 41 = .ok (.iconst 3, 1) := by decide +kernel
theorem d_M_tick_42 : decode b_M_tick 42 = .ok (.iadd, 1) := by decide +kernel
theorem d_M_tick_43 : decode b_M_tick 43 = .ok (.aload_n 0, 1) := by decide +kernel
theorem d_M_tick_44 : decode b_M_tick 44 = .ok (.getfield 16, 3) := by decide +kernel
theorem d_M_tick_47 : decode b_M_tick 47 = .ok (.iload_n 1, 1) := by decide +kernel
theorem d_M_tick_48 : decode b_M_tick 48 = .ok (.iconst 4, 1) := by decide +kernel
theorem d_M_tick_49 : decode b_M_tick 49 = .ok (.iadd, 1) := by decide +kernel
theorem d_M_tick_50 : decode b_M_tick 50 = .ok (.iaload, 1) := by decide +kernel
theorem d_M_tick_51 : decode b_M_tick 51 = .ok (.iastore, 1) := by decide +kernel
theorem d_M_tick_52 : decode b_M_tick 52 = .ok (.aload_n 0, 1) := by decide +kernel
theorem d_M_tick_53 : decode b_M_tick 53 = .ok (.getfield 16, 3) := by decide +kernel
theorem d_M_tick_56 : decode b_M_tick 56 = .ok (.iload_n 1, 1) := by decide +kernel
theorem d_M_tick_57 : decode b_M_tick 57 = .ok (.iconst 4, 1) := by decide +kernel
theorem d_M_tick_58 : decode b_M_tick 58 = .ok (.iadd, 1) := by decide +kernel
theorem d_M_tick_59 : decode b_M_tick 59 = .ok (.bipush 56, 2) := by decide +kernel
theorem d_M_tick_61 : decode b_M_tick 61 = .ok (.iastore, 1) := by decide +kernel
theorem d_M_tick_62 : decode b_M_tick 62 = .ok (.return_, 1) := by decide +kernel
theorem d_M_end_0 : decode b_M_end 0 = .ok (.aload_n 0, 1) := by decide +kernel
theorem d_M_end_1 : decode b_M_end 1 = .ok (.iconst 0, 1) := by decide +kernel
theorem d_M_end_2 : decode b_M_end 2 = .ok (.putfield 80, 3) := by decide +kernel
theorem d_M_end_5 : decode b_M_end 5 = .ok (.aload_n 0, 1) := by decide +kernel
theorem d_M_end_6 : decode b_M_end 6 = .ok (.iconst 0, 1) := by decide +kernel
theorem d_M_end_7 : decode b_M_end 7 = .ok (.putfield 110, 3) := by decide +kernel
theorem d_M_end_10 : decode b_M_end 10 = .ok (.aload_n 0, 1) := by decide +kernel
theorem d_M_end_11 : decode b_M_end 11 = .ok (.iconst 0, 1) := by decide +kernel
theorem d_M_end_12 : decode b_M_end 12 = .ok (.putfield 113, 3) := by decide +kernel
theorem d_M_end_15 : decode b_M_end 15 = .ok (.aload_n 0, 1) := by decide +kernel
theorem d_M_end_16 : decode b_M_end 16 = .ok (.iconst 0, 1) := by decide +kernel
theorem d_M_end_17 : decode b_M_end 17 = .ok (.putfield 72, 3) := by decide +kernel
theorem d_M_end_20 : decode b_M_end 20 = .ok (.return_, 1) := by decide +kernel
theorem d_M_written_0 : decode b_M_written 0 = .ok (.aload_n 0, 1) := by decide +kernel
theorem d_M_written_1 : decode b_M_written 1 = .ok (.getfield 13, 3) := by decide +kernel
theorem d_M_written_4 : decode b_M_written 4 = .ok (.bipush 64, 2) := by decide +kernel
theorem d_M_written_6 : decode b_M_written 6 = .ok (.iload_n 1, 1) := by decide +kernel
theorem d_M_written_7 : decode b_M_written 7 = .ok (.imul, 1) := by decide +kernel
theorem d_M_written_8 : decode b_M_written 8 = .ok (.iload_n 2, 1) := by decide +kernel
theorem d_M_written_9 : decode b_M_written 9 = .ok (.iadd, 1) := by decide +kernel
theorem d_M_written_10 : decode b_M_written 10 = .ok (.iload_n 3, 1) := by decide +kernel
theorem d_M_written_11 : decode b_M_written 11 = .ok (.iastore, 1) := by decide +kernel
theorem d_M_written_12 : decode b_M_written 12 = .ok (.aload_n 0, 1) := by decide +kernel
theorem d_M_written_13 : decode b_M_written 13 = .ok (.getfield 80, 3) := by decide +kernel
theorem d_M_written_16 : decode b_M_written 16 = .ok (.ifCond .eq 21, 3) := by decide +kernel
theorem d_M_written_19 : decode b_M_written 19 = .ok (.aload_n 0, 1) := by decide +kernel
theorem d_M_written_20 : decode b_M_written 20 = .ok (.getfield 86, 3) := by decide +kernel
theorem d_M_written_23 : decode b_M_written 23 = .ok (.iload_n 1, 1) := by decide +kernel
theorem d_M_written_24 : decode b_M_written 24 = .ok (.if_icmp .ne 13, 3) := by decide +kernel
theorem d_M_written_27 : decode b_M_written 27 = .ok (.aload_n 0, 1) := by decide +kernel
theorem d_M_written_28 : decode b_M_written 28 = .ok (.getfield 45, 3) := by decide +kernel
theorem d_M_written_31 : decode b_M_written 31 = .ok (.iload_n 2, 1) := by decide +kernel
theorem d_M_written_32 : decode b_M_written 32 = .ok (.bipush 8, 2) := by decide +kernel
theorem d_M_written_34 : decode b_M_written 34 = .ok (.idiv, 1) := by decide +kernel
theorem d_M_written_35 : decode b_M_written 35 = .ok (.iconst (-1), 1) := by decide +kernel
theorem d_M_written_36 : decode b_M_written 36 = .ok (.iastore, 1) := by decide +kernel
theorem d_M_written_37 : decode b_M_written 37 = .ok (.return_, 1) := by decide +kernel
theorem d_M_taken_0 : decode b_M_taken 0 = .ok (.aload_n 0, 1) := by decide +kernel
theorem d_M_taken_1 : decode b_M_taken 1 = .ok (.getfield 16, 3) := by decide +kernel
theorem d_M_taken_4 : decode b_M_taken 4 = .ok (.iload_n 1, 1) := by decide +kernel
theorem d_M_taken_5 : decode b_M_taken 5 = .ok (.bipush 6, 2) := by decide +kernel
theorem d_M_taken_7 : decode b_M_taken 7 = .ok (.iadd, 1) := by decide +kernel
theorem d_M_taken_8 : decode b_M_taken 8 = .ok (.iaload, 1) := by decide +kernel
theorem d_M_taken_9 : decode b_M_taken 9 = .ok (.ifCond .ne 5, 3) := by decide +kernel
theorem d_M_taken_12 : decode b_M_taken 12 = .ok (.iconst (-1), 1) := by decide +kernel
theorem d_M_taken_13 : decode b_M_taken 13 = .ok (.ireturn, 1) := by decide +kernel
theorem d_M_taken_14 : decode b_M_taken 14 = .ok (.aload_n 0, 1) := by decide +kernel
theorem d_M_taken_15 : decode b_M_taken 15 = .ok (.getfield 16, 3) := by decide +kernel
theorem d_M_taken_18 : decode b_M_taken 18 = .ok (.iload_n 1, 1) := by decide +kernel
theorem d_M_taken_19 : decode b_M_taken 19 = .ok (.bipush 7, 2) := by decide +kernel
theorem d_M_taken_21 : decode b_M_taken 21 = .ok (.iadd, 1) := by decide +kernel
theorem d_M_taken_22 : decode b_M_taken 22 = .ok (.iaload, 1) := by decide +kernel
theorem d_M_taken_23 : decode b_M_taken 23 = .ok (.istore_n 2, 1) := by decide +kernel
theorem d_M_taken_24 : decode b_M_taken 24 = .ok (.iconst 0, 1) := by decide +kernel
theorem d_M_taken_25 : decode b_M_taken 25 = .ok (.istore_n 3, 1) := by decide +kernel
theorem d_M_taken_26 : decode b_M_taken 26 = .ok (.iload_n 3, 1) := by decide +kernel
theorem d_M_taken_27 : decode b_M_taken 27 = .ok (.bipush 7, 2) := by decide +kernel
theorem d_M_taken_29 : decode b_M_taken 29 = .ok (.if_icmp .ge 33, 3) := by decide +kernel
theorem d_M_taken_32 : decode b_M_taken 32 = .ok (.aload_n 0, 1) := by decide +kernel
theorem d_M_taken_33 : decode b_M_taken 33 = .ok (.getfield 16, 3) := by decide +kernel
theorem d_M_taken_36 : decode b_M_taken 36 = .ok (.iload_n 1, 1) := by decide +kernel
theorem d_M_taken_37 : decode b_M_taken 37 = .ok (.bipush 7, 2) := by decide +kernel
theorem d_M_taken_39 : decode b_M_taken 39 = .ok (.iadd, 1) := by decide +kernel
theorem d_M_taken_40 : decode b_M_taken 40 = .ok (.iload_n 3, 1) := by decide +kernel
theorem d_M_taken_41 : decode b_M_taken 41 = .ok (.iadd, 1) := by decide +kernel
theorem d_M_taken_42 : decode b_M_taken 42 = .ok (.aload_n 0, 1) := by decide +kernel
theorem d_M_taken_43 : decode b_M_taken 43 = .ok (.getfield 16, 3) := by decide +kernel
theorem d_M_taken_46 : decode b_M_taken 46 = .ok (.iload_n 1, 1) := by decide +kernel
theorem d_M_taken_47 : decode b_M_taken 47 = .ok (.bipush 7, 2) := by decide +kernel
theorem d_M_taken_49 : decode b_M_taken 49 = .ok (.iadd, 1) := by decide +kernel
theorem d_M_taken_50 : decode b_M_taken 50 = .ok (.iload_n 3, 1) := by decide +kernel
theorem d_M_taken_51 : decode b_M_taken 51 = .ok (.iadd, 1) := by decide +kernel
theorem d_M_taken_52 : decode b_M_taken 52 = .ok (.iconst 1, 1) := by decide +kernel
theorem d_M_taken_53 : decode b_M_taken 53 = .ok (.iadd, 1) := by decide +kernel
theorem d_M_taken_54 : decode b_M_taken 54 = .ok (.iaload, 1) := by decide +kernel
theorem d_M_taken_55 : decode b_M_taken 55 = .ok (.iastore, 1) := by decide +kernel
theorem d_M_taken_56 : decode b_M_taken 56 = .ok (.iinc 3 1, 3) := by decide +kernel
theorem d_M_taken_59 : decode b_M_taken 59 = .ok (.goto (-33), 3) := by decide +kernel
theorem d_M_taken_62 : decode b_M_taken 62 = .ok (.aload_n 0, 1) := by decide +kernel
theorem d_M_taken_63 : decode b_M_taken 63 = .ok (.getfield 16, 3) := by decide +kernel
theorem d_M_taken_66 : decode b_M_taken 66 = .ok (.iload_n 1, 1) := by decide +kernel
theorem d_M_taken_67 : decode b_M_taken 67 = .ok (.bipush 6, 2) := by decide +kernel
theorem d_M_taken_69 : decode b_M_taken 69 = .ok (.iadd, 1) := by decide +kernel
theorem d_M_taken_70 : decode b_M_taken 70 = .ok (.dup2, 1) := by decide +kernel
theorem d_M_taken_71 : decode b_M_taken 71 = .ok (.iaload, 1) := by decide +kernel
theorem d_M_taken_72 : decode b_M_taken 72 = .ok (.iconst 1, 1) := by decide +kernel
theorem d_M_taken_73 : decode b_M_taken 73 = .ok (.isub, 1) := by decide +kernel
theorem d_M_taken_74 : decode b_M_taken 74 = .ok (.iastore, 1) := by decide +kernel
theorem d_M_taken_75 : decode b_M_taken 75 = .ok (.iload_n 2, 1) := by decide +kernel
theorem d_M_taken_76 : decode b_M_taken 76 = .ok (.ireturn, 1) := by decide +kernel
theorem d_M_create_0 : decode b_M_create 0 = .ok (.iload_n 1, 1) := by decide +kernel
theorem d_M_create_1 : decode b_M_create 1 = .ok (.invokestatic 76, 3) := by decide +kernel
theorem d_M_create_4 : decode b_M_create 4 = .ok (.ifCond .ne 5, 3) := by decide +kernel
theorem d_M_create_7 : decode b_M_create 7 = .ok (.iconst (-1), 1) := by decide +kernel
theorem d_M_create_8 : decode b_M_create 8 = .ok (.ireturn, 1) := by decide +kernel
theorem d_M_create_9 : decode b_M_create 9 = .ok (.aload_n 0, 1) := by decide +kernel
theorem d_M_create_10 : decode b_M_create 10 = .ok (.getfield 19, 3) := by decide +kernel
theorem d_M_create_13 : decode b_M_create 13 = .ok (.iload_n 1, 1) := by decide +kernel
theorem d_M_create_14 : decode b_M_create 14 = .ok (.baload, 1) := by decide +kernel
theorem d_M_create_15 : decode b_M_create 15 = .ok (.ifCond .eq 28, 3) := by decide +kernel
theorem d_M_create_18 : decode b_M_create 18 = .ok (.aload_n 0, 1) := by decide +kernel
theorem d_M_create_19 : decode b_M_create 19 = .ok (.getfield 23, 3) := by decide +kernel
theorem d_M_create_22 : decode b_M_create 22 = .ok (.iconst 0, 1) := by decide +kernel
theorem d_M_create_23 : decode b_M_create 23 = .ok (.baload, 1) := by decide +kernel
theorem d_M_create_24 : decode b_M_create 24 = .ok (.ifCond .ne 19, 3) := by decide +kernel
theorem d_M_create_27 : decode b_M_create 27 = .ok (.aload_n 0, 1) := by decide +kernel
theorem d_M_create_28 : decode b_M_create 28 = .ok (.getfield 23, 3) := by decide +kernel
theorem d_M_create_31 : decode b_M_create 31 = .ok (.iconst 1, 1) := by decide +kernel
theorem d_M_create_32 : decode b_M_create 32 = .ok (.baload, 1) := by decide +kernel
theorem d_M_create_33 : decode b_M_create 33 = .ok (.ifCond .ne 10, 3) := by decide +kernel
theorem d_M_create_36 : decode b_M_create 36 = .ok (.aload_n 0, 1) := by decide +kernel
theorem d_M_create_37 : decode b_M_create 37 = .ok (.getfield 80, 3) := by decide +kernel
theorem d_M_create_40 : decode b_M_create 40 = .ok (.ifCond .eq 6, 3) := by decide +kernel
theorem d_M_create_43 : decode b_M_create 43 = .ok (.bipush (-2), 2) := by decide +kernel
theorem d_M_create_45 : decode b_M_create 45 = .ok (.ireturn, 1) := by decide +kernel
theorem d_M_create_46 : decode b_M_create 46 = .ok (.aload_n 0, 1) := by decide +kernel
theorem d_M_create_47 : decode b_M_create 47 = .ok (.getfield 23, 3) := by decide +kernel
theorem d_M_create_50 : decode b_M_create 50 = .ok (.iload_n 1, 1) := by decide +kernel
theorem d_M_create_51 : decode b_M_create 51 = .ok (.iconst 1, 1) := by decide +kernel
theorem d_M_create_52 : decode b_M_create 52 = .ok (.bastore, 1) := by decide +kernel
theorem d_M_create_53 : decode b_M_create 53 = .ok (.iconst 0, 1) := by decide +kernel
theorem d_M_create_54 : decode b_M_create 54 = .ok (.istore_n 2, 1) := by decide +kernel
theorem d_M_create_55 : decode b_M_create 55 = .ok (.iload_n 2, 1) := by decide +kernel
theorem d_M_create_56 : decode b_M_create 56 = .ok (.bipush 64, 2) := by decide +kernel
theorem d_M_create_58 : decode b_M_create 58 = .ok (.if_icmp .ge 26, 3) := by decide +kernel
theorem d_M_create_61 : decode b_M_create 61 = .ok (.aload_n 0, 1) := by decide +kernel
theorem d_M_create_62 : decode b_M_create 62 = .ok (.getfield 13, 3) := by decide +kernel
theorem d_M_create_65 : decode b_M_create 65 = .ok (.bipush 64, 2) := by decide +kernel
theorem d_M_create_67 : decode b_M_create 67 = .ok (.iload_n 1, 1) := by decide +kernel
theorem d_M_create_68 : decode b_M_create 68 = .ok (.imul, 1) := by decide +kernel
theorem d_M_create_69 : decode b_M_create 69 = .ok (.iload_n 2, 1) := by decide +kernel
theorem d_M_create_70 : decode b_M_create 70 = .ok (.iadd, 1) := by decide +kernel
theorem d_M_create_71 : decode b_M_create 71 = .ok (.aload_n 0, 1) := by decide +kernel
theorem d_M_create_72 : decode b_M_create 72 = .ok (.getfield 7, 3) := by decide +kernel
theorem d_M_create_75 : decode b_M_create 75 = .ok (.iload_n 2, 1) := by decide +kernel
theorem d_M_create_76 : decode b_M_create 76 = .ok (.iaload, 1) := by decide +kernel
theorem d_M_create_77 : decode b_M_create 77 = .ok (.iastore, 1) := by decide +kernel
theorem d_M_create_78 : decode b_M_create 78 = .ok (.iinc 2 1, 3) := by decide +kernel
theorem d_M_create_81 : decode b_M_create 81 = .ok (.goto (-26), 3) := by decide +kernel
theorem d_M_create_84 : decode b_M_create 84 = .ok (.iconst 0, 1) := by decide +kernel
theorem d_M_create_85 : decode b_M_create 85 = .ok (.istore_n 2, 1) := by decide +kernel
theorem d_M_create_86 : decode b_M_create 86 = .ok (.iload_n 2, 1) := by decide +kernel
theorem d_M_create_87 : decode b_M_create 87 = .ok (.bipush 60, 2) := by decide +kernel
theorem d_M_create_89 : decode b_M_create 89 = .ok (.if_icmp .ge 21, 3) := by decide +kernel
theorem d_M_create_92 : decode b_M_create 92 = .ok (.aload_n 0, 1) := by decide +kernel
theorem d_M_create_93 : decode b_M_create 93 = .ok (.getfield 16, 3) := by decide +kernel
theorem d_M_create_96 : decode b_M_create 96 = .ok (.bipush 60, 2) := by decide +kernel
theorem d_M_create_98 : decode b_M_create 98 = .ok (.iload_n 1, 1) := by decide +kernel
theorem d_M_create_99 : decode b_M_create 99 = .ok (.imul, 1) := by decide +kernel
theorem d_M_create_100 : decode b_M_create 100 = .ok (.iload_n 2, 1) := by decide +kernel
theorem d_M_create_101 : decode b_M_create 101 = .ok (.iadd, 1) := by decide +kernel
theorem d_M_create_102 : decode b_M_create 102 = .ok (.iconst 0, 1) := by decide +kernel
theorem d_M_create_103 : decode b_M_create 103 = .ok (.iastore, 1) := by decide +kernel
theorem d_M_create_104 : decode b_M_create 104 = .ok (.iinc 2 1, 3) := by decide +kernel
theorem d_M_create_107 : decode b_M_create 107 = .ok (.goto (-21), 3) := by decide +kernel
theorem d_M_create_110 : decode b_M_create 110 = .ok (.aload_n 0, 1) := by decide +kernel
theorem d_M_create_111 : decode b_M_create 111 = .ok (.iload_n 1, 1) := by decide +kernel
theorem d_M_create_112 : decode b_M_create 112 = .ok (.putfield 29, 3) := by decide +kernel
theorem d_M_create_115 : decode b_M_create 115 = .ok (.aload_n 0, 1) := by decide +kernel
theorem d_M_create_116 : decode b_M_create 116 = .ok (.dup, 1) := by decide +kernel
theorem d_M_create_117 : decode b_M_create 117 = .ok (.getfield 83, 3) := by decide +kernel
theorem d_M_create_120 : decode b_M_create 120 = .ok (.iconst 1, 1) := by decide +kernel
theorem d_M_create_121 : decode b_M_create 121 = .ok (.iadd, 1) := by decide +kernel
theorem d_M_create_122 : decode b_M_create 122 = .ok (.putfield 83, 3) := by decide +kernel
theorem d_M_create_125 : decode b_M_create 125 = .ok (.aload_n 0, 1) := by decide +kernel
theorem d_M_create_126 : decode b_M_create 126 = .ok (.getfield 83, 3) := by decide +kernel
theorem d_M_create_129 : decode b_M_create 129 = .ok (.ireturn, 1) := by decide +kernel
theorem d_M_instruct_0 : decode b_M_instruct 0 = .ok (.bipush 60, 2) := by decide +kernel
theorem d_M_instruct_2 : decode b_M_instruct 2 = .ok (.iload_n 1, 1) := by decide +kernel
theorem d_M_instruct_3 : decode b_M_instruct 3 = .ok (.imul, 1) := by decide +kernel
theorem d_M_instruct_4 : decode b_M_instruct 4 = .ok (.istore_n 2, 1) := by decide +kernel
theorem d_M_instruct_5 : decode b_M_instruct 5 = .ok (.aload_n 0, 1) := by decide +kernel
theorem d_M_instruct_6 : decode b_M_instruct 6 = .ok (.getfield 13, 3) := by decide +kernel
theorem d_M_instruct_9 : decode b_M_instruct 9 = .ok (.bipush 64, 2) := by decide +kernel
theorem d_M_instruct_11 : decode b_M_instruct 11 = .ok (.iload_n 1, 1) := by decide +kernel
theorem d_M_instruct_12 : decode b_M_instruct 12 = .ok (.imul, 1) := by decide +kernel
theorem d_M_instruct_13 : decode b_M_instruct 13 = .ok (.aload_n 0, 1) := by decide +kernel
theorem d_M_instruct_14 : decode b_M_instruct 14 = .ok (.getfield 16, 3) := by decide +kernel
theorem d_M_instruct_17 : decode b_M_instruct 17 = .ok (.iload_n 2, 1) := by decide +kernel
theorem d_M_instruct_18 : decode b_M_instruct 18 = .ok (.iconst 4, 1) := by decide +kernel
theorem d_M_instruct_19 : decode b_M_instruct 19 = .ok (.iadd, 1) := by decide +kernel
theorem d_M_instruct_20 : decode b_M_instruct 20 = .ok (.iaload, 1) := by decide +kernel
theorem d_M_instruct_21 : decode b_M_instruct 21 = .ok (.iadd, 1) := by decide +kernel
theorem d_M_instruct_22 : decode b_M_instruct 22 = .ok (.iaload, 1) := by decide +kernel
theorem d_M_instruct_23 : decode b_M_instruct 23 = .ok (.istore_n 3, 1) := by decide +kernel
theorem d_M_instruct_24 : decode b_M_instruct 24 = .ok (.iload_n 3, 1) := by decide +kernel
theorem d_M_instruct_25 : decode b_M_instruct 25 = .ok (.bipush 15, 2) := by decide +kernel
theorem d_M_instruct_27 : decode b_M_instruct 27 = .ok (.iand, 1) := by decide +kernel
theorem d_M_instruct_28 : decode b_M_instruct 28 = .ok (.istore 4, 2) := by decide +kernel
theorem d_M_instruct_30 : decode b_M_instruct 30 = .ok (.iload_n 2, 1) := by decide +kernel
theorem d_M_instruct_31 : decode b_M_instruct 31 = .ok (.iload_n 3, 1) := by decide +kernel
theorem d_M_instruct_32 : decode b_M_instruct 32 = .ok (.iconst 4, 1) := by decide +kernel
theorem d_M_instruct_33 : decode b_M_instruct 33 = .ok (.ishr, 1) := by decide +kernel
theorem d_M_instruct_34 : decode b_M_instruct 34 = .ok (.iconst 3, 1) := by decide +kernel
theorem d_M_instruct_35 : decode b_M_instruct 35 = .ok (.iand, 1) := by decide +kernel
theorem d_M_instruct_36 : decode b_M_instruct 36 = .ok (.iadd, 1) := by decide +kernel
theorem d_M_instruct_37 : decode b_M_instruct 37 = .ok (.istore 5, 2) := by decide +kernel
theorem d_M_instruct_39 : decode b_M_instruct 39 = .ok (.aload_n 0, 1) := by decide +kernel
theorem d_M_instruct_40 : decode b_M_instruct 40 = .ok (.getfield 16, 3) := by decide +kernel
theorem d_M_instruct_43 : decode b_M_instruct 43 = .ok (.iload_n 2, 1) := by decide +kernel
theorem d_M_instruct_44 : decode b_M_instruct 44 = .ok (.iload_n 3, 1) := by decide +kernel
theorem d_M_instruct_45 : decode b_M_instruct 45 = .ok (.bipush 6, 2) := by decide +kernel
theorem d_M_instruct_47 : decode b_M_instruct 47 = .ok (.ishr, 1) := by decide +kernel
theorem d_M_instruct_48 : decode b_M_instruct 48 = .ok (.iconst 3, 1) := by decide +kernel
theorem d_M_instruct_49 : decode b_M_instruct 49 = .ok (.iand, 1) := by decide +kernel
theorem d_M_instruct_50 : decode b_M_instruct 50 = .ok (.iadd, 1) := by decide +kernel
theorem d_M_instruct_51 : decode b_M_instruct 51 = .ok (.iaload, 1) := by decide +kernel
theorem d_M_instruct_52 : decode b_M_instruct 52 = .ok (.istore 6, 2) := by decide +kernel
theorem d_M_instruct_54 : decode b_M_instruct 54 = .ok (.iload_n 3, 1) := by decide +kernel
theorem d_M_instruct_55 : decode b_M_instruct 55 = .ok (.bipush 8, 2) := by decide +kernel
theorem d_M_instruct_57 : decode b_M_instruct 57 = .ok (.ishr, 1) := by decide +kernel
theorem d_M_instruct_58 : decode b_M_instruct 58 = .ok (.bipush 63, 2) := by decide +kernel
theorem d_M_instruct_60 : decode b_M_instruct 60 = .ok (.iand, 1) := by decide +kernel
theorem d_M_instruct_61 : decode b_M_instruct 61 = .ok (.istore 7, 2) := by decide +kernel
theorem d_M_instruct_63 : decode b_M_instruct 63 = .ok (.iload 4, 2) := by decide +kernel
theorem d_M_instruct_65 : decode b_M_instruct 65 = .ok (.ifCond .eq 37, 3) := by decide +kernel
theorem d_M_instruct_68 : decode b_M_instruct 68 = .ok (.iload 4, 2) := by decide +kernel
theorem d_M_instruct_70 : decode b_M_instruct 70 = .ok (.bipush 13, 2) := by decide +kernel
theorem d_M_instruct_72 : decode b_M_instruct 72 = .ok (.if_icmp .gt 30, 3) := by decide +kernel
theorem d_M_instruct_75 : decode b_M_instruct 75 = .ok (.iload 4, 2) := by decide +kernel
theorem d_M_instruct_77 : decode b_M_instruct 77 = .ok (.bipush 11, 2) := by decide +kernel
theorem d_M_instruct_79 : decode b_M_instruct 79 = .ok (.if_icmp .eq 10, 3) := by decide +kernel
theorem d_M_instruct_82 : decode b_M_instruct 82 = .ok (.iload 4, 2) := by decide +kernel
theorem d_M_instruct_84 : decode b_M_instruct 84 = .ok (.bipush 12, 2) := by decide +kernel
theorem d_M_instruct_86 : decode b_M_instruct 86 = .ok (.if_icmp .ne 20, 3) := by decide +kernel
theorem d_M_instruct_89 : decode b_M_instruct 89 = .ok (.aload_n 0, 1) := by decide +kernel
theorem d_M_instruct_90 : decode b_M_instruct 90 = .ok (.getfield 16, 3) := by decide +kernel
theorem d_M_instruct_93 : decode b_M_instruct 93 = .ok (.iload_n 2, 1) := by decide +kernel
theorem d_M_instruct_94 : decode b_M_instruct 94 = .ok (.bipush 56, 2) := by decide +kernel
theorem d_M_instruct_96 : decode b_M_instruct 96 = .ok (.iadd, 1) := by decide +kernel
theorem d_M_instruct_97 : decode b_M_instruct 97 = .ok (.iaload, 1) := by decide +kernel
theorem d_M_instruct_98 : decode b_M_instruct 98 = .ok (.iconst 1, 1) := by decide +kernel
theorem d_M_instruct_99 : decode b_M_instruct 99 = .ok (.if_icmp .ne 7, 3) := by decide +kernel
theorem d_M_instruct_102 : decode b_M_instruct 102 = .ok (.iconst 1, 1) := by decide +kernel
theorem d_M_instruct_103 : decode b_M_instruct 103 = .ok (.goto 4, 3) := by decide +kernel
theorem d_M_instruct_106 : decode b_M_instruct 106 = .ok (.iconst 0, 1) := by decide +kernel
theorem d_M_instruct_107 : decode b_M_instruct 107 = .ok (.istore 8, 2) := by decide +kernel
theorem d_M_instruct_109 : decode b_M_instruct 109 = .ok (.iload 8, 2) := by decide +kernel
theorem d_M_instruct_111 : decode b_M_instruct 111 = .ok (.ifCond .eq 5, 3) := by decide +kernel
theorem d_M_instruct_114 : decode b_M_instruct 114 = .ok (.iconst 0, 1) := by decide +kernel
theorem d_M_instruct_115 : decode b_M_instruct 115 = .ok (.ireturn, 1) := by decide +kernel
theorem d_M_instruct_116 : decode b_M_instruct 116 = .ok (.iload 4, 2) := by decide +kernel
theorem d_M_instruct_118 : decode b_M_instruct 118 = .ok (.bipush 7, 2) := by decide +kernel
theorem d_M_instruct_120 : decode b_M_instruct 120 = .ok (.if_icmp .eq 20, 3) := by decide +kernel
theorem d_M_instruct_123 : decode b_M_instruct 123 = .ok (.iload 4, 2) := by decide +kernel
theorem d_M_instruct_125 : decode b_M_instruct 125 = .ok (.bipush 8, 2) := by decide +kernel
theorem d_M_instruct_127 : decode b_M_instruct 127 = .ok (.if_icmp .ne 17, 3) := by decide +kernel
theorem d_M_instruct_130 : decode b_M_instruct 130 = .ok (.aload_n 0, 1) := by decide +kernel
theorem d_M_instruct_131 : decode b_M_instruct 131 = .ok (.getfield 16, 3) := by decide +kernel
theorem d_M_instruct_134 : decode b_M_instruct 134 = .ok (.iload 5, 2) := by decide +kernel
theorem d_M_instruct_136 : decode b_M_instruct 136 = .ok (.iaload, 1) := by decide +kernel
theorem d_M_instruct_137 : decode b_M_instruct 137 = .ok (.ifCond .ne 7, 3) := by decide +kernel
theorem d_M_instruct_140 : decode b_M_instruct 140 = .ok (.iconst 1, 1) := by decide +kernel
theorem d_M_instruct_141 : decode b_M_instruct 141 = .ok (.goto 4, 3) := by decide +kernel
theorem d_M_instruct_144 : decode b_M_instruct 144 = .ok (.iconst 0, 1) := by decide +kernel
theorem d_M_instruct_145 : decode b_M_instruct 145 = .ok (.istore 9, 2) := by decide +kernel
theorem d_M_instruct_147 : decode b_M_instruct 147 = .ok (.iload 4, 2) := by decide +kernel
theorem d_M_instruct_149 : decode b_M_instruct 149 = .ok (.iconst 1, 1) := by decide +kernel
theorem d_M_instruct_150 : decode b_M_instruct 150 = .ok (.if_icmp .ne 14, 3) := by decide +kernel
theorem d_M_instruct_153 : decode b_M_instruct 153 = .ok (.aload_n 0, 1) := by decide +kernel
theorem d_M_instruct_154 : decode b_M_instruct 154 = .ok (.getfield 16, 3) := by decide +kernel
theorem d_M_instruct_157 : decode b_M_instruct 157 = .ok (.iload 5, 2) := by decide +kernel
theorem d_M_instruct_159 : decode b_M_instruct 159 = .ok (.iload_n 3, 1) := by decide +kernel
theorem d_M_instruct_160 : decode b_M_instruct 160 = .ok (.bipush 16, 2) := by decide +kernel
theorem d_M_instruct_162 : decode b_M_instruct 162 = .ok (.ishr, 1) := by decide +kernel
theorem d_M_instruct_163 : decode b_M_instruct 163 = .ok (.iastore, 1) := by decide +kernel
theorem d_M_instruct_164 : decode b_M_instruct 164 = .ok (.iload 4, 2) := by decide +kernel
theorem d_M_instruct_166 : decode b_M_instruct 166 = .ok (.iconst 2, 1) := by decide +kernel
theorem d_M_instruct_167 : decode b_M_instruct 167 = .ok (.if_icmp .ne 20, 3) := by decide +kernel
theorem d_M_instruct_170 : decode b_M_instruct 170 = .ok (.aload_n 0, 1) := by decide +kernel
theorem d_M_instruct_171 : decode b_M_instruct 171 = .ok (.getfield 16, 3) := by decide +kernel
theorem d_M_instruct_174 : decode b_M_instruct 174 = .ok (.iload 5, 2) := by decide +kernel
theorem d_M_instruct_176 : decode b_M_instruct 176 = .ok (.aload_n 0, 1) := by decide +kernel
theorem d_M_instruct_177 : decode b_M_instruct 177 = .ok (.getfield 16, 3) := by decide +kernel
theorem d_M_instruct_180 : decode b_M_instruct 180 = .ok (.iload 5, 2) := by decide +kernel
theorem d_M_instruct_182 : decode b_M_instruct 182 = .ok (.iaload, 1) := by decide +kernel
theorem d_M_instruct_183 : decode b_M_instruct 183 = .ok (.iload 6, 2) := by decide +kernel
theorem d_M_instruct_185 : decode b_M_instruct 185 = .ok (.iadd, 1) := by decide +kernel
theorem d_M_instruct_186 : decode b_M_instruct 186 = .ok (.iastore, 1) := by decide +kernel
theorem d_M_instruct_187 : decode b_M_instruct 187 = .ok (.iload 4, 2) := by decide +kernel
theorem d_M_instruct_189 : decode b_M_instruct 189 = .ok (.iconst 3, 1) := by decide +kernel
theorem d_M_instruct_190 : decode b_M_instruct 190 = .ok (.if_icmp .ne 20, 3) := by decide +kernel
theorem d_M_instruct_193 : decode b_M_instruct 193 = .ok (.aload_n 0, 1) := by decide +kernel
theorem d_M_instruct_194 : decode b_M_instruct 194 = .ok (.getfield 16, 3) := by decide +kernel
theorem d_M_instruct_197 : decode b_M_instruct 197 = .ok (.iload 5, 2) := by decide +kernel
theorem d_M_instruct_199 : decode b_M_instruct 199 = .ok (.aload_n 0, 1) := by decide +kernel
theorem d_M_instruct_200 : decode b_M_instruct 200 = .ok (.getfield 16, 3) := by decide +kernel
theorem d_M_instruct_203 : decode b_M_instruct 203 = .ok (.iload 5, 2) := by decide +kernel
theorem d_M_instruct_205 : decode b_M_instruct 205 = .ok (.iaload, 1) := by decide +kernel
theorem d_M_instruct_206 : decode b_M_instruct 206 = .ok (.iload 6, 2) := by decide +kernel
theorem d_M_instruct_208 : decode b_M_instruct 208 = .ok (.isub, 1) := by decide +kernel
theorem d_M_instruct_209 : decode b_M_instruct 209 = .ok (.iastore, 1) := by decide +kernel
theorem d_M_instruct_210 : decode b_M_instruct 210 = .ok (.iload 4, 2) := by decide +kernel
theorem d_M_instruct_212 : decode b_M_instruct 212 = .ok (.iconst 4, 1) := by decide +kernel
theorem d_M_instruct_213 : decode b_M_instruct 213 = .ok (.if_icmp .ne 20, 3) := by decide +kernel
theorem d_M_instruct_216 : decode b_M_instruct 216 = .ok (.aload_n 0, 1) := by decide +kernel
theorem d_M_instruct_217 : decode b_M_instruct 217 = .ok (.getfield 16, 3) := by decide +kernel
theorem d_M_instruct_220 : decode b_M_instruct 220 = .ok (.iload 5, 2) := by decide +kernel
theorem d_M_instruct_222 : decode b_M_instruct 222 = .ok (.aload_n 0, 1) := by decide +kernel
theorem d_M_instruct_223 : decode b_M_instruct 223 = .ok (.getfield 16, 3) := by decide +kernel
theorem d_M_instruct_226 : decode b_M_instruct 226 = .ok (.iload 5, 2) := by decide +kernel
theorem d_M_instruct_228 : decode b_M_instruct 228 = .ok (.iaload, 1) := by decide +kernel
theorem d_M_instruct_229 : decode b_M_instruct 229 = .ok (.iload 6, 2) := by decide +kernel
theorem d_M_instruct_231 : decode b_M_instruct 231 = .ok (.imul, 1) := by decide +kernel
theorem d_M_instruct_232 : decode b_M_instruct 232 = .ok (.iastore, 1) := by decide +kernel
theorem d_M_instruct_233 : decode b_M_instruct 233 = .ok (.iload 4, 2) := by decide +kernel
theorem d_M_instruct_235 : decode b_M_instruct 235 = .ok (.iconst 5, 1) := by decide +kernel
theorem d_M_instruct_236 : decode b_M_instruct 236 = .ok (.if_icmp .ne 28, 3) := by decide +kernel
theorem d_M_instruct_239 : decode b_M_instruct 239 = .ok (.aload_n 0, 1) := by decide +kernel
theorem d_M_instruct_240 : decode b_M_instruct 240 = .ok (.getfield 16, 3) := by decide +kernel
theorem d_M_instruct_243 : decode b_M_instruct 243 = .ok (.iload 5, 2) := by decide +kernel
theorem d_M_instruct_245 : decode b_M_instruct 245 = .ok (.aload_n 0, 1) := by decide +kernel
theorem d_M_instruct_246 : decode b_M_instruct 246 = .ok (.getfield 13, 3) := by decide +kernel
theorem d_M_instruct_249 : decode b_M_instruct 249 = .ok (.bipush 64, 2) := by decide +kernel
theorem d_M_instruct_251 : decode b_M_instruct 251 = .ok (.iload_n 1, 1) := by decide +kernel
theorem d_M_instruct_252 : decode b_M_instruct 252 = .ok (.imul, 1) := by decide +kernel
theorem d_M_instruct_253 : decode b_M_instruct 253 = .ok (.iload 6, 2) := by decide +kernel
theorem d_M_instruct_255 : decode b_M_instruct 255 = .ok (.iload 7, 2) := by decide +kernel
theorem d_M_instruct_257 : decode b_M_instruct 257 = .ok (.iadd, 1) := by decide +kernel
theorem d_M_instruct_258 : decode b_M_instruct 258 = .ok (.bipush 63, 2) := by decide +kernel
theorem d_M_instruct_260 : decode b_M_instruct 260 = .ok (.iand, 1) := by decide +kernel
theorem d_M_instruct_261 : decode b_M_instruct 261 = .ok (.iadd, 1) := by decide +kernel
theorem d_M_instruct_262 : decode b_M_instruct 262 = .ok (.iaload, 1) := by decide +kernel
theorem d_M_instruct_263 : decode b_M_instruct 263 = .ok (.iastore, 1) := by decide +kernel
theorem d_M_instruct_264 : decode b_M_instruct 264 = .ok (.iload 4, 2) := by decide +kernel
theorem d_M_instruct_266 : decode b_M_instruct 266 = .ok (.bipush 6, 2) := by decide +kernel
theorem d_M_instruct_268 : decode b_M_instruct 268 = .ok (.if_icmp .ne 23, 3) := by decide +kernel
theorem d_M_instruct_271 : decode b_M_instruct 271 = .ok (.aload_n 0, 1) := by decide +kernel
theorem d_M_instruct_272 : decode b_M_instruct 272 = .ok (.iload_n 1, 1) := by decide +kernel
theorem d_M_instruct_273 : decode b_M_instruct 273 = .ok (.iload 6, 2) := by decide +kernel
theorem d_M_instruct_275 : decode b_M_instruct 275 = .ok (.iload 7, 2) := by decide +kernel
theorem d_M_instruct_277 : decode b_M_instruct 277 = .ok (.iadd, 1) := by decide +kernel
theorem d_M_instruct_278 : decode b_M_instruct 278 = .ok (.bipush 63, 2) := by decide +kernel
theorem d_M_instruct_280 : decode b_M_instruct 280 = .ok (.iand, 1) := by decide +kernel
theorem d_M_instruct_281 : decode b_M_instruct 281 = .ok (.aload_n 0, 1) := by decide +kernel
theorem d_M_instruct_282 : decode b_M_instruct 282 = .ok (.getfield 16, 3) := by decide +kernel
theorem d_M_instruct_285 : decode b_M_instruct 285 = .ok (.iload 5, 2) := by decide +kernel
theorem d_M_instruct_287 : decode b_M_instruct 287 = .ok (.iaload, 1) := by decide +kernel
theorem d_M_instruct_288 : decode b_M_instruct 288 = .ok (.invokevirtual 89, 3) := by decide +kernel
theorem d_M_instruct_291 : decode b_M_instruct 291 = .ok (.iload 4, 2) := by decide +kernel
theorem d_M_instruct_293 : decode b_M_instruct 293 = .ok (.bipush 9, 2) := by decide +kernel
theorem d_M_instruct_295 : decode b_M_instruct 295 = .ok (.if_icmp .ne 56, 3) := by decide +kernel
theorem d_M_instruct_298 : decode b_M_instruct 298 = .ok (.aload_n 0, 1) := by decide +kernel
theorem d_M_instruct_299 : decode b_M_instruct 299 = .ok (.getfield 16, 3) := by decide +kernel
theorem d_M_instruct_302 : decode b_M_instruct 302 = .ok (.iload_n 2, 1) := by decide +kernel
theorem d_M_instruct_303 : decode b_M_instruct 303 = .ok (.bipush 15, 2) := by decide +kernel
theorem d_M_instruct_305 : decode b_M_instruct 305 = .ok (.iadd, 1) := by decide +kernel
theorem d_M_instruct_306 : decode b_M_instruct 306 = .ok (.iaload, 1) := by decide +kernel
theorem d_M_instruct_307 : decode b_M_instruct 307 = .ok (.bipush 40, 2) := by decide +kernel
theorem d_M_instruct_309 : decode b_M_instruct 309 = .ok (.if_icmp .ge 42, 3) := by decide +kernel
theorem d_M_instruct_312 : decode b_M_instruct 312 = .ok (.aload_n 0, 1) := by decide +kernel
theorem d_M_instruct_313 : decode b_M_instruct 313 = .ok (.getfield 16, 3) := by decide +kernel
theorem d_M_instruct_316 : decode b_M_instruct 316 = .ok (.iload_n 2, 1) := by decide +kernel
theorem d_M_instruct_317 : decode b_M_instruct 317 = .ok (.bipush 16, 2) := by decide +kernel
theorem d_M_instruct_319 : decode b_M_instruct 319 = .ok (.iadd, 1) := by decide +kernel
theorem d_M_instruct_320 : decode b_M_instruct 320 = .ok (.aload_n 0, 1) := by decide +kernel
theorem d_M_instruct_321 : decode b_M_instruct 321 = .ok (.getfield 16, 3) := by decide +kernel
theorem d_M_instruct_324 : decode b_M_instruct 324 = .ok (.iload_n 2, 1) := by decide +kernel
theorem d_M_instruct_325 : decode b_M_instruct 325 = .ok (.bipush 15, 2) := by decide +kernel
theorem d_M_instruct_327 : decode b_M_instruct 327 = .ok (.iadd, 1) := by decide +kernel
theorem d_M_instruct_328 : decode b_M_instruct 328 = .ok (.iaload, 1) := by decide +kernel
theorem d_M_instruct_329 : decode b_M_instruct 329 = .ok (.iadd, 1) := by decide +kernel
theorem d_M_instruct_330 : decode b_M_instruct 330 = .ok (.aload_n 0, 1) := by decide +kernel
theorem d_M_instruct_331 : decode b_M_instruct 331 = .ok (.getfield 16, 3) := by decide +kernel
theorem d_M_instruct_334 : decode b_M_instruct 334 = .ok (.iload 5, 2) := by decide +kernel
theorem d_M_instruct_336 : decode b_M_instruct 336 = .ok (.iaload, 1) := by decide +kernel
theorem d_M_instruct_337 : decode b_M_instruct 337 = .ok (.iastore, 1) := by decide +kernel
theorem d_M_instruct_338 : decode b_M_instruct 338 = .ok (.aload_n 0, 1) := by decide +kernel
theorem d_M_instruct_339 : decode b_M_instruct 339 = .ok (.getfield 16, 3) := by decide +kernel
theorem d_M_instruct_342 : decode b_M_instruct 342 = .ok (.iload_n 2, 1) := by decide +kernel
theorem d_M_instruct_343 : decode b_M_instruct 343 = .ok (.bipush 15, 2) := by decide +kernel
theorem d_M_instruct_345 : decode b_M_instruct 345 = .ok (.iadd, 1) := by decide +kernel
theorem d_M_instruct_346 : decode b_M_instruct 346 = .ok (.dup2, 1) := by decide +kernel
theorem d_M_instruct_347 : decode b_M_instruct 347 = .ok (.iaload, 1) := by decide +kernel
