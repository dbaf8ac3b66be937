theorem d_M_piece_20 : decode b_M_piece 20 = .ok (.ifCond .ne 12, 3) := by decide +kernel
theorem d_M_piece_23 : decode b_M_piece 23 = .ok (.aload_n 0, 1) := by decide +kernel
theorem d_M_piece_24 : decode b_M_piece 24 = .ok (.getfield 57, 3) := by decide +kernel
theorem d_M_piece_27 : decode b_M_piece 27 = .ok (.iload_n 1, 1) := by decide +kernel
theorem d_M_piece_28 : decode b_M_piece 28 = .ok (.iaload, 1) := by decide +kernel
theorem d_M_piece_29 : decode b_M_piece 29 = .ok (.goto 37, 3) := by decide +kernel
theorem d_M_piece_32 : decode b_M_piece 32 = .ok (.iload_n 2, 1) := by decide +kernel
theorem d_M_piece_33 : decode b_M_piece 33 = .ok (.iconst 1, 1) := by decide +kernel
theorem d_M_piece_34 : decode b_M_piece 34 = .ok (.if_icmp .ne 12, 3) := by decide +kernel
theorem d_M_piece_37 : decode b_M_piece 37 = .ok (.aload_n 0, 1) := by decide +kernel
theorem d_M_piece_38 : decode b_M_piece 38 = .ok (.getfield 60, 3) := by decide +kernel
theorem d_M_piece_41 : decode b_M_piece 41 = .ok (.iload_n 1, 1) := by decide +kernel
theorem d_M_piece_42 : decode b_M_piece 42 = .ok (.iaload, 1) := by decide +kernel
theorem d_M_piece_43 : decode b_M_piece 43 = .ok (.goto 23, 3) := by decide +kernel
theorem d_M_piece_46 : decode b_M_piece 46 = .ok (.iload_n 2, 1) := by decide +kernel
theorem d_M_piece_47 : decode b_M_piece 47 = .ok (.iconst 2, 1) := by decide +kernel
theorem d_M_piece_48 : decode b_M_piece 48 = .ok (.if_icmp .ne 12, 3) := by decide +kernel
theorem d_M_piece_51 : decode b_M_piece 51 = .ok (.aload_n 0, 1) := by decide +kernel
theorem d_M_piece_52 : decode b_M_piece 52 = .ok (.getfield 63, 3) := by decide +kernel
theorem d_M_piece_55 : decode b_M_piece 55 = .ok (.iload_n 1, 1) := by decide +kernel
theorem d_M_piece_56 : decode b_M_piece 56 = .ok (.iaload, 1) := by decide +kernel
theorem d_M_piece_57 : decode b_M_piece 57 = .ok (.goto 9, 3) := by decide +kernel
theorem d_M_piece_60 : decode b_M_piece 60 = .ok (.aload_n 0, 1) := by decide +kernel
theorem d_M_piece_61 : decode b_M_piece 61 = .ok (.getfield 66, 3) := by decide +kernel
theorem d_M_piece_64 : decode b_M_piece 64 = .ok (.iload_n 1, 1) := by decide +kernel
theorem d_M_piece_65 : decode b_M_piece 65 = .ok (.iaload, 1) := by decide +kernel
theorem d_M_piece_66 : decode b_M_piece 66 = .ok (.ireturn, 1) := by decide +kernel
theorem d_M_lose_0 : decode b_M_lose 0 = .ok (.aload_n 0, 1) := by decide +kernel
theorem d_M_lose_1 : decode b_M_lose 1 = .ok (.iload_n 1, 1) := by decide +kernel
theorem d_M_lose_2 : decode b_M_lose 2 = .ok (.invokevirtual 161, 3) := by decide +kernel
theorem d_M_lose_5 : decode b_M_lose 5 = .ok (.ifCond .ne 5, 3) := by decide +kernel
theorem d_M_lose_8 : decode b_M_lose 8 = .ok (.iconst (-1), 1) := by decide +kernel
theorem d_M_lose_9 : decode b_M_lose 9 = .ok (.ireturn, 1) := by decide +kernel
theorem d_M_lose_10 : decode b_M_lose 10 = .ok (.aload_n 0, 1) := by decide +kernel
theorem d_M_lose_11 : decode b_M_lose 11 = .ok (.getfield 57, 3) := by decide +kernel
theorem d_M_lose_14 : decode b_M_lose 14 = .ok (.iload_n 1, 1) := by decide +kernel
theorem d_M_lose_15 : decode b_M_lose 15 = .ok (.iaload, 1) := by decide +kernel
theorem d_M_lose_16 : decode b_M_lose 16 = .ok (.istore_n 2, 1) := by decide +kernel
theorem d_M_lose_17 : decode b_M_lose 17 = .ok (.aload_n 0, 1) := by decide +kernel
theorem d_M_lose_18 : decode b_M_lose 18 = .ok (.iload_n 1, 1) := by decide +kernel
theorem d_M_lose_19 : decode b_M_lose 19 = .ok (.invokevirtual 164, 3) := by decide +kernel
theorem d_M_lose_22 : decode b_M_lose 22 = .ok (.iload_n 2, 1) := by decide +kernel
theorem d_M_lose_23 : decode b_M_lose 23 = .ok (.ireturn, 1) := by decide +kernel
theorem d_M_twice_0 : decode b_M_twice 0 = .ok (.aload_n 0, 1) := by decide +kernel
theorem d_M_twice_1 : decode b_M_twice 1 = .ok (.iload_n 1, 1) := by decide +kernel
theorem d_M_twice_2 : decode b_M_twice 2 = .ok (.invokevirtual 161, 3) := by decide +kernel
theorem d_M_twice_5 : decode b_M_twice 5 = .ok (.ifCond .ne 5, 3) := by decide +kernel
theorem d_M_twice_8 : decode b_M_twice 8 = .ok (.iconst (-1), 1) := by decide +kernel
theorem d_M_twice_9 : decode b_M_twice 9 = .ok (.ireturn, 1) := by decide +kernel
theorem d_M_twice_10 : decode b_M_twice 10 = .ok (.aload_n 0, 1) := by decide +kernel
theorem d_M_twice_11 : decode b_M_twice 11 = .ok (.getfield 128, 3) := by decide +kernel
theorem d_M_twice_14 : decode b_M_twice 14 = .ok (.bipush 8, 2) := by decide +kernel
theorem d_M_twice_16 : decode b_M_twice 16 = .ok (.if_icmp .ne 6, 3) := by decide +kernel
theorem d_M_twice_19 : decode b_M_twice 19 = .ok (.bipush (-3), 2) := by decide +kernel
theorem d_M_twice_21 : decode b_M_twice 21 = .ok (.ireturn, 1) := by decide +kernel
theorem d_M_twice_22 : decode b_M_twice 22 = .ok (.aload_n 0, 1) := by decide +kernel
theorem d_M_twice_23 : decode b_M_twice 23 = .ok (.iload_n 1, 1) := by decide +kernel
theorem d_M_twice_24 : decode b_M_twice 24 = .ok (.aload_n 0, 1) := by decide +kernel
theorem d_M_twice_25 : decode b_M_twice 25 = .ok (.getfield 128, 3) := by decide +kernel
theorem d_M_twice_28 : decode b_M_twice 28 = .ok (.invokevirtual 148, 3) := by decide +kernel
theorem d_M_twice_31 : decode b_M_twice 31 = .ok (.aload_n 0, 1) := by decide +kernel
theorem d_M_twice_32 : decode b_M_twice 32 = .ok (.dup, 1) := by decide +kernel
theorem d_M_twice_33 : decode b_M_twice 33 = .ok (.getfield 128, 3) := by decide +kernel
theorem d_M_twice_36 : decode b_M_twice 36 = .ok (.iconst 1, 1) := by decide +kernel
theorem d_M_twice_37 : decode b_M_twice 37 = .ok (.iadd, 1) := by decide +kernel
theorem d_M_twice_38 : decode b_M_twice 38 = .ok (.putfield 128, 3) := by decide +kernel
theorem d_M_twice_41 : decode b_M_twice 41 = .ok (.aload_n 0, 1) := by decide +kernel
theorem d_M_twice_42 : decode b_M_twice 42 = .ok (.getfield 128, 3) := by decide +kernel
theorem d_M_twice_45 : decode b_M_twice 45 = .ok (.ireturn, 1) := by decide +kernel
theorem d_M_pageArrives_0 : decode b_M_pageArrives 0 = .ok (.aload_n 0, 1) := by decide +kernel
theorem d_M_pageArrives_1 : decode b_M_pageArrives 1 = .ok (.getfield 110, 3) := by decide +kernel
theorem d_M_pageArrives_4 : decode b_M_pageArrives 4 = .ok (.ifCond .eq 11, 3) := by decide +kernel
theorem d_M_pageArrives_7 : decode b_M_pageArrives 7 = .ok (.iload_n 1, 1) := by decide +kernel
theorem d_M_pageArrives_8 : decode b_M_pageArrives 8 = .ok (.aload_n 0, 1) := by decide +kernel
theorem d_M_pageArrives_9 : decode b_M_pageArrives 9 = .ok (.getfield 116, 3) := by decide +kernel
theorem d_M_pageArrives_12 : decode b_M_pageArrives 12 = .ok (.if_icmp .eq 4, 3) := by decide +kernel
theorem d_M_pageArrives_15 : decode b_M_pageArrives 15 = .ok (.return_, 1) := by decide +kernel
theorem d_M_pageArrives_16 : decode b_M_pageArrives 16 = .ok (.iload_n 3, 1) := by decide +kernel
theorem d_M_pageArrives_17 : decode b_M_pageArrives 17 = .ok (.aload_n 0, 1) := by decide +kernel
theorem d_M_pageArrives_18 : decode b_M_pageArrives 18 = .ok (.getfield 51, 3) := by decide +kernel
theorem d_M_pageArrives_21 : decode b_M_pageArrives 21 = .ok (.iload_n 2, 1) := by decide +kernel
theorem d_M_pageArrives_22 : decode b_M_pageArrives 22 = .ok (.iaload, 1) := by decide +kernel
theorem d_M_pageArrives_23 : decode b_M_pageArrives 23 = .ok (.if_icmp .le 49, 3) := by decide +kernel
theorem d_M_pageArrives_26 : decode b_M_pageArrives 26 = .ok (.aload_n 0, 1) := by decide +kernel
theorem d_M_pageArrives_27 : decode b_M_pageArrives 27 = .ok (.getfield 51, 3) := by decide +kernel
theorem d_M_pageArrives_30 : decode b_M_pageArrives 30 = .ok (.iload_n 2, 1) := by decide +kernel
theorem d_M_pageArrives_31 : decode b_M_pageArrives 31 = .ok (.iload_n 3, 1) := by decide +kernel
theorem d_M_pageArrives_32 : decode b_M_pageArrives 32 = .ok (.iastore, 1) := by decide +kernel
theorem d_M_pageArrives_33 : decode b_M_pageArrives 33 = .ok (.iconst 0, 1) := by decide +kernel
theorem d_M_pageArrives_34 : decode b_M_pageArrives 34 = .ok (.istore 4, 2) := by decide +kernel
theorem d_M_pageArrives_36 : decode b_M_pageArrives 36 = .ok (.iload 4, 2) := by decide +kernel
theorem d_M_pageArrives_38 : decode b_M_pageArrives 38 = .ok (.bipush 8, 2) := by decide +kernel
theorem d_M_pageArrives_40 : decode b_M_pageArrives 40 = .ok (.if_icmp .ge 32, 3) := by decide +kernel
theorem d_M_pageArrives_43 : decode b_M_pageArrives 43 = .ok (.aload_n 0, 1) := by decide +kernel
theorem d_M_pageArrives_44 : decode b_M_pageArrives 44 = .ok (.getfield 48, 3) := by decide +kernel
theorem d_M_pageArrives_47 : decode b_M_pageArrives 47 = .ok (.bipush 8, 2) := by decide +kernel
theorem d_M_pageArrives_49 : decode b_M_pageArrives 49 = .ok (.iload_n 2, 1) := by decide +kernel
theorem d_M_pageArrives_50 : decode b_M_pageArrives 50 = .ok (.imul, 1) := by decide +kernel
theorem d_M_pageArrives_51 : decode b_M_pageArrives 51 = .ok (.iload 4, 2) := by decide +kernel
theorem d_M_pageArrives_53 : decode b_M_pageArrives 53 = .ok (.iadd, 1) := by decide +kernel
theorem d_M_pageArrives_54 : decode b_M_pageArrives 54 = .ok (.aload_n 0, 1) := by decide +kernel
theorem d_M_pageArrives_55 : decode b_M_pageArrives 55 = .ok (.getfield 69, 3) := by decide +kernel
theorem d_M_pageArrives_58 : decode b_M_pageArrives 58 = .ok (.sipush 480, 3) := by decide +kernel
theorem d_M_pageArrives_61 : decode b_M_pageArrives 61 = .ok (.iload 4, 2) := by decide +kernel
theorem d_M_pageArrives_63 : decode b_M_pageArrives 63 = .ok (.iadd, 1) := by decide +kernel
theorem d_M_pageArrives_64 : decode b_M_pageArrives 64 = .ok (.iaload, 1) := by decide +kernel
theorem d_M_pageArrives_65 : decode b_M_pageArrives 65 = .ok (.iastore, 1) := by decide +kernel
theorem d_M_pageArrives_66 : decode b_M_pageArrives 66 = .ok (.iinc 4 1, 3) := by decide +kernel
theorem d_M_pageArrives_69 : decode b_M_pageArrives 69 = .ok (.goto (-33), 3) := by decide +kernel
theorem d_M_pageArrives_72 : decode b_M_pageArrives 72 = .ok (.aload_n 0, 1) := by decide +kernel
theorem d_M_pageArrives_73 : decode b_M_pageArrives 73 = .ok (.iconst 3, 1) := by decide +kernel
theorem d_M_pageArrives_74 : decode b_M_pageArrives 74 = .ok (.iload_n 1, 1) := by decide +kernel
theorem d_M_pageArrives_75 : decode b_M_pageArrives 75 = .ok (.iload_n 2, 1) := by decide +kernel
theorem d_M_pageArrives_76 : decode b_M_pageArrives 76 = .ok (.iload_n 3, 1) := by decide +kernel
theorem d_M_pageArrives_77 : decode b_M_pageArrives 77 = .ok (.invokevirtual 131, 3) := by decide +kernel
theorem d_M_pageArrives_80 : decode b_M_pageArrives 80 = .ok (.pop, 1) := by decide +kernel
theorem d_M_pageArrives_81 : decode b_M_pageArrives 81 = .ok (.return_, 1) := by decide +kernel
theorem d_M_stateArrives_0 : decode b_M_stateArrives 0 = .ok (.aload_n 0, 1) := by decide +kernel
theorem d_M_stateArrives_1 : decode b_M_stateArrives 1 = .ok (.getfield 110, 3) := by decide +kernel
theorem d_M_stateArrives_4 : decode b_M_stateArrives 4 = .ok (.ifCond .eq 11, 3) := by decide +kernel
theorem d_M_stateArrives_7 : decode b_M_stateArrives 7 = .ok (.iload_n 1, 1) := by decide +kernel
theorem d_M_stateArrives_8 : decode b_M_stateArrives 8 = .ok (.aload_n 0, 1) := by decide +kernel
theorem d_M_stateArrives_9 : decode b_M_stateArrives 9 = .ok (.getfield 116, 3) := by decide +kernel
theorem d_M_stateArrives_12 : decode b_M_stateArrives 12 = .ok (.if_icmp .eq 4, 3) := by decide +kernel
theorem d_M_stateArrives_15 : decode b_M_stateArrives 15 = .ok (.return_, 1) := by decide +kernel
theorem d_M_stateArrives_16 : decode b_M_stateArrives 16 = .ok (.iconst 0, 1) := by decide +kernel
theorem d_M_stateArrives_17 : decode b_M_stateArrives 17 = .ok (.istore_n 2, 1) := by decide +kernel
theorem d_M_stateArrives_18 : decode b_M_stateArrives 18 = .ok (.iload_n 2, 1) := by decide +kernel
theorem d_M_stateArrives_19 : decode b_M_stateArrives 19 = .ok (.bipush 60, 2) := by decide +kernel
theorem d_M_stateArrives_21 : decode b_M_stateArrives 21 = .ok (.if_icmp .ge 32, 3) := by decide +kernel
theorem d_M_stateArrives_24 : decode b_M_stateArrives 24 = .ok (.aload_n 0, 1) := by decide +kernel
theorem d_M_stateArrives_25 : decode b_M_stateArrives 25 = .ok (.getfield 113, 3) := by decide +kernel
theorem d_M_stateArrives_28 : decode b_M_stateArrives 28 = .ok (.ifCond .ne 25, 3) := by decide +kernel
theorem d_M_stateArrives_31 : decode b_M_stateArrives 31 = .ok (.aload_n 0, 1) := by decide +kernel
theorem d_M_stateArrives_32 : decode b_M_stateArrives 32 = .ok (.getfield 54, 3) := by decide +kernel
theorem d_M_stateArrives_35 : decode b_M_stateArrives 35 = .ok (.iload_n 2, 1) := by decide +kernel
theorem d_M_stateArrives_36 : decode b_M_stateArrives 36 = .ok (.aload_n 0, 1) := by decide +kernel
theorem d_M_stateArrives_37 : decode b_M_stateArrives 37 = .ok (.getfield 69, 3) := by decide +kernel
theorem d_M_stateArrives_40 : decode b_M_stateArrives 40 = .ok (.sipush 480, 3) := by decide +kernel
theorem d_M_stateArrives_43 : decode b_M_stateArrives 43 = .ok (.iload_n 2, 1) := by decide +kernel
theorem d_M_stateArrives_44 : decode b_M_stateArrives 44 = .ok (.iadd, 1) := by decide +kernel
theorem d_M_stateArrives_45 : decode b_M_stateArrives 45 = .ok (.iaload, 1) := by decide +kernel
theorem d_M_stateArrives_46 : decode b_M_stateArrives 46 = .ok (.iastore, 1) := by decide +kernel
theorem d_M_stateArrives_47 : decode b_M_stateArrives 47 = .ok (.iinc 2 1, 3) := by decide +kernel
theorem d_M_stateArrives_50 : decode b_M_stateArrives 50 = .ok (.goto (-32), 3) := by decide +kernel
theorem d_M_stateArrives_53 : decode b_M_stateArrives 53 = .ok (.aload_n 0, 1) := by decide +kernel
theorem d_M_stateArrives_54 : decode b_M_stateArrives 54 = .ok (.iconst 1, 1) := by decide +kernel
theorem d_M_stateArrives_55 : decode b_M_stateArrives 55 = .ok (.putfield 113, 3) := by decide +kernel
theorem d_M_stateArrives_58 : decode b_M_stateArrives 58 = .ok (.aload_n 0, 1) := by decide +kernel
theorem d_M_stateArrives_59 : decode b_M_stateArrives 59 = .ok (.iconst 4, 1) := by decide +kernel
theorem d_M_stateArrives_60 : decode b_M_stateArrives 60 = .ok (.iload_n 1, 1) := by decide +kernel
theorem d_M_stateArrives_61 : decode b_M_stateArrives 61 = .ok (.iconst 0, 1) := by decide +kernel
theorem d_M_stateArrives_62 : decode b_M_stateArrives 62 = .ok (.iconst 0, 1) := by decide +kernel
theorem d_M_stateArrives_63 : decode b_M_stateArrives 63 = .ok (.invokevirtual 131, 3) := by decide +kernel
theorem d_M_stateArrives_66 : decode b_M_stateArrives 66 = .ok (.pop, 1) := by decide +kernel
theorem d_M_stateArrives_67 : decode b_M_stateArrives 67 = .ok (.return_, 1) := by decide +kernel
theorem d_M_arrive_0 : decode b_M_arrive 0 = .ok (.aload_n 0, 1) := by decide +kernel
theorem d_M_arrive_1 : decode b_M_arrive 1 = .ok (.getfield 60, 3) := by decide +kernel
theorem d_M_arrive_4 : decode b_M_arrive 4 = .ok (.bipush 8, 2) := by decide +kernel
theorem d_M_arrive_6 : decode b_M_arrive 6 = .ok (.iaload, 1) := by decide +kernel
theorem d_M_arrive_7 : decode b_M_arrive 7 = .ok (.istore_n 1, 1) := by decide +kernel
theorem d_M_arrive_8 : decode b_M_arrive 8 = .ok (.aload_n 0, 1) := by decide +kernel
theorem d_M_arrive_9 : decode b_M_arrive 9 = .ok (.getfield 80, 3) := by decide +kernel
theorem d_M_arrive_12 : decode b_M_arrive 12 = .ok (.ifCond .eq 27, 3) := by decide +kernel
theorem d_M_arrive_15 : decode b_M_arrive 15 = .ok (.iload_n 1, 1) := by decide +kernel
theorem d_M_arrive_16 : decode b_M_arrive 16 = .ok (.aload_n 0, 1) := by decide +kernel
theorem d_M_arrive_17 : decode b_M_arrive 17 = .ok (.getfield 116, 3) := by decide +kernel
theorem d_M_arrive_20 : decode b_M_arrive 20 = .ok (.if_icmp .ne 19, 3) := by decide +kernel
theorem d_M_arrive_23 : decode b_M_arrive 23 = .ok (.aload_n 0, 1) := by decide +kernel
theorem d_M_arrive_24 : decode b_M_arrive 24 = .ok (.getfield 23, 3) := by decide +kernel
theorem d_M_arrive_27 : decode b_M_arrive 27 = .ok (.aload_n 0, 1) := by decide +kernel
theorem d_M_arrive_28 : decode b_M_arrive 28 = .ok (.getfield 86, 3) := by decide +kernel
theorem d_M_arrive_31 : decode b_M_arrive 31 = .ok (.baload, 1) := by decide +kernel
theorem d_M_arrive_32 : decode b_M_arrive 32 = .ok (.ifCond .eq 7, 3) := by decide +kernel
theorem d_M_arrive_35 : decode b_M_arrive 35 = .ok (.iconst 1, 1) := by decide +kernel
theorem d_M_arrive_36 : decode b_M_arrive 36 = .ok (.goto 4, 3) := by decide +kernel
theorem d_M_arrive_39 : decode b_M_arrive 39 = .ok (.iconst 0, 1) := by decide +kernel
theorem d_M_arrive_40 : decode b_M_arrive 40 = .ok (.istore_n 2, 1) := by decide +kernel
theorem d_M_arrive_41 : decode b_M_arrive 41 = .ok (.aload_n 0, 1) := by decide +kernel
theorem d_M_arrive_42 : decode b_M_arrive 42 = .ok (.getfield 57, 3) := by decide +kernel
theorem d_M_arrive_45 : decode b_M_arrive 45 = .ok (.bipush 8, 2) := by decide +kernel
theorem d_M_arrive_47 : decode b_M_arrive 47 = .ok (.iaload, 1) := by decide +kernel
theorem d_M_arrive_48 : decode b_M_arrive 48 = .ok (.iconst 1, 1) := by decide +kernel
theorem d_M_arrive_49 : decode b_M_arrive 49 = .ok (.if_icmp .ne 25, 3) := by decide +kernel
theorem d_M_arrive_52 : decode b_M_arrive 52 = .ok (.aload_n 0, 1) := by decide +kernel
theorem d_M_arrive_53 : decode b_M_arrive 53 = .ok (.iload_n 1, 1) := by decide +kernel
theorem d_M_arrive_54 : decode b_M_arrive 54 = .ok (.aload_n 0, 1) := by decide +kernel
theorem d_M_arrive_55 : decode b_M_arrive 55 = .ok (.getfield 63, 3) := by decide +kernel
theorem d_M_arrive_58 : decode b_M_arrive 58 = .ok (.bipush 8, 2) := by decide +kernel
theorem d_M_arrive_60 : decode b_M_arrive 60 = .ok (.iaload, 1) := by decide +kernel
theorem d_M_arrive_61 : decode b_M_arrive 61 = .ok (.aload_n 0, 1) := by decide +kernel
theorem d_M_arrive_62 : decode b_M_arrive 62 = .ok (.getfield 66, 3) := by decide +kernel
theorem d_M_arrive_65 : decode b_M_arrive 65 = .ok (.bipush 8, 2) := by decide +kernel
theorem d_M_arrive_67 : decode b_M_arrive 67 = .ok (.iaload, 1) := by decide +kernel
theorem d_M_arrive_68 : decode b_M_arrive 68 = .ok (.invokevirtual 152, 3) := by decide +kernel
theorem d_M_arrive_71 : decode b_M_arrive 71 = .ok (.goto 87, 3) := by decide +kernel
theorem d_M_arrive_74 : decode b_M_arrive 74 = .ok (.aload_n 0, 1) := by decide +kernel
theorem d_M_arrive_75 : decode b_M_arrive 75 = .ok (.getfield 57, 3) := by decide +kernel
theorem d_M_arrive_78 : decode b_M_arrive 78 = .ok (.bipush 8, 2) := by decide +kernel
theorem d_M_arrive_80 : decode b_M_arrive 80 = .ok (.iaload, 1) := by decide +kernel
theorem d_M_arrive_81 : decode b_M_arrive 81 = .ok (.iconst 2, 1) := by decide +kernel
theorem d_M_arrive_82 : decode b_M_arrive 82 = .ok (.if_icmp .ne 11, 3) := by decide +kernel
theorem d_M_arrive_85 : decode b_M_arrive 85 = .ok (.aload_n 0, 1) := by decide +kernel
theorem d_M_arrive_86 : decode b_M_arrive 86 = .ok (.iload_n 1, 1) := by decide +kernel
theorem d_M_arrive_87 : decode b_M_arrive 87 = .ok (.invokevirtual 155, 3) := by decide +kernel
theorem d_M_arrive_90 : decode b_M_arrive 90 = .ok (.goto 68, 3) := by decide +kernel
theorem d_M_arrive_93 : decode b_M_arrive 93 = .ok (.aload_n 0, 1) := by decide +kernel
theorem d_M_arrive_94 : decode b_M_arrive 94 = .ok (.getfield 57, 3) := by decide +kernel
theorem d_M_arrive_97 : decode b_M_arrive 97 = .ok (.bipush 8, 2) := by decide +kernel
theorem d_M_arrive_99 : decode b_M_arrive 99 = .ok (.iaload, 1) := by decide +kernel
theorem d_M_arrive_100 : decode b_M_arrive 100 = .ok (.iconst 3, 1) := by decide +kernel
theorem d_M_arrive_101 : decode b_M_arrive 101 = .ok (.if_icmp .ne 42, 3) := by decide +kernel
theorem d_M_arrive_104 : decode b_M_arrive 104 = .ok (.aload_n 0, 1) := by decide +kernel
theorem d_M_arrive_105 : decode b_M_arrive 105 = .ok (.getfield 63, 3) := by decide +kernel
theorem d_M_arrive_108 : decode b_M_arrive 108 = .ok (.bipush 8, 2) := by decide +kernel
theorem d_M_arrive_110 : decode b_M_arrive 110 = .ok (.iaload, 1) := by decide +kernel
theorem d_M_arrive_111 : decode b_M_arrive 111 = .ok (.istore_n 3, 1) := by decide +kernel
theorem d_M_arrive_112 : decode b_M_arrive 112 = .ok (.iload_n 2, 1) := by decide +kernel
theorem d_M_arrive_113 : decode b_M_arrive 113 = .ok (.ifCond .eq 27, 3) := by decide +kernel
theorem d_M_arrive_116 : decode b_M_arrive 116 = .ok (.aload_n 0, 1) := by decide +kernel
theorem d_M_arrive_117 : decode b_M_arrive 117 = .ok (.getfield 45, 3) := by decide +kernel
theorem d_M_arrive_120 : decode b_M_arrive 120 = .ok (.iload_n 3, 1) := by decide +kernel
theorem d_M_arrive_121 : decode b_M_arrive 121 = .ok (.iaload, 1) := by decide +kernel
theorem d_M_arrive_122 : decode b_M_arrive 122 = .ok (.aload_n 0, 1) := by decide +kernel
theorem d_M_arrive_123 : decode b_M_arrive 123 = .ok (.getfield 66, 3) := by decide +kernel
theorem d_M_arrive_126 : decode b_M_arrive 126 = .ok (.bipush 8, 2) := by decide +kernel
theorem d_M_arrive_128 : decode b_M_arrive 128 = .ok (.iaload, 1) := by decide +kernel
theorem d_M_arrive_129 : decode b_M_arrive 129 = .ok (.if_icmp .ne 11, 3) := by decide +kernel
theorem d_M_arrive_132 : decode b_M_arrive 132 = .ok (.aload_n 0, 1) := by decide +kernel
theorem d_M_arrive_133 : decode b_M_arrive 133 = .ok (.getfield 45, 3) := by decide +kernel
theorem d_M_arrive_136 : decode b_M_arrive 136 = .ok (.iload_n 3, 1) := by decide +kernel
theorem d_M_arrive_137 : decode b_M_arrive 137 = .ok (.bipush (-2), 2) := by decide +kernel
theorem d_M_arrive_139 : decode b_M_arrive 139 = .ok (.iastore, 1) := by decide +kernel
theorem d_M_arrive_140 : decode b_M_arrive 140 = .ok (.goto 18, 3) := by decide +kernel
theorem d_M_arrive_143 : decode b_M_arrive 143 = .ok (.iload_n 2, 1) := by decide +kernel
theorem d_M_arrive_144 : decode b_M_arrive 144 = .ok (.ifCond .eq 14, 3) := by decide +kernel
theorem d_M_arrive_147 : decode b_M_arrive 147 = .ok (.aload_n 0, 1) := by decide +kernel
theorem d_M_arrive_148 : decode b_M_arrive 148 = .ok (.getfield 113, 3) := by decide +kernel
theorem d_M_arrive_151 : decode b_M_arrive 151 = .ok (.ifCond .eq 7, 3) := by decide +kernel
theorem d_M_arrive_154 : decode b_M_arrive 154 = .ok (.aload_n 0, 1) := by decide +kernel
theorem d_M_arrive_155 : decode b_M_arrive 155 = .ok (.invokevirtual 158, 3) := by decide +kernel
theorem d_M_arrive_158 : decode b_M_arrive 158 = .ok (.return_, 1) := by decide +kernel
theorem d_M_deliver_0 : decode b_M_deliver 0 = .ok (.aload_n 0, 1) := by decide +kernel
theorem d_M_deliver_1 : decode b_M_deliver 1 = .ok (.iload_n 1, 1) := by decide +kernel
theorem d_M_deliver_2 : decode b_M_deliver 2 = .ok (.invokevirtual 161, 3) := by decide +kernel
theorem d_M_deliver_5 : decode b_M_deliver 5 = .ok (.ifCond .ne 5, 3) := by decide +kernel
theorem d_M_deliver_8 : decode b_M_deliver 8 = .ok (.iconst (-1), 1) := by decide +kernel
theorem d_M_deliver_9 : decode b_M_deliver 9 = .ok (.ireturn, 1) := by decide +kernel
theorem d_M_deliver_10 : decode b_M_deliver 10 = .ok (.aload_n 0, 1) := by decide +kernel
theorem d_M_deliver_11 : decode b_M_deliver 11 = .ok (.getfield 57, 3) := by decide +kernel
theorem d_M_deliver_14 : decode b_M_deliver 14 = .ok (.iload_n 1, 1) := by decide +kernel
theorem d_M_deliver_15 : decode b_M_deliver 15 = .ok (.iaload, 1) := by decide +kernel
theorem d_M_deliver_16 : decode b_M_deliver 16 = .ok (.istore_n 2, 1) := by decide +kernel
theorem d_M_deliver_17 : decode b_M_deliver 17 = .ok (.aload_n 0, 1) := by decide +kernel
theorem d_M_deliver_18 : decode b_M_deliver 18 = .ok (.iload_n 1, 1) := by decide +kernel
theorem d_M_deliver_19 : decode b_M_deliver 19 = .ok (.invokevirtual 164, 3) := by decide +kernel
theorem d_M_deliver_22 : decode b_M_deliver 22 = .ok (.aload_n 0, 1) := by decide +kernel
theorem d_M_deliver_23 : decode b_M_deliver 23 = .ok (.invokevirtual 167, 3) := by decide +kernel
theorem d_M_deliver_26 : decode b_M_deliver 26 = .ok (.iload_n 2, 1) := by decide +kernel
theorem d_M_deliver_27 : decode b_M_deliver 27 = .ok (.ireturn, 1) := by decide +kernel
theorem d_M_abort_0 : decode b_M_abort 0 = .ok (.aload_n 0, 1) := by decide +kernel
theorem d_M_abort_1 : decode b_M_abort 1 = .ok (.getfield 80, 3) := by decide +kernel
theorem d_M_abort_4 : decode b_M_abort 4 = .ok (.ifCond .ne 5, 3) := by decide +kernel
theorem d_M_abort_7 : decode b_M_abort 7 = .ok (.iconst 0, 1) := by decide +kernel
theorem d_M_abort_8 : decode b_M_abort 8 = .ok (.ireturn, 1) := by decide +kernel
theorem d_M_abort_9 : decode b_M_abort 9 = .ok (.aload_n 0, 1) := by decide +kernel
theorem d_M_abort_10 : decode b_M_abort 10 = .ok (.getfield 86, 3) := by decide +kernel
theorem d_M_abort_13 : decode b_M_abort 13 = .ok (.istore_n 1, 1) := by decide +kernel
theorem d_M_abort_14 : decode b_M_abort 14 = .ok (.aload_n 0, 1) := by decide +kernel
theorem d_M_abort_15 : decode b_M_abort 15 = .ok (.invokevirtual 145, 3) := by decide +kernel
theorem d_M_abort_18 : decode b_M_abort 18 = .ok (.aload_n 0, 1) := by decide +kernel
theorem d_M_abort_19 : decode b_M_abort 19 = .ok (.getfield 23, 3) := by decide +kernel
theorem d_M_abort_22 : decode b_M_abort 22 = .ok (.iload_n 1, 1) := by decide +kernel
theorem d_M_abort_23 : decode b_M_abort 23 = .ok (.baload, 1) := by decide +kernel
theorem d_M_abort_24 : decode b_M_abort 24 = .ok (.ifCond .eq 34, 3) := by decide +kernel
theorem d_M_abort_27 : decode b_M_abort 27 = .ok (.aload_n 0, 1) := by decide +kernel
theorem d_M_abort_28 : decode b_M_abort 28 = .ok (.dup, 1) := by decide +kernel
theorem d_M_abort_29 : decode b_M_abort 29 = .ok (.getfield 83, 3) := by decide +kernel
theorem d_M_abort_32 : decode b_M_abort 32 = .ok (.iconst 1, 1) := by decide +kernel
theorem d_M_abort_33 : decode b_M_abort 33 = .ok (.iadd, 1) := by decide +kernel
theorem d_M_abort_34 : decode b_M_abort 34 = .ok (.putfield 83, 3) := by decide +kernel
theorem d_M_abort_37 : decode b_M_abort 37 = .ok (.aload_n 0, 1) := by decide +kernel
theorem d_M_abort_38 : decode b_M_abort 38 = .ok (.getfield 16, 3) := by decide +kernel
theorem d_M_abort_41 : decode b_M_abort 41 = .ok (.bipush 60, 2) := by decide +kernel
theorem d_M_abort_43 : decode b_M_abort 43 = .ok (.iload_n 1, 1) := by decide +kernel
theorem d_M_abort_44 : decode b_M_abort 44 = .ok (.imul, 1) := by decide +kernel
theorem d_M_abort_45 : decode b_M_abort 45 = .ok (.bipush 56, 2) := by decide +kernel
theorem d_M_abort_47 : decode b_M_abort 47 = .ok (.iadd, 1) := by decide +kernel
theorem d_M_abort_48 : decode b_M_abort 48 = .ok (.iaload, 1) := by decide +kernel
theorem d_M_abort_49 : decode b_M_abort 49 = .ok (.iconst 1, 1) := by decide +kernel
theorem d_M_abort_50 : decode b_M_abort 50 = .ok (.if_icmp .ne 8, 3) := by decide +kernel
theorem d_M_abort_53 : decode b_M_abort 53 = .ok (.aload_n 0, 1) := by decide +kernel
theorem d_M_abort_54 : decode b_M_abort 54 = .ok (.iload_n 1, 1) := by decide +kernel
theorem d_M_abort_55 : decode b_M_abort 55 = .ok (.invokevirtual 97, 3) := by decide +kernel
theorem d_M_abort_58 : decode b_M_abort 58 = .ok (.iconst 1, 1) := by decide +kernel
theorem d_M_abort_59 : decode b_M_abort 59 = .ok (.ireturn, 1) := by decide +kernel
theorem d_M_crash_0 : decode b_M_crash 0 = .ok (.iload_n 1, 1) := by decide +kernel
theorem d_M_crash_1 : decode b_M_crash 1 = .ok (.invokestatic 76, 3) := by decide +kernel
theorem d_M_crash_4 : decode b_M_crash 4 = .ok (.ifCond .eq 12, 3) := by decide +kernel
theorem d_M_crash_7 : decode b_M_crash 7 = .ok (.aload_n 0, 1) := by decide +kernel
theorem d_M_crash_8 : decode b_M_crash 8 = .ok (.getfield 19, 3) := by decide +kernel
theorem d_M_crash_11 : decode b_M_crash 11 = .ok (.iload_n 1, 1) := by decide +kernel
theorem d_M_crash_12 : decode b_M_crash 12 = .ok (.baload, 1) := by decide +kernel
theorem d_M_crash_13 : decode b_M_crash 13 = .ok (.ifCond .ne 5, 3) := by decide +kernel
theorem d_M_crash_16 : decode b_M_crash 16 = .ok (.iconst 0, 1) := by decide +kernel
theorem d_M_crash_17 : decode b_M_crash 17 = .ok (.ireturn, 1) := by decide +kernel
theorem d_M_crash_18 : decode b_M_crash 18 = .ok (.aload_n 0, 1) := by decide +kernel
theorem d_M_crash_19 : decode b_M_crash 19 = .ok (.getfield 19, 3) := by decide +kernel
theorem d_M_crash_22 : decode b_M_crash 22 = .ok (.iload_n 1, 1) := by decide +kernel
theorem d_M_crash_23 : decode b_M_crash 23 = .ok (.iconst 0, 1) := by decide +kernel
theorem d_M_crash_24 : decode b_M_crash 24 = .ok (.bastore, 1) := by decide +kernel
theorem d_M_crash_25 : decode b_M_crash 25 = .ok (.aload_n 0, 1) := by decide +kernel
theorem d_M_crash_26 : decode b_M_crash 26 = .ok (.getfield 23, 3) := by decide +kernel
theorem d_M_crash_29 : decode b_M_crash 29 = .ok (.iload_n 1, 1) := by decide +kernel
theorem d_M_crash_30 : decode b_M_crash 30 = .ok (.iconst 0, 1) := by decide +kernel
theorem d_M_crash_31 : decode b_M_crash 31 = .ok (.bastore, 1) := by decide +kernel
theorem d_M_crash_32 : decode b_M_crash 32 = .ok (.aload_n 0, 1) := by decide +kernel
theorem d_M_crash_33 : decode b_M_crash 33 = .ok (.getfield 33, 3) := by decide +kernel
theorem d_M_crash_36 : decode b_M_crash 36 = .ok (.iload_n 1, 1) := by decide +kernel
theorem d_M_crash_37 : decode b_M_crash 37 = .ok (.iconst 0, 1) := by decide +kernel
theorem d_M_crash_38 : decode b_M_crash 38 = .ok (.bastore, 1) := by decide +kernel
theorem d_M_crash_39 : decode b_M_crash 39 = .ok (.aload_n 0, 1) := by decide +kernel
theorem d_M_crash_40 : decode b_M_crash 40 = .ok (.getfield 80, 3) := by decide +kernel
theorem d_M_crash_43 : decode b_M_crash 43 = .ok (.ifCond .eq 21, 3) := by decide +kernel
theorem d_M_crash_46 : decode b_M_crash 46 = .ok (.iload_n 1, 1) := by decide +kernel
theorem d_M_crash_47 : decode b_M_crash 47 = .ok (.aload_n 0, 1) := by decide +kernel
theorem d_M_crash_48 : decode b_M_crash 48 = .ok (.getfield 86, 3) := by decide +kernel
theorem d_M_crash_51 : decode b_M_crash 51 = .ok (.if_icmp .eq 13, 3) := by decide +kernel
theorem d_M_crash_54 : decode b_M_crash 54 = .ok (.aload_n 0, 1) := by decide +kernel
theorem d_M_crash_55 : decode b_M_crash 55 = .ok (.iconst 0, 1) := by decide +kernel
theorem d_M_crash_56 : decode b_M_crash 56 = .ok (.putfield 110, 3) := by decide +kernel
theorem d_M_crash_59 : decode b_M_crash 59 = .ok (.aload_n 0, 1) := by decide +kernel
theorem d_M_crash_60 : decode b_M_crash 60 = .ok (.iconst 0, 1) := by decide +kernel
theorem d_M_crash_61 : decode b_M_crash 61 = .ok (.putfield 113, 3) := by decide +kernel
theorem d_M_crash_64 : decode b_M_crash 64 = .ok (.aload_n 0, 1) := by decide +kernel
theorem d_M_crash_65 : decode b_M_crash 65 = .ok (.getfield 80, 3) := by decide +kernel
theorem d_M_crash_68 : decode b_M_crash 68 = .ok (.ifCond .eq 26, 3) := by decide +kernel
theorem d_M_crash_71 : decode b_M_crash 71 = .ok (.aload_n 0, 1) := by decide +kernel
theorem d_M_crash_72 : decode b_M_crash 72 = .ok (.getfield 23, 3) := by decide +kernel
theorem d_M_crash_75 : decode b_M_crash 75 = .ok (.aload_n 0, 1) := by decide +kernel
theorem d_M_crash_76 : decode b_M_crash 76 = .ok (.getfield 86, 3) := by decide +kernel
theorem d_M_crash_79 : decode b_M_crash 79 = .ok (.baload, 1) := by decide +kernel
theorem d_M_crash_80 : decode b_M_crash 80 = .ok (.ifCond .ne 14, 3) := by decide +kernel
theorem d_M_crash_83 : decode b_M_crash 83 = .ok (.aload_n 0, 1) := by decide +kernel
theorem d_M_crash_84 : decode b_M_crash 84 = .ok (.getfield 113, 3) := by decide +kernel
theorem d_M_crash_87 : decode b_M_crash 87 = .ok (.ifCond .ne 7, 3) := by decide +kernel
theorem d_M_crash_90 : decode b_M_crash 90 = .ok (.aload_n 0, 1) := by decide +kernel
theorem d_M_crash_91 : decode b_M_crash 91 = .ok (.invokevirtual 145, 3) := by decide +kernel
theorem d_M_crash_94 : decode b_M_crash 94 = .ok (.iconst 1, 1) := by decide +kernel
theorem d_M_crash_95 : decode b_M_crash 95 = .ok (.ireturn, 1) := by decide +kernel
theorem d_M_takeOver_0 : decode b_M_takeOver 0 = .ok (.aload_n 0, 1) := by decide +kernel
theorem d_M_takeOver_1 : decode b_M_takeOver 1 = .ok (.getfield 80, 3) := by decide +kernel
theorem d_M_takeOver_4 : decode b_M_takeOver 4 = .ok (.ifCond .eq 22, 3) := by decide +kernel
theorem d_M_takeOver_7 : decode b_M_takeOver 7 = .ok (.aload_n 0, 1) := by decide +kernel
theorem d_M_takeOver_8 : decode b_M_takeOver 8 = .ok (.getfield 23, 3) := by decide +kernel
theorem d_M_takeOver_11 : decode b_M_takeOver 11 = .ok (.aload_n 0, 1) := by decide +kernel
theorem d_M_takeOver_12 : decode b_M_takeOver 12 = .ok (.getfield 86, 3) := by decide +kernel
theorem d_M_takeOver_15 : decode b_M_takeOver 15 = .ok (.baload, 1) := by decide +kernel
theorem d_M_takeOver_16 : decode b_M_takeOver 16 = .ok (.ifCond .ne 10, 3) := by decide +kernel
theorem d_M_takeOver_19 : decode b_M_takeOver 19 = .ok (.aload_n 0, 1) := by decide +kernel
theorem d_M_takeOver_20 : decode b_M_takeOver 20 = .ok (.getfield 113, 3) := by decide +kernel
theorem d_M_takeOver_23 : decode b_M_takeOver 23 = .ok (.ifCond .ne 5, 3) := by decide +kernel
theorem d_M_takeOver_26 : decode b_M_takeOver 26 = .ok (.iconst 0, 1) := by decide +kernel
theorem d_M_takeOver_27 : decode b_M_takeOver 27 = .ok (.ireturn, 1) := by decide +kernel
theorem d_M_takeOver_28 : decode b_M_takeOver 28 = .ok (.aload_n 0, 1) := by decide +kernel
theorem d_M_takeOver_29 : decode b_M_takeOver 29 = .ok (.invokevirtual 158, 3) := by decide +kernel
theorem d_M_takeOver_32 : decode b_M_takeOver 32 = .ok (.iconst 1, 1) := by decide +kernel
theorem d_M_takeOver_33 : decode b_M_takeOver 33 = .ok (.ireturn, 1) := by decide +kernel
theorem d_M_run_0 : decode b_M_run 0 = .ok (.iload_n 1, 1) := by decide +kernel
theorem d_M_run_1 : decode b_M_run 1 = .ok (.invokestatic 76, 3) := by decide +kernel
theorem d_M_run_4 : decode b_M_run 4 = .ok (.ifCond .eq 14, 3) := by decide +kernel
theorem d_M_run_7 : decode b_M_run 7 = .ok (.iload_n 2, 1) := by decide +kernel
theorem d_M_run_8 : decode b_M_run 8 = .ok (.iconst 1, 1) := by decide +kernel
theorem d_M_run_9 : decode b_M_run 9 = .ok (.if_icmp .lt 9, 3) := by decide +kernel
theorem d_M_run_12 : decode b_M_run 12 = .ok (.iload_n 2, 1) := by decide +kernel
theorem d_M_run_13 : decode b_M_run 13 = .ok (.bipush 100, 2) := by decide +kernel
theorem d_M_run_15 : decode b_M_run 15 = .ok (.if_icmp .le 5, 3) := by decide +kernel
theorem d_M_run_18 : decode b_M_run 18 = .ok (.iconst (-1), 1) := by decide +kernel
theorem d_M_run_19 : decode b_M_run 19 = .ok (.ireturn, 1) := by decide +kernel
theorem d_M_run_20 : decode b_M_run 20 = .ok (.aload_n 0, 1) := by decide +kernel
theorem d_M_run_21 : decode b_M_run 21 = .ok (.iload_n 1, 1) := by decide +kernel
theorem d_M_run_22 : decode b_M_run 22 = .ok (.invokevirtual 104, 3) := by decide +kernel
theorem d_M_run_25 : decode b_M_run 25 = .ok (.ifCond .ne 6, 3) := by decide +kernel
theorem d_M_run_28 : decode b_M_run 28 = .ok (.bipush (-2), 2) := by decide +kernel
theorem d_M_run_30 : decode b_M_run 30 = .ok (.ireturn, 1) := by decide +kernel
theorem d_M_run_31 : decode b_M_run 31 = .ok (.iconst 0, 1) := by decide +kernel
theorem d_M_run_32 : decode b_M_run 32 = .ok (.istore_n 3, 1) := by decide +kernel
theorem d_M_run_33 : decode b_M_run 33 = .ok (.iload_n 3, 1) := by decide +kernel
theorem d_M_run_34 : decode b_M_run 34 = .ok (.iload_n 2, 1) := by decide +kernel
theorem d_M_run_35 : decode b_M_run 35 = .ok (.if_icmp .ge 17, 3) := by decide +kernel
theorem d_M_run_38 : decode b_M_run 38 = .ok (.aload_n 0, 1) := by decide +kernel
theorem d_M_run_39 : decode b_M_run 39 = .ok (.iload_n 1, 1) := by decide +kernel
theorem d_M_run_40 : decode b_M_run 40 = .ok (.invokevirtual 107, 3) := by decide +kernel
theorem d_M_run_43 : decode b_M_run 43 = .ok (.ifCond .eq 9, 3) := by decide +kernel
theorem d_M_run_46 : decode b_M_run 46 = .ok (.iinc 3 1, 3) := by decide +kernel
theorem d_M_run_49 : decode b_M_run 49 = .ok (.goto (-16), 3) := by decide +kernel
theorem d_M_run_52 : decode b_M_run 52 = .ok (.iload_n 3, 1) := by decide +kernel
theorem d_M_run_53 : decode b_M_run 53 = .ok (.ireturn, 1) := by decide +kernel
