theorem d_G_arrive_0 : decode b_G_arrive 0 = .ok (.aload_n 0, 1) := by decide +kernel
theorem d_G_arrive_1 : decode b_G_arrive 1 = .ok (.getfield 25, 3) := by decide +kernel
theorem d_G_arrive_4 : decode b_G_arrive 4 = .ok (.getfield 56, 3) := by decide +kernel
theorem d_G_arrive_7 : decode b_G_arrive 7 = .ok (.ifCond .eq 17, 3) := by decide +kernel
theorem d_G_arrive_10 : decode b_G_arrive 10 = .ok (.aload_n 1, 1) := by decide +kernel
theorem d_G_arrive_11 : decode b_G_arrive 11 = .ok (.getfield 200, 3) := by decide +kernel
theorem d_G_arrive_14 : decode b_G_arrive 14 = .ok (.aload_n 0, 1) := by decide +kernel
theorem d_G_arrive_15 : decode b_G_arrive 15 = .ok (.getfield 25, 3) := by decide +kernel
theorem d_G_arrive_18 : decode b_G_arrive 18 = .ok (.getfield 123, 3) := by decide +kernel
theorem d_G_arrive_21 : decode b_G_arrive 21 = .ok (.if_icmp .eq 4, 3) := by decide +kernel
theorem d_G_arrive_24 : decode b_G_arrive 24 = .ok (.return_, 1) := by decide +kernel
theorem d_G_arrive_25 : decode b_G_arrive 25 = .ok (.aload_n 1, 1) := by decide +kernel
theorem d_G_arrive_26 : decode b_G_arrive 26 = .ok (.getfield 172, 3) := by decide +kernel
theorem d_G_arrive_29 : decode b_G_arrive 29 = .ok (.tableswitch 102 1 4 #[31, 39, 47, 75], 31) := by decide +kernel
theorem d_G_arrive_60 : decode b_G_arrive 60 = .ok (.aload_n 0, 1) := by decide +kernel
theorem d_G_arrive_61 : decode b_G_arrive 61 = .ok (.aload_n 1, 1) := by decide +kernel
theorem d_G_arrive_62 : decode b_G_arrive 62 = .ok (.invokevirtual 270, 3) := by decide +kernel
theorem d_G_arrive_65 : decode b_G_arrive 65 = .ok (.goto 66, 3) := by decide +kernel
theorem d_G_arrive_68 : decode b_G_arrive 68 = .ok (.aload_n 0, 1) := by decide +kernel
theorem d_G_arrive_69 : decode b_G_arrive 69 = .ok (.aload_n 1, 1) := by decide +kernel
theorem d_G_arrive_70 : decode b_G_arrive 70 = .ok (.invokevirtual 273, 3) := by decide +kernel
theorem d_G_arrive_73 : decode b_G_arrive 73 = .ok (.goto 58, 3) := by decide +kernel
theorem d_G_arrive_76 : decode b_G_arrive 76 = .ok (.aload_n 0, 1) := by decide +kernel
theorem d_G_arrive_77 : decode b_G_arrive 77 = .ok (.invokevirtual 124, 3) := by decide +kernel
theorem d_G_arrive_80 : decode b_G_arrive 80 = .ok (.getfield 77, 3) := by decide +kernel
theorem d_G_arrive_83 : decode b_G_arrive 83 = .ok (.ifCond .eq 48, 3) := by decide +kernel
theorem d_G_arrive_86 : decode b_G_arrive 86 = .ok (.aload_n 0, 1) := by decide +kernel
theorem d_G_arrive_87 : decode b_G_arrive 87 = .ok (.getfield 25, 3) := by decide +kernel
theorem d_G_arrive_90 : decode b_G_arrive 90 = .ok (.aload_n 1, 1) := by decide +kernel
theorem d_G_arrive_91 : decode b_G_arrive 91 = .ok (.getfield 203, 3) := by decide +kernel
theorem d_G_arrive_94 : decode b_G_arrive 94 = .ok (.aload_n 1, 1) := by decide +kernel
theorem d_G_arrive_95 : decode b_G_arrive 95 = .ok (.getfield 206, 3) := by decide +kernel
theorem d_G_arrive_98 : decode b_G_arrive 98 = .ok (.invokevirtual 276, 3) := by decide +kernel
theorem d_G_arrive_101 : decode b_G_arrive 101 = .ok (.goto 30, 3) := by decide +kernel
theorem d_G_arrive_104 : decode b_G_arrive 104 = .ok (.aload_n 0, 1) := by decide +kernel
theorem d_G_arrive_105 : decode b_G_arrive 105 = .ok (.invokevirtual 124, 3) := by decide +kernel
theorem d_G_arrive_108 : decode b_G_arrive 108 = .ok (.getfield 77, 3) := by decide +kernel
theorem d_G_arrive_111 : decode b_G_arrive 111 = .ok (.ifCond .eq 20, 3) := by decide +kernel
theorem d_G_arrive_114 : decode b_G_arrive 114 = .ok (.aload_n 0, 1) := by decide +kernel
theorem d_G_arrive_115 : decode b_G_arrive 115 = .ok (.invokevirtual 189, 3) := by decide +kernel
theorem d_G_arrive_118 : decode b_G_arrive 118 = .ok (.getfield 192, 3) := by decide +kernel
theorem d_G_arrive_121 : decode b_G_arrive 121 = .ok (.ifCond .eq 10, 3) := by decide +kernel
theorem d_G_arrive_124 : decode b_G_arrive 124 = .ok (.aload_n 0, 1) := by decide +kernel
theorem d_G_arrive_125 : decode b_G_arrive 125 = .ok (.invokevirtual 195, 3) := by decide +kernel
theorem d_G_arrive_128 : decode b_G_arrive 128 = .ok (.goto 3, 3) := by decide +kernel
theorem d_G_arrive_131 : decode b_G_arrive 131 = .ok (.return_, 1) := by decide +kernel
theorem d_G_lose_0 : decode b_G_lose 0 = .ok (.iload_n 1, 1) := by decide +kernel
theorem d_G_lose_1 : decode b_G_lose 1 = .ok (.aload_n 0, 1) := by decide +kernel
theorem d_G_lose_2 : decode b_G_lose 2 = .ok (.getfield 32, 3) := by decide +kernel
theorem d_G_lose_5 : decode b_G_lose 5 = .ok (.getfield 162, 3) := by decide +kernel
theorem d_G_lose_8 : decode b_G_lose 8 = .ok (.invokestatic 44, 3) := by decide +kernel
theorem d_G_lose_11 : decode b_G_lose 11 = .ok (.ifCond .ne 5, 3) := by decide +kernel
theorem d_G_lose_14 : decode b_G_lose 14 = .ok (.iconst (-1), 1) := by decide +kernel
theorem d_G_lose_15 : decode b_G_lose 15 = .ok (.ireturn, 1) := by decide +kernel
theorem d_G_lose_16 : decode b_G_lose 16 = .ok (.aload_n 0, 1) := by decide +kernel
theorem d_G_lose_17 : decode b_G_lose 17 = .ok (.getfield 32, 3) := by decide +kernel
theorem d_G_lose_20 : decode b_G_lose 20 = .ok (.iload_n 1, 1) := by decide +kernel
theorem d_G_lose_21 : decode b_G_lose 21 = .ok (.invokevirtual 165, 3) := by decide +kernel
theorem d_G_lose_24 : decode b_G_lose 24 = .ok (.getfield 172, 3) := by decide +kernel
theorem d_G_lose_27 : decode b_G_lose 27 = .ok (.ireturn, 1) := by decide +kernel
theorem d_G_twice_0 : decode b_G_twice 0 = .ok (.iload_n 1, 1) := by decide +kernel
theorem d_G_twice_1 : decode b_G_twice 1 = .ok (.aload_n 0, 1) := by decide +kernel
theorem d_G_twice_2 : decode b_G_twice 2 = .ok (.getfield 32, 3) := by decide +kernel
theorem d_G_twice_5 : decode b_G_twice 5 = .ok (.getfield 162, 3) := by decide +kernel
theorem d_G_twice_8 : decode b_G_twice 8 = .ok (.invokestatic 44, 3) := by decide +kernel
theorem d_G_twice_11 : decode b_G_twice 11 = .ok (.ifCond .ne 5, 3) := by decide +kernel
theorem d_G_twice_14 : decode b_G_twice 14 = .ok (.iconst (-1), 1) := by decide +kernel
theorem d_G_twice_15 : decode b_G_twice 15 = .ok (.ireturn, 1) := by decide +kernel
theorem d_G_twice_16 : decode b_G_twice 16 = .ok (.aload_n 0, 1) := by decide +kernel
theorem d_G_twice_17 : decode b_G_twice 17 = .ok (.getfield 32, 3) := by decide +kernel
theorem d_G_twice_20 : decode b_G_twice 20 = .ok (.getfield 162, 3) := by decide +kernel
theorem d_G_twice_23 : decode b_G_twice 23 = .ok (.bipush 8, 2) := by decide +kernel
theorem d_G_twice_25 : decode b_G_twice 25 = .ok (.if_icmp .ne 6, 3) := by decide +kernel
theorem d_G_twice_28 : decode b_G_twice 28 = .ok (.bipush (-3), 2) := by decide +kernel
theorem d_G_twice_30 : decode b_G_twice 30 = .ok (.ireturn, 1) := by decide +kernel
theorem d_G_twice_31 : decode b_G_twice 31 = .ok (.aload_n 0, 1) := by decide +kernel
theorem d_G_twice_32 : decode b_G_twice 32 = .ok (.getfield 32, 3) := by decide +kernel
theorem d_G_twice_35 : decode b_G_twice 35 = .ok (.aload_n 0, 1) := by decide +kernel
theorem d_G_twice_36 : decode b_G_twice 36 = .ok (.getfield 32, 3) := by decide +kernel
theorem d_G_twice_39 : decode b_G_twice 39 = .ok (.getfield 175, 3) := by decide +kernel
theorem d_G_twice_42 : decode b_G_twice 42 = .ok (.iload_n 1, 1) := by decide +kernel
theorem d_G_twice_43 : decode b_G_twice 43 = .ok (.aaload, 1) := by decide +kernel
theorem d_G_twice_44 : decode b_G_twice 44 = .ok (.invokevirtual 158, 3) := by decide +kernel
theorem d_G_twice_47 : decode b_G_twice 47 = .ok (.aload_n 0, 1) := by decide +kernel
theorem d_G_twice_48 : decode b_G_twice 48 = .ok (.getfield 32, 3) := by decide +kernel
theorem d_G_twice_51 : decode b_G_twice 51 = .ok (.getfield 162, 3) := by decide +kernel
theorem d_G_twice_54 : decode b_G_twice 54 = .ok (.ireturn, 1) := by decide +kernel
theorem d_G_piece_0 : decode b_G_piece 0 = .ok (.iload_n 1, 1) := by decide +kernel
theorem d_G_piece_1 : decode b_G_piece 1 = .ok (.aload_n 0, 1) := by decide +kernel
theorem d_G_piece_2 : decode b_G_piece 2 = .ok (.getfield 32, 3) := by decide +kernel
theorem d_G_piece_5 : decode b_G_piece 5 = .ok (.getfield 162, 3) := by decide +kernel
theorem d_G_piece_8 : decode b_G_piece 8 = .ok (.invokestatic 44, 3) := by decide +kernel
theorem d_G_piece_11 : decode b_G_piece 11 = .ok (.ifCond .ne 5, 3) := by decide +kernel
theorem d_G_piece_14 : decode b_G_piece 14 = .ok (.iconst (-1), 1) := by decide +kernel
theorem d_G_piece_15 : decode b_G_piece 15 = .ok (.ireturn, 1) := by decide +kernel
theorem d_G_piece_16 : decode b_G_piece 16 = .ok (.aload_n 0, 1) := by decide +kernel
theorem d_G_piece_17 : decode b_G_piece 17 = .ok (.getfield 32, 3) := by decide +kernel
theorem d_G_piece_20 : decode b_G_piece 20 = .ok (.getfield 175, 3) := by decide +kernel
theorem d_G_piece_23 : decode b_G_piece 23 = .ok (.iload_n 1, 1) := by decide +kernel
theorem d_G_piece_24 : decode b_G_piece 24 = .ok (.aaload, 1) := by decide +kernel
theorem d_G_piece_25 : decode b_G_piece 25 = .ok (.astore_n 3, 1) := by decide +kernel
theorem d_G_piece_26 : decode b_G_piece 26 = .ok (.iload_n 2, 1) := by decide +kernel
theorem d_G_piece_27 : decode b_G_piece 27 = .ok (.tableswitch 49 0 3 #[29, 34, 39, 44], 29) := by decide +kernel
theorem d_G_piece_56 : decode b_G_piece 56 = .ok (.aload_n 3, 1) := by decide +kernel
theorem d_G_piece_57 : decode b_G_piece 57 = .ok (.getfield 172, 3) := by decide +kernel
theorem d_G_piece_60 : decode b_G_piece 60 = .ok (.ireturn, 1) := by decide +kernel
theorem d_G_piece_61 : decode b_G_piece 61 = .ok (.aload_n 3, 1) := by decide +kernel
theorem d_G_piece_62 : decode b_G_piece 62 = .ok (.getfield 200, 3) := by decide +kernel
theorem d_G_piece_65 : decode b_G_piece 65 = .ok (.ireturn, 1) := by decide +kernel
theorem d_G_piece_66 : decode b_G_piece 66 = .ok (.aload_n 3, 1) := by decide +kernel
theorem d_G_piece_67 : decode b_G_piece 67 = .ok (.getfield 203, 3) := by decide +kernel
theorem d_G_piece_70 : decode b_G_piece 70 = .ok (.ireturn, 1) := by decide +kernel
theorem d_G_piece_71 : decode b_G_piece 71 = .ok (.aload_n 3, 1) := by decide +kernel
theorem d_G_piece_72 : decode b_G_piece 72 = .ok (.getfield 206, 3) := by decide +kernel
theorem d_G_piece_75 : decode b_G_piece 75 = .ok (.ireturn, 1) := by decide +kernel
theorem d_G_piece_76 : decode b_G_piece 76 = .ok (.iconst (-1), 1) := by decide +kernel
theorem d_G_piece_77 : decode b_G_piece 77 = .ok (.ireturn, 1) := by decide +kernel
theorem d_G_deliver_0 : decode b_G_deliver 0 = .ok (.iload_n 1, 1) := by decide +kernel
theorem d_G_deliver_1 : decode b_G_deliver 1 = .ok (.aload_n 0, 1) := by decide +kernel
theorem d_G_deliver_2 : decode b_G_deliver 2 = .ok (.getfield 32, 3) := by decide +kernel
theorem d_G_deliver_5 : decode b_G_deliver 5 = .ok (.getfield 162, 3) := by decide +kernel
theorem d_G_deliver_8 : decode b_G_deliver 8 = .ok (.invokestatic 44, 3) := by decide +kernel
theorem d_G_deliver_11 : decode b_G_deliver 11 = .ok (.ifCond .ne 5, 3) := by decide +kernel
theorem d_G_deliver_14 : decode b_G_deliver 14 = .ok (.iconst (-1), 1) := by decide +kernel
theorem d_G_deliver_15 : decode b_G_deliver 15 = .ok (.ireturn, 1) := by decide +kernel
theorem d_G_deliver_16 : decode b_G_deliver 16 = .ok (.aload_n 0, 1) := by decide +kernel
theorem d_G_deliver_17 : decode b_G_deliver 17 = .ok (.getfield 32, 3) := by decide +kernel
theorem d_G_deliver_20 : decode b_G_deliver 20 = .ok (.iload_n 1, 1) := by decide +kernel
theorem d_G_deliver_21 : decode b_G_deliver 21 = .ok (.invokevirtual 165, 3) := by decide +kernel
theorem d_G_deliver_24 : decode b_G_deliver 24 = .ok (.astore_n 2, 1) := by decide +kernel
theorem d_G_deliver_25 : decode b_G_deliver 25 = .ok (.aload_n 0, 1) := by decide +kernel
theorem d_G_deliver_26 : decode b_G_deliver 26 = .ok (.aload_n 2, 1) := by decide +kernel
theorem d_G_deliver_27 : decode b_G_deliver 27 = .ok (.invokevirtual 169, 3) := by decide +kernel
theorem d_G_deliver_30 : decode b_G_deliver 30 = .ok (.aload_n 2, 1) := by decide +kernel
theorem d_G_deliver_31 : decode b_G_deliver 31 = .ok (.getfield 172, 3) := by decide +kernel
theorem d_G_deliver_34 : decode b_G_deliver 34 = .ok (.ireturn, 1) := by decide +kernel
