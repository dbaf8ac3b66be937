theorem d_G_isBelow_0 : decode b_G_isBelow 0 = .ok (.iload_n 0, 1) := by decide +kernel
theorem d_G_isBelow_1 : decode b_G_isBelow 1 = .ok (.ifCond .lt 12, 3) := by decide +kernel
theorem d_G_isBelow_4 : decode b_G_isBelow 4 = .ok (.iload_n 0, 1) := by decide +kernel
theorem d_G_isBelow_5 : decode b_G_isBelow 5 = .ok (.iload_n 1, 1) := by decide +kernel
theorem d_G_isBelow_6 : decode b_G_isBelow 6 = .ok (.if_icmp .ge 7, 3) := by decide +kernel
theorem d_G_isBelow_9 : decode b_G_isBelow 9 = .ok (.iconst 1, 1) := by decide +kernel
theorem d_G_isBelow_10 : decode b_G_isBelow 10 = .ok (.goto 4, 3) := by decide +kernel
theorem d_G_isBelow_13 : decode b_G_isBelow 13 = .ok (.iconst 0, 1) := by decide +kernel
theorem d_G_isBelow_14 : decode b_G_isBelow 14 = .ok (.ireturn, 1) := by decide +kernel
theorem d_G_other_0 : decode b_G_other 0 = .ok (.iconst 1, 1) := by decide +kernel
theorem d_G_other_1 : decode b_G_other 1 = .ok (.iload_n 0, 1) := by decide +kernel
theorem d_G_other_2 : decode b_G_other 2 = .ok (.isub, 1) := by decide +kernel
theorem d_G_other_3 : decode b_G_other 3 = .ok (.ireturn, 1) := by decide +kernel
theorem d_A_haltsOrWaits_0 : decode b_A_haltsOrWaits 0 = .ok (.iload_n 1, 1) := by decide +kernel
theorem d_A_haltsOrWaits_1 : decode b_A_haltsOrWaits 1 = .ok (.ifCond .eq 15, 3) := by decide +kernel
theorem d_A_haltsOrWaits_4 : decode b_A_haltsOrWaits 4 = .ok (.iload_n 1, 1) := by decide +kernel
theorem d_A_haltsOrWaits_5 : decode b_A_haltsOrWaits 5 = .ok (.bipush 14, 2) := by decide +kernel
theorem d_A_haltsOrWaits_7 : decode b_A_haltsOrWaits 7 = .ok (.if_icmp .eq 9, 3) := by decide +kernel
theorem d_A_haltsOrWaits_10 : decode b_A_haltsOrWaits 10 = .ok (.iload_n 1, 1) := by decide +kernel
theorem d_A_haltsOrWaits_11 : decode b_A_haltsOrWaits 11 = .ok (.bipush 15, 2) := by decide +kernel
theorem d_A_haltsOrWaits_13 : decode b_A_haltsOrWaits 13 = .ok (.if_icmp .ne 7, 3) := by decide +kernel
theorem d_A_haltsOrWaits_16 : decode b_A_haltsOrWaits 16 = .ok (.iconst 1, 1) := by decide +kernel
theorem d_A_haltsOrWaits_17 : decode b_A_haltsOrWaits 17 = .ok (.goto 4, 3) := by decide +kernel
theorem d_A_haltsOrWaits_20 : decode b_A_haltsOrWaits 20 = .ok (.iconst 0, 1) := by decide +kernel
theorem d_A_haltsOrWaits_21 : decode b_A_haltsOrWaits 21 = .ok (.istore_n 2, 1) := by decide +kernel
theorem d_A_haltsOrWaits_22 : decode b_A_haltsOrWaits 22 = .ok (.aload_n 0, 1) := by decide +kernel
theorem d_A_haltsOrWaits_23 : decode b_A_haltsOrWaits 23 = .ok (.getfield 40, 3) := by decide +kernel
theorem d_A_haltsOrWaits_26 : decode b_A_haltsOrWaits 26 = .ok (.ifCond .eq 19, 3) := by decide +kernel
theorem d_A_haltsOrWaits_29 : decode b_A_haltsOrWaits 29 = .ok (.iload_n 1, 1) := by decide +kernel
theorem d_A_haltsOrWaits_30 : decode b_A_haltsOrWaits 30 = .ok (.bipush 11, 2) := by decide +kernel
theorem d_A_haltsOrWaits_32 : decode b_A_haltsOrWaits 32 = .ok (.if_icmp .eq 9, 3) := by decide +kernel
theorem d_A_haltsOrWaits_35 : decode b_A_haltsOrWaits 35 = .ok (.iload_n 1, 1) := by decide +kernel
theorem d_A_haltsOrWaits_36 : decode b_A_haltsOrWaits 36 = .ok (.bipush 12, 2) := by decide +kernel
theorem d_A_haltsOrWaits_38 : decode b_A_haltsOrWaits 38 = .ok (.if_icmp .ne 7, 3) := by decide +kernel
theorem d_A_haltsOrWaits_41 : decode b_A_haltsOrWaits 41 = .ok (.iconst 1, 1) := by decide +kernel
theorem d_A_haltsOrWaits_42 : decode b_A_haltsOrWaits 42 = .ok (.goto 4, 3) := by decide +kernel
theorem d_A_haltsOrWaits_45 : decode b_A_haltsOrWaits 45 = .ok (.iconst 0, 1) := by decide +kernel
theorem d_A_haltsOrWaits_46 : decode b_A_haltsOrWaits 46 = .ok (.istore_n 3, 1) := by decide +kernel
theorem d_A_haltsOrWaits_47 : decode b_A_haltsOrWaits 47 = .ok (.iload_n 2, 1) := by decide +kernel
theorem d_A_haltsOrWaits_48 : decode b_A_haltsOrWaits 48 = .ok (.ifCond .ne 7, 3) := by decide +kernel
theorem d_A_haltsOrWaits_51 : decode b_A_haltsOrWaits 51 = .ok (.iload_n 3, 1) := by decide +kernel
theorem d_A_haltsOrWaits_52 : decode b_A_haltsOrWaits 52 = .ok (.ifCond .eq 7, 3) := by decide +kernel
theorem d_A_haltsOrWaits_55 : decode b_A_haltsOrWaits 55 = .ok (.iconst 1, 1) := by decide +kernel
theorem d_A_haltsOrWaits_56 : decode b_A_haltsOrWaits 56 = .ok (.goto 4, 3) := by decide +kernel
theorem d_A_haltsOrWaits_59 : decode b_A_haltsOrWaits 59 = .ok (.iconst 0, 1) := by decide +kernel
theorem d_A_haltsOrWaits_60 : decode b_A_haltsOrWaits 60 = .ok (.ireturn, 1) := by decide +kernel
theorem d_A_address_0 : decode b_A_address 0 = .ok (.aload_n 0, 1) := by decide +kernel
theorem d_A_address_1 : decode b_A_address 1 = .ok (.getfield 15, 3) := by decide +kernel
theorem d_A_address_4 : decode b_A_address 4 = .ok (.iload_n 1, 1) := by decide +kernel
theorem d_A_address_5 : decode b_A_address 5 = .ok (.bipush 6, 2) := by decide +kernel
theorem d_A_address_7 : decode b_A_address 7 = .ok (.ishr, 1) := by decide +kernel
theorem d_A_address_8 : decode b_A_address 8 = .ok (.iconst 3, 1) := by decide +kernel
theorem d_A_address_9 : decode b_A_address 9 = .ok (.iand, 1) := by decide +kernel
theorem d_A_address_10 : decode b_A_address 10 = .ok (.iaload, 1) := by decide +kernel
theorem d_A_address_11 : decode b_A_address 11 = .ok (.iload_n 1, 1) := by decide +kernel
theorem d_A_address_12 : decode b_A_address 12 = .ok (.bipush 8, 2) := by decide +kernel
theorem d_A_address_14 : decode b_A_address 14 = .ok (.ishr, 1) := by decide +kernel
theorem d_A_address_15 : decode b_A_address 15 = .ok (.bipush 63, 2) := by decide +kernel
theorem d_A_address_17 : decode b_A_address 17 = .ok (.iand, 1) := by decide +kernel
theorem d_A_address_18 : decode b_A_address 18 = .ok (.iadd, 1) := by decide +kernel
theorem d_A_address_19 : decode b_A_address 19 = .ok (.bipush 63, 2) := by decide +kernel
theorem d_A_address_21 : decode b_A_address 21 = .ok (.iand, 1) := by decide +kernel
theorem d_A_address_22 : decode b_A_address 22 = .ok (.ireturn, 1) := by decide +kernel
theorem d_A_request_0 : decode b_A_request 0 = .ok (.aload_n 0, 1) := by decide +kernel
theorem d_A_request_1 : decode b_A_request 1 = .ok (.iconst 1, 1) := by decide +kernel
theorem d_A_request_2 : decode b_A_request 2 = .ok (.putfield 40, 3) := by decide +kernel
theorem d_A_request_5 : decode b_A_request 5 = .ok (.aload_n 0, 1) := by decide +kernel
theorem d_A_request_6 : decode b_A_request 6 = .ok (.iload_n 1, 1) := by decide +kernel
theorem d_A_request_7 : decode b_A_request 7 = .ok (.putfield 44, 3) := by decide +kernel
theorem d_A_request_10 : decode b_A_request 10 = .ok (.aload_n 0, 1) := by decide +kernel
theorem d_A_request_11 : decode b_A_request 11 = .ok (.iload_n 2, 1) := by decide +kernel
theorem d_A_request_12 : decode b_A_request 12 = .ok (.putfield 47, 3) := by decide +kernel
theorem d_A_request_15 : decode b_A_request 15 = .ok (.return_, 1) := by decide +kernel
theorem d_A_write_0 : decode b_A_write 0 = .ok (.aload_n 0, 1) := by decide +kernel
theorem d_A_write_1 : decode b_A_write 1 = .ok (.getfield 34, 3) := by decide +kernel
theorem d_A_write_4 : decode b_A_write 4 = .ok (.bipush 40, 2) := by decide +kernel
theorem d_A_write_6 : decode b_A_write 6 = .ok (.if_icmp .ge 23, 3) := by decide +kernel
theorem d_A_write_9 : decode b_A_write 9 = .ok (.aload_n 0, 1) := by decide +kernel
theorem d_A_write_10 : decode b_A_write 10 = .ok (.getfield 21, 3) := by decide +kernel
theorem d_A_write_13 : decode b_A_write 13 = .ok (.aload_n 0, 1) := by decide +kernel
theorem d_A_write_14 : decode b_A_write 14 = .ok (.getfield 34, 3) := by decide +kernel
theorem d_A_write_17 : decode b_A_write 17 = .ok (.iload_n 1, 1) := by decide +kernel
theorem d_A_write_18 : decode b_A_write 18 = .ok (.iastore, 1) := by decide +kernel
theorem d_A_write_19 : decode b_A_write 19 = .ok (.aload_n 0, 1) := by decide +kernel
theorem d_A_write_20 : decode b_A_write 20 = .ok (.dup, 1) := by decide +kernel
theorem d_A_write_21 : decode b_A_write 21 = .ok (.getfield 34, 3) := by decide +kernel
theorem d_A_write_24 : decode b_A_write 24 = .ok (.iconst 1, 1) := by decide +kernel
theorem d_A_write_25 : decode b_A_write 25 = .ok (.iadd, 1) := by decide +kernel
theorem d_A_write_26 : decode b_A_write 26 = .ok (.putfield 34, 3) := by decide +kernel
theorem d_A_write_29 : decode b_A_write 29 = .ok (.return_, 1) := by decide +kernel
theorem d_A_tick_0 : decode b_A_tick 0 = .ok (.aload_n 0, 1) := by decide +kernel
theorem d_A_tick_1 : decode b_A_tick 1 = .ok (.getfield 28, 3) := by decide +kernel
theorem d_A_tick_4 : decode b_A_tick 4 = .ok (.ifCond .ne 4, 3) := by decide +kernel
theorem d_A_tick_7 : decode b_A_tick 7 = .ok (.return_, 1) := by decide +kernel
theorem d_A_tick_8 : decode b_A_tick 8 = .ok (.aload_n 0, 1) := by decide +kernel
theorem d_A_tick_9 : decode b_A_tick 9 = .ok (.dup, 1) := by decide +kernel
theorem d_A_tick_10 : decode b_A_tick 10 = .ok (.getfield 28, 3) := by decide +kernel
theorem d_A_tick_13 : decode b_A_tick 13 = .ok (.iconst 1, 1) := by decide +kernel
theorem d_A_tick_14 : decode b_A_tick 14 = .ok (.isub, 1) := by decide +kernel
theorem d_A_tick_15 : decode b_A_tick 15 = .ok (.putfield 28, 3) := by decide +kernel
theorem d_A_tick_18 : decode b_A_tick 18 = .ok (.aload_n 0, 1) := by decide +kernel
theorem d_A_tick_19 : decode b_A_tick 19 = .ok (.getfield 28, 3) := by decide +kernel
theorem d_A_tick_22 : decode b_A_tick 22 = .ok (.ifCond .ne 19, 3) := by decide +kernel
theorem d_A_tick_25 : decode b_A_tick 25 = .ok (.aload_n 0, 1) := by decide +kernel
theorem d_A_tick_26 : decode b_A_tick 26 = .ok (.getfield 15, 3) := by decide +kernel
theorem d_A_tick_29 : decode b_A_tick 29 = .ok (.iconst 3, 1) := by decide +kernel
theorem d_A_tick_30 : decode b_A_tick 30 = .ok (.aload_n 0, 1) := by decide +kernel
theorem d_A_tick_31 : decode b_A_tick 31 = .ok (.getfield 24, 3) := by decide +kernel
theorem d_A_tick_34 : decode b_A_tick 34 = .ok (.iastore, 1) := by decide +kernel
theorem d_A_tick_35 : decode b_A_tick 35 = .ok (.aload_n 0, 1) := by decide +kernel
theorem d_A_tick_36 : decode b_A_tick 36 = .ok (.bipush 56, 2) := by decide +kernel
theorem d_A_tick_38 : decode b_A_tick 38 = .ok (.putfield 24, 3) := by decide +kernel
theorem d_A_tick_41 : decode b_A_tick 41 = .ok (.return_, 1) := by decide +kernel
theorem d_A_readOldest_0 : decode b_A_readOldest 0 = .ok (.aload_n 0, 1) := by decide +kernel
theorem d_A_readOldest_1 : decode b_A_readOldest 1 = .ok (.getfield 31, 3) := by decide +kernel
theorem d_A_readOldest_4 : decode b_A_readOldest 4 = .ok (.ifCond .ne 5, 3) := by decide +kernel
theorem d_A_readOldest_7 : decode b_A_readOldest 7 = .ok (.iconst (-1), 1) := by decide +kernel
theorem d_A_readOldest_8 : decode b_A_readOldest 8 = .ok (.ireturn, 1) := by decide +kernel
theorem d_A_readOldest_9 : decode b_A_readOldest 9 = .ok (.aload_n 0, 1) := by decide +kernel
theorem d_A_readOldest_10 : decode b_A_readOldest 10 = .ok (.getfield 18, 3) := by decide +kernel
theorem d_A_readOldest_13 : decode b_A_readOldest 13 = .ok (.iconst 0, 1) := by decide +kernel
theorem d_A_readOldest_14 : decode b_A_readOldest 14 = .ok (.iaload, 1) := by decide +kernel
theorem d_A_readOldest_15 : decode b_A_readOldest 15 = .ok (.istore_n 1, 1) := by decide +kernel
theorem d_A_readOldest_16 : decode b_A_readOldest 16 = .ok (.aload_n 0, 1) := by decide +kernel
theorem d_A_readOldest_17 : decode b_A_readOldest 17 = .ok (.dup, 1) := by decide +kernel
theorem d_A_readOldest_18 : decode b_A_readOldest 18 = .ok (.getfield 31, 3) := by decide +kernel
theorem d_A_readOldest_21 : decode b_A_readOldest 21 = .ok (.iconst 1, 1) := by decide +kernel
theorem d_A_readOldest_22 : decode b_A_readOldest 22 = .ok (.isub, 1) := by decide +kernel
theorem d_A_readOldest_23 : decode b_A_readOldest 23 = .ok (.putfield 31, 3) := by decide +kernel
theorem d_A_readOldest_26 : decode b_A_readOldest 26 = .ok (.aload_n 0, 1) := by decide +kernel
theorem d_A_readOldest_27 : decode b_A_readOldest 27 = .ok (.getfield 18, 3) := by decide +kernel
theorem d_A_readOldest_30 : decode b_A_readOldest 30 = .ok (.iconst 1, 1) := by decide +kernel
theorem d_A_readOldest_31 : decode b_A_readOldest 31 = .ok (.aload_n 0, 1) := by decide +kernel
theorem d_A_readOldest_32 : decode b_A_readOldest 32 = .ok (.getfield 18, 3) := by decide +kernel
theorem d_A_readOldest_35 : decode b_A_readOldest 35 = .ok (.iconst 0, 1) := by decide +kernel
theorem d_A_readOldest_36 : decode b_A_readOldest 36 = .ok (.aload_n 0, 1) := by decide +kernel
theorem d_A_readOldest_37 : decode b_A_readOldest 37 = .ok (.getfield 31, 3) := by decide +kernel
theorem d_A_readOldest_40 : decode b_A_readOldest 40 = .ok (.invokestatic 56, 3) := by decide +kernel
theorem d_A_readOldest_43 : decode b_A_readOldest 43 = .ok (.iload_n 1, 1) := by decide +kernel
theorem d_A_readOldest_44 : decode b_A_readOldest 44 = .ok (.ireturn, 1) := by decide +kernel
theorem d_A_compute_0 : decode b_A_compute 0 = .ok (.iload_n 1, 1) := by decide +kernel
theorem d_A_compute_1 : decode b_A_compute 1 = .ok (.iconst 4, 1) := by decide +kernel
theorem d_A_compute_2 : decode b_A_compute 2 = .ok (.ishr, 1) := by decide +kernel
theorem d_A_compute_3 : decode b_A_compute 3 = .ok (.iconst 3, 1) := by decide +kernel
theorem d_A_compute_4 : decode b_A_compute 4 = .ok (.iand, 1) := by decide +kernel
theorem d_A_compute_5 : decode b_A_compute 5 = .ok (.istore_n 2, 1) := by decide +kernel
theorem d_A_compute_6 : decode b_A_compute 6 = .ok (.iload_n 1, 1) := by decide +kernel
theorem d_A_compute_7 : decode b_A_compute 7 = .ok (.bipush 6, 2) := by decide +kernel
theorem d_A_compute_9 : decode b_A_compute 9 = .ok (.ishr, 1) := by decide +kernel
theorem d_A_compute_10 : decode b_A_compute 10 = .ok (.iconst 3, 1) := by decide +kernel
theorem d_A_compute_11 : decode b_A_compute 11 = .ok (.iand, 1) := by decide +kernel
theorem d_A_compute_12 : decode b_A_compute 12 = .ok (.istore_n 3, 1) := by decide +kernel
theorem d_A_compute_13 : decode b_A_compute 13 = .ok (.iload_n 1, 1) := by decide +kernel
theorem d_A_compute_14 : decode b_A_compute 14 = .ok (.bipush 8, 2) := by decide +kernel
theorem d_A_compute_16 : decode b_A_compute 16 = .ok (.ishr, 1) := by decide +kernel
theorem d_A_compute_17 : decode b_A_compute 17 = .ok (.bipush 63, 2) := by decide +kernel
theorem d_A_compute_19 : decode b_A_compute 19 = .ok (.iand, 1) := by decide +kernel
theorem d_A_compute_20 : decode b_A_compute 20 = .ok (.istore 4, 2) := by decide +kernel
theorem d_A_compute_22 : decode b_A_compute 22 = .ok (.iload_n 1, 1) := by decide +kernel
theorem d_A_compute_23 : decode b_A_compute 23 = .ok (.bipush 15, 2) := by decide +kernel
theorem d_A_compute_25 : decode b_A_compute 25 = .ok (.iand, 1) := by decide +kernel
theorem d_A_compute_26 : decode b_A_compute 26 = .ok (.tableswitch 231 1 13 #[66, 79, 97, 115, 133, 231, 152, 161, 186, 199, 231, 231, 212], 66) := by decide +kernel
theorem d_A_compute_92 : decode b_A_compute 92 = .ok (.aload_n 0, 1) := by decide +kernel
theorem d_A_compute_93 : decode b_A_compute 93 = .ok (.getfield 15, 3) := by decide +kernel
theorem d_A_compute_96 : decode b_A_compute 96 = .ok (.iload_n 2, 1) := by decide +kernel
theorem d_A_compute_97 : decode b_A_compute 97 = .ok (.iload_n 1, 1) := by decide +kernel
theorem d_A_compute_98 : decode b_A_compute 98 = .ok (.bipush 16, 2) := by decide +kernel
theorem d_A_compute_100 : decode b_A_compute 100 = .ok (.ishr, 1) := by decide +kernel
theorem d_A_compute_101 : decode b_A_compute 101 = .ok (.iastore, 1) := by decide +kernel
theorem d_A_compute_102 : decode b_A_compute 102 = .ok (.goto 155, 3) := by decide +kernel
theorem d_A_compute_105 : decode b_A_compute 105 = .ok (.aload_n 0, 1) := by decide +kernel
theorem d_A_compute_106 : decode b_A_compute 106 = .ok (.getfield 15, 3) := by decide +kernel
theorem d_A_compute_109 : decode b_A_compute 109 = .ok (.iload_n 2, 1) := by decide +kernel
theorem d_A_compute_110 : decode b_A_compute 110 = .ok (.dup2, 1) := by decide +kernel
theorem d_A_compute_111 : decode b_A_compute 111 = .ok (.iaload, 1) := by decide +kernel
theorem d_A_compute_112 : decode b_A_compute 112 = .ok (.aload_n 0, 1) := by decide +kernel
theorem d_A_compute_113 : decode b_A_compute 113 = .ok (.getfield 15, 3) := by decide +kernel
theorem d_A_compute_116 : decode b_A_compute 116 = .ok (.iload_n 3, 1) := by decide +kernel
theorem d_A_compute_117 : decode b_A_compute 117 = .ok (.iaload, 1) := by decide +kernel
theorem d_A_compute_118 : decode b_A_compute 118 = .ok (.iadd, 1) := by decide +kernel
theorem d_A_compute_119 : decode b_A_compute 119 = .ok (.iastore, 1) := by decide +kernel
theorem d_A_compute_120 : decode b_A_compute 120 = .ok (.goto 137, 3) := by decide +kernel
theorem d_A_compute_123 : decode b_A_compute 123 = .ok (.aload_n 0, 1) := by decide +kernel
theorem d_A_compute_124 : decode b_A_compute 124 = .ok (.getfield 15, 3) := by decide +kernel
theorem d_A_compute_127 : decode b_A_compute 127 = .ok (.iload_n 2, 1) := by decide +kernel
theorem d_A_compute_128 : decode b_A_compute 128 = .ok (.dup2, 1) := by decide +kernel
theorem d_A_compute_129 : decode b_A_compute 129 = .ok (.iaload, 1) := by decide +kernel
theorem d_A_compute_130 : decode b_A_compute 130 = .ok (.aload_n 0, 1) := by decide +kernel
theorem d_A_compute_131 : decode b_A_compute 131 = .ok (.getfield 15, 3) := by decide +kernel
theorem d_A_compute_134 : decode b_A_compute 134 = .ok (.iload_n 3, 1) := by decide +kernel
theorem d_A_compute_135 : decode b_A_compute 135 = .ok (.iaload, 1) := by decide +kernel
theorem d_A_compute_136 : decode b_A_compute 136 = .ok (.isub, 1) := by decide +kernel
theorem d_A_compute_137 : decode b_A_compute 137 = .ok (.iastore, 1) := by decide +kernel
theorem d_A_compute_138 : decode b_A_compute 138 = .ok (.goto 119, 3) := by decide +kernel
theorem d_A_compute_141 : decode b_A_compute 141 = .ok (.aload_n 0, 1) := by decide +kernel
theorem d_A_compute_142 : decode b_A_compute 142 = .ok (.getfield 15, 3) := by decide +kernel
theorem d_A_compute_145 : decode b_A_compute 145 = .ok (.iload_n 2, 1) := by decide +kernel
theorem d_A_compute_146 : decode b_A_compute 146 = .ok (.dup2, 1) := by decide +kernel
theorem d_A_compute_147 : decode b_A_compute 147 = .ok (.iaload, 1) := by decide +kernel
theorem d_A_compute_148 : decode b_A_compute 148 = .ok (.aload_n 0, 1) := by decide +kernel
theorem d_A_compute_149 : decode b_A_compute 149 = .ok (.getfield 15, 3) := by decide +kernel
theorem d_A_compute_152 : decode b_A_compute 152 = .ok (.iload_n 3, 1) := by decide +kernel
theorem d_A_compute_153 : decode b_A_compute 153 = .ok (.iaload, 1) := by decide +kernel
theorem d_A_compute_154 : decode b_A_compute 154 = .ok (.imul, 1) := by decide +kernel
theorem d_A_compute_155 : decode b_A_compute 155 = .ok (.iastore, 1) := by decide +kernel
theorem d_A_compute_156 : decode b_A_compute 156 = .ok (.goto 101, 3) := by decide +kernel
theorem d_A_compute_159 : decode b_A_compute 159 = .ok (.aload_n 0, 1) := by decide +kernel
theorem d_A_compute_160 : decode b_A_compute 160 = .ok (.getfield 15, 3) := by decide +kernel
theorem d_A_compute_163 : decode b_A_compute 163 = .ok (.iload_n 2, 1) := by decide +kernel
theorem d_A_compute_164 : decode b_A_compute 164 = .ok (.aload_n 0, 1) := by decide +kernel
theorem d_A_compute_165 : decode b_A_compute 165 = .ok (.getfield 9, 3) := by decide +kernel
theorem d_A_compute_168 : decode b_A_compute 168 = .ok (.aload_n 0, 1) := by decide +kernel
theorem d_A_compute_169 : decode b_A_compute 169 = .ok (.iload_n 1, 1) := by decide +kernel
theorem d_A_compute_170 : decode b_A_compute 170 = .ok (.invokevirtual 62, 3) := by decide +kernel
theorem d_A_compute_173 : decode b_A_compute 173 = .ok (.iaload, 1) := by decide +kernel
theorem d_A_compute_174 : decode b_A_compute 174 = .ok (.iastore, 1) := by decide +kernel
theorem d_A_compute_175 : decode b_A_compute 175 = .ok (.goto 82, 3) := by decide +kernel
theorem d_A_compute_178 : decode b_A_compute 178 = .ok (.aload_n 0, 1) := by decide +kernel
theorem d_A_compute_179 : decode b_A_compute 179 = .ok (.iload 4, 2) := by decide +kernel
theorem d_A_compute_181 : decode b_A_compute 181 = .ok (.putfield 24, 3) := by decide +kernel
theorem d_A_compute_184 : decode b_A_compute 184 = .ok (.goto 73, 3) := by decide +kernel
theorem d_A_compute_187 : decode b_A_compute 187 = .ok (.aload_n 0, 1) := by decide +kernel
theorem d_A_compute_188 : decode b_A_compute 188 = .ok (.aload_n 0, 1) := by decide +kernel
theorem d_A_compute_189 : decode b_A_compute 189 = .ok (.getfield 15, 3) := by decide +kernel
theorem d_A_compute_192 : decode b_A_compute 192 = .ok (.iload_n 2, 1) := by decide +kernel
theorem d_A_compute_193 : decode b_A_compute 193 = .ok (.iaload, 1) := by decide +kernel
theorem d_A_compute_194 : decode b_A_compute 194 = .ok (.ifCond .ne 8, 3) := by decide +kernel
theorem d_A_compute_197 : decode b_A_compute 197 = .ok (.iload 4, 2) := by decide +kernel
theorem d_A_compute_199 : decode b_A_compute 199 = .ok (.goto 7, 3) := by decide +kernel
theorem d_A_compute_202 : decode b_A_compute 202 = .ok (.aload_n 0, 1) := by decide +kernel
theorem d_A_compute_203 : decode b_A_compute 203 = .ok (.getfield 24, 3) := by decide +kernel
theorem d_A_compute_206 : decode b_A_compute 206 = .ok (.putfield 24, 3) := by decide +kernel
theorem d_A_compute_209 : decode b_A_compute 209 = .ok (.goto 48, 3) := by decide +kernel
theorem d_A_compute_212 : decode b_A_compute 212 = .ok (.aload_n 0, 1) := by decide +kernel
theorem d_A_compute_213 : decode b_A_compute 213 = .ok (.aload_n 0, 1) := by decide +kernel
theorem d_A_compute_214 : decode b_A_compute 214 = .ok (.getfield 15, 3) := by decide +kernel
theorem d_A_compute_217 : decode b_A_compute 217 = .ok (.iload_n 2, 1) := by decide +kernel
theorem d_A_compute_218 : decode b_A_compute 218 = .ok (.iaload, 1) := by decide +kernel
theorem d_A_compute_219 : decode b_A_compute 219 = .ok (.invokevirtual 66, 3) := by decide +kernel
theorem d_A_compute_222 : decode b_A_compute 222 = .ok (.goto 35, 3) := by decide +kernel
theorem d_A_compute_225 : decode b_A_compute 225 = .ok (.aload_n 0, 1) := by decide +kernel
theorem d_A_compute_226 : decode b_A_compute 226 = .ok (.getfield 15, 3) := by decide +kernel
theorem d_A_compute_229 : decode b_A_compute 229 = .ok (.iload_n 2, 1) := by decide +kernel
theorem d_A_compute_230 : decode b_A_compute 230 = .ok (.aload_n 0, 1) := by decide +kernel
theorem d_A_compute_231 : decode b_A_compute 231 = .ok (.invokevirtual 70, 3) := by decide +kernel
theorem d_A_compute_234 : decode b_A_compute 234 = .ok (.iastore, 1) := by decide +kernel
theorem d_A_compute_235 : decode b_A_compute 235 = .ok (.goto 22, 3) := by decide +kernel
theorem d_A_compute_238 : decode b_A_compute 238 = .ok (.aload_n 0, 1) := by decide +kernel
theorem d_A_compute_239 : decode b_A_compute 239 = .ok (.aload_n 0, 1) := by decide +kernel
theorem d_A_compute_240 : decode b_A_compute 240 = .ok (.getfield 15, 3) := by decide +kernel
theorem d_A_compute_243 : decode b_A_compute 243 = .ok (.iload_n 2, 1) := by decide +kernel
theorem d_A_compute_244 : decode b_A_compute 244 = .ok (.iaload, 1) := by decide +kernel
theorem d_A_compute_245 : decode b_A_compute 245 = .ok (.sipush 255, 3) := by decide +kernel
theorem d_A_compute_248 : decode b_A_compute 248 = .ok (.iand, 1) := by decide +kernel
theorem d_A_compute_249 : decode b_A_compute 249 = .ok (.iconst 1, 1) := by decide +kernel
theorem d_A_compute_250 : decode b_A_compute 250 = .ok (.iadd, 1) := by decide +kernel
theorem d_A_compute_251 : decode b_A_compute 251 = .ok (.putfield 28, 3) := by decide +kernel
theorem d_A_compute_254 : decode b_A_compute 254 = .ok (.goto 3, 3) := by decide +kernel
theorem d_A_compute_257 : decode b_A_compute 257 = .ok (.return_, 1) := by decide +kernel
theorem d_A_takeState_0 : decode b_A_takeState 0 = .ok (.aload_n 1, 1) := by decide +kernel
theorem d_A_takeState_1 : decode b_A_takeState 1 = .ok (.getfield 15, 3) := by decide +kernel
theorem d_A_takeState_4 : decode b_A_takeState 4 = .ok (.iconst 0, 1) := by decide +kernel
theorem d_A_takeState_5 : decode b_A_takeState 5 = .ok (.aload_n 0, 1) := by decide +kernel
theorem d_A_takeState_6 : decode b_A_takeState 6 = .ok (.getfield 15, 3) := by decide +kernel
theorem d_A_takeState_9 : decode b_A_takeState 9 = .ok (.iconst 0, 1) := by decide +kernel
theorem d_A_takeState_10 : decode b_A_takeState 10 = .ok (.iconst 4, 1) := by decide +kernel
theorem d_A_takeState_11 : decode b_A_takeState 11 = .ok (.invokestatic 56, 3) := by decide +kernel
theorem d_A_takeState_14 : decode b_A_takeState 14 = .ok (.aload_n 1, 1) := by decide +kernel
theorem d_A_takeState_15 : decode b_A_takeState 15 = .ok (.getfield 18, 3) := by decide +kernel
theorem d_A_takeState_18 : decode b_A_takeState 18 = .ok (.iconst 0, 1) := by decide +kernel
theorem d_A_takeState_19 : decode b_A_takeState 19 = .ok (.aload_n 0, 1) := by decide +kernel
theorem d_A_takeState_20 : decode b_A_takeState 20 = .ok (.getfield 18, 3) := by decide +kernel
theorem d_A_takeState_23 : decode b_A_takeState 23 = .ok (.iconst 0, 1) := by decide +kernel
theorem d_A_takeState_24 : decode b_A_takeState 24 = .ok (.bipush 8, 2) := by decide +kernel
theorem d_A_takeState_26 : decode b_A_takeState 26 = .ok (.invokestatic 56, 3) := by decide +kernel
theorem d_A_takeState_29 : decode b_A_takeState 29 = .ok (.aload_n 1, 1) := by decide +kernel
theorem d_A_takeState_30 : decode b_A_takeState 30 = .ok (.getfield 21, 3) := by decide +kernel
theorem d_A_takeState_33 : decode b_A_takeState 33 = .ok (.iconst 0, 1) := by decide +kernel
theorem d_A_takeState_34 : decode b_A_takeState 34 = .ok (.aload_n 0, 1) := by decide +kernel
theorem d_A_takeState_35 : decode b_A_takeState 35 = .ok (.getfield 21, 3) := by decide +kernel
theorem d_A_takeState_38 : decode b_A_takeState 38 = .ok (.iconst 0, 1) := by decide +kernel
theorem d_A_takeState_39 : decode b_A_takeState 39 = .ok (.bipush 40, 2) := by decide +kernel
theorem d_A_takeState_41 : decode b_A_takeState 41 = .ok (.invokestatic 56, 3) := by decide +kernel
theorem d_A_takeState_44 : decode b_A_takeState 44 = .ok (.aload_n 0, 1) := by decide +kernel
theorem d_A_takeState_45 : decode b_A_takeState 45 = .ok (.aload_n 1, 1) := by decide +kernel
theorem d_A_takeState_46 : decode b_A_takeState 46 = .ok (.getfield 24, 3) := by decide +kernel
theorem d_A_takeState_49 : decode b_A_takeState 49 = .ok (.putfield 24, 3) := by decide +kernel
theorem d_A_takeState_52 : decode b_A_takeState 52 = .ok (.aload_n 0, 1) := by decide +kernel
theorem d_A_takeState_53 : decode b_A_takeState 53 = .ok (.aload_n 1, 1) := by decide +kernel
theorem d_A_takeState_54 : decode b_A_takeState 54 = .ok (.getfield 28, 3) := by decide +kernel
theorem d_A_takeState_57 : decode b_A_takeState 57 = .ok (.putfield 28, 3) := by decide +kernel
theorem d_A_takeState_60 : decode b_A_takeState 60 = .ok (.aload_n 0, 1) := by decide +kernel
theorem d_A_takeState_61 : decode b_A_takeState 61 = .ok (.aload_n 1, 1) := by decide +kernel
theorem d_A_takeState_62 : decode b_A_takeState 62 = .ok (.getfield 31, 3) := by decide +kernel
theorem d_A_takeState_65 : decode b_A_takeState 65 = .ok (.putfield 31, 3) := by decide +kernel
theorem d_A_takeState_68 : decode b_A_takeState 68 = .ok (.aload_n 0, 1) := by decide +kernel
theorem d_A_takeState_69 : decode b_A_takeState 69 = .ok (.aload_n 1, 1) := by decide +kernel
theorem d_A_takeState_70 : decode b_A_takeState 70 = .ok (.getfield 34, 3) := by decide +kernel
theorem d_A_takeState_73 : decode b_A_takeState 73 = .ok (.putfield 34, 3) := by decide +kernel
theorem d_A_takeState_76 : decode b_A_takeState 76 = .ok (.aload_n 0, 1) := by decide +kernel
theorem d_A_takeState_77 : decode b_A_takeState 77 = .ok (.aload_n 1, 1) := by decide +kernel
theorem d_A_takeState_78 : decode b_A_takeState 78 = .ok (.getfield 37, 3) := by decide +kernel
theorem d_A_takeState_81 : decode b_A_takeState 81 = .ok (.putfield 37, 3) := by decide +kernel
theorem d_A_takeState_84 : decode b_A_takeState 84 = .ok (.aload_n 0, 1) := by decide +kernel
theorem d_A_takeState_85 : decode b_A_takeState 85 = .ok (.aload_n 1, 1) := by decide +kernel
theorem d_A_takeState_86 : decode b_A_takeState 86 = .ok (.getfield 40, 3) := by decide +kernel
theorem d_A_takeState_89 : decode b_A_takeState 89 = .ok (.putfield 40, 3) := by decide +kernel
theorem d_A_takeState_92 : decode b_A_takeState 92 = .ok (.aload_n 0, 1) := by decide +kernel
theorem d_A_takeState_93 : decode b_A_takeState 93 = .ok (.aload_n 1, 1) := by decide +kernel
theorem d_A_takeState_94 : decode b_A_takeState 94 = .ok (.getfield 44, 3) := by decide +kernel
theorem d_A_takeState_97 : decode b_A_takeState 97 = .ok (.putfield 44, 3) := by decide +kernel
theorem d_A_takeState_100 : decode b_A_takeState 100 = .ok (.aload_n 0, 1) := by decide +kernel
theorem d_A_takeState_101 : decode b_A_takeState 101 = .ok (.aload_n 1, 1) := by decide +kernel
theorem d_A_takeState_102 : decode b_A_takeState 102 = .ok (.getfield 47, 3) := by decide +kernel
theorem d_A_takeState_105 : decode b_A_takeState 105 = .ok (.putfield 47, 3) := by decide +kernel
theorem d_A_takeState_108 : decode b_A_takeState 108 = .ok (.return_, 1) := by decide +kernel
theorem d_H_order_0 : decode b_H_order 0 = .ok (.aload_n 0, 1) := by decide +kernel
theorem d_H_order_1 : decode b_H_order 1 = .ok (.iconst 1, 1) := by decide +kernel
theorem d_H_order_2 : decode b_H_order 2 = .ok (.putfield 35, 3) := by decide +kernel
theorem d_H_order_5 : decode b_H_order 5 = .ok (.aload_n 0, 1) := by decide +kernel
theorem d_H_order_6 : decode b_H_order 6 = .ok (.aload_n 0, 1) := by decide +kernel
theorem d_H_order_7 : decode b_H_order 7 = .ok (.getfield 12, 3) := by decide +kernel
theorem d_H_order_10 : decode b_H_order 10 = .ok (.getfield 48, 3) := by decide +kernel
theorem d_H_order_13 : decode b_H_order 13 = .ok (.putfield 38, 3) := by decide +kernel
theorem d_H_order_16 : decode b_H_order 16 = .ok (.aload_n 0, 1) := by decide +kernel
theorem d_H_order_17 : decode b_H_order 17 = .ok (.aload_n 0, 1) := by decide +kernel
theorem d_H_order_18 : decode b_H_order 18 = .ok (.getfield 12, 3) := by decide +kernel
theorem d_H_order_21 : decode b_H_order 21 = .ok (.getfield 51, 3) := by decide +kernel
theorem d_H_order_24 : decode b_H_order 24 = .ok (.putfield 42, 3) := by decide +kernel
theorem d_H_order_27 : decode b_H_order 27 = .ok (.aload_n 0, 1) := by decide +kernel
theorem d_H_order_28 : decode b_H_order 28 = .ok (.iload_n 1, 1) := by decide +kernel
theorem d_H_order_29 : decode b_H_order 29 = .ok (.putfield 45, 3) := by decide +kernel
theorem d_H_order_32 : decode b_H_order 32 = .ok (.return_, 1) := by decide +kernel
theorem d_H_leaveMove_0 : decode b_H_leaveMove 0 = .ok (.aload_n 0, 1) := by decide +kernel
theorem d_H_leaveMove_1 : decode b_H_leaveMove 1 = .ok (.iconst 0, 1) := by decide +kernel
theorem d_H_leaveMove_2 : decode b_H_leaveMove 2 = .ok (.putfield 29, 3) := by decide +kernel
theorem d_H_leaveMove_5 : decode b_H_leaveMove 5 = .ok (.aload_n 0, 1) := by decide +kernel
theorem d_H_leaveMove_6 : decode b_H_leaveMove 6 = .ok (.iconst 0, 1) := by decide +kernel
theorem d_H_leaveMove_7 : decode b_H_leaveMove 7 = .ok (.putfield 32, 3) := by decide +kernel
theorem d_H_leaveMove_10 : decode b_H_leaveMove 10 = .ok (.return_, 1) := by decide +kernel
theorem d_H_fall_0 : decode b_H_fall 0 = .ok (.aload_n 0, 1) := by decide +kernel
theorem d_H_fall_1 : decode b_H_fall 1 = .ok (.iconst 0, 1) := by decide +kernel
theorem d_H_fall_2 : decode b_H_fall 2 = .ok (.putfield 22, 3) := by decide +kernel
theorem d_H_fall_5 : decode b_H_fall 5 = .ok (.aload_n 0, 1) := by decide +kernel
theorem d_H_fall_6 : decode b_H_fall 6 = .ok (.iconst 0, 1) := by decide +kernel
theorem d_H_fall_7 : decode b_H_fall 7 = .ok (.putfield 26, 3) := by decide +kernel
theorem d_H_fall_10 : decode b_H_fall 10 = .ok (.aload_n 0, 1) := by decide +kernel
theorem d_H_fall_11 : decode b_H_fall 11 = .ok (.iconst 0, 1) := by decide +kernel
theorem d_H_fall_12 : decode b_H_fall 12 = .ok (.putfield 35, 3) := by decide +kernel
theorem d_H_fall_15 : decode b_H_fall 15 = .ok (.aload_n 0, 1) := by decide +kernel
theorem d_H_fall_16 : decode b_H_fall 16 = .ok (.invokevirtual 63, 3) := by decide +kernel
theorem d_H_fall_19 : decode b_H_fall 19 = .ok (.return_, 1) := by decide +kernel
theorem d_V_unknownPages_0 : decode b_V_unknownPages 0 = .ok (.iconst 0, 1) := by decide +kernel
theorem d_V_unknownPages_1 : decode b_V_unknownPages 1 = .ok (.istore_n 1, 1) := by decide +kernel
theorem d_V_unknownPages_2 : decode b_V_unknownPages 2 = .ok (.iconst 0, 1) := by decide +kernel
theorem d_V_unknownPages_3 : decode b_V_unknownPages 3 = .ok (.istore_n 2, 1) := by decide +kernel
theorem d_V_unknownPages_4 : decode b_V_unknownPages 4 = .ok (.iload_n 2, 1) := by decide +kernel
theorem d_V_unknownPages_5 : decode b_V_unknownPages 5 = .ok (.bipush 8, 2) := by decide +kernel
theorem d_V_unknownPages_7 : decode b_V_unknownPages 7 = .ok (.if_icmp .ge 22, 3) := by decide +kernel
theorem d_V_unknownPages_10 : decode b_V_unknownPages 10 = .ok (.aload_n 0, 1) := by decide +kernel
theorem d_V_unknownPages_11 : decode b_V_unknownPages 11 = .ok (.getfield 9, 3) := by decide +kernel
theorem d_V_unknownPages_14 : decode b_V_unknownPages 14 = .ok (.iload_n 2, 1) := by decide +kernel
theorem d_V_unknownPages_15 : decode b_V_unknownPages 15 = .ok (.iaload, 1) := by decide +kernel
theorem d_V_unknownPages_16 : decode b_V_unknownPages 16 = .ok (.iconst 2, 1) := by decide +kernel
theorem d_V_unknownPages_17 : decode b_V_unknownPages 17 = .ok (.if_icmp .eq 6, 3) := by decide +kernel
theorem d_V_unknownPages_20 : decode b_V_unknownPages 20 = .ok (.iinc 1 1, 3) := by decide +kernel
theorem d_V_unknownPages_23 : decode b_V_unknownPages 23 = .ok (.iinc 2 1, 3) := by decide +kernel
theorem d_V_unknownPages_26 : decode b_V_unknownPages 26 = .ok (.goto (-22), 3) := by decide +kernel
theorem d_V_unknownPages_29 : decode b_V_unknownPages 29 = .ok (.iload_n 1, 1) := by decide +kernel
theorem d_V_unknownPages_30 : decode b_V_unknownPages 30 = .ok (.ireturn, 1) := by decide +kernel
theorem d_V_mustStop_0 : decode b_V_mustStop 0 = .ok (.aload_n 0, 1) := by decide +kernel
theorem d_V_mustStop_1 : decode b_V_mustStop 1 = .ok (.getfield 32, 3) := by decide +kernel
theorem d_V_mustStop_4 : decode b_V_mustStop 4 = .ok (.bipush 40, 2) := by decide +kernel
theorem d_V_mustStop_6 : decode b_V_mustStop 6 = .ok (.if_icmp .ge 20, 3) := by decide +kernel
theorem d_V_mustStop_9 : decode b_V_mustStop 9 = .ok (.aload_n 0, 1) := by decide +kernel
theorem d_V_mustStop_10 : decode b_V_mustStop 10 = .ok (.getfield 32, 3) := by decide +kernel
theorem d_V_mustStop_13 : decode b_V_mustStop 13 = .ok (.bipush 8, 2) := by decide +kernel
theorem d_V_mustStop_15 : decode b_V_mustStop 15 = .ok (.if_icmp .lt 15, 3) := by decide +kernel
theorem d_V_mustStop_18 : decode b_V_mustStop 18 = .ok (.aload_n 0, 1) := by decide +kernel
theorem d_V_mustStop_19 : decode b_V_mustStop 19 = .ok (.invokevirtual 47, 3) := by decide +kernel
theorem d_V_mustStop_22 : decode b_V_mustStop 22 = .ok (.iconst 2, 1) := by decide +kernel
theorem d_V_mustStop_23 : decode b_V_mustStop 23 = .ok (.if_icmp .gt 7, 3) := by decide +kernel
theorem d_V_mustStop_26 : decode b_V_mustStop 26 = .ok (.iconst 1, 1) := by decide +kernel
theorem d_V_mustStop_27 : decode b_V_mustStop 27 = .ok (.goto 4, 3) := by decide +kernel
theorem d_V_mustStop_30 : decode b_V_mustStop 30 = .ok (.iconst 0, 1) := by decide +kernel
theorem d_V_mustStop_31 : decode b_V_mustStop 31 = .ok (.ireturn, 1) := by decide +kernel
theorem d_V_nextDue_0 : decode b_V_nextDue 0 = .ok (.iconst 0, 1) := by decide +kernel
theorem d_V_nextDue_1 : decode b_V_nextDue 1 = .ok (.istore_n 1, 1) := by decide +kernel
theorem d_V_nextDue_2 : decode b_V_nextDue 2 = .ok (.iload_n 1, 1) := by decide +kernel
theorem d_V_nextDue_3 : decode b_V_nextDue 3 = .ok (.bipush 8, 2) := by decide +kernel
theorem d_V_nextDue_5 : decode b_V_nextDue 5 = .ok (.if_icmp .ge 30, 3) := by decide +kernel
theorem d_V_nextDue_8 : decode b_V_nextDue 8 = .ok (.aload_n 0, 1) := by decide +kernel
theorem d_V_nextDue_9 : decode b_V_nextDue 9 = .ok (.getfield 38, 3) := by decide +kernel
theorem d_V_nextDue_12 : decode b_V_nextDue 12 = .ok (.iload_n 1, 1) := by decide +kernel
theorem d_V_nextDue_13 : decode b_V_nextDue 13 = .ok (.iadd, 1) := by decide +kernel
theorem d_V_nextDue_14 : decode b_V_nextDue 14 = .ok (.bipush 8, 2) := by decide +kernel
theorem d_V_nextDue_16 : decode b_V_nextDue 16 = .ok (.irem, 1) := by decide +kernel
theorem d_V_nextDue_17 : decode b_V_nextDue 17 = .ok (.istore_n 2, 1) := by decide +kernel
theorem d_V_nextDue_18 : decode b_V_nextDue 18 = .ok (.aload_n 0, 1) := by decide +kernel
theorem d_V_nextDue_19 : decode b_V_nextDue 19 = .ok (.getfield 9, 3) := by decide +kernel
theorem d_V_nextDue_22 : decode b_V_nextDue 22 = .ok (.iload_n 2, 1) := by decide +kernel
theorem d_V_nextDue_23 : decode b_V_nextDue 23 = .ok (.iaload, 1) := by decide +kernel
theorem d_V_nextDue_24 : decode b_V_nextDue 24 = .ok (.ifCond .ne 5, 3) := by decide +kernel
theorem d_V_nextDue_27 : decode b_V_nextDue 27 = .ok (.iload_n 2, 1) := by decide +kernel
theorem d_V_nextDue_28 : decode b_V_nextDue 28 = .ok (.ireturn, 1) := by decide +kernel
theorem d_V_nextDue_29 : decode b_V_nextDue 29 = .ok (.iinc 1 1, 3) := by decide +kernel
theorem d_V_nextDue_32 : decode b_V_nextDue 32 = .ok (.goto (-30), 3) := by decide +kernel
theorem d_V_nextDue_35 : decode b_V_nextDue 35 = .ok (.bipush (-2), 2) := by decide +kernel
theorem d_V_nextDue_37 : decode b_V_nextDue 37 = .ok (.ireturn, 1) := by decide +kernel
theorem d_V_markChanged_0 : decode b_V_markChanged 0 = .ok (.aload_n 0, 1) := by decide +kernel
theorem d_V_markChanged_1 : decode b_V_markChanged 1 = .ok (.getfield 9, 3) := by decide +kernel
theorem d_V_markChanged_4 : decode b_V_markChanged 4 = .ok (.iload_n 1, 1) := by decide +kernel
theorem d_V_markChanged_5 : decode b_V_markChanged 5 = .ok (.iconst 0, 1) := by decide +kernel
theorem d_V_markChanged_6 : decode b_V_markChanged 6 = .ok (.iastore, 1) := by decide +kernel
theorem d_V_markChanged_7 : decode b_V_markChanged 7 = .ok (.return_, 1) := by decide +kernel
theorem d_V_markSent_0 : decode b_V_markSent 0 = .ok (.aload_n 0, 1) := by decide +kernel
theorem d_V_markSent_1 : decode b_V_markSent 1 = .ok (.dup, 1) := by decide +kernel
theorem d_V_markSent_2 : decode b_V_markSent 2 = .ok (.getfield 35, 3) := by decide +kernel
theorem d_V_markSent_5 : decode b_V_markSent 5 = .ok (.iconst 1, 1) := by decide +kernel
theorem d_V_markSent_6 : decode b_V_markSent 6 = .ok (.iadd, 1) := by decide +kernel
theorem d_V_markSent_7 : decode b_V_markSent 7 = .ok (.putfield 35, 3) := by decide +kernel
theorem d_V_markSent_10 : decode b_V_markSent 10 = .ok (.aload_n 0, 1) := by decide +kernel
theorem d_V_markSent_11 : decode b_V_markSent 11 = .ok (.getfield 9, 3) := by decide +kernel
theorem d_V_markSent_14 : decode b_V_markSent 14 = .ok (.iload_n 1, 1) := by decide +kernel
theorem d_V_markSent_15 : decode b_V_markSent 15 = .ok (.iconst 1, 1) := by decide +kernel
theorem d_V_markSent_16 : decode b_V_markSent 16 = .ok (.iastore, 1) := by decide +kernel
theorem d_V_markSent_17 : decode b_V_markSent 17 = .ok (.aload_n 0, 1) := by decide +kernel
theorem d_V_markSent_18 : decode b_V_markSent 18 = .ok (.getfield 15, 3) := by decide +kernel
theorem d_V_markSent_21 : decode b_V_markSent 21 = .ok (.iload_n 1, 1) := by decide +kernel
theorem d_V_markSent_22 : decode b_V_markSent 22 = .ok (.aload_n 0, 1) := by decide +kernel
theorem d_V_markSent_23 : decode b_V_markSent 23 = .ok (.getfield 35, 3) := by decide +kernel
theorem d_V_markSent_26 : decode b_V_markSent 26 = .ok (.iastore, 1) := by decide +kernel
theorem d_V_markSent_27 : decode b_V_markSent 27 = .ok (.aload_n 0, 1) := by decide +kernel
theorem d_V_markSent_28 : decode b_V_markSent 28 = .ok (.iload_n 1, 1) := by decide +kernel
theorem d_V_markSent_29 : decode b_V_markSent 29 = .ok (.iconst 1, 1) := by decide +kernel
theorem d_V_markSent_30 : decode b_V_markSent 30 = .ok (.iadd, 1) := by decide +kernel
theorem d_V_markSent_31 : decode b_V_markSent 31 = .ok (.bipush 8, 2) := by decide +kernel
theorem d_V_markSent_33 : decode b_V_markSent 33 = .ok (.irem, 1) := by decide +kernel
theorem d_V_markSent_34 : decode b_V_markSent 34 = .ok (.putfield 38, 3) := by decide +kernel
theorem d_V_markSent_37 : decode b_V_markSent 37 = .ok (.return_, 1) := by decide +kernel
theorem d_V_makeSentDue_0 : decode b_V_makeSentDue 0 = .ok (.iconst 0, 1) := by decide +kernel
theorem d_V_makeSentDue_1 : decode b_V_makeSentDue 1 = .ok (.istore_n 1, 1) := by decide +kernel
theorem d_V_makeSentDue_2 : decode b_V_makeSentDue 2 = .ok (.iload_n 1, 1) := by decide +kernel
theorem d_V_makeSentDue_3 : decode b_V_makeSentDue 3 = .ok (.bipush 8, 2) := by decide +kernel
theorem d_V_makeSentDue_5 : decode b_V_makeSentDue 5 = .ok (.if_icmp .ge 26, 3) := by decide +kernel
theorem d_V_makeSentDue_8 : decode b_V_makeSentDue 8 = .ok (.aload_n 0, 1) := by decide +kernel
theorem d_V_makeSentDue_9 : decode b_V_makeSentDue 9 = .ok (.getfield 9, 3) := by decide +kernel
theorem d_V_makeSentDue_12 : decode b_V_makeSentDue 12 = .ok (.iload_n 1, 1) := by decide +kernel
theorem d_V_makeSentDue_13 : decode b_V_makeSentDue 13 = .ok (.iaload, 1) := by decide +kernel
theorem d_V_makeSentDue_14 : decode b_V_makeSentDue 14 = .ok (.iconst 1, 1) := by decide +kernel
theorem d_V_makeSentDue_15 : decode b_V_makeSentDue 15 = .ok (.if_icmp .ne 10, 3) := by decide +kernel
theorem d_V_makeSentDue_18 : decode b_V_makeSentDue 18 = .ok (.aload_n 0, 1) := by decide +kernel
theorem d_V_makeSentDue_19 : decode b_V_makeSentDue 19 = .ok (.getfield 9, 3) := by decide +kernel
theorem d_V_makeSentDue_22 : decode b_V_makeSentDue 22 = .ok (.iload_n 1, 1) := by decide +kernel
theorem d_V_makeSentDue_23 : decode b_V_makeSentDue 23 = .ok (.iconst 0, 1) := by decide +kernel
theorem d_V_makeSentDue_24 : decode b_V_makeSentDue 24 = .ok (.iastore, 1) := by decide +kernel
theorem d_V_makeSentDue_25 : decode b_V_makeSentDue 25 = .ok (.iinc 1 1, 3) := by decide +kernel
theorem d_V_makeSentDue_28 : decode b_V_makeSentDue 28 = .ok (.goto (-26), 3) := by decide +kernel
theorem d_V_makeSentDue_31 : decode b_V_makeSentDue 31 = .ok (.return_, 1) := by decide +kernel
theorem d_V_markSeen_0 : decode b_V_markSeen 0 = .ok (.aload_n 0, 1) := by decide +kernel
theorem d_V_markSeen_1 : decode b_V_markSeen 1 = .ok (.getfield 9, 3) := by decide +kernel
theorem d_V_markSeen_4 : decode b_V_markSeen 4 = .ok (.iload_n 1, 1) := by decide +kernel
theorem d_V_markSeen_5 : decode b_V_markSeen 5 = .ok (.iaload, 1) := by decide +kernel
theorem d_V_markSeen_6 : decode b_V_markSeen 6 = .ok (.iconst 1, 1) := by decide +kernel
theorem d_V_markSeen_7 : decode b_V_markSeen 7 = .ok (.if_icmp .ne 20, 3) := by decide +kernel
theorem d_V_markSeen_10 : decode b_V_markSeen 10 = .ok (.aload_n 0, 1) := by decide +kernel
theorem d_V_markSeen_11 : decode b_V_markSeen 11 = .ok (.getfield 15, 3) := by decide +kernel
theorem d_V_markSeen_14 : decode b_V_markSeen 14 = .ok (.iload_n 1, 1) := by decide +kernel
theorem d_V_markSeen_15 : decode b_V_markSeen 15 = .ok (.iaload, 1) := by decide +kernel
theorem d_V_markSeen_16 : decode b_V_markSeen 16 = .ok (.iload_n 2, 1) := by decide +kernel
theorem d_V_markSeen_17 : decode b_V_markSeen 17 = .ok (.if_icmp .ne 10, 3) := by decide +kernel
theorem d_V_markSeen_20 : decode b_V_markSeen 20 = .ok (.aload_n 0, 1) := by decide +kernel
theorem d_V_markSeen_21 : decode b_V_markSeen 21 = .ok (.getfield 9, 3) := by decide +kernel
theorem d_V_markSeen_24 : decode b_V_markSeen 24 = .ok (.iload_n 1, 1) := by decide +kernel
theorem d_V_markSeen_25 : decode b_V_markSeen 25 = .ok (.iconst 2, 1) := by decide +kernel
theorem d_V_markSeen_26 : decode b_V_markSeen 26 = .ok (.iastore, 1) := by decide +kernel
theorem d_V_markSeen_27 : decode b_V_markSeen 27 = .ok (.return_, 1) := by decide +kernel
theorem d_J_fill_0 : decode b_J_fill 0 = .ok (.iconst 0, 1) := by decide +kernel
theorem d_J_fill_1 : decode b_J_fill 1 = .ok (.istore_n 2, 1) := by decide +kernel
theorem d_J_fill_2 : decode b_J_fill 2 = .ok (.aload_n 0, 1) := by decide +kernel
theorem d_J_fill_3 : decode b_J_fill 3 = .ok (.arraylength, 1) := by decide +kernel
theorem d_J_fill_4 : decode b_J_fill 4 = .ok (.istore_n 3, 1) := by decide +kernel
theorem d_J_fill_5 : decode b_J_fill 5 = .ok (.iload_n 2, 1) := by decide +kernel
theorem d_J_fill_6 : decode b_J_fill 6 = .ok (.iload_n 3, 1) := by decide +kernel
theorem d_J_fill_7 : decode b_J_fill 7 = .ok (.if_icmp .ge 13, 3) := by decide +kernel
theorem d_J_fill_10 : decode b_J_fill 10 = .ok (.aload_n 0, 1) := by decide +kernel
theorem d_J_fill_11 : decode b_J_fill 11 = .ok (.iload_n 2, 1) := by decide +kernel
theorem d_J_fill_12 : decode b_J_fill 12 = .ok (.iload_n 1, 1) := by decide +kernel
theorem d_J_fill_13 : decode b_J_fill 13 = .ok (.iastore, 1) := by decide +kernel
theorem d_J_fill_14 : decode b_J_fill 14 = .ok (.iinc 2 1, 3) := by decide +kernel
theorem d_J_fill_17 : decode b_J_fill 17 = .ok (.goto (-12), 3) := by decide +kernel
theorem d_J_fill_20 : decode b_J_fill 20 = .ok (.return_, 1) := by decide +kernel
theorem d_A_clear_0 : decode b_A_clear 0 = .ok (.aload_n 0, 1) := by decide +kernel
theorem d_A_clear_1 : decode b_A_clear 1 = .ok (.getfield 9, 3) := by decide +kernel
theorem d_A_clear_4 : decode b_A_clear 4 = .ok (.iconst 0, 1) := by decide +kernel
theorem d_A_clear_5 : decode b_A_clear 5 = .ok (.invokestatic 50, 3) := by decide +kernel
theorem d_A_clear_8 : decode b_A_clear 8 = .ok (.aload_n 0, 1) := by decide +kernel
theorem d_A_clear_9 : decode b_A_clear 9 = .ok (.getfield 15, 3) := by decide +kernel
theorem d_A_clear_12 : decode b_A_clear 12 = .ok (.iconst 0, 1) := by decide +kernel
theorem d_A_clear_13 : decode b_A_clear 13 = .ok (.invokestatic 50, 3) := by decide +kernel
