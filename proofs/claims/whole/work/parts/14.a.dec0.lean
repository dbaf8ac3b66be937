theorem d_G_sendPage_0 : decode b_G_sendPage 0 = .ok (.aload_n 0, 1) := by decide +kernel
theorem d_G_sendPage_1 : decode b_G_sendPage 1 = .ok (.getfield 25, 3) := by decide +kernel
theorem d_G_sendPage_4 : decode b_G_sendPage 4 = .ok (.iload_n 1, 1) := by decide +kernel
theorem d_G_sendPage_5 : decode b_G_sendPage 5 = .ok (.invokevirtual 260, 3) := by decide +kernel
theorem d_G_sendPage_8 : decode b_G_sendPage 8 = .ok (.iload_n 1, 1) := by decide +kernel
theorem d_G_sendPage_9 : decode b_G_sendPage 9 = .ok (.bipush 8, 2) := by decide +kernel
theorem d_G_sendPage_11 : decode b_G_sendPage 11 = .ok (.imul, 1) := by decide +kernel
theorem d_G_sendPage_12 : decode b_G_sendPage 12 = .ok (.istore_n 2, 1) := by decide +kernel
theorem d_G_sendPage_13 : decode b_G_sendPage 13 = .ok (.aload_n 0, 1) := by decide +kernel
theorem d_G_sendPage_14 : decode b_G_sendPage 14 = .ok (.invokevirtual 124, 3) := by decide +kernel
theorem d_G_sendPage_17 : decode b_G_sendPage 17 = .ok (.getfield 59, 3) := by decide +kernel
theorem d_G_sendPage_20 : decode b_G_sendPage 20 = .ok (.getfield 68, 3) := by decide +kernel
theorem d_G_sendPage_23 : decode b_G_sendPage 23 = .ok (.iload_n 2, 1) := by decide +kernel
theorem d_G_sendPage_24 : decode b_G_sendPage 24 = .ok (.iload_n 2, 1) := by decide +kernel
theorem d_G_sendPage_25 : decode b_G_sendPage 25 = .ok (.bipush 8, 2) := by decide +kernel
theorem d_G_sendPage_27 : decode b_G_sendPage 27 = .ok (.iadd, 1) := by decide +kernel
theorem d_G_sendPage_28 : decode b_G_sendPage 28 = .ok (.invokestatic 263, 3) := by decide +kernel
theorem d_G_sendPage_31 : decode b_G_sendPage 31 = .ok (.astore_n 3, 1) := by decide +kernel
theorem d_G_sendPage_32 : decode b_G_sendPage 32 = .ok (.aload_n 0, 1) := by decide +kernel
theorem d_G_sendPage_33 : decode b_G_sendPage 33 = .ok (.getfield 32, 3) := by decide +kernel
theorem d_G_sendPage_36 : decode b_G_sendPage 36 = .ok (.new 150, 3) := by decide +kernel
theorem d_G_sendPage_39 : decode b_G_sendPage 39 = .ok (.dup, 1) := by decide +kernel
theorem d_G_sendPage_40 : decode b_G_sendPage 40 = .ok (.iconst 1, 1) := by decide +kernel
theorem d_G_sendPage_41 : decode b_G_sendPage 41 = .ok (.aload_n 0, 1) := by decide +kernel
theorem d_G_sendPage_42 : decode b_G_sendPage 42 = .ok (.getfield 25, 3) := by decide +kernel
theorem d_G_sendPage_45 : decode b_G_sendPage 45 = .ok (.getfield 123, 3) := by decide +kernel
theorem d_G_sendPage_48 : decode b_G_sendPage 48 = .ok (.iload_n 1, 1) := by decide +kernel
theorem d_G_sendPage_49 : decode b_G_sendPage 49 = .ok (.aload_n 0, 1) := by decide +kernel
theorem d_G_sendPage_50 : decode b_G_sendPage 50 = .ok (.getfield 25, 3) := by decide +kernel
theorem d_G_sendPage_53 : decode b_G_sendPage 53 = .ok (.getfield 269, 3) := by decide +kernel
theorem d_G_sendPage_56 : decode b_G_sendPage 56 = .ok (.aload_n 3, 1) := by decide +kernel
theorem d_G_sendPage_57 : decode b_G_sendPage 57 = .ok (.invokespecial 155, 3) := by decide +kernel
theorem d_G_sendPage_60 : decode b_G_sendPage 60 = .ok (.invokevirtual 158, 3) := by decide +kernel
theorem d_G_sendPage_63 : decode b_G_sendPage 63 = .ok (.return_, 1) := by decide +kernel
theorem d_G_step_0 : decode b_G_step 0 = .ok (.aload_n 0, 1) := by decide +kernel
theorem d_G_step_1 : decode b_G_step 1 = .ok (.getfield 25, 3) := by decide +kernel
theorem d_G_step_4 : decode b_G_step 4 = .ok (.getfield 56, 3) := by decide +kernel
theorem d_G_step_7 : decode b_G_step 7 = .ok (.ifCond .eq 13, 3) := by decide +kernel
theorem d_G_step_10 : decode b_G_step 10 = .ok (.aload_n 0, 1) := by decide +kernel
theorem d_G_step_11 : decode b_G_step 11 = .ok (.invokevirtual 124, 3) := by decide +kernel
theorem d_G_step_14 : decode b_G_step 14 = .ok (.getfield 77, 3) := by decide +kernel
theorem d_G_step_17 : decode b_G_step 17 = .ok (.ifCond .ne 6, 3) := by decide +kernel
theorem d_G_step_20 : decode b_G_step 20 = .ok (.bipush (-2), 2) := by decide +kernel
theorem d_G_step_22 : decode b_G_step 22 = .ok (.ireturn, 1) := by decide +kernel
theorem d_G_step_23 : decode b_G_step 23 = .ok (.aload_n 0, 1) := by decide +kernel
theorem d_G_step_24 : decode b_G_step 24 = .ok (.getfield 25, 3) := by decide +kernel
theorem d_G_step_27 : decode b_G_step 27 = .ok (.invokevirtual 128, 3) := by decide +kernel
theorem d_G_step_30 : decode b_G_step 30 = .ok (.ifCond .eq 11, 3) := by decide +kernel
theorem d_G_step_33 : decode b_G_step 33 = .ok (.aload_n 0, 1) := by decide +kernel
theorem d_G_step_34 : decode b_G_step 34 = .ok (.getfield 25, 3) := by decide +kernel
theorem d_G_step_37 : decode b_G_step 37 = .ok (.iconst 1, 1) := by decide +kernel
theorem d_G_step_38 : decode b_G_step 38 = .ok (.putfield 132, 3) := by decide +kernel
theorem d_G_step_41 : decode b_G_step 41 = .ok (.aload_n 0, 1) := by decide +kernel
theorem d_G_step_42 : decode b_G_step 42 = .ok (.getfield 25, 3) := by decide +kernel
theorem d_G_step_45 : decode b_G_step 45 = .ok (.dup, 1) := by decide +kernel
theorem d_G_step_46 : decode b_G_step 46 = .ok (.getfield 135, 3) := by decide +kernel
theorem d_G_step_49 : decode b_G_step 49 = .ok (.iconst 1, 1) := by decide +kernel
theorem d_G_step_50 : decode b_G_step 50 = .ok (.iadd, 1) := by decide +kernel
theorem d_G_step_51 : decode b_G_step 51 = .ok (.putfield 135, 3) := by decide +kernel
theorem d_G_step_54 : decode b_G_step 54 = .ok (.aload_n 0, 1) := by decide +kernel
theorem d_G_step_55 : decode b_G_step 55 = .ok (.getfield 25, 3) := by decide +kernel
theorem d_G_step_58 : decode b_G_step 58 = .ok (.invokevirtual 138, 3) := by decide +kernel
theorem d_G_step_61 : decode b_G_step 61 = .ok (.istore_n 1, 1) := by decide +kernel
theorem d_G_step_62 : decode b_G_step 62 = .ok (.iload_n 1, 1) := by decide +kernel
theorem d_G_step_63 : decode b_G_step 63 = .ok (.bipush (-2), 2) := by decide +kernel
theorem d_G_step_65 : decode b_G_step 65 = .ok (.if_icmp .eq 10, 3) := by decide +kernel
theorem d_G_step_68 : decode b_G_step 68 = .ok (.aload_n 0, 1) := by decide +kernel
theorem d_G_step_69 : decode b_G_step 69 = .ok (.iload_n 1, 1) := by decide +kernel
theorem d_G_step_70 : decode b_G_step 70 = .ok (.invokevirtual 141, 3) := by decide +kernel
theorem d_G_step_73 : decode b_G_step 73 = .ok (.iconst 1, 1) := by decide +kernel
theorem d_G_step_74 : decode b_G_step 74 = .ok (.ireturn, 1) := by decide +kernel
theorem d_G_step_75 : decode b_G_step 75 = .ok (.aload_n 0, 1) := by decide +kernel
theorem d_G_step_76 : decode b_G_step 76 = .ok (.getfield 25, 3) := by decide +kernel
theorem d_G_step_79 : decode b_G_step 79 = .ok (.invokevirtual 144, 3) := by decide +kernel
theorem d_G_step_82 : decode b_G_step 82 = .ok (.ifCond .le 12, 3) := by decide +kernel
theorem d_G_step_85 : decode b_G_step 85 = .ok (.aload_n 0, 1) := by decide +kernel
theorem d_G_step_86 : decode b_G_step 86 = .ok (.getfield 25, 3) := by decide +kernel
theorem d_G_step_89 : decode b_G_step 89 = .ok (.invokevirtual 147, 3) := by decide +kernel
theorem d_G_step_92 : decode b_G_step 92 = .ok (.iconst 3, 1) := by decide +kernel
theorem d_G_step_93 : decode b_G_step 93 = .ok (.ireturn, 1) := by decide +kernel
theorem d_G_step_94 : decode b_G_step 94 = .ok (.aload_n 0, 1) := by decide +kernel
theorem d_G_step_95 : decode b_G_step 95 = .ok (.getfield 25, 3) := by decide +kernel
theorem d_G_step_98 : decode b_G_step 98 = .ok (.getfield 132, 3) := by decide +kernel
theorem d_G_step_101 : decode b_G_step 101 = .ok (.ifCond .ne 13, 3) := by decide +kernel
theorem d_G_step_104 : decode b_G_step 104 = .ok (.aload_n 0, 1) := by decide +kernel
theorem d_G_step_105 : decode b_G_step 105 = .ok (.getfield 25, 3) := by decide +kernel
theorem d_G_step_108 : decode b_G_step 108 = .ok (.iconst 1, 1) := by decide +kernel
theorem d_G_step_109 : decode b_G_step 109 = .ok (.putfield 132, 3) := by decide +kernel
theorem d_G_step_112 : decode b_G_step 112 = .ok (.iconst 4, 1) := by decide +kernel
theorem d_G_step_113 : decode b_G_step 113 = .ok (.ireturn, 1) := by decide +kernel
theorem d_G_step_114 : decode b_G_step 114 = .ok (.aload_n 0, 1) := by decide +kernel
theorem d_G_step_115 : decode b_G_step 115 = .ok (.getfield 32, 3) := by decide +kernel
theorem d_G_step_118 : decode b_G_step 118 = .ok (.new 150, 3) := by decide +kernel
theorem d_G_step_121 : decode b_G_step 121 = .ok (.dup, 1) := by decide +kernel
theorem d_G_step_122 : decode b_G_step 122 = .ok (.iconst 2, 1) := by decide +kernel
theorem d_G_step_123 : decode b_G_step 123 = .ok (.aload_n 0, 1) := by decide +kernel
theorem d_G_step_124 : decode b_G_step 124 = .ok (.getfield 25, 3) := by decide +kernel
theorem d_G_step_127 : decode b_G_step 127 = .ok (.getfield 123, 3) := by decide +kernel
theorem d_G_step_130 : decode b_G_step 130 = .ok (.iconst 0, 1) := by decide +kernel
theorem d_G_step_131 : decode b_G_step 131 = .ok (.iconst 0, 1) := by decide +kernel
theorem d_G_step_132 : decode b_G_step 132 = .ok (.getstatic 152, 3) := by decide +kernel
theorem d_G_step_135 : decode b_G_step 135 = .ok (.invokespecial 155, 3) := by decide +kernel
theorem d_G_step_138 : decode b_G_step 138 = .ok (.invokevirtual 158, 3) := by decide +kernel
theorem d_G_step_141 : decode b_G_step 141 = .ok (.iconst 2, 1) := by decide +kernel
theorem d_G_step_142 : decode b_G_step 142 = .ok (.ireturn, 1) := by decide +kernel
theorem d_G_pageArrives_0 : decode b_G_pageArrives 0 = .ok (.aload_n 0, 1) := by decide +kernel
theorem d_G_pageArrives_1 : decode b_G_pageArrives 1 = .ok (.invokevirtual 189, 3) := by decide +kernel
theorem d_G_pageArrives_4 : decode b_G_pageArrives 4 = .ok (.astore_n 2, 1) := by decide +kernel
theorem d_G_pageArrives_5 : decode b_G_pageArrives 5 = .ok (.aload_n 2, 1) := by decide +kernel
theorem d_G_pageArrives_6 : decode b_G_pageArrives 6 = .ok (.getfield 224, 3) := by decide +kernel
theorem d_G_pageArrives_9 : decode b_G_pageArrives 9 = .ok (.ifCond .ne 4, 3) := by decide +kernel
theorem d_G_pageArrives_12 : decode b_G_pageArrives 12 = .ok (.return_, 1) := by decide +kernel
theorem d_G_pageArrives_13 : decode b_G_pageArrives 13 = .ok (.aload_n 1, 1) := by decide +kernel
theorem d_G_pageArrives_14 : decode b_G_pageArrives 14 = .ok (.getfield 206, 3) := by decide +kernel
theorem d_G_pageArrives_17 : decode b_G_pageArrives 17 = .ok (.aload_n 2, 1) := by decide +kernel
theorem d_G_pageArrives_18 : decode b_G_pageArrives 18 = .ok (.getfield 279, 3) := by decide +kernel
theorem d_G_pageArrives_21 : decode b_G_pageArrives 21 = .ok (.aload_n 1, 1) := by decide +kernel
theorem d_G_pageArrives_22 : decode b_G_pageArrives 22 = .ok (.getfield 203, 3) := by decide +kernel
theorem d_G_pageArrives_25 : decode b_G_pageArrives 25 = .ok (.iaload, 1) := by decide +kernel
theorem d_G_pageArrives_26 : decode b_G_pageArrives 26 = .ok (.if_icmp .le 40, 3) := by decide +kernel
theorem d_G_pageArrives_29 : decode b_G_pageArrives 29 = .ok (.aload_n 1, 1) := by decide +kernel
theorem d_G_pageArrives_30 : decode b_G_pageArrives 30 = .ok (.getfield 282, 3) := by decide +kernel
theorem d_G_pageArrives_33 : decode b_G_pageArrives 33 = .ok (.iconst 0, 1) := by decide +kernel
theorem d_G_pageArrives_34 : decode b_G_pageArrives 34 = .ok (.aload_n 2, 1) := by decide +kernel
theorem d_G_pageArrives_35 : decode b_G_pageArrives 35 = .ok (.getfield 59, 3) := by decide +kernel
theorem d_G_pageArrives_38 : decode b_G_pageArrives 38 = .ok (.getfield 68, 3) := by decide +kernel
theorem d_G_pageArrives_41 : decode b_G_pageArrives 41 = .ok (.aload_n 1, 1) := by decide +kernel
theorem d_G_pageArrives_42 : decode b_G_pageArrives 42 = .ok (.getfield 203, 3) := by decide +kernel
theorem d_G_pageArrives_45 : decode b_G_pageArrives 45 = .ok (.bipush 8, 2) := by decide +kernel
theorem d_G_pageArrives_47 : decode b_G_pageArrives 47 = .ok (.imul, 1) := by decide +kernel
theorem d_G_pageArrives_48 : decode b_G_pageArrives 48 = .ok (.bipush 8, 2) := by decide +kernel
theorem d_G_pageArrives_50 : decode b_G_pageArrives 50 = .ok (.invokestatic 71, 3) := by decide +kernel
theorem d_G_pageArrives_53 : decode b_G_pageArrives 53 = .ok (.aload_n 2, 1) := by decide +kernel
theorem d_G_pageArrives_54 : decode b_G_pageArrives 54 = .ok (.getfield 279, 3) := by decide +kernel
theorem d_G_pageArrives_57 : decode b_G_pageArrives 57 = .ok (.aload_n 1, 1) := by decide +kernel
theorem d_G_pageArrives_58 : decode b_G_pageArrives 58 = .ok (.getfield 203, 3) := by decide +kernel
theorem d_G_pageArrives_61 : decode b_G_pageArrives 61 = .ok (.aload_n 1, 1) := by decide +kernel
theorem d_G_pageArrives_62 : decode b_G_pageArrives 62 = .ok (.getfield 206, 3) := by decide +kernel
theorem d_G_pageArrives_65 : decode b_G_pageArrives 65 = .ok (.iastore, 1) := by decide +kernel
theorem d_G_pageArrives_66 : decode b_G_pageArrives 66 = .ok (.aload_n 0, 1) := by decide +kernel
theorem d_G_pageArrives_67 : decode b_G_pageArrives 67 = .ok (.getfield 32, 3) := by decide +kernel
theorem d_G_pageArrives_70 : decode b_G_pageArrives 70 = .ok (.new 150, 3) := by decide +kernel
theorem d_G_pageArrives_73 : decode b_G_pageArrives 73 = .ok (.dup, 1) := by decide +kernel
theorem d_G_pageArrives_74 : decode b_G_pageArrives 74 = .ok (.iconst 3, 1) := by decide +kernel
theorem d_G_pageArrives_75 : decode b_G_pageArrives 75 = .ok (.aload_n 1, 1) := by decide +kernel
theorem d_G_pageArrives_76 : decode b_G_pageArrives 76 = .ok (.getfield 200, 3) := by decide +kernel
theorem d_G_pageArrives_79 : decode b_G_pageArrives 79 = .ok (.aload_n 1, 1) := by decide +kernel
theorem d_G_pageArrives_80 : decode b_G_pageArrives 80 = .ok (.getfield 203, 3) := by decide +kernel
theorem d_G_pageArrives_83 : decode b_G_pageArrives 83 = .ok (.aload_n 1, 1) := by decide +kernel
theorem d_G_pageArrives_84 : decode b_G_pageArrives 84 = .ok (.getfield 206, 3) := by decide +kernel
theorem d_G_pageArrives_87 : decode b_G_pageArrives 87 = .ok (.getstatic 152, 3) := by decide +kernel
theorem d_G_pageArrives_90 : decode b_G_pageArrives 90 = .ok (.invokespecial 155, 3) := by decide +kernel
theorem d_G_pageArrives_93 : decode b_G_pageArrives 93 = .ok (.invokevirtual 158, 3) := by decide +kernel
theorem d_G_pageArrives_96 : decode b_G_pageArrives 96 = .ok (.return_, 1) := by decide +kernel
theorem d_G_stateArrives_0 : decode b_G_stateArrives 0 = .ok (.aload_n 0, 1) := by decide +kernel
theorem d_G_stateArrives_1 : decode b_G_stateArrives 1 = .ok (.invokevirtual 189, 3) := by decide +kernel
theorem d_G_stateArrives_4 : decode b_G_stateArrives 4 = .ok (.astore_n 2, 1) := by decide +kernel
theorem d_G_stateArrives_5 : decode b_G_stateArrives 5 = .ok (.aload_n 2, 1) := by decide +kernel
theorem d_G_stateArrives_6 : decode b_G_stateArrives 6 = .ok (.getfield 224, 3) := by decide +kernel
theorem d_G_stateArrives_9 : decode b_G_stateArrives 9 = .ok (.ifCond .ne 4, 3) := by decide +kernel
theorem d_G_stateArrives_12 : decode b_G_stateArrives 12 = .ok (.return_, 1) := by decide +kernel
theorem d_G_stateArrives_13 : decode b_G_stateArrives 13 = .ok (.aload_n 2, 1) := by decide +kernel
theorem d_G_stateArrives_14 : decode b_G_stateArrives 14 = .ok (.getfield 192, 3) := by decide +kernel
theorem d_G_stateArrives_17 : decode b_G_stateArrives 17 = .ok (.ifCond .ne 22, 3) := by decide +kernel
theorem d_G_stateArrives_20 : decode b_G_stateArrives 20 = .ok (.aload_n 2, 1) := by decide +kernel
theorem d_G_stateArrives_21 : decode b_G_stateArrives 21 = .ok (.getfield 59, 3) := by decide +kernel
theorem d_G_stateArrives_24 : decode b_G_stateArrives 24 = .ok (.aload_n 0, 1) := by decide +kernel
theorem d_G_stateArrives_25 : decode b_G_stateArrives 25 = .ok (.invokevirtual 124, 3) := by decide +kernel
theorem d_G_stateArrives_28 : decode b_G_stateArrives 28 = .ok (.getfield 59, 3) := by decide +kernel
theorem d_G_stateArrives_31 : decode b_G_stateArrives 31 = .ok (.invokevirtual 285, 3) := by decide +kernel
theorem d_G_stateArrives_34 : decode b_G_stateArrives 34 = .ok (.aload_n 2, 1) := by decide +kernel
theorem d_G_stateArrives_35 : decode b_G_stateArrives 35 = .ok (.iconst 1, 1) := by decide +kernel
theorem d_G_stateArrives_36 : decode b_G_stateArrives 36 = .ok (.putfield 192, 3) := by decide +kernel
theorem d_G_stateArrives_39 : decode b_G_stateArrives 39 = .ok (.aload_n 0, 1) := by decide +kernel
theorem d_G_stateArrives_40 : decode b_G_stateArrives 40 = .ok (.getfield 32, 3) := by decide +kernel
theorem d_G_stateArrives_43 : decode b_G_stateArrives 43 = .ok (.new 150, 3) := by decide +kernel
theorem d_G_stateArrives_46 : decode b_G_stateArrives 46 = .ok (.dup, 1) := by decide +kernel
theorem d_G_stateArrives_47 : decode b_G_stateArrives 47 = .ok (.iconst 4, 1) := by decide +kernel
theorem d_G_stateArrives_48 : decode b_G_stateArrives 48 = .ok (.aload_n 1, 1) := by decide +kernel
theorem d_G_stateArrives_49 : decode b_G_stateArrives 49 = .ok (.getfield 200, 3) := by decide +kernel
theorem d_G_stateArrives_52 : decode b_G_stateArrives 52 = .ok (.iconst 0, 1) := by decide +kernel
theorem d_G_stateArrives_53 : decode b_G_stateArrives 53 = .ok (.iconst 0, 1) := by decide +kernel
theorem d_G_stateArrives_54 : decode b_G_stateArrives 54 = .ok (.getstatic 152, 3) := by decide +kernel
theorem d_G_stateArrives_57 : decode b_G_stateArrives 57 = .ok (.invokespecial 155, 3) := by decide +kernel
theorem d_G_stateArrives_60 : decode b_G_stateArrives 60 = .ok (.invokevirtual 158, 3) := by decide +kernel
theorem d_G_stateArrives_63 : decode b_G_stateArrives 63 = .ok (.return_, 1) := by decide +kernel
