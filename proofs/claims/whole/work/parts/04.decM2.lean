theorem d_M_step_87 : decode b_M_step 87 = .ok (.istore_n 2, 1) := by decide +kernel
theorem d_M_step_88 : decode b_M_step 88 = .ok (.iload_n 2, 1) := by decide +kernel
theorem d_M_step_89 : decode b_M_step 89 = .ok (.bipush 8, 2) := by decide +kernel
theorem d_M_step_91 : decode b_M_step 91 = .ok (.if_icmp .ge 32, 3) := by decide +kernel
theorem d_M_step_94 : decode b_M_step 94 = .ok (.aload_n 0, 1) := by decide +kernel
theorem d_M_step_95 : decode b_M_step 95 = .ok (.getfield 45, 3) := by decide +kernel
theorem d_M_step_98 : decode b_M_step 98 = .ok (.iload_n 2, 1) := by decide +kernel
theorem d_M_step_99 : decode b_M_step 99 = .ok (.aload_n 0, 1) := by decide +kernel
theorem d_M_step_100 : decode b_M_step 100 = .ok (.getfield 45, 3) := by decide +kernel
theorem d_M_step_103 : decode b_M_step 103 = .ok (.iload_n 2, 1) := by decide +kernel
theorem d_M_step_104 : decode b_M_step 104 = .ok (.iaload, 1) := by decide +kernel
theorem d_M_step_105 : decode b_M_step 105 = .ok (.bipush (-2), 2) := by decide +kernel
theorem d_M_step_107 : decode b_M_step 107 = .ok (.if_icmp .ne 8, 3) := by decide +kernel
theorem d_M_step_110 : decode b_M_step 110 = .ok (.bipush (-2), 2) := by decide +kernel
theorem d_M_step_112 : decode b_M_step 112 = .ok (.goto 4, 3) := by decide +kernel
theorem d_M_step_115 : decode b_M_step 115 = .ok (.iconst (-1), 1) := by decide +kernel
theorem d_M_step_116 : decode b_M_step 116 = .ok (.iastore, 1) := by decide +kernel
theorem d_M_step_117 : decode b_M_step 117 = .ok (.iinc 2 1, 3) := by decide +kernel
theorem d_M_step_120 : decode b_M_step 120 = .ok (.goto (-32), 3) := by decide +kernel
theorem d_M_step_123 : decode b_M_step 123 = .ok (.iconst 3, 1) := by decide +kernel
theorem d_M_step_124 : decode b_M_step 124 = .ok (.ireturn, 1) := by decide +kernel
theorem d_M_step_125 : decode b_M_step 125 = .ok (.aload_n 0, 1) := by decide +kernel
theorem d_M_step_126 : decode b_M_step 126 = .ok (.getfield 72, 3) := by decide +kernel
theorem d_M_step_129 : decode b_M_step 129 = .ok (.ifCond .ne 10, 3) := by decide +kernel
theorem d_M_step_132 : decode b_M_step 132 = .ok (.aload_n 0, 1) := by decide +kernel
theorem d_M_step_133 : decode b_M_step 133 = .ok (.iconst 1, 1) := by decide +kernel
theorem d_M_step_134 : decode b_M_step 134 = .ok (.putfield 72, 3) := by decide +kernel
theorem d_M_step_137 : decode b_M_step 137 = .ok (.iconst 4, 1) := by decide +kernel
theorem d_M_step_138 : decode b_M_step 138 = .ok (.ireturn, 1) := by decide +kernel
theorem d_M_step_139 : decode b_M_step 139 = .ok (.aload_n 0, 1) := by decide +kernel
theorem d_M_step_140 : decode b_M_step 140 = .ok (.iconst 2, 1) := by decide +kernel
theorem d_M_step_141 : decode b_M_step 141 = .ok (.aload_n 0, 1) := by decide +kernel
theorem d_M_step_142 : decode b_M_step 142 = .ok (.getfield 116, 3) := by decide +kernel
theorem d_M_step_145 : decode b_M_step 145 = .ok (.iconst 0, 1) := by decide +kernel
theorem d_M_step_146 : decode b_M_step 146 = .ok (.iconst 0, 1) := by decide +kernel
theorem d_M_step_147 : decode b_M_step 147 = .ok (.invokevirtual 131, 3) := by decide +kernel
theorem d_M_step_150 : decode b_M_step 150 = .ok (.istore_n 2, 1) := by decide +kernel
theorem d_M_step_151 : decode b_M_step 151 = .ok (.iconst 0, 1) := by decide +kernel
theorem d_M_step_152 : decode b_M_step 152 = .ok (.istore_n 3, 1) := by decide +kernel
theorem d_M_step_153 : decode b_M_step 153 = .ok (.iload_n 3, 1) := by decide +kernel
theorem d_M_step_154 : decode b_M_step 154 = .ok (.bipush 60, 2) := by decide +kernel
theorem d_M_step_156 : decode b_M_step 156 = .ok (.if_icmp .ge 34, 3) := by decide +kernel
theorem d_M_step_159 : decode b_M_step 159 = .ok (.aload_n 0, 1) := by decide +kernel
theorem d_M_step_160 : decode b_M_step 160 = .ok (.getfield 69, 3) := by decide +kernel
theorem d_M_step_163 : decode b_M_step 163 = .ok (.bipush 60, 2) := by decide +kernel
theorem d_M_step_165 : decode b_M_step 165 = .ok (.iload_n 2, 1) := by decide +kernel
theorem d_M_step_166 : decode b_M_step 166 = .ok (.imul, 1) := by decide +kernel
theorem d_M_step_167 : decode b_M_step 167 = .ok (.iload_n 3, 1) := by decide +kernel
theorem d_M_step_168 : decode b_M_step 168 = .ok (.iadd, 1) := by decide +kernel
theorem d_M_step_169 : decode b_M_step 169 = .ok (.aload_n 0, 1) := by decide +kernel
theorem d_M_step_170 : decode b_M_step 170 = .ok (.getfield 16, 3) := by decide +kernel
theorem d_M_step_173 : decode b_M_step 173 = .ok (.bipush 60, 2) := by decide +kernel
theorem d_M_step_175 : decode b_M_step 175 = .ok (.aload_n 0, 1) := by decide +kernel
theorem d_M_step_176 : decode b_M_step 176 = .ok (.getfield 86, 3) := by decide +kernel
theorem d_M_step_179 : decode b_M_step 179 = .ok (.imul, 1) := by decide +kernel
theorem d_M_step_180 : decode b_M_step 180 = .ok (.iload_n 3, 1) := by decide +kernel
theorem d_M_step_181 : decode b_M_step 181 = .ok (.iadd, 1) := by decide +kernel
theorem d_M_step_182 : decode b_M_step 182 = .ok (.iaload, 1) := by decide +kernel
theorem d_M_step_183 : decode b_M_step 183 = .ok (.iastore, 1) := by decide +kernel
theorem d_M_step_184 : decode b_M_step 184 = .ok (.iinc 3 1, 3) := by decide +kernel
theorem d_M_step_187 : decode b_M_step 187 = .ok (.goto (-34), 3) := by decide +kernel
theorem d_M_step_190 : decode b_M_step 190 = .ok (.iconst 2, 1) := by decide +kernel
theorem d_M_step_191 : decode b_M_step 191 = .ok (.ireturn, 1) := by decide +kernel
theorem d_M_handOver_0 : decode b_M_handOver 0 = .ok (.iconst 1, 1) := by decide +kernel
theorem d_M_handOver_1 : decode b_M_handOver 1 = .ok (.aload_n 0, 1) := by decide +kernel
theorem d_M_handOver_2 : decode b_M_handOver 2 = .ok (.getfield 86, 3) := by decide +kernel
theorem d_M_handOver_5 : decode b_M_handOver 5 = .ok (.isub, 1) := by decide +kernel
theorem d_M_handOver_6 : decode b_M_handOver 6 = .ok (.istore_n 1, 1) := by decide +kernel
theorem d_M_handOver_7 : decode b_M_handOver 7 = .ok (.aload_n 0, 1) := by decide +kernel
theorem d_M_handOver_8 : decode b_M_handOver 8 = .ok (.getfield 23, 3) := by decide +kernel
theorem d_M_handOver_11 : decode b_M_handOver 11 = .ok (.aload_n 0, 1) := by decide +kernel
theorem d_M_handOver_12 : decode b_M_handOver 12 = .ok (.getfield 86, 3) := by decide +kernel
theorem d_M_handOver_15 : decode b_M_handOver 15 = .ok (.iconst 0, 1) := by decide +kernel
theorem d_M_handOver_16 : decode b_M_handOver 16 = .ok (.bastore, 1) := by decide +kernel
theorem d_M_handOver_17 : decode b_M_handOver 17 = .ok (.aload_n 0, 1) := by decide +kernel
theorem d_M_handOver_18 : decode b_M_handOver 18 = .ok (.getfield 23, 3) := by decide +kernel
theorem d_M_handOver_21 : decode b_M_handOver 21 = .ok (.iload_n 1, 1) := by decide +kernel
theorem d_M_handOver_22 : decode b_M_handOver 22 = .ok (.iconst 1, 1) := by decide +kernel
theorem d_M_handOver_23 : decode b_M_handOver 23 = .ok (.bastore, 1) := by decide +kernel
theorem d_M_handOver_24 : decode b_M_handOver 24 = .ok (.iconst 0, 1) := by decide +kernel
theorem d_M_handOver_25 : decode b_M_handOver 25 = .ok (.istore_n 2, 1) := by decide +kernel
theorem d_M_handOver_26 : decode b_M_handOver 26 = .ok (.iload_n 2, 1) := by decide +kernel
theorem d_M_handOver_27 : decode b_M_handOver 27 = .ok (.bipush 64, 2) := by decide +kernel
theorem d_M_handOver_29 : decode b_M_handOver 29 = .ok (.if_icmp .ge 26, 3) := by decide +kernel
theorem d_M_handOver_32 : decode b_M_handOver 32 = .ok (.aload_n 0, 1) := by decide +kernel
theorem d_M_handOver_33 : decode b_M_handOver 33 = .ok (.getfield 13, 3) := by decide +kernel
theorem d_M_handOver_36 : decode b_M_handOver 36 = .ok (.bipush 64, 2) := by decide +kernel
theorem d_M_handOver_38 : decode b_M_handOver 38 = .ok (.iload_n 1, 1) := by decide +kernel
theorem d_M_handOver_39 : decode b_M_handOver 39 = .ok (.imul, 1) := by decide +kernel
theorem d_M_handOver_40 : decode b_M_handOver 40 = .ok (.iload_n 2, 1) := by decide +kernel
theorem d_M_handOver_41 : decode b_M_handOver 41 = .ok (.iadd, 1) := by decide +kernel
theorem d_M_handOver_42 : decode b_M_handOver 42 = .ok (.aload_n 0, 1) := by decide +kernel
theorem d_M_handOver_43 : decode b_M_handOver 43 = .ok (.getfield 48, 3) := by decide +kernel
theorem d_M_handOver_46 : decode b_M_handOver 46 = .ok (.iload_n 2, 1) := by decide +kernel
theorem d_M_handOver_47 : decode b_M_handOver 47 = .ok (.iaload, 1) := by decide +kernel
theorem d_M_handOver_48 : decode b_M_handOver 48 = .ok (.iastore, 1) := by decide +kernel
theorem d_M_handOver_49 : decode b_M_handOver 49 = .ok (.iinc 2 1, 3) := by decide +kernel
theorem d_M_handOver_52 : decode b_M_handOver 52 = .ok (.goto (-26), 3) := by decide +kernel
theorem d_M_handOver_55 : decode b_M_handOver 55 = .ok (.iconst 0, 1) := by decide +kernel
theorem d_M_handOver_56 : decode b_M_handOver 56 = .ok (.istore_n 2, 1) := by decide +kernel
theorem d_M_handOver_57 : decode b_M_handOver 57 = .ok (.iload_n 2, 1) := by decide +kernel
theorem d_M_handOver_58 : decode b_M_handOver 58 = .ok (.bipush 60, 2) := by decide +kernel
theorem d_M_handOver_60 : decode b_M_handOver 60 = .ok (.if_icmp .ge 26, 3) := by decide +kernel
theorem d_M_handOver_63 : decode b_M_handOver 63 = .ok (.aload_n 0, 1) := by decide +kernel
theorem d_M_handOver_64 : decode b_M_handOver 64 = .ok (.getfield 16, 3) := by decide +kernel
theorem d_M_handOver_67 : decode b_M_handOver 67 = .ok (.bipush 60, 2) := by decide +kernel
theorem d_M_handOver_69 : decode b_M_handOver 69 = .ok (.iload_n 1, 1) := by decide +kernel
theorem d_M_handOver_70 : decode b_M_handOver 70 = .ok (.imul, 1) := by decide +kernel
theorem d_M_handOver_71 : decode b_M_handOver 71 = .ok (.iload_n 2, 1) := by decide +kernel
theorem d_M_handOver_72 : decode b_M_handOver 72 = .ok (.iadd, 1) := by decide +kernel
theorem d_M_handOver_73 : decode b_M_handOver 73 = .ok (.aload_n 0, 1) := by decide +kernel
theorem d_M_handOver_74 : decode b_M_handOver 74 = .ok (.getfield 54, 3) := by decide +kernel
theorem d_M_handOver_77 : decode b_M_handOver 77 = .ok (.iload_n 2, 1) := by decide +kernel
theorem d_M_handOver_78 : decode b_M_handOver 78 = .ok (.iaload, 1) := by decide +kernel
theorem d_M_handOver_79 : decode b_M_handOver 79 = .ok (.iastore, 1) := by decide +kernel
theorem d_M_handOver_80 : decode b_M_handOver 80 = .ok (.iinc 2 1, 3) := by decide +kernel
theorem d_M_handOver_83 : decode b_M_handOver 83 = .ok (.goto (-26), 3) := by decide +kernel
theorem d_M_handOver_86 : decode b_M_handOver 86 = .ok (.aload_n 0, 1) := by decide +kernel
theorem d_M_handOver_87 : decode b_M_handOver 87 = .ok (.iload_n 1, 1) := by decide +kernel
theorem d_M_handOver_88 : decode b_M_handOver 88 = .ok (.putfield 29, 3) := by decide +kernel
theorem d_M_handOver_91 : decode b_M_handOver 91 = .ok (.aload_n 0, 1) := by decide +kernel
theorem d_M_handOver_92 : decode b_M_handOver 92 = .ok (.dup, 1) := by decide +kernel
theorem d_M_handOver_93 : decode b_M_handOver 93 = .ok (.getfield 83, 3) := by decide +kernel
theorem d_M_handOver_96 : decode b_M_handOver 96 = .ok (.iconst 1, 1) := by decide +kernel
theorem d_M_handOver_97 : decode b_M_handOver 97 = .ok (.iadd, 1) := by decide +kernel
theorem d_M_handOver_98 : decode b_M_handOver 98 = .ok (.putfield 83, 3) := by decide +kernel
theorem d_M_handOver_101 : decode b_M_handOver 101 = .ok (.aload_n 0, 1) := by decide +kernel
theorem d_M_handOver_102 : decode b_M_handOver 102 = .ok (.getfield 16, 3) := by decide +kernel
theorem d_M_handOver_105 : decode b_M_handOver 105 = .ok (.bipush 60, 2) := by decide +kernel
theorem d_M_handOver_107 : decode b_M_handOver 107 = .ok (.iload_n 1, 1) := by decide +kernel
theorem d_M_handOver_108 : decode b_M_handOver 108 = .ok (.imul, 1) := by decide +kernel
theorem d_M_handOver_109 : decode b_M_handOver 109 = .ok (.bipush 56, 2) := by decide +kernel
theorem d_M_handOver_111 : decode b_M_handOver 111 = .ok (.iadd, 1) := by decide +kernel
theorem d_M_handOver_112 : decode b_M_handOver 112 = .ok (.iaload, 1) := by decide +kernel
theorem d_M_handOver_113 : decode b_M_handOver 113 = .ok (.iconst 1, 1) := by decide +kernel
theorem d_M_handOver_114 : decode b_M_handOver 114 = .ok (.if_icmp .ne 8, 3) := by decide +kernel
theorem d_M_handOver_117 : decode b_M_handOver 117 = .ok (.aload_n 0, 1) := by decide +kernel
theorem d_M_handOver_118 : decode b_M_handOver 118 = .ok (.iload_n 1, 1) := by decide +kernel
theorem d_M_handOver_119 : decode b_M_handOver 119 = .ok (.invokevirtual 97, 3) := by decide +kernel
theorem d_M_handOver_122 : decode b_M_handOver 122 = .ok (.aload_n 0, 1) := by decide +kernel
theorem d_M_handOver_123 : decode b_M_handOver 123 = .ok (.invokevirtual 145, 3) := by decide +kernel
theorem d_M_handOver_126 : decode b_M_handOver 126 = .ok (.return_, 1) := by decide +kernel
theorem d_M_isPiece_0 : decode b_M_isPiece 0 = .ok (.iload_n 1, 1) := by decide +kernel
theorem d_M_isPiece_1 : decode b_M_isPiece 1 = .ok (.ifCond .lt 15, 3) := by decide +kernel
theorem d_M_isPiece_4 : decode b_M_isPiece 4 = .ok (.iload_n 1, 1) := by decide +kernel
theorem d_M_isPiece_5 : decode b_M_isPiece 5 = .ok (.aload_n 0, 1) := by decide +kernel
theorem d_M_isPiece_6 : decode b_M_isPiece 6 = .ok (.getfield 128, 3) := by decide +kernel
theorem d_M_isPiece_9 : decode b_M_isPiece 9 = .ok (.if_icmp .ge 7, 3) := by decide +kernel
theorem d_M_isPiece_12 : decode b_M_isPiece 12 = .ok (.iconst 1, 1) := by decide +kernel
theorem d_M_isPiece_13 : decode b_M_isPiece 13 = .ok (.goto 4, 3) := by decide +kernel
theorem d_M_isPiece_16 : decode b_M_isPiece 16 = .ok (.iconst 0, 1) := by decide +kernel
theorem d_M_isPiece_17 : decode b_M_isPiece 17 = .ok (.ireturn, 1) := by decide +kernel
theorem d_M_copy_0 : decode b_M_copy 0 = .ok (.aload_n 0, 1) := by decide +kernel
theorem d_M_copy_1 : decode b_M_copy 1 = .ok (.getfield 57, 3) := by decide +kernel
theorem d_M_copy_4 : decode b_M_copy 4 = .ok (.iload_n 2, 1) := by decide +kernel
theorem d_M_copy_5 : decode b_M_copy 5 = .ok (.aload_n 0, 1) := by decide +kernel
theorem d_M_copy_6 : decode b_M_copy 6 = .ok (.getfield 57, 3) := by decide +kernel
theorem d_M_copy_9 : decode b_M_copy 9 = .ok (.iload_n 1, 1) := by decide +kernel
theorem d_M_copy_10 : decode b_M_copy 10 = .ok (.iaload, 1) := by decide +kernel
theorem d_M_copy_11 : decode b_M_copy 11 = .ok (.iastore, 1) := by decide +kernel
theorem d_M_copy_12 : decode b_M_copy 12 = .ok (.aload_n 0, 1) := by decide +kernel
theorem d_M_copy_13 : decode b_M_copy 13 = .ok (.getfield 60, 3) := by decide +kernel
theorem d_M_copy_16 : decode b_M_copy 16 = .ok (.iload_n 2, 1) := by decide +kernel
theorem d_M_copy_17 : decode b_M_copy 17 = .ok (.aload_n 0, 1) := by decide +kernel
theorem d_M_copy_18 : decode b_M_copy 18 = .ok (.getfield 60, 3) := by decide +kernel
theorem d_M_copy_21 : decode b_M_copy 21 = .ok (.iload_n 1, 1) := by decide +kernel
theorem d_M_copy_22 : decode b_M_copy 22 = .ok (.iaload, 1) := by decide +kernel
theorem d_M_copy_23 : decode b_M_copy 23 = .ok (.iastore, 1) := by decide +kernel
theorem d_M_copy_24 : decode b_M_copy 24 = .ok (.aload_n 0, 1) := by decide +kernel
theorem d_M_copy_25 : decode b_M_copy 25 = .ok (.getfield 63, 3) := by decide +kernel
theorem d_M_copy_28 : decode b_M_copy 28 = .ok (.iload_n 2, 1) := by decide +kernel
theorem d_M_copy_29 : decode b_M_copy 29 = .ok (.aload_n 0, 1) := by decide +kernel
theorem d_M_copy_30 : decode b_M_copy 30 = .ok (.getfield 63, 3) := by decide +kernel
theorem d_M_copy_33 : decode b_M_copy 33 = .ok (.iload_n 1, 1) := by decide +kernel
theorem d_M_copy_34 : decode b_M_copy 34 = .ok (.iaload, 1) := by decide +kernel
theorem d_M_copy_35 : decode b_M_copy 35 = .ok (.iastore, 1) := by decide +kernel
theorem d_M_copy_36 : decode b_M_copy 36 = .ok (.aload_n 0, 1) := by decide +kernel
theorem d_M_copy_37 : decode b_M_copy 37 = .ok (.getfield 66, 3) := by decide +kernel
theorem d_M_copy_40 : decode b_M_copy 40 = .ok (.iload_n 2, 1) := by decide +kernel
theorem d_M_copy_41 : decode b_M_copy 41 = .ok (.aload_n 0, 1) := by decide +kernel
theorem d_M_copy_42 : decode b_M_copy 42 = .ok (.getfield 66, 3) := by decide +kernel
theorem d_M_copy_45 : decode b_M_copy 45 = .ok (.iload_n 1, 1) := by decide +kernel
theorem d_M_copy_46 : decode b_M_copy 46 = .ok (.iaload, 1) := by decide +kernel
theorem d_M_copy_47 : decode b_M_copy 47 = .ok (.iastore, 1) := by decide +kernel
theorem d_M_copy_48 : decode b_M_copy 48 = .ok (.iconst 0, 1) := by decide +kernel
theorem d_M_copy_49 : decode b_M_copy 49 = .ok (.istore_n 3, 1) := by decide +kernel
theorem d_M_copy_50 : decode b_M_copy 50 = .ok (.iload_n 3, 1) := by decide +kernel
theorem d_M_copy_51 : decode b_M_copy 51 = .ok (.bipush 60, 2) := by decide +kernel
theorem d_M_copy_53 : decode b_M_copy 53 = .ok (.if_icmp .ge 31, 3) := by decide +kernel
theorem d_M_copy_56 : decode b_M_copy 56 = .ok (.aload_n 0, 1) := by decide +kernel
theorem d_M_copy_57 : decode b_M_copy 57 = .ok (.getfield 69, 3) := by decide +kernel
theorem d_M_copy_60 : decode b_M_copy 60 = .ok (.bipush 60, 2) := by decide +kernel
theorem d_M_copy_62 : decode b_M_copy 62 = .ok (.iload_n 2, 1) := by decide +kernel
theorem d_M_copy_63 : decode b_M_copy 63 = .ok (.imul, 1) := by decide +kernel
theorem d_M_copy_64 : decode b_M_copy 64 = .ok (.iload_n 3, 1) := by decide +kernel
theorem d_M_copy_65 : decode b_M_copy 65 = .ok (.iadd, 1) := by decide +kernel
theorem d_M_copy_66 : decode b_M_copy 66 = .ok (.aload_n 0, 1) := by decide +kernel
theorem d_M_copy_67 : decode b_M_copy 67 = .ok (.getfield 69, 3) := by decide +kernel
theorem d_M_copy_70 : decode b_M_copy 70 = .ok (.bipush 60, 2) := by decide +kernel
theorem d_M_copy_72 : decode b_M_copy 72 = .ok (.iload_n 1, 1) := by decide +kernel
theorem d_M_copy_73 : decode b_M_copy 73 = .ok (.imul, 1) := by decide +kernel
theorem d_M_copy_74 : decode b_M_copy 74 = .ok (.iload_n 3, 1) := by decide +kernel
theorem d_M_copy_75 : decode b_M_copy 75 = .ok (.iadd, 1) := by decide +kernel
theorem d_M_copy_76 : decode b_M_copy 76 = .ok (.iaload, 1) := by decide +kernel
theorem d_M_copy_77 : decode b_M_copy 77 = .ok (.iastore, 1) := by decide +kernel
theorem d_M_copy_78 : decode b_M_copy 78 = .ok (.iinc 3 1, 3) := by decide +kernel
theorem d_M_copy_81 : decode b_M_copy 81 = .ok (.goto (-31), 3) := by decide +kernel
theorem d_M_copy_84 : decode b_M_copy 84 = .ok (.return_, 1) := by decide +kernel
theorem d_M_leave_0 : decode b_M_leave 0 = .ok (.aload_n 0, 1) := by decide +kernel
theorem d_M_leave_1 : decode b_M_leave 1 = .ok (.iload_n 1, 1) := by decide +kernel
theorem d_M_leave_2 : decode b_M_leave 2 = .ok (.bipush 8, 2) := by decide +kernel
theorem d_M_leave_4 : decode b_M_leave 4 = .ok (.invokevirtual 148, 3) := by decide +kernel
theorem d_M_leave_7 : decode b_M_leave 7 = .ok (.iload_n 1, 1) := by decide +kernel
theorem d_M_leave_8 : decode b_M_leave 8 = .ok (.istore_n 2, 1) := by decide +kernel
theorem d_M_leave_9 : decode b_M_leave 9 = .ok (.iload_n 2, 1) := by decide +kernel
theorem d_M_leave_10 : decode b_M_leave 10 = .ok (.iconst 1, 1) := by decide +kernel
theorem d_M_leave_11 : decode b_M_leave 11 = .ok (.iadd, 1) := by decide +kernel
theorem d_M_leave_12 : decode b_M_leave 12 = .ok (.aload_n 0, 1) := by decide +kernel
theorem d_M_leave_13 : decode b_M_leave 13 = .ok (.getfield 128, 3) := by decide +kernel
theorem d_M_leave_16 : decode b_M_leave 16 = .ok (.if_icmp .ge 17, 3) := by decide +kernel
theorem d_M_leave_19 : decode b_M_leave 19 = .ok (.aload_n 0, 1) := by decide +kernel
theorem d_M_leave_20 : decode b_M_leave 20 = .ok (.iload_n 2, 1) := by decide +kernel
theorem d_M_leave_21 : decode b_M_leave 21 = .ok (.iconst 1, 1) := by decide +kernel
theorem d_M_leave_22 : decode b_M_leave 22 = .ok (.iadd, 1) := by decide +kernel
theorem d_M_leave_23 : decode b_M_leave 23 = .ok (.iload_n 2, 1) := by decide +kernel
theorem d_M_leave_24 : decode b_M_leave 24 = .ok (.invokevirtual 148, 3) := by decide +kernel
theorem d_M_leave_27 : decode b_M_leave 27 = .ok (.iinc 2 1, 3) := by decide +kernel
theorem d_M_leave_30 : decode b_M_leave 30 = .ok (.goto (-21), 3) := by decide +kernel
theorem d_M_leave_33 : decode b_M_leave 33 = .ok (.aload_n 0, 1) := by decide +kernel
theorem d_M_leave_34 : decode b_M_leave 34 = .ok (.dup, 1) := by decide +kernel
theorem d_M_leave_35 : decode b_M_leave 35 = .ok (.getfield 128, 3) := by decide +kernel
theorem d_M_leave_38 : decode b_M_leave 38 = .ok (.iconst 1, 1) := by decide +kernel
theorem d_M_leave_39 : decode b_M_leave 39 = .ok (.isub, 1) := by decide +kernel
theorem d_M_leave_40 : decode b_M_leave 40 = .ok (.putfield 128, 3) := by decide +kernel
theorem d_M_leave_43 : decode b_M_leave 43 = .ok (.return_, 1) := by decide +kernel
theorem d_M_holder_0 : decode b_M_holder 0 = .ok (.aload_n 0, 1) := by decide +kernel
theorem d_M_holder_1 : decode b_M_holder 1 = .ok (.getfield 23, 3) := by decide +kernel
theorem d_M_holder_4 : decode b_M_holder 4 = .ok (.iconst 0, 1) := by decide +kernel
theorem d_M_holder_5 : decode b_M_holder 5 = .ok (.baload, 1) := by decide +kernel
theorem d_M_holder_6 : decode b_M_holder 6 = .ok (.ifCond .eq 7, 3) := by decide +kernel
theorem d_M_holder_9 : decode b_M_holder 9 = .ok (.iconst 0, 1) := by decide +kernel
theorem d_M_holder_10 : decode b_M_holder 10 = .ok (.goto 18, 3) := by decide +kernel
theorem d_M_holder_13 : decode b_M_holder 13 = .ok (.aload_n 0, 1) := by decide +kernel
theorem d_M_holder_14 : decode b_M_holder 14 = .ok (.getfield 23, 3) := by decide +kernel
theorem d_M_holder_17 : decode b_M_holder 17 = .ok (.iconst 1, 1) := by decide +kernel
theorem d_M_holder_18 : decode b_M_holder 18 = .ok (.baload, 1) := by decide +kernel
theorem d_M_holder_19 : decode b_M_holder 19 = .ok (.ifCond .eq 7, 3) := by decide +kernel
theorem d_M_holder_22 : decode b_M_holder 22 = .ok (.iconst 1, 1) := by decide +kernel
theorem d_M_holder_23 : decode b_M_holder 23 = .ok (.goto 5, 3) := by decide +kernel
theorem d_M_holder_26 : decode b_M_holder 26 = .ok (.bipush (-2), 2) := by decide +kernel
theorem d_M_holder_28 : decode b_M_holder 28 = .ok (.ireturn, 1) := by decide +kernel
theorem d_M_isUp_0 : decode b_M_isUp 0 = .ok (.iload_n 1, 1) := by decide +kernel
theorem d_M_isUp_1 : decode b_M_isUp 1 = .ok (.invokestatic 76, 3) := by decide +kernel
theorem d_M_isUp_4 : decode b_M_isUp 4 = .ok (.ifCond .eq 16, 3) := by decide +kernel
theorem d_M_isUp_7 : decode b_M_isUp 7 = .ok (.aload_n 0, 1) := by decide +kernel
theorem d_M_isUp_8 : decode b_M_isUp 8 = .ok (.getfield 19, 3) := by decide +kernel
theorem d_M_isUp_11 : decode b_M_isUp 11 = .ok (.iload_n 1, 1) := by decide +kernel
theorem d_M_isUp_12 : decode b_M_isUp 12 = .ok (.baload, 1) := by decide +kernel
theorem d_M_isUp_13 : decode b_M_isUp 13 = .ok (.ifCond .eq 7, 3) := by decide +kernel
theorem d_M_isUp_16 : decode b_M_isUp 16 = .ok (.iconst 1, 1) := by decide +kernel
theorem d_M_isUp_17 : decode b_M_isUp 17 = .ok (.goto 4, 3) := by decide +kernel
theorem d_M_isUp_20 : decode b_M_isUp 20 = .ok (.iconst 0, 1) := by decide +kernel
theorem d_M_isUp_21 : decode b_M_isUp 21 = .ok (.ireturn, 1) := by decide +kernel
theorem d_M_back_0 : decode b_M_back 0 = .ok (.iload_n 1, 1) := by decide +kernel
theorem d_M_back_1 : decode b_M_back 1 = .ok (.invokestatic 76, 3) := by decide +kernel
theorem d_M_back_4 : decode b_M_back 4 = .ok (.ifCond .eq 12, 3) := by decide +kernel
theorem d_M_back_7 : decode b_M_back 7 = .ok (.aload_n 0, 1) := by decide +kernel
theorem d_M_back_8 : decode b_M_back 8 = .ok (.getfield 19, 3) := by decide +kernel
theorem d_M_back_11 : decode b_M_back 11 = .ok (.iload_n 1, 1) := by decide +kernel
theorem d_M_back_12 : decode b_M_back 12 = .ok (.baload, 1) := by decide +kernel
theorem d_M_back_13 : decode b_M_back 13 = .ok (.ifCond .eq 5, 3) := by decide +kernel
theorem d_M_back_16 : decode b_M_back 16 = .ok (.iconst 0, 1) := by decide +kernel
theorem d_M_back_17 : decode b_M_back 17 = .ok (.ireturn, 1) := by decide +kernel
theorem d_M_back_18 : decode b_M_back 18 = .ok (.aload_n 0, 1) := by decide +kernel
theorem d_M_back_19 : decode b_M_back 19 = .ok (.getfield 19, 3) := by decide +kernel
theorem d_M_back_22 : decode b_M_back 22 = .ok (.iload_n 1, 1) := by decide +kernel
theorem d_M_back_23 : decode b_M_back 23 = .ok (.iconst 1, 1) := by decide +kernel
theorem d_M_back_24 : decode b_M_back 24 = .ok (.bastore, 1) := by decide +kernel
theorem d_M_back_25 : decode b_M_back 25 = .ok (.iconst 1, 1) := by decide +kernel
theorem d_M_back_26 : decode b_M_back 26 = .ok (.ireturn, 1) := by decide +kernel
theorem d_M_block_0 : decode b_M_block 0 = .ok (.iload_n 1, 1) := by decide +kernel
theorem d_M_block_1 : decode b_M_block 1 = .ok (.ifCond .lt 18, 3) := by decide +kernel
theorem d_M_block_4 : decode b_M_block 4 = .ok (.iload_n 1, 1) := by decide +kernel
theorem d_M_block_5 : decode b_M_block 5 = .ok (.bipush 8, 2) := by decide +kernel
theorem d_M_block_7 : decode b_M_block 7 = .ok (.if_icmp .ge 12, 3) := by decide +kernel
theorem d_M_block_10 : decode b_M_block 10 = .ok (.aload_n 0, 1) := by decide +kernel
theorem d_M_block_11 : decode b_M_block 11 = .ok (.getfield 26, 3) := by decide +kernel
theorem d_M_block_14 : decode b_M_block 14 = .ok (.iload_n 1, 1) := by decide +kernel
theorem d_M_block_15 : decode b_M_block 15 = .ok (.iaload, 1) := by decide +kernel
theorem d_M_block_16 : decode b_M_block 16 = .ok (.goto 4, 3) := by decide +kernel
theorem d_M_block_19 : decode b_M_block 19 = .ok (.iconst 0, 1) := by decide +kernel
theorem d_M_block_20 : decode b_M_block 20 = .ok (.ireturn, 1) := by decide +kernel
theorem d_M_guest_0 : decode b_M_guest 0 = .ok (.iload_n 1, 1) := by decide +kernel
theorem d_M_guest_1 : decode b_M_guest 1 = .ok (.invokestatic 76, 3) := by decide +kernel
theorem d_M_guest_4 : decode b_M_guest 4 = .ok (.ifCond .eq 22, 3) := by decide +kernel
theorem d_M_guest_7 : decode b_M_guest 7 = .ok (.aload_n 0, 1) := by decide +kernel
theorem d_M_guest_8 : decode b_M_guest 8 = .ok (.getfield 23, 3) := by decide +kernel
theorem d_M_guest_11 : decode b_M_guest 11 = .ok (.iload_n 1, 1) := by decide +kernel
theorem d_M_guest_12 : decode b_M_guest 12 = .ok (.baload, 1) := by decide +kernel
theorem d_M_guest_13 : decode b_M_guest 13 = .ok (.ifCond .eq 13, 3) := by decide +kernel
theorem d_M_guest_16 : decode b_M_guest 16 = .ok (.iload_n 2, 1) := by decide +kernel
theorem d_M_guest_17 : decode b_M_guest 17 = .ok (.ifCond .lt 9, 3) := by decide +kernel
theorem d_M_guest_20 : decode b_M_guest 20 = .ok (.iload_n 2, 1) := by decide +kernel
theorem d_M_guest_21 : decode b_M_guest 21 = .ok (.bipush 9, 2) := by decide +kernel
theorem d_M_guest_23 : decode b_M_guest 23 = .ok (.if_icmp .le 5, 3) := by decide +kernel
theorem d_M_guest_26 : decode b_M_guest 26 = .ok (.iconst 0, 1) := by decide +kernel
theorem d_M_guest_27 : decode b_M_guest 27 = .ok (.ireturn, 1) := by decide +kernel
theorem d_M_guest_28 : decode b_M_guest 28 = .ok (.bipush 60, 2) := by decide +kernel
theorem d_M_guest_30 : decode b_M_guest 30 = .ok (.iload_n 1, 1) := by decide +kernel
theorem d_M_guest_31 : decode b_M_guest 31 = .ok (.imul, 1) := by decide +kernel
theorem d_M_guest_32 : decode b_M_guest 32 = .ok (.istore_n 3, 1) := by decide +kernel
theorem d_M_guest_33 : decode b_M_guest 33 = .ok (.iload_n 2, 1) := by decide +kernel
theorem d_M_guest_34 : decode b_M_guest 34 = .ok (.bipush 6, 2) := by decide +kernel
theorem d_M_guest_36 : decode b_M_guest 36 = .ok (.if_icmp .ge 14, 3) := by decide +kernel
theorem d_M_guest_39 : decode b_M_guest 39 = .ok (.aload_n 0, 1) := by decide +kernel
theorem d_M_guest_40 : decode b_M_guest 40 = .ok (.getfield 16, 3) := by decide +kernel
theorem d_M_guest_43 : decode b_M_guest 43 = .ok (.iload_n 3, 1) := by decide +kernel
theorem d_M_guest_44 : decode b_M_guest 44 = .ok (.iload_n 2, 1) := by decide +kernel
theorem d_M_guest_45 : decode b_M_guest 45 = .ok (.iadd, 1) := by decide +kernel
theorem d_M_guest_46 : decode b_M_guest 46 = .ok (.iaload, 1) := by decide +kernel
theorem d_M_guest_47 : decode b_M_guest 47 = .ok (.goto 66, 3) := by decide +kernel
theorem d_M_guest_50 : decode b_M_guest 50 = .ok (.iload_n 2, 1) := by decide +kernel
theorem d_M_guest_51 : decode b_M_guest 51 = .ok (.bipush 6, 2) := by decide +kernel
theorem d_M_guest_53 : decode b_M_guest 53 = .ok (.if_icmp .ne 15, 3) := by decide +kernel
theorem d_M_guest_56 : decode b_M_guest 56 = .ok (.aload_n 0, 1) := by decide +kernel
theorem d_M_guest_57 : decode b_M_guest 57 = .ok (.getfield 16, 3) := by decide +kernel
theorem d_M_guest_60 : decode b_M_guest 60 = .ok (.iload_n 3, 1) := by decide +kernel
theorem d_M_guest_61 : decode b_M_guest 61 = .ok (.bipush 59, 2) := by decide +kernel
theorem d_M_guest_63 : decode b_M_guest 63 = .ok (.iadd, 1) := by decide +kernel
theorem d_M_guest_64 : decode b_M_guest 64 = .ok (.iaload, 1) := by decide +kernel
theorem d_M_guest_65 : decode b_M_guest 65 = .ok (.goto 48, 3) := by decide +kernel
theorem d_M_guest_68 : decode b_M_guest 68 = .ok (.iload_n 2, 1) := by decide +kernel
theorem d_M_guest_69 : decode b_M_guest 69 = .ok (.bipush 7, 2) := by decide +kernel
theorem d_M_guest_71 : decode b_M_guest 71 = .ok (.if_icmp .ne 15, 3) := by decide +kernel
theorem d_M_guest_74 : decode b_M_guest 74 = .ok (.aload_n 0, 1) := by decide +kernel
theorem d_M_guest_75 : decode b_M_guest 75 = .ok (.getfield 16, 3) := by decide +kernel
theorem d_M_guest_78 : decode b_M_guest 78 = .ok (.iload_n 3, 1) := by decide +kernel
theorem d_M_guest_79 : decode b_M_guest 79 = .ok (.bipush 6, 2) := by decide +kernel
theorem d_M_guest_81 : decode b_M_guest 81 = .ok (.iadd, 1) := by decide +kernel
theorem d_M_guest_82 : decode b_M_guest 82 = .ok (.iaload, 1) := by decide +kernel
theorem d_M_guest_83 : decode b_M_guest 83 = .ok (.goto 30, 3) := by decide +kernel
theorem d_M_guest_86 : decode b_M_guest 86 = .ok (.iload_n 2, 1) := by decide +kernel
theorem d_M_guest_87 : decode b_M_guest 87 = .ok (.bipush 8, 2) := by decide +kernel
theorem d_M_guest_89 : decode b_M_guest 89 = .ok (.if_icmp .ne 15, 3) := by decide +kernel
theorem d_M_guest_92 : decode b_M_guest 92 = .ok (.aload_n 0, 1) := by decide +kernel
theorem d_M_guest_93 : decode b_M_guest 93 = .ok (.getfield 16, 3) := by decide +kernel
theorem d_M_guest_96 : decode b_M_guest 96 = .ok (.iload_n 3, 1) := by decide +kernel
theorem d_M_guest_97 : decode b_M_guest 97 = .ok (.bipush 15, 2) := by decide +kernel
theorem d_M_guest_99 : decode b_M_guest 99 = .ok (.iadd, 1) := by decide +kernel
theorem d_M_guest_100 : decode b_M_guest 100 = .ok (.iaload, 1) := by decide +kernel
theorem d_M_guest_101 : decode b_M_guest 101 = .ok (.goto 12, 3) := by decide +kernel
theorem d_M_guest_104 : decode b_M_guest 104 = .ok (.aload_n 0, 1) := by decide +kernel
theorem d_M_guest_105 : decode b_M_guest 105 = .ok (.getfield 16, 3) := by decide +kernel
theorem d_M_guest_108 : decode b_M_guest 108 = .ok (.iload_n 3, 1) := by decide +kernel
theorem d_M_guest_109 : decode b_M_guest 109 = .ok (.bipush 56, 2) := by decide +kernel
theorem d_M_guest_111 : decode b_M_guest 111 = .ok (.iadd, 1) := by decide +kernel
theorem d_M_guest_112 : decode b_M_guest 112 = .ok (.iaload, 1) := by decide +kernel
theorem d_M_guest_113 : decode b_M_guest 113 = .ok (.ireturn, 1) := by decide +kernel
theorem d_M_memory_0 : decode b_M_memory 0 = .ok (.iload_n 1, 1) := by decide +kernel
theorem d_M_memory_1 : decode b_M_memory 1 = .ok (.invokestatic 76, 3) := by decide +kernel
theorem d_M_memory_4 : decode b_M_memory 4 = .ok (.ifCond .eq 13, 3) := by decide +kernel
theorem d_M_memory_7 : decode b_M_memory 7 = .ok (.iload_n 2, 1) := by decide +kernel
theorem d_M_memory_8 : decode b_M_memory 8 = .ok (.ifCond .lt 9, 3) := by decide +kernel
theorem d_M_memory_11 : decode b_M_memory 11 = .ok (.iload_n 2, 1) := by decide +kernel
theorem d_M_memory_12 : decode b_M_memory 12 = .ok (.bipush 63, 2) := by decide +kernel
theorem d_M_memory_14 : decode b_M_memory 14 = .ok (.if_icmp .le 5, 3) := by decide +kernel
theorem d_M_memory_17 : decode b_M_memory 17 = .ok (.iconst 0, 1) := by decide +kernel
theorem d_M_memory_18 : decode b_M_memory 18 = .ok (.ireturn, 1) := by decide +kernel
theorem d_M_memory_19 : decode b_M_memory 19 = .ok (.aload_n 0, 1) := by decide +kernel
theorem d_M_memory_20 : decode b_M_memory 20 = .ok (.getfield 23, 3) := by decide +kernel
theorem d_M_memory_23 : decode b_M_memory 23 = .ok (.iload_n 1, 1) := by decide +kernel
theorem d_M_memory_24 : decode b_M_memory 24 = .ok (.baload, 1) := by decide +kernel
theorem d_M_memory_25 : decode b_M_memory 25 = .ok (.ifCond .eq 17, 3) := by decide +kernel
theorem d_M_memory_28 : decode b_M_memory 28 = .ok (.aload_n 0, 1) := by decide +kernel
theorem d_M_memory_29 : decode b_M_memory 29 = .ok (.getfield 13, 3) := by decide +kernel
theorem d_M_memory_32 : decode b_M_memory 32 = .ok (.bipush 64, 2) := by decide +kernel
theorem d_M_memory_34 : decode b_M_memory 34 = .ok (.iload_n 1, 1) := by decide +kernel
theorem d_M_memory_35 : decode b_M_memory 35 = .ok (.imul, 1) := by decide +kernel
theorem d_M_memory_36 : decode b_M_memory 36 = .ok (.iload_n 2, 1) := by decide +kernel
theorem d_M_memory_37 : decode b_M_memory 37 = .ok (.iadd, 1) := by decide +kernel
theorem d_M_memory_38 : decode b_M_memory 38 = .ok (.iaload, 1) := by decide +kernel
theorem d_M_memory_39 : decode b_M_memory 39 = .ok (.goto 28, 3) := by decide +kernel
theorem d_M_memory_42 : decode b_M_memory 42 = .ok (.aload_n 0, 1) := by decide +kernel
theorem d_M_memory_43 : decode b_M_memory 43 = .ok (.getfield 110, 3) := by decide +kernel
theorem d_M_memory_46 : decode b_M_memory 46 = .ok (.ifCond .eq 20, 3) := by decide +kernel
theorem d_M_memory_49 : decode b_M_memory 49 = .ok (.iload_n 1, 1) := by decide +kernel
theorem d_M_memory_50 : decode b_M_memory 50 = .ok (.aload_n 0, 1) := by decide +kernel
theorem d_M_memory_51 : decode b_M_memory 51 = .ok (.getfield 86, 3) := by decide +kernel
theorem d_M_memory_54 : decode b_M_memory 54 = .ok (.if_icmp .eq 12, 3) := by decide +kernel
theorem d_M_memory_57 : decode b_M_memory 57 = .ok (.aload_n 0, 1) := by decide +kernel
theorem d_M_memory_58 : decode b_M_memory 58 = .ok (.getfield 48, 3) := by decide +kernel
theorem d_M_memory_61 : decode b_M_memory 61 = .ok (.iload_n 2, 1) := by decide +kernel
theorem d_M_memory_62 : decode b_M_memory 62 = .ok (.iaload, 1) := by decide +kernel
theorem d_M_memory_63 : decode b_M_memory 63 = .ok (.goto 4, 3) := by decide +kernel
theorem d_M_memory_66 : decode b_M_memory 66 = .ok (.iconst 0, 1) := by decide +kernel
theorem d_M_memory_67 : decode b_M_memory 67 = .ok (.ireturn, 1) := by decide +kernel
theorem d_M_output_0 : decode b_M_output 0 = .ok (.iload_n 1, 1) := by decide +kernel
theorem d_M_output_1 : decode b_M_output 1 = .ok (.invokestatic 76, 3) := by decide +kernel
theorem d_M_output_4 : decode b_M_output 4 = .ok (.ifCond .eq 49, 3) := by decide +kernel
theorem d_M_output_7 : decode b_M_output 7 = .ok (.aload_n 0, 1) := by decide +kernel
theorem d_M_output_8 : decode b_M_output 8 = .ok (.getfield 23, 3) := by decide +kernel
theorem d_M_output_11 : decode b_M_output 11 = .ok (.iload_n 1, 1) := by decide +kernel
theorem d_M_output_12 : decode b_M_output 12 = .ok (.baload, 1) := by decide +kernel
theorem d_M_output_13 : decode b_M_output 13 = .ok (.ifCond .eq 40, 3) := by decide +kernel
theorem d_M_output_16 : decode b_M_output 16 = .ok (.iload_n 2, 1) := by decide +kernel
theorem d_M_output_17 : decode b_M_output 17 = .ok (.ifCond .lt 36, 3) := by decide +kernel
theorem d_M_output_20 : decode b_M_output 20 = .ok (.iload_n 2, 1) := by decide +kernel
theorem d_M_output_21 : decode b_M_output 21 = .ok (.aload_n 0, 1) := by decide +kernel
theorem d_M_output_22 : decode b_M_output 22 = .ok (.getfield 16, 3) := by decide +kernel
theorem d_M_output_25 : decode b_M_output 25 = .ok (.bipush 60, 2) := by decide +kernel
theorem d_M_output_27 : decode b_M_output 27 = .ok (.iload_n 1, 1) := by decide +kernel
theorem d_M_output_28 : decode b_M_output 28 = .ok (.imul, 1) := by decide +kernel
theorem d_M_output_29 : decode b_M_output 29 = .ok (.bipush 15, 2) := by decide +kernel
theorem d_M_output_31 : decode b_M_output 31 = .ok (.iadd, 1) := by decide +kernel
theorem d_M_output_32 : decode b_M_output 32 = .ok (.iaload, 1) := by decide +kernel
theorem d_M_output_33 : decode b_M_output 33 = .ok (.if_icmp .ge 20, 3) := by decide +kernel
theorem d_M_output_36 : decode b_M_output 36 = .ok (.aload_n 0, 1) := by decide +kernel
theorem d_M_output_37 : decode b_M_output 37 = .ok (.getfield 16, 3) := by decide +kernel
theorem d_M_output_40 : decode b_M_output 40 = .ok (.bipush 60, 2) := by decide +kernel
theorem d_M_output_42 : decode b_M_output 42 = .ok (.iload_n 1, 1) := by decide +kernel
theorem d_M_output_43 : decode b_M_output 43 = .ok (.imul, 1) := by decide +kernel
theorem d_M_output_44 : decode b_M_output 44 = .ok (.bipush 16, 2) := by decide +kernel
theorem d_M_output_46 : decode b_M_output 46 = .ok (.iadd, 1) := by decide +kernel
theorem d_M_output_47 : decode b_M_output 47 = .ok (.iload_n 2, 1) := by decide +kernel
theorem d_M_output_48 : decode b_M_output 48 = .ok (.iadd, 1) := by decide +kernel
theorem d_M_output_49 : decode b_M_output 49 = .ok (.iaload, 1) := by decide +kernel
theorem d_M_output_50 : decode b_M_output 50 = .ok (.goto 4, 3) := by decide +kernel
theorem d_M_output_53 : decode b_M_output 53 = .ok (.iconst 0, 1) := by decide +kernel
theorem d_M_output_54 : decode b_M_output 54 = .ok (.ireturn, 1) := by decide +kernel
theorem d_M_told_0 : decode b_M_told 0 = .ok (.iload_n 1, 1) := by decide +kernel
theorem d_M_told_1 : decode b_M_told 1 = .ok (.tableswitch 157 0 8 #[51, 56, 61, 77, 94, 107, 123, 128, 141], 51) := by decide +kernel
theorem d_M_told_52 : decode b_M_told 52 = .ok (.aload_n 0, 1) := by decide +kernel
theorem d_M_told_53 : decode b_M_told 53 = .ok (.getfield 29, 3) := by decide +kernel
theorem d_M_told_56 : decode b_M_told 56 = .ok (.ireturn, 1) := by decide +kernel
theorem d_M_told_57 : decode b_M_told 57 = .ok (.aload_n 0, 1) := by decide +kernel
theorem d_M_told_58 : decode b_M_told 58 = .ok (.getfield 83, 3) := by decide +kernel
theorem d_M_told_61 : decode b_M_told 61 = .ok (.ireturn, 1) := by decide +kernel
theorem d_M_told_62 : decode b_M_told 62 = .ok (.aload_n 0, 1) := by decide +kernel
theorem d_M_told_63 : decode b_M_told 63 = .ok (.getfield 80, 3) := by decide +kernel
theorem d_M_told_66 : decode b_M_told 66 = .ok (.ifCond .eq 10, 3) := by decide +kernel
theorem d_M_told_69 : decode b_M_told 69 = .ok (.aload_n 0, 1) := by decide +kernel
theorem d_M_told_70 : decode b_M_told 70 = .ok (.getfield 116, 3) := by decide +kernel
theorem d_M_told_73 : decode b_M_told 73 = .ok (.goto 4, 3) := by decide +kernel
theorem d_M_told_76 : decode b_M_told 76 = .ok (.iconst 0, 1) := by decide +kernel
theorem d_M_told_77 : decode b_M_told 77 = .ok (.ireturn, 1) := by decide +kernel
theorem d_M_told_78 : decode b_M_told 78 = .ok (.aload_n 0, 1) := by decide +kernel
theorem d_M_told_79 : decode b_M_told 79 = .ok (.getfield 80, 3) := by decide +kernel
theorem d_M_told_82 : decode b_M_told 82 = .ok (.ifCond .eq 10, 3) := by decide +kernel
theorem d_M_told_85 : decode b_M_told 85 = .ok (.aload_n 0, 1) := by decide +kernel
theorem d_M_told_86 : decode b_M_told 86 = .ok (.getfield 86, 3) := by decide +kernel
theorem d_M_told_89 : decode b_M_told 89 = .ok (.goto 5, 3) := by decide +kernel
theorem d_M_told_92 : decode b_M_told 92 = .ok (.bipush (-2), 2) := by decide +kernel
theorem d_M_told_94 : decode b_M_told 94 = .ok (.ireturn, 1) := by decide +kernel
theorem d_M_told_95 : decode b_M_told 95 = .ok (.aload_n 0, 1) := by decide +kernel
theorem d_M_told_96 : decode b_M_told 96 = .ok (.getfield 72, 3) := by decide +kernel
theorem d_M_told_99 : decode b_M_told 99 = .ok (.ifCond .eq 7, 3) := by decide +kernel
theorem d_M_told_102 : decode b_M_told 102 = .ok (.iconst 1, 1) := by decide +kernel
theorem d_M_told_103 : decode b_M_told 103 = .ok (.goto 4, 3) := by decide +kernel
theorem d_M_told_106 : decode b_M_told 106 = .ok (.iconst 0, 1) := by decide +kernel
theorem d_M_told_107 : decode b_M_told 107 = .ok (.ireturn, 1) := by decide +kernel
theorem d_M_told_108 : decode b_M_told 108 = .ok (.aload_n 0, 1) := by decide +kernel
theorem d_M_told_109 : decode b_M_told 109 = .ok (.getfield 80, 3) := by decide +kernel
theorem d_M_told_112 : decode b_M_told 112 = .ok (.ifCond .eq 10, 3) := by decide +kernel
theorem d_M_told_115 : decode b_M_told 115 = .ok (.aload_n 0, 1) := by decide +kernel
theorem d_M_told_116 : decode b_M_told 116 = .ok (.invokevirtual 135, 3) := by decide +kernel
theorem d_M_told_119 : decode b_M_told 119 = .ok (.goto 4, 3) := by decide +kernel
theorem d_M_told_122 : decode b_M_told 122 = .ok (.iconst 0, 1) := by decide +kernel
theorem d_M_told_123 : decode b_M_told 123 = .ok (.ireturn, 1) := by decide +kernel
theorem d_M_told_124 : decode b_M_told 124 = .ok (.aload_n 0, 1) := by decide +kernel
theorem d_M_told_125 : decode b_M_told 125 = .ok (.getfield 128, 3) := by decide +kernel
theorem d_M_told_128 : decode b_M_told 128 = .ok (.ireturn, 1) := by decide +kernel
theorem d_M_told_129 : decode b_M_told 129 = .ok (.aload_n 0, 1) := by decide +kernel
theorem d_M_told_130 : decode b_M_told 130 = .ok (.getfield 113, 3) := by decide +kernel
theorem d_M_told_133 : decode b_M_told 133 = .ok (.ifCond .eq 7, 3) := by decide +kernel
theorem d_M_told_136 : decode b_M_told 136 = .ok (.iconst 1, 1) := by decide +kernel
theorem d_M_told_137 : decode b_M_told 137 = .ok (.goto 4, 3) := by decide +kernel
theorem d_M_told_140 : decode b_M_told 140 = .ok (.iconst 0, 1) := by decide +kernel
theorem d_M_told_141 : decode b_M_told 141 = .ok (.ireturn, 1) := by decide +kernel
theorem d_M_told_142 : decode b_M_told 142 = .ok (.aload_n 0, 1) := by decide +kernel
theorem d_M_told_143 : decode b_M_told 143 = .ok (.getfield 80, 3) := by decide +kernel
theorem d_M_told_146 : decode b_M_told 146 = .ok (.ifCond .eq 10, 3) := by decide +kernel
theorem d_M_told_149 : decode b_M_told 149 = .ok (.aload_n 0, 1) := by decide +kernel
theorem d_M_told_150 : decode b_M_told 150 = .ok (.getfield 125, 3) := by decide +kernel
theorem d_M_told_153 : decode b_M_told 153 = .ok (.goto 4, 3) := by decide +kernel
theorem d_M_told_156 : decode b_M_told 156 = .ok (.iconst 0, 1) := by decide +kernel
theorem d_M_told_157 : decode b_M_told 157 = .ok (.ireturn, 1) := by decide +kernel
theorem d_M_told_158 : decode b_M_told 158 = .ok (.iconst (-1), 1) := by decide +kernel
theorem d_M_told_159 : decode b_M_told 159 = .ok (.ireturn, 1) := by decide +kernel
theorem d_M_piece_0 : decode b_M_piece 0 = .ok (.aload_n 0, 1) := by decide +kernel
theorem d_M_piece_1 : decode b_M_piece 1 = .ok (.iload_n 1, 1) := by decide +kernel
theorem d_M_piece_2 : decode b_M_piece 2 = .ok (.invokevirtual 161, 3) := by decide +kernel
theorem d_M_piece_5 : decode b_M_piece 5 = .ok (.ifCond .eq 12, 3) := by decide +kernel
theorem d_M_piece_8 : decode b_M_piece 8 = .ok (.iload_n 2, 1) := by decide +kernel
theorem d_M_piece_9 : decode b_M_piece 9 = .ok (.ifCond .lt 8, 3) := by decide +kernel
theorem d_M_piece_12 : decode b_M_piece 12 = .ok (.iload_n 2, 1) := by decide +kernel
theorem d_M_piece_13 : decode b_M_piece 13 = .ok (.iconst 3, 1) := by decide +kernel
theorem d_M_piece_14 : decode b_M_piece 14 = .ok (.if_icmp .le 5, 3) := by decide +kernel
theorem d_M_piece_17 : decode b_M_piece 17 = .ok (.iconst (-1), 1) := by decide +kernel
theorem d_M_piece_18 : decode b_M_piece 18 = .ok (.ireturn, 1) := by decide +kernel
theorem d_M_piece_19 : decode b_M_piece 19 = .ok (.iload_n 2, 1) := by decide +kernel
