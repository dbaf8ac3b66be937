theorem d_P_init_0 : decode b_P_init 0 = .ok (.aload_n 0, 1) := by decide +kernel
theorem d_P_init_1 : decode b_P_init 1 = .ok (.invokespecial 1, 3) := by decide +kernel
theorem d_P_init_4 : decode b_P_init 4 = .ok (.aload_n 0, 1) := by decide +kernel
theorem d_P_init_5 : decode b_P_init 5 = .ok (.iload_n 1, 1) := by decide +kernel
theorem d_P_init_6 : decode b_P_init 6 = .ok (.putfield 7, 3) := by decide +kernel
theorem d_P_init_9 : decode b_P_init 9 = .ok (.aload_n 0, 1) := by decide +kernel
theorem d_P_init_10 : decode b_P_init 10 = .ok (.iload_n 2, 1) := by decide +kernel
theorem d_P_init_11 : decode b_P_init 11 = .ok (.putfield 13, 3) := by decide +kernel
theorem d_P_init_14 : decode b_P_init 14 = .ok (.aload_n 0, 1) := by decide +kernel
theorem d_P_init_15 : decode b_P_init 15 = .ok (.iload_n 3, 1) := by decide +kernel
theorem d_P_init_16 : decode b_P_init 16 = .ok (.putfield 16, 3) := by decide +kernel
theorem d_P_init_19 : decode b_P_init 19 = .ok (.aload_n 0, 1) := by decide +kernel
theorem d_P_init_20 : decode b_P_init 20 = .ok (.iload 4, 2) := by decide +kernel
theorem d_P_init_22 : decode b_P_init 22 = .ok (.putfield 19, 3) := by decide +kernel
theorem d_P_init_25 : decode b_P_init 25 = .ok (.aload_n 0, 1) := by decide +kernel
theorem d_P_init_26 : decode b_P_init 26 = .ok (.aload 5, 2) := by decide +kernel
theorem d_P_init_28 : decode b_P_init 28 = .ok (.putfield 22, 3) := by decide +kernel
theorem d_P_init_31 : decode b_P_init 31 = .ok (.return_, 1) := by decide +kernel
theorem d_J_checkLength_0 : decode b_J_checkLength 0 = .ok (.iload_n 1, 1) := by decide +kernel
theorem d_J_checkLength_1 : decode b_J_checkLength 1 = .ok (.iload_n 0, 1) := by decide +kernel
theorem d_J_checkLength_2 : decode b_J_checkLength 2 = .ok (.if_icmp .ge 35, 3) := by decide +kernel
theorem d_J_checkLength_5 : decode b_J_checkLength 5 = .ok (.new 43, 3) := by decide +kernel
theorem d_J_checkLength_8 : decode b_J_checkLength 8 = .ok (.dup, 1) := by decide +kernel
theorem d_J_checkLength_9 : decode b_J_checkLength 9 = .ok (.new 45, 3) := by decide +kernel
theorem d_J_checkLength_12 : decode b_J_checkLength 12 = .ok (.dup, 1) := by decide +kernel
theorem d_J_checkLength_13 : decode b_J_checkLength 13 = .ok (.invokespecial 47, 3) := by decide +kernel
theorem d_J_checkLength_16 : decode b_J_checkLength 16 = .ok (.iload_n 0, 1) := by decide +kernel
theorem d_J_checkLength_17 : decode b_J_checkLength 17 = .ok (.invokevirtual 54, 3) := by decide +kernel
theorem d_J_checkLength_23 : decode b_J_checkLength 23 = .ok (.invokevirtual 50, 3) := by decide +kernel
theorem d_J_checkLength_26 : decode b_J_checkLength 26 = .ok (.iload_n 1, 1) := by decide +kernel
theorem d_J_checkLength_27 : decode b_J_checkLength 27 = .ok (.invokevirtual 54, 3) := by decide +kernel
theorem d_J_checkLength_30 : decode b_J_checkLength 30 = .ok (.invokevirtual 61, 3) := by decide +kernel
theorem d_J_checkLength_33 : decode b_J_checkLength 33 = .ok (.invokespecial 65, 3) := by decide +kernel
theorem d_J_checkLength_36 : decode b_J_checkLength 36 = .ok (.athrow, 1) := by decide +kernel
theorem d_J_checkLength_37 : decode b_J_checkLength 37 = .ok (.return_, 1) := by decide +kernel
theorem d_J_copyOfRangeInt_0 : decode b_J_copyOfRangeInt 0 = .ok (.iload_n 1, 1) := by decide +kernel
theorem d_J_copyOfRangeInt_1 : decode b_J_copyOfRangeInt 1 = .ok (.iload_n 2, 1) := by decide +kernel
theorem d_J_copyOfRangeInt_2 : decode b_J_copyOfRangeInt 2 = .ok (.invokestatic 343, 3) := by decide +kernel
theorem d_J_copyOfRangeInt_5 : decode b_J_copyOfRangeInt 5 = .ok (.iload_n 2, 1) := by decide +kernel
theorem d_J_copyOfRangeInt_6 : decode b_J_copyOfRangeInt 6 = .ok (.iload_n 1, 1) := by decide +kernel
theorem d_J_copyOfRangeInt_7 : decode b_J_copyOfRangeInt 7 = .ok (.isub, 1) := by decide +kernel
theorem d_J_copyOfRangeInt_8 : decode b_J_copyOfRangeInt 8 = .ok (.istore_n 3, 1) := by decide +kernel
theorem d_J_copyOfRangeInt_9 : decode b_J_copyOfRangeInt 9 = .ok (.iload_n 3, 1) := by decide +kernel
theorem d_J_copyOfRangeInt_10 : decode b_J_copyOfRangeInt 10 = .ok (.newarray .int, 2) := by decide +kernel
theorem d_J_copyOfRangeInt_12 : decode b_J_copyOfRangeInt 12 = .ok (.astore 4, 2) := by decide +kernel
theorem d_J_copyOfRangeInt_14 : decode b_J_copyOfRangeInt 14 = .ok (.aload_n 0, 1) := by decide +kernel
theorem d_J_copyOfRangeInt_15 : decode b_J_copyOfRangeInt 15 = .ok (.iload_n 1, 1) := by decide +kernel
theorem d_J_copyOfRangeInt_16 : decode b_J_copyOfRangeInt 16 = .ok (.aload 4, 2) := by decide +kernel
theorem d_J_copyOfRangeInt_18 : decode b_J_copyOfRangeInt 18 = .ok (.iconst 0, 1) := by decide +kernel
theorem d_J_copyOfRangeInt_19 : decode b_J_copyOfRangeInt 19 = .ok (.aload_n 0, 1) := by decide +kernel
theorem d_J_copyOfRangeInt_20 : decode b_J_copyOfRangeInt 20 = .ok (.arraylength, 1) := by decide +kernel
theorem d_J_copyOfRangeInt_21 : decode b_J_copyOfRangeInt 21 = .ok (.iload_n 1, 1) := by decide +kernel
theorem d_J_copyOfRangeInt_22 : decode b_J_copyOfRangeInt 22 = .ok (.isub, 1) := by decide +kernel
theorem d_J_copyOfRangeInt_23 : decode b_J_copyOfRangeInt 23 = .ok (.iload_n 3, 1) := by decide +kernel
theorem d_J_copyOfRangeInt_24 : decode b_J_copyOfRangeInt 24 = .ok (.invokestatic 304, 3) := by decide +kernel
theorem d_J_copyOfRangeInt_27 : decode b_J_copyOfRangeInt 27 = .ok (.invokestatic 150, 3) := by decide +kernel
theorem d_J_copyOfRangeInt_30 : decode b_J_copyOfRangeInt 30 = .ok (.aload 4, 2) := by decide +kernel
theorem d_J_copyOfRangeInt_32 : decode b_J_copyOfRangeInt 32 = .ok (.areturn, 1) := by decide +kernel
theorem d_J_copyOfRange_0 : decode b_J_copyOfRange 0 = .ok (.iload_n 1, 1) := by decide +kernel
theorem d_J_copyOfRange_1 : decode b_J_copyOfRange 1 = .ok (.ifCond .ne 9, 3) := by decide +kernel
theorem d_J_copyOfRange_4 : decode b_J_copyOfRange 4 = .ok (.iload_n 2, 1) := by decide +kernel
theorem d_J_copyOfRange_5 : decode b_J_copyOfRange 5 = .ok (.aload_n 0, 1) := by decide +kernel
theorem d_J_copyOfRange_6 : decode b_J_copyOfRange 6 = .ok (.arraylength, 1) := by decide +kernel
theorem d_J_copyOfRange_7 : decode b_J_copyOfRange 7 = .ok (.if_icmp .eq 10, 3) := by decide +kernel
theorem d_J_copyOfRange_10 : decode b_J_copyOfRange 10 = .ok (.aload_n 0, 1) := by decide +kernel
theorem d_J_copyOfRange_11 : decode b_J_copyOfRange 11 = .ok (.iload_n 1, 1) := by decide +kernel
theorem d_J_copyOfRange_12 : decode b_J_copyOfRange 12 = .ok (.iload_n 2, 1) := by decide +kernel
theorem d_J_copyOfRange_13 : decode b_J_copyOfRange 13 = .ok (.invokestatic 351, 3) := by decide +kernel
theorem d_J_copyOfRange_16 : decode b_J_copyOfRange 16 = .ok (.areturn, 1) := by decide +kernel
theorem d_J_copyOfRange_17 : decode b_J_copyOfRange 17 = .ok (.aload_n 0, 1) := by decide +kernel
theorem d_J_copyOfRange_18 : decode b_J_copyOfRange 18 = .ok (.invokevirtual 316, 3) := by decide +kernel
theorem d_J_copyOfRange_24 : decode b_J_copyOfRange 24 = .ok (.areturn, 1) := by decide +kernel
theorem d_L_add_0 : decode b_L_add 0 = .ok (.aload_n 0, 1) := by decide +kernel
theorem d_L_add_1 : decode b_L_add 1 = .ok (.getfield 17, 3) := by decide +kernel
theorem d_L_add_4 : decode b_L_add 4 = .ok (.bipush 8, 2) := by decide +kernel
theorem d_L_add_6 : decode b_L_add 6 = .ok (.if_icmp .ge 23, 3) := by decide +kernel
theorem d_L_add_9 : decode b_L_add 9 = .ok (.aload_n 0, 1) := by decide +kernel
theorem d_L_add_10 : decode b_L_add 10 = .ok (.getfield 11, 3) := by decide +kernel
theorem d_L_add_13 : decode b_L_add 13 = .ok (.aload_n 0, 1) := by decide +kernel
theorem d_L_add_14 : decode b_L_add 14 = .ok (.getfield 17, 3) := by decide +kernel
theorem d_L_add_17 : decode b_L_add 17 = .ok (.aload_n 1, 1) := by decide +kernel
theorem d_L_add_18 : decode b_L_add 18 = .ok (.aastore, 1) := by decide +kernel
theorem d_L_add_19 : decode b_L_add 19 = .ok (.aload_n 0, 1) := by decide +kernel
theorem d_L_add_20 : decode b_L_add 20 = .ok (.dup, 1) := by decide +kernel
theorem d_L_add_21 : decode b_L_add 21 = .ok (.getfield 17, 3) := by decide +kernel
theorem d_L_add_24 : decode b_L_add 24 = .ok (.iconst 1, 1) := by decide +kernel
theorem d_L_add_25 : decode b_L_add 25 = .ok (.iadd, 1) := by decide +kernel
theorem d_L_add_26 : decode b_L_add 26 = .ok (.putfield 17, 3) := by decide +kernel
theorem d_L_add_29 : decode b_L_add 29 = .ok (.return_, 1) := by decide +kernel
theorem d_L_remove_0 : decode b_L_remove 0 = .ok (.aload_n 0, 1) := by decide +kernel
theorem d_L_remove_1 : decode b_L_remove 1 = .ok (.getfield 11, 3) := by decide +kernel
theorem d_L_remove_4 : decode b_L_remove 4 = .ok (.iload_n 1, 1) := by decide +kernel
theorem d_L_remove_5 : decode b_L_remove 5 = .ok (.aaload, 1) := by decide +kernel
theorem d_L_remove_6 : decode b_L_remove 6 = .ok (.astore_n 2, 1) := by decide +kernel
theorem d_L_remove_7 : decode b_L_remove 7 = .ok (.aload_n 0, 1) := by decide +kernel
theorem d_L_remove_8 : decode b_L_remove 8 = .ok (.dup, 1) := by decide +kernel
theorem d_L_remove_9 : decode b_L_remove 9 = .ok (.getfield 17, 3) := by decide +kernel
theorem d_L_remove_12 : decode b_L_remove 12 = .ok (.iconst 1, 1) := by decide +kernel
theorem d_L_remove_13 : decode b_L_remove 13 = .ok (.isub, 1) := by decide +kernel
theorem d_L_remove_14 : decode b_L_remove 14 = .ok (.putfield 17, 3) := by decide +kernel
theorem d_L_remove_17 : decode b_L_remove 17 = .ok (.iload_n 1, 1) := by decide +kernel
theorem d_L_remove_18 : decode b_L_remove 18 = .ok (.istore_n 3, 1) := by decide +kernel
theorem d_L_remove_19 : decode b_L_remove 19 = .ok (.iload_n 3, 1) := by decide +kernel
theorem d_L_remove_20 : decode b_L_remove 20 = .ok (.aload_n 0, 1) := by decide +kernel
theorem d_L_remove_21 : decode b_L_remove 21 = .ok (.getfield 17, 3) := by decide +kernel
theorem d_L_remove_24 : decode b_L_remove 24 = .ok (.if_icmp .ge 23, 3) := by decide +kernel
theorem d_L_remove_27 : decode b_L_remove 27 = .ok (.aload_n 0, 1) := by decide +kernel
theorem d_L_remove_28 : decode b_L_remove 28 = .ok (.getfield 11, 3) := by decide +kernel
theorem d_L_remove_31 : decode b_L_remove 31 = .ok (.iload_n 3, 1) := by decide +kernel
theorem d_L_remove_32 : decode b_L_remove 32 = .ok (.aload_n 0, 1) := by decide +kernel
theorem d_L_remove_33 : decode b_L_remove 33 = .ok (.getfield 11, 3) := by decide +kernel
theorem d_L_remove_36 : decode b_L_remove 36 = .ok (.iload_n 3, 1) := by decide +kernel
theorem d_L_remove_37 : decode b_L_remove 37 = .ok (.iconst 1, 1) := by decide +kernel
theorem d_L_remove_38 : decode b_L_remove 38 = .ok (.iadd, 1) := by decide +kernel
theorem d_L_remove_39 : decode b_L_remove 39 = .ok (.aaload, 1) := by decide +kernel
theorem d_L_remove_40 : decode b_L_remove 40 = .ok (.aastore, 1) := by decide +kernel
theorem d_L_remove_41 : decode b_L_remove 41 = .ok (.iinc 3 1, 3) := by decide +kernel
theorem d_L_remove_44 : decode b_L_remove 44 = .ok (.goto (-25), 3) := by decide +kernel
theorem d_L_remove_47 : decode b_L_remove 47 = .ok (.aload_n 2, 1) := by decide +kernel
theorem d_L_remove_48 : decode b_L_remove 48 = .ok (.areturn, 1) := by decide +kernel
