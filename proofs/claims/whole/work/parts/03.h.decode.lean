theorem d_N_leaveLink_26 : decode b_N_leaveLink 26 = .ok (.aload_n 0, 1) := by decide +kernel
theorem d_N_leaveLink_27 : decode b_N_leaveLink 27 = .ok (.iconst 0, 1) := by decide +kernel
theorem d_N_leaveLink_28 : decode b_N_leaveLink 28 = .ok (.putfield 53, 3) := by decide +kernel
theorem d_N_leaveLink_31 : decode b_N_leaveLink 31 = .ok (.return_, 1) := by decide +kernel
theorem d_O_init_0 : decode b_O_init 0 = .ok (.aload_n 0, 1) := by decide +kernel
theorem d_O_init_1 : decode b_O_init 1 = .ok (.invokespecial 3, 3) := by decide +kernel
theorem d_O_init_4 : decode b_O_init 4 = .ok (.aload_n 0, 1) := by decide +kernel
theorem d_O_init_5 : decode b_O_init 5 = .ok (.bipush 25, 2) := by decide +kernel
theorem d_O_init_7 : decode b_O_init 7 = .ok (.newarray .int, 2) := by decide +kernel
theorem d_O_init_9 : decode b_O_init 9 = .ok (.putfield 9, 3) := by decide +kernel
theorem d_O_init_12 : decode b_O_init 12 = .ok (.aload_n 0, 1) := by decide +kernel
theorem d_O_init_13 : decode b_O_init 13 = .ok (.bipush 25, 2) := by decide +kernel
theorem d_O_init_15 : decode b_O_init 15 = .ok (.newarray .int, 2) := by decide +kernel
theorem d_O_init_17 : decode b_O_init 17 = .ok (.putfield 15, 3) := by decide +kernel
theorem d_O_init_20 : decode b_O_init 20 = .ok (.aload_n 0, 1) := by decide +kernel
theorem d_O_init_21 : decode b_O_init 21 = .ok (.bipush 25, 2) := by decide +kernel
theorem d_O_init_23 : decode b_O_init 23 = .ok (.newarray .int, 2) := by decide +kernel
theorem d_O_init_25 : decode b_O_init 25 = .ok (.putfield 18, 3) := by decide +kernel
theorem d_O_init_28 : decode b_O_init 28 = .ok (.return_, 1) := by decide +kernel
theorem d_O_send_0 : decode b_O_send 0 = .ok (.aload_n 0, 1) := by decide +kernel
theorem d_O_send_1 : decode b_O_send 1 = .ok (.getfield 21, 3) := by decide +kernel
theorem d_O_send_4 : decode b_O_send 4 = .ok (.bipush 25, 2) := by decide +kernel
theorem d_O_send_6 : decode b_O_send 6 = .ok (.if_icmp .lt 4, 3) := by decide +kernel
theorem d_O_send_9 : decode b_O_send 9 = .ok (.return_, 1) := by decide +kernel
theorem d_O_send_10 : decode b_O_send 10 = .ok (.aload_n 0, 1) := by decide +kernel
theorem d_O_send_11 : decode b_O_send 11 = .ok (.getfield 25, 3) := by decide +kernel
theorem d_O_send_14 : decode b_O_send 14 = .ok (.aload_n 0, 1) := by decide +kernel
theorem d_O_send_15 : decode b_O_send 15 = .ok (.getfield 21, 3) := by decide +kernel
theorem d_O_send_18 : decode b_O_send 18 = .ok (.iadd, 1) := by decide +kernel
theorem d_O_send_19 : decode b_O_send 19 = .ok (.bipush 25, 2) := by decide +kernel
theorem d_O_send_21 : decode b_O_send 21 = .ok (.irem, 1) := by decide +kernel
theorem d_O_send_22 : decode b_O_send 22 = .ok (.istore 4, 2) := by decide +kernel
theorem d_O_send_24 : decode b_O_send 24 = .ok (.aload_n 0, 1) := by decide +kernel
theorem d_O_send_25 : decode b_O_send 25 = .ok (.getfield 9, 3) := by decide +kernel
theorem d_O_send_28 : decode b_O_send 28 = .ok (.iload 4, 2) := by decide +kernel
theorem d_O_send_30 : decode b_O_send 30 = .ok (.iload_n 1, 1) := by decide +kernel
theorem d_O_send_31 : decode b_O_send 31 = .ok (.iastore, 1) := by decide +kernel
theorem d_O_send_32 : decode b_O_send 32 = .ok (.aload_n 0, 1) := by decide +kernel
theorem d_O_send_33 : decode b_O_send 33 = .ok (.getfield 15, 3) := by decide +kernel
theorem d_O_send_36 : decode b_O_send 36 = .ok (.iload 4, 2) := by decide +kernel
theorem d_O_send_38 : decode b_O_send 38 = .ok (.iload_n 2, 1) := by decide +kernel
theorem d_O_send_39 : decode b_O_send 39 = .ok (.iastore, 1) := by decide +kernel
theorem d_O_send_40 : decode b_O_send 40 = .ok (.aload_n 0, 1) := by decide +kernel
theorem d_O_send_41 : decode b_O_send 41 = .ok (.getfield 18, 3) := by decide +kernel
theorem d_O_send_44 : decode b_O_send 44 = .ok (.iload 4, 2) := by decide +kernel
theorem d_O_send_46 : decode b_O_send 46 = .ok (.iload_n 3, 1) := by decide +kernel
theorem d_O_send_47 : decode b_O_send 47 = .ok (.iastore, 1) := by decide +kernel
theorem d_O_send_48 : decode b_O_send 48 = .ok (.aload_n 0, 1) := by decide +kernel
theorem d_O_send_49 : decode b_O_send 49 = .ok (.dup, 1) := by decide +kernel
theorem d_O_send_50 : decode b_O_send 50 = .ok (.getfield 21, 3) := by decide +kernel
theorem d_O_send_53 : decode b_O_send 53 = .ok (.iconst 1, 1) := by decide +kernel
theorem d_O_send_54 : decode b_O_send 54 = .ok (.iadd, 1) := by decide +kernel
theorem d_O_send_55 : decode b_O_send 55 = .ok (.putfield 21, 3) := by decide +kernel
theorem d_O_send_58 : decode b_O_send 58 = .ok (.return_, 1) := by decide +kernel
theorem d_O_kindOfFirst_0 : decode b_O_kindOfFirst 0 = .ok (.aload_n 0, 1) := by decide +kernel
theorem d_O_kindOfFirst_1 : decode b_O_kindOfFirst 1 = .ok (.getfield 9, 3) := by decide +kernel
theorem d_O_kindOfFirst_4 : decode b_O_kindOfFirst 4 = .ok (.aload_n 0, 1) := by decide +kernel
theorem d_O_kindOfFirst_5 : decode b_O_kindOfFirst 5 = .ok (.getfield 25, 3) := by decide +kernel
theorem d_O_kindOfFirst_8 : decode b_O_kindOfFirst 8 = .ok (.iaload, 1) := by decide +kernel
theorem d_O_kindOfFirst_9 : decode b_O_kindOfFirst 9 = .ok (.ireturn, 1) := by decide +kernel
theorem d_O_subjectOfFirst_0 : decode b_O_subjectOfFirst 0 = .ok (.aload_n 0, 1) := by decide +kernel
theorem d_O_subjectOfFirst_1 : decode b_O_subjectOfFirst 1 = .ok (.getfield 15, 3) := by decide +kernel
theorem d_O_subjectOfFirst_4 : decode b_O_subjectOfFirst 4 = .ok (.aload_n 0, 1) := by decide +kernel
theorem d_O_subjectOfFirst_5 : decode b_O_subjectOfFirst 5 = .ok (.getfield 25, 3) := by decide +kernel
theorem d_O_subjectOfFirst_8 : decode b_O_subjectOfFirst 8 = .ok (.iaload, 1) := by decide +kernel
theorem d_O_subjectOfFirst_9 : decode b_O_subjectOfFirst 9 = .ok (.ireturn, 1) := by decide +kernel
theorem d_O_valueOfFirst_0 : decode b_O_valueOfFirst 0 = .ok (.aload_n 0, 1) := by decide +kernel
theorem d_O_valueOfFirst_1 : decode b_O_valueOfFirst 1 = .ok (.getfield 18, 3) := by decide +kernel
theorem d_O_valueOfFirst_4 : decode b_O_valueOfFirst 4 = .ok (.aload_n 0, 1) := by decide +kernel
theorem d_O_valueOfFirst_5 : decode b_O_valueOfFirst 5 = .ok (.getfield 25, 3) := by decide +kernel
theorem d_O_valueOfFirst_8 : decode b_O_valueOfFirst 8 = .ok (.iaload, 1) := by decide +kernel
theorem d_O_valueOfFirst_9 : decode b_O_valueOfFirst 9 = .ok (.ireturn, 1) := by decide +kernel
theorem d_O_dropFirst_0 : decode b_O_dropFirst 0 = .ok (.aload_n 0, 1) := by decide +kernel
theorem d_O_dropFirst_1 : decode b_O_dropFirst 1 = .ok (.getfield 21, 3) := by decide +kernel
theorem d_O_dropFirst_4 : decode b_O_dropFirst 4 = .ok (.ifCond .le 26, 3) := by decide +kernel
theorem d_O_dropFirst_7 : decode b_O_dropFirst 7 = .ok (.aload_n 0, 1) := by decide +kernel
theorem d_O_dropFirst_8 : decode b_O_dropFirst 8 = .ok (.aload_n 0, 1) := by decide +kernel
theorem d_O_dropFirst_9 : decode b_O_dropFirst 9 = .ok (.getfield 25, 3) := by decide +kernel
theorem d_O_dropFirst_12 : decode b_O_dropFirst 12 = .ok (.iconst 1, 1) := by decide +kernel
theorem d_O_dropFirst_13 : decode b_O_dropFirst 13 = .ok (.iadd, 1) := by decide +kernel
theorem d_O_dropFirst_14 : decode b_O_dropFirst 14 = .ok (.bipush 25, 2) := by decide +kernel
theorem d_O_dropFirst_16 : decode b_O_dropFirst 16 = .ok (.irem, 1) := by decide +kernel
theorem d_O_dropFirst_17 : decode b_O_dropFirst 17 = .ok (.putfield 25, 3) := by decide +kernel
theorem d_O_dropFirst_20 : decode b_O_dropFirst 20 = .ok (.aload_n 0, 1) := by decide +kernel
theorem d_O_dropFirst_21 : decode b_O_dropFirst 21 = .ok (.dup, 1) := by decide +kernel
theorem d_O_dropFirst_22 : decode b_O_dropFirst 22 = .ok (.getfield 21, 3) := by decide +kernel
theorem d_O_dropFirst_25 : decode b_O_dropFirst 25 = .ok (.iconst 1, 1) := by decide +kernel
theorem d_O_dropFirst_26 : decode b_O_dropFirst 26 = .ok (.isub, 1) := by decide +kernel
theorem d_O_dropFirst_27 : decode b_O_dropFirst 27 = .ok (.putfield 21, 3) := by decide +kernel
theorem d_O_dropFirst_30 : decode b_O_dropFirst 30 = .ok (.return_, 1) := by decide +kernel
theorem d_L_init_0 : decode b_L_init 0 = .ok (.aload_n 0, 1) := by decide +kernel
theorem d_L_init_1 : decode b_L_init 1 = .ok (.invokespecial 3, 3) := by decide +kernel
theorem d_L_init_4 : decode b_L_init 4 = .ok (.aload_n 0, 1) := by decide +kernel
theorem d_L_init_5 : decode b_L_init 5 = .ok (.bipush 8, 2) := by decide +kernel
theorem d_L_init_7 : decode b_L_init 7 = .ok (.newarray .int, 2) := by decide +kernel
theorem d_L_init_9 : decode b_L_init 9 = .ok (.putfield 9, 3) := by decide +kernel
theorem d_L_init_12 : decode b_L_init 12 = .ok (.return_, 1) := by decide +kernel
theorem d_L_add_0 : decode b_L_add 0 = .ok (.aload_n 0, 1) := by decide +kernel
theorem d_L_add_1 : decode b_L_add 1 = .ok (.getfield 15, 3) := by decide +kernel
theorem d_L_add_4 : decode b_L_add 4 = .ok (.bipush 8, 2) := by decide +kernel
theorem d_L_add_6 : decode b_L_add 6 = .ok (.if_icmp .ge 23, 3) := by decide +kernel
theorem d_L_add_9 : decode b_L_add 9 = .ok (.aload_n 0, 1) := by decide +kernel
theorem d_L_add_10 : decode b_L_add 10 = .ok (.getfield 9, 3) := by decide +kernel
theorem d_L_add_13 : decode b_L_add 13 = .ok (.aload_n 0, 1) := by decide +kernel
theorem d_L_add_14 : decode b_L_add 14 = .ok (.getfield 15, 3) := by decide +kernel
theorem d_L_add_17 : decode b_L_add 17 = .ok (.iload_n 1, 1) := by decide +kernel
theorem d_L_add_18 : decode b_L_add 18 = .ok (.iastore, 1) := by decide +kernel
theorem d_L_add_19 : decode b_L_add 19 = .ok (.aload_n 0, 1) := by decide +kernel
theorem d_L_add_20 : decode b_L_add 20 = .ok (.dup, 1) := by decide +kernel
theorem d_L_add_21 : decode b_L_add 21 = .ok (.getfield 15, 3) := by decide +kernel
theorem d_L_add_24 : decode b_L_add 24 = .ok (.iconst 1, 1) := by decide +kernel
theorem d_L_add_25 : decode b_L_add 25 = .ok (.iadd, 1) := by decide +kernel
theorem d_L_add_26 : decode b_L_add 26 = .ok (.putfield 15, 3) := by decide +kernel
theorem d_L_add_29 : decode b_L_add 29 = .ok (.return_, 1) := by decide +kernel
theorem d_L_numberAt_0 : decode b_L_numberAt 0 = .ok (.iload_n 1, 1) := by decide +kernel
theorem d_L_numberAt_1 : decode b_L_numberAt 1 = .ok (.ifCond .lt 20, 3) := by decide +kernel
theorem d_L_numberAt_4 : decode b_L_numberAt 4 = .ok (.iload_n 1, 1) := by decide +kernel
theorem d_L_numberAt_5 : decode b_L_numberAt 5 = .ok (.aload_n 0, 1) := by decide +kernel
theorem d_L_numberAt_6 : decode b_L_numberAt 6 = .ok (.getfield 15, 3) := by decide +kernel
theorem d_L_numberAt_9 : decode b_L_numberAt 9 = .ok (.if_icmp .ge 12, 3) := by decide +kernel
theorem d_L_numberAt_12 : decode b_L_numberAt 12 = .ok (.aload_n 0, 1) := by decide +kernel
theorem d_L_numberAt_13 : decode b_L_numberAt 13 = .ok (.getfield 9, 3) := by decide +kernel
theorem d_L_numberAt_16 : decode b_L_numberAt 16 = .ok (.iload_n 1, 1) := by decide +kernel
theorem d_L_numberAt_17 : decode b_L_numberAt 17 = .ok (.iaload, 1) := by decide +kernel
theorem d_L_numberAt_18 : decode b_L_numberAt 18 = .ok (.goto 4, 3) := by decide +kernel
theorem d_L_numberAt_21 : decode b_L_numberAt 21 = .ok (.iconst 0, 1) := by decide +kernel
theorem d_L_numberAt_22 : decode b_L_numberAt 22 = .ok (.ireturn, 1) := by decide +kernel
theorem d_L_remove_0 : decode b_L_remove 0 = .ok (.iload_n 1, 1) := by decide +kernel
theorem d_L_remove_1 : decode b_L_remove 1 = .ok (.ifCond .lt 11, 3) := by decide +kernel
theorem d_L_remove_4 : decode b_L_remove 4 = .ok (.iload_n 1, 1) := by decide +kernel
theorem d_L_remove_5 : decode b_L_remove 5 = .ok (.aload_n 0, 1) := by decide +kernel
theorem d_L_remove_6 : decode b_L_remove 6 = .ok (.getfield 15, 3) := by decide +kernel
theorem d_L_remove_9 : decode b_L_remove 9 = .ok (.if_icmp .lt 4, 3) := by decide +kernel
theorem d_L_remove_12 : decode b_L_remove 12 = .ok (.return_, 1) := by decide +kernel
theorem d_L_remove_13 : decode b_L_remove 13 = .ok (.iload_n 1, 1) := by decide +kernel
theorem d_L_remove_14 : decode b_L_remove 14 = .ok (.istore_n 2, 1) := by decide +kernel
theorem d_L_remove_15 : decode b_L_remove 15 = .ok (.iload_n 2, 1) := by decide +kernel
theorem d_L_remove_16 : decode b_L_remove 16 = .ok (.aload_n 0, 1) := by decide +kernel
theorem d_L_remove_17 : decode b_L_remove 17 = .ok (.getfield 15, 3) := by decide +kernel
theorem d_L_remove_20 : decode b_L_remove 20 = .ok (.iconst 1, 1) := by decide +kernel
theorem d_L_remove_21 : decode b_L_remove 21 = .ok (.isub, 1) := by decide +kernel
theorem d_L_remove_22 : decode b_L_remove 22 = .ok (.if_icmp .ge 23, 3) := by decide +kernel
theorem d_L_remove_25 : decode b_L_remove 25 = .ok (.aload_n 0, 1) := by decide +kernel
theorem d_L_remove_26 : decode b_L_remove 26 = .ok (.getfield 9, 3) := by decide +kernel
theorem d_L_remove_29 : decode b_L_remove 29 = .ok (.iload_n 2, 1) := by decide +kernel
theorem d_L_remove_30 : decode b_L_remove 30 = .ok (.aload_n 0, 1) := by decide +kernel
theorem d_L_remove_31 : decode b_L_remove 31 = .ok (.getfield 9, 3) := by decide +kernel
theorem d_L_remove_34 : decode b_L_remove 34 = .ok (.iload_n 2, 1) := by decide +kernel
theorem d_L_remove_35 : decode b_L_remove 35 = .ok (.iconst 1, 1) := by decide +kernel
theorem d_L_remove_36 : decode b_L_remove 36 = .ok (.iadd, 1) := by decide +kernel
theorem d_L_remove_37 : decode b_L_remove 37 = .ok (.iaload, 1) := by decide +kernel
theorem d_L_remove_38 : decode b_L_remove 38 = .ok (.iastore, 1) := by decide +kernel
theorem d_L_remove_39 : decode b_L_remove 39 = .ok (.iinc 2 1, 3) := by decide +kernel
theorem d_L_remove_42 : decode b_L_remove 42 = .ok (.goto (-27), 3) := by decide +kernel
theorem d_L_remove_45 : decode b_L_remove 45 = .ok (.aload_n 0, 1) := by decide +kernel
theorem d_L_remove_46 : decode b_L_remove 46 = .ok (.dup, 1) := by decide +kernel
theorem d_L_remove_47 : decode b_L_remove 47 = .ok (.getfield 15, 3) := by decide +kernel
theorem d_L_remove_50 : decode b_L_remove 50 = .ok (.iconst 1, 1) := by decide +kernel
theorem d_L_remove_51 : decode b_L_remove 51 = .ok (.isub, 1) := by decide +kernel
theorem d_L_remove_52 : decode b_L_remove 52 = .ok (.putfield 15, 3) := by decide +kernel
theorem d_L_remove_55 : decode b_L_remove 55 = .ok (.return_, 1) := by decide +kernel
theorem d_T_init_0 : decode b_T_init 0 = .ok (.aload_n 0, 1) := by decide +kernel
theorem d_T_init_1 : decode b_T_init 1 = .ok (.invokespecial 3, 3) := by decide +kernel
theorem d_T_init_4 : decode b_T_init 4 = .ok (.aload_n 0, 1) := by decide +kernel
theorem d_T_init_5 : decode b_T_init 5 = .ok (.sipush 301, 3) := by decide +kernel
theorem d_T_init_8 : decode b_T_init 8 = .ok (.newarray .int, 2) := by decide +kernel
theorem d_T_init_10 : decode b_T_init 10 = .ok (.putfield 9, 3) := by decide +kernel
theorem d_T_init_13 : decode b_T_init 13 = .ok (.aload_n 0, 1) := by decide +kernel
theorem d_T_init_14 : decode b_T_init 14 = .ok (.sipush 301, 3) := by decide +kernel
theorem d_T_init_17 : decode b_T_init 17 = .ok (.newarray .int, 2) := by decide +kernel
theorem d_T_init_19 : decode b_T_init 19 = .ok (.putfield 15, 3) := by decide +kernel
theorem d_T_init_22 : decode b_T_init 22 = .ok (.aload_n 0, 1) := by decide +kernel
theorem d_T_init_23 : decode b_T_init 23 = .ok (.sipush 301, 3) := by decide +kernel
theorem d_T_init_26 : decode b_T_init 26 = .ok (.newarray .int, 2) := by decide +kernel
theorem d_T_init_28 : decode b_T_init 28 = .ok (.putfield 18, 3) := by decide +kernel
theorem d_T_init_31 : decode b_T_init 31 = .ok (.aload_n 0, 1) := by decide +kernel
theorem d_T_init_32 : decode b_T_init 32 = .ok (.sipush 301, 3) := by decide +kernel
theorem d_T_init_35 : decode b_T_init 35 = .ok (.newarray .int, 2) := by decide +kernel
theorem d_T_init_37 : decode b_T_init 37 = .ok (.putfield 21, 3) := by decide +kernel
theorem d_T_init_40 : decode b_T_init 40 = .ok (.aload_n 0, 1) := by decide +kernel
theorem d_T_init_41 : decode b_T_init 41 = .ok (.sipush 301, 3) := by decide +kernel
theorem d_T_init_44 : decode b_T_init 44 = .ok (.newarray .int, 2) := by decide +kernel
theorem d_T_init_46 : decode b_T_init 46 = .ok (.putfield 24, 3) := by decide +kernel
theorem d_T_init_49 : decode b_T_init 49 = .ok (.return_, 1) := by decide +kernel
theorem d_T_isFull_0 : decode b_T_isFull 0 = .ok (.aload_n 0, 1) := by decide +kernel
theorem d_T_isFull_1 : decode b_T_isFull 1 = .ok (.getfield 27, 3) := by decide +kernel
theorem d_T_isFull_4 : decode b_T_isFull 4 = .ok (.sipush 300, 3) := by decide +kernel
theorem d_T_isFull_7 : decode b_T_isFull 7 = .ok (.if_icmp .lt 7, 3) := by decide +kernel
theorem d_T_isFull_10 : decode b_T_isFull 10 = .ok (.iconst 1, 1) := by decide +kernel
theorem d_T_isFull_11 : decode b_T_isFull 11 = .ok (.goto 4, 3) := by decide +kernel
theorem d_T_isFull_14 : decode b_T_isFull 14 = .ok (.iconst 0, 1) := by decide +kernel
theorem d_T_isFull_15 : decode b_T_isFull 15 = .ok (.ireturn, 1) := by decide +kernel
theorem d_T_has_0 : decode b_T_has 0 = .ok (.iload_n 1, 1) := by decide +kernel
theorem d_T_has_1 : decode b_T_has 1 = .ok (.iconst 1, 1) := by decide +kernel
theorem d_T_has_2 : decode b_T_has 2 = .ok (.if_icmp .lt 15, 3) := by decide +kernel
theorem d_T_has_5 : decode b_T_has 5 = .ok (.iload_n 1, 1) := by decide +kernel
theorem d_T_has_6 : decode b_T_has 6 = .ok (.aload_n 0, 1) := by decide +kernel
theorem d_T_has_7 : decode b_T_has 7 = .ok (.getfield 27, 3) := by decide +kernel
theorem d_T_has_10 : decode b_T_has 10 = .ok (.if_icmp .gt 7, 3) := by decide +kernel
theorem d_T_has_13 : decode b_T_has 13 = .ok (.iconst 1, 1) := by decide +kernel
theorem d_T_has_14 : decode b_T_has 14 = .ok (.goto 4, 3) := by decide +kernel
theorem d_T_has_17 : decode b_T_has 17 = .ok (.iconst 0, 1) := by decide +kernel
theorem d_T_has_18 : decode b_T_has 18 = .ok (.ireturn, 1) := by decide +kernel
theorem d_T_accept_0 : decode b_T_accept 0 = .ok (.aload_n 0, 1) := by decide +kernel
theorem d_T_accept_1 : decode b_T_accept 1 = .ok (.invokevirtual 31, 3) := by decide +kernel
theorem d_T_accept_4 : decode b_T_accept 4 = .ok (.ifCond .eq 5, 3) := by decide +kernel
theorem d_T_accept_7 : decode b_T_accept 7 = .ok (.iconst 0, 1) := by decide +kernel
theorem d_T_accept_8 : decode b_T_accept 8 = .ok (.ireturn, 1) := by decide +kernel
theorem d_T_accept_9 : decode b_T_accept 9 = .ok (.aload_n 0, 1) := by decide +kernel
theorem d_T_accept_10 : decode b_T_accept 10 = .ok (.dup, 1) := by decide +kernel
theorem d_T_accept_11 : decode b_T_accept 11 = .ok (.getfield 27, 3) := by decide +kernel
theorem d_T_accept_14 : decode b_T_accept 14 = .ok (.iconst 1, 1) := by decide +kernel
theorem d_T_accept_15 : decode b_T_accept 15 = .ok (.iadd, 1) := by decide +kernel
theorem d_T_accept_16 : decode b_T_accept 16 = .ok (.putfield 27, 3) := by decide +kernel
theorem d_T_accept_19 : decode b_T_accept 19 = .ok (.aload_n 0, 1) := by decide +kernel
theorem d_T_accept_20 : decode b_T_accept 20 = .ok (.getfield 9, 3) := by decide +kernel
theorem d_T_accept_23 : decode b_T_accept 23 = .ok (.aload_n 0, 1) := by decide +kernel
theorem d_T_accept_24 : decode b_T_accept 24 = .ok (.getfield 27, 3) := by decide +kernel
theorem d_T_accept_27 : decode b_T_accept 27 = .ok (.iload_n 1, 1) := by decide +kernel
theorem d_T_accept_28 : decode b_T_accept 28 = .ok (.iastore, 1) := by decide +kernel
theorem d_T_accept_29 : decode b_T_accept 29 = .ok (.aload_n 0, 1) := by decide +kernel
theorem d_T_accept_30 : decode b_T_accept 30 = .ok (.getfield 15, 3) := by decide +kernel
theorem d_T_accept_33 : decode b_T_accept 33 = .ok (.aload_n 0, 1) := by decide +kernel
theorem d_T_accept_34 : decode b_T_accept 34 = .ok (.getfield 27, 3) := by decide +kernel
theorem d_T_accept_37 : decode b_T_accept 37 = .ok (.iload_n 2, 1) := by decide +kernel
theorem d_T_accept_38 : decode b_T_accept 38 = .ok (.iastore, 1) := by decide +kernel
theorem d_T_accept_39 : decode b_T_accept 39 = .ok (.aload_n 0, 1) := by decide +kernel
theorem d_T_accept_40 : decode b_T_accept 40 = .ok (.getfield 18, 3) := by decide +kernel
theorem d_T_accept_43 : decode b_T_accept 43 = .ok (.aload_n 0, 1) := by decide +kernel
theorem d_T_accept_44 : decode b_T_accept 44 = .ok (.getfield 27, 3) := by decide +kernel
theorem d_T_accept_47 : decode b_T_accept 47 = .ok (.iload_n 3, 1) := by decide +kernel
theorem d_T_accept_48 : decode b_T_accept 48 = .ok (.iastore, 1) := by decide +kernel
theorem d_T_accept_49 : decode b_T_accept 49 = .ok (.aload_n 0, 1) := by decide +kernel
theorem d_T_accept_50 : decode b_T_accept 50 = .ok (.getfield 21, 3) := by decide +kernel
theorem d_T_accept_53 : decode b_T_accept 53 = .ok (.aload_n 0, 1) := by decide +kernel
theorem d_T_accept_54 : decode b_T_accept 54 = .ok (.getfield 27, 3) := by decide +kernel
theorem d_T_accept_57 : decode b_T_accept 57 = .ok (.iload 4, 2) := by decide +kernel
theorem d_T_accept_59 : decode b_T_accept 59 = .ok (.iastore, 1) := by decide +kernel
theorem d_T_accept_60 : decode b_T_accept 60 = .ok (.aload_n 0, 1) := by decide +kernel
theorem d_T_accept_61 : decode b_T_accept 61 = .ok (.getfield 24, 3) := by decide +kernel
theorem d_T_accept_64 : decode b_T_accept 64 = .ok (.aload_n 0, 1) := by decide +kernel
theorem d_T_accept_65 : decode b_T_accept 65 = .ok (.getfield 27, 3) := by decide +kernel
theorem d_T_accept_68 : decode b_T_accept 68 = .ok (.iconst 1, 1) := by decide +kernel
theorem d_T_accept_69 : decode b_T_accept 69 = .ok (.iastore, 1) := by decide +kernel
theorem d_T_accept_70 : decode b_T_accept 70 = .ok (.aload_n 0, 1) := by decide +kernel
theorem d_T_accept_71 : decode b_T_accept 71 = .ok (.getfield 27, 3) := by decide +kernel
theorem d_T_accept_74 : decode b_T_accept 74 = .ok (.ireturn, 1) := by decide +kernel
theorem d_T_countPending_0 : decode b_T_countPending 0 = .ok (.iconst 0, 1) := by decide +kernel
theorem d_T_countPending_1 : decode b_T_countPending 1 = .ok (.istore_n 2, 1) := by decide +kernel
theorem d_T_countPending_2 : decode b_T_countPending 2 = .ok (.iconst 1, 1) := by decide +kernel
theorem d_T_countPending_3 : decode b_T_countPending 3 = .ok (.istore_n 3, 1) := by decide +kernel
theorem d_T_countPending_4 : decode b_T_countPending 4 = .ok (.iload_n 3, 1) := by decide +kernel
theorem d_T_countPending_5 : decode b_T_countPending 5 = .ok (.aload_n 0, 1) := by decide +kernel
theorem d_T_countPending_6 : decode b_T_countPending 6 = .ok (.getfield 27, 3) := by decide +kernel
theorem d_T_countPending_9 : decode b_T_countPending 9 = .ok (.if_icmp .gt 21, 3) := by decide +kernel
theorem d_T_countPending_12 : decode b_T_countPending 12 = .ok (.aload_n 0, 1) := by decide +kernel
theorem d_T_countPending_13 : decode b_T_countPending 13 = .ok (.iload_n 1, 1) := by decide +kernel
theorem d_T_countPending_14 : decode b_T_countPending 14 = .ok (.iload_n 3, 1) := by decide +kernel
theorem d_T_countPending_15 : decode b_T_countPending 15 = .ok (.invokevirtual 35, 3) := by decide +kernel
theorem d_T_countPending_18 : decode b_T_countPending 18 = .ok (.ifCond .eq 6, 3) := by decide +kernel
theorem d_T_countPending_21 : decode b_T_countPending 21 = .ok (.iinc 2 1, 3) := by decide +kernel
theorem d_T_countPending_24 : decode b_T_countPending 24 = .ok (.iinc 3 1, 3) := by decide +kernel
theorem d_T_countPending_27 : decode b_T_countPending 27 = .ok (.goto (-23), 3) := by decide +kernel
theorem d_T_countPending_30 : decode b_T_countPending 30 = .ok (.iload_n 2, 1) := by decide +kernel
theorem d_T_countPending_31 : decode b_T_countPending 31 = .ok (.ireturn, 1) := by decide +kernel
theorem d_T_pendingBlocks_0 : decode b_T_pendingBlocks 0 = .ok (.iconst 0, 1) := by decide +kernel
theorem d_T_pendingBlocks_1 : decode b_T_pendingBlocks 1 = .ok (.istore_n 2, 1) := by decide +kernel
theorem d_T_pendingBlocks_2 : decode b_T_pendingBlocks 2 = .ok (.iconst 1, 1) := by decide +kernel
theorem d_T_pendingBlocks_3 : decode b_T_pendingBlocks 3 = .ok (.istore_n 3, 1) := by decide +kernel
theorem d_T_pendingBlocks_4 : decode b_T_pendingBlocks 4 = .ok (.iload_n 3, 1) := by decide +kernel
theorem d_T_pendingBlocks_5 : decode b_T_pendingBlocks 5 = .ok (.aload_n 0, 1) := by decide +kernel
theorem d_T_pendingBlocks_6 : decode b_T_pendingBlocks 6 = .ok (.getfield 27, 3) := by decide +kernel
theorem d_T_pendingBlocks_9 : decode b_T_pendingBlocks 9 = .ok (.if_icmp .gt 29, 3) := by decide +kernel
theorem d_T_pendingBlocks_12 : decode b_T_pendingBlocks 12 = .ok (.aload_n 0, 1) := by decide +kernel
theorem d_T_pendingBlocks_13 : decode b_T_pendingBlocks 13 = .ok (.iload_n 1, 1) := by decide +kernel
theorem d_T_pendingBlocks_14 : decode b_T_pendingBlocks 14 = .ok (.iload_n 3, 1) := by decide +kernel
theorem d_T_pendingBlocks_15 : decode b_T_pendingBlocks 15 = .ok (.invokevirtual 35, 3) := by decide +kernel
theorem d_T_pendingBlocks_18 : decode b_T_pendingBlocks 18 = .ok (.ifCond .eq 14, 3) := by decide +kernel
theorem d_T_pendingBlocks_21 : decode b_T_pendingBlocks 21 = .ok (.iload_n 2, 1) := by decide +kernel
theorem d_T_pendingBlocks_22 : decode b_T_pendingBlocks 22 = .ok (.iconst 1, 1) := by decide +kernel
theorem d_T_pendingBlocks_23 : decode b_T_pendingBlocks 23 = .ok (.aload_n 0, 1) := by decide +kernel
theorem d_T_pendingBlocks_24 : decode b_T_pendingBlocks 24 = .ok (.getfield 15, 3) := by decide +kernel
theorem d_T_pendingBlocks_27 : decode b_T_pendingBlocks 27 = .ok (.iload_n 3, 1) := by decide +kernel
theorem d_T_pendingBlocks_28 : decode b_T_pendingBlocks 28 = .ok (.iaload, 1) := by decide +kernel
theorem d_T_pendingBlocks_29 : decode b_T_pendingBlocks 29 = .ok (.ishl, 1) := by decide +kernel
theorem d_T_pendingBlocks_30 : decode b_T_pendingBlocks 30 = .ok (.ior, 1) := by decide +kernel
theorem d_T_pendingBlocks_31 : decode b_T_pendingBlocks 31 = .ok (.istore_n 2, 1) := by decide +kernel
theorem d_T_pendingBlocks_32 : decode b_T_pendingBlocks 32 = .ok (.iinc 3 1, 3) := by decide +kernel
theorem d_T_pendingBlocks_35 : decode b_T_pendingBlocks 35 = .ok (.goto (-31), 3) := by decide +kernel
theorem d_T_pendingBlocks_38 : decode b_T_pendingBlocks 38 = .ok (.iload_n 2, 1) := by decide +kernel
theorem d_T_pendingBlocks_39 : decode b_T_pendingBlocks 39 = .ok (.ireturn, 1) := by decide +kernel
theorem d_T_changeFates_0 : decode b_T_changeFates 0 = .ok (.iconst 1, 1) := by decide +kernel
theorem d_T_changeFates_1 : decode b_T_changeFates 1 = .ok (.istore 4, 2) := by decide +kernel
theorem d_T_changeFates_3 : decode b_T_changeFates 3 = .ok (.iload 4, 2) := by decide +kernel
theorem d_T_changeFates_5 : decode b_T_changeFates 5 = .ok (.aload_n 0, 1) := by decide +kernel
theorem d_T_changeFates_6 : decode b_T_changeFates 6 = .ok (.getfield 27, 3) := by decide +kernel
theorem d_T_changeFates_9 : decode b_T_changeFates 9 = .ok (.if_icmp .gt 39, 3) := by decide +kernel
theorem d_T_changeFates_12 : decode b_T_changeFates 12 = .ok (.aload_n 0, 1) := by decide +kernel
theorem d_T_changeFates_13 : decode b_T_changeFates 13 = .ok (.getfield 9, 3) := by decide +kernel
theorem d_T_changeFates_16 : decode b_T_changeFates 16 = .ok (.iload 4, 2) := by decide +kernel
theorem d_T_changeFates_18 : decode b_T_changeFates 18 = .ok (.iaload, 1) := by decide +kernel
theorem d_T_changeFates_19 : decode b_T_changeFates 19 = .ok (.iload_n 1, 1) := by decide +kernel
theorem d_T_changeFates_20 : decode b_T_changeFates 20 = .ok (.if_icmp .ne 22, 3) := by decide +kernel
theorem d_T_changeFates_23 : decode b_T_changeFates 23 = .ok (.aload_n 0, 1) := by decide +kernel
theorem d_T_changeFates_24 : decode b_T_changeFates 24 = .ok (.getfield 24, 3) := by decide +kernel
theorem d_T_changeFates_27 : decode b_T_changeFates 27 = .ok (.iload 4, 2) := by decide +kernel
theorem d_T_changeFates_29 : decode b_T_changeFates 29 = .ok (.iaload, 1) := by decide +kernel
theorem d_T_changeFates_30 : decode b_T_changeFates 30 = .ok (.iload_n 2, 1) := by decide +kernel
theorem d_T_changeFates_31 : decode b_T_changeFates 31 = .ok (.if_icmp .ne 11, 3) := by decide +kernel
theorem d_T_changeFates_34 : decode b_T_changeFates 34 = .ok (.aload_n 0, 1) := by decide +kernel
theorem d_T_changeFates_35 : decode b_T_changeFates 35 = .ok (.getfield 24, 3) := by decide +kernel
theorem d_T_changeFates_38 : decode b_T_changeFates 38 = .ok (.iload 4, 2) := by decide +kernel
theorem d_T_changeFates_40 : decode b_T_changeFates 40 = .ok (.iload_n 3, 1) := by decide +kernel
theorem d_T_changeFates_41 : decode b_T_changeFates 41 = .ok (.iastore, 1) := by decide +kernel
theorem d_T_changeFates_42 : decode b_T_changeFates 42 = .ok (.iinc 4 1, 3) := by decide +kernel
theorem d_T_changeFates_45 : decode b_T_changeFates 45 = .ok (.goto (-42), 3) := by decide +kernel
theorem d_T_changeFates_48 : decode b_T_changeFates 48 = .ok (.return_, 1) := by decide +kernel
theorem d_T_isPendingOf_0 : decode b_T_isPendingOf 0 = .ok (.aload_n 0, 1) := by decide +kernel
theorem d_T_isPendingOf_1 : decode b_T_isPendingOf 1 = .ok (.getfield 9, 3) := by decide +kernel
theorem d_T_isPendingOf_4 : decode b_T_isPendingOf 4 = .ok (.iload_n 2, 1) := by decide +kernel
theorem d_T_isPendingOf_5 : decode b_T_isPendingOf 5 = .ok (.iaload, 1) := by decide +kernel
theorem d_T_isPendingOf_6 : decode b_T_isPendingOf 6 = .ok (.iload_n 1, 1) := by decide +kernel
theorem d_T_isPendingOf_7 : decode b_T_isPendingOf 7 = .ok (.if_icmp .ne 17, 3) := by decide +kernel
theorem d_T_isPendingOf_10 : decode b_T_isPendingOf 10 = .ok (.aload_n 0, 1) := by decide +kernel
theorem d_T_isPendingOf_11 : decode b_T_isPendingOf 11 = .ok (.getfield 24, 3) := by decide +kernel
theorem d_T_isPendingOf_14 : decode b_T_isPendingOf 14 = .ok (.iload_n 2, 1) := by decide +kernel
theorem d_T_isPendingOf_15 : decode b_T_isPendingOf 15 = .ok (.iaload, 1) := by decide +kernel
theorem d_T_isPendingOf_16 : decode b_T_isPendingOf 16 = .ok (.iconst 1, 1) := by decide +kernel
theorem d_T_isPendingOf_17 : decode b_T_isPendingOf 17 = .ok (.if_icmp .ne 7, 3) := by decide +kernel
theorem d_T_isPendingOf_20 : decode b_T_isPendingOf 20 = .ok (.iconst 1, 1) := by decide +kernel
theorem d_T_isPendingOf_21 : decode b_T_isPendingOf 21 = .ok (.goto 4, 3) := by decide +kernel
theorem d_T_isPendingOf_24 : decode b_T_isPendingOf 24 = .ok (.iconst 0, 1) := by decide +kernel
theorem d_T_isPendingOf_25 : decode b_T_isPendingOf 25 = .ok (.ireturn, 1) := by decide +kernel
theorem d_W_law_0 : decode b_W_law 0 = .ok (.new 7, 3) := by decide +kernel
theorem d_W_law_3 : decode b_W_law 3 = .ok (.dup, 1) := by decide +kernel
theorem d_W_law_4 : decode b_W_law 4 = .ok (.invokespecial 9, 3) := by decide +kernel
theorem d_W_law_7 : decode b_W_law 7 = .ok (.astore_n 1, 1) := by decide +kernel
theorem d_W_law_8 : decode b_W_law 8 = .ok (.new 10, 3) := by decide +kernel
theorem d_W_law_11 : decode b_W_law 11 = .ok (.dup, 1) := by decide +kernel
theorem d_W_law_12 : decode b_W_law 12 = .ok (.invokespecial 12, 3) := by decide +kernel
theorem d_W_law_15 : decode b_W_law 15 = .ok (.astore_n 2, 1) := by decide +kernel
theorem d_W_law_16 : decode b_W_law 16 = .ok (.iconst 0, 1) := by decide +kernel
theorem d_W_law_17 : decode b_W_law 17 = .ok (.istore_n 3, 1) := by decide +kernel
theorem d_W_law_18 : decode b_W_law 18 = .ok (.iload_n 3, 1) := by decide +kernel
theorem d_W_law_19 : decode b_W_law 19 = .ok (.aload_n 0, 1) := by decide +kernel
theorem d_W_law_20 : decode b_W_law 20 = .ok (.arraylength, 1) := by decide +kernel
theorem d_W_law_21 : decode b_W_law 21 = .ok (.iconst 4, 1) := by decide +kernel
theorem d_W_law_22 : decode b_W_law 22 = .ok (.isub, 1) := by decide +kernel
theorem d_W_law_23 : decode b_W_law 23 = .ok (.if_icmp .gt 575, 3) := by decide +kernel
theorem d_W_law_26 : decode b_W_law 26 = .ok (.aload_n 0, 1) := by decide +kernel
theorem d_W_law_27 : decode b_W_law 27 = .ok (.iload_n 3, 1) := by decide +kernel
theorem d_W_law_28 : decode b_W_law 28 = .ok (.iaload, 1) := by decide +kernel
theorem d_W_law_29 : decode b_W_law 29 = .ok (.bipush 31, 2) := by decide +kernel
theorem d_W_law_31 : decode b_W_law 31 = .ok (.iand, 1) := by decide +kernel
theorem d_W_law_32 : decode b_W_law 32 = .ok (.tableswitch 560 0 18 #[92, 135, 158, 181, 214, 237, 250, 263, 286, 309, 332, 355, 378, 411, 434, 457, 481, 504, 537], 92) := by decide +kernel
theorem d_W_law_124 : decode b_W_law 124 = .ok (.aload_n 1, 1) := by decide +kernel
theorem d_W_law_125 : decode b_W_law 125 = .ok (.aload_n 0, 1) := by decide +kernel
theorem d_W_law_126 : decode b_W_law 126 = .ok (.iload_n 3, 1) := by decide +kernel
theorem d_W_law_127 : decode b_W_law 127 = .ok (.iconst 1, 1) := by decide +kernel
theorem d_W_law_128 : decode b_W_law 128 = .ok (.iadd, 1) := by decide +kernel
theorem d_W_law_129 : decode b_W_law 129 = .ok (.iaload, 1) := by decide +kernel
theorem d_W_law_130 : decode b_W_law 130 = .ok (.aload_n 0, 1) := by decide +kernel
theorem d_W_law_131 : decode b_W_law 131 = .ok (.iload_n 3, 1) := by decide +kernel
theorem d_W_law_132 : decode b_W_law 132 = .ok (.iconst 2, 1) := by decide +kernel
theorem d_W_law_133 : decode b_W_law 133 = .ok (.iadd, 1) := by decide +kernel
theorem d_W_law_134 : decode b_W_law 134 = .ok (.iaload, 1) := by decide +kernel
theorem d_W_law_135 : decode b_W_law 135 = .ok (.aload_n 0, 1) := by decide +kernel
theorem d_W_law_136 : decode b_W_law 136 = .ok (.iload_n 3, 1) := by decide +kernel
theorem d_W_law_137 : decode b_W_law 137 = .ok (.iconst 3, 1) := by decide +kernel
theorem d_W_law_138 : decode b_W_law 138 = .ok (.iadd, 1) := by decide +kernel
theorem d_W_law_139 : decode b_W_law 139 = .ok (.iaload, 1) := by decide +kernel
theorem d_W_law_140 : decode b_W_law 140 = .ok (.invokevirtual 13, 3) := by decide +kernel
theorem d_W_law_143 : decode b_W_law 143 = .ok (.aload_n 2, 1) := by decide +kernel
theorem d_W_law_144 : decode b_W_law 144 = .ok (.aload_n 0, 1) := by decide +kernel
theorem d_W_law_145 : decode b_W_law 145 = .ok (.iload_n 3, 1) := by decide +kernel
theorem d_W_law_146 : decode b_W_law 146 = .ok (.iconst 1, 1) := by decide +kernel
theorem d_W_law_147 : decode b_W_law 147 = .ok (.iadd, 1) := by decide +kernel
theorem d_W_law_148 : decode b_W_law 148 = .ok (.iaload, 1) := by decide +kernel
theorem d_W_law_149 : decode b_W_law 149 = .ok (.aload_n 0, 1) := by decide +kernel
theorem d_W_law_150 : decode b_W_law 150 = .ok (.iload_n 3, 1) := by decide +kernel
theorem d_W_law_151 : decode b_W_law 151 = .ok (.iconst 2, 1) := by decide +kernel
theorem d_W_law_152 : decode b_W_law 152 = .ok (.iadd, 1) := by decide +kernel
theorem d_W_law_153 : decode b_W_law 153 = .ok (.iaload, 1) := by decide +kernel
theorem d_W_law_154 : decode b_W_law 154 = .ok (.aload_n 0, 1) := by decide +kernel
theorem d_W_law_155 : decode b_W_law 155 = .ok (.iload_n 3, 1) := by decide +kernel
theorem d_W_law_156 : decode b_W_law 156 = .ok (.iconst 3, 1) := by decide +kernel
theorem d_W_law_157 : decode b_W_law 157 = .ok (.iadd, 1) := by decide +kernel
theorem d_W_law_158 : decode b_W_law 158 = .ok (.iaload, 1) := by decide +kernel
theorem d_W_law_159 : decode b_W_law 159 = .ok (.invokevirtual 17, 3) := by decide +kernel
theorem d_W_law_162 : decode b_W_law 162 = .ok (.if_icmp .eq 430, 3) := by decide +kernel
theorem d_W_law_165 : decode b_W_law 165 = .ok (.iconst 0, 1) := by decide +kernel
theorem d_W_law_166 : decode b_W_law 166 = .ok (.ireturn, 1) := by decide +kernel
theorem d_W_law_167 : decode b_W_law 167 = .ok (.aload_n 1, 1) := by decide +kernel
theorem d_W_law_168 : decode b_W_law 168 = .ok (.aload_n 0, 1) := by decide +kernel
theorem d_W_law_169 : decode b_W_law 169 = .ok (.iload_n 3, 1) := by decide +kernel
theorem d_W_law_170 : decode b_W_law 170 = .ok (.iconst 1, 1) := by decide +kernel
theorem d_W_law_171 : decode b_W_law 171 = .ok (.iadd, 1) := by decide +kernel
theorem d_W_law_172 : decode b_W_law 172 = .ok (.iaload, 1) := by decide +kernel
theorem d_W_law_173 : decode b_W_law 173 = .ok (.invokevirtual 18, 3) := by decide +kernel
theorem d_W_law_176 : decode b_W_law 176 = .ok (.aload_n 2, 1) := by decide +kernel
theorem d_W_law_177 : decode b_W_law 177 = .ok (.aload_n 0, 1) := by decide +kernel
theorem d_W_law_178 : decode b_W_law 178 = .ok (.iload_n 3, 1) := by decide +kernel
theorem d_W_law_179 : decode b_W_law 179 = .ok (.iconst 1, 1) := by decide +kernel
theorem d_W_law_180 : decode b_W_law 180 = .ok (.iadd, 1) := by decide +kernel
theorem d_W_law_181 : decode b_W_law 181 = .ok (.iaload, 1) := by decide +kernel
theorem d_W_law_182 : decode b_W_law 182 = .ok (.invokevirtual 22, 3) := by decide +kernel
theorem d_W_law_185 : decode b_W_law 185 = .ok (.if_icmp .eq 407, 3) := by decide +kernel
theorem d_W_law_188 : decode b_W_law 188 = .ok (.iconst 0, 1) := by decide +kernel
theorem d_W_law_189 : decode b_W_law 189 = .ok (.ireturn, 1) := by decide +kernel
theorem d_W_law_190 : decode b_W_law 190 = .ok (.aload_n 1, 1) := by decide +kernel
theorem d_W_law_191 : decode b_W_law 191 = .ok (.aload_n 0, 1) := by decide +kernel
theorem d_W_law_192 : decode b_W_law 192 = .ok (.iload_n 3, 1) := by decide +kernel
theorem d_W_law_193 : decode b_W_law 193 = .ok (.iconst 1, 1) := by decide +kernel
theorem d_W_law_194 : decode b_W_law 194 = .ok (.iadd, 1) := by decide +kernel
theorem d_W_law_195 : decode b_W_law 195 = .ok (.iaload, 1) := by decide +kernel
theorem d_W_law_196 : decode b_W_law 196 = .ok (.invokevirtual 23, 3) := by decide +kernel
theorem d_W_law_199 : decode b_W_law 199 = .ok (.aload_n 2, 1) := by decide +kernel
theorem d_W_law_200 : decode b_W_law 200 = .ok (.aload_n 0, 1) := by decide +kernel
theorem d_W_law_201 : decode b_W_law 201 = .ok (.iload_n 3, 1) := by decide +kernel
theorem d_W_law_202 : decode b_W_law 202 = .ok (.iconst 1, 1) := by decide +kernel
theorem d_W_law_203 : decode b_W_law 203 = .ok (.iadd, 1) := by decide +kernel
theorem d_W_law_204 : decode b_W_law 204 = .ok (.iaload, 1) := by decide +kernel
theorem d_W_law_205 : decode b_W_law 205 = .ok (.invokevirtual 27, 3) := by decide +kernel
theorem d_W_law_208 : decode b_W_law 208 = .ok (.if_icmp .eq 384, 3) := by decide +kernel
theorem d_W_law_211 : decode b_W_law 211 = .ok (.iconst 0, 1) := by decide +kernel
theorem d_W_law_212 : decode b_W_law 212 = .ok (.ireturn, 1) := by decide +kernel
theorem d_W_law_213 : decode b_W_law 213 = .ok (.aload_n 1, 1) := by decide +kernel
theorem d_W_law_214 : decode b_W_law 214 = .ok (.aload_n 0, 1) := by decide +kernel
theorem d_W_law_215 : decode b_W_law 215 = .ok (.iload_n 3, 1) := by decide +kernel
theorem d_W_law_216 : decode b_W_law 216 = .ok (.iconst 1, 1) := by decide +kernel
theorem d_W_law_217 : decode b_W_law 217 = .ok (.iadd, 1) := by decide +kernel
theorem d_W_law_218 : decode b_W_law 218 = .ok (.iaload, 1) := by decide +kernel
theorem d_W_law_219 : decode b_W_law 219 = .ok (.aload_n 0, 1) := by decide +kernel
theorem d_W_law_220 : decode b_W_law 220 = .ok (.iload_n 3, 1) := by decide +kernel
theorem d_W_law_221 : decode b_W_law 221 = .ok (.iconst 2, 1) := by decide +kernel
theorem d_W_law_222 : decode b_W_law 222 = .ok (.iadd, 1) := by decide +kernel
theorem d_W_law_223 : decode b_W_law 223 = .ok (.iaload, 1) := by decide +kernel
theorem d_W_law_224 : decode b_W_law 224 = .ok (.invokevirtual 28, 3) := by decide +kernel
theorem d_W_law_227 : decode b_W_law 227 = .ok (.aload_n 2, 1) := by decide +kernel
theorem d_W_law_228 : decode b_W_law 228 = .ok (.aload_n 0, 1) := by decide +kernel
theorem d_W_law_229 : decode b_W_law 229 = .ok (.iload_n 3, 1) := by decide +kernel
theorem d_W_law_230 : decode b_W_law 230 = .ok (.iconst 1, 1) := by decide +kernel
theorem d_W_law_231 : decode b_W_law 231 = .ok (.iadd, 1) := by decide +kernel
theorem d_W_law_232 : decode b_W_law 232 = .ok (.iaload, 1) := by decide +kernel
theorem d_W_law_233 : decode b_W_law 233 = .ok (.aload_n 0, 1) := by decide +kernel
theorem d_W_law_234 : decode b_W_law 234 = .ok (.iload_n 3, 1) := by decide +kernel
theorem d_W_law_235 : decode b_W_law 235 = .ok (.iconst 2, 1) := by decide +kernel
theorem d_W_law_236 : decode b_W_law 236 = .ok (.iadd, 1) := by decide +kernel
theorem d_W_law_237 : decode b_W_law 237 = .ok (.iaload, 1) := by decide +kernel
theorem d_W_law_238 : decode b_W_law 238 = .ok (.invokevirtual 32, 3) := by decide +kernel
