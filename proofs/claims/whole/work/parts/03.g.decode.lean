theorem d_M_fate_6 : decode b_M_fate 6 = .ok (.aload_n 0, 1) := by decide +kernel
theorem d_M_fate_7 : decode b_M_fate 7 = .ok (.getfield 87, 3) := by decide +kernel
theorem d_M_fate_10 : decode b_M_fate 10 = .ok (.if_icmp .gt 12, 3) := by decide +kernel
theorem d_M_fate_13 : decode b_M_fate 13 = .ok (.aload_n 0, 1) := by decide +kernel
theorem d_M_fate_14 : decode b_M_fate 14 = .ok (.getfield 22, 3) := by decide +kernel
theorem d_M_fate_17 : decode b_M_fate 17 = .ok (.iload_n 1, 1) := by decide +kernel
theorem d_M_fate_18 : decode b_M_fate 18 = .ok (.iaload, 1) := by decide +kernel
theorem d_M_fate_19 : decode b_M_fate 19 = .ok (.goto 4, 3) := by decide +kernel
theorem d_M_fate_22 : decode b_M_fate 22 = .ok (.iconst 0, 1) := by decide +kernel
theorem d_M_fate_23 : decode b_M_fate 23 = .ok (.ireturn, 1) := by decide +kernel
theorem d_M_state_0 : decode b_M_state 0 = .ok (.iload_n 1, 1) := by decide +kernel
theorem d_M_state_1 : decode b_M_state 1 = .ok (.invokestatic 117, 3) := by decide +kernel
theorem d_M_state_4 : decode b_M_state 4 = .ok (.ifCond .ne 5, 3) := by decide +kernel
theorem d_M_state_7 : decode b_M_state 7 = .ok (.iconst (-1), 1) := by decide +kernel
theorem d_M_state_8 : decode b_M_state 8 = .ok (.ireturn, 1) := by decide +kernel
theorem d_M_state_9 : decode b_M_state 9 = .ok (.aload_n 0, 1) := by decide +kernel
theorem d_M_state_10 : decode b_M_state 10 = .ok (.getfield 57, 3) := by decide +kernel
theorem d_M_state_13 : decode b_M_state 13 = .ok (.iload_n 1, 1) := by decide +kernel
theorem d_M_state_14 : decode b_M_state 14 = .ok (.baload, 1) := by decide +kernel
theorem d_M_state_15 : decode b_M_state 15 = .ok (.ifCond .eq 7, 3) := by decide +kernel
theorem d_M_state_18 : decode b_M_state 18 = .ok (.iconst 1, 1) := by decide +kernel
theorem d_M_state_19 : decode b_M_state 19 = .ok (.goto 4, 3) := by decide +kernel
theorem d_M_state_22 : decode b_M_state 22 = .ok (.iconst 0, 1) := by decide +kernel
theorem d_M_state_23 : decode b_M_state 23 = .ok (.aload_n 0, 1) := by decide +kernel
theorem d_M_state_24 : decode b_M_state 24 = .ok (.getfield 60, 3) := by decide +kernel
theorem d_M_state_27 : decode b_M_state 27 = .ok (.iload_n 1, 1) := by decide +kernel
theorem d_M_state_28 : decode b_M_state 28 = .ok (.baload, 1) := by decide +kernel
theorem d_M_state_29 : decode b_M_state 29 = .ok (.ifCond .eq 7, 3) := by decide +kernel
theorem d_M_state_32 : decode b_M_state 32 = .ok (.iconst 2, 1) := by decide +kernel
theorem d_M_state_33 : decode b_M_state 33 = .ok (.goto 4, 3) := by decide +kernel
theorem d_M_state_36 : decode b_M_state 36 = .ok (.iconst 0, 1) := by decide +kernel
theorem d_M_state_37 : decode b_M_state 37 = .ok (.iadd, 1) := by decide +kernel
theorem d_M_state_38 : decode b_M_state 38 = .ok (.aload_n 0, 1) := by decide +kernel
theorem d_M_state_39 : decode b_M_state 39 = .ok (.getfield 51, 3) := by decide +kernel
theorem d_M_state_42 : decode b_M_state 42 = .ok (.iload_n 1, 1) := by decide +kernel
theorem d_M_state_43 : decode b_M_state 43 = .ok (.baload, 1) := by decide +kernel
theorem d_M_state_44 : decode b_M_state 44 = .ok (.ifCond .eq 7, 3) := by decide +kernel
theorem d_M_state_47 : decode b_M_state 47 = .ok (.iconst 4, 1) := by decide +kernel
theorem d_M_state_48 : decode b_M_state 48 = .ok (.goto 4, 3) := by decide +kernel
theorem d_M_state_51 : decode b_M_state 51 = .ok (.iconst 0, 1) := by decide +kernel
theorem d_M_state_52 : decode b_M_state 52 = .ok (.iadd, 1) := by decide +kernel
theorem d_M_state_53 : decode b_M_state 53 = .ok (.aload_n 0, 1) := by decide +kernel
theorem d_M_state_54 : decode b_M_state 54 = .ok (.getfield 54, 3) := by decide +kernel
theorem d_M_state_57 : decode b_M_state 57 = .ok (.iload_n 1, 1) := by decide +kernel
theorem d_M_state_58 : decode b_M_state 58 = .ok (.baload, 1) := by decide +kernel
theorem d_M_state_59 : decode b_M_state 59 = .ok (.ifCond .eq 8, 3) := by decide +kernel
theorem d_M_state_62 : decode b_M_state 62 = .ok (.bipush 8, 2) := by decide +kernel
theorem d_M_state_64 : decode b_M_state 64 = .ok (.goto 4, 3) := by decide +kernel
theorem d_M_state_67 : decode b_M_state 67 = .ok (.iconst 0, 1) := by decide +kernel
theorem d_M_state_68 : decode b_M_state 68 = .ok (.iadd, 1) := by decide +kernel
theorem d_M_state_69 : decode b_M_state 69 = .ok (.istore_n 2, 1) := by decide +kernel
theorem d_M_state_70 : decode b_M_state 70 = .ok (.iload_n 2, 1) := by decide +kernel
theorem d_M_state_71 : decode b_M_state 71 = .ok (.aload_n 0, 1) := by decide +kernel
theorem d_M_state_72 : decode b_M_state 72 = .ok (.getfield 109, 3) := by decide +kernel
theorem d_M_state_75 : decode b_M_state 75 = .ok (.ifCond .eq 8, 3) := by decide +kernel
theorem d_M_state_78 : decode b_M_state 78 = .ok (.bipush 16, 2) := by decide +kernel
theorem d_M_state_80 : decode b_M_state 80 = .ok (.goto 4, 3) := by decide +kernel
theorem d_M_state_83 : decode b_M_state 83 = .ok (.iconst 0, 1) := by decide +kernel
theorem d_M_state_84 : decode b_M_state 84 = .ok (.iadd, 1) := by decide +kernel
theorem d_M_state_85 : decode b_M_state 85 = .ok (.aload_n 0, 1) := by decide +kernel
theorem d_M_state_86 : decode b_M_state 86 = .ok (.getfield 63, 3) := by decide +kernel
theorem d_M_state_89 : decode b_M_state 89 = .ok (.iload_n 1, 1) := by decide +kernel
theorem d_M_state_90 : decode b_M_state 90 = .ok (.baload, 1) := by decide +kernel
theorem d_M_state_91 : decode b_M_state 91 = .ok (.ifCond .eq 8, 3) := by decide +kernel
theorem d_M_state_94 : decode b_M_state 94 = .ok (.bipush 32, 2) := by decide +kernel
theorem d_M_state_96 : decode b_M_state 96 = .ok (.goto 4, 3) := by decide +kernel
theorem d_M_state_99 : decode b_M_state 99 = .ok (.iconst 0, 1) := by decide +kernel
theorem d_M_state_100 : decode b_M_state 100 = .ok (.iadd, 1) := by decide +kernel
theorem d_M_state_101 : decode b_M_state 101 = .ok (.aload_n 0, 1) := by decide +kernel
theorem d_M_state_102 : decode b_M_state 102 = .ok (.getfield 66, 3) := by decide +kernel
theorem d_M_state_105 : decode b_M_state 105 = .ok (.iload_n 1, 1) := by decide +kernel
theorem d_M_state_106 : decode b_M_state 106 = .ok (.baload, 1) := by decide +kernel
theorem d_M_state_107 : decode b_M_state 107 = .ok (.ifCond .eq 8, 3) := by decide +kernel
theorem d_M_state_110 : decode b_M_state 110 = .ok (.bipush 64, 2) := by decide +kernel
theorem d_M_state_112 : decode b_M_state 112 = .ok (.goto 4, 3) := by decide +kernel
theorem d_M_state_115 : decode b_M_state 115 = .ok (.iconst 0, 1) := by decide +kernel
theorem d_M_state_116 : decode b_M_state 116 = .ok (.iadd, 1) := by decide +kernel
theorem d_M_state_117 : decode b_M_state 117 = .ok (.ireturn, 1) := by decide +kernel
theorem d_M_generation_0 : decode b_M_generation 0 = .ok (.iload_n 1, 1) := by decide +kernel
theorem d_M_generation_1 : decode b_M_generation 1 = .ok (.invokestatic 117, 3) := by decide +kernel
theorem d_M_generation_4 : decode b_M_generation 4 = .ok (.ifCond .eq 25, 3) := by decide +kernel
theorem d_M_generation_7 : decode b_M_generation 7 = .ok (.ldc2_w 150, 3) := by decide +kernel
theorem d_M_generation_10 : decode b_M_generation 10 = .ok (.aload_n 0, 1) := by decide +kernel
theorem d_M_generation_11 : decode b_M_generation 11 = .ok (.getfield 41, 3) := by decide +kernel
theorem d_M_generation_14 : decode b_M_generation 14 = .ok (.iload_n 1, 1) := by decide +kernel
theorem d_M_generation_15 : decode b_M_generation 15 = .ok (.iaload, 1) := by decide +kernel
theorem d_M_generation_16 : decode b_M_generation 16 = .ok (.i2l, 1) := by decide +kernel
theorem d_M_generation_17 : decode b_M_generation 17 = .ok (.lmul, 1) := by decide +kernel
theorem d_M_generation_18 : decode b_M_generation 18 = .ok (.aload_n 0, 1) := by decide +kernel
theorem d_M_generation_19 : decode b_M_generation 19 = .ok (.getfield 44, 3) := by decide +kernel
theorem d_M_generation_22 : decode b_M_generation 22 = .ok (.iload_n 1, 1) := by decide +kernel
theorem d_M_generation_23 : decode b_M_generation 23 = .ok (.iaload, 1) := by decide +kernel
theorem d_M_generation_24 : decode b_M_generation 24 = .ok (.i2l, 1) := by decide +kernel
theorem d_M_generation_25 : decode b_M_generation 25 = .ok (.ladd, 1) := by decide +kernel
theorem d_M_generation_26 : decode b_M_generation 26 = .ok (.goto 4, 3) := by decide +kernel
theorem d_M_generation_29 : decode b_M_generation 29 = .ok (.lconst 0, 1) := by decide +kernel
theorem d_M_generation_30 : decode b_M_generation 30 = .ok (.lreturn, 1) := by decide +kernel
theorem d_M_map_0 : decode b_M_map 0 = .ok (.iload_n 1, 1) := by decide +kernel
theorem d_M_map_1 : decode b_M_map 1 = .ok (.invokestatic 117, 3) := by decide +kernel
theorem d_M_map_4 : decode b_M_map 4 = .ok (.ifCond .ne 5, 3) := by decide +kernel
theorem d_M_map_7 : decode b_M_map 7 = .ok (.iconst 0, 1) := by decide +kernel
theorem d_M_map_8 : decode b_M_map 8 = .ok (.ireturn, 1) := by decide +kernel
theorem d_M_map_9 : decode b_M_map 9 = .ok (.iconst 0, 1) := by decide +kernel
theorem d_M_map_10 : decode b_M_map 10 = .ok (.istore_n 2, 1) := by decide +kernel
theorem d_M_map_11 : decode b_M_map 11 = .ok (.iconst 0, 1) := by decide +kernel
theorem d_M_map_12 : decode b_M_map 12 = .ok (.istore_n 3, 1) := by decide +kernel
theorem d_M_map_13 : decode b_M_map 13 = .ok (.iload_n 3, 1) := by decide +kernel
theorem d_M_map_14 : decode b_M_map 14 = .ok (.bipush 32, 2) := by decide +kernel
theorem d_M_map_16 : decode b_M_map 16 = .ok (.if_icmp .ge 33, 3) := by decide +kernel
theorem d_M_map_19 : decode b_M_map 19 = .ok (.aload_n 0, 1) := by decide +kernel
theorem d_M_map_20 : decode b_M_map 20 = .ok (.getfield 32, 3) := by decide +kernel
theorem d_M_map_23 : decode b_M_map 23 = .ok (.bipush 32, 2) := by decide +kernel
theorem d_M_map_25 : decode b_M_map 25 = .ok (.iload_n 1, 1) := by decide +kernel
theorem d_M_map_26 : decode b_M_map 26 = .ok (.imul, 1) := by decide +kernel
theorem d_M_map_27 : decode b_M_map 27 = .ok (.iload_n 3, 1) := by decide +kernel
theorem d_M_map_28 : decode b_M_map 28 = .ok (.iadd, 1) := by decide +kernel
theorem d_M_map_29 : decode b_M_map 29 = .ok (.baload, 1) := by decide +kernel
theorem d_M_map_30 : decode b_M_map 30 = .ok (.ifCond .eq 11, 3) := by decide +kernel
theorem d_M_map_33 : decode b_M_map 33 = .ok (.iload_n 2, 1) := by decide +kernel
theorem d_M_map_34 : decode b_M_map 34 = .ok (.iconst 1, 1) := by decide +kernel
theorem d_M_map_35 : decode b_M_map 35 = .ok (.iload_n 3, 1) := by decide +kernel
theorem d_M_map_36 : decode b_M_map 36 = .ok (.ishl, 1) := by decide +kernel
theorem d_M_map_37 : decode b_M_map 37 = .ok (.ior, 1) := by decide +kernel
theorem d_M_map_38 : decode b_M_map 38 = .ok (.goto 4, 3) := by decide +kernel
theorem d_M_map_41 : decode b_M_map 41 = .ok (.iload_n 2, 1) := by decide +kernel
theorem d_M_map_42 : decode b_M_map 42 = .ok (.istore_n 2, 1) := by decide +kernel
theorem d_M_map_43 : decode b_M_map 43 = .ok (.iinc 3 1, 3) := by decide +kernel
theorem d_M_map_46 : decode b_M_map 46 = .ok (.goto (-33), 3) := by decide +kernel
theorem d_M_map_49 : decode b_M_map 49 = .ok (.iload_n 2, 1) := by decide +kernel
theorem d_M_map_50 : decode b_M_map 50 = .ok (.ireturn, 1) := by decide +kernel
theorem d_M_log_0 : decode b_M_log 0 = .ok (.iload_n 1, 1) := by decide +kernel
theorem d_M_log_1 : decode b_M_log 1 = .ok (.invokestatic 117, 3) := by decide +kernel
theorem d_M_log_4 : decode b_M_log 4 = .ok (.ifCond .ne 5, 3) := by decide +kernel
theorem d_M_log_7 : decode b_M_log 7 = .ok (.iconst (-1), 1) := by decide +kernel
theorem d_M_log_8 : decode b_M_log 8 = .ok (.ireturn, 1) := by decide +kernel
theorem d_M_log_9 : decode b_M_log 9 = .ok (.iconst 0, 1) := by decide +kernel
theorem d_M_log_10 : decode b_M_log 10 = .ok (.istore_n 3, 1) := by decide +kernel
theorem d_M_log_11 : decode b_M_log 11 = .ok (.iload_n 3, 1) := by decide +kernel
theorem d_M_log_12 : decode b_M_log 12 = .ok (.bipush 8, 2) := by decide +kernel
theorem d_M_log_14 : decode b_M_log 14 = .ok (.if_icmp .ge 94, 3) := by decide +kernel
theorem d_M_log_17 : decode b_M_log 17 = .ok (.iconst 0, 1) := by decide +kernel
theorem d_M_log_18 : decode b_M_log 18 = .ok (.istore 4, 2) := by decide +kernel
theorem d_M_log_20 : decode b_M_log 20 = .ok (.iconst 0, 1) := by decide +kernel
theorem d_M_log_21 : decode b_M_log 21 = .ok (.istore 5, 2) := by decide +kernel
theorem d_M_log_23 : decode b_M_log 23 = .ok (.iload 5, 2) := by decide +kernel
theorem d_M_log_25 : decode b_M_log 25 = .ok (.bipush 8, 2) := by decide +kernel
theorem d_M_log_27 : decode b_M_log 27 = .ok (.if_icmp .ge 53, 3) := by decide +kernel
theorem d_M_log_30 : decode b_M_log 30 = .ok (.aload_n 0, 1) := by decide +kernel
theorem d_M_log_31 : decode b_M_log 31 = .ok (.getfield 35, 3) := by decide +kernel
theorem d_M_log_34 : decode b_M_log 34 = .ok (.bipush 8, 2) := by decide +kernel
theorem d_M_log_36 : decode b_M_log 36 = .ok (.iload_n 1, 1) := by decide +kernel
theorem d_M_log_37 : decode b_M_log 37 = .ok (.imul, 1) := by decide +kernel
theorem d_M_log_38 : decode b_M_log 38 = .ok (.iload 5, 2) := by decide +kernel
theorem d_M_log_40 : decode b_M_log 40 = .ok (.iadd, 1) := by decide +kernel
theorem d_M_log_41 : decode b_M_log 41 = .ok (.baload, 1) := by decide +kernel
theorem d_M_log_42 : decode b_M_log 42 = .ok (.ifCond .eq 32, 3) := by decide +kernel
theorem d_M_log_45 : decode b_M_log 45 = .ok (.aload_n 0, 1) := by decide +kernel
theorem d_M_log_46 : decode b_M_log 46 = .ok (.getfield 38, 3) := by decide +kernel
theorem d_M_log_49 : decode b_M_log 49 = .ok (.bipush 8, 2) := by decide +kernel
theorem d_M_log_51 : decode b_M_log 51 = .ok (.iload_n 1, 1) := by decide +kernel
theorem d_M_log_52 : decode b_M_log 52 = .ok (.imul, 1) := by decide +kernel
theorem d_M_log_53 : decode b_M_log 53 = .ok (.iload 5, 2) := by decide +kernel
theorem d_M_log_55 : decode b_M_log 55 = .ok (.iadd, 1) := by decide +kernel
theorem d_M_log_56 : decode b_M_log 56 = .ok (.iaload, 1) := by decide +kernel
theorem d_M_log_57 : decode b_M_log 57 = .ok (.aload_n 0, 1) := by decide +kernel
theorem d_M_log_58 : decode b_M_log 58 = .ok (.getfield 38, 3) := by decide +kernel
theorem d_M_log_61 : decode b_M_log 61 = .ok (.bipush 8, 2) := by decide +kernel
theorem d_M_log_63 : decode b_M_log 63 = .ok (.iload_n 1, 1) := by decide +kernel
theorem d_M_log_64 : decode b_M_log 64 = .ok (.imul, 1) := by decide +kernel
theorem d_M_log_65 : decode b_M_log 65 = .ok (.iload_n 3, 1) := by decide +kernel
theorem d_M_log_66 : decode b_M_log 66 = .ok (.iadd, 1) := by decide +kernel
theorem d_M_log_67 : decode b_M_log 67 = .ok (.iaload, 1) := by decide +kernel
theorem d_M_log_68 : decode b_M_log 68 = .ok (.if_icmp .le 6, 3) := by decide +kernel
theorem d_M_log_71 : decode b_M_log 71 = .ok (.iinc 4 1, 3) := by decide +kernel
theorem d_M_log_74 : decode b_M_log 74 = .ok (.iinc 5 1, 3) := by decide +kernel
theorem d_M_log_77 : decode b_M_log 77 = .ok (.goto (-54), 3) := by decide +kernel
theorem d_M_log_80 : decode b_M_log 80 = .ok (.aload_n 0, 1) := by decide +kernel
theorem d_M_log_81 : decode b_M_log 81 = .ok (.getfield 35, 3) := by decide +kernel
theorem d_M_log_84 : decode b_M_log 84 = .ok (.bipush 8, 2) := by decide +kernel
theorem d_M_log_86 : decode b_M_log 86 = .ok (.iload_n 1, 1) := by decide +kernel
theorem d_M_log_87 : decode b_M_log 87 = .ok (.imul, 1) := by decide +kernel
theorem d_M_log_88 : decode b_M_log 88 = .ok (.iload_n 3, 1) := by decide +kernel
theorem d_M_log_89 : decode b_M_log 89 = .ok (.iadd, 1) := by decide +kernel
theorem d_M_log_90 : decode b_M_log 90 = .ok (.baload, 1) := by decide +kernel
theorem d_M_log_91 : decode b_M_log 91 = .ok (.ifCond .eq 11, 3) := by decide +kernel
theorem d_M_log_94 : decode b_M_log 94 = .ok (.iload 4, 2) := by decide +kernel
theorem d_M_log_96 : decode b_M_log 96 = .ok (.iload_n 2, 1) := by decide +kernel
theorem d_M_log_97 : decode b_M_log 97 = .ok (.if_icmp .ne 5, 3) := by decide +kernel
theorem d_M_log_100 : decode b_M_log 100 = .ok (.iload_n 3, 1) := by decide +kernel
theorem d_M_log_101 : decode b_M_log 101 = .ok (.ireturn, 1) := by decide +kernel
theorem d_M_log_102 : decode b_M_log 102 = .ok (.iinc 3 1, 3) := by decide +kernel
theorem d_M_log_105 : decode b_M_log 105 = .ok (.goto (-94), 3) := by decide +kernel
theorem d_M_log_108 : decode b_M_log 108 = .ok (.iconst (-1), 1) := by decide +kernel
theorem d_M_log_109 : decode b_M_log 109 = .ok (.ireturn, 1) := by decide +kernel
theorem d_M_traffic_0 : decode b_M_traffic 0 = .ok (.iload_n 1, 1) := by decide +kernel
theorem d_M_traffic_1 : decode b_M_traffic 1 = .ok (.invokestatic 117, 3) := by decide +kernel
theorem d_M_traffic_4 : decode b_M_traffic 4 = .ok (.ifCond .ne 5, 3) := by decide +kernel
theorem d_M_traffic_7 : decode b_M_traffic 7 = .ok (.iconst 0, 1) := by decide +kernel
theorem d_M_traffic_8 : decode b_M_traffic 8 = .ok (.ireturn, 1) := by decide +kernel
theorem d_M_traffic_9 : decode b_M_traffic 9 = .ok (.iconst 0, 1) := by decide +kernel
theorem d_M_traffic_10 : decode b_M_traffic 10 = .ok (.istore_n 2, 1) := by decide +kernel
theorem d_M_traffic_11 : decode b_M_traffic 11 = .ok (.iconst 1, 1) := by decide +kernel
theorem d_M_traffic_12 : decode b_M_traffic 12 = .ok (.istore_n 3, 1) := by decide +kernel
theorem d_M_traffic_13 : decode b_M_traffic 13 = .ok (.iload_n 3, 1) := by decide +kernel
theorem d_M_traffic_14 : decode b_M_traffic 14 = .ok (.aload_n 0, 1) := by decide +kernel
theorem d_M_traffic_15 : decode b_M_traffic 15 = .ok (.getfield 87, 3) := by decide +kernel
theorem d_M_traffic_18 : decode b_M_traffic 18 = .ok (.if_icmp .gt 38, 3) := by decide +kernel
theorem d_M_traffic_21 : decode b_M_traffic 21 = .ok (.aload_n 0, 1) := by decide +kernel
theorem d_M_traffic_22 : decode b_M_traffic 22 = .ok (.getfield 25, 3) := by decide +kernel
theorem d_M_traffic_25 : decode b_M_traffic 25 = .ok (.iload_n 3, 1) := by decide +kernel
theorem d_M_traffic_26 : decode b_M_traffic 26 = .ok (.baload, 1) := by decide +kernel
theorem d_M_traffic_27 : decode b_M_traffic 27 = .ok (.ifCond .eq 21, 3) := by decide +kernel
theorem d_M_traffic_30 : decode b_M_traffic 30 = .ok (.aload_n 0, 1) := by decide +kernel
theorem d_M_traffic_31 : decode b_M_traffic 31 = .ok (.getfield 7, 3) := by decide +kernel
theorem d_M_traffic_34 : decode b_M_traffic 34 = .ok (.iload_n 3, 1) := by decide +kernel
theorem d_M_traffic_35 : decode b_M_traffic 35 = .ok (.iaload, 1) := by decide +kernel
theorem d_M_traffic_36 : decode b_M_traffic 36 = .ok (.iconst 1, 1) := by decide +kernel
theorem d_M_traffic_37 : decode b_M_traffic 37 = .ok (.iload_n 1, 1) := by decide +kernel
theorem d_M_traffic_38 : decode b_M_traffic 38 = .ok (.isub, 1) := by decide +kernel
theorem d_M_traffic_39 : decode b_M_traffic 39 = .ok (.if_icmp .ne 9, 3) := by decide +kernel
theorem d_M_traffic_42 : decode b_M_traffic 42 = .ok (.iload_n 2, 1) := by decide +kernel
theorem d_M_traffic_43 : decode b_M_traffic 43 = .ok (.iconst 1, 1) := by decide +kernel
theorem d_M_traffic_44 : decode b_M_traffic 44 = .ok (.iadd, 1) := by decide +kernel
theorem d_M_traffic_45 : decode b_M_traffic 45 = .ok (.goto 4, 3) := by decide +kernel
theorem d_M_traffic_48 : decode b_M_traffic 48 = .ok (.iload_n 2, 1) := by decide +kernel
theorem d_M_traffic_49 : decode b_M_traffic 49 = .ok (.istore_n 2, 1) := by decide +kernel
theorem d_M_traffic_50 : decode b_M_traffic 50 = .ok (.iinc 3 1, 3) := by decide +kernel
theorem d_M_traffic_53 : decode b_M_traffic 53 = .ok (.goto (-40), 3) := by decide +kernel
theorem d_M_traffic_56 : decode b_M_traffic 56 = .ok (.aload_n 0, 1) := by decide +kernel
theorem d_M_traffic_57 : decode b_M_traffic 57 = .ok (.getfield 84, 3) := by decide +kernel
theorem d_M_traffic_60 : decode b_M_traffic 60 = .ok (.iload_n 1, 1) := by decide +kernel
theorem d_M_traffic_61 : decode b_M_traffic 61 = .ok (.iaload, 1) := by decide +kernel
theorem d_M_traffic_62 : decode b_M_traffic 62 = .ok (.bipush 100, 2) := by decide +kernel
theorem d_M_traffic_64 : decode b_M_traffic 64 = .ok (.iload_n 2, 1) := by decide +kernel
theorem d_M_traffic_65 : decode b_M_traffic 65 = .ok (.imul, 1) := by decide +kernel
theorem d_M_traffic_66 : decode b_M_traffic 66 = .ok (.iadd, 1) := by decide +kernel
theorem d_M_traffic_67 : decode b_M_traffic 67 = .ok (.sipush 10000, 3) := by decide +kernel
theorem d_M_traffic_70 : decode b_M_traffic 70 = .ok (.aload_n 0, 1) := by decide +kernel
theorem d_M_traffic_71 : decode b_M_traffic 71 = .ok (.iload_n 1, 1) := by decide +kernel
theorem d_M_traffic_72 : decode b_M_traffic 72 = .ok (.iconst (-1), 1) := by decide +kernel
theorem d_M_traffic_73 : decode b_M_traffic 73 = .ok (.invokevirtual 139, 3) := by decide +kernel
theorem d_M_traffic_76 : decode b_M_traffic 76 = .ok (.imul, 1) := by decide +kernel
theorem d_M_traffic_77 : decode b_M_traffic 77 = .ok (.iadd, 1) := by decide +kernel
theorem d_M_traffic_78 : decode b_M_traffic 78 = .ok (.ireturn, 1) := by decide +kernel
theorem d_E_init_0 : decode b_E_init 0 = .ok (.aload_n 0, 1) := by decide +kernel
theorem d_E_init_1 : decode b_E_init 1 = .ok (.invokespecial 3, 3) := by decide +kernel
theorem d_E_init_4 : decode b_E_init 4 = .ok (.aload_n 0, 1) := by decide +kernel
theorem d_E_init_5 : decode b_E_init 5 = .ok (.iconst 3, 1) := by decide +kernel
theorem d_E_init_6 : decode b_E_init 6 = .ok (.newarray .int, 2) := by decide +kernel
theorem d_E_init_8 : decode b_E_init 8 = .ok (.putfield 9, 3) := by decide +kernel
theorem d_E_init_11 : decode b_E_init 11 = .ok (.return_, 1) := by decide +kernel
theorem d_E_extentAt_0 : decode b_E_extentAt 0 = .ok (.iload_n 1, 1) := by decide +kernel
theorem d_E_extentAt_1 : decode b_E_extentAt 1 = .ok (.ifCond .lt 20, 3) := by decide +kernel
theorem d_E_extentAt_4 : decode b_E_extentAt 4 = .ok (.iload_n 1, 1) := by decide +kernel
theorem d_E_extentAt_5 : decode b_E_extentAt 5 = .ok (.aload_n 0, 1) := by decide +kernel
theorem d_E_extentAt_6 : decode b_E_extentAt 6 = .ok (.getfield 15, 3) := by decide +kernel
theorem d_E_extentAt_9 : decode b_E_extentAt 9 = .ok (.if_icmp .ge 12, 3) := by decide +kernel
theorem d_E_extentAt_12 : decode b_E_extentAt 12 = .ok (.aload_n 0, 1) := by decide +kernel
theorem d_E_extentAt_13 : decode b_E_extentAt 13 = .ok (.getfield 9, 3) := by decide +kernel
theorem d_E_extentAt_16 : decode b_E_extentAt 16 = .ok (.iload_n 1, 1) := by decide +kernel
theorem d_E_extentAt_17 : decode b_E_extentAt 17 = .ok (.iaload, 1) := by decide +kernel
theorem d_E_extentAt_18 : decode b_E_extentAt 18 = .ok (.goto 4, 3) := by decide +kernel
theorem d_E_extentAt_21 : decode b_E_extentAt 21 = .ok (.iconst (-1), 1) := by decide +kernel
theorem d_E_extentAt_22 : decode b_E_extentAt 22 = .ok (.ireturn, 1) := by decide +kernel
theorem d_E_placeFor_0 : decode b_E_placeFor 0 = .ok (.iconst 0, 1) := by decide +kernel
theorem d_E_placeFor_1 : decode b_E_placeFor 1 = .ok (.istore_n 3, 1) := by decide +kernel
theorem d_E_placeFor_2 : decode b_E_placeFor 2 = .ok (.iload_n 3, 1) := by decide +kernel
theorem d_E_placeFor_3 : decode b_E_placeFor 3 = .ok (.aload_n 0, 1) := by decide +kernel
theorem d_E_placeFor_4 : decode b_E_placeFor 4 = .ok (.getfield 15, 3) := by decide +kernel
theorem d_E_placeFor_7 : decode b_E_placeFor 7 = .ok (.if_icmp .ge 21, 3) := by decide +kernel
theorem d_E_placeFor_10 : decode b_E_placeFor 10 = .ok (.aload_n 0, 1) := by decide +kernel
theorem d_E_placeFor_11 : decode b_E_placeFor 11 = .ok (.getfield 9, 3) := by decide +kernel
theorem d_E_placeFor_14 : decode b_E_placeFor 14 = .ok (.iload_n 3, 1) := by decide +kernel
theorem d_E_placeFor_15 : decode b_E_placeFor 15 = .ok (.iaload, 1) := by decide +kernel
theorem d_E_placeFor_16 : decode b_E_placeFor 16 = .ok (.iload_n 1, 1) := by decide +kernel
theorem d_E_placeFor_17 : decode b_E_placeFor 17 = .ok (.if_icmp .ne 5, 3) := by decide +kernel
theorem d_E_placeFor_20 : decode b_E_placeFor 20 = .ok (.iload_n 3, 1) := by decide +kernel
theorem d_E_placeFor_21 : decode b_E_placeFor 21 = .ok (.ireturn, 1) := by decide +kernel
theorem d_E_placeFor_22 : decode b_E_placeFor 22 = .ok (.iinc 3 1, 3) := by decide +kernel
theorem d_E_placeFor_25 : decode b_E_placeFor 25 = .ok (.goto (-23), 3) := by decide +kernel
theorem d_E_placeFor_28 : decode b_E_placeFor 28 = .ok (.aload_n 0, 1) := by decide +kernel
theorem d_E_placeFor_29 : decode b_E_placeFor 29 = .ok (.getfield 15, 3) := by decide +kernel
theorem d_E_placeFor_32 : decode b_E_placeFor 32 = .ok (.iconst 3, 1) := by decide +kernel
theorem d_E_placeFor_33 : decode b_E_placeFor 33 = .ok (.if_icmp .ge 8, 3) := by decide +kernel
theorem d_E_placeFor_36 : decode b_E_placeFor 36 = .ok (.aload_n 0, 1) := by decide +kernel
theorem d_E_placeFor_37 : decode b_E_placeFor 37 = .ok (.getfield 15, 3) := by decide +kernel
theorem d_E_placeFor_40 : decode b_E_placeFor 40 = .ok (.ireturn, 1) := by decide +kernel
theorem d_E_placeFor_41 : decode b_E_placeFor 41 = .ok (.aload_n 0, 1) := by decide +kernel
theorem d_E_placeFor_42 : decode b_E_placeFor 42 = .ok (.getfield 15, 3) := by decide +kernel
theorem d_E_placeFor_45 : decode b_E_placeFor 45 = .ok (.iconst 1, 1) := by decide +kernel
theorem d_E_placeFor_46 : decode b_E_placeFor 46 = .ok (.isub, 1) := by decide +kernel
theorem d_E_placeFor_47 : decode b_E_placeFor 47 = .ok (.istore_n 3, 1) := by decide +kernel
theorem d_E_placeFor_48 : decode b_E_placeFor 48 = .ok (.iload_n 3, 1) := by decide +kernel
theorem d_E_placeFor_49 : decode b_E_placeFor 49 = .ok (.ifCond .lt 25, 3) := by decide +kernel
theorem d_E_placeFor_52 : decode b_E_placeFor 52 = .ok (.aload_n 0, 1) := by decide +kernel
theorem d_E_placeFor_53 : decode b_E_placeFor 53 = .ok (.getfield 9, 3) := by decide +kernel
theorem d_E_placeFor_56 : decode b_E_placeFor 56 = .ok (.iload_n 3, 1) := by decide +kernel
theorem d_E_placeFor_57 : decode b_E_placeFor 57 = .ok (.iaload, 1) := by decide +kernel
theorem d_E_placeFor_58 : decode b_E_placeFor 58 = .ok (.invokestatic 19, 3) := by decide +kernel
theorem d_E_placeFor_61 : decode b_E_placeFor 61 = .ok (.iload_n 2, 1) := by decide +kernel
theorem d_E_placeFor_62 : decode b_E_placeFor 62 = .ok (.iand, 1) := by decide +kernel
theorem d_E_placeFor_63 : decode b_E_placeFor 63 = .ok (.ifCond .ne 5, 3) := by decide +kernel
theorem d_E_placeFor_66 : decode b_E_placeFor 66 = .ok (.iload_n 3, 1) := by decide +kernel
theorem d_E_placeFor_67 : decode b_E_placeFor 67 = .ok (.ireturn, 1) := by decide +kernel
theorem d_E_placeFor_68 : decode b_E_placeFor 68 = .ok (.iinc 3 (-1), 3) := by decide +kernel
theorem d_E_placeFor_71 : decode b_E_placeFor 71 = .ok (.goto (-23), 3) := by decide +kernel
theorem d_E_placeFor_74 : decode b_E_placeFor 74 = .ok (.iconst (-1), 1) := by decide +kernel
theorem d_E_placeFor_75 : decode b_E_placeFor 75 = .ok (.ireturn, 1) := by decide +kernel
theorem d_E_putInFront_0 : decode b_E_putInFront 0 = .ok (.iload_n 2, 1) := by decide +kernel
theorem d_E_putInFront_1 : decode b_E_putInFront 1 = .ok (.ifCond .lt 8, 3) := by decide +kernel
theorem d_E_putInFront_4 : decode b_E_putInFront 4 = .ok (.iload_n 2, 1) := by decide +kernel
theorem d_E_putInFront_5 : decode b_E_putInFront 5 = .ok (.iconst 3, 1) := by decide +kernel
theorem d_E_putInFront_6 : decode b_E_putInFront 6 = .ok (.if_icmp .lt 4, 3) := by decide +kernel
theorem d_E_putInFront_9 : decode b_E_putInFront 9 = .ok (.return_, 1) := by decide +kernel
theorem d_E_putInFront_10 : decode b_E_putInFront 10 = .ok (.iload_n 2, 1) := by decide +kernel
theorem d_E_putInFront_11 : decode b_E_putInFront 11 = .ok (.istore_n 3, 1) := by decide +kernel
theorem d_E_putInFront_12 : decode b_E_putInFront 12 = .ok (.iload_n 3, 1) := by decide +kernel
theorem d_E_putInFront_13 : decode b_E_putInFront 13 = .ok (.ifCond .le 23, 3) := by decide +kernel
theorem d_E_putInFront_16 : decode b_E_putInFront 16 = .ok (.aload_n 0, 1) := by decide +kernel
theorem d_E_putInFront_17 : decode b_E_putInFront 17 = .ok (.getfield 9, 3) := by decide +kernel
theorem d_E_putInFront_20 : decode b_E_putInFront 20 = .ok (.iload_n 3, 1) := by decide +kernel
theorem d_E_putInFront_21 : decode b_E_putInFront 21 = .ok (.aload_n 0, 1) := by decide +kernel
theorem d_E_putInFront_22 : decode b_E_putInFront 22 = .ok (.getfield 9, 3) := by decide +kernel
theorem d_E_putInFront_25 : decode b_E_putInFront 25 = .ok (.iload_n 3, 1) := by decide +kernel
theorem d_E_putInFront_26 : decode b_E_putInFront 26 = .ok (.iconst 1, 1) := by decide +kernel
theorem d_E_putInFront_27 : decode b_E_putInFront 27 = .ok (.isub, 1) := by decide +kernel
theorem d_E_putInFront_28 : decode b_E_putInFront 28 = .ok (.iaload, 1) := by decide +kernel
theorem d_E_putInFront_29 : decode b_E_putInFront 29 = .ok (.iastore, 1) := by decide +kernel
theorem d_E_putInFront_30 : decode b_E_putInFront 30 = .ok (.iinc 3 (-1), 3) := by decide +kernel
theorem d_E_putInFront_33 : decode b_E_putInFront 33 = .ok (.goto (-21), 3) := by decide +kernel
theorem d_E_putInFront_36 : decode b_E_putInFront 36 = .ok (.aload_n 0, 1) := by decide +kernel
theorem d_E_putInFront_37 : decode b_E_putInFront 37 = .ok (.getfield 9, 3) := by decide +kernel
theorem d_E_putInFront_40 : decode b_E_putInFront 40 = .ok (.iconst 0, 1) := by decide +kernel
theorem d_E_putInFront_41 : decode b_E_putInFront 41 = .ok (.iload_n 1, 1) := by decide +kernel
theorem d_E_putInFront_42 : decode b_E_putInFront 42 = .ok (.iastore, 1) := by decide +kernel
theorem d_E_putInFront_43 : decode b_E_putInFront 43 = .ok (.iload_n 2, 1) := by decide +kernel
theorem d_E_putInFront_44 : decode b_E_putInFront 44 = .ok (.aload_n 0, 1) := by decide +kernel
theorem d_E_putInFront_45 : decode b_E_putInFront 45 = .ok (.getfield 15, 3) := by decide +kernel
theorem d_E_putInFront_48 : decode b_E_putInFront 48 = .ok (.if_icmp .ne 13, 3) := by decide +kernel
theorem d_E_putInFront_51 : decode b_E_putInFront 51 = .ok (.aload_n 0, 1) := by decide +kernel
theorem d_E_putInFront_52 : decode b_E_putInFront 52 = .ok (.dup, 1) := by decide +kernel
theorem d_E_putInFront_53 : decode b_E_putInFront 53 = .ok (.getfield 15, 3) := by decide +kernel
theorem d_E_putInFront_56 : decode b_E_putInFront 56 = .ok (.iconst 1, 1) := by decide +kernel
theorem d_E_putInFront_57 : decode b_E_putInFront 57 = .ok (.iadd, 1) := by decide +kernel
theorem d_E_putInFront_58 : decode b_E_putInFront 58 = .ok (.putfield 15, 3) := by decide +kernel
theorem d_E_putInFront_61 : decode b_E_putInFront 61 = .ok (.return_, 1) := by decide +kernel
theorem d_E_allBlocks_0 : decode b_E_allBlocks 0 = .ok (.iconst 0, 1) := by decide +kernel
theorem d_E_allBlocks_1 : decode b_E_allBlocks 1 = .ok (.istore_n 1, 1) := by decide +kernel
theorem d_E_allBlocks_2 : decode b_E_allBlocks 2 = .ok (.iconst 0, 1) := by decide +kernel
theorem d_E_allBlocks_3 : decode b_E_allBlocks 3 = .ok (.istore_n 2, 1) := by decide +kernel
theorem d_E_allBlocks_4 : decode b_E_allBlocks 4 = .ok (.iload_n 2, 1) := by decide +kernel
theorem d_E_allBlocks_5 : decode b_E_allBlocks 5 = .ok (.aload_n 0, 1) := by decide +kernel
theorem d_E_allBlocks_6 : decode b_E_allBlocks 6 = .ok (.getfield 15, 3) := by decide +kernel
theorem d_E_allBlocks_9 : decode b_E_allBlocks 9 = .ok (.if_icmp .ge 21, 3) := by decide +kernel
theorem d_E_allBlocks_12 : decode b_E_allBlocks 12 = .ok (.iload_n 1, 1) := by decide +kernel
theorem d_E_allBlocks_13 : decode b_E_allBlocks 13 = .ok (.aload_n 0, 1) := by decide +kernel
theorem d_E_allBlocks_14 : decode b_E_allBlocks 14 = .ok (.getfield 9, 3) := by decide +kernel
theorem d_E_allBlocks_17 : decode b_E_allBlocks 17 = .ok (.iload_n 2, 1) := by decide +kernel
theorem d_E_allBlocks_18 : decode b_E_allBlocks 18 = .ok (.iaload, 1) := by decide +kernel
theorem d_E_allBlocks_19 : decode b_E_allBlocks 19 = .ok (.invokestatic 19, 3) := by decide +kernel
theorem d_E_allBlocks_22 : decode b_E_allBlocks 22 = .ok (.ior, 1) := by decide +kernel
theorem d_E_allBlocks_23 : decode b_E_allBlocks 23 = .ok (.istore_n 1, 1) := by decide +kernel
theorem d_E_allBlocks_24 : decode b_E_allBlocks 24 = .ok (.iinc 2 1, 3) := by decide +kernel
theorem d_E_allBlocks_27 : decode b_E_allBlocks 27 = .ok (.goto (-23), 3) := by decide +kernel
theorem d_E_allBlocks_30 : decode b_E_allBlocks 30 = .ok (.iload_n 1, 1) := by decide +kernel
theorem d_E_allBlocks_31 : decode b_E_allBlocks 31 = .ok (.ireturn, 1) := by decide +kernel
theorem d_N_init_0 : decode b_N_init 0 = .ok (.aload_n 0, 1) := by decide +kernel
theorem d_N_init_1 : decode b_N_init 1 = .ok (.invokespecial 3, 3) := by decide +kernel
theorem d_N_init_4 : decode b_N_init 4 = .ok (.aload_n 0, 1) := by decide +kernel
theorem d_N_init_5 : decode b_N_init 5 = .ok (.iload_n 1, 1) := by decide +kernel
theorem d_N_init_6 : decode b_N_init 6 = .ok (.putfield 9, 3) := by decide +kernel
theorem d_N_init_9 : decode b_N_init 9 = .ok (.aload_n 0, 1) := by decide +kernel
theorem d_N_init_10 : decode b_N_init 10 = .ok (.bipush 32, 2) := by decide +kernel
theorem d_N_init_12 : decode b_N_init 12 = .ok (.newarray .int, 2) := by decide +kernel
theorem d_N_init_14 : decode b_N_init 14 = .ok (.putfield 15, 3) := by decide +kernel
theorem d_N_init_17 : decode b_N_init 17 = .ok (.aload_n 0, 1) := by decide +kernel
theorem d_N_init_18 : decode b_N_init 18 = .ok (.new 19, 3) := by decide +kernel
theorem d_N_init_21 : decode b_N_init 21 = .ok (.dup, 1) := by decide +kernel
theorem d_N_init_22 : decode b_N_init 22 = .ok (.invokespecial 21, 3) := by decide +kernel
theorem d_N_init_25 : decode b_N_init 25 = .ok (.putfield 22, 3) := by decide +kernel
theorem d_N_init_28 : decode b_N_init 28 = .ok (.aload_n 0, 1) := by decide +kernel
theorem d_N_init_29 : decode b_N_init 29 = .ok (.new 26, 3) := by decide +kernel
theorem d_N_init_32 : decode b_N_init 32 = .ok (.dup, 1) := by decide +kernel
theorem d_N_init_33 : decode b_N_init 33 = .ok (.invokespecial 28, 3) := by decide +kernel
theorem d_N_init_36 : decode b_N_init 36 = .ok (.putfield 29, 3) := by decide +kernel
theorem d_N_init_39 : decode b_N_init 39 = .ok (.aload_n 0, 1) := by decide +kernel
theorem d_N_init_40 : decode b_N_init 40 = .ok (.new 33, 3) := by decide +kernel
theorem d_N_init_43 : decode b_N_init 43 = .ok (.dup, 1) := by decide +kernel
theorem d_N_init_44 : decode b_N_init 44 = .ok (.invokespecial 35, 3) := by decide +kernel
theorem d_N_init_47 : decode b_N_init 47 = .ok (.putfield 36, 3) := by decide +kernel
theorem d_N_init_50 : decode b_N_init 50 = .ok (.aload_n 0, 1) := by decide +kernel
theorem d_N_init_51 : decode b_N_init 51 = .ok (.iconst 1, 1) := by decide +kernel
theorem d_N_init_52 : decode b_N_init 52 = .ok (.putfield 40, 3) := by decide +kernel
theorem d_N_init_55 : decode b_N_init 55 = .ok (.aload_n 0, 1) := by decide +kernel
theorem d_N_init_56 : decode b_N_init 56 = .ok (.iconst 1, 1) := by decide +kernel
theorem d_N_init_57 : decode b_N_init 57 = .ok (.putfield 43, 3) := by decide +kernel
theorem d_N_init_60 : decode b_N_init 60 = .ok (.aload_n 0, 1) := by decide +kernel
theorem d_N_init_61 : decode b_N_init 61 = .ok (.iconst 1, 1) := by decide +kernel
theorem d_N_init_62 : decode b_N_init 62 = .ok (.putfield 47, 3) := by decide +kernel
theorem d_N_init_65 : decode b_N_init 65 = .ok (.return_, 1) := by decide +kernel
theorem d_N_epochOfNextWrite_0 : decode b_N_epochOfNextWrite 0 = .ok (.aload_n 0, 1) := by decide +kernel
theorem d_N_epochOfNextWrite_1 : decode b_N_epochOfNextWrite 1 = .ok (.getfield 47, 3) := by decide +kernel
theorem d_N_epochOfNextWrite_4 : decode b_N_epochOfNextWrite 4 = .ok (.ifCond .ne 7, 3) := by decide +kernel
theorem d_N_epochOfNextWrite_7 : decode b_N_epochOfNextWrite 7 = .ok (.iload_n 1, 1) := by decide +kernel
theorem d_N_epochOfNextWrite_8 : decode b_N_epochOfNextWrite 8 = .ok (.ifCond .eq 13, 3) := by decide +kernel
theorem d_N_epochOfNextWrite_11 : decode b_N_epochOfNextWrite 11 = .ok (.aload_n 0, 1) := by decide +kernel
theorem d_N_epochOfNextWrite_12 : decode b_N_epochOfNextWrite 12 = .ok (.dup, 1) := by decide +kernel
theorem d_N_epochOfNextWrite_13 : decode b_N_epochOfNextWrite 13 = .ok (.getfield 50, 3) := by decide +kernel
theorem d_N_epochOfNextWrite_16 : decode b_N_epochOfNextWrite 16 = .ok (.iconst 1, 1) := by decide +kernel
theorem d_N_epochOfNextWrite_17 : decode b_N_epochOfNextWrite 17 = .ok (.iadd, 1) := by decide +kernel
theorem d_N_epochOfNextWrite_18 : decode b_N_epochOfNextWrite 18 = .ok (.putfield 50, 3) := by decide +kernel
theorem d_N_epochOfNextWrite_21 : decode b_N_epochOfNextWrite 21 = .ok (.aload_n 0, 1) := by decide +kernel
theorem d_N_epochOfNextWrite_22 : decode b_N_epochOfNextWrite 22 = .ok (.iconst 0, 1) := by decide +kernel
theorem d_N_epochOfNextWrite_23 : decode b_N_epochOfNextWrite 23 = .ok (.putfield 47, 3) := by decide +kernel
theorem d_N_epochOfNextWrite_26 : decode b_N_epochOfNextWrite 26 = .ok (.aload_n 0, 1) := by decide +kernel
theorem d_N_epochOfNextWrite_27 : decode b_N_epochOfNextWrite 27 = .ok (.getfield 50, 3) := by decide +kernel
theorem d_N_epochOfNextWrite_30 : decode b_N_epochOfNextWrite 30 = .ok (.ireturn, 1) := by decide +kernel
theorem d_N_takeFinish_0 : decode b_N_takeFinish 0 = .ok (.aload_n 0, 1) := by decide +kernel
theorem d_N_takeFinish_1 : decode b_N_takeFinish 1 = .ok (.iconst 0, 1) := by decide +kernel
theorem d_N_takeFinish_2 : decode b_N_takeFinish 2 = .ok (.putfield 53, 3) := by decide +kernel
theorem d_N_takeFinish_5 : decode b_N_takeFinish 5 = .ok (.aload_n 0, 1) := by decide +kernel
theorem d_N_takeFinish_6 : decode b_N_takeFinish 6 = .ok (.iconst 0, 1) := by decide +kernel
theorem d_N_takeFinish_7 : decode b_N_takeFinish 7 = .ok (.putfield 56, 3) := by decide +kernel
theorem d_N_takeFinish_10 : decode b_N_takeFinish 10 = .ok (.aload_n 0, 1) := by decide +kernel
theorem d_N_takeFinish_11 : decode b_N_takeFinish 11 = .ok (.iconst 0, 1) := by decide +kernel
theorem d_N_takeFinish_12 : decode b_N_takeFinish 12 = .ok (.putfield 59, 3) := by decide +kernel
theorem d_N_takeFinish_15 : decode b_N_takeFinish 15 = .ok (.aload_n 0, 1) := by decide +kernel
theorem d_N_takeFinish_16 : decode b_N_takeFinish 16 = .ok (.iconst 0, 1) := by decide +kernel
theorem d_N_takeFinish_17 : decode b_N_takeFinish 17 = .ok (.putfield 62, 3) := by decide +kernel
theorem d_N_takeFinish_20 : decode b_N_takeFinish 20 = .ok (.aload_n 0, 1) := by decide +kernel
theorem d_N_takeFinish_21 : decode b_N_takeFinish 21 = .ok (.iload_n 1, 1) := by decide +kernel
theorem d_N_takeFinish_22 : decode b_N_takeFinish 22 = .ok (.putfield 40, 3) := by decide +kernel
theorem d_N_takeFinish_25 : decode b_N_takeFinish 25 = .ok (.aload_n 0, 1) := by decide +kernel
theorem d_N_takeFinish_26 : decode b_N_takeFinish 26 = .ok (.iconst 0, 1) := by decide +kernel
theorem d_N_takeFinish_27 : decode b_N_takeFinish 27 = .ok (.putfield 65, 3) := by decide +kernel
theorem d_N_takeFinish_30 : decode b_N_takeFinish 30 = .ok (.return_, 1) := by decide +kernel
theorem d_N_leaveLink_0 : decode b_N_leaveLink 0 = .ok (.aload_n 0, 1) := by decide +kernel
theorem d_N_leaveLink_1 : decode b_N_leaveLink 1 = .ok (.getfield 29, 3) := by decide +kernel
theorem d_N_leaveLink_4 : decode b_N_leaveLink 4 = .ok (.iconst 0, 1) := by decide +kernel
theorem d_N_leaveLink_5 : decode b_N_leaveLink 5 = .ok (.putfield 68, 3) := by decide +kernel
theorem d_N_leaveLink_8 : decode b_N_leaveLink 8 = .ok (.aload_n 0, 1) := by decide +kernel
theorem d_N_leaveLink_9 : decode b_N_leaveLink 9 = .ok (.getfield 36, 3) := by decide +kernel
theorem d_N_leaveLink_12 : decode b_N_leaveLink 12 = .ok (.iconst 0, 1) := by decide +kernel
theorem d_N_leaveLink_13 : decode b_N_leaveLink 13 = .ok (.putfield 71, 3) := by decide +kernel
theorem d_N_leaveLink_16 : decode b_N_leaveLink 16 = .ok (.aload_n 0, 1) := by decide +kernel
theorem d_N_leaveLink_17 : decode b_N_leaveLink 17 = .ok (.iconst 0, 1) := by decide +kernel
theorem d_N_leaveLink_18 : decode b_N_leaveLink 18 = .ok (.putfield 72, 3) := by decide +kernel
theorem d_N_leaveLink_21 : decode b_N_leaveLink 21 = .ok (.aload_n 0, 1) := by decide +kernel
theorem d_N_leaveLink_22 : decode b_N_leaveLink 22 = .ok (.iconst 0, 1) := by decide +kernel
theorem d_N_leaveLink_23 : decode b_N_leaveLink 23 = .ok (.putfield 75, 3) := by decide +kernel
