theorem d_M_write_294 : decode b_M_write 294 = .ok (.iload 6, 2) := by decide +kernel
theorem d_M_write_296 : decode b_M_write 296 = .ok (.iconst 1, 1) := by decide +kernel
theorem d_M_write_297 : decode b_M_write 297 = .ok (.iastore, 1) := by decide +kernel
theorem d_M_write_298 : decode b_M_write 298 = .ok (.aload_n 0, 1) := by decide +kernel
theorem d_M_write_299 : decode b_M_write 299 = .ok (.iload_n 1, 1) := by decide +kernel
theorem d_M_write_300 : decode b_M_write 300 = .ok (.iconst 1, 1) := by decide +kernel
theorem d_M_write_301 : decode b_M_write 301 = .ok (.iload 6, 2) := by decide +kernel
theorem d_M_write_303 : decode b_M_write 303 = .ok (.iconst 0, 1) := by decide +kernel
theorem d_M_write_304 : decode b_M_write 304 = .ok (.invokevirtual 105, 3) := by decide +kernel
theorem d_M_write_307 : decode b_M_write 307 = .ok (.goto 9, 3) := by decide +kernel
theorem d_M_write_310 : decode b_M_write 310 = .ok (.aload_n 0, 1) := by decide +kernel
theorem d_M_write_311 : decode b_M_write 311 = .ok (.iload 6, 2) := by decide +kernel
theorem d_M_write_313 : decode b_M_write 313 = .ok (.invokevirtual 113, 3) := by decide +kernel
theorem d_M_write_316 : decode b_M_write 316 = .ok (.iload 6, 2) := by decide +kernel
theorem d_M_write_318 : decode b_M_write 318 = .ok (.ireturn, 1) := by decide +kernel
theorem d_M_barrier_0 : decode b_M_barrier 0 = .ok (.iload_n 1, 1) := by decide +kernel
theorem d_M_barrier_1 : decode b_M_barrier 1 = .ok (.invokestatic 117, 3) := by decide +kernel
theorem d_M_barrier_4 : decode b_M_barrier 4 = .ok (.ifCond .eq 21, 3) := by decide +kernel
theorem d_M_barrier_7 : decode b_M_barrier 7 = .ok (.aload_n 0, 1) := by decide +kernel
theorem d_M_barrier_8 : decode b_M_barrier 8 = .ok (.getfield 57, 3) := by decide +kernel
theorem d_M_barrier_11 : decode b_M_barrier 11 = .ok (.iload_n 1, 1) := by decide +kernel
theorem d_M_barrier_12 : decode b_M_barrier 12 = .ok (.baload, 1) := by decide +kernel
theorem d_M_barrier_13 : decode b_M_barrier 13 = .ok (.ifCond .eq 12, 3) := by decide +kernel
theorem d_M_barrier_16 : decode b_M_barrier 16 = .ok (.aload_n 0, 1) := by decide +kernel
theorem d_M_barrier_17 : decode b_M_barrier 17 = .ok (.getfield 60, 3) := by decide +kernel
theorem d_M_barrier_20 : decode b_M_barrier 20 = .ok (.iload_n 1, 1) := by decide +kernel
theorem d_M_barrier_21 : decode b_M_barrier 21 = .ok (.baload, 1) := by decide +kernel
theorem d_M_barrier_22 : decode b_M_barrier 22 = .ok (.ifCond .ne 5, 3) := by decide +kernel
theorem d_M_barrier_25 : decode b_M_barrier 25 = .ok (.iconst 0, 1) := by decide +kernel
theorem d_M_barrier_26 : decode b_M_barrier 26 = .ok (.ireturn, 1) := by decide +kernel
theorem d_M_barrier_27 : decode b_M_barrier 27 = .ok (.aload_n 0, 1) := by decide +kernel
theorem d_M_barrier_28 : decode b_M_barrier 28 = .ok (.getfield 69, 3) := by decide +kernel
theorem d_M_barrier_31 : decode b_M_barrier 31 = .ok (.iload_n 1, 1) := by decide +kernel
theorem d_M_barrier_32 : decode b_M_barrier 32 = .ok (.iconst 1, 1) := by decide +kernel
theorem d_M_barrier_33 : decode b_M_barrier 33 = .ok (.bastore, 1) := by decide +kernel
theorem d_M_barrier_34 : decode b_M_barrier 34 = .ok (.iconst 1, 1) := by decide +kernel
theorem d_M_barrier_35 : decode b_M_barrier 35 = .ok (.ireturn, 1) := by decide +kernel
theorem d_M_deliver_0 : decode b_M_deliver 0 = .ok (.iload_n 1, 1) := by decide +kernel
theorem d_M_deliver_1 : decode b_M_deliver 1 = .ok (.invokestatic 117, 3) := by decide +kernel
theorem d_M_deliver_4 : decode b_M_deliver 4 = .ok (.ifCond .eq 12, 3) := by decide +kernel
theorem d_M_deliver_7 : decode b_M_deliver 7 = .ok (.aload_n 0, 1) := by decide +kernel
theorem d_M_deliver_8 : decode b_M_deliver 8 = .ok (.getfield 84, 3) := by decide +kernel
theorem d_M_deliver_11 : decode b_M_deliver 11 = .ok (.iload_n 1, 1) := by decide +kernel
theorem d_M_deliver_12 : decode b_M_deliver 12 = .ok (.iaload, 1) := by decide +kernel
theorem d_M_deliver_13 : decode b_M_deliver 13 = .ok (.ifCond .ne 5, 3) := by decide +kernel
theorem d_M_deliver_16 : decode b_M_deliver 16 = .ok (.iconst 0, 1) := by decide +kernel
theorem d_M_deliver_17 : decode b_M_deliver 17 = .ok (.ireturn, 1) := by decide +kernel
theorem d_M_deliver_18 : decode b_M_deliver 18 = .ok (.bipush 64, 2) := by decide +kernel
theorem d_M_deliver_20 : decode b_M_deliver 20 = .ok (.iload_n 1, 1) := by decide +kernel
theorem d_M_deliver_21 : decode b_M_deliver 21 = .ok (.imul, 1) := by decide +kernel
theorem d_M_deliver_22 : decode b_M_deliver 22 = .ok (.istore_n 2, 1) := by decide +kernel
theorem d_M_deliver_23 : decode b_M_deliver 23 = .ok (.aload_n 0, 1) := by decide +kernel
theorem d_M_deliver_24 : decode b_M_deliver 24 = .ok (.getfield 75, 3) := by decide +kernel
theorem d_M_deliver_27 : decode b_M_deliver 27 = .ok (.iload_n 2, 1) := by decide +kernel
theorem d_M_deliver_28 : decode b_M_deliver 28 = .ok (.iaload, 1) := by decide +kernel
theorem d_M_deliver_29 : decode b_M_deliver 29 = .ok (.istore_n 3, 1) := by decide +kernel
theorem d_M_deliver_30 : decode b_M_deliver 30 = .ok (.aload_n 0, 1) := by decide +kernel
theorem d_M_deliver_31 : decode b_M_deliver 31 = .ok (.getfield 78, 3) := by decide +kernel
theorem d_M_deliver_34 : decode b_M_deliver 34 = .ok (.iload_n 2, 1) := by decide +kernel
theorem d_M_deliver_35 : decode b_M_deliver 35 = .ok (.iaload, 1) := by decide +kernel
theorem d_M_deliver_36 : decode b_M_deliver 36 = .ok (.istore 4, 2) := by decide +kernel
theorem d_M_deliver_38 : decode b_M_deliver 38 = .ok (.aload_n 0, 1) := by decide +kernel
theorem d_M_deliver_39 : decode b_M_deliver 39 = .ok (.getfield 81, 3) := by decide +kernel
theorem d_M_deliver_42 : decode b_M_deliver 42 = .ok (.iload_n 2, 1) := by decide +kernel
theorem d_M_deliver_43 : decode b_M_deliver 43 = .ok (.iaload, 1) := by decide +kernel
theorem d_M_deliver_44 : decode b_M_deliver 44 = .ok (.istore 5, 2) := by decide +kernel
theorem d_M_deliver_46 : decode b_M_deliver 46 = .ok (.aload_n 0, 1) := by decide +kernel
theorem d_M_deliver_47 : decode b_M_deliver 47 = .ok (.getfield 84, 3) := by decide +kernel
theorem d_M_deliver_50 : decode b_M_deliver 50 = .ok (.iload_n 1, 1) := by decide +kernel
theorem d_M_deliver_51 : decode b_M_deliver 51 = .ok (.dup2, 1) := by decide +kernel
theorem d_M_deliver_52 : decode b_M_deliver 52 = .ok (.iaload, 1) := by decide +kernel
theorem d_M_deliver_53 : decode b_M_deliver 53 = .ok (.iconst 1, 1) := by decide +kernel
theorem d_M_deliver_54 : decode b_M_deliver 54 = .ok (.isub, 1) := by decide +kernel
theorem d_M_deliver_55 : decode b_M_deliver 55 = .ok (.iastore, 1) := by decide +kernel
theorem d_M_deliver_56 : decode b_M_deliver 56 = .ok (.iload_n 2, 1) := by decide +kernel
theorem d_M_deliver_57 : decode b_M_deliver 57 = .ok (.istore 6, 2) := by decide +kernel
theorem d_M_deliver_59 : decode b_M_deliver 59 = .ok (.iload 6, 2) := by decide +kernel
theorem d_M_deliver_61 : decode b_M_deliver 61 = .ok (.iload_n 2, 1) := by decide +kernel
theorem d_M_deliver_62 : decode b_M_deliver 62 = .ok (.aload_n 0, 1) := by decide +kernel
theorem d_M_deliver_63 : decode b_M_deliver 63 = .ok (.getfield 84, 3) := by decide +kernel
theorem d_M_deliver_66 : decode b_M_deliver 66 = .ok (.iload_n 1, 1) := by decide +kernel
theorem d_M_deliver_67 : decode b_M_deliver 67 = .ok (.iaload, 1) := by decide +kernel
theorem d_M_deliver_68 : decode b_M_deliver 68 = .ok (.iadd, 1) := by decide +kernel
theorem d_M_deliver_69 : decode b_M_deliver 69 = .ok (.if_icmp .ge 57, 3) := by decide +kernel
theorem d_M_deliver_72 : decode b_M_deliver 72 = .ok (.aload_n 0, 1) := by decide +kernel
theorem d_M_deliver_73 : decode b_M_deliver 73 = .ok (.getfield 75, 3) := by decide +kernel
theorem d_M_deliver_76 : decode b_M_deliver 76 = .ok (.iload 6, 2) := by decide +kernel
theorem d_M_deliver_78 : decode b_M_deliver 78 = .ok (.aload_n 0, 1) := by decide +kernel
theorem d_M_deliver_79 : decode b_M_deliver 79 = .ok (.getfield 75, 3) := by decide +kernel
theorem d_M_deliver_82 : decode b_M_deliver 82 = .ok (.iload 6, 2) := by decide +kernel
theorem d_M_deliver_84 : decode b_M_deliver 84 = .ok (.iconst 1, 1) := by decide +kernel
theorem d_M_deliver_85 : decode b_M_deliver 85 = .ok (.iadd, 1) := by decide +kernel
theorem d_M_deliver_86 : decode b_M_deliver 86 = .ok (.iaload, 1) := by decide +kernel
theorem d_M_deliver_87 : decode b_M_deliver 87 = .ok (.iastore, 1) := by decide +kernel
theorem d_M_deliver_88 : decode b_M_deliver 88 = .ok (.aload_n 0, 1) := by decide +kernel
theorem d_M_deliver_89 : decode b_M_deliver 89 = .ok (.getfield 78, 3) := by decide +kernel
theorem d_M_deliver_92 : decode b_M_deliver 92 = .ok (.iload 6, 2) := by decide +kernel
theorem d_M_deliver_94 : decode b_M_deliver 94 = .ok (.aload_n 0, 1) := by decide +kernel
theorem d_M_deliver_95 : decode b_M_deliver 95 = .ok (.getfield 78, 3) := by decide +kernel
theorem d_M_deliver_98 : decode b_M_deliver 98 = .ok (.iload 6, 2) := by decide +kernel
theorem d_M_deliver_100 : decode b_M_deliver 100 = .ok (.iconst 1, 1) := by decide +kernel
theorem d_M_deliver_101 : decode b_M_deliver 101 = .ok (.iadd, 1) := by decide +kernel
theorem d_M_deliver_102 : decode b_M_deliver 102 = .ok (.iaload, 1) := by decide +kernel
theorem d_M_deliver_103 : decode b_M_deliver 103 = .ok (.iastore, 1) := by decide +kernel
theorem d_M_deliver_104 : decode b_M_deliver 104 = .ok (.aload_n 0, 1) := by decide +kernel
theorem d_M_deliver_105 : decode b_M_deliver 105 = .ok (.getfield 81, 3) := by decide +kernel
theorem d_M_deliver_108 : decode b_M_deliver 108 = .ok (.iload 6, 2) := by decide +kernel
theorem d_M_deliver_110 : decode b_M_deliver 110 = .ok (.aload_n 0, 1) := by decide +kernel
theorem d_M_deliver_111 : decode b_M_deliver 111 = .ok (.getfield 81, 3) := by decide +kernel
theorem d_M_deliver_114 : decode b_M_deliver 114 = .ok (.iload 6, 2) := by decide +kernel
theorem d_M_deliver_116 : decode b_M_deliver 116 = .ok (.iconst 1, 1) := by decide +kernel
theorem d_M_deliver_117 : decode b_M_deliver 117 = .ok (.iadd, 1) := by decide +kernel
theorem d_M_deliver_118 : decode b_M_deliver 118 = .ok (.iaload, 1) := by decide +kernel
theorem d_M_deliver_119 : decode b_M_deliver 119 = .ok (.iastore, 1) := by decide +kernel
theorem d_M_deliver_120 : decode b_M_deliver 120 = .ok (.iinc 6 1, 3) := by decide +kernel
theorem d_M_deliver_123 : decode b_M_deliver 123 = .ok (.goto (-64), 3) := by decide +kernel
theorem d_M_deliver_126 : decode b_M_deliver 126 = .ok (.aload_n 0, 1) := by decide +kernel
theorem d_M_deliver_127 : decode b_M_deliver 127 = .ok (.iconst 1, 1) := by decide +kernel
theorem d_M_deliver_128 : decode b_M_deliver 128 = .ok (.iload_n 1, 1) := by decide +kernel
theorem d_M_deliver_129 : decode b_M_deliver 129 = .ok (.isub, 1) := by decide +kernel
theorem d_M_deliver_130 : decode b_M_deliver 130 = .ok (.iload_n 3, 1) := by decide +kernel
theorem d_M_deliver_131 : decode b_M_deliver 131 = .ok (.iload 4, 2) := by decide +kernel
theorem d_M_deliver_133 : decode b_M_deliver 133 = .ok (.iload 5, 2) := by decide +kernel
theorem d_M_deliver_135 : decode b_M_deliver 135 = .ok (.invokevirtual 133, 3) := by decide +kernel
theorem d_M_deliver_138 : decode b_M_deliver 138 = .ok (.iload_n 3, 1) := by decide +kernel
theorem d_M_deliver_139 : decode b_M_deliver 139 = .ok (.ireturn, 1) := by decide +kernel
theorem d_M_arrive_0 : decode b_M_arrive 0 = .ok (.iload_n 2, 1) := by decide +kernel
theorem d_M_arrive_1 : decode b_M_arrive 1 = .ok (.iconst 1, 1) := by decide +kernel
theorem d_M_arrive_2 : decode b_M_arrive 2 = .ok (.if_icmp .ne 13, 3) := by decide +kernel
theorem d_M_arrive_5 : decode b_M_arrive 5 = .ok (.aload_n 0, 1) := by decide +kernel
theorem d_M_arrive_6 : decode b_M_arrive 6 = .ok (.getfield 25, 3) := by decide +kernel
theorem d_M_arrive_9 : decode b_M_arrive 9 = .ok (.iload_n 3, 1) := by decide +kernel
theorem d_M_arrive_10 : decode b_M_arrive 10 = .ok (.iconst 1, 1) := by decide +kernel
theorem d_M_arrive_11 : decode b_M_arrive 11 = .ok (.bastore, 1) := by decide +kernel
theorem d_M_arrive_12 : decode b_M_arrive 12 = .ok (.goto 167, 3) := by decide +kernel
theorem d_M_arrive_15 : decode b_M_arrive 15 = .ok (.iload_n 2, 1) := by decide +kernel
theorem d_M_arrive_16 : decode b_M_arrive 16 = .ok (.iconst 2, 1) := by decide +kernel
theorem d_M_arrive_17 : decode b_M_arrive 17 = .ok (.if_icmp .ne 44, 3) := by decide +kernel
theorem d_M_arrive_20 : decode b_M_arrive 20 = .ok (.aload_n 0, 1) := by decide +kernel
theorem d_M_arrive_21 : decode b_M_arrive 21 = .ok (.getfield 22, 3) := by decide +kernel
theorem d_M_arrive_24 : decode b_M_arrive 24 = .ok (.iload_n 3, 1) := by decide +kernel
theorem d_M_arrive_25 : decode b_M_arrive 25 = .ok (.iconst 2, 1) := by decide +kernel
theorem d_M_arrive_26 : decode b_M_arrive 26 = .ok (.iastore, 1) := by decide +kernel
theorem d_M_arrive_27 : decode b_M_arrive 27 = .ok (.aload_n 0, 1) := by decide +kernel
theorem d_M_arrive_28 : decode b_M_arrive 28 = .ok (.getfield 63, 3) := by decide +kernel
theorem d_M_arrive_31 : decode b_M_arrive 31 = .ok (.iload_n 1, 1) := by decide +kernel
theorem d_M_arrive_32 : decode b_M_arrive 32 = .ok (.baload, 1) := by decide +kernel
theorem d_M_arrive_33 : decode b_M_arrive 33 = .ok (.ifCond .eq 146, 3) := by decide +kernel
theorem d_M_arrive_36 : decode b_M_arrive 36 = .ok (.aload_n 0, 1) := by decide +kernel
theorem d_M_arrive_37 : decode b_M_arrive 37 = .ok (.getfield 32, 3) := by decide +kernel
theorem d_M_arrive_40 : decode b_M_arrive 40 = .ok (.bipush 32, 2) := by decide +kernel
theorem d_M_arrive_42 : decode b_M_arrive 42 = .ok (.iload_n 1, 1) := by decide +kernel
theorem d_M_arrive_43 : decode b_M_arrive 43 = .ok (.imul, 1) := by decide +kernel
theorem d_M_arrive_44 : decode b_M_arrive 44 = .ok (.aload_n 0, 1) := by decide +kernel
theorem d_M_arrive_45 : decode b_M_arrive 45 = .ok (.getfield 13, 3) := by decide +kernel
theorem d_M_arrive_48 : decode b_M_arrive 48 = .ok (.iload_n 3, 1) := by decide +kernel
theorem d_M_arrive_49 : decode b_M_arrive 49 = .ok (.iaload, 1) := by decide +kernel
theorem d_M_arrive_50 : decode b_M_arrive 50 = .ok (.iadd, 1) := by decide +kernel
theorem d_M_arrive_51 : decode b_M_arrive 51 = .ok (.iconst 0, 1) := by decide +kernel
theorem d_M_arrive_52 : decode b_M_arrive 52 = .ok (.bastore, 1) := by decide +kernel
theorem d_M_arrive_53 : decode b_M_arrive 53 = .ok (.aload_n 0, 1) := by decide +kernel
theorem d_M_arrive_54 : decode b_M_arrive 54 = .ok (.iload_n 1, 1) := by decide +kernel
theorem d_M_arrive_55 : decode b_M_arrive 55 = .ok (.invokevirtual 136, 3) := by decide +kernel
theorem d_M_arrive_58 : decode b_M_arrive 58 = .ok (.goto 121, 3) := by decide +kernel
theorem d_M_arrive_61 : decode b_M_arrive 61 = .ok (.iload_n 2, 1) := by decide +kernel
theorem d_M_arrive_62 : decode b_M_arrive 62 = .ok (.iconst 3, 1) := by decide +kernel
theorem d_M_arrive_63 : decode b_M_arrive 63 = .ok (.if_icmp .ne 27, 3) := by decide +kernel
theorem d_M_arrive_66 : decode b_M_arrive 66 = .ok (.aload_n 0, 1) := by decide +kernel
theorem d_M_arrive_67 : decode b_M_arrive 67 = .ok (.getfield 29, 3) := by decide +kernel
theorem d_M_arrive_70 : decode b_M_arrive 70 = .ok (.bipush 32, 2) := by decide +kernel
theorem d_M_arrive_72 : decode b_M_arrive 72 = .ok (.iload_n 1, 1) := by decide +kernel
theorem d_M_arrive_73 : decode b_M_arrive 73 = .ok (.imul, 1) := by decide +kernel
theorem d_M_arrive_74 : decode b_M_arrive 74 = .ok (.iload_n 3, 1) := by decide +kernel
theorem d_M_arrive_75 : decode b_M_arrive 75 = .ok (.iadd, 1) := by decide +kernel
theorem d_M_arrive_76 : decode b_M_arrive 76 = .ok (.iload 4, 2) := by decide +kernel
theorem d_M_arrive_78 : decode b_M_arrive 78 = .ok (.iastore, 1) := by decide +kernel
theorem d_M_arrive_79 : decode b_M_arrive 79 = .ok (.aload_n 0, 1) := by decide +kernel
theorem d_M_arrive_80 : decode b_M_arrive 80 = .ok (.iload_n 1, 1) := by decide +kernel
theorem d_M_arrive_81 : decode b_M_arrive 81 = .ok (.iconst 4, 1) := by decide +kernel
theorem d_M_arrive_82 : decode b_M_arrive 82 = .ok (.iload_n 3, 1) := by decide +kernel
theorem d_M_arrive_83 : decode b_M_arrive 83 = .ok (.iconst 0, 1) := by decide +kernel
theorem d_M_arrive_84 : decode b_M_arrive 84 = .ok (.invokevirtual 105, 3) := by decide +kernel
theorem d_M_arrive_87 : decode b_M_arrive 87 = .ok (.goto 92, 3) := by decide +kernel
theorem d_M_arrive_90 : decode b_M_arrive 90 = .ok (.iload_n 2, 1) := by decide +kernel
theorem d_M_arrive_91 : decode b_M_arrive 91 = .ok (.iconst 4, 1) := by decide +kernel
theorem d_M_arrive_92 : decode b_M_arrive 92 = .ok (.if_icmp .ne 23, 3) := by decide +kernel
theorem d_M_arrive_95 : decode b_M_arrive 95 = .ok (.aload_n 0, 1) := by decide +kernel
theorem d_M_arrive_96 : decode b_M_arrive 96 = .ok (.getfield 32, 3) := by decide +kernel
theorem d_M_arrive_99 : decode b_M_arrive 99 = .ok (.bipush 32, 2) := by decide +kernel
theorem d_M_arrive_101 : decode b_M_arrive 101 = .ok (.iload_n 1, 1) := by decide +kernel
theorem d_M_arrive_102 : decode b_M_arrive 102 = .ok (.imul, 1) := by decide +kernel
theorem d_M_arrive_103 : decode b_M_arrive 103 = .ok (.iload_n 3, 1) := by decide +kernel
theorem d_M_arrive_104 : decode b_M_arrive 104 = .ok (.iadd, 1) := by decide +kernel
theorem d_M_arrive_105 : decode b_M_arrive 105 = .ok (.iconst 0, 1) := by decide +kernel
theorem d_M_arrive_106 : decode b_M_arrive 106 = .ok (.bastore, 1) := by decide +kernel
theorem d_M_arrive_107 : decode b_M_arrive 107 = .ok (.aload_n 0, 1) := by decide +kernel
theorem d_M_arrive_108 : decode b_M_arrive 108 = .ok (.iload_n 1, 1) := by decide +kernel
theorem d_M_arrive_109 : decode b_M_arrive 109 = .ok (.invokevirtual 136, 3) := by decide +kernel
theorem d_M_arrive_112 : decode b_M_arrive 112 = .ok (.goto 67, 3) := by decide +kernel
theorem d_M_arrive_115 : decode b_M_arrive 115 = .ok (.aload_n 0, 1) := by decide +kernel
theorem d_M_arrive_116 : decode b_M_arrive 116 = .ok (.getfield 66, 3) := by decide +kernel
theorem d_M_arrive_119 : decode b_M_arrive 119 = .ok (.iload_n 1, 1) := by decide +kernel
theorem d_M_arrive_120 : decode b_M_arrive 120 = .ok (.iconst 0, 1) := by decide +kernel
theorem d_M_arrive_121 : decode b_M_arrive 121 = .ok (.bastore, 1) := by decide +kernel
theorem d_M_arrive_122 : decode b_M_arrive 122 = .ok (.aload_n 0, 1) := by decide +kernel
theorem d_M_arrive_123 : decode b_M_arrive 123 = .ok (.getfield 51, 3) := by decide +kernel
theorem d_M_arrive_126 : decode b_M_arrive 126 = .ok (.iload_n 1, 1) := by decide +kernel
theorem d_M_arrive_127 : decode b_M_arrive 127 = .ok (.iconst 0, 1) := by decide +kernel
theorem d_M_arrive_128 : decode b_M_arrive 128 = .ok (.bastore, 1) := by decide +kernel
theorem d_M_arrive_129 : decode b_M_arrive 129 = .ok (.aload_n 0, 1) := by decide +kernel
theorem d_M_arrive_130 : decode b_M_arrive 130 = .ok (.getfield 54, 3) := by decide +kernel
theorem d_M_arrive_133 : decode b_M_arrive 133 = .ok (.iload_n 1, 1) := by decide +kernel
theorem d_M_arrive_134 : decode b_M_arrive 134 = .ok (.iconst 0, 1) := by decide +kernel
theorem d_M_arrive_135 : decode b_M_arrive 135 = .ok (.bastore, 1) := by decide +kernel
theorem d_M_arrive_136 : decode b_M_arrive 136 = .ok (.iconst 0, 1) := by decide +kernel
theorem d_M_arrive_137 : decode b_M_arrive 137 = .ok (.istore 5, 2) := by decide +kernel
theorem d_M_arrive_139 : decode b_M_arrive 139 = .ok (.iload 5, 2) := by decide +kernel
theorem d_M_arrive_141 : decode b_M_arrive 141 = .ok (.bipush 32, 2) := by decide +kernel
theorem d_M_arrive_143 : decode b_M_arrive 143 = .ok (.if_icmp .ge 22, 3) := by decide +kernel
theorem d_M_arrive_146 : decode b_M_arrive 146 = .ok (.aload_n 0, 1) := by decide +kernel
theorem d_M_arrive_147 : decode b_M_arrive 147 = .ok (.getfield 32, 3) := by decide +kernel
theorem d_M_arrive_150 : decode b_M_arrive 150 = .ok (.bipush 32, 2) := by decide +kernel
theorem d_M_arrive_152 : decode b_M_arrive 152 = .ok (.iload_n 1, 1) := by decide +kernel
theorem d_M_arrive_153 : decode b_M_arrive 153 = .ok (.imul, 1) := by decide +kernel
theorem d_M_arrive_154 : decode b_M_arrive 154 = .ok (.iload 5, 2) := by decide +kernel
theorem d_M_arrive_156 : decode b_M_arrive 156 = .ok (.iadd, 1) := by decide +kernel
theorem d_M_arrive_157 : decode b_M_arrive 157 = .ok (.iconst 0, 1) := by decide +kernel
theorem d_M_arrive_158 : decode b_M_arrive 158 = .ok (.bastore, 1) := by decide +kernel
theorem d_M_arrive_159 : decode b_M_arrive 159 = .ok (.iinc 5 1, 3) := by decide +kernel
theorem d_M_arrive_162 : decode b_M_arrive 162 = .ok (.goto (-23), 3) := by decide +kernel
theorem d_M_arrive_165 : decode b_M_arrive 165 = .ok (.aload_n 0, 1) := by decide +kernel
theorem d_M_arrive_166 : decode b_M_arrive 166 = .ok (.getfield 41, 3) := by decide +kernel
theorem d_M_arrive_169 : decode b_M_arrive 169 = .ok (.iload_n 1, 1) := by decide +kernel
theorem d_M_arrive_170 : decode b_M_arrive 170 = .ok (.iload_n 3, 1) := by decide +kernel
theorem d_M_arrive_171 : decode b_M_arrive 171 = .ok (.iastore, 1) := by decide +kernel
theorem d_M_arrive_172 : decode b_M_arrive 172 = .ok (.aload_n 0, 1) := by decide +kernel
theorem d_M_arrive_173 : decode b_M_arrive 173 = .ok (.getfield 44, 3) := by decide +kernel
theorem d_M_arrive_176 : decode b_M_arrive 176 = .ok (.iload_n 1, 1) := by decide +kernel
theorem d_M_arrive_177 : decode b_M_arrive 177 = .ok (.iconst 0, 1) := by decide +kernel
theorem d_M_arrive_178 : decode b_M_arrive 178 = .ok (.iastore, 1) := by decide +kernel
theorem d_M_arrive_179 : decode b_M_arrive 179 = .ok (.return_, 1) := by decide +kernel
theorem d_M_store_0 : decode b_M_store 0 = .ok (.iload_n 1, 1) := by decide +kernel
theorem d_M_store_1 : decode b_M_store 1 = .ok (.invokestatic 117, 3) := by decide +kernel
theorem d_M_store_4 : decode b_M_store 4 = .ok (.ifCond .eq 7, 3) := by decide +kernel
theorem d_M_store_7 : decode b_M_store 7 = .ok (.iload_n 2, 1) := by decide +kernel
theorem d_M_store_8 : decode b_M_store 8 = .ok (.ifCond .ge 5, 3) := by decide +kernel
theorem d_M_store_11 : decode b_M_store 11 = .ok (.iconst 0, 1) := by decide +kernel
theorem d_M_store_12 : decode b_M_store 12 = .ok (.ireturn, 1) := by decide +kernel
theorem d_M_store_13 : decode b_M_store 13 = .ok (.iconst 0, 1) := by decide +kernel
theorem d_M_store_14 : decode b_M_store 14 = .ok (.istore_n 3, 1) := by decide +kernel
theorem d_M_store_15 : decode b_M_store 15 = .ok (.iconst 0, 1) := by decide +kernel
theorem d_M_store_16 : decode b_M_store 16 = .ok (.istore 4, 2) := by decide +kernel
theorem d_M_store_18 : decode b_M_store 18 = .ok (.iconst 1, 1) := by decide +kernel
theorem d_M_store_19 : decode b_M_store 19 = .ok (.istore 5, 2) := by decide +kernel
theorem d_M_store_21 : decode b_M_store 21 = .ok (.iload 5, 2) := by decide +kernel
theorem d_M_store_23 : decode b_M_store 23 = .ok (.aload_n 0, 1) := by decide +kernel
theorem d_M_store_24 : decode b_M_store 24 = .ok (.getfield 87, 3) := by decide +kernel
theorem d_M_store_27 : decode b_M_store 27 = .ok (.if_icmp .gt 108, 3) := by decide +kernel
theorem d_M_store_30 : decode b_M_store 30 = .ok (.aload_n 0, 1) := by decide +kernel
theorem d_M_store_31 : decode b_M_store 31 = .ok (.getfield 25, 3) := by decide +kernel
theorem d_M_store_34 : decode b_M_store 34 = .ok (.iload 5, 2) := by decide +kernel
theorem d_M_store_36 : decode b_M_store 36 = .ok (.baload, 1) := by decide +kernel
theorem d_M_store_37 : decode b_M_store 37 = .ok (.ifCond .eq 92, 3) := by decide +kernel
theorem d_M_store_40 : decode b_M_store 40 = .ok (.aload_n 0, 1) := by decide +kernel
theorem d_M_store_41 : decode b_M_store 41 = .ok (.getfield 7, 3) := by decide +kernel
theorem d_M_store_44 : decode b_M_store 44 = .ok (.iload 5, 2) := by decide +kernel
theorem d_M_store_46 : decode b_M_store 46 = .ok (.iaload, 1) := by decide +kernel
theorem d_M_store_47 : decode b_M_store 47 = .ok (.iconst 1, 1) := by decide +kernel
theorem d_M_store_48 : decode b_M_store 48 = .ok (.iload_n 1, 1) := by decide +kernel
theorem d_M_store_49 : decode b_M_store 49 = .ok (.isub, 1) := by decide +kernel
theorem d_M_store_50 : decode b_M_store 50 = .ok (.if_icmp .ne 79, 3) := by decide +kernel
theorem d_M_store_53 : decode b_M_store 53 = .ok (.iload_n 3, 1) := by decide +kernel
theorem d_M_store_54 : decode b_M_store 54 = .ok (.ifCond .ne 6, 3) := by decide +kernel
theorem d_M_store_57 : decode b_M_store 57 = .ok (.iload 5, 2) := by decide +kernel
theorem d_M_store_59 : decode b_M_store 59 = .ok (.istore_n 3, 1) := by decide +kernel
theorem d_M_store_60 : decode b_M_store 60 = .ok (.aload_n 0, 1) := by decide +kernel
theorem d_M_store_61 : decode b_M_store 61 = .ok (.getfield 19, 3) := by decide +kernel
theorem d_M_store_64 : decode b_M_store 64 = .ok (.iload 5, 2) := by decide +kernel
theorem d_M_store_66 : decode b_M_store 66 = .ok (.iaload, 1) := by decide +kernel
theorem d_M_store_67 : decode b_M_store 67 = .ok (.aload_n 0, 1) := by decide +kernel
theorem d_M_store_68 : decode b_M_store 68 = .ok (.getfield 19, 3) := by decide +kernel
theorem d_M_store_71 : decode b_M_store 71 = .ok (.iload_n 3, 1) := by decide +kernel
theorem d_M_store_72 : decode b_M_store 72 = .ok (.iaload, 1) := by decide +kernel
theorem d_M_store_73 : decode b_M_store 73 = .ok (.if_icmp .ne 56, 3) := by decide +kernel
theorem d_M_store_76 : decode b_M_store 76 = .ok (.iload 4, 2) := by decide +kernel
theorem d_M_store_78 : decode b_M_store 78 = .ok (.iload_n 2, 1) := by decide +kernel
theorem d_M_store_79 : decode b_M_store 79 = .ok (.if_icmp .ne 47, 3) := by decide +kernel
theorem d_M_store_82 : decode b_M_store 82 = .ok (.aload_n 0, 1) := by decide +kernel
theorem d_M_store_83 : decode b_M_store 83 = .ok (.getfield 25, 3) := by decide +kernel
theorem d_M_store_86 : decode b_M_store 86 = .ok (.iload 5, 2) := by decide +kernel
theorem d_M_store_88 : decode b_M_store 88 = .ok (.iconst 0, 1) := by decide +kernel
theorem d_M_store_89 : decode b_M_store 89 = .ok (.bastore, 1) := by decide +kernel
theorem d_M_store_90 : decode b_M_store 90 = .ok (.aload_n 0, 1) := by decide +kernel
theorem d_M_store_91 : decode b_M_store 91 = .ok (.getfield 29, 3) := by decide +kernel
theorem d_M_store_94 : decode b_M_store 94 = .ok (.bipush 32, 2) := by decide +kernel
theorem d_M_store_96 : decode b_M_store 96 = .ok (.iload_n 1, 1) := by decide +kernel
theorem d_M_store_97 : decode b_M_store 97 = .ok (.imul, 1) := by decide +kernel
theorem d_M_store_98 : decode b_M_store 98 = .ok (.aload_n 0, 1) := by decide +kernel
theorem d_M_store_99 : decode b_M_store 99 = .ok (.getfield 13, 3) := by decide +kernel
theorem d_M_store_102 : decode b_M_store 102 = .ok (.iload 5, 2) := by decide +kernel
theorem d_M_store_104 : decode b_M_store 104 = .ok (.iaload, 1) := by decide +kernel
theorem d_M_store_105 : decode b_M_store 105 = .ok (.iadd, 1) := by decide +kernel
theorem d_M_store_106 : decode b_M_store 106 = .ok (.aload_n 0, 1) := by decide +kernel
theorem d_M_store_107 : decode b_M_store 107 = .ok (.getfield 16, 3) := by decide +kernel
theorem d_M_store_110 : decode b_M_store 110 = .ok (.iload 5, 2) := by decide +kernel
theorem d_M_store_112 : decode b_M_store 112 = .ok (.iaload, 1) := by decide +kernel
theorem d_M_store_113 : decode b_M_store 113 = .ok (.iastore, 1) := by decide +kernel
theorem d_M_store_114 : decode b_M_store 114 = .ok (.aload_n 0, 1) := by decide +kernel
theorem d_M_store_115 : decode b_M_store 115 = .ok (.iload_n 1, 1) := by decide +kernel
theorem d_M_store_116 : decode b_M_store 116 = .ok (.iconst 2, 1) := by decide +kernel
theorem d_M_store_117 : decode b_M_store 117 = .ok (.iload 5, 2) := by decide +kernel
theorem d_M_store_119 : decode b_M_store 119 = .ok (.iconst 0, 1) := by decide +kernel
theorem d_M_store_120 : decode b_M_store 120 = .ok (.invokevirtual 105, 3) := by decide +kernel
theorem d_M_store_123 : decode b_M_store 123 = .ok (.iload 5, 2) := by decide +kernel
theorem d_M_store_125 : decode b_M_store 125 = .ok (.ireturn, 1) := by decide +kernel
theorem d_M_store_126 : decode b_M_store 126 = .ok (.iinc 4 1, 3) := by decide +kernel
theorem d_M_store_129 : decode b_M_store 129 = .ok (.iinc 5 1, 3) := by decide +kernel
theorem d_M_store_132 : decode b_M_store 132 = .ok (.goto (-111), 3) := by decide +kernel
theorem d_M_store_135 : decode b_M_store 135 = .ok (.iconst 0, 1) := by decide +kernel
theorem d_M_store_136 : decode b_M_store 136 = .ok (.ireturn, 1) := by decide +kernel
theorem d_M_copy_0 : decode b_M_copy 0 = .ok (.iload_n 1, 1) := by decide +kernel
theorem d_M_copy_1 : decode b_M_copy 1 = .ok (.invokestatic 117, 3) := by decide +kernel
theorem d_M_copy_4 : decode b_M_copy 4 = .ok (.ifCond .eq 22, 3) := by decide +kernel
theorem d_M_copy_7 : decode b_M_copy 7 = .ok (.aload_n 0, 1) := by decide +kernel
theorem d_M_copy_8 : decode b_M_copy 8 = .ok (.getfield 63, 3) := by decide +kernel
theorem d_M_copy_11 : decode b_M_copy 11 = .ok (.iload_n 1, 1) := by decide +kernel
theorem d_M_copy_12 : decode b_M_copy 12 = .ok (.baload, 1) := by decide +kernel
theorem d_M_copy_13 : decode b_M_copy 13 = .ok (.ifCond .eq 13, 3) := by decide +kernel
theorem d_M_copy_16 : decode b_M_copy 16 = .ok (.aload_n 0, 1) := by decide +kernel
theorem d_M_copy_17 : decode b_M_copy 17 = .ok (.iload_n 1, 1) := by decide +kernel
theorem d_M_copy_18 : decode b_M_copy 18 = .ok (.iconst (-1), 1) := by decide +kernel
theorem d_M_copy_19 : decode b_M_copy 19 = .ok (.invokevirtual 139, 3) := by decide +kernel
theorem d_M_copy_22 : decode b_M_copy 22 = .ok (.iconst 4, 1) := by decide +kernel
theorem d_M_copy_23 : decode b_M_copy 23 = .ok (.if_icmp .lt 5, 3) := by decide +kernel
theorem d_M_copy_26 : decode b_M_copy 26 = .ok (.iconst (-1), 1) := by decide +kernel
theorem d_M_copy_27 : decode b_M_copy 27 = .ok (.ireturn, 1) := by decide +kernel
theorem d_M_copy_28 : decode b_M_copy 28 = .ok (.iconst 0, 1) := by decide +kernel
theorem d_M_copy_29 : decode b_M_copy 29 = .ok (.istore_n 2, 1) := by decide +kernel
theorem d_M_copy_30 : decode b_M_copy 30 = .ok (.iload_n 2, 1) := by decide +kernel
theorem d_M_copy_31 : decode b_M_copy 31 = .ok (.bipush 32, 2) := by decide +kernel
theorem d_M_copy_33 : decode b_M_copy 33 = .ok (.if_icmp .ge 62, 3) := by decide +kernel
theorem d_M_copy_36 : decode b_M_copy 36 = .ok (.aload_n 0, 1) := by decide +kernel
theorem d_M_copy_37 : decode b_M_copy 37 = .ok (.getfield 32, 3) := by decide +kernel
theorem d_M_copy_40 : decode b_M_copy 40 = .ok (.bipush 32, 2) := by decide +kernel
theorem d_M_copy_42 : decode b_M_copy 42 = .ok (.iload_n 1, 1) := by decide +kernel
theorem d_M_copy_43 : decode b_M_copy 43 = .ok (.imul, 1) := by decide +kernel
theorem d_M_copy_44 : decode b_M_copy 44 = .ok (.iload_n 2, 1) := by decide +kernel
theorem d_M_copy_45 : decode b_M_copy 45 = .ok (.iadd, 1) := by decide +kernel
theorem d_M_copy_46 : decode b_M_copy 46 = .ok (.baload, 1) := by decide +kernel
theorem d_M_copy_47 : decode b_M_copy 47 = .ok (.ifCond .eq 42, 3) := by decide +kernel
theorem d_M_copy_50 : decode b_M_copy 50 = .ok (.aload_n 0, 1) := by decide +kernel
theorem d_M_copy_51 : decode b_M_copy 51 = .ok (.iload_n 1, 1) := by decide +kernel
theorem d_M_copy_52 : decode b_M_copy 52 = .ok (.iload_n 2, 1) := by decide +kernel
theorem d_M_copy_53 : decode b_M_copy 53 = .ok (.invokevirtual 139, 3) := by decide +kernel
theorem d_M_copy_56 : decode b_M_copy 56 = .ok (.ifCond .ne 33, 3) := by decide +kernel
theorem d_M_copy_59 : decode b_M_copy 59 = .ok (.aload_n 0, 1) := by decide +kernel
theorem d_M_copy_60 : decode b_M_copy 60 = .ok (.iload_n 1, 1) := by decide +kernel
theorem d_M_copy_61 : decode b_M_copy 61 = .ok (.iload_n 2, 1) := by decide +kernel
theorem d_M_copy_62 : decode b_M_copy 62 = .ok (.iload_n 2, 1) := by decide +kernel
theorem d_M_copy_63 : decode b_M_copy 63 = .ok (.invokevirtual 90, 3) := by decide +kernel
theorem d_M_copy_66 : decode b_M_copy 66 = .ok (.ifCond .ne 23, 3) := by decide +kernel
theorem d_M_copy_69 : decode b_M_copy 69 = .ok (.aload_n 0, 1) := by decide +kernel
theorem d_M_copy_70 : decode b_M_copy 70 = .ok (.iload_n 1, 1) := by decide +kernel
theorem d_M_copy_71 : decode b_M_copy 71 = .ok (.iconst 3, 1) := by decide +kernel
theorem d_M_copy_72 : decode b_M_copy 72 = .ok (.iload_n 2, 1) := by decide +kernel
theorem d_M_copy_73 : decode b_M_copy 73 = .ok (.aload_n 0, 1) := by decide +kernel
theorem d_M_copy_74 : decode b_M_copy 74 = .ok (.getfield 29, 3) := by decide +kernel
theorem d_M_copy_77 : decode b_M_copy 77 = .ok (.bipush 32, 2) := by decide +kernel
theorem d_M_copy_79 : decode b_M_copy 79 = .ok (.iload_n 1, 1) := by decide +kernel
theorem d_M_copy_80 : decode b_M_copy 80 = .ok (.imul, 1) := by decide +kernel
theorem d_M_copy_81 : decode b_M_copy 81 = .ok (.iload_n 2, 1) := by decide +kernel
theorem d_M_copy_82 : decode b_M_copy 82 = .ok (.iadd, 1) := by decide +kernel
theorem d_M_copy_83 : decode b_M_copy 83 = .ok (.iaload, 1) := by decide +kernel
theorem d_M_copy_84 : decode b_M_copy 84 = .ok (.invokevirtual 105, 3) := by decide +kernel
theorem d_M_copy_87 : decode b_M_copy 87 = .ok (.iload_n 2, 1) := by decide +kernel
theorem d_M_copy_88 : decode b_M_copy 88 = .ok (.ireturn, 1) := by decide +kernel
theorem d_M_copy_89 : decode b_M_copy 89 = .ok (.iinc 2 1, 3) := by decide +kernel
theorem d_M_copy_92 : decode b_M_copy 92 = .ok (.goto (-62), 3) := by decide +kernel
theorem d_M_copy_95 : decode b_M_copy 95 = .ok (.iconst (-1), 1) := by decide +kernel
theorem d_M_copy_96 : decode b_M_copy 96 = .ok (.ireturn, 1) := by decide +kernel
theorem d_M_chosen_0 : decode b_M_chosen 0 = .ok (.aload_n 0, 1) := by decide +kernel
theorem d_M_chosen_1 : decode b_M_chosen 1 = .ok (.getfield 51, 3) := by decide +kernel
theorem d_M_chosen_4 : decode b_M_chosen 4 = .ok (.iconst 0, 1) := by decide +kernel
theorem d_M_chosen_5 : decode b_M_chosen 5 = .ok (.baload, 1) := by decide +kernel
theorem d_M_chosen_6 : decode b_M_chosen 6 = .ok (.ifCond .ne 12, 3) := by decide +kernel
theorem d_M_chosen_9 : decode b_M_chosen 9 = .ok (.aload_n 0, 1) := by decide +kernel
theorem d_M_chosen_10 : decode b_M_chosen 10 = .ok (.getfield 51, 3) := by decide +kernel
theorem d_M_chosen_13 : decode b_M_chosen 13 = .ok (.iconst 1, 1) := by decide +kernel
theorem d_M_chosen_14 : decode b_M_chosen 14 = .ok (.baload, 1) := by decide +kernel
theorem d_M_chosen_15 : decode b_M_chosen 15 = .ok (.ifCond .eq 18, 3) := by decide +kernel
theorem d_M_chosen_18 : decode b_M_chosen 18 = .ok (.aload_n 0, 1) := by decide +kernel
theorem d_M_chosen_19 : decode b_M_chosen 19 = .ok (.getfield 51, 3) := by decide +kernel
theorem d_M_chosen_22 : decode b_M_chosen 22 = .ok (.iconst 0, 1) := by decide +kernel
theorem d_M_chosen_23 : decode b_M_chosen 23 = .ok (.baload, 1) := by decide +kernel
theorem d_M_chosen_24 : decode b_M_chosen 24 = .ok (.ifCond .eq 7, 3) := by decide +kernel
theorem d_M_chosen_27 : decode b_M_chosen 27 = .ok (.iconst 1, 1) := by decide +kernel
theorem d_M_chosen_28 : decode b_M_chosen 28 = .ok (.goto 4, 3) := by decide +kernel
theorem d_M_chosen_31 : decode b_M_chosen 31 = .ok (.iconst 0, 1) := by decide +kernel
theorem d_M_chosen_32 : decode b_M_chosen 32 = .ok (.ireturn, 1) := by decide +kernel
theorem d_M_chosen_33 : decode b_M_chosen 33 = .ok (.aload_n 0, 1) := by decide +kernel
theorem d_M_chosen_34 : decode b_M_chosen 34 = .ok (.getfield 41, 3) := by decide +kernel
theorem d_M_chosen_37 : decode b_M_chosen 37 = .ok (.iconst 0, 1) := by decide +kernel
theorem d_M_chosen_38 : decode b_M_chosen 38 = .ok (.iaload, 1) := by decide +kernel
theorem d_M_chosen_39 : decode b_M_chosen 39 = .ok (.aload_n 0, 1) := by decide +kernel
theorem d_M_chosen_40 : decode b_M_chosen 40 = .ok (.getfield 41, 3) := by decide +kernel
theorem d_M_chosen_43 : decode b_M_chosen 43 = .ok (.iconst 1, 1) := by decide +kernel
theorem d_M_chosen_44 : decode b_M_chosen 44 = .ok (.iaload, 1) := by decide +kernel
theorem d_M_chosen_45 : decode b_M_chosen 45 = .ok (.if_icmp .eq 60, 3) := by decide +kernel
theorem d_M_chosen_48 : decode b_M_chosen 48 = .ok (.aload_n 0, 1) := by decide +kernel
theorem d_M_chosen_49 : decode b_M_chosen 49 = .ok (.getfield 44, 3) := by decide +kernel
theorem d_M_chosen_52 : decode b_M_chosen 52 = .ok (.iconst 0, 1) := by decide +kernel
theorem d_M_chosen_53 : decode b_M_chosen 53 = .ok (.iaload, 1) := by decide +kernel
theorem d_M_chosen_54 : decode b_M_chosen 54 = .ok (.ifCond .eq 20, 3) := by decide +kernel
theorem d_M_chosen_57 : decode b_M_chosen 57 = .ok (.aload_n 0, 1) := by decide +kernel
theorem d_M_chosen_58 : decode b_M_chosen 58 = .ok (.getfield 44, 3) := by decide +kernel
theorem d_M_chosen_61 : decode b_M_chosen 61 = .ok (.iconst 0, 1) := by decide +kernel
theorem d_M_chosen_62 : decode b_M_chosen 62 = .ok (.iaload, 1) := by decide +kernel
theorem d_M_chosen_63 : decode b_M_chosen 63 = .ok (.aload_n 0, 1) := by decide +kernel
theorem d_M_chosen_64 : decode b_M_chosen 64 = .ok (.getfield 41, 3) := by decide +kernel
theorem d_M_chosen_67 : decode b_M_chosen 67 = .ok (.iconst 1, 1) := by decide +kernel
theorem d_M_chosen_68 : decode b_M_chosen 68 = .ok (.iaload, 1) := by decide +kernel
theorem d_M_chosen_69 : decode b_M_chosen 69 = .ok (.if_icmp .ne 5, 3) := by decide +kernel
theorem d_M_chosen_72 : decode b_M_chosen 72 = .ok (.iconst 0, 1) := by decide +kernel
theorem d_M_chosen_73 : decode b_M_chosen 73 = .ok (.ireturn, 1) := by decide +kernel
theorem d_M_chosen_74 : decode b_M_chosen 74 = .ok (.aload_n 0, 1) := by decide +kernel
theorem d_M_chosen_75 : decode b_M_chosen 75 = .ok (.getfield 44, 3) := by decide +kernel
theorem d_M_chosen_78 : decode b_M_chosen 78 = .ok (.iconst 1, 1) := by decide +kernel
theorem d_M_chosen_79 : decode b_M_chosen 79 = .ok (.iaload, 1) := by decide +kernel
theorem d_M_chosen_80 : decode b_M_chosen 80 = .ok (.ifCond .eq 22, 3) := by decide +kernel
theorem d_M_chosen_83 : decode b_M_chosen 83 = .ok (.aload_n 0, 1) := by decide +kernel
theorem d_M_chosen_84 : decode b_M_chosen 84 = .ok (.getfield 44, 3) := by decide +kernel
theorem d_M_chosen_87 : decode b_M_chosen 87 = .ok (.iconst 1, 1) := by decide +kernel
theorem d_M_chosen_88 : decode b_M_chosen 88 = .ok (.iaload, 1) := by decide +kernel
theorem d_M_chosen_89 : decode b_M_chosen 89 = .ok (.aload_n 0, 1) := by decide +kernel
theorem d_M_chosen_90 : decode b_M_chosen 90 = .ok (.getfield 41, 3) := by decide +kernel
theorem d_M_chosen_93 : decode b_M_chosen 93 = .ok (.iconst 0, 1) := by decide +kernel
theorem d_M_chosen_94 : decode b_M_chosen 94 = .ok (.iaload, 1) := by decide +kernel
theorem d_M_chosen_95 : decode b_M_chosen 95 = .ok (.if_icmp .ne 7, 3) := by decide +kernel
theorem d_M_chosen_98 : decode b_M_chosen 98 = .ok (.iconst 1, 1) := by decide +kernel
theorem d_M_chosen_99 : decode b_M_chosen 99 = .ok (.goto 5, 3) := by decide +kernel
theorem d_M_chosen_102 : decode b_M_chosen 102 = .ok (.bipush (-8), 2) := by decide +kernel
theorem d_M_chosen_104 : decode b_M_chosen 104 = .ok (.ireturn, 1) := by decide +kernel
theorem d_M_chosen_105 : decode b_M_chosen 105 = .ok (.aload_n 0, 1) := by decide +kernel
theorem d_M_chosen_106 : decode b_M_chosen 106 = .ok (.getfield 54, 3) := by decide +kernel
theorem d_M_chosen_109 : decode b_M_chosen 109 = .ok (.iconst 0, 1) := by decide +kernel
theorem d_M_chosen_110 : decode b_M_chosen 110 = .ok (.baload, 1) := by decide +kernel
theorem d_M_chosen_111 : decode b_M_chosen 111 = .ok (.ifCond .ne 14, 3) := by decide +kernel
theorem d_M_chosen_114 : decode b_M_chosen 114 = .ok (.aload_n 0, 1) := by decide +kernel
theorem d_M_chosen_115 : decode b_M_chosen 115 = .ok (.getfield 54, 3) := by decide +kernel
theorem d_M_chosen_118 : decode b_M_chosen 118 = .ok (.iconst 1, 1) := by decide +kernel
