theorem d_V_init_0 : decode b_V_init 0 = .ok (.aload_n 0, 1) := by decide +kernel
theorem d_V_init_1 : decode b_V_init 1 = .ok (.invokespecial 1, 3) := by decide +kernel
theorem d_V_init_4 : decode b_V_init 4 = .ok (.aload_n 0, 1) := by decide +kernel
theorem d_V_init_5 : decode b_V_init 5 = .ok (.new 7, 3) := by decide +kernel
theorem d_V_init_8 : decode b_V_init 8 = .ok (.dup, 1) := by decide +kernel
theorem d_V_init_9 : decode b_V_init 9 = .ok (.iconst 0, 1) := by decide +kernel
theorem d_V_init_10 : decode b_V_init 10 = .ok (.invokespecial 9, 3) := by decide +kernel
theorem d_V_init_13 : decode b_V_init 13 = .ok (.putfield 12, 3) := by decide +kernel
theorem d_V_init_16 : decode b_V_init 16 = .ok (.aload_n 0, 1) := by decide +kernel
theorem d_V_init_17 : decode b_V_init 17 = .ok (.new 7, 3) := by decide +kernel
theorem d_V_init_20 : decode b_V_init 20 = .ok (.dup, 1) := by decide +kernel
theorem d_V_init_21 : decode b_V_init 21 = .ok (.iconst 1, 1) := by decide +kernel
theorem d_V_init_22 : decode b_V_init 22 = .ok (.invokespecial 9, 3) := by decide +kernel
theorem d_V_init_25 : decode b_V_init 25 = .ok (.putfield 18, 3) := by decide +kernel
theorem d_V_init_28 : decode b_V_init 28 = .ok (.aload_n 0, 1) := by decide +kernel
theorem d_V_init_29 : decode b_V_init 29 = .ok (.new 21, 3) := by decide +kernel
theorem d_V_init_32 : decode b_V_init 32 = .ok (.dup, 1) := by decide +kernel
theorem d_V_init_33 : decode b_V_init 33 = .ok (.invokespecial 23, 3) := by decide +kernel
theorem d_V_init_36 : decode b_V_init 36 = .ok (.putfield 24, 3) := by decide +kernel
theorem d_V_init_39 : decode b_V_init 39 = .ok (.aload_n 0, 1) := by decide +kernel
theorem d_V_init_40 : decode b_V_init 40 = .ok (.iconst 0, 1) := by decide +kernel
theorem d_V_init_41 : decode b_V_init 41 = .ok (.putfield 28, 3) := by decide +kernel
theorem d_V_init_44 : decode b_V_init 44 = .ok (.aload_n 0, 1) := by decide +kernel
theorem d_V_init_45 : decode b_V_init 45 = .ok (.iconst 1, 1) := by decide +kernel
theorem d_V_init_46 : decode b_V_init 46 = .ok (.putfield 32, 3) := by decide +kernel
theorem d_V_init_49 : decode b_V_init 49 = .ok (.return_, 1) := by decide +kernel
theorem d_V_write_0 : decode b_V_write 0 = .ok (.iload_n 1, 1) := by decide +kernel
theorem d_V_write_1 : decode b_V_write 1 = .ok (.invokestatic 36, 3) := by decide +kernel
theorem d_V_write_4 : decode b_V_write 4 = .ok (.ifCond .eq 10, 3) := by decide +kernel
theorem d_V_write_7 : decode b_V_write 7 = .ok (.iload_n 2, 1) := by decide +kernel
theorem d_V_write_8 : decode b_V_write 8 = .ok (.invokestatic 40, 3) := by decide +kernel
theorem d_V_write_11 : decode b_V_write 11 = .ok (.ifCond .ne 5, 3) := by decide +kernel
theorem d_V_write_14 : decode b_V_write 14 = .ok (.iconst (-1), 1) := by decide +kernel
theorem d_V_write_15 : decode b_V_write 15 = .ok (.ireturn, 1) := by decide +kernel
theorem d_V_write_16 : decode b_V_write 16 = .ok (.aload_n 0, 1) := by decide +kernel
theorem d_V_write_17 : decode b_V_write 17 = .ok (.iload_n 1, 1) := by decide +kernel
theorem d_V_write_18 : decode b_V_write 18 = .ok (.invokevirtual 43, 3) := by decide +kernel
theorem d_V_write_21 : decode b_V_write 21 = .ok (.astore 4, 2) := by decide +kernel
theorem d_V_write_23 : decode b_V_write 23 = .ok (.aload 4, 2) := by decide +kernel
theorem d_V_write_25 : decode b_V_write 25 = .ok (.getfield 47, 3) := by decide +kernel
theorem d_V_write_28 : decode b_V_write 28 = .ok (.ifCond .ne 6, 3) := by decide +kernel
theorem d_V_write_31 : decode b_V_write 31 = .ok (.bipush (-2), 2) := by decide +kernel
theorem d_V_write_33 : decode b_V_write 33 = .ok (.ireturn, 1) := by decide +kernel
theorem d_V_write_34 : decode b_V_write 34 = .ok (.aload 4, 2) := by decide +kernel
theorem d_V_write_36 : decode b_V_write 36 = .ok (.getfield 50, 3) := by decide +kernel
theorem d_V_write_39 : decode b_V_write 39 = .ok (.ifCond .ne 6, 3) := by decide +kernel
theorem d_V_write_42 : decode b_V_write 42 = .ok (.bipush (-3), 2) := by decide +kernel
theorem d_V_write_44 : decode b_V_write 44 = .ok (.ireturn, 1) := by decide +kernel
theorem d_V_write_45 : decode b_V_write 45 = .ok (.aload_n 0, 1) := by decide +kernel
theorem d_V_write_46 : decode b_V_write 46 = .ok (.getfield 24, 3) := by decide +kernel
theorem d_V_write_49 : decode b_V_write 49 = .ok (.invokevirtual 53, 3) := by decide +kernel
theorem d_V_write_52 : decode b_V_write 52 = .ok (.ifCond .ne 16, 3) := by decide +kernel
theorem d_V_write_55 : decode b_V_write 55 = .ok (.aload_n 0, 1) := by decide +kernel
theorem d_V_write_56 : decode b_V_write 56 = .ok (.getfield 24, 3) := by decide +kernel
theorem d_V_write_59 : decode b_V_write 59 = .ok (.iload_n 1, 1) := by decide +kernel
theorem d_V_write_60 : decode b_V_write 60 = .ok (.invokevirtual 57, 3) := by decide +kernel
theorem d_V_write_63 : decode b_V_write 63 = .ok (.bipush 8, 2) := by decide +kernel
theorem d_V_write_65 : decode b_V_write 65 = .ok (.if_icmp .lt 6, 3) := by decide +kernel
theorem d_V_write_68 : decode b_V_write 68 = .ok (.bipush (-4), 2) := by decide +kernel
theorem d_V_write_70 : decode b_V_write 70 = .ok (.ireturn, 1) := by decide +kernel
theorem d_V_write_71 : decode b_V_write 71 = .ok (.iload_n 2, 1) := by decide +kernel
theorem d_V_write_72 : decode b_V_write 72 = .ok (.iconst 4, 1) := by decide +kernel
theorem d_V_write_73 : decode b_V_write 73 = .ok (.idiv, 1) := by decide +kernel
theorem d_V_write_74 : decode b_V_write 74 = .ok (.istore 5, 2) := by decide +kernel
theorem d_V_write_76 : decode b_V_write 76 = .ok (.aload_n 0, 1) := by decide +kernel
theorem d_V_write_77 : decode b_V_write 77 = .ok (.getfield 24, 3) := by decide +kernel
theorem d_V_write_80 : decode b_V_write 80 = .ok (.iload_n 1, 1) := by decide +kernel
theorem d_V_write_81 : decode b_V_write 81 = .ok (.invokevirtual 61, 3) := by decide +kernel
theorem d_V_write_84 : decode b_V_write 84 = .ok (.istore 6, 2) := by decide +kernel
theorem d_V_write_86 : decode b_V_write 86 = .ok (.aload 4, 2) := by decide +kernel
theorem d_V_write_88 : decode b_V_write 88 = .ok (.getfield 64, 3) := by decide +kernel
theorem d_V_write_91 : decode b_V_write 91 = .ok (.iload 5, 2) := by decide +kernel
theorem d_V_write_93 : decode b_V_write 93 = .ok (.iload 6, 2) := by decide +kernel
theorem d_V_write_95 : decode b_V_write 95 = .ok (.invokevirtual 68, 3) := by decide +kernel
theorem d_V_write_98 : decode b_V_write 98 = .ok (.istore 7, 2) := by decide +kernel
theorem d_V_write_100 : decode b_V_write 100 = .ok (.iload 7, 2) := by decide +kernel
theorem d_V_write_102 : decode b_V_write 102 = .ok (.iconst (-1), 1) := by decide +kernel
theorem d_V_write_103 : decode b_V_write 103 = .ok (.if_icmp .ne 6, 3) := by decide +kernel
theorem d_V_write_106 : decode b_V_write 106 = .ok (.bipush (-5), 2) := by decide +kernel
theorem d_V_write_108 : decode b_V_write 108 = .ok (.ireturn, 1) := by decide +kernel
theorem d_V_write_109 : decode b_V_write 109 = .ok (.aload 4, 2) := by decide +kernel
theorem d_V_write_111 : decode b_V_write 111 = .ok (.getfield 64, 3) := by decide +kernel
theorem d_V_write_114 : decode b_V_write 114 = .ok (.iload 5, 2) := by decide +kernel
theorem d_V_write_116 : decode b_V_write 116 = .ok (.iload 7, 2) := by decide +kernel
theorem d_V_write_118 : decode b_V_write 118 = .ok (.invokevirtual 74, 3) := by decide +kernel
theorem d_V_write_121 : decode b_V_write 121 = .ok (.aload 4, 2) := by decide +kernel
theorem d_V_write_123 : decode b_V_write 123 = .ok (.getfield 78, 3) := by decide +kernel
theorem d_V_write_126 : decode b_V_write 126 = .ok (.iload_n 2, 1) := by decide +kernel
theorem d_V_write_127 : decode b_V_write 127 = .ok (.iload_n 3, 1) := by decide +kernel
theorem d_V_write_128 : decode b_V_write 128 = .ok (.iastore, 1) := by decide +kernel
theorem d_V_write_129 : decode b_V_write 129 = .ok (.aload 4, 2) := by decide +kernel
theorem d_V_write_131 : decode b_V_write 131 = .ok (.iload 6, 2) := by decide +kernel
theorem d_V_write_133 : decode b_V_write 133 = .ok (.iload_n 2, 1) := by decide +kernel
theorem d_V_write_134 : decode b_V_write 134 = .ok (.invokestatic 82, 3) := by decide +kernel
theorem d_V_write_137 : decode b_V_write 137 = .ok (.invokevirtual 86, 3) := by decide +kernel
theorem d_V_write_140 : decode b_V_write 140 = .ok (.istore 8, 2) := by decide +kernel
theorem d_V_write_142 : decode b_V_write 142 = .ok (.aload_n 0, 1) := by decide +kernel
theorem d_V_write_143 : decode b_V_write 143 = .ok (.getfield 24, 3) := by decide +kernel
theorem d_V_write_146 : decode b_V_write 146 = .ok (.iload_n 1, 1) := by decide +kernel
theorem d_V_write_147 : decode b_V_write 147 = .ok (.iload_n 2, 1) := by decide +kernel
theorem d_V_write_148 : decode b_V_write 148 = .ok (.iload_n 3, 1) := by decide +kernel
theorem d_V_write_149 : decode b_V_write 149 = .ok (.iload 8, 2) := by decide +kernel
theorem d_V_write_151 : decode b_V_write 151 = .ok (.invokevirtual 90, 3) := by decide +kernel
theorem d_V_write_154 : decode b_V_write 154 = .ok (.istore 9, 2) := by decide +kernel
theorem d_V_write_156 : decode b_V_write 156 = .ok (.aload_n 0, 1) := by decide +kernel
theorem d_V_write_157 : decode b_V_write 157 = .ok (.getfield 28, 3) := by decide +kernel
theorem d_V_write_160 : decode b_V_write 160 = .ok (.ifCond .eq 18, 3) := by decide +kernel
theorem d_V_write_163 : decode b_V_write 163 = .ok (.aload 4, 2) := by decide +kernel
theorem d_V_write_165 : decode b_V_write 165 = .ok (.getfield 94, 3) := by decide +kernel
theorem d_V_write_168 : decode b_V_write 168 = .ok (.iconst 1, 1) := by decide +kernel
theorem d_V_write_169 : decode b_V_write 169 = .ok (.iload 9, 2) := by decide +kernel
theorem d_V_write_171 : decode b_V_write 171 = .ok (.iconst 0, 1) := by decide +kernel
theorem d_V_write_172 : decode b_V_write 172 = .ok (.invokevirtual 98, 3) := by decide +kernel
theorem d_V_write_175 : decode b_V_write 175 = .ok (.goto 9, 3) := by decide +kernel
theorem d_V_write_178 : decode b_V_write 178 = .ok (.aload_n 0, 1) := by decide +kernel
theorem d_V_write_179 : decode b_V_write 179 = .ok (.iload 9, 2) := by decide +kernel
theorem d_V_write_181 : decode b_V_write 181 = .ok (.invokevirtual 104, 3) := by decide +kernel
theorem d_V_write_184 : decode b_V_write 184 = .ok (.iload 9, 2) := by decide +kernel
theorem d_V_write_186 : decode b_V_write 186 = .ok (.ireturn, 1) := by decide +kernel
theorem d_V_barrier_0 : decode b_V_barrier 0 = .ok (.iload_n 1, 1) := by decide +kernel
theorem d_V_barrier_1 : decode b_V_barrier 1 = .ok (.invokestatic 36, 3) := by decide +kernel
theorem d_V_barrier_4 : decode b_V_barrier 4 = .ok (.ifCond .ne 5, 3) := by decide +kernel
theorem d_V_barrier_7 : decode b_V_barrier 7 = .ok (.iconst 0, 1) := by decide +kernel
theorem d_V_barrier_8 : decode b_V_barrier 8 = .ok (.ireturn, 1) := by decide +kernel
theorem d_V_barrier_9 : decode b_V_barrier 9 = .ok (.aload_n 0, 1) := by decide +kernel
theorem d_V_barrier_10 : decode b_V_barrier 10 = .ok (.iload_n 1, 1) := by decide +kernel
theorem d_V_barrier_11 : decode b_V_barrier 11 = .ok (.invokevirtual 43, 3) := by decide +kernel
theorem d_V_barrier_14 : decode b_V_barrier 14 = .ok (.astore_n 2, 1) := by decide +kernel
theorem d_V_barrier_15 : decode b_V_barrier 15 = .ok (.aload_n 2, 1) := by decide +kernel
theorem d_V_barrier_16 : decode b_V_barrier 16 = .ok (.getfield 47, 3) := by decide +kernel
theorem d_V_barrier_19 : decode b_V_barrier 19 = .ok (.ifCond .eq 10, 3) := by decide +kernel
theorem d_V_barrier_22 : decode b_V_barrier 22 = .ok (.aload_n 2, 1) := by decide +kernel
theorem d_V_barrier_23 : decode b_V_barrier 23 = .ok (.getfield 50, 3) := by decide +kernel
theorem d_V_barrier_26 : decode b_V_barrier 26 = .ok (.ifCond .ne 5, 3) := by decide +kernel
theorem d_V_barrier_29 : decode b_V_barrier 29 = .ok (.iconst 0, 1) := by decide +kernel
theorem d_V_barrier_30 : decode b_V_barrier 30 = .ok (.ireturn, 1) := by decide +kernel
theorem d_V_barrier_31 : decode b_V_barrier 31 = .ok (.aload_n 2, 1) := by decide +kernel
theorem d_V_barrier_32 : decode b_V_barrier 32 = .ok (.iconst 1, 1) := by decide +kernel
theorem d_V_barrier_33 : decode b_V_barrier 33 = .ok (.putfield 107, 3) := by decide +kernel
theorem d_V_barrier_36 : decode b_V_barrier 36 = .ok (.iconst 1, 1) := by decide +kernel
theorem d_V_barrier_37 : decode b_V_barrier 37 = .ok (.ireturn, 1) := by decide +kernel
theorem d_V_deliver_0 : decode b_V_deliver 0 = .ok (.iload_n 1, 1) := by decide +kernel
theorem d_V_deliver_1 : decode b_V_deliver 1 = .ok (.invokestatic 36, 3) := by decide +kernel
theorem d_V_deliver_4 : decode b_V_deliver 4 = .ok (.ifCond .ne 5, 3) := by decide +kernel
theorem d_V_deliver_7 : decode b_V_deliver 7 = .ok (.iconst 0, 1) := by decide +kernel
theorem d_V_deliver_8 : decode b_V_deliver 8 = .ok (.ireturn, 1) := by decide +kernel
theorem d_V_deliver_9 : decode b_V_deliver 9 = .ok (.aload_n 0, 1) := by decide +kernel
theorem d_V_deliver_10 : decode b_V_deliver 10 = .ok (.iload_n 1, 1) := by decide +kernel
theorem d_V_deliver_11 : decode b_V_deliver 11 = .ok (.invokevirtual 43, 3) := by decide +kernel
theorem d_V_deliver_14 : decode b_V_deliver 14 = .ok (.getfield 94, 3) := by decide +kernel
theorem d_V_deliver_17 : decode b_V_deliver 17 = .ok (.astore_n 2, 1) := by decide +kernel
theorem d_V_deliver_18 : decode b_V_deliver 18 = .ok (.aload_n 2, 1) := by decide +kernel
theorem d_V_deliver_19 : decode b_V_deliver 19 = .ok (.getfield 110, 3) := by decide +kernel
theorem d_V_deliver_22 : decode b_V_deliver 22 = .ok (.ifCond .ne 5, 3) := by decide +kernel
theorem d_V_deliver_25 : decode b_V_deliver 25 = .ok (.iconst 0, 1) := by decide +kernel
theorem d_V_deliver_26 : decode b_V_deliver 26 = .ok (.ireturn, 1) := by decide +kernel
theorem d_V_deliver_27 : decode b_V_deliver 27 = .ok (.aload_n 2, 1) := by decide +kernel
theorem d_V_deliver_28 : decode b_V_deliver 28 = .ok (.invokevirtual 113, 3) := by decide +kernel
theorem d_V_deliver_31 : decode b_V_deliver 31 = .ok (.istore_n 3, 1) := by decide +kernel
theorem d_V_deliver_32 : decode b_V_deliver 32 = .ok (.aload_n 2, 1) := by decide +kernel
theorem d_V_deliver_33 : decode b_V_deliver 33 = .ok (.invokevirtual 117, 3) := by decide +kernel
theorem d_V_deliver_36 : decode b_V_deliver 36 = .ok (.istore 4, 2) := by decide +kernel
theorem d_V_deliver_38 : decode b_V_deliver 38 = .ok (.aload_n 2, 1) := by decide +kernel
theorem d_V_deliver_39 : decode b_V_deliver 39 = .ok (.invokevirtual 120, 3) := by decide +kernel
theorem d_V_deliver_42 : decode b_V_deliver 42 = .ok (.istore 5, 2) := by decide +kernel
theorem d_V_deliver_44 : decode b_V_deliver 44 = .ok (.aload_n 2, 1) := by decide +kernel
theorem d_V_deliver_45 : decode b_V_deliver 45 = .ok (.invokevirtual 123, 3) := by decide +kernel
theorem d_V_deliver_48 : decode b_V_deliver 48 = .ok (.aload_n 0, 1) := by decide +kernel
theorem d_V_deliver_49 : decode b_V_deliver 49 = .ok (.aload_n 0, 1) := by decide +kernel
theorem d_V_deliver_50 : decode b_V_deliver 50 = .ok (.iload_n 1, 1) := by decide +kernel
theorem d_V_deliver_51 : decode b_V_deliver 51 = .ok (.invokevirtual 126, 3) := by decide +kernel
theorem d_V_deliver_54 : decode b_V_deliver 54 = .ok (.iload_n 3, 1) := by decide +kernel
theorem d_V_deliver_55 : decode b_V_deliver 55 = .ok (.iload 4, 2) := by decide +kernel
theorem d_V_deliver_57 : decode b_V_deliver 57 = .ok (.iload 5, 2) := by decide +kernel
theorem d_V_deliver_59 : decode b_V_deliver 59 = .ok (.invokevirtual 129, 3) := by decide +kernel
theorem d_V_deliver_62 : decode b_V_deliver 62 = .ok (.iload_n 3, 1) := by decide +kernel
theorem d_V_deliver_63 : decode b_V_deliver 63 = .ok (.ireturn, 1) := by decide +kernel
theorem d_V_store_0 : decode b_V_store 0 = .ok (.iload_n 1, 1) := by decide +kernel
theorem d_V_store_1 : decode b_V_store 1 = .ok (.invokestatic 36, 3) := by decide +kernel
theorem d_V_store_4 : decode b_V_store 4 = .ok (.ifCond .ne 5, 3) := by decide +kernel
theorem d_V_store_7 : decode b_V_store 7 = .ok (.iconst 0, 1) := by decide +kernel
theorem d_V_store_8 : decode b_V_store 8 = .ok (.ireturn, 1) := by decide +kernel
theorem d_V_store_9 : decode b_V_store 9 = .ok (.aload_n 0, 1) := by decide +kernel
theorem d_V_store_10 : decode b_V_store 10 = .ok (.iload_n 1, 1) := by decide +kernel
theorem d_V_store_11 : decode b_V_store 11 = .ok (.invokevirtual 43, 3) := by decide +kernel
theorem d_V_store_14 : decode b_V_store 14 = .ok (.astore_n 3, 1) := by decide +kernel
theorem d_V_store_15 : decode b_V_store 15 = .ok (.aload_n 3, 1) := by decide +kernel
theorem d_V_store_16 : decode b_V_store 16 = .ok (.getfield 133, 3) := by decide +kernel
theorem d_V_store_19 : decode b_V_store 19 = .ok (.astore 4, 2) := by decide +kernel
theorem d_V_store_21 : decode b_V_store 21 = .ok (.iload_n 2, 1) := by decide +kernel
theorem d_V_store_22 : decode b_V_store 22 = .ok (.ifCond .lt 12, 3) := by decide +kernel
theorem d_V_store_25 : decode b_V_store 25 = .ok (.iload_n 2, 1) := by decide +kernel
theorem d_V_store_26 : decode b_V_store 26 = .ok (.aload 4, 2) := by decide +kernel
theorem d_V_store_28 : decode b_V_store 28 = .ok (.getfield 137, 3) := by decide +kernel
theorem d_V_store_31 : decode b_V_store 31 = .ok (.if_icmp .lt 5, 3) := by decide +kernel
theorem d_V_store_34 : decode b_V_store 34 = .ok (.iconst 0, 1) := by decide +kernel
theorem d_V_store_35 : decode b_V_store 35 = .ok (.ireturn, 1) := by decide +kernel
theorem d_V_store_36 : decode b_V_store 36 = .ok (.aload 4, 2) := by decide +kernel
theorem d_V_store_38 : decode b_V_store 38 = .ok (.iload_n 2, 1) := by decide +kernel
theorem d_V_store_39 : decode b_V_store 39 = .ok (.invokevirtual 140, 3) := by decide +kernel
theorem d_V_store_42 : decode b_V_store 42 = .ok (.istore 5, 2) := by decide +kernel
theorem d_V_store_44 : decode b_V_store 44 = .ok (.aload_n 0, 1) := by decide +kernel
theorem d_V_store_45 : decode b_V_store 45 = .ok (.getfield 24, 3) := by decide +kernel
theorem d_V_store_48 : decode b_V_store 48 = .ok (.getfield 143, 3) := by decide +kernel
theorem d_V_store_51 : decode b_V_store 51 = .ok (.iload 5, 2) := by decide +kernel
theorem d_V_store_53 : decode b_V_store 53 = .ok (.iaload, 1) := by decide +kernel
theorem d_V_store_54 : decode b_V_store 54 = .ok (.aload_n 0, 1) := by decide +kernel
theorem d_V_store_55 : decode b_V_store 55 = .ok (.getfield 24, 3) := by decide +kernel
theorem d_V_store_58 : decode b_V_store 58 = .ok (.getfield 143, 3) := by decide +kernel
theorem d_V_store_61 : decode b_V_store 61 = .ok (.aload 4, 2) := by decide +kernel
theorem d_V_store_63 : decode b_V_store 63 = .ok (.iconst 0, 1) := by decide +kernel
theorem d_V_store_64 : decode b_V_store 64 = .ok (.invokevirtual 140, 3) := by decide +kernel
theorem d_V_store_67 : decode b_V_store 67 = .ok (.iaload, 1) := by decide +kernel
theorem d_V_store_68 : decode b_V_store 68 = .ok (.if_icmp .eq 5, 3) := by decide +kernel
theorem d_V_store_71 : decode b_V_store 71 = .ok (.iconst 0, 1) := by decide +kernel
theorem d_V_store_72 : decode b_V_store 72 = .ok (.ireturn, 1) := by decide +kernel
theorem d_V_store_73 : decode b_V_store 73 = .ok (.aload 4, 2) := by decide +kernel
theorem d_V_store_75 : decode b_V_store 75 = .ok (.iload_n 2, 1) := by decide +kernel
theorem d_V_store_76 : decode b_V_store 76 = .ok (.invokevirtual 146, 3) := by decide +kernel
theorem d_V_store_79 : decode b_V_store 79 = .ok (.aload_n 3, 1) := by decide +kernel
theorem d_V_store_80 : decode b_V_store 80 = .ok (.getfield 78, 3) := by decide +kernel
theorem d_V_store_83 : decode b_V_store 83 = .ok (.aload_n 0, 1) := by decide +kernel
theorem d_V_store_84 : decode b_V_store 84 = .ok (.getfield 24, 3) := by decide +kernel
theorem d_V_store_87 : decode b_V_store 87 = .ok (.getfield 149, 3) := by decide +kernel
theorem d_V_store_90 : decode b_V_store 90 = .ok (.iload 5, 2) := by decide +kernel
theorem d_V_store_92 : decode b_V_store 92 = .ok (.iaload, 1) := by decide +kernel
theorem d_V_store_93 : decode b_V_store 93 = .ok (.aload_n 0, 1) := by decide +kernel
theorem d_V_store_94 : decode b_V_store 94 = .ok (.getfield 24, 3) := by decide +kernel
theorem d_V_store_97 : decode b_V_store 97 = .ok (.getfield 152, 3) := by decide +kernel
theorem d_V_store_100 : decode b_V_store 100 = .ok (.iload 5, 2) := by decide +kernel
theorem d_V_store_102 : decode b_V_store 102 = .ok (.iaload, 1) := by decide +kernel
theorem d_V_store_103 : decode b_V_store 103 = .ok (.iastore, 1) := by decide +kernel
theorem d_V_store_104 : decode b_V_store 104 = .ok (.aload_n 3, 1) := by decide +kernel
theorem d_V_store_105 : decode b_V_store 105 = .ok (.getfield 94, 3) := by decide +kernel
theorem d_V_store_108 : decode b_V_store 108 = .ok (.iconst 2, 1) := by decide +kernel
theorem d_V_store_109 : decode b_V_store 109 = .ok (.iload 5, 2) := by decide +kernel
theorem d_V_store_111 : decode b_V_store 111 = .ok (.iconst 0, 1) := by decide +kernel
theorem d_V_store_112 : decode b_V_store 112 = .ok (.invokevirtual 98, 3) := by decide +kernel
theorem d_V_store_115 : decode b_V_store 115 = .ok (.iload 5, 2) := by decide +kernel
theorem d_V_store_117 : decode b_V_store 117 = .ok (.ireturn, 1) := by decide +kernel
theorem d_V_copy_0 : decode b_V_copy 0 = .ok (.iload_n 1, 1) := by decide +kernel
theorem d_V_copy_1 : decode b_V_copy 1 = .ok (.invokestatic 36, 3) := by decide +kernel
theorem d_V_copy_4 : decode b_V_copy 4 = .ok (.ifCond .ne 5, 3) := by decide +kernel
theorem d_V_copy_7 : decode b_V_copy 7 = .ok (.iconst (-1), 1) := by decide +kernel
theorem d_V_copy_8 : decode b_V_copy 8 = .ok (.ireturn, 1) := by decide +kernel
theorem d_V_copy_9 : decode b_V_copy 9 = .ok (.aload_n 0, 1) := by decide +kernel
theorem d_V_copy_10 : decode b_V_copy 10 = .ok (.iload_n 1, 1) := by decide +kernel
theorem d_V_copy_11 : decode b_V_copy 11 = .ok (.invokevirtual 43, 3) := by decide +kernel
theorem d_V_copy_14 : decode b_V_copy 14 = .ok (.astore_n 2, 1) := by decide +kernel
theorem d_V_copy_15 : decode b_V_copy 15 = .ok (.aload_n 2, 1) := by decide +kernel
theorem d_V_copy_16 : decode b_V_copy 16 = .ok (.getfield 155, 3) := by decide +kernel
theorem d_V_copy_19 : decode b_V_copy 19 = .ok (.ifCond .eq 14, 3) := by decide +kernel
theorem d_V_copy_22 : decode b_V_copy 22 = .ok (.aload_n 2, 1) := by decide +kernel
theorem d_V_copy_23 : decode b_V_copy 23 = .ok (.getfield 158, 3) := by decide +kernel
theorem d_V_copy_26 : decode b_V_copy 26 = .ok (.invokestatic 161, 3) := by decide +kernel
theorem d_V_copy_29 : decode b_V_copy 29 = .ok (.iconst 4, 1) := by decide +kernel
theorem d_V_copy_30 : decode b_V_copy 30 = .ok (.if_icmp .lt 5, 3) := by decide +kernel
theorem d_V_copy_33 : decode b_V_copy 33 = .ok (.iconst (-1), 1) := by decide +kernel
theorem d_V_copy_34 : decode b_V_copy 34 = .ok (.ireturn, 1) := by decide +kernel
theorem d_V_copy_35 : decode b_V_copy 35 = .ok (.aload_n 2, 1) := by decide +kernel
theorem d_V_copy_36 : decode b_V_copy 36 = .ok (.getfield 166, 3) := by decide +kernel
theorem d_V_copy_39 : decode b_V_copy 39 = .ok (.aload_n 2, 1) := by decide +kernel
theorem d_V_copy_40 : decode b_V_copy 40 = .ok (.getfield 158, 3) := by decide +kernel
theorem d_V_copy_43 : decode b_V_copy 43 = .ok (.iconst (-1), 1) := by decide +kernel
theorem d_V_copy_44 : decode b_V_copy 44 = .ok (.ixor, 1) := by decide +kernel
theorem d_V_copy_45 : decode b_V_copy 45 = .ok (.iand, 1) := by decide +kernel
theorem d_V_copy_46 : decode b_V_copy 46 = .ok (.aload_n 0, 1) := by decide +kernel
theorem d_V_copy_47 : decode b_V_copy 47 = .ok (.getfield 24, 3) := by decide +kernel
theorem d_V_copy_50 : decode b_V_copy 50 = .ok (.iload_n 1, 1) := by decide +kernel
theorem d_V_copy_51 : decode b_V_copy 51 = .ok (.invokevirtual 61, 3) := by decide +kernel
theorem d_V_copy_54 : decode b_V_copy 54 = .ok (.iconst (-1), 1) := by decide +kernel
theorem d_V_copy_55 : decode b_V_copy 55 = .ok (.ixor, 1) := by decide +kernel
theorem d_V_copy_56 : decode b_V_copy 56 = .ok (.iand, 1) := by decide +kernel
theorem d_V_copy_57 : decode b_V_copy 57 = .ok (.invokestatic 169, 3) := by decide +kernel
theorem d_V_copy_60 : decode b_V_copy 60 = .ok (.istore_n 3, 1) := by decide +kernel
theorem d_V_copy_61 : decode b_V_copy 61 = .ok (.iload_n 3, 1) := by decide +kernel
theorem d_V_copy_62 : decode b_V_copy 62 = .ok (.iconst (-1), 1) := by decide +kernel
theorem d_V_copy_63 : decode b_V_copy 63 = .ok (.if_icmp .ne 5, 3) := by decide +kernel
theorem d_V_copy_66 : decode b_V_copy 66 = .ok (.iconst (-1), 1) := by decide +kernel
theorem d_V_copy_67 : decode b_V_copy 67 = .ok (.ireturn, 1) := by decide +kernel
theorem d_V_copy_68 : decode b_V_copy 68 = .ok (.aload_n 2, 1) := by decide +kernel
theorem d_V_copy_69 : decode b_V_copy 69 = .ok (.dup, 1) := by decide +kernel
theorem d_V_copy_70 : decode b_V_copy 70 = .ok (.getfield 158, 3) := by decide +kernel
theorem d_V_copy_73 : decode b_V_copy 73 = .ok (.iconst 1, 1) := by decide +kernel
theorem d_V_copy_74 : decode b_V_copy 74 = .ok (.iload_n 3, 1) := by decide +kernel
theorem d_V_copy_75 : decode b_V_copy 75 = .ok (.ishl, 1) := by decide +kernel
theorem d_V_copy_76 : decode b_V_copy 76 = .ok (.ior, 1) := by decide +kernel
theorem d_V_copy_77 : decode b_V_copy 77 = .ok (.putfield 158, 3) := by decide +kernel
theorem d_V_copy_80 : decode b_V_copy 80 = .ok (.aload_n 2, 1) := by decide +kernel
theorem d_V_copy_81 : decode b_V_copy 81 = .ok (.getfield 94, 3) := by decide +kernel
theorem d_V_copy_84 : decode b_V_copy 84 = .ok (.iconst 3, 1) := by decide +kernel
theorem d_V_copy_85 : decode b_V_copy 85 = .ok (.iload_n 3, 1) := by decide +kernel
theorem d_V_copy_86 : decode b_V_copy 86 = .ok (.aload_n 2, 1) := by decide +kernel
theorem d_V_copy_87 : decode b_V_copy 87 = .ok (.getfield 78, 3) := by decide +kernel
theorem d_V_copy_90 : decode b_V_copy 90 = .ok (.iload_n 3, 1) := by decide +kernel
theorem d_V_copy_91 : decode b_V_copy 91 = .ok (.iaload, 1) := by decide +kernel
theorem d_V_copy_92 : decode b_V_copy 92 = .ok (.invokevirtual 98, 3) := by decide +kernel
theorem d_V_copy_95 : decode b_V_copy 95 = .ok (.iload_n 3, 1) := by decide +kernel
theorem d_V_copy_96 : decode b_V_copy 96 = .ok (.ireturn, 1) := by decide +kernel
theorem d_V_connect_0 : decode b_V_connect 0 = .ok (.aload_n 0, 1) := by decide +kernel
theorem d_V_connect_1 : decode b_V_connect 1 = .ok (.getfield 12, 3) := by decide +kernel
theorem d_V_connect_4 : decode b_V_connect 4 = .ok (.getfield 47, 3) := by decide +kernel
theorem d_V_connect_7 : decode b_V_connect 7 = .ok (.ifCond .eq 13, 3) := by decide +kernel
theorem d_V_connect_10 : decode b_V_connect 10 = .ok (.aload_n 0, 1) := by decide +kernel
theorem d_V_connect_11 : decode b_V_connect 11 = .ok (.getfield 18, 3) := by decide +kernel
theorem d_V_connect_14 : decode b_V_connect 14 = .ok (.getfield 47, 3) := by decide +kernel
theorem d_V_connect_17 : decode b_V_connect 17 = .ok (.ifCond .ne 6, 3) := by decide +kernel
theorem d_V_connect_20 : decode b_V_connect 20 = .ok (.bipush (-2), 2) := by decide +kernel
theorem d_V_connect_22 : decode b_V_connect 22 = .ok (.ireturn, 1) := by decide +kernel
theorem d_V_connect_23 : decode b_V_connect 23 = .ok (.aload_n 0, 1) := by decide +kernel
theorem d_V_connect_24 : decode b_V_connect 24 = .ok (.getfield 28, 3) := by decide +kernel
theorem d_V_connect_27 : decode b_V_connect 27 = .ok (.ifCond .eq 6, 3) := by decide +kernel
theorem d_V_connect_30 : decode b_V_connect 30 = .ok (.bipush (-9), 2) := by decide +kernel
theorem d_V_connect_32 : decode b_V_connect 32 = .ok (.ireturn, 1) := by decide +kernel
theorem d_V_connect_33 : decode b_V_connect 33 = .ok (.aload_n 0, 1) := by decide +kernel
theorem d_V_connect_34 : decode b_V_connect 34 = .ok (.getfield 12, 3) := by decide +kernel
theorem d_V_connect_37 : decode b_V_connect 37 = .ok (.getfield 50, 3) := by decide +kernel
theorem d_V_connect_40 : decode b_V_connect 40 = .ok (.ifCond .eq 16, 3) := by decide +kernel
theorem d_V_connect_43 : decode b_V_connect 43 = .ok (.aload_n 0, 1) := by decide +kernel
theorem d_V_connect_44 : decode b_V_connect 44 = .ok (.getfield 18, 3) := by decide +kernel
theorem d_V_connect_47 : decode b_V_connect 47 = .ok (.getfield 50, 3) := by decide +kernel
theorem d_V_connect_50 : decode b_V_connect 50 = .ok (.ifCond .eq 6, 3) := by decide +kernel
theorem d_V_connect_53 : decode b_V_connect 53 = .ok (.bipush (-7), 2) := by decide +kernel
theorem d_V_connect_55 : decode b_V_connect 55 = .ok (.ireturn, 1) := by decide +kernel
theorem d_V_connect_56 : decode b_V_connect 56 = .ok (.aload_n 0, 1) := by decide +kernel
theorem d_V_connect_57 : decode b_V_connect 57 = .ok (.invokevirtual 172, 3) := by decide +kernel
theorem d_V_connect_60 : decode b_V_connect 60 = .ok (.ifCond .eq 6, 3) := by decide +kernel
theorem d_V_connect_63 : decode b_V_connect 63 = .ok (.bipush (-8), 2) := by decide +kernel
theorem d_V_connect_65 : decode b_V_connect 65 = .ok (.ireturn, 1) := by decide +kernel
theorem d_V_connect_66 : decode b_V_connect 66 = .ok (.aload_n 0, 1) := by decide +kernel
theorem d_V_connect_67 : decode b_V_connect 67 = .ok (.invokevirtual 175, 3) := by decide +kernel
theorem d_V_connect_70 : decode b_V_connect 70 = .ok (.istore_n 1, 1) := by decide +kernel
theorem d_V_connect_71 : decode b_V_connect 71 = .ok (.iload_n 1, 1) := by decide +kernel
theorem d_V_connect_72 : decode b_V_connect 72 = .ok (.iconst (-1), 1) := by decide +kernel
theorem d_V_connect_73 : decode b_V_connect 73 = .ok (.if_icmp .ne 10, 3) := by decide +kernel
theorem d_V_connect_76 : decode b_V_connect 76 = .ok (.aload_n 0, 1) := by decide +kernel
theorem d_V_connect_77 : decode b_V_connect 77 = .ok (.iconst 1, 1) := by decide +kernel
theorem d_V_connect_78 : decode b_V_connect 78 = .ok (.putfield 28, 3) := by decide +kernel
theorem d_V_connect_81 : decode b_V_connect 81 = .ok (.iconst 0, 1) := by decide +kernel
theorem d_V_connect_82 : decode b_V_connect 82 = .ok (.ireturn, 1) := by decide +kernel
theorem d_V_connect_83 : decode b_V_connect 83 = .ok (.aload_n 0, 1) := by decide +kernel
theorem d_V_connect_84 : decode b_V_connect 84 = .ok (.iload_n 1, 1) := by decide +kernel
theorem d_V_connect_85 : decode b_V_connect 85 = .ok (.invokevirtual 126, 3) := by decide +kernel
theorem d_V_connect_88 : decode b_V_connect 88 = .ok (.getfield 50, 3) := by decide +kernel
theorem d_V_connect_91 : decode b_V_connect 91 = .ok (.ifCond .eq 6, 3) := by decide +kernel
theorem d_V_connect_94 : decode b_V_connect 94 = .ok (.bipush (-10), 2) := by decide +kernel
theorem d_V_connect_96 : decode b_V_connect 96 = .ok (.ireturn, 1) := by decide +kernel
theorem d_V_connect_97 : decode b_V_connect 97 = .ok (.aload_n 0, 1) := by decide +kernel
theorem d_V_connect_98 : decode b_V_connect 98 = .ok (.iconst 1, 1) := by decide +kernel
theorem d_V_connect_99 : decode b_V_connect 99 = .ok (.putfield 28, 3) := by decide +kernel
theorem d_V_connect_102 : decode b_V_connect 102 = .ok (.aload_n 0, 1) := by decide +kernel
theorem d_V_connect_103 : decode b_V_connect 103 = .ok (.aload_n 0, 1) := by decide +kernel
theorem d_V_connect_104 : decode b_V_connect 104 = .ok (.iload_n 1, 1) := by decide +kernel
theorem d_V_connect_105 : decode b_V_connect 105 = .ok (.invokevirtual 43, 3) := by decide +kernel
theorem d_V_connect_108 : decode b_V_connect 108 = .ok (.aload_n 0, 1) := by decide +kernel
theorem d_V_connect_109 : decode b_V_connect 109 = .ok (.iload_n 1, 1) := by decide +kernel
theorem d_V_connect_110 : decode b_V_connect 110 = .ok (.invokevirtual 126, 3) := by decide +kernel
theorem d_V_connect_113 : decode b_V_connect 113 = .ok (.invokevirtual 178, 3) := by decide +kernel
theorem d_V_connect_116 : decode b_V_connect 116 = .ok (.iconst 1, 1) := by decide +kernel
theorem d_V_connect_117 : decode b_V_connect 117 = .ok (.iload_n 1, 1) := by decide +kernel
theorem d_V_connect_118 : decode b_V_connect 118 = .ok (.iadd, 1) := by decide +kernel
theorem d_V_connect_119 : decode b_V_connect 119 = .ok (.ireturn, 1) := by decide +kernel
theorem d_V_cut_0 : decode b_V_cut 0 = .ok (.aload_n 0, 1) := by decide +kernel
theorem d_V_cut_1 : decode b_V_cut 1 = .ok (.getfield 28, 3) := by decide +kernel
theorem d_V_cut_4 : decode b_V_cut 4 = .ok (.ifCond .ne 5, 3) := by decide +kernel
theorem d_V_cut_7 : decode b_V_cut 7 = .ok (.iconst 0, 1) := by decide +kernel
theorem d_V_cut_8 : decode b_V_cut 8 = .ok (.ireturn, 1) := by decide +kernel
theorem d_V_cut_9 : decode b_V_cut 9 = .ok (.aload_n 0, 1) := by decide +kernel
theorem d_V_cut_10 : decode b_V_cut 10 = .ok (.invokevirtual 182, 3) := by decide +kernel
theorem d_V_cut_13 : decode b_V_cut 13 = .ok (.iconst 1, 1) := by decide +kernel
theorem d_V_cut_14 : decode b_V_cut 14 = .ok (.ireturn, 1) := by decide +kernel
theorem d_V_crash_0 : decode b_V_crash 0 = .ok (.iload_n 1, 1) := by decide +kernel
theorem d_V_crash_1 : decode b_V_crash 1 = .ok (.invokestatic 36, 3) := by decide +kernel
theorem d_V_crash_4 : decode b_V_crash 4 = .ok (.ifCond .eq 14, 3) := by decide +kernel
theorem d_V_crash_7 : decode b_V_crash 7 = .ok (.aload_n 0, 1) := by decide +kernel
theorem d_V_crash_8 : decode b_V_crash 8 = .ok (.iload_n 1, 1) := by decide +kernel
theorem d_V_crash_9 : decode b_V_crash 9 = .ok (.invokevirtual 43, 3) := by decide +kernel
theorem d_V_crash_12 : decode b_V_crash 12 = .ok (.getfield 47, 3) := by decide +kernel
theorem d_V_crash_15 : decode b_V_crash 15 = .ok (.ifCond .ne 5, 3) := by decide +kernel
theorem d_V_crash_18 : decode b_V_crash 18 = .ok (.iconst 0, 1) := by decide +kernel
theorem d_V_crash_19 : decode b_V_crash 19 = .ok (.ireturn, 1) := by decide +kernel
theorem d_V_crash_20 : decode b_V_crash 20 = .ok (.aload_n 0, 1) := by decide +kernel
theorem d_V_crash_21 : decode b_V_crash 21 = .ok (.iload_n 1, 1) := by decide +kernel
theorem d_V_crash_22 : decode b_V_crash 22 = .ok (.invokevirtual 43, 3) := by decide +kernel
theorem d_V_crash_25 : decode b_V_crash 25 = .ok (.astore_n 2, 1) := by decide +kernel
theorem d_V_crash_26 : decode b_V_crash 26 = .ok (.aload_n 2, 1) := by decide +kernel
theorem d_V_crash_27 : decode b_V_crash 27 = .ok (.iconst 0, 1) := by decide +kernel
theorem d_V_crash_28 : decode b_V_crash 28 = .ok (.putfield 47, 3) := by decide +kernel
theorem d_V_crash_31 : decode b_V_crash 31 = .ok (.aload_n 0, 1) := by decide +kernel
theorem d_V_crash_32 : decode b_V_crash 32 = .ok (.getfield 24, 3) := by decide +kernel
theorem d_V_crash_35 : decode b_V_crash 35 = .ok (.iload_n 1, 1) := by decide +kernel
theorem d_V_crash_36 : decode b_V_crash 36 = .ok (.iconst 1, 1) := by decide +kernel
theorem d_V_crash_37 : decode b_V_crash 37 = .ok (.iconst 4, 1) := by decide +kernel
theorem d_V_crash_38 : decode b_V_crash 38 = .ok (.invokevirtual 185, 3) := by decide +kernel
theorem d_V_crash_41 : decode b_V_crash 41 = .ok (.aload_n 0, 1) := by decide +kernel
theorem d_V_crash_42 : decode b_V_crash 42 = .ok (.getfield 24, 3) := by decide +kernel
theorem d_V_crash_45 : decode b_V_crash 45 = .ok (.iload_n 1, 1) := by decide +kernel
theorem d_V_crash_46 : decode b_V_crash 46 = .ok (.iconst 3, 1) := by decide +kernel
theorem d_V_crash_47 : decode b_V_crash 47 = .ok (.iconst 4, 1) := by decide +kernel
theorem d_V_crash_48 : decode b_V_crash 48 = .ok (.invokevirtual 185, 3) := by decide +kernel
theorem d_V_crash_51 : decode b_V_crash 51 = .ok (.aload_n 2, 1) := by decide +kernel
theorem d_V_crash_52 : decode b_V_crash 52 = .ok (.getfield 50, 3) := by decide +kernel
theorem d_V_crash_55 : decode b_V_crash 55 = .ok (.ifCond .eq 13, 3) := by decide +kernel
theorem d_V_crash_58 : decode b_V_crash 58 = .ok (.aload_n 2, 1) := by decide +kernel
theorem d_V_crash_59 : decode b_V_crash 59 = .ok (.iconst 1, 1) := by decide +kernel
theorem d_V_crash_60 : decode b_V_crash 60 = .ok (.putfield 188, 3) := by decide +kernel
theorem d_V_crash_63 : decode b_V_crash 63 = .ok (.aload_n 2, 1) := by decide +kernel
theorem d_V_crash_64 : decode b_V_crash 64 = .ok (.iconst 0, 1) := by decide +kernel
theorem d_V_crash_65 : decode b_V_crash 65 = .ok (.putfield 50, 3) := by decide +kernel
theorem d_V_crash_68 : decode b_V_crash 68 = .ok (.aload_n 0, 1) := by decide +kernel
theorem d_V_crash_69 : decode b_V_crash 69 = .ok (.getfield 28, 3) := by decide +kernel
theorem d_V_crash_72 : decode b_V_crash 72 = .ok (.ifCond .eq 7, 3) := by decide +kernel
theorem d_V_crash_75 : decode b_V_crash 75 = .ok (.aload_n 0, 1) := by decide +kernel
theorem d_V_crash_76 : decode b_V_crash 76 = .ok (.invokevirtual 182, 3) := by decide +kernel
theorem d_V_crash_79 : decode b_V_crash 79 = .ok (.iconst 1, 1) := by decide +kernel
theorem d_V_crash_80 : decode b_V_crash 80 = .ok (.ireturn, 1) := by decide +kernel
theorem d_V_restart_0 : decode b_V_restart 0 = .ok (.iload_n 1, 1) := by decide +kernel
theorem d_V_restart_1 : decode b_V_restart 1 = .ok (.invokestatic 36, 3) := by decide +kernel
theorem d_V_restart_4 : decode b_V_restart 4 = .ok (.ifCond .eq 14, 3) := by decide +kernel
theorem d_V_restart_7 : decode b_V_restart 7 = .ok (.aload_n 0, 1) := by decide +kernel
theorem d_V_restart_8 : decode b_V_restart 8 = .ok (.iload_n 1, 1) := by decide +kernel
theorem d_V_restart_9 : decode b_V_restart 9 = .ok (.invokevirtual 43, 3) := by decide +kernel
theorem d_V_restart_12 : decode b_V_restart 12 = .ok (.getfield 47, 3) := by decide +kernel
theorem d_V_restart_15 : decode b_V_restart 15 = .ok (.ifCond .eq 5, 3) := by decide +kernel
theorem d_V_restart_18 : decode b_V_restart 18 = .ok (.iconst 0, 1) := by decide +kernel
theorem d_V_restart_19 : decode b_V_restart 19 = .ok (.ireturn, 1) := by decide +kernel
theorem d_V_restart_20 : decode b_V_restart 20 = .ok (.aload_n 0, 1) := by decide +kernel
theorem d_V_restart_21 : decode b_V_restart 21 = .ok (.iload_n 1, 1) := by decide +kernel
theorem d_V_restart_22 : decode b_V_restart 22 = .ok (.invokevirtual 43, 3) := by decide +kernel
theorem d_V_restart_25 : decode b_V_restart 25 = .ok (.astore_n 2, 1) := by decide +kernel
theorem d_V_restart_26 : decode b_V_restart 26 = .ok (.aload_n 2, 1) := by decide +kernel
theorem d_V_restart_27 : decode b_V_restart 27 = .ok (.iconst 1, 1) := by decide +kernel
theorem d_V_restart_28 : decode b_V_restart 28 = .ok (.putfield 47, 3) := by decide +kernel
theorem d_V_restart_31 : decode b_V_restart 31 = .ok (.aload_n 2, 1) := by decide +kernel
theorem d_V_restart_32 : decode b_V_restart 32 = .ok (.getfield 188, 3) := by decide +kernel
theorem d_V_restart_35 : decode b_V_restart 35 = .ok (.ifCond .eq 19, 3) := by decide +kernel
theorem d_V_restart_38 : decode b_V_restart 38 = .ok (.aload_n 2, 1) := by decide +kernel
theorem d_V_restart_39 : decode b_V_restart 39 = .ok (.dup, 1) := by decide +kernel
theorem d_V_restart_40 : decode b_V_restart 40 = .ok (.getfield 166, 3) := by decide +kernel
theorem d_V_restart_43 : decode b_V_restart 43 = .ok (.aload_n 2, 1) := by decide +kernel
theorem d_V_restart_44 : decode b_V_restart 44 = .ok (.getfield 64, 3) := by decide +kernel
theorem d_V_restart_47 : decode b_V_restart 47 = .ok (.invokevirtual 191, 3) := by decide +kernel
theorem d_V_restart_50 : decode b_V_restart 50 = .ok (.ior, 1) := by decide +kernel
theorem d_V_restart_51 : decode b_V_restart 51 = .ok (.putfield 166, 3) := by decide +kernel
theorem d_V_restart_54 : decode b_V_restart 54 = .ok (.iconst 1, 1) := by decide +kernel
theorem d_V_restart_55 : decode b_V_restart 55 = .ok (.ireturn, 1) := by decide +kernel
theorem d_V_promote_0 : decode b_V_promote 0 = .ok (.iload_n 1, 1) := by decide +kernel
theorem d_V_promote_1 : decode b_V_promote 1 = .ok (.invokestatic 36, 3) := by decide +kernel
theorem d_V_promote_4 : decode b_V_promote 4 = .ok (.ifCond .ne 5, 3) := by decide +kernel
theorem d_V_promote_7 : decode b_V_promote 7 = .ok (.iconst (-1), 1) := by decide +kernel
