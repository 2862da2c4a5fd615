theorem d_V_promote_8 : decode b_V_promote 8 = .ok (.ireturn, 1) := by decide +kernel
theorem d_V_promote_9 : decode b_V_promote 9 = .ok (.aload_n 0, 1) := by decide +kernel
theorem d_V_promote_10 : decode b_V_promote 10 = .ok (.iload_n 1, 1) := by decide +kernel
theorem d_V_promote_11 : decode b_V_promote 11 = .ok (.invokevirtual 43, 3) := by decide +kernel
theorem d_V_promote_14 : decode b_V_promote 14 = .ok (.astore_n 2, 1) := by decide +kernel
theorem d_V_promote_15 : decode b_V_promote 15 = .ok (.aload_n 2, 1) := by decide +kernel
theorem d_V_promote_16 : decode b_V_promote 16 = .ok (.getfield 47, 3) := by decide +kernel
theorem d_V_promote_19 : decode b_V_promote 19 = .ok (.ifCond .ne 6, 3) := by decide +kernel
theorem d_V_promote_22 : decode b_V_promote 22 = .ok (.bipush (-2), 2) := by decide +kernel
theorem d_V_promote_24 : decode b_V_promote 24 = .ok (.ireturn, 1) := by decide +kernel
theorem d_V_promote_25 : decode b_V_promote 25 = .ok (.aload_n 2, 1) := by decide +kernel
theorem d_V_promote_26 : decode b_V_promote 26 = .ok (.getfield 194, 3) := by decide +kernel
theorem d_V_promote_29 : decode b_V_promote 29 = .ok (.ifCond .eq 6, 3) := by decide +kernel
theorem d_V_promote_32 : decode b_V_promote 32 = .ok (.bipush (-6), 2) := by decide +kernel
theorem d_V_promote_34 : decode b_V_promote 34 = .ok (.ireturn, 1) := by decide +kernel
theorem d_V_promote_35 : decode b_V_promote 35 = .ok (.aload_n 0, 1) := by decide +kernel
theorem d_V_promote_36 : decode b_V_promote 36 = .ok (.getfield 28, 3) := by decide +kernel
theorem d_V_promote_39 : decode b_V_promote 39 = .ok (.ifCond .eq 17, 3) := by decide +kernel
theorem d_V_promote_42 : decode b_V_promote 42 = .ok (.aload_n 0, 1) := by decide +kernel
theorem d_V_promote_43 : decode b_V_promote 43 = .ok (.iload_n 1, 1) := by decide +kernel
theorem d_V_promote_44 : decode b_V_promote 44 = .ok (.invokevirtual 126, 3) := by decide +kernel
theorem d_V_promote_47 : decode b_V_promote 47 = .ok (.getfield 50, 3) := by decide +kernel
theorem d_V_promote_50 : decode b_V_promote 50 = .ok (.ifCond .eq 6, 3) := by decide +kernel
theorem d_V_promote_53 : decode b_V_promote 53 = .ok (.bipush (-7), 2) := by decide +kernel
theorem d_V_promote_55 : decode b_V_promote 55 = .ok (.ireturn, 1) := by decide +kernel
theorem d_V_promote_56 : decode b_V_promote 56 = .ok (.aload_n 2, 1) := by decide +kernel
theorem d_V_promote_57 : decode b_V_promote 57 = .ok (.iconst 1, 1) := by decide +kernel
theorem d_V_promote_58 : decode b_V_promote 58 = .ok (.putfield 50, 3) := by decide +kernel
theorem d_V_promote_61 : decode b_V_promote 61 = .ok (.iconst 0, 1) := by decide +kernel
theorem d_V_promote_62 : decode b_V_promote 62 = .ok (.ireturn, 1) := by decide +kernel
theorem d_V_demote_0 : decode b_V_demote 0 = .ok (.iload_n 1, 1) := by decide +kernel
theorem d_V_demote_1 : decode b_V_demote 1 = .ok (.invokestatic 36, 3) := by decide +kernel
theorem d_V_demote_4 : decode b_V_demote 4 = .ok (.ifCond .ne 5, 3) := by decide +kernel
theorem d_V_demote_7 : decode b_V_demote 7 = .ok (.iconst (-1), 1) := by decide +kernel
theorem d_V_demote_8 : decode b_V_demote 8 = .ok (.ireturn, 1) := by decide +kernel
theorem d_V_demote_9 : decode b_V_demote 9 = .ok (.aload_n 0, 1) := by decide +kernel
theorem d_V_demote_10 : decode b_V_demote 10 = .ok (.iload_n 1, 1) := by decide +kernel
theorem d_V_demote_11 : decode b_V_demote 11 = .ok (.invokevirtual 43, 3) := by decide +kernel
theorem d_V_demote_14 : decode b_V_demote 14 = .ok (.astore_n 2, 1) := by decide +kernel
theorem d_V_demote_15 : decode b_V_demote 15 = .ok (.aload_n 2, 1) := by decide +kernel
theorem d_V_demote_16 : decode b_V_demote 16 = .ok (.getfield 47, 3) := by decide +kernel
theorem d_V_demote_19 : decode b_V_demote 19 = .ok (.ifCond .ne 6, 3) := by decide +kernel
theorem d_V_demote_22 : decode b_V_demote 22 = .ok (.bipush (-2), 2) := by decide +kernel
theorem d_V_demote_24 : decode b_V_demote 24 = .ok (.ireturn, 1) := by decide +kernel
theorem d_V_demote_25 : decode b_V_demote 25 = .ok (.aload_n 2, 1) := by decide +kernel
theorem d_V_demote_26 : decode b_V_demote 26 = .ok (.getfield 50, 3) := by decide +kernel
theorem d_V_demote_29 : decode b_V_demote 29 = .ok (.ifCond .ne 6, 3) := by decide +kernel
theorem d_V_demote_32 : decode b_V_demote 32 = .ok (.bipush (-3), 2) := by decide +kernel
theorem d_V_demote_34 : decode b_V_demote 34 = .ok (.ireturn, 1) := by decide +kernel
theorem d_V_demote_35 : decode b_V_demote 35 = .ok (.aload_n 0, 1) := by decide +kernel
theorem d_V_demote_36 : decode b_V_demote 36 = .ok (.getfield 24, 3) := by decide +kernel
theorem d_V_demote_39 : decode b_V_demote 39 = .ok (.iload_n 1, 1) := by decide +kernel
theorem d_V_demote_40 : decode b_V_demote 40 = .ok (.invokevirtual 57, 3) := by decide +kernel
theorem d_V_demote_43 : decode b_V_demote 43 = .ok (.ifCond .le 6, 3) := by decide +kernel
theorem d_V_demote_46 : decode b_V_demote 46 = .ok (.bipush (-5), 2) := by decide +kernel
theorem d_V_demote_48 : decode b_V_demote 48 = .ok (.ireturn, 1) := by decide +kernel
theorem d_V_demote_49 : decode b_V_demote 49 = .ok (.aload_n 2, 1) := by decide +kernel
theorem d_V_demote_50 : decode b_V_demote 50 = .ok (.iconst 0, 1) := by decide +kernel
theorem d_V_demote_51 : decode b_V_demote 51 = .ok (.putfield 50, 3) := by decide +kernel
theorem d_V_demote_54 : decode b_V_demote 54 = .ok (.iconst 0, 1) := by decide +kernel
theorem d_V_demote_55 : decode b_V_demote 55 = .ok (.ireturn, 1) := by decide +kernel
theorem d_V_discard_0 : decode b_V_discard 0 = .ok (.iload_n 1, 1) := by decide +kernel
theorem d_V_discard_1 : decode b_V_discard 1 = .ok (.invokestatic 36, 3) := by decide +kernel
theorem d_V_discard_4 : decode b_V_discard 4 = .ok (.ifCond .eq 10, 3) := by decide +kernel
theorem d_V_discard_7 : decode b_V_discard 7 = .ok (.aload_n 0, 1) := by decide +kernel
theorem d_V_discard_8 : decode b_V_discard 8 = .ok (.getfield 28, 3) := by decide +kernel
theorem d_V_discard_11 : decode b_V_discard 11 = .ok (.ifCond .eq 5, 3) := by decide +kernel
theorem d_V_discard_14 : decode b_V_discard 14 = .ok (.iconst 0, 1) := by decide +kernel
theorem d_V_discard_15 : decode b_V_discard 15 = .ok (.ireturn, 1) := by decide +kernel
theorem d_V_discard_16 : decode b_V_discard 16 = .ok (.aload_n 0, 1) := by decide +kernel
theorem d_V_discard_17 : decode b_V_discard 17 = .ok (.iload_n 1, 1) := by decide +kernel
theorem d_V_discard_18 : decode b_V_discard 18 = .ok (.invokevirtual 43, 3) := by decide +kernel
theorem d_V_discard_21 : decode b_V_discard 21 = .ok (.astore_n 2, 1) := by decide +kernel
theorem d_V_discard_22 : decode b_V_discard 22 = .ok (.aload_n 2, 1) := by decide +kernel
theorem d_V_discard_23 : decode b_V_discard 23 = .ok (.getfield 47, 3) := by decide +kernel
theorem d_V_discard_26 : decode b_V_discard 26 = .ok (.ifCond .eq 21, 3) := by decide +kernel
theorem d_V_discard_29 : decode b_V_discard 29 = .ok (.aload_n 2, 1) := by decide +kernel
theorem d_V_discard_30 : decode b_V_discard 30 = .ok (.getfield 50, 3) := by decide +kernel
theorem d_V_discard_33 : decode b_V_discard 33 = .ok (.ifCond .ne 14, 3) := by decide +kernel
theorem d_V_discard_36 : decode b_V_discard 36 = .ok (.aload_n 0, 1) := by decide +kernel
theorem d_V_discard_37 : decode b_V_discard 37 = .ok (.iload_n 1, 1) := by decide +kernel
theorem d_V_discard_38 : decode b_V_discard 38 = .ok (.invokevirtual 126, 3) := by decide +kernel
theorem d_V_discard_41 : decode b_V_discard 41 = .ok (.getfield 194, 3) := by decide +kernel
theorem d_V_discard_44 : decode b_V_discard 44 = .ok (.ifCond .eq 5, 3) := by decide +kernel
theorem d_V_discard_47 : decode b_V_discard 47 = .ok (.iconst 0, 1) := by decide +kernel
theorem d_V_discard_48 : decode b_V_discard 48 = .ok (.ireturn, 1) := by decide +kernel
theorem d_V_discard_49 : decode b_V_discard 49 = .ok (.aload_n 2, 1) := by decide +kernel
theorem d_V_discard_50 : decode b_V_discard 50 = .ok (.iconst 1, 1) := by decide +kernel
theorem d_V_discard_51 : decode b_V_discard 51 = .ok (.putfield 194, 3) := by decide +kernel
theorem d_V_discard_54 : decode b_V_discard 54 = .ok (.aload_n 2, 1) := by decide +kernel
theorem d_V_discard_55 : decode b_V_discard 55 = .ok (.iconst 0, 1) := by decide +kernel
theorem d_V_discard_56 : decode b_V_discard 56 = .ok (.putfield 188, 3) := by decide +kernel
theorem d_V_discard_59 : decode b_V_discard 59 = .ok (.aload_n 2, 1) := by decide +kernel
theorem d_V_discard_60 : decode b_V_discard 60 = .ok (.iconst 0, 1) := by decide +kernel
theorem d_V_discard_61 : decode b_V_discard 61 = .ok (.putfield 197, 3) := by decide +kernel
theorem d_V_discard_64 : decode b_V_discard 64 = .ok (.aload_n 2, 1) := by decide +kernel
theorem d_V_discard_65 : decode b_V_discard 65 = .ok (.iconst 0, 1) := by decide +kernel
theorem d_V_discard_66 : decode b_V_discard 66 = .ok (.putfield 200, 3) := by decide +kernel
theorem d_V_discard_69 : decode b_V_discard 69 = .ok (.aload_n 2, 1) := by decide +kernel
theorem d_V_discard_70 : decode b_V_discard 70 = .ok (.iconst 0, 1) := by decide +kernel
theorem d_V_discard_71 : decode b_V_discard 71 = .ok (.putfield 166, 3) := by decide +kernel
theorem d_V_discard_74 : decode b_V_discard 74 = .ok (.aload_n 0, 1) := by decide +kernel
theorem d_V_discard_75 : decode b_V_discard 75 = .ok (.getfield 24, 3) := by decide +kernel
theorem d_V_discard_78 : decode b_V_discard 78 = .ok (.iload_n 1, 1) := by decide +kernel
theorem d_V_discard_79 : decode b_V_discard 79 = .ok (.iconst 3, 1) := by decide +kernel
theorem d_V_discard_80 : decode b_V_discard 80 = .ok (.iconst 4, 1) := by decide +kernel
theorem d_V_discard_81 : decode b_V_discard 81 = .ok (.invokevirtual 185, 3) := by decide +kernel
theorem d_V_discard_84 : decode b_V_discard 84 = .ok (.iconst 1, 1) := by decide +kernel
theorem d_V_discard_85 : decode b_V_discard 85 = .ok (.ireturn, 1) := by decide +kernel
theorem d_V_disk_0 : decode b_V_disk 0 = .ok (.iload_n 1, 1) := by decide +kernel
theorem d_V_disk_1 : decode b_V_disk 1 = .ok (.invokestatic 36, 3) := by decide +kernel
theorem d_V_disk_4 : decode b_V_disk 4 = .ok (.ifCond .eq 23, 3) := by decide +kernel
theorem d_V_disk_7 : decode b_V_disk 7 = .ok (.iload_n 2, 1) := by decide +kernel
theorem d_V_disk_8 : decode b_V_disk 8 = .ok (.invokestatic 40, 3) := by decide +kernel
theorem d_V_disk_11 : decode b_V_disk 11 = .ok (.ifCond .eq 16, 3) := by decide +kernel
theorem d_V_disk_14 : decode b_V_disk 14 = .ok (.aload_n 0, 1) := by decide +kernel
theorem d_V_disk_15 : decode b_V_disk 15 = .ok (.iload_n 1, 1) := by decide +kernel
theorem d_V_disk_16 : decode b_V_disk 16 = .ok (.invokevirtual 43, 3) := by decide +kernel
theorem d_V_disk_19 : decode b_V_disk 19 = .ok (.getfield 78, 3) := by decide +kernel
theorem d_V_disk_22 : decode b_V_disk 22 = .ok (.iload_n 2, 1) := by decide +kernel
theorem d_V_disk_23 : decode b_V_disk 23 = .ok (.iaload, 1) := by decide +kernel
theorem d_V_disk_24 : decode b_V_disk 24 = .ok (.goto 4, 3) := by decide +kernel
theorem d_V_disk_27 : decode b_V_disk 27 = .ok (.iconst 0, 1) := by decide +kernel
theorem d_V_disk_28 : decode b_V_disk 28 = .ok (.ireturn, 1) := by decide +kernel
theorem d_V_fate_0 : decode b_V_fate 0 = .ok (.aload_n 0, 1) := by decide +kernel
theorem d_V_fate_1 : decode b_V_fate 1 = .ok (.getfield 24, 3) := by decide +kernel
theorem d_V_fate_4 : decode b_V_fate 4 = .ok (.iload_n 1, 1) := by decide +kernel
theorem d_V_fate_5 : decode b_V_fate 5 = .ok (.invokevirtual 203, 3) := by decide +kernel
theorem d_V_fate_8 : decode b_V_fate 8 = .ok (.ifCond .eq 15, 3) := by decide +kernel
theorem d_V_fate_11 : decode b_V_fate 11 = .ok (.aload_n 0, 1) := by decide +kernel
theorem d_V_fate_12 : decode b_V_fate 12 = .ok (.getfield 24, 3) := by decide +kernel
theorem d_V_fate_15 : decode b_V_fate 15 = .ok (.getfield 206, 3) := by decide +kernel
theorem d_V_fate_18 : decode b_V_fate 18 = .ok (.iload_n 1, 1) := by decide +kernel
theorem d_V_fate_19 : decode b_V_fate 19 = .ok (.iaload, 1) := by decide +kernel
theorem d_V_fate_20 : decode b_V_fate 20 = .ok (.goto 4, 3) := by decide +kernel
theorem d_V_fate_23 : decode b_V_fate 23 = .ok (.iconst 0, 1) := by decide +kernel
theorem d_V_fate_24 : decode b_V_fate 24 = .ok (.ireturn, 1) := by decide +kernel
theorem d_V_state_0 : decode b_V_state 0 = .ok (.iload_n 1, 1) := by decide +kernel
theorem d_V_state_1 : decode b_V_state 1 = .ok (.invokestatic 36, 3) := by decide +kernel
theorem d_V_state_4 : decode b_V_state 4 = .ok (.ifCond .ne 5, 3) := by decide +kernel
theorem d_V_state_7 : decode b_V_state 7 = .ok (.iconst (-1), 1) := by decide +kernel
theorem d_V_state_8 : decode b_V_state 8 = .ok (.ireturn, 1) := by decide +kernel
theorem d_V_state_9 : decode b_V_state 9 = .ok (.aload_n 0, 1) := by decide +kernel
theorem d_V_state_10 : decode b_V_state 10 = .ok (.iload_n 1, 1) := by decide +kernel
theorem d_V_state_11 : decode b_V_state 11 = .ok (.invokevirtual 43, 3) := by decide +kernel
theorem d_V_state_14 : decode b_V_state 14 = .ok (.astore_n 2, 1) := by decide +kernel
theorem d_V_state_15 : decode b_V_state 15 = .ok (.aload_n 2, 1) := by decide +kernel
theorem d_V_state_16 : decode b_V_state 16 = .ok (.getfield 47, 3) := by decide +kernel
theorem d_V_state_19 : decode b_V_state 19 = .ok (.ifCond .eq 7, 3) := by decide +kernel
theorem d_V_state_22 : decode b_V_state 22 = .ok (.iconst 1, 1) := by decide +kernel
theorem d_V_state_23 : decode b_V_state 23 = .ok (.goto 4, 3) := by decide +kernel
theorem d_V_state_26 : decode b_V_state 26 = .ok (.iconst 0, 1) := by decide +kernel
theorem d_V_state_27 : decode b_V_state 27 = .ok (.istore_n 3, 1) := by decide +kernel
theorem d_V_state_28 : decode b_V_state 28 = .ok (.iload_n 3, 1) := by decide +kernel
theorem d_V_state_29 : decode b_V_state 29 = .ok (.aload_n 2, 1) := by decide +kernel
theorem d_V_state_30 : decode b_V_state 30 = .ok (.getfield 50, 3) := by decide +kernel
theorem d_V_state_33 : decode b_V_state 33 = .ok (.ifCond .eq 7, 3) := by decide +kernel
theorem d_V_state_36 : decode b_V_state 36 = .ok (.iconst 2, 1) := by decide +kernel
theorem d_V_state_37 : decode b_V_state 37 = .ok (.goto 4, 3) := by decide +kernel
theorem d_V_state_40 : decode b_V_state 40 = .ok (.iconst 0, 1) := by decide +kernel
theorem d_V_state_41 : decode b_V_state 41 = .ok (.iadd, 1) := by decide +kernel
theorem d_V_state_42 : decode b_V_state 42 = .ok (.istore_n 3, 1) := by decide +kernel
theorem d_V_state_43 : decode b_V_state 43 = .ok (.iload_n 3, 1) := by decide +kernel
theorem d_V_state_44 : decode b_V_state 44 = .ok (.aload_n 2, 1) := by decide +kernel
theorem d_V_state_45 : decode b_V_state 45 = .ok (.getfield 194, 3) := by decide +kernel
theorem d_V_state_48 : decode b_V_state 48 = .ok (.ifCond .eq 7, 3) := by decide +kernel
theorem d_V_state_51 : decode b_V_state 51 = .ok (.iconst 4, 1) := by decide +kernel
theorem d_V_state_52 : decode b_V_state 52 = .ok (.goto 4, 3) := by decide +kernel
theorem d_V_state_55 : decode b_V_state 55 = .ok (.iconst 0, 1) := by decide +kernel
theorem d_V_state_56 : decode b_V_state 56 = .ok (.iadd, 1) := by decide +kernel
theorem d_V_state_57 : decode b_V_state 57 = .ok (.istore_n 3, 1) := by decide +kernel
theorem d_V_state_58 : decode b_V_state 58 = .ok (.iload_n 3, 1) := by decide +kernel
theorem d_V_state_59 : decode b_V_state 59 = .ok (.aload_n 2, 1) := by decide +kernel
theorem d_V_state_60 : decode b_V_state 60 = .ok (.getfield 188, 3) := by decide +kernel
theorem d_V_state_63 : decode b_V_state 63 = .ok (.ifCond .eq 8, 3) := by decide +kernel
theorem d_V_state_66 : decode b_V_state 66 = .ok (.bipush 8, 2) := by decide +kernel
theorem d_V_state_68 : decode b_V_state 68 = .ok (.goto 4, 3) := by decide +kernel
theorem d_V_state_71 : decode b_V_state 71 = .ok (.iconst 0, 1) := by decide +kernel
theorem d_V_state_72 : decode b_V_state 72 = .ok (.iadd, 1) := by decide +kernel
theorem d_V_state_73 : decode b_V_state 73 = .ok (.istore_n 3, 1) := by decide +kernel
theorem d_V_state_74 : decode b_V_state 74 = .ok (.iload_n 3, 1) := by decide +kernel
theorem d_V_state_75 : decode b_V_state 75 = .ok (.aload_n 0, 1) := by decide +kernel
theorem d_V_state_76 : decode b_V_state 76 = .ok (.getfield 28, 3) := by decide +kernel
theorem d_V_state_79 : decode b_V_state 79 = .ok (.ifCond .eq 8, 3) := by decide +kernel
theorem d_V_state_82 : decode b_V_state 82 = .ok (.bipush 16, 2) := by decide +kernel
theorem d_V_state_84 : decode b_V_state 84 = .ok (.goto 4, 3) := by decide +kernel
theorem d_V_state_87 : decode b_V_state 87 = .ok (.iconst 0, 1) := by decide +kernel
theorem d_V_state_88 : decode b_V_state 88 = .ok (.iadd, 1) := by decide +kernel
theorem d_V_state_89 : decode b_V_state 89 = .ok (.istore_n 3, 1) := by decide +kernel
theorem d_V_state_90 : decode b_V_state 90 = .ok (.iload_n 3, 1) := by decide +kernel
theorem d_V_state_91 : decode b_V_state 91 = .ok (.aload_n 2, 1) := by decide +kernel
theorem d_V_state_92 : decode b_V_state 92 = .ok (.getfield 155, 3) := by decide +kernel
theorem d_V_state_95 : decode b_V_state 95 = .ok (.ifCond .eq 8, 3) := by decide +kernel
theorem d_V_state_98 : decode b_V_state 98 = .ok (.bipush 32, 2) := by decide +kernel
theorem d_V_state_100 : decode b_V_state 100 = .ok (.goto 4, 3) := by decide +kernel
theorem d_V_state_103 : decode b_V_state 103 = .ok (.iconst 0, 1) := by decide +kernel
theorem d_V_state_104 : decode b_V_state 104 = .ok (.iadd, 1) := by decide +kernel
theorem d_V_state_105 : decode b_V_state 105 = .ok (.istore_n 3, 1) := by decide +kernel
theorem d_V_state_106 : decode b_V_state 106 = .ok (.iload_n 3, 1) := by decide +kernel
theorem d_V_state_107 : decode b_V_state 107 = .ok (.aload_n 2, 1) := by decide +kernel
theorem d_V_state_108 : decode b_V_state 108 = .ok (.getfield 209, 3) := by decide +kernel
theorem d_V_state_111 : decode b_V_state 111 = .ok (.ifCond .eq 8, 3) := by decide +kernel
theorem d_V_state_114 : decode b_V_state 114 = .ok (.bipush 64, 2) := by decide +kernel
theorem d_V_state_116 : decode b_V_state 116 = .ok (.goto 4, 3) := by decide +kernel
theorem d_V_state_119 : decode b_V_state 119 = .ok (.iconst 0, 1) := by decide +kernel
theorem d_V_state_120 : decode b_V_state 120 = .ok (.iadd, 1) := by decide +kernel
theorem d_V_state_121 : decode b_V_state 121 = .ok (.istore_n 3, 1) := by decide +kernel
theorem d_V_state_122 : decode b_V_state 122 = .ok (.iload_n 3, 1) := by decide +kernel
theorem d_V_state_123 : decode b_V_state 123 = .ok (.ireturn, 1) := by decide +kernel
theorem d_V_generation_0 : decode b_V_generation 0 = .ok (.iload_n 1, 1) := by decide +kernel
theorem d_V_generation_1 : decode b_V_generation 1 = .ok (.invokestatic 36, 3) := by decide +kernel
theorem d_V_generation_4 : decode b_V_generation 4 = .ok (.ifCond .eq 28, 3) := by decide +kernel
theorem d_V_generation_7 : decode b_V_generation 7 = .ok (.aload_n 0, 1) := by decide +kernel
theorem d_V_generation_8 : decode b_V_generation 8 = .ok (.iload_n 1, 1) := by decide +kernel
theorem d_V_generation_9 : decode b_V_generation 9 = .ok (.invokevirtual 43, 3) := by decide +kernel
theorem d_V_generation_12 : decode b_V_generation 12 = .ok (.getfield 197, 3) := by decide +kernel
theorem d_V_generation_15 : decode b_V_generation 15 = .ok (.i2l, 1) := by decide +kernel
theorem d_V_generation_16 : decode b_V_generation 16 = .ok (.bipush 32, 2) := by decide +kernel
theorem d_V_generation_18 : decode b_V_generation 18 = .ok (.lshl, 1) := by decide +kernel
theorem d_V_generation_19 : decode b_V_generation 19 = .ok (.aload_n 0, 1) := by decide +kernel
theorem d_V_generation_20 : decode b_V_generation 20 = .ok (.iload_n 1, 1) := by decide +kernel
theorem d_V_generation_21 : decode b_V_generation 21 = .ok (.invokevirtual 43, 3) := by decide +kernel
theorem d_V_generation_24 : decode b_V_generation 24 = .ok (.getfield 200, 3) := by decide +kernel
theorem d_V_generation_27 : decode b_V_generation 27 = .ok (.i2l, 1) := by decide +kernel
theorem d_V_generation_28 : decode b_V_generation 28 = .ok (.ladd, 1) := by decide +kernel
theorem d_V_generation_29 : decode b_V_generation 29 = .ok (.goto 4, 3) := by decide +kernel
theorem d_V_generation_32 : decode b_V_generation 32 = .ok (.lconst 0, 1) := by decide +kernel
theorem d_V_generation_33 : decode b_V_generation 33 = .ok (.lreturn, 1) := by decide +kernel
theorem d_V_map_0 : decode b_V_map 0 = .ok (.iload_n 1, 1) := by decide +kernel
theorem d_V_map_1 : decode b_V_map 1 = .ok (.invokestatic 36, 3) := by decide +kernel
theorem d_V_map_4 : decode b_V_map 4 = .ok (.ifCond .eq 14, 3) := by decide +kernel
theorem d_V_map_7 : decode b_V_map 7 = .ok (.aload_n 0, 1) := by decide +kernel
theorem d_V_map_8 : decode b_V_map 8 = .ok (.iload_n 1, 1) := by decide +kernel
theorem d_V_map_9 : decode b_V_map 9 = .ok (.invokevirtual 43, 3) := by decide +kernel
theorem d_V_map_12 : decode b_V_map 12 = .ok (.getfield 166, 3) := by decide +kernel
theorem d_V_map_15 : decode b_V_map 15 = .ok (.goto 4, 3) := by decide +kernel
theorem d_V_map_18 : decode b_V_map 18 = .ok (.iconst 0, 1) := by decide +kernel
theorem d_V_map_19 : decode b_V_map 19 = .ok (.ireturn, 1) := by decide +kernel
theorem d_V_log_0 : decode b_V_log 0 = .ok (.iload_n 1, 1) := by decide +kernel
theorem d_V_log_1 : decode b_V_log 1 = .ok (.invokestatic 36, 3) := by decide +kernel
theorem d_V_log_4 : decode b_V_log 4 = .ok (.ifCond .eq 18, 3) := by decide +kernel
theorem d_V_log_7 : decode b_V_log 7 = .ok (.aload_n 0, 1) := by decide +kernel
theorem d_V_log_8 : decode b_V_log 8 = .ok (.iload_n 1, 1) := by decide +kernel
theorem d_V_log_9 : decode b_V_log 9 = .ok (.invokevirtual 43, 3) := by decide +kernel
theorem d_V_log_12 : decode b_V_log 12 = .ok (.getfield 64, 3) := by decide +kernel
theorem d_V_log_15 : decode b_V_log 15 = .ok (.iload_n 2, 1) := by decide +kernel
theorem d_V_log_16 : decode b_V_log 16 = .ok (.invokevirtual 212, 3) := by decide +kernel
theorem d_V_log_19 : decode b_V_log 19 = .ok (.goto 4, 3) := by decide +kernel
theorem d_V_log_22 : decode b_V_log 22 = .ok (.iconst (-1), 1) := by decide +kernel
theorem d_V_log_23 : decode b_V_log 23 = .ok (.ireturn, 1) := by decide +kernel
theorem d_V_traffic_0 : decode b_V_traffic 0 = .ok (.iload_n 1, 1) := by decide +kernel
theorem d_V_traffic_1 : decode b_V_traffic 1 = .ok (.invokestatic 36, 3) := by decide +kernel
theorem d_V_traffic_4 : decode b_V_traffic 4 = .ok (.ifCond .ne 5, 3) := by decide +kernel
theorem d_V_traffic_7 : decode b_V_traffic 7 = .ok (.iconst 0, 1) := by decide +kernel
theorem d_V_traffic_8 : decode b_V_traffic 8 = .ok (.ireturn, 1) := by decide +kernel
theorem d_V_traffic_9 : decode b_V_traffic 9 = .ok (.aload_n 0, 1) := by decide +kernel
theorem d_V_traffic_10 : decode b_V_traffic 10 = .ok (.iload_n 1, 1) := by decide +kernel
theorem d_V_traffic_11 : decode b_V_traffic 11 = .ok (.invokevirtual 43, 3) := by decide +kernel
theorem d_V_traffic_14 : decode b_V_traffic 14 = .ok (.astore_n 2, 1) := by decide +kernel
theorem d_V_traffic_15 : decode b_V_traffic 15 = .ok (.aload_n 2, 1) := by decide +kernel
theorem d_V_traffic_16 : decode b_V_traffic 16 = .ok (.getfield 94, 3) := by decide +kernel
theorem d_V_traffic_19 : decode b_V_traffic 19 = .ok (.getfield 110, 3) := by decide +kernel
theorem d_V_traffic_22 : decode b_V_traffic 22 = .ok (.bipush 100, 2) := by decide +kernel
theorem d_V_traffic_24 : decode b_V_traffic 24 = .ok (.aload_n 2, 1) := by decide +kernel
theorem d_V_traffic_25 : decode b_V_traffic 25 = .ok (.getfield 133, 3) := by decide +kernel
theorem d_V_traffic_28 : decode b_V_traffic 28 = .ok (.getfield 137, 3) := by decide +kernel
theorem d_V_traffic_31 : decode b_V_traffic 31 = .ok (.imul, 1) := by decide +kernel
theorem d_V_traffic_32 : decode b_V_traffic 32 = .ok (.iadd, 1) := by decide +kernel
theorem d_V_traffic_33 : decode b_V_traffic 33 = .ok (.sipush 10000, 3) := by decide +kernel
theorem d_V_traffic_36 : decode b_V_traffic 36 = .ok (.aload_n 2, 1) := by decide +kernel
theorem d_V_traffic_37 : decode b_V_traffic 37 = .ok (.getfield 158, 3) := by decide +kernel
theorem d_V_traffic_40 : decode b_V_traffic 40 = .ok (.invokestatic 161, 3) := by decide +kernel
theorem d_V_traffic_43 : decode b_V_traffic 43 = .ok (.imul, 1) := by decide +kernel
theorem d_V_traffic_44 : decode b_V_traffic 44 = .ok (.iadd, 1) := by decide +kernel
theorem d_V_traffic_45 : decode b_V_traffic 45 = .ok (.ireturn, 1) := by decide +kernel
theorem d_V_isNode_0 : decode b_V_isNode 0 = .ok (.iload_n 0, 1) := by decide +kernel
theorem d_V_isNode_1 : decode b_V_isNode 1 = .ok (.ifCond .eq 8, 3) := by decide +kernel
theorem d_V_isNode_4 : decode b_V_isNode 4 = .ok (.iload_n 0, 1) := by decide +kernel
theorem d_V_isNode_5 : decode b_V_isNode 5 = .ok (.iconst 1, 1) := by decide +kernel
theorem d_V_isNode_6 : decode b_V_isNode 6 = .ok (.if_icmp .ne 7, 3) := by decide +kernel
theorem d_V_isNode_9 : decode b_V_isNode 9 = .ok (.iconst 1, 1) := by decide +kernel
theorem d_V_isNode_10 : decode b_V_isNode 10 = .ok (.goto 4, 3) := by decide +kernel
theorem d_V_isNode_13 : decode b_V_isNode 13 = .ok (.iconst 0, 1) := by decide +kernel
theorem d_V_isNode_14 : decode b_V_isNode 14 = .ok (.ireturn, 1) := by decide +kernel
theorem d_V_isBlock_0 : decode b_V_isBlock 0 = .ok (.iload_n 0, 1) := by decide +kernel
theorem d_V_isBlock_1 : decode b_V_isBlock 1 = .ok (.ifCond .lt 13, 3) := by decide +kernel
theorem d_V_isBlock_4 : decode b_V_isBlock 4 = .ok (.iload_n 0, 1) := by decide +kernel
theorem d_V_isBlock_5 : decode b_V_isBlock 5 = .ok (.bipush 32, 2) := by decide +kernel
theorem d_V_isBlock_7 : decode b_V_isBlock 7 = .ok (.if_icmp .ge 7, 3) := by decide +kernel
theorem d_V_isBlock_10 : decode b_V_isBlock 10 = .ok (.iconst 1, 1) := by decide +kernel
theorem d_V_isBlock_11 : decode b_V_isBlock 11 = .ok (.goto 4, 3) := by decide +kernel
theorem d_V_isBlock_14 : decode b_V_isBlock 14 = .ok (.iconst 0, 1) := by decide +kernel
theorem d_V_isBlock_15 : decode b_V_isBlock 15 = .ok (.ireturn, 1) := by decide +kernel
theorem d_V_hasBlock_0 : decode b_V_hasBlock 0 = .ok (.iload_n 0, 1) := by decide +kernel
theorem d_V_hasBlock_1 : decode b_V_hasBlock 1 = .ok (.iload_n 1, 1) := by decide +kernel
theorem d_V_hasBlock_2 : decode b_V_hasBlock 2 = .ok (.iushr, 1) := by decide +kernel
theorem d_V_hasBlock_3 : decode b_V_hasBlock 3 = .ok (.iconst 1, 1) := by decide +kernel
theorem d_V_hasBlock_4 : decode b_V_hasBlock 4 = .ok (.iand, 1) := by decide +kernel
theorem d_V_hasBlock_5 : decode b_V_hasBlock 5 = .ok (.ifCond .eq 7, 3) := by decide +kernel
theorem d_V_hasBlock_8 : decode b_V_hasBlock 8 = .ok (.iconst 1, 1) := by decide +kernel
theorem d_V_hasBlock_9 : decode b_V_hasBlock 9 = .ok (.goto 4, 3) := by decide +kernel
theorem d_V_hasBlock_12 : decode b_V_hasBlock 12 = .ok (.iconst 0, 1) := by decide +kernel
theorem d_V_hasBlock_13 : decode b_V_hasBlock 13 = .ok (.ireturn, 1) := by decide +kernel
theorem d_V_leastBlock_0 : decode b_V_leastBlock 0 = .ok (.iconst 0, 1) := by decide +kernel
theorem d_V_leastBlock_1 : decode b_V_leastBlock 1 = .ok (.istore_n 1, 1) := by decide +kernel
theorem d_V_leastBlock_2 : decode b_V_leastBlock 2 = .ok (.iload_n 1, 1) := by decide +kernel
theorem d_V_leastBlock_3 : decode b_V_leastBlock 3 = .ok (.bipush 32, 2) := by decide +kernel
theorem d_V_leastBlock_5 : decode b_V_leastBlock 5 = .ok (.if_icmp .ge 19, 3) := by decide +kernel
theorem d_V_leastBlock_8 : decode b_V_leastBlock 8 = .ok (.iload_n 0, 1) := by decide +kernel
theorem d_V_leastBlock_9 : decode b_V_leastBlock 9 = .ok (.iload_n 1, 1) := by decide +kernel
theorem d_V_leastBlock_10 : decode b_V_leastBlock 10 = .ok (.invokestatic 82, 3) := by decide +kernel
theorem d_V_leastBlock_13 : decode b_V_leastBlock 13 = .ok (.ifCond .eq 5, 3) := by decide +kernel
theorem d_V_leastBlock_16 : decode b_V_leastBlock 16 = .ok (.iload_n 1, 1) := by decide +kernel
theorem d_V_leastBlock_17 : decode b_V_leastBlock 17 = .ok (.ireturn, 1) := by decide +kernel
theorem d_V_leastBlock_18 : decode b_V_leastBlock 18 = .ok (.iinc 1 1, 3) := by decide +kernel
theorem d_V_leastBlock_21 : decode b_V_leastBlock 21 = .ok (.goto (-19), 3) := by decide +kernel
theorem d_V_leastBlock_24 : decode b_V_leastBlock 24 = .ok (.iconst (-1), 1) := by decide +kernel
theorem d_V_leastBlock_25 : decode b_V_leastBlock 25 = .ok (.ireturn, 1) := by decide +kernel
theorem d_V_blocksOfExtent_0 : decode b_V_blocksOfExtent 0 = .ok (.bipush 15, 2) := by decide +kernel
theorem d_V_blocksOfExtent_2 : decode b_V_blocksOfExtent 2 = .ok (.iload_n 0, 1) := by decide +kernel
theorem d_V_blocksOfExtent_3 : decode b_V_blocksOfExtent 3 = .ok (.iconst 4, 1) := by decide +kernel
theorem d_V_blocksOfExtent_4 : decode b_V_blocksOfExtent 4 = .ok (.imul, 1) := by decide +kernel
theorem d_V_blocksOfExtent_5 : decode b_V_blocksOfExtent 5 = .ok (.ishl, 1) := by decide +kernel
theorem d_V_blocksOfExtent_6 : decode b_V_blocksOfExtent 6 = .ok (.ireturn, 1) := by decide +kernel
theorem d_V_nodeOf_0 : decode b_V_nodeOf 0 = .ok (.iload_n 1, 1) := by decide +kernel
theorem d_V_nodeOf_1 : decode b_V_nodeOf 1 = .ok (.ifCond .ne 10, 3) := by decide +kernel
theorem d_V_nodeOf_4 : decode b_V_nodeOf 4 = .ok (.aload_n 0, 1) := by decide +kernel
theorem d_V_nodeOf_5 : decode b_V_nodeOf 5 = .ok (.getfield 12, 3) := by decide +kernel
theorem d_V_nodeOf_8 : decode b_V_nodeOf 8 = .ok (.goto 7, 3) := by decide +kernel
theorem d_V_nodeOf_11 : decode b_V_nodeOf 11 = .ok (.aload_n 0, 1) := by decide +kernel
theorem d_V_nodeOf_12 : decode b_V_nodeOf 12 = .ok (.getfield 18, 3) := by decide +kernel
theorem d_V_nodeOf_15 : decode b_V_nodeOf 15 = .ok (.areturn, 1) := by decide +kernel
theorem d_V_peerOf_0 : decode b_V_peerOf 0 = .ok (.iload_n 1, 1) := by decide +kernel
theorem d_V_peerOf_1 : decode b_V_peerOf 1 = .ok (.ifCond .ne 10, 3) := by decide +kernel
theorem d_V_peerOf_4 : decode b_V_peerOf 4 = .ok (.aload_n 0, 1) := by decide +kernel
theorem d_V_peerOf_5 : decode b_V_peerOf 5 = .ok (.getfield 18, 3) := by decide +kernel
theorem d_V_peerOf_8 : decode b_V_peerOf 8 = .ok (.goto 7, 3) := by decide +kernel
theorem d_V_peerOf_11 : decode b_V_peerOf 11 = .ok (.aload_n 0, 1) := by decide +kernel
theorem d_V_peerOf_12 : decode b_V_peerOf 12 = .ok (.getfield 12, 3) := by decide +kernel
theorem d_V_peerOf_15 : decode b_V_peerOf 15 = .ok (.areturn, 1) := by decide +kernel
theorem d_V_arrive_0 : decode b_V_arrive 0 = .ok (.iload_n 2, 1) := by decide +kernel
theorem d_V_arrive_1 : decode b_V_arrive 1 = .ok (.tableswitch 107 1 5 #[35, 46, 55, 76, 99], 35) := by decide +kernel
theorem d_V_arrive_36 : decode b_V_arrive 36 = .ok (.aload_n 1, 1) := by decide +kernel
theorem d_V_arrive_37 : decode b_V_arrive 37 = .ok (.getfield 133, 3) := by decide +kernel
theorem d_V_arrive_40 : decode b_V_arrive 40 = .ok (.iload_n 3, 1) := by decide +kernel
theorem d_V_arrive_41 : decode b_V_arrive 41 = .ok (.invokevirtual 215, 3) := by decide +kernel
theorem d_V_arrive_44 : decode b_V_arrive 44 = .ok (.goto 64, 3) := by decide +kernel
theorem d_V_arrive_47 : decode b_V_arrive 47 = .ok (.aload_n 0, 1) := by decide +kernel
theorem d_V_arrive_48 : decode b_V_arrive 48 = .ok (.aload_n 1, 1) := by decide +kernel
theorem d_V_arrive_49 : decode b_V_arrive 49 = .ok (.iload_n 3, 1) := by decide +kernel
theorem d_V_arrive_50 : decode b_V_arrive 50 = .ok (.invokevirtual 218, 3) := by decide +kernel
theorem d_V_arrive_53 : decode b_V_arrive 53 = .ok (.goto 55, 3) := by decide +kernel
theorem d_V_arrive_56 : decode b_V_arrive 56 = .ok (.aload_n 1, 1) := by decide +kernel
theorem d_V_arrive_57 : decode b_V_arrive 57 = .ok (.getfield 78, 3) := by decide +kernel
theorem d_V_arrive_60 : decode b_V_arrive 60 = .ok (.iload_n 3, 1) := by decide +kernel
theorem d_V_arrive_61 : decode b_V_arrive 61 = .ok (.iload 4, 2) := by decide +kernel
theorem d_V_arrive_63 : decode b_V_arrive 63 = .ok (.iastore, 1) := by decide +kernel
theorem d_V_arrive_64 : decode b_V_arrive 64 = .ok (.aload_n 1, 1) := by decide +kernel
theorem d_V_arrive_65 : decode b_V_arrive 65 = .ok (.getfield 94, 3) := by decide +kernel
theorem d_V_arrive_68 : decode b_V_arrive 68 = .ok (.iconst 4, 1) := by decide +kernel
theorem d_V_arrive_69 : decode b_V_arrive 69 = .ok (.iload_n 3, 1) := by decide +kernel
theorem d_V_arrive_70 : decode b_V_arrive 70 = .ok (.iconst 0, 1) := by decide +kernel
theorem d_V_arrive_71 : decode b_V_arrive 71 = .ok (.invokevirtual 98, 3) := by decide +kernel
theorem d_V_arrive_74 : decode b_V_arrive 74 = .ok (.goto 34, 3) := by decide +kernel
theorem d_V_arrive_77 : decode b_V_arrive 77 = .ok (.aload_n 1, 1) := by decide +kernel
theorem d_V_arrive_78 : decode b_V_arrive 78 = .ok (.dup, 1) := by decide +kernel
theorem d_V_arrive_79 : decode b_V_arrive 79 = .ok (.getfield 158, 3) := by decide +kernel
theorem d_V_arrive_82 : decode b_V_arrive 82 = .ok (.iconst 1, 1) := by decide +kernel
theorem d_V_arrive_83 : decode b_V_arrive 83 = .ok (.iload_n 3, 1) := by decide +kernel
theorem d_V_arrive_84 : decode b_V_arrive 84 = .ok (.ishl, 1) := by decide +kernel
theorem d_V_arrive_85 : decode b_V_arrive 85 = .ok (.iconst (-1), 1) := by decide +kernel
theorem d_V_arrive_86 : decode b_V_arrive 86 = .ok (.ixor, 1) := by decide +kernel
theorem d_V_arrive_87 : decode b_V_arrive 87 = .ok (.iand, 1) := by decide +kernel
theorem d_V_arrive_88 : decode b_V_arrive 88 = .ok (.putfield 158, 3) := by decide +kernel
theorem d_V_arrive_91 : decode b_V_arrive 91 = .ok (.aload_n 0, 1) := by decide +kernel
theorem d_V_arrive_92 : decode b_V_arrive 92 = .ok (.aload_n 1, 1) := by decide +kernel
theorem d_V_arrive_93 : decode b_V_arrive 93 = .ok (.iload_n 3, 1) := by decide +kernel
theorem d_V_arrive_94 : decode b_V_arrive 94 = .ok (.invokevirtual 222, 3) := by decide +kernel
theorem d_V_arrive_97 : decode b_V_arrive 97 = .ok (.goto 11, 3) := by decide +kernel
theorem d_V_arrive_100 : decode b_V_arrive 100 = .ok (.aload_n 1, 1) := by decide +kernel
theorem d_V_arrive_101 : decode b_V_arrive 101 = .ok (.iload_n 3, 1) := by decide +kernel
theorem d_V_arrive_102 : decode b_V_arrive 102 = .ok (.invokevirtual 225, 3) := by decide +kernel
theorem d_V_arrive_105 : decode b_V_arrive 105 = .ok (.goto 3, 3) := by decide +kernel
theorem d_V_arrive_108 : decode b_V_arrive 108 = .ok (.return_, 1) := by decide +kernel
theorem d_V_takeAck_0 : decode b_V_takeAck 0 = .ok (.aload_n 0, 1) := by decide +kernel
theorem d_V_takeAck_1 : decode b_V_takeAck 1 = .ok (.getfield 24, 3) := by decide +kernel
theorem d_V_takeAck_4 : decode b_V_takeAck 4 = .ok (.getfield 206, 3) := by decide +kernel
theorem d_V_takeAck_7 : decode b_V_takeAck 7 = .ok (.iload_n 2, 1) := by decide +kernel
theorem d_V_takeAck_8 : decode b_V_takeAck 8 = .ok (.iconst 2, 1) := by decide +kernel
theorem d_V_takeAck_9 : decode b_V_takeAck 9 = .ok (.iastore, 1) := by decide +kernel
theorem d_V_takeAck_10 : decode b_V_takeAck 10 = .ok (.aload_n 1, 1) := by decide +kernel
theorem d_V_takeAck_11 : decode b_V_takeAck 11 = .ok (.getfield 155, 3) := by decide +kernel
theorem d_V_takeAck_14 : decode b_V_takeAck 14 = .ok (.ifCond .eq 17, 3) := by decide +kernel
theorem d_V_takeAck_17 : decode b_V_takeAck 17 = .ok (.aload_n 0, 1) := by decide +kernel
theorem d_V_takeAck_18 : decode b_V_takeAck 18 = .ok (.aload_n 1, 1) := by decide +kernel
theorem d_V_takeAck_19 : decode b_V_takeAck 19 = .ok (.aload_n 0, 1) := by decide +kernel
theorem d_V_takeAck_20 : decode b_V_takeAck 20 = .ok (.getfield 24, 3) := by decide +kernel
theorem d_V_takeAck_23 : decode b_V_takeAck 23 = .ok (.getfield 149, 3) := by decide +kernel
theorem d_V_takeAck_26 : decode b_V_takeAck 26 = .ok (.iload_n 2, 1) := by decide +kernel
theorem d_V_takeAck_27 : decode b_V_takeAck 27 = .ok (.iaload, 1) := by decide +kernel
theorem d_V_takeAck_28 : decode b_V_takeAck 28 = .ok (.invokevirtual 222, 3) := by decide +kernel
theorem d_V_takeAck_31 : decode b_V_takeAck 31 = .ok (.return_, 1) := by decide +kernel
theorem d_V_takeFromMap_0 : decode b_V_takeFromMap 0 = .ok (.aload_n 1, 1) := by decide +kernel
theorem d_V_takeFromMap_1 : decode b_V_takeFromMap 1 = .ok (.dup, 1) := by decide +kernel
theorem d_V_takeFromMap_2 : decode b_V_takeFromMap 2 = .ok (.getfield 166, 3) := by decide +kernel
theorem d_V_takeFromMap_5 : decode b_V_takeFromMap 5 = .ok (.iconst 1, 1) := by decide +kernel
theorem d_V_takeFromMap_6 : decode b_V_takeFromMap 6 = .ok (.iload_n 2, 1) := by decide +kernel
theorem d_V_takeFromMap_7 : decode b_V_takeFromMap 7 = .ok (.ishl, 1) := by decide +kernel
theorem d_V_takeFromMap_8 : decode b_V_takeFromMap 8 = .ok (.iconst (-1), 1) := by decide +kernel
theorem d_V_takeFromMap_9 : decode b_V_takeFromMap 9 = .ok (.ixor, 1) := by decide +kernel
theorem d_V_takeFromMap_10 : decode b_V_takeFromMap 10 = .ok (.iand, 1) := by decide +kernel
theorem d_V_takeFromMap_11 : decode b_V_takeFromMap 11 = .ok (.putfield 166, 3) := by decide +kernel
theorem d_V_takeFromMap_14 : decode b_V_takeFromMap 14 = .ok (.aload_n 1, 1) := by decide +kernel
theorem d_V_takeFromMap_15 : decode b_V_takeFromMap 15 = .ok (.getfield 166, 3) := by decide +kernel
theorem d_V_takeFromMap_18 : decode b_V_takeFromMap 18 = .ok (.ifCond .ne 8, 3) := by decide +kernel
theorem d_V_takeFromMap_21 : decode b_V_takeFromMap 21 = .ok (.aload_n 0, 1) := by decide +kernel
theorem d_V_takeFromMap_22 : decode b_V_takeFromMap 22 = .ok (.aload_n 1, 1) := by decide +kernel
theorem d_V_takeFromMap_23 : decode b_V_takeFromMap 23 = .ok (.invokevirtual 228, 3) := by decide +kernel
theorem d_V_takeFromMap_26 : decode b_V_takeFromMap 26 = .ok (.return_, 1) := by decide +kernel
theorem d_V_end_0 : decode b_V_end 0 = .ok (.aload_n 1, 1) := by decide +kernel
theorem d_V_end_1 : decode b_V_end 1 = .ok (.iconst 0, 1) := by decide +kernel
theorem d_V_end_2 : decode b_V_end 2 = .ok (.putfield 155, 3) := by decide +kernel
theorem d_V_end_5 : decode b_V_end 5 = .ok (.aload_n 1, 1) := by decide +kernel
theorem d_V_end_6 : decode b_V_end 6 = .ok (.iconst 0, 1) := by decide +kernel
theorem d_V_end_7 : decode b_V_end 7 = .ok (.putfield 188, 3) := by decide +kernel
theorem d_V_end_10 : decode b_V_end 10 = .ok (.aload_n 1, 1) := by decide +kernel
theorem d_V_end_11 : decode b_V_end 11 = .ok (.iconst 0, 1) := by decide +kernel
theorem d_V_end_12 : decode b_V_end 12 = .ok (.putfield 200, 3) := by decide +kernel
theorem d_V_end_15 : decode b_V_end 15 = .ok (.aload_n 0, 1) := by decide +kernel
theorem d_V_end_16 : decode b_V_end 16 = .ok (.getfield 24, 3) := by decide +kernel
theorem d_V_end_19 : decode b_V_end 19 = .ok (.aload_n 1, 1) := by decide +kernel
theorem d_V_end_20 : decode b_V_end 20 = .ok (.getfield 232, 3) := by decide +kernel
theorem d_V_end_23 : decode b_V_end 23 = .ok (.iconst 3, 1) := by decide +kernel
theorem d_V_end_24 : decode b_V_end 24 = .ok (.iconst 2, 1) := by decide +kernel
theorem d_V_end_25 : decode b_V_end 25 = .ok (.invokevirtual 185, 3) := by decide +kernel
theorem d_V_end_28 : decode b_V_end 28 = .ok (.aload_n 1, 1) := by decide +kernel
theorem d_V_end_29 : decode b_V_end 29 = .ok (.getfield 94, 3) := by decide +kernel
theorem d_V_end_32 : decode b_V_end 32 = .ok (.iconst 5, 1) := by decide +kernel
theorem d_V_end_33 : decode b_V_end 33 = .ok (.aload_n 1, 1) := by decide +kernel
theorem d_V_end_34 : decode b_V_end 34 = .ok (.getfield 197, 3) := by decide +kernel
theorem d_V_end_37 : decode b_V_end 37 = .ok (.iconst 0, 1) := by decide +kernel
theorem d_V_end_38 : decode b_V_end 38 = .ok (.invokevirtual 98, 3) := by decide +kernel
theorem d_V_end_41 : decode b_V_end 41 = .ok (.return_, 1) := by decide +kernel
theorem d_V_endUpAlone_0 : decode b_V_endUpAlone 0 = .ok (.aload_n 0, 1) := by decide +kernel
theorem d_V_endUpAlone_1 : decode b_V_endUpAlone 1 = .ok (.getfield 24, 3) := by decide +kernel
theorem d_V_endUpAlone_4 : decode b_V_endUpAlone 4 = .ok (.getfield 206, 3) := by decide +kernel
theorem d_V_endUpAlone_7 : decode b_V_endUpAlone 7 = .ok (.iload_n 1, 1) := by decide +kernel
theorem d_V_endUpAlone_8 : decode b_V_endUpAlone 8 = .ok (.iconst 3, 1) := by decide +kernel
theorem d_V_endUpAlone_9 : decode b_V_endUpAlone 9 = .ok (.iastore, 1) := by decide +kernel
theorem d_V_endUpAlone_10 : decode b_V_endUpAlone 10 = .ok (.aload_n 0, 1) := by decide +kernel
