theorem d_V_endUpAlone_11 : decode b_V_endUpAlone 11 = .ok (.aload_n 0, 1) := by decide +kernel
theorem d_V_endUpAlone_12 : decode b_V_endUpAlone 12 = .ok (.getfield 24, 3) := by decide +kernel
theorem d_V_endUpAlone_15 : decode b_V_endUpAlone 15 = .ok (.getfield 235, 3) := by decide +kernel
theorem d_V_endUpAlone_18 : decode b_V_endUpAlone 18 = .ok (.iload_n 1, 1) := by decide +kernel
theorem d_V_endUpAlone_19 : decode b_V_endUpAlone 19 = .ok (.iaload, 1) := by decide +kernel
theorem d_V_endUpAlone_20 : decode b_V_endUpAlone 20 = .ok (.invokevirtual 43, 3) := by decide +kernel
theorem d_V_endUpAlone_23 : decode b_V_endUpAlone 23 = .ok (.astore_n 2, 1) := by decide +kernel
theorem d_V_endUpAlone_24 : decode b_V_endUpAlone 24 = .ok (.aload_n 2, 1) := by decide +kernel
theorem d_V_endUpAlone_25 : decode b_V_endUpAlone 25 = .ok (.dup, 1) := by decide +kernel
theorem d_V_endUpAlone_26 : decode b_V_endUpAlone 26 = .ok (.getfield 166, 3) := by decide +kernel
theorem d_V_endUpAlone_29 : decode b_V_endUpAlone 29 = .ok (.iconst 1, 1) := by decide +kernel
theorem d_V_endUpAlone_30 : decode b_V_endUpAlone 30 = .ok (.aload_n 0, 1) := by decide +kernel
theorem d_V_endUpAlone_31 : decode b_V_endUpAlone 31 = .ok (.getfield 24, 3) := by decide +kernel
theorem d_V_endUpAlone_34 : decode b_V_endUpAlone 34 = .ok (.getfield 149, 3) := by decide +kernel
theorem d_V_endUpAlone_37 : decode b_V_endUpAlone 37 = .ok (.iload_n 1, 1) := by decide +kernel
theorem d_V_endUpAlone_38 : decode b_V_endUpAlone 38 = .ok (.iaload, 1) := by decide +kernel
theorem d_V_endUpAlone_39 : decode b_V_endUpAlone 39 = .ok (.ishl, 1) := by decide +kernel
theorem d_V_endUpAlone_40 : decode b_V_endUpAlone 40 = .ok (.ior, 1) := by decide +kernel
theorem d_V_endUpAlone_41 : decode b_V_endUpAlone 41 = .ok (.putfield 166, 3) := by decide +kernel
theorem d_V_endUpAlone_44 : decode b_V_endUpAlone 44 = .ok (.aload_n 2, 1) := by decide +kernel
theorem d_V_endUpAlone_45 : decode b_V_endUpAlone 45 = .ok (.getfield 200, 3) := by decide +kernel
theorem d_V_endUpAlone_48 : decode b_V_endUpAlone 48 = .ok (.ifCond .ne 29, 3) := by decide +kernel
theorem d_V_endUpAlone_51 : decode b_V_endUpAlone 51 = .ok (.aload_n 2, 1) := by decide +kernel
theorem d_V_endUpAlone_52 : decode b_V_endUpAlone 52 = .ok (.aload_n 2, 1) := by decide +kernel
theorem d_V_endUpAlone_53 : decode b_V_endUpAlone 53 = .ok (.getfield 197, 3) := by decide +kernel
theorem d_V_endUpAlone_56 : decode b_V_endUpAlone 56 = .ok (.putfield 200, 3) := by decide +kernel
theorem d_V_endUpAlone_59 : decode b_V_endUpAlone 59 = .ok (.aload_n 0, 1) := by decide +kernel
theorem d_V_endUpAlone_60 : decode b_V_endUpAlone 60 = .ok (.dup, 1) := by decide +kernel
theorem d_V_endUpAlone_61 : decode b_V_endUpAlone 61 = .ok (.getfield 32, 3) := by decide +kernel
theorem d_V_endUpAlone_64 : decode b_V_endUpAlone 64 = .ok (.iconst 1, 1) := by decide +kernel
theorem d_V_endUpAlone_65 : decode b_V_endUpAlone 65 = .ok (.iadd, 1) := by decide +kernel
theorem d_V_endUpAlone_66 : decode b_V_endUpAlone 66 = .ok (.putfield 32, 3) := by decide +kernel
theorem d_V_endUpAlone_69 : decode b_V_endUpAlone 69 = .ok (.aload_n 2, 1) := by decide +kernel
theorem d_V_endUpAlone_70 : decode b_V_endUpAlone 70 = .ok (.aload_n 0, 1) := by decide +kernel
theorem d_V_endUpAlone_71 : decode b_V_endUpAlone 71 = .ok (.getfield 32, 3) := by decide +kernel
theorem d_V_endUpAlone_74 : decode b_V_endUpAlone 74 = .ok (.putfield 197, 3) := by decide +kernel
theorem d_V_endUpAlone_77 : decode b_V_endUpAlone 77 = .ok (.return_, 1) := by decide +kernel
theorem d_V_breakLink_0 : decode b_V_breakLink 0 = .ok (.aload_n 0, 1) := by decide +kernel
theorem d_V_breakLink_1 : decode b_V_breakLink 1 = .ok (.iconst 0, 1) := by decide +kernel
theorem d_V_breakLink_2 : decode b_V_breakLink 2 = .ok (.putfield 28, 3) := by decide +kernel
theorem d_V_breakLink_5 : decode b_V_breakLink 5 = .ok (.aload_n 0, 1) := by decide +kernel
theorem d_V_breakLink_6 : decode b_V_breakLink 6 = .ok (.getfield 12, 3) := by decide +kernel
theorem d_V_breakLink_9 : decode b_V_breakLink 9 = .ok (.invokevirtual 238, 3) := by decide +kernel
theorem d_V_breakLink_12 : decode b_V_breakLink 12 = .ok (.aload_n 0, 1) := by decide +kernel
theorem d_V_breakLink_13 : decode b_V_breakLink 13 = .ok (.getfield 18, 3) := by decide +kernel
theorem d_V_breakLink_16 : decode b_V_breakLink 16 = .ok (.invokevirtual 238, 3) := by decide +kernel
theorem d_V_breakLink_19 : decode b_V_breakLink 19 = .ok (.iconst 1, 1) := by decide +kernel
theorem d_V_breakLink_20 : decode b_V_breakLink 20 = .ok (.istore_n 1, 1) := by decide +kernel
theorem d_V_breakLink_21 : decode b_V_breakLink 21 = .ok (.iload_n 1, 1) := by decide +kernel
theorem d_V_breakLink_22 : decode b_V_breakLink 22 = .ok (.aload_n 0, 1) := by decide +kernel
theorem d_V_breakLink_23 : decode b_V_breakLink 23 = .ok (.getfield 24, 3) := by decide +kernel
theorem d_V_breakLink_26 : decode b_V_breakLink 26 = .ok (.getfield 241, 3) := by decide +kernel
theorem d_V_breakLink_29 : decode b_V_breakLink 29 = .ok (.if_icmp .gt 27, 3) := by decide +kernel
theorem d_V_breakLink_32 : decode b_V_breakLink 32 = .ok (.aload_n 0, 1) := by decide +kernel
theorem d_V_breakLink_33 : decode b_V_breakLink 33 = .ok (.getfield 24, 3) := by decide +kernel
theorem d_V_breakLink_36 : decode b_V_breakLink 36 = .ok (.getfield 206, 3) := by decide +kernel
theorem d_V_breakLink_39 : decode b_V_breakLink 39 = .ok (.iload_n 1, 1) := by decide +kernel
theorem d_V_breakLink_40 : decode b_V_breakLink 40 = .ok (.iaload, 1) := by decide +kernel
theorem d_V_breakLink_41 : decode b_V_breakLink 41 = .ok (.iconst 1, 1) := by decide +kernel
theorem d_V_breakLink_42 : decode b_V_breakLink 42 = .ok (.if_icmp .ne 8, 3) := by decide +kernel
theorem d_V_breakLink_45 : decode b_V_breakLink 45 = .ok (.aload_n 0, 1) := by decide +kernel
theorem d_V_breakLink_46 : decode b_V_breakLink 46 = .ok (.iload_n 1, 1) := by decide +kernel
theorem d_V_breakLink_47 : decode b_V_breakLink 47 = .ok (.invokevirtual 104, 3) := by decide +kernel
theorem d_V_breakLink_50 : decode b_V_breakLink 50 = .ok (.iinc 1 1, 3) := by decide +kernel
theorem d_V_breakLink_53 : decode b_V_breakLink 53 = .ok (.goto (-32), 3) := by decide +kernel
theorem d_V_breakLink_56 : decode b_V_breakLink 56 = .ok (.return_, 1) := by decide +kernel
theorem d_V_wentDifferentWays_0 : decode b_V_wentDifferentWays 0 = .ok (.aload_n 0, 1) := by decide +kernel
theorem d_V_wentDifferentWays_1 : decode b_V_wentDifferentWays 1 = .ok (.getfield 12, 3) := by decide +kernel
theorem d_V_wentDifferentWays_4 : decode b_V_wentDifferentWays 4 = .ok (.getfield 194, 3) := by decide +kernel
theorem d_V_wentDifferentWays_7 : decode b_V_wentDifferentWays 7 = .ok (.ifCond .ne 68, 3) := by decide +kernel
theorem d_V_wentDifferentWays_10 : decode b_V_wentDifferentWays 10 = .ok (.aload_n 0, 1) := by decide +kernel
theorem d_V_wentDifferentWays_11 : decode b_V_wentDifferentWays 11 = .ok (.getfield 18, 3) := by decide +kernel
theorem d_V_wentDifferentWays_14 : decode b_V_wentDifferentWays 14 = .ok (.getfield 194, 3) := by decide +kernel
theorem d_V_wentDifferentWays_17 : decode b_V_wentDifferentWays 17 = .ok (.ifCond .ne 58, 3) := by decide +kernel
theorem d_V_wentDifferentWays_20 : decode b_V_wentDifferentWays 20 = .ok (.aload_n 0, 1) := by decide +kernel
theorem d_V_wentDifferentWays_21 : decode b_V_wentDifferentWays 21 = .ok (.getfield 12, 3) := by decide +kernel
theorem d_V_wentDifferentWays_24 : decode b_V_wentDifferentWays 24 = .ok (.getfield 197, 3) := by decide +kernel
theorem d_V_wentDifferentWays_27 : decode b_V_wentDifferentWays 27 = .ok (.aload_n 0, 1) := by decide +kernel
theorem d_V_wentDifferentWays_28 : decode b_V_wentDifferentWays 28 = .ok (.getfield 18, 3) := by decide +kernel
theorem d_V_wentDifferentWays_31 : decode b_V_wentDifferentWays 31 = .ok (.getfield 197, 3) := by decide +kernel
theorem d_V_wentDifferentWays_34 : decode b_V_wentDifferentWays 34 = .ok (.if_icmp .eq 41, 3) := by decide +kernel
theorem d_V_wentDifferentWays_37 : decode b_V_wentDifferentWays 37 = .ok (.aload_n 0, 1) := by decide +kernel
theorem d_V_wentDifferentWays_38 : decode b_V_wentDifferentWays 38 = .ok (.getfield 12, 3) := by decide +kernel
theorem d_V_wentDifferentWays_41 : decode b_V_wentDifferentWays 41 = .ok (.getfield 200, 3) := by decide +kernel
theorem d_V_wentDifferentWays_44 : decode b_V_wentDifferentWays 44 = .ok (.aload_n 0, 1) := by decide +kernel
theorem d_V_wentDifferentWays_45 : decode b_V_wentDifferentWays 45 = .ok (.getfield 18, 3) := by decide +kernel
theorem d_V_wentDifferentWays_48 : decode b_V_wentDifferentWays 48 = .ok (.getfield 197, 3) := by decide +kernel
theorem d_V_wentDifferentWays_51 : decode b_V_wentDifferentWays 51 = .ok (.if_icmp .eq 24, 3) := by decide +kernel
theorem d_V_wentDifferentWays_54 : decode b_V_wentDifferentWays 54 = .ok (.aload_n 0, 1) := by decide +kernel
theorem d_V_wentDifferentWays_55 : decode b_V_wentDifferentWays 55 = .ok (.getfield 18, 3) := by decide +kernel
theorem d_V_wentDifferentWays_58 : decode b_V_wentDifferentWays 58 = .ok (.getfield 200, 3) := by decide +kernel
theorem d_V_wentDifferentWays_61 : decode b_V_wentDifferentWays 61 = .ok (.aload_n 0, 1) := by decide +kernel
theorem d_V_wentDifferentWays_62 : decode b_V_wentDifferentWays 62 = .ok (.getfield 12, 3) := by decide +kernel
theorem d_V_wentDifferentWays_65 : decode b_V_wentDifferentWays 65 = .ok (.getfield 197, 3) := by decide +kernel
theorem d_V_wentDifferentWays_68 : decode b_V_wentDifferentWays 68 = .ok (.if_icmp .eq 7, 3) := by decide +kernel
theorem d_V_wentDifferentWays_71 : decode b_V_wentDifferentWays 71 = .ok (.iconst 1, 1) := by decide +kernel
theorem d_V_wentDifferentWays_72 : decode b_V_wentDifferentWays 72 = .ok (.goto 4, 3) := by decide +kernel
theorem d_V_wentDifferentWays_75 : decode b_V_wentDifferentWays 75 = .ok (.iconst 0, 1) := by decide +kernel
theorem d_V_wentDifferentWays_76 : decode b_V_wentDifferentWays 76 = .ok (.ireturn, 1) := by decide +kernel
theorem d_V_chooseSource_0 : decode b_V_chooseSource 0 = .ok (.aload_n 0, 1) := by decide +kernel
theorem d_V_chooseSource_1 : decode b_V_chooseSource 1 = .ok (.getfield 12, 3) := by decide +kernel
theorem d_V_chooseSource_4 : decode b_V_chooseSource 4 = .ok (.getfield 194, 3) := by decide +kernel
theorem d_V_chooseSource_7 : decode b_V_chooseSource 7 = .ok (.ifCond .ne 13, 3) := by decide +kernel
theorem d_V_chooseSource_10 : decode b_V_chooseSource 10 = .ok (.aload_n 0, 1) := by decide +kernel
theorem d_V_chooseSource_11 : decode b_V_chooseSource 11 = .ok (.getfield 18, 3) := by decide +kernel
theorem d_V_chooseSource_14 : decode b_V_chooseSource 14 = .ok (.getfield 194, 3) := by decide +kernel
theorem d_V_chooseSource_17 : decode b_V_chooseSource 17 = .ok (.ifCond .eq 19, 3) := by decide +kernel
theorem d_V_chooseSource_20 : decode b_V_chooseSource 20 = .ok (.aload_n 0, 1) := by decide +kernel
theorem d_V_chooseSource_21 : decode b_V_chooseSource 21 = .ok (.getfield 18, 3) := by decide +kernel
theorem d_V_chooseSource_24 : decode b_V_chooseSource 24 = .ok (.getfield 194, 3) := by decide +kernel
theorem d_V_chooseSource_27 : decode b_V_chooseSource 27 = .ok (.ifCond .eq 7, 3) := by decide +kernel
theorem d_V_chooseSource_30 : decode b_V_chooseSource 30 = .ok (.iconst 0, 1) := by decide +kernel
theorem d_V_chooseSource_31 : decode b_V_chooseSource 31 = .ok (.goto 4, 3) := by decide +kernel
theorem d_V_chooseSource_34 : decode b_V_chooseSource 34 = .ok (.iconst 1, 1) := by decide +kernel
theorem d_V_chooseSource_35 : decode b_V_chooseSource 35 = .ok (.ireturn, 1) := by decide +kernel
theorem d_V_chooseSource_36 : decode b_V_chooseSource 36 = .ok (.aload_n 0, 1) := by decide +kernel
theorem d_V_chooseSource_37 : decode b_V_chooseSource 37 = .ok (.getfield 12, 3) := by decide +kernel
theorem d_V_chooseSource_40 : decode b_V_chooseSource 40 = .ok (.getfield 197, 3) := by decide +kernel
theorem d_V_chooseSource_43 : decode b_V_chooseSource 43 = .ok (.aload_n 0, 1) := by decide +kernel
theorem d_V_chooseSource_44 : decode b_V_chooseSource 44 = .ok (.getfield 18, 3) := by decide +kernel
theorem d_V_chooseSource_47 : decode b_V_chooseSource 47 = .ok (.getfield 197, 3) := by decide +kernel
theorem d_V_chooseSource_50 : decode b_V_chooseSource 50 = .ok (.if_icmp .eq 26, 3) := by decide +kernel
theorem d_V_chooseSource_53 : decode b_V_chooseSource 53 = .ok (.aload_n 0, 1) := by decide +kernel
theorem d_V_chooseSource_54 : decode b_V_chooseSource 54 = .ok (.getfield 12, 3) := by decide +kernel
theorem d_V_chooseSource_57 : decode b_V_chooseSource 57 = .ok (.getfield 200, 3) := by decide +kernel
theorem d_V_chooseSource_60 : decode b_V_chooseSource 60 = .ok (.aload_n 0, 1) := by decide +kernel
theorem d_V_chooseSource_61 : decode b_V_chooseSource 61 = .ok (.getfield 18, 3) := by decide +kernel
theorem d_V_chooseSource_64 : decode b_V_chooseSource 64 = .ok (.getfield 197, 3) := by decide +kernel
theorem d_V_chooseSource_67 : decode b_V_chooseSource 67 = .ok (.if_icmp .ne 7, 3) := by decide +kernel
theorem d_V_chooseSource_70 : decode b_V_chooseSource 70 = .ok (.iconst 0, 1) := by decide +kernel
theorem d_V_chooseSource_71 : decode b_V_chooseSource 71 = .ok (.goto 4, 3) := by decide +kernel
theorem d_V_chooseSource_74 : decode b_V_chooseSource 74 = .ok (.iconst 1, 1) := by decide +kernel
theorem d_V_chooseSource_75 : decode b_V_chooseSource 75 = .ok (.ireturn, 1) := by decide +kernel
theorem d_V_chooseSource_76 : decode b_V_chooseSource 76 = .ok (.aload_n 0, 1) := by decide +kernel
theorem d_V_chooseSource_77 : decode b_V_chooseSource 77 = .ok (.getfield 12, 3) := by decide +kernel
theorem d_V_chooseSource_80 : decode b_V_chooseSource 80 = .ok (.getfield 188, 3) := by decide +kernel
theorem d_V_chooseSource_83 : decode b_V_chooseSource 83 = .ok (.ifCond .ne 15, 3) := by decide +kernel
theorem d_V_chooseSource_86 : decode b_V_chooseSource 86 = .ok (.aload_n 0, 1) := by decide +kernel
theorem d_V_chooseSource_87 : decode b_V_chooseSource 87 = .ok (.getfield 18, 3) := by decide +kernel
theorem d_V_chooseSource_90 : decode b_V_chooseSource 90 = .ok (.getfield 188, 3) := by decide +kernel
theorem d_V_chooseSource_93 : decode b_V_chooseSource 93 = .ok (.ifCond .ne 5, 3) := by decide +kernel
theorem d_V_chooseSource_96 : decode b_V_chooseSource 96 = .ok (.iconst (-1), 1) := by decide +kernel
theorem d_V_chooseSource_97 : decode b_V_chooseSource 97 = .ok (.ireturn, 1) := by decide +kernel
theorem d_V_chooseSource_98 : decode b_V_chooseSource 98 = .ok (.aload_n 0, 1) := by decide +kernel
theorem d_V_chooseSource_99 : decode b_V_chooseSource 99 = .ok (.getfield 12, 3) := by decide +kernel
theorem d_V_chooseSource_102 : decode b_V_chooseSource 102 = .ok (.getfield 50, 3) := by decide +kernel
theorem d_V_chooseSource_105 : decode b_V_chooseSource 105 = .ok (.aload_n 0, 1) := by decide +kernel
theorem d_V_chooseSource_106 : decode b_V_chooseSource 106 = .ok (.getfield 18, 3) := by decide +kernel
theorem d_V_chooseSource_109 : decode b_V_chooseSource 109 = .ok (.getfield 50, 3) := by decide +kernel
theorem d_V_chooseSource_112 : decode b_V_chooseSource 112 = .ok (.if_icmp .eq 19, 3) := by decide +kernel
theorem d_V_chooseSource_115 : decode b_V_chooseSource 115 = .ok (.aload_n 0, 1) := by decide +kernel
theorem d_V_chooseSource_116 : decode b_V_chooseSource 116 = .ok (.getfield 12, 3) := by decide +kernel
theorem d_V_chooseSource_119 : decode b_V_chooseSource 119 = .ok (.getfield 50, 3) := by decide +kernel
theorem d_V_chooseSource_122 : decode b_V_chooseSource 122 = .ok (.ifCond .eq 7, 3) := by decide +kernel
theorem d_V_chooseSource_125 : decode b_V_chooseSource 125 = .ok (.iconst 0, 1) := by decide +kernel
theorem d_V_chooseSource_126 : decode b_V_chooseSource 126 = .ok (.goto 4, 3) := by decide +kernel
theorem d_V_chooseSource_129 : decode b_V_chooseSource 129 = .ok (.iconst 1, 1) := by decide +kernel
theorem d_V_chooseSource_130 : decode b_V_chooseSource 130 = .ok (.ireturn, 1) := by decide +kernel
theorem d_V_chooseSource_131 : decode b_V_chooseSource 131 = .ok (.aload_n 0, 1) := by decide +kernel
theorem d_V_chooseSource_132 : decode b_V_chooseSource 132 = .ok (.getfield 12, 3) := by decide +kernel
theorem d_V_chooseSource_135 : decode b_V_chooseSource 135 = .ok (.getfield 188, 3) := by decide +kernel
theorem d_V_chooseSource_138 : decode b_V_chooseSource 138 = .ok (.ifCond .eq 7, 3) := by decide +kernel
theorem d_V_chooseSource_141 : decode b_V_chooseSource 141 = .ok (.iconst 0, 1) := by decide +kernel
theorem d_V_chooseSource_142 : decode b_V_chooseSource 142 = .ok (.goto 4, 3) := by decide +kernel
theorem d_V_chooseSource_145 : decode b_V_chooseSource 145 = .ok (.iconst 1, 1) := by decide +kernel
theorem d_V_chooseSource_146 : decode b_V_chooseSource 146 = .ok (.ireturn, 1) := by decide +kernel
theorem d_V_beginUpdate_0 : decode b_V_beginUpdate 0 = .ok (.aload_n 2, 1) := by decide +kernel
theorem d_V_beginUpdate_1 : decode b_V_beginUpdate 1 = .ok (.getfield 197, 3) := by decide +kernel
theorem d_V_beginUpdate_4 : decode b_V_beginUpdate 4 = .ok (.ifCond .eq 29, 3) := by decide +kernel
theorem d_V_beginUpdate_7 : decode b_V_beginUpdate 7 = .ok (.aload_n 2, 1) := by decide +kernel
theorem d_V_beginUpdate_8 : decode b_V_beginUpdate 8 = .ok (.getfield 197, 3) := by decide +kernel
theorem d_V_beginUpdate_11 : decode b_V_beginUpdate 11 = .ok (.aload_n 1, 1) := by decide +kernel
theorem d_V_beginUpdate_12 : decode b_V_beginUpdate 12 = .ok (.getfield 197, 3) := by decide +kernel
theorem d_V_beginUpdate_15 : decode b_V_beginUpdate 15 = .ok (.if_icmp .eq 14, 3) := by decide +kernel
theorem d_V_beginUpdate_18 : decode b_V_beginUpdate 18 = .ok (.aload_n 2, 1) := by decide +kernel
theorem d_V_beginUpdate_19 : decode b_V_beginUpdate 19 = .ok (.getfield 197, 3) := by decide +kernel
theorem d_V_beginUpdate_22 : decode b_V_beginUpdate 22 = .ok (.aload_n 1, 1) := by decide +kernel
theorem d_V_beginUpdate_23 : decode b_V_beginUpdate 23 = .ok (.getfield 200, 3) := by decide +kernel
theorem d_V_beginUpdate_26 : decode b_V_beginUpdate 26 = .ok (.if_icmp .ne 7, 3) := by decide +kernel
theorem d_V_beginUpdate_29 : decode b_V_beginUpdate 29 = .ok (.iconst 1, 1) := by decide +kernel
theorem d_V_beginUpdate_30 : decode b_V_beginUpdate 30 = .ok (.goto 4, 3) := by decide +kernel
theorem d_V_beginUpdate_33 : decode b_V_beginUpdate 33 = .ok (.iconst 0, 1) := by decide +kernel
theorem d_V_beginUpdate_34 : decode b_V_beginUpdate 34 = .ok (.istore_n 3, 1) := by decide +kernel
theorem d_V_beginUpdate_35 : decode b_V_beginUpdate 35 = .ok (.aload_n 1, 1) := by decide +kernel
theorem d_V_beginUpdate_36 : decode b_V_beginUpdate 36 = .ok (.iload_n 3, 1) := by decide +kernel
theorem d_V_beginUpdate_37 : decode b_V_beginUpdate 37 = .ok (.ifCond .eq 15, 3) := by decide +kernel
theorem d_V_beginUpdate_40 : decode b_V_beginUpdate 40 = .ok (.aload_n 1, 1) := by decide +kernel
theorem d_V_beginUpdate_41 : decode b_V_beginUpdate 41 = .ok (.getfield 166, 3) := by decide +kernel
theorem d_V_beginUpdate_44 : decode b_V_beginUpdate 44 = .ok (.aload_n 2, 1) := by decide +kernel
theorem d_V_beginUpdate_45 : decode b_V_beginUpdate 45 = .ok (.getfield 166, 3) := by decide +kernel
theorem d_V_beginUpdate_48 : decode b_V_beginUpdate 48 = .ok (.ior, 1) := by decide +kernel
theorem d_V_beginUpdate_49 : decode b_V_beginUpdate 49 = .ok (.goto 4, 3) := by decide +kernel
theorem d_V_beginUpdate_52 : decode b_V_beginUpdate 52 = .ok (.iconst (-1), 1) := by decide +kernel
theorem d_V_beginUpdate_53 : decode b_V_beginUpdate 53 = .ok (.putfield 166, 3) := by decide +kernel
theorem d_V_beginUpdate_56 : decode b_V_beginUpdate 56 = .ok (.aload_n 1, 1) := by decide +kernel
theorem d_V_beginUpdate_57 : decode b_V_beginUpdate 57 = .ok (.iconst 1, 1) := by decide +kernel
theorem d_V_beginUpdate_58 : decode b_V_beginUpdate 58 = .ok (.putfield 155, 3) := by decide +kernel
theorem d_V_beginUpdate_61 : decode b_V_beginUpdate 61 = .ok (.aload_n 2, 1) := by decide +kernel
theorem d_V_beginUpdate_62 : decode b_V_beginUpdate 62 = .ok (.iconst 1, 1) := by decide +kernel
theorem d_V_beginUpdate_63 : decode b_V_beginUpdate 63 = .ok (.putfield 209, 3) := by decide +kernel
theorem d_V_beginUpdate_66 : decode b_V_beginUpdate 66 = .ok (.aload_n 2, 1) := by decide +kernel
theorem d_V_beginUpdate_67 : decode b_V_beginUpdate 67 = .ok (.iconst 1, 1) := by decide +kernel
theorem d_V_beginUpdate_68 : decode b_V_beginUpdate 68 = .ok (.putfield 194, 3) := by decide +kernel
theorem d_V_beginUpdate_71 : decode b_V_beginUpdate 71 = .ok (.aload_n 1, 1) := by decide +kernel
theorem d_V_beginUpdate_72 : decode b_V_beginUpdate 72 = .ok (.getfield 166, 3) := by decide +kernel
theorem d_V_beginUpdate_75 : decode b_V_beginUpdate 75 = .ok (.ifCond .ne 8, 3) := by decide +kernel
theorem d_V_beginUpdate_78 : decode b_V_beginUpdate 78 = .ok (.aload_n 0, 1) := by decide +kernel
theorem d_V_beginUpdate_79 : decode b_V_beginUpdate 79 = .ok (.aload_n 1, 1) := by decide +kernel
theorem d_V_beginUpdate_80 : decode b_V_beginUpdate 80 = .ok (.invokevirtual 228, 3) := by decide +kernel
theorem d_V_beginUpdate_83 : decode b_V_beginUpdate 83 = .ok (.return_, 1) := by decide +kernel
theorem d_M_init_0 : decode b_M_init 0 = .ok (.aload_n 0, 1) := by decide +kernel
theorem d_M_init_1 : decode b_M_init 1 = .ok (.invokespecial 1, 3) := by decide +kernel
theorem d_M_init_4 : decode b_M_init 4 = .ok (.aload_n 0, 1) := by decide +kernel
theorem d_M_init_5 : decode b_M_init 5 = .ok (.sipush 301, 3) := by decide +kernel
theorem d_M_init_8 : decode b_M_init 8 = .ok (.newarray .int, 2) := by decide +kernel
theorem d_M_init_10 : decode b_M_init 10 = .ok (.putfield 7, 3) := by decide +kernel
theorem d_M_init_13 : decode b_M_init 13 = .ok (.aload_n 0, 1) := by decide +kernel
theorem d_M_init_14 : decode b_M_init 14 = .ok (.sipush 301, 3) := by decide +kernel
theorem d_M_init_17 : decode b_M_init 17 = .ok (.newarray .int, 2) := by decide +kernel
theorem d_M_init_19 : decode b_M_init 19 = .ok (.putfield 13, 3) := by decide +kernel
theorem d_M_init_22 : decode b_M_init 22 = .ok (.aload_n 0, 1) := by decide +kernel
theorem d_M_init_23 : decode b_M_init 23 = .ok (.sipush 301, 3) := by decide +kernel
theorem d_M_init_26 : decode b_M_init 26 = .ok (.newarray .int, 2) := by decide +kernel
theorem d_M_init_28 : decode b_M_init 28 = .ok (.putfield 16, 3) := by decide +kernel
theorem d_M_init_31 : decode b_M_init 31 = .ok (.aload_n 0, 1) := by decide +kernel
theorem d_M_init_32 : decode b_M_init 32 = .ok (.sipush 301, 3) := by decide +kernel
theorem d_M_init_35 : decode b_M_init 35 = .ok (.newarray .int, 2) := by decide +kernel
theorem d_M_init_37 : decode b_M_init 37 = .ok (.putfield 19, 3) := by decide +kernel
theorem d_M_init_40 : decode b_M_init 40 = .ok (.aload_n 0, 1) := by decide +kernel
theorem d_M_init_41 : decode b_M_init 41 = .ok (.sipush 301, 3) := by decide +kernel
theorem d_M_init_44 : decode b_M_init 44 = .ok (.newarray .int, 2) := by decide +kernel
theorem d_M_init_46 : decode b_M_init 46 = .ok (.putfield 22, 3) := by decide +kernel
theorem d_M_init_49 : decode b_M_init 49 = .ok (.aload_n 0, 1) := by decide +kernel
theorem d_M_init_50 : decode b_M_init 50 = .ok (.sipush 301, 3) := by decide +kernel
theorem d_M_init_53 : decode b_M_init 53 = .ok (.newarray .boolean, 2) := by decide +kernel
theorem d_M_init_55 : decode b_M_init 55 = .ok (.putfield 25, 3) := by decide +kernel
theorem d_M_init_58 : decode b_M_init 58 = .ok (.aload_n 0, 1) := by decide +kernel
theorem d_M_init_59 : decode b_M_init 59 = .ok (.bipush 64, 2) := by decide +kernel
theorem d_M_init_61 : decode b_M_init 61 = .ok (.newarray .int, 2) := by decide +kernel
theorem d_M_init_63 : decode b_M_init 63 = .ok (.putfield 29, 3) := by decide +kernel
theorem d_M_init_66 : decode b_M_init 66 = .ok (.aload_n 0, 1) := by decide +kernel
theorem d_M_init_67 : decode b_M_init 67 = .ok (.bipush 64, 2) := by decide +kernel
theorem d_M_init_69 : decode b_M_init 69 = .ok (.newarray .boolean, 2) := by decide +kernel
theorem d_M_init_71 : decode b_M_init 71 = .ok (.putfield 32, 3) := by decide +kernel
theorem d_M_init_74 : decode b_M_init 74 = .ok (.aload_n 0, 1) := by decide +kernel
theorem d_M_init_75 : decode b_M_init 75 = .ok (.bipush 16, 2) := by decide +kernel
theorem d_M_init_77 : decode b_M_init 77 = .ok (.newarray .boolean, 2) := by decide +kernel
theorem d_M_init_79 : decode b_M_init 79 = .ok (.putfield 35, 3) := by decide +kernel
theorem d_M_init_82 : decode b_M_init 82 = .ok (.aload_n 0, 1) := by decide +kernel
theorem d_M_init_83 : decode b_M_init 83 = .ok (.bipush 16, 2) := by decide +kernel
theorem d_M_init_85 : decode b_M_init 85 = .ok (.newarray .int, 2) := by decide +kernel
theorem d_M_init_87 : decode b_M_init 87 = .ok (.putfield 38, 3) := by decide +kernel
theorem d_M_init_90 : decode b_M_init 90 = .ok (.aload_n 0, 1) := by decide +kernel
theorem d_M_init_91 : decode b_M_init 91 = .ok (.iconst 2, 1) := by decide +kernel
theorem d_M_init_92 : decode b_M_init 92 = .ok (.newarray .int, 2) := by decide +kernel
theorem d_M_init_94 : decode b_M_init 94 = .ok (.putfield 41, 3) := by decide +kernel
theorem d_M_init_97 : decode b_M_init 97 = .ok (.aload_n 0, 1) := by decide +kernel
theorem d_M_init_98 : decode b_M_init 98 = .ok (.iconst 2, 1) := by decide +kernel
theorem d_M_init_99 : decode b_M_init 99 = .ok (.newarray .int, 2) := by decide +kernel
theorem d_M_init_101 : decode b_M_init 101 = .ok (.putfield 44, 3) := by decide +kernel
theorem d_M_init_104 : decode b_M_init 104 = .ok (.aload_n 0, 1) := by decide +kernel
theorem d_M_init_105 : decode b_M_init 105 = .ok (.iconst 1, 1) := by decide +kernel
theorem d_M_init_106 : decode b_M_init 106 = .ok (.putfield 47, 3) := by decide +kernel
theorem d_M_init_109 : decode b_M_init 109 = .ok (.aload_n 0, 1) := by decide +kernel
theorem d_M_init_110 : decode b_M_init 110 = .ok (.iconst 2, 1) := by decide +kernel
theorem d_M_init_111 : decode b_M_init 111 = .ok (.newarray .boolean, 2) := by decide +kernel
theorem d_M_init_113 : decode b_M_init 113 = .ok (.putfield 51, 3) := by decide +kernel
theorem d_M_init_116 : decode b_M_init 116 = .ok (.aload_n 0, 1) := by decide +kernel
theorem d_M_init_117 : decode b_M_init 117 = .ok (.iconst 2, 1) := by decide +kernel
theorem d_M_init_118 : decode b_M_init 118 = .ok (.newarray .boolean, 2) := by decide +kernel
theorem d_M_init_120 : decode b_M_init 120 = .ok (.putfield 54, 3) := by decide +kernel
theorem d_M_init_123 : decode b_M_init 123 = .ok (.aload_n 0, 1) := by decide +kernel
theorem d_M_init_124 : decode b_M_init 124 = .ok (.iconst 2, 1) := by decide +kernel
theorem d_M_init_125 : decode b_M_init 125 = .ok (.newarray .boolean, 2) := by decide +kernel
theorem d_M_init_127 : decode b_M_init 127 = .ok (.putfield 57, 3) := by decide +kernel
theorem d_M_init_130 : decode b_M_init 130 = .ok (.aload_n 0, 1) := by decide +kernel
theorem d_M_init_131 : decode b_M_init 131 = .ok (.iconst 2, 1) := by decide +kernel
theorem d_M_init_132 : decode b_M_init 132 = .ok (.newarray .boolean, 2) := by decide +kernel
theorem d_M_init_134 : decode b_M_init 134 = .ok (.putfield 60, 3) := by decide +kernel
theorem d_M_init_137 : decode b_M_init 137 = .ok (.aload_n 0, 1) := by decide +kernel
theorem d_M_init_138 : decode b_M_init 138 = .ok (.iconst 2, 1) := by decide +kernel
theorem d_M_init_139 : decode b_M_init 139 = .ok (.newarray .boolean, 2) := by decide +kernel
theorem d_M_init_141 : decode b_M_init 141 = .ok (.putfield 63, 3) := by decide +kernel
theorem d_M_init_144 : decode b_M_init 144 = .ok (.aload_n 0, 1) := by decide +kernel
theorem d_M_init_145 : decode b_M_init 145 = .ok (.iconst 2, 1) := by decide +kernel
theorem d_M_init_146 : decode b_M_init 146 = .ok (.newarray .boolean, 2) := by decide +kernel
theorem d_M_init_148 : decode b_M_init 148 = .ok (.putfield 66, 3) := by decide +kernel
theorem d_M_init_151 : decode b_M_init 151 = .ok (.aload_n 0, 1) := by decide +kernel
theorem d_M_init_152 : decode b_M_init 152 = .ok (.iconst 2, 1) := by decide +kernel
theorem d_M_init_153 : decode b_M_init 153 = .ok (.newarray .boolean, 2) := by decide +kernel
theorem d_M_init_155 : decode b_M_init 155 = .ok (.putfield 69, 3) := by decide +kernel
theorem d_M_init_158 : decode b_M_init 158 = .ok (.aload_n 0, 1) := by decide +kernel
theorem d_M_init_159 : decode b_M_init 159 = .ok (.iconst 2, 1) := by decide +kernel
theorem d_M_init_160 : decode b_M_init 160 = .ok (.newarray .int, 2) := by decide +kernel
theorem d_M_init_162 : decode b_M_init 162 = .ok (.putfield 72, 3) := by decide +kernel
theorem d_M_init_165 : decode b_M_init 165 = .ok (.aload_n 0, 1) := by decide +kernel
theorem d_M_init_166 : decode b_M_init 166 = .ok (.sipush 128, 3) := by decide +kernel
theorem d_M_init_169 : decode b_M_init 169 = .ok (.newarray .int, 2) := by decide +kernel
theorem d_M_init_171 : decode b_M_init 171 = .ok (.putfield 75, 3) := by decide +kernel
theorem d_M_init_174 : decode b_M_init 174 = .ok (.aload_n 0, 1) := by decide +kernel
theorem d_M_init_175 : decode b_M_init 175 = .ok (.sipush 128, 3) := by decide +kernel
theorem d_M_init_178 : decode b_M_init 178 = .ok (.newarray .int, 2) := by decide +kernel
theorem d_M_init_180 : decode b_M_init 180 = .ok (.putfield 78, 3) := by decide +kernel
theorem d_M_init_183 : decode b_M_init 183 = .ok (.aload_n 0, 1) := by decide +kernel
theorem d_M_init_184 : decode b_M_init 184 = .ok (.sipush 128, 3) := by decide +kernel
theorem d_M_init_187 : decode b_M_init 187 = .ok (.newarray .int, 2) := by decide +kernel
theorem d_M_init_189 : decode b_M_init 189 = .ok (.putfield 81, 3) := by decide +kernel
theorem d_M_init_192 : decode b_M_init 192 = .ok (.aload_n 0, 1) := by decide +kernel
theorem d_M_init_193 : decode b_M_init 193 = .ok (.iconst 2, 1) := by decide +kernel
theorem d_M_init_194 : decode b_M_init 194 = .ok (.newarray .int, 2) := by decide +kernel
theorem d_M_init_196 : decode b_M_init 196 = .ok (.putfield 84, 3) := by decide +kernel
theorem d_M_init_199 : decode b_M_init 199 = .ok (.iconst 0, 1) := by decide +kernel
theorem d_M_init_200 : decode b_M_init 200 = .ok (.istore_n 1, 1) := by decide +kernel
theorem d_M_init_201 : decode b_M_init 201 = .ok (.iload_n 1, 1) := by decide +kernel
theorem d_M_init_202 : decode b_M_init 202 = .ok (.iconst 2, 1) := by decide +kernel
theorem d_M_init_203 : decode b_M_init 203 = .ok (.if_icmp .ge 23, 3) := by decide +kernel
theorem d_M_init_206 : decode b_M_init 206 = .ok (.aload_n 0, 1) := by decide +kernel
theorem d_M_init_207 : decode b_M_init 207 = .ok (.getfield 41, 3) := by decide +kernel
theorem d_M_init_210 : decode b_M_init 210 = .ok (.iload_n 1, 1) := by decide +kernel
theorem d_M_init_211 : decode b_M_init 211 = .ok (.iconst 1, 1) := by decide +kernel
theorem d_M_init_212 : decode b_M_init 212 = .ok (.iastore, 1) := by decide +kernel
theorem d_M_init_213 : decode b_M_init 213 = .ok (.aload_n 0, 1) := by decide +kernel
theorem d_M_init_214 : decode b_M_init 214 = .ok (.getfield 57, 3) := by decide +kernel
theorem d_M_init_217 : decode b_M_init 217 = .ok (.iload_n 1, 1) := by decide +kernel
theorem d_M_init_218 : decode b_M_init 218 = .ok (.iconst 1, 1) := by decide +kernel
theorem d_M_init_219 : decode b_M_init 219 = .ok (.bastore, 1) := by decide +kernel
theorem d_M_init_220 : decode b_M_init 220 = .ok (.iinc 1 1, 3) := by decide +kernel
theorem d_M_init_223 : decode b_M_init 223 = .ok (.goto (-22), 3) := by decide +kernel
theorem d_M_init_226 : decode b_M_init 226 = .ok (.return_, 1) := by decide +kernel
theorem d_M_isNode_0 : decode b_M_isNode 0 = .ok (.iload_n 0, 1) := by decide +kernel
theorem d_M_isNode_1 : decode b_M_isNode 1 = .ok (.ifCond .eq 8, 3) := by decide +kernel
theorem d_M_isNode_4 : decode b_M_isNode 4 = .ok (.iload_n 0, 1) := by decide +kernel
theorem d_M_isNode_5 : decode b_M_isNode 5 = .ok (.iconst 1, 1) := by decide +kernel
theorem d_M_isNode_6 : decode b_M_isNode 6 = .ok (.if_icmp .ne 7, 3) := by decide +kernel
theorem d_M_isNode_9 : decode b_M_isNode 9 = .ok (.iconst 1, 1) := by decide +kernel
theorem d_M_isNode_10 : decode b_M_isNode 10 = .ok (.goto 4, 3) := by decide +kernel
theorem d_M_isNode_13 : decode b_M_isNode 13 = .ok (.iconst 0, 1) := by decide +kernel
theorem d_M_isNode_14 : decode b_M_isNode 14 = .ok (.ireturn, 1) := by decide +kernel
theorem d_M_isBlock_0 : decode b_M_isBlock 0 = .ok (.iload_n 0, 1) := by decide +kernel
theorem d_M_isBlock_1 : decode b_M_isBlock 1 = .ok (.ifCond .lt 13, 3) := by decide +kernel
theorem d_M_isBlock_4 : decode b_M_isBlock 4 = .ok (.iload_n 0, 1) := by decide +kernel
theorem d_M_isBlock_5 : decode b_M_isBlock 5 = .ok (.bipush 31, 2) := by decide +kernel
theorem d_M_isBlock_7 : decode b_M_isBlock 7 = .ok (.if_icmp .gt 7, 3) := by decide +kernel
theorem d_M_isBlock_10 : decode b_M_isBlock 10 = .ok (.iconst 1, 1) := by decide +kernel
theorem d_M_isBlock_11 : decode b_M_isBlock 11 = .ok (.goto 4, 3) := by decide +kernel
theorem d_M_isBlock_14 : decode b_M_isBlock 14 = .ok (.iconst 0, 1) := by decide +kernel
theorem d_M_isBlock_15 : decode b_M_isBlock 15 = .ok (.ireturn, 1) := by decide +kernel
theorem d_M_pending_0 : decode b_M_pending 0 = .ok (.iconst 0, 1) := by decide +kernel
theorem d_M_pending_1 : decode b_M_pending 1 = .ok (.istore 4, 2) := by decide +kernel
theorem d_M_pending_3 : decode b_M_pending 3 = .ok (.iconst 1, 1) := by decide +kernel
theorem d_M_pending_4 : decode b_M_pending 4 = .ok (.istore 5, 2) := by decide +kernel
theorem d_M_pending_6 : decode b_M_pending 6 = .ok (.iload 5, 2) := by decide +kernel
theorem d_M_pending_8 : decode b_M_pending 8 = .ok (.aload_n 0, 1) := by decide +kernel
theorem d_M_pending_9 : decode b_M_pending 9 = .ok (.getfield 87, 3) := by decide +kernel
theorem d_M_pending_12 : decode b_M_pending 12 = .ok (.if_icmp .gt 56, 3) := by decide +kernel
theorem d_M_pending_15 : decode b_M_pending 15 = .ok (.aload_n 0, 1) := by decide +kernel
theorem d_M_pending_16 : decode b_M_pending 16 = .ok (.getfield 22, 3) := by decide +kernel
theorem d_M_pending_19 : decode b_M_pending 19 = .ok (.iload 5, 2) := by decide +kernel
theorem d_M_pending_21 : decode b_M_pending 21 = .ok (.iaload, 1) := by decide +kernel
theorem d_M_pending_22 : decode b_M_pending 22 = .ok (.iconst 1, 1) := by decide +kernel
theorem d_M_pending_23 : decode b_M_pending 23 = .ok (.if_icmp .ne 39, 3) := by decide +kernel
theorem d_M_pending_26 : decode b_M_pending 26 = .ok (.aload_n 0, 1) := by decide +kernel
theorem d_M_pending_27 : decode b_M_pending 27 = .ok (.getfield 7, 3) := by decide +kernel
theorem d_M_pending_30 : decode b_M_pending 30 = .ok (.iload 5, 2) := by decide +kernel
theorem d_M_pending_32 : decode b_M_pending 32 = .ok (.iaload, 1) := by decide +kernel
theorem d_M_pending_33 : decode b_M_pending 33 = .ok (.iload_n 1, 1) := by decide +kernel
theorem d_M_pending_34 : decode b_M_pending 34 = .ok (.if_icmp .ne 28, 3) := by decide +kernel
theorem d_M_pending_37 : decode b_M_pending 37 = .ok (.aload_n 0, 1) := by decide +kernel
theorem d_M_pending_38 : decode b_M_pending 38 = .ok (.getfield 13, 3) := by decide +kernel
theorem d_M_pending_41 : decode b_M_pending 41 = .ok (.iload 5, 2) := by decide +kernel
theorem d_M_pending_43 : decode b_M_pending 43 = .ok (.iaload, 1) := by decide +kernel
theorem d_M_pending_44 : decode b_M_pending 44 = .ok (.iload_n 2, 1) := by decide +kernel
theorem d_M_pending_45 : decode b_M_pending 45 = .ok (.if_icmp .lt 17, 3) := by decide +kernel
theorem d_M_pending_48 : decode b_M_pending 48 = .ok (.aload_n 0, 1) := by decide +kernel
theorem d_M_pending_49 : decode b_M_pending 49 = .ok (.getfield 13, 3) := by decide +kernel
theorem d_M_pending_52 : decode b_M_pending 52 = .ok (.iload 5, 2) := by decide +kernel
theorem d_M_pending_54 : decode b_M_pending 54 = .ok (.iaload, 1) := by decide +kernel
theorem d_M_pending_55 : decode b_M_pending 55 = .ok (.iload_n 3, 1) := by decide +kernel
theorem d_M_pending_56 : decode b_M_pending 56 = .ok (.if_icmp .gt 6, 3) := by decide +kernel
theorem d_M_pending_59 : decode b_M_pending 59 = .ok (.iinc 4 1, 3) := by decide +kernel
theorem d_M_pending_62 : decode b_M_pending 62 = .ok (.iinc 5 1, 3) := by decide +kernel
theorem d_M_pending_65 : decode b_M_pending 65 = .ok (.goto (-59), 3) := by decide +kernel
theorem d_M_pending_68 : decode b_M_pending 68 = .ok (.iload 4, 2) := by decide +kernel
theorem d_M_pending_70 : decode b_M_pending 70 = .ok (.ireturn, 1) := by decide +kernel
theorem d_M_inLog_0 : decode b_M_inLog 0 = .ok (.iconst 0, 1) := by decide +kernel
theorem d_M_inLog_1 : decode b_M_inLog 1 = .ok (.istore_n 2, 1) := by decide +kernel
theorem d_M_inLog_2 : decode b_M_inLog 2 = .ok (.iconst 0, 1) := by decide +kernel
theorem d_M_inLog_3 : decode b_M_inLog 3 = .ok (.istore_n 3, 1) := by decide +kernel
theorem d_M_inLog_4 : decode b_M_inLog 4 = .ok (.iload_n 3, 1) := by decide +kernel
theorem d_M_inLog_5 : decode b_M_inLog 5 = .ok (.bipush 8, 2) := by decide +kernel
theorem d_M_inLog_7 : decode b_M_inLog 7 = .ok (.if_icmp .ge 31, 3) := by decide +kernel
theorem d_M_inLog_10 : decode b_M_inLog 10 = .ok (.aload_n 0, 1) := by decide +kernel
theorem d_M_inLog_11 : decode b_M_inLog 11 = .ok (.getfield 35, 3) := by decide +kernel
theorem d_M_inLog_14 : decode b_M_inLog 14 = .ok (.bipush 8, 2) := by decide +kernel
theorem d_M_inLog_16 : decode b_M_inLog 16 = .ok (.iload_n 1, 1) := by decide +kernel
theorem d_M_inLog_17 : decode b_M_inLog 17 = .ok (.imul, 1) := by decide +kernel
theorem d_M_inLog_18 : decode b_M_inLog 18 = .ok (.iload_n 3, 1) := by decide +kernel
theorem d_M_inLog_19 : decode b_M_inLog 19 = .ok (.iadd, 1) := by decide +kernel
theorem d_M_inLog_20 : decode b_M_inLog 20 = .ok (.baload, 1) := by decide +kernel
theorem d_M_inLog_21 : decode b_M_inLog 21 = .ok (.ifCond .eq 9, 3) := by decide +kernel
theorem d_M_inLog_24 : decode b_M_inLog 24 = .ok (.iload_n 2, 1) := by decide +kernel
theorem d_M_inLog_25 : decode b_M_inLog 25 = .ok (.iconst 1, 1) := by decide +kernel
theorem d_M_inLog_26 : decode b_M_inLog 26 = .ok (.iadd, 1) := by decide +kernel
theorem d_M_inLog_27 : decode b_M_inLog 27 = .ok (.goto 4, 3) := by decide +kernel
theorem d_M_inLog_30 : decode b_M_inLog 30 = .ok (.iload_n 2, 1) := by decide +kernel
theorem d_M_inLog_31 : decode b_M_inLog 31 = .ok (.istore_n 2, 1) := by decide +kernel
theorem d_M_inLog_32 : decode b_M_inLog 32 = .ok (.iinc 3 1, 3) := by decide +kernel
theorem d_M_inLog_35 : decode b_M_inLog 35 = .ok (.goto (-31), 3) := by decide +kernel
theorem d_M_inLog_38 : decode b_M_inLog 38 = .ok (.iload_n 2, 1) := by decide +kernel
theorem d_M_inLog_39 : decode b_M_inLog 39 = .ok (.ireturn, 1) := by decide +kernel
theorem d_M_idle_0 : decode b_M_idle 0 = .ok (.iconst (-1), 1) := by decide +kernel
theorem d_M_idle_1 : decode b_M_idle 1 = .ok (.istore_n 2, 1) := by decide +kernel
theorem d_M_idle_2 : decode b_M_idle 2 = .ok (.iconst 0, 1) := by decide +kernel
theorem d_M_idle_3 : decode b_M_idle 3 = .ok (.istore_n 3, 1) := by decide +kernel
theorem d_M_idle_4 : decode b_M_idle 4 = .ok (.iload_n 3, 1) := by decide +kernel
theorem d_M_idle_5 : decode b_M_idle 5 = .ok (.bipush 8, 2) := by decide +kernel
theorem d_M_idle_7 : decode b_M_idle 7 = .ok (.if_icmp .ge 70, 3) := by decide +kernel
theorem d_M_idle_10 : decode b_M_idle 10 = .ok (.aload_n 0, 1) := by decide +kernel
theorem d_M_idle_11 : decode b_M_idle 11 = .ok (.getfield 35, 3) := by decide +kernel
theorem d_M_idle_14 : decode b_M_idle 14 = .ok (.bipush 8, 2) := by decide +kernel
theorem d_M_idle_16 : decode b_M_idle 16 = .ok (.iload_n 1, 1) := by decide +kernel
theorem d_M_idle_17 : decode b_M_idle 17 = .ok (.imul, 1) := by decide +kernel
theorem d_M_idle_18 : decode b_M_idle 18 = .ok (.iload_n 3, 1) := by decide +kernel
theorem d_M_idle_19 : decode b_M_idle 19 = .ok (.iadd, 1) := by decide +kernel
theorem d_M_idle_20 : decode b_M_idle 20 = .ok (.baload, 1) := by decide +kernel
theorem d_M_idle_21 : decode b_M_idle 21 = .ok (.ifCond .eq 50, 3) := by decide +kernel
theorem d_M_idle_24 : decode b_M_idle 24 = .ok (.aload_n 0, 1) := by decide +kernel
theorem d_M_idle_25 : decode b_M_idle 25 = .ok (.iload_n 1, 1) := by decide +kernel
theorem d_M_idle_26 : decode b_M_idle 26 = .ok (.iconst 4, 1) := by decide +kernel
theorem d_M_idle_27 : decode b_M_idle 27 = .ok (.iload_n 3, 1) := by decide +kernel
theorem d_M_idle_28 : decode b_M_idle 28 = .ok (.imul, 1) := by decide +kernel
theorem d_M_idle_29 : decode b_M_idle 29 = .ok (.iconst 4, 1) := by decide +kernel
theorem d_M_idle_30 : decode b_M_idle 30 = .ok (.iload_n 3, 1) := by decide +kernel
theorem d_M_idle_31 : decode b_M_idle 31 = .ok (.imul, 1) := by decide +kernel
theorem d_M_idle_32 : decode b_M_idle 32 = .ok (.iconst 3, 1) := by decide +kernel
theorem d_M_idle_33 : decode b_M_idle 33 = .ok (.iadd, 1) := by decide +kernel
theorem d_M_idle_34 : decode b_M_idle 34 = .ok (.invokevirtual 90, 3) := by decide +kernel
theorem d_M_idle_37 : decode b_M_idle 37 = .ok (.ifCond .ne 34, 3) := by decide +kernel
theorem d_M_idle_40 : decode b_M_idle 40 = .ok (.iload_n 2, 1) := by decide +kernel
theorem d_M_idle_41 : decode b_M_idle 41 = .ok (.ifCond .lt 28, 3) := by decide +kernel
theorem d_M_idle_44 : decode b_M_idle 44 = .ok (.aload_n 0, 1) := by decide +kernel
theorem d_M_idle_45 : decode b_M_idle 45 = .ok (.getfield 38, 3) := by decide +kernel
theorem d_M_idle_48 : decode b_M_idle 48 = .ok (.bipush 8, 2) := by decide +kernel
theorem d_M_idle_50 : decode b_M_idle 50 = .ok (.iload_n 1, 1) := by decide +kernel
theorem d_M_idle_51 : decode b_M_idle 51 = .ok (.imul, 1) := by decide +kernel
theorem d_M_idle_52 : decode b_M_idle 52 = .ok (.iload_n 3, 1) := by decide +kernel
theorem d_M_idle_53 : decode b_M_idle 53 = .ok (.iadd, 1) := by decide +kernel
theorem d_M_idle_54 : decode b_M_idle 54 = .ok (.iaload, 1) := by decide +kernel
theorem d_M_idle_55 : decode b_M_idle 55 = .ok (.aload_n 0, 1) := by decide +kernel
theorem d_M_idle_56 : decode b_M_idle 56 = .ok (.getfield 38, 3) := by decide +kernel
