theorem d_M_idle_59 : decode b_M_idle 59 = .ok (.bipush 8, 2) := by decide +kernel
theorem d_M_idle_61 : decode b_M_idle 61 = .ok (.iload_n 1, 1) := by decide +kernel
theorem d_M_idle_62 : decode b_M_idle 62 = .ok (.imul, 1) := by decide +kernel
theorem d_M_idle_63 : decode b_M_idle 63 = .ok (.iload_n 2, 1) := by decide +kernel
theorem d_M_idle_64 : decode b_M_idle 64 = .ok (.iadd, 1) := by decide +kernel
theorem d_M_idle_65 : decode b_M_idle 65 = .ok (.iaload, 1) := by decide +kernel
theorem d_M_idle_66 : decode b_M_idle 66 = .ok (.if_icmp .ge 5, 3) := by decide +kernel
theorem d_M_idle_69 : decode b_M_idle 69 = .ok (.iload_n 3, 1) := by decide +kernel
theorem d_M_idle_70 : decode b_M_idle 70 = .ok (.istore_n 2, 1) := by decide +kernel
theorem d_M_idle_71 : decode b_M_idle 71 = .ok (.iinc 3 1, 3) := by decide +kernel
theorem d_M_idle_74 : decode b_M_idle 74 = .ok (.goto (-70), 3) := by decide +kernel
theorem d_M_idle_77 : decode b_M_idle 77 = .ok (.iload_n 2, 1) := by decide +kernel
theorem d_M_idle_78 : decode b_M_idle 78 = .ok (.ireturn, 1) := by decide +kernel
theorem d_M_nothingInMap_0 : decode b_M_nothingInMap 0 = .ok (.iconst 1, 1) := by decide +kernel
theorem d_M_nothingInMap_1 : decode b_M_nothingInMap 1 = .ok (.istore_n 2, 1) := by decide +kernel
theorem d_M_nothingInMap_2 : decode b_M_nothingInMap 2 = .ok (.iconst 0, 1) := by decide +kernel
theorem d_M_nothingInMap_3 : decode b_M_nothingInMap 3 = .ok (.istore_n 3, 1) := by decide +kernel
theorem d_M_nothingInMap_4 : decode b_M_nothingInMap 4 = .ok (.iload_n 3, 1) := by decide +kernel
theorem d_M_nothingInMap_5 : decode b_M_nothingInMap 5 = .ok (.bipush 32, 2) := by decide +kernel
theorem d_M_nothingInMap_7 : decode b_M_nothingInMap 7 = .ok (.if_icmp .ge 33, 3) := by decide +kernel
theorem d_M_nothingInMap_10 : decode b_M_nothingInMap 10 = .ok (.iload_n 2, 1) := by decide +kernel
theorem d_M_nothingInMap_11 : decode b_M_nothingInMap 11 = .ok (.ifCond .eq 21, 3) := by decide +kernel
theorem d_M_nothingInMap_14 : decode b_M_nothingInMap 14 = .ok (.aload_n 0, 1) := by decide +kernel
theorem d_M_nothingInMap_15 : decode b_M_nothingInMap 15 = .ok (.getfield 32, 3) := by decide +kernel
theorem d_M_nothingInMap_18 : decode b_M_nothingInMap 18 = .ok (.bipush 32, 2) := by decide +kernel
theorem d_M_nothingInMap_20 : decode b_M_nothingInMap 20 = .ok (.iload_n 1, 1) := by decide +kernel
theorem d_M_nothingInMap_21 : decode b_M_nothingInMap 21 = .ok (.imul, 1) := by decide +kernel
theorem d_M_nothingInMap_22 : decode b_M_nothingInMap 22 = .ok (.iload_n 3, 1) := by decide +kernel
theorem d_M_nothingInMap_23 : decode b_M_nothingInMap 23 = .ok (.iadd, 1) := by decide +kernel
theorem d_M_nothingInMap_24 : decode b_M_nothingInMap 24 = .ok (.baload, 1) := by decide +kernel
theorem d_M_nothingInMap_25 : decode b_M_nothingInMap 25 = .ok (.ifCond .ne 7, 3) := by decide +kernel
theorem d_M_nothingInMap_28 : decode b_M_nothingInMap 28 = .ok (.iconst 1, 1) := by decide +kernel
theorem d_M_nothingInMap_29 : decode b_M_nothingInMap 29 = .ok (.goto 4, 3) := by decide +kernel
theorem d_M_nothingInMap_32 : decode b_M_nothingInMap 32 = .ok (.iconst 0, 1) := by decide +kernel
theorem d_M_nothingInMap_33 : decode b_M_nothingInMap 33 = .ok (.istore_n 2, 1) := by decide +kernel
theorem d_M_nothingInMap_34 : decode b_M_nothingInMap 34 = .ok (.iinc 3 1, 3) := by decide +kernel
theorem d_M_nothingInMap_37 : decode b_M_nothingInMap 37 = .ok (.goto (-33), 3) := by decide +kernel
theorem d_M_nothingInMap_40 : decode b_M_nothingInMap 40 = .ok (.iload_n 2, 1) := by decide +kernel
theorem d_M_nothingInMap_41 : decode b_M_nothingInMap 41 = .ok (.ireturn, 1) := by decide +kernel
theorem d_M_onTheWay_0 : decode b_M_onTheWay 0 = .ok (.iconst 0, 1) := by decide +kernel
theorem d_M_onTheWay_1 : decode b_M_onTheWay 1 = .ok (.istore 4, 2) := by decide +kernel
theorem d_M_onTheWay_3 : decode b_M_onTheWay 3 = .ok (.bipush 64, 2) := by decide +kernel
theorem d_M_onTheWay_5 : decode b_M_onTheWay 5 = .ok (.iload_n 1, 1) := by decide +kernel
theorem d_M_onTheWay_6 : decode b_M_onTheWay 6 = .ok (.imul, 1) := by decide +kernel
theorem d_M_onTheWay_7 : decode b_M_onTheWay 7 = .ok (.istore 5, 2) := by decide +kernel
theorem d_M_onTheWay_9 : decode b_M_onTheWay 9 = .ok (.iload 5, 2) := by decide +kernel
theorem d_M_onTheWay_11 : decode b_M_onTheWay 11 = .ok (.bipush 64, 2) := by decide +kernel
theorem d_M_onTheWay_13 : decode b_M_onTheWay 13 = .ok (.iload_n 1, 1) := by decide +kernel
theorem d_M_onTheWay_14 : decode b_M_onTheWay 14 = .ok (.imul, 1) := by decide +kernel
theorem d_M_onTheWay_15 : decode b_M_onTheWay 15 = .ok (.aload_n 0, 1) := by decide +kernel
theorem d_M_onTheWay_16 : decode b_M_onTheWay 16 = .ok (.getfield 84, 3) := by decide +kernel
theorem d_M_onTheWay_19 : decode b_M_onTheWay 19 = .ok (.iload_n 1, 1) := by decide +kernel
theorem d_M_onTheWay_20 : decode b_M_onTheWay 20 = .ok (.iaload, 1) := by decide +kernel
theorem d_M_onTheWay_21 : decode b_M_onTheWay 21 = .ok (.iadd, 1) := by decide +kernel
theorem d_M_onTheWay_22 : decode b_M_onTheWay 22 = .ok (.if_icmp .ge 38, 3) := by decide +kernel
theorem d_M_onTheWay_25 : decode b_M_onTheWay 25 = .ok (.aload_n 0, 1) := by decide +kernel
theorem d_M_onTheWay_26 : decode b_M_onTheWay 26 = .ok (.getfield 75, 3) := by decide +kernel
theorem d_M_onTheWay_29 : decode b_M_onTheWay 29 = .ok (.iload 5, 2) := by decide +kernel
theorem d_M_onTheWay_31 : decode b_M_onTheWay 31 = .ok (.iaload, 1) := by decide +kernel
theorem d_M_onTheWay_32 : decode b_M_onTheWay 32 = .ok (.iload_n 2, 1) := by decide +kernel
theorem d_M_onTheWay_33 : decode b_M_onTheWay 33 = .ok (.if_icmp .ne 21, 3) := by decide +kernel
theorem d_M_onTheWay_36 : decode b_M_onTheWay 36 = .ok (.iload_n 3, 1) := by decide +kernel
theorem d_M_onTheWay_37 : decode b_M_onTheWay 37 = .ok (.ifCond .lt 14, 3) := by decide +kernel
theorem d_M_onTheWay_40 : decode b_M_onTheWay 40 = .ok (.aload_n 0, 1) := by decide +kernel
theorem d_M_onTheWay_41 : decode b_M_onTheWay 41 = .ok (.getfield 78, 3) := by decide +kernel
theorem d_M_onTheWay_44 : decode b_M_onTheWay 44 = .ok (.iload 5, 2) := by decide +kernel
theorem d_M_onTheWay_46 : decode b_M_onTheWay 46 = .ok (.iaload, 1) := by decide +kernel
theorem d_M_onTheWay_47 : decode b_M_onTheWay 47 = .ok (.iload_n 3, 1) := by decide +kernel
theorem d_M_onTheWay_48 : decode b_M_onTheWay 48 = .ok (.if_icmp .ne 6, 3) := by decide +kernel
theorem d_M_onTheWay_51 : decode b_M_onTheWay 51 = .ok (.iinc 4 1, 3) := by decide +kernel
theorem d_M_onTheWay_54 : decode b_M_onTheWay 54 = .ok (.iinc 5 1, 3) := by decide +kernel
theorem d_M_onTheWay_57 : decode b_M_onTheWay 57 = .ok (.goto (-48), 3) := by decide +kernel
theorem d_M_onTheWay_60 : decode b_M_onTheWay 60 = .ok (.iload 4, 2) := by decide +kernel
theorem d_M_onTheWay_62 : decode b_M_onTheWay 62 = .ok (.ireturn, 1) := by decide +kernel
theorem d_M_underWay_0 : decode b_M_underWay 0 = .ok (.aload_n 0, 1) := by decide +kernel
theorem d_M_underWay_1 : decode b_M_underWay 1 = .ok (.iload_n 1, 1) := by decide +kernel
theorem d_M_underWay_2 : decode b_M_underWay 2 = .ok (.iconst 3, 1) := by decide +kernel
theorem d_M_underWay_3 : decode b_M_underWay 3 = .ok (.iload_n 2, 1) := by decide +kernel
theorem d_M_underWay_4 : decode b_M_underWay 4 = .ok (.invokevirtual 94, 3) := by decide +kernel
theorem d_M_underWay_7 : decode b_M_underWay 7 = .ok (.aload_n 0, 1) := by decide +kernel
theorem d_M_underWay_8 : decode b_M_underWay 8 = .ok (.iconst 1, 1) := by decide +kernel
theorem d_M_underWay_9 : decode b_M_underWay 9 = .ok (.iload_n 1, 1) := by decide +kernel
theorem d_M_underWay_10 : decode b_M_underWay 10 = .ok (.isub, 1) := by decide +kernel
theorem d_M_underWay_11 : decode b_M_underWay 11 = .ok (.iconst 4, 1) := by decide +kernel
theorem d_M_underWay_12 : decode b_M_underWay 12 = .ok (.iload_n 2, 1) := by decide +kernel
theorem d_M_underWay_13 : decode b_M_underWay 13 = .ok (.invokevirtual 94, 3) := by decide +kernel
theorem d_M_underWay_16 : decode b_M_underWay 16 = .ok (.iadd, 1) := by decide +kernel
theorem d_M_underWay_17 : decode b_M_underWay 17 = .ok (.ireturn, 1) := by decide +kernel
theorem d_M_send_0 : decode b_M_send 0 = .ok (.bipush 64, 2) := by decide +kernel
theorem d_M_send_2 : decode b_M_send 2 = .ok (.iload_n 1, 1) := by decide +kernel
theorem d_M_send_3 : decode b_M_send 3 = .ok (.imul, 1) := by decide +kernel
theorem d_M_send_4 : decode b_M_send 4 = .ok (.aload_n 0, 1) := by decide +kernel
theorem d_M_send_5 : decode b_M_send 5 = .ok (.getfield 84, 3) := by decide +kernel
theorem d_M_send_8 : decode b_M_send 8 = .ok (.iload_n 1, 1) := by decide +kernel
theorem d_M_send_9 : decode b_M_send 9 = .ok (.iaload, 1) := by decide +kernel
theorem d_M_send_10 : decode b_M_send 10 = .ok (.iadd, 1) := by decide +kernel
theorem d_M_send_11 : decode b_M_send 11 = .ok (.istore 5, 2) := by decide +kernel
theorem d_M_send_13 : decode b_M_send 13 = .ok (.aload_n 0, 1) := by decide +kernel
theorem d_M_send_14 : decode b_M_send 14 = .ok (.getfield 75, 3) := by decide +kernel
theorem d_M_send_17 : decode b_M_send 17 = .ok (.iload 5, 2) := by decide +kernel
theorem d_M_send_19 : decode b_M_send 19 = .ok (.iload_n 2, 1) := by decide +kernel
theorem d_M_send_20 : decode b_M_send 20 = .ok (.iastore, 1) := by decide +kernel
theorem d_M_send_21 : decode b_M_send 21 = .ok (.aload_n 0, 1) := by decide +kernel
theorem d_M_send_22 : decode b_M_send 22 = .ok (.getfield 78, 3) := by decide +kernel
theorem d_M_send_25 : decode b_M_send 25 = .ok (.iload 5, 2) := by decide +kernel
theorem d_M_send_27 : decode b_M_send 27 = .ok (.iload_n 3, 1) := by decide +kernel
theorem d_M_send_28 : decode b_M_send 28 = .ok (.iastore, 1) := by decide +kernel
theorem d_M_send_29 : decode b_M_send 29 = .ok (.aload_n 0, 1) := by decide +kernel
theorem d_M_send_30 : decode b_M_send 30 = .ok (.getfield 81, 3) := by decide +kernel
theorem d_M_send_33 : decode b_M_send 33 = .ok (.iload 5, 2) := by decide +kernel
theorem d_M_send_35 : decode b_M_send 35 = .ok (.iload 4, 2) := by decide +kernel
theorem d_M_send_37 : decode b_M_send 37 = .ok (.iastore, 1) := by decide +kernel
theorem d_M_send_38 : decode b_M_send 38 = .ok (.aload_n 0, 1) := by decide +kernel
theorem d_M_send_39 : decode b_M_send 39 = .ok (.getfield 84, 3) := by decide +kernel
theorem d_M_send_42 : decode b_M_send 42 = .ok (.iload_n 1, 1) := by decide +kernel
theorem d_M_send_43 : decode b_M_send 43 = .ok (.dup2, 1) := by decide +kernel
theorem d_M_send_44 : decode b_M_send 44 = .ok (.iaload, 1) := by decide +kernel
theorem d_M_send_45 : decode b_M_send 45 = .ok (.iconst 1, 1) := by decide +kernel
theorem d_M_send_46 : decode b_M_send 46 = .ok (.iadd, 1) := by decide +kernel
theorem d_M_send_47 : decode b_M_send 47 = .ok (.iastore, 1) := by decide +kernel
theorem d_M_send_48 : decode b_M_send 48 = .ok (.return_, 1) := by decide +kernel
theorem d_M_alone_0 : decode b_M_alone 0 = .ok (.aload_n 0, 1) := by decide +kernel
theorem d_M_alone_1 : decode b_M_alone 1 = .ok (.getfield 7, 3) := by decide +kernel
theorem d_M_alone_4 : decode b_M_alone 4 = .ok (.iload_n 1, 1) := by decide +kernel
theorem d_M_alone_5 : decode b_M_alone 5 = .ok (.iaload, 1) := by decide +kernel
theorem d_M_alone_6 : decode b_M_alone 6 = .ok (.istore_n 2, 1) := by decide +kernel
theorem d_M_alone_7 : decode b_M_alone 7 = .ok (.aload_n 0, 1) := by decide +kernel
theorem d_M_alone_8 : decode b_M_alone 8 = .ok (.getfield 22, 3) := by decide +kernel
theorem d_M_alone_11 : decode b_M_alone 11 = .ok (.iload_n 1, 1) := by decide +kernel
theorem d_M_alone_12 : decode b_M_alone 12 = .ok (.iconst 3, 1) := by decide +kernel
theorem d_M_alone_13 : decode b_M_alone 13 = .ok (.iastore, 1) := by decide +kernel
theorem d_M_alone_14 : decode b_M_alone 14 = .ok (.aload_n 0, 1) := by decide +kernel
theorem d_M_alone_15 : decode b_M_alone 15 = .ok (.getfield 32, 3) := by decide +kernel
theorem d_M_alone_18 : decode b_M_alone 18 = .ok (.bipush 32, 2) := by decide +kernel
theorem d_M_alone_20 : decode b_M_alone 20 = .ok (.iload_n 2, 1) := by decide +kernel
theorem d_M_alone_21 : decode b_M_alone 21 = .ok (.imul, 1) := by decide +kernel
theorem d_M_alone_22 : decode b_M_alone 22 = .ok (.aload_n 0, 1) := by decide +kernel
theorem d_M_alone_23 : decode b_M_alone 23 = .ok (.getfield 13, 3) := by decide +kernel
theorem d_M_alone_26 : decode b_M_alone 26 = .ok (.iload_n 1, 1) := by decide +kernel
theorem d_M_alone_27 : decode b_M_alone 27 = .ok (.iaload, 1) := by decide +kernel
theorem d_M_alone_28 : decode b_M_alone 28 = .ok (.iadd, 1) := by decide +kernel
theorem d_M_alone_29 : decode b_M_alone 29 = .ok (.iconst 1, 1) := by decide +kernel
theorem d_M_alone_30 : decode b_M_alone 30 = .ok (.bastore, 1) := by decide +kernel
theorem d_M_alone_31 : decode b_M_alone 31 = .ok (.aload_n 0, 1) := by decide +kernel
theorem d_M_alone_32 : decode b_M_alone 32 = .ok (.getfield 44, 3) := by decide +kernel
theorem d_M_alone_35 : decode b_M_alone 35 = .ok (.iload_n 2, 1) := by decide +kernel
theorem d_M_alone_36 : decode b_M_alone 36 = .ok (.iaload, 1) := by decide +kernel
theorem d_M_alone_37 : decode b_M_alone 37 = .ok (.ifCond .ne 35, 3) := by decide +kernel
theorem d_M_alone_40 : decode b_M_alone 40 = .ok (.aload_n 0, 1) := by decide +kernel
theorem d_M_alone_41 : decode b_M_alone 41 = .ok (.getfield 44, 3) := by decide +kernel
theorem d_M_alone_44 : decode b_M_alone 44 = .ok (.iload_n 2, 1) := by decide +kernel
theorem d_M_alone_45 : decode b_M_alone 45 = .ok (.aload_n 0, 1) := by decide +kernel
theorem d_M_alone_46 : decode b_M_alone 46 = .ok (.getfield 41, 3) := by decide +kernel
theorem d_M_alone_49 : decode b_M_alone 49 = .ok (.iload_n 2, 1) := by decide +kernel
theorem d_M_alone_50 : decode b_M_alone 50 = .ok (.iaload, 1) := by decide +kernel
theorem d_M_alone_51 : decode b_M_alone 51 = .ok (.iastore, 1) := by decide +kernel
theorem d_M_alone_52 : decode b_M_alone 52 = .ok (.aload_n 0, 1) := by decide +kernel
theorem d_M_alone_53 : decode b_M_alone 53 = .ok (.dup, 1) := by decide +kernel
theorem d_M_alone_54 : decode b_M_alone 54 = .ok (.getfield 47, 3) := by decide +kernel
theorem d_M_alone_57 : decode b_M_alone 57 = .ok (.iconst 1, 1) := by decide +kernel
theorem d_M_alone_58 : decode b_M_alone 58 = .ok (.iadd, 1) := by decide +kernel
theorem d_M_alone_59 : decode b_M_alone 59 = .ok (.putfield 47, 3) := by decide +kernel
theorem d_M_alone_62 : decode b_M_alone 62 = .ok (.aload_n 0, 1) := by decide +kernel
theorem d_M_alone_63 : decode b_M_alone 63 = .ok (.getfield 41, 3) := by decide +kernel
theorem d_M_alone_66 : decode b_M_alone 66 = .ok (.iload_n 2, 1) := by decide +kernel
theorem d_M_alone_67 : decode b_M_alone 67 = .ok (.aload_n 0, 1) := by decide +kernel
theorem d_M_alone_68 : decode b_M_alone 68 = .ok (.getfield 47, 3) := by decide +kernel
theorem d_M_alone_71 : decode b_M_alone 71 = .ok (.iastore, 1) := by decide +kernel
theorem d_M_alone_72 : decode b_M_alone 72 = .ok (.return_, 1) := by decide +kernel
theorem d_M_turnInto_0 : decode b_M_turnInto 0 = .ok (.iconst 1, 1) := by decide +kernel
theorem d_M_turnInto_1 : decode b_M_turnInto 1 = .ok (.istore 4, 2) := by decide +kernel
theorem d_M_turnInto_3 : decode b_M_turnInto 3 = .ok (.iload 4, 2) := by decide +kernel
theorem d_M_turnInto_5 : decode b_M_turnInto 5 = .ok (.aload_n 0, 1) := by decide +kernel
theorem d_M_turnInto_6 : decode b_M_turnInto 6 = .ok (.getfield 87, 3) := by decide +kernel
theorem d_M_turnInto_9 : decode b_M_turnInto 9 = .ok (.if_icmp .gt 39, 3) := by decide +kernel
theorem d_M_turnInto_12 : decode b_M_turnInto 12 = .ok (.aload_n 0, 1) := by decide +kernel
theorem d_M_turnInto_13 : decode b_M_turnInto 13 = .ok (.getfield 7, 3) := by decide +kernel
theorem d_M_turnInto_16 : decode b_M_turnInto 16 = .ok (.iload 4, 2) := by decide +kernel
theorem d_M_turnInto_18 : decode b_M_turnInto 18 = .ok (.iaload, 1) := by decide +kernel
theorem d_M_turnInto_19 : decode b_M_turnInto 19 = .ok (.iload_n 1, 1) := by decide +kernel
theorem d_M_turnInto_20 : decode b_M_turnInto 20 = .ok (.if_icmp .ne 22, 3) := by decide +kernel
theorem d_M_turnInto_23 : decode b_M_turnInto 23 = .ok (.aload_n 0, 1) := by decide +kernel
theorem d_M_turnInto_24 : decode b_M_turnInto 24 = .ok (.getfield 22, 3) := by decide +kernel
theorem d_M_turnInto_27 : decode b_M_turnInto 27 = .ok (.iload 4, 2) := by decide +kernel
theorem d_M_turnInto_29 : decode b_M_turnInto 29 = .ok (.iaload, 1) := by decide +kernel
theorem d_M_turnInto_30 : decode b_M_turnInto 30 = .ok (.iload_n 2, 1) := by decide +kernel
theorem d_M_turnInto_31 : decode b_M_turnInto 31 = .ok (.if_icmp .ne 11, 3) := by decide +kernel
theorem d_M_turnInto_34 : decode b_M_turnInto 34 = .ok (.aload_n 0, 1) := by decide +kernel
theorem d_M_turnInto_35 : decode b_M_turnInto 35 = .ok (.getfield 22, 3) := by decide +kernel
theorem d_M_turnInto_38 : decode b_M_turnInto 38 = .ok (.iload 4, 2) := by decide +kernel
theorem d_M_turnInto_40 : decode b_M_turnInto 40 = .ok (.iload_n 3, 1) := by decide +kernel
theorem d_M_turnInto_41 : decode b_M_turnInto 41 = .ok (.iastore, 1) := by decide +kernel
theorem d_M_turnInto_42 : decode b_M_turnInto 42 = .ok (.iinc 4 1, 3) := by decide +kernel
theorem d_M_turnInto_45 : decode b_M_turnInto 45 = .ok (.goto (-42), 3) := by decide +kernel
theorem d_M_turnInto_48 : decode b_M_turnInto 48 = .ok (.return_, 1) := by decide +kernel
theorem d_M_endIfEmpty_0 : decode b_M_endIfEmpty 0 = .ok (.aload_n 0, 1) := by decide +kernel
theorem d_M_endIfEmpty_1 : decode b_M_endIfEmpty 1 = .ok (.iload_n 1, 1) := by decide +kernel
theorem d_M_endIfEmpty_2 : decode b_M_endIfEmpty 2 = .ok (.invokevirtual 97, 3) := by decide +kernel
theorem d_M_endIfEmpty_5 : decode b_M_endIfEmpty 5 = .ok (.ifCond .ne 4, 3) := by decide +kernel
theorem d_M_endIfEmpty_8 : decode b_M_endIfEmpty 8 = .ok (.return_, 1) := by decide +kernel
theorem d_M_endIfEmpty_9 : decode b_M_endIfEmpty 9 = .ok (.aload_n 0, 1) := by decide +kernel
theorem d_M_endIfEmpty_10 : decode b_M_endIfEmpty 10 = .ok (.getfield 63, 3) := by decide +kernel
theorem d_M_endIfEmpty_13 : decode b_M_endIfEmpty 13 = .ok (.iload_n 1, 1) := by decide +kernel
theorem d_M_endIfEmpty_14 : decode b_M_endIfEmpty 14 = .ok (.iconst 0, 1) := by decide +kernel
theorem d_M_endIfEmpty_15 : decode b_M_endIfEmpty 15 = .ok (.bastore, 1) := by decide +kernel
theorem d_M_endIfEmpty_16 : decode b_M_endIfEmpty 16 = .ok (.aload_n 0, 1) := by decide +kernel
theorem d_M_endIfEmpty_17 : decode b_M_endIfEmpty 17 = .ok (.getfield 54, 3) := by decide +kernel
theorem d_M_endIfEmpty_20 : decode b_M_endIfEmpty 20 = .ok (.iload_n 1, 1) := by decide +kernel
theorem d_M_endIfEmpty_21 : decode b_M_endIfEmpty 21 = .ok (.iconst 0, 1) := by decide +kernel
theorem d_M_endIfEmpty_22 : decode b_M_endIfEmpty 22 = .ok (.bastore, 1) := by decide +kernel
theorem d_M_endIfEmpty_23 : decode b_M_endIfEmpty 23 = .ok (.aload_n 0, 1) := by decide +kernel
theorem d_M_endIfEmpty_24 : decode b_M_endIfEmpty 24 = .ok (.getfield 44, 3) := by decide +kernel
theorem d_M_endIfEmpty_27 : decode b_M_endIfEmpty 27 = .ok (.iload_n 1, 1) := by decide +kernel
theorem d_M_endIfEmpty_28 : decode b_M_endIfEmpty 28 = .ok (.iconst 0, 1) := by decide +kernel
theorem d_M_endIfEmpty_29 : decode b_M_endIfEmpty 29 = .ok (.iastore, 1) := by decide +kernel
theorem d_M_endIfEmpty_30 : decode b_M_endIfEmpty 30 = .ok (.aload_n 0, 1) := by decide +kernel
theorem d_M_endIfEmpty_31 : decode b_M_endIfEmpty 31 = .ok (.iload_n 1, 1) := by decide +kernel
theorem d_M_endIfEmpty_32 : decode b_M_endIfEmpty 32 = .ok (.iconst 3, 1) := by decide +kernel
theorem d_M_endIfEmpty_33 : decode b_M_endIfEmpty 33 = .ok (.iconst 2, 1) := by decide +kernel
theorem d_M_endIfEmpty_34 : decode b_M_endIfEmpty 34 = .ok (.invokevirtual 101, 3) := by decide +kernel
theorem d_M_endIfEmpty_37 : decode b_M_endIfEmpty 37 = .ok (.aload_n 0, 1) := by decide +kernel
theorem d_M_endIfEmpty_38 : decode b_M_endIfEmpty 38 = .ok (.iload_n 1, 1) := by decide +kernel
theorem d_M_endIfEmpty_39 : decode b_M_endIfEmpty 39 = .ok (.iconst 5, 1) := by decide +kernel
theorem d_M_endIfEmpty_40 : decode b_M_endIfEmpty 40 = .ok (.aload_n 0, 1) := by decide +kernel
theorem d_M_endIfEmpty_41 : decode b_M_endIfEmpty 41 = .ok (.getfield 41, 3) := by decide +kernel
theorem d_M_endIfEmpty_44 : decode b_M_endIfEmpty 44 = .ok (.iload_n 1, 1) := by decide +kernel
theorem d_M_endIfEmpty_45 : decode b_M_endIfEmpty 45 = .ok (.iaload, 1) := by decide +kernel
theorem d_M_endIfEmpty_46 : decode b_M_endIfEmpty 46 = .ok (.iconst 0, 1) := by decide +kernel
theorem d_M_endIfEmpty_47 : decode b_M_endIfEmpty 47 = .ok (.invokevirtual 105, 3) := by decide +kernel
theorem d_M_endIfEmpty_50 : decode b_M_endIfEmpty 50 = .ok (.return_, 1) := by decide +kernel
theorem d_M_breakLink_0 : decode b_M_breakLink 0 = .ok (.aload_n 0, 1) := by decide +kernel
theorem d_M_breakLink_1 : decode b_M_breakLink 1 = .ok (.iconst 0, 1) := by decide +kernel
theorem d_M_breakLink_2 : decode b_M_breakLink 2 = .ok (.putfield 109, 3) := by decide +kernel
theorem d_M_breakLink_5 : decode b_M_breakLink 5 = .ok (.iconst 0, 1) := by decide +kernel
theorem d_M_breakLink_6 : decode b_M_breakLink 6 = .ok (.istore_n 1, 1) := by decide +kernel
theorem d_M_breakLink_7 : decode b_M_breakLink 7 = .ok (.iload_n 1, 1) := by decide +kernel
theorem d_M_breakLink_8 : decode b_M_breakLink 8 = .ok (.iconst 2, 1) := by decide +kernel
theorem d_M_breakLink_9 : decode b_M_breakLink 9 = .ok (.if_icmp .ge 30, 3) := by decide +kernel
theorem d_M_breakLink_12 : decode b_M_breakLink 12 = .ok (.aload_n 0, 1) := by decide +kernel
theorem d_M_breakLink_13 : decode b_M_breakLink 13 = .ok (.getfield 84, 3) := by decide +kernel
theorem d_M_breakLink_16 : decode b_M_breakLink 16 = .ok (.iload_n 1, 1) := by decide +kernel
theorem d_M_breakLink_17 : decode b_M_breakLink 17 = .ok (.iconst 0, 1) := by decide +kernel
theorem d_M_breakLink_18 : decode b_M_breakLink 18 = .ok (.iastore, 1) := by decide +kernel
theorem d_M_breakLink_19 : decode b_M_breakLink 19 = .ok (.aload_n 0, 1) := by decide +kernel
theorem d_M_breakLink_20 : decode b_M_breakLink 20 = .ok (.getfield 63, 3) := by decide +kernel
theorem d_M_breakLink_23 : decode b_M_breakLink 23 = .ok (.iload_n 1, 1) := by decide +kernel
theorem d_M_breakLink_24 : decode b_M_breakLink 24 = .ok (.iconst 0, 1) := by decide +kernel
theorem d_M_breakLink_25 : decode b_M_breakLink 25 = .ok (.bastore, 1) := by decide +kernel
theorem d_M_breakLink_26 : decode b_M_breakLink 26 = .ok (.aload_n 0, 1) := by decide +kernel
theorem d_M_breakLink_27 : decode b_M_breakLink 27 = .ok (.getfield 66, 3) := by decide +kernel
theorem d_M_breakLink_30 : decode b_M_breakLink 30 = .ok (.iload_n 1, 1) := by decide +kernel
theorem d_M_breakLink_31 : decode b_M_breakLink 31 = .ok (.iconst 0, 1) := by decide +kernel
theorem d_M_breakLink_32 : decode b_M_breakLink 32 = .ok (.bastore, 1) := by decide +kernel
theorem d_M_breakLink_33 : decode b_M_breakLink 33 = .ok (.iinc 1 1, 3) := by decide +kernel
theorem d_M_breakLink_36 : decode b_M_breakLink 36 = .ok (.goto (-29), 3) := by decide +kernel
theorem d_M_breakLink_39 : decode b_M_breakLink 39 = .ok (.iconst 1, 1) := by decide +kernel
theorem d_M_breakLink_40 : decode b_M_breakLink 40 = .ok (.istore_n 1, 1) := by decide +kernel
theorem d_M_breakLink_41 : decode b_M_breakLink 41 = .ok (.iload_n 1, 1) := by decide +kernel
theorem d_M_breakLink_42 : decode b_M_breakLink 42 = .ok (.aload_n 0, 1) := by decide +kernel
theorem d_M_breakLink_43 : decode b_M_breakLink 43 = .ok (.getfield 87, 3) := by decide +kernel
theorem d_M_breakLink_46 : decode b_M_breakLink 46 = .ok (.if_icmp .gt 31, 3) := by decide +kernel
theorem d_M_breakLink_49 : decode b_M_breakLink 49 = .ok (.aload_n 0, 1) := by decide +kernel
theorem d_M_breakLink_50 : decode b_M_breakLink 50 = .ok (.getfield 25, 3) := by decide +kernel
theorem d_M_breakLink_53 : decode b_M_breakLink 53 = .ok (.iload_n 1, 1) := by decide +kernel
theorem d_M_breakLink_54 : decode b_M_breakLink 54 = .ok (.iconst 0, 1) := by decide +kernel
theorem d_M_breakLink_55 : decode b_M_breakLink 55 = .ok (.bastore, 1) := by decide +kernel
theorem d_M_breakLink_56 : decode b_M_breakLink 56 = .ok (.aload_n 0, 1) := by decide +kernel
theorem d_M_breakLink_57 : decode b_M_breakLink 57 = .ok (.getfield 22, 3) := by decide +kernel
theorem d_M_breakLink_60 : decode b_M_breakLink 60 = .ok (.iload_n 1, 1) := by decide +kernel
theorem d_M_breakLink_61 : decode b_M_breakLink 61 = .ok (.iaload, 1) := by decide +kernel
theorem d_M_breakLink_62 : decode b_M_breakLink 62 = .ok (.iconst 1, 1) := by decide +kernel
theorem d_M_breakLink_63 : decode b_M_breakLink 63 = .ok (.if_icmp .ne 8, 3) := by decide +kernel
theorem d_M_breakLink_66 : decode b_M_breakLink 66 = .ok (.aload_n 0, 1) := by decide +kernel
theorem d_M_breakLink_67 : decode b_M_breakLink 67 = .ok (.iload_n 1, 1) := by decide +kernel
theorem d_M_breakLink_68 : decode b_M_breakLink 68 = .ok (.invokevirtual 113, 3) := by decide +kernel
theorem d_M_breakLink_71 : decode b_M_breakLink 71 = .ok (.iinc 1 1, 3) := by decide +kernel
theorem d_M_breakLink_74 : decode b_M_breakLink 74 = .ok (.goto (-33), 3) := by decide +kernel
theorem d_M_breakLink_77 : decode b_M_breakLink 77 = .ok (.return_, 1) := by decide +kernel
theorem d_M_write_0 : decode b_M_write 0 = .ok (.iload_n 1, 1) := by decide +kernel
theorem d_M_write_1 : decode b_M_write 1 = .ok (.invokestatic 117, 3) := by decide +kernel
theorem d_M_write_4 : decode b_M_write 4 = .ok (.ifCond .eq 10, 3) := by decide +kernel
theorem d_M_write_7 : decode b_M_write 7 = .ok (.iload_n 2, 1) := by decide +kernel
theorem d_M_write_8 : decode b_M_write 8 = .ok (.invokestatic 120, 3) := by decide +kernel
theorem d_M_write_11 : decode b_M_write 11 = .ok (.ifCond .ne 5, 3) := by decide +kernel
theorem d_M_write_14 : decode b_M_write 14 = .ok (.iconst (-1), 1) := by decide +kernel
theorem d_M_write_15 : decode b_M_write 15 = .ok (.ireturn, 1) := by decide +kernel
theorem d_M_write_16 : decode b_M_write 16 = .ok (.aload_n 0, 1) := by decide +kernel
theorem d_M_write_17 : decode b_M_write 17 = .ok (.getfield 57, 3) := by decide +kernel
theorem d_M_write_20 : decode b_M_write 20 = .ok (.iload_n 1, 1) := by decide +kernel
theorem d_M_write_21 : decode b_M_write 21 = .ok (.baload, 1) := by decide +kernel
theorem d_M_write_22 : decode b_M_write 22 = .ok (.ifCond .ne 6, 3) := by decide +kernel
theorem d_M_write_25 : decode b_M_write 25 = .ok (.bipush (-2), 2) := by decide +kernel
theorem d_M_write_27 : decode b_M_write 27 = .ok (.ireturn, 1) := by decide +kernel
theorem d_M_write_28 : decode b_M_write 28 = .ok (.aload_n 0, 1) := by decide +kernel
theorem d_M_write_29 : decode b_M_write 29 = .ok (.getfield 60, 3) := by decide +kernel
theorem d_M_write_32 : decode b_M_write 32 = .ok (.iload_n 1, 1) := by decide +kernel
theorem d_M_write_33 : decode b_M_write 33 = .ok (.baload, 1) := by decide +kernel
theorem d_M_write_34 : decode b_M_write 34 = .ok (.ifCond .ne 6, 3) := by decide +kernel
theorem d_M_write_37 : decode b_M_write 37 = .ok (.bipush (-3), 2) := by decide +kernel
theorem d_M_write_39 : decode b_M_write 39 = .ok (.ireturn, 1) := by decide +kernel
theorem d_M_write_40 : decode b_M_write 40 = .ok (.aload_n 0, 1) := by decide +kernel
theorem d_M_write_41 : decode b_M_write 41 = .ok (.getfield 87, 3) := by decide +kernel
theorem d_M_write_44 : decode b_M_write 44 = .ok (.sipush 300, 3) := by decide +kernel
theorem d_M_write_47 : decode b_M_write 47 = .ok (.if_icmp .eq 16, 3) := by decide +kernel
theorem d_M_write_50 : decode b_M_write 50 = .ok (.aload_n 0, 1) := by decide +kernel
theorem d_M_write_51 : decode b_M_write 51 = .ok (.iload_n 1, 1) := by decide +kernel
theorem d_M_write_52 : decode b_M_write 52 = .ok (.iconst 0, 1) := by decide +kernel
theorem d_M_write_53 : decode b_M_write 53 = .ok (.bipush 31, 2) := by decide +kernel
theorem d_M_write_55 : decode b_M_write 55 = .ok (.invokevirtual 90, 3) := by decide +kernel
theorem d_M_write_58 : decode b_M_write 58 = .ok (.bipush 8, 2) := by decide +kernel
theorem d_M_write_60 : decode b_M_write 60 = .ok (.if_icmp .lt 6, 3) := by decide +kernel
theorem d_M_write_63 : decode b_M_write 63 = .ok (.bipush (-4), 2) := by decide +kernel
theorem d_M_write_65 : decode b_M_write 65 = .ok (.ireturn, 1) := by decide +kernel
theorem d_M_write_66 : decode b_M_write 66 = .ok (.bipush 8, 2) := by decide +kernel
theorem d_M_write_68 : decode b_M_write 68 = .ok (.iload_n 1, 1) := by decide +kernel
theorem d_M_write_69 : decode b_M_write 69 = .ok (.imul, 1) := by decide +kernel
theorem d_M_write_70 : decode b_M_write 70 = .ok (.iload_n 2, 1) := by decide +kernel
theorem d_M_write_71 : decode b_M_write 71 = .ok (.iconst 4, 1) := by decide +kernel
theorem d_M_write_72 : decode b_M_write 72 = .ok (.idiv, 1) := by decide +kernel
theorem d_M_write_73 : decode b_M_write 73 = .ok (.iadd, 1) := by decide +kernel
theorem d_M_write_74 : decode b_M_write 74 = .ok (.istore 4, 2) := by decide +kernel
theorem d_M_write_76 : decode b_M_write 76 = .ok (.aload_n 0, 1) := by decide +kernel
theorem d_M_write_77 : decode b_M_write 77 = .ok (.getfield 35, 3) := by decide +kernel
theorem d_M_write_80 : decode b_M_write 80 = .ok (.iload 4, 2) := by decide +kernel
theorem d_M_write_82 : decode b_M_write 82 = .ok (.baload, 1) := by decide +kernel
theorem d_M_write_83 : decode b_M_write 83 = .ok (.ifCond .ne 40, 3) := by decide +kernel
theorem d_M_write_86 : decode b_M_write 86 = .ok (.aload_n 0, 1) := by decide +kernel
theorem d_M_write_87 : decode b_M_write 87 = .ok (.iload_n 1, 1) := by decide +kernel
theorem d_M_write_88 : decode b_M_write 88 = .ok (.invokevirtual 123, 3) := by decide +kernel
theorem d_M_write_91 : decode b_M_write 91 = .ok (.iconst 3, 1) := by decide +kernel
theorem d_M_write_92 : decode b_M_write 92 = .ok (.if_icmp .ne 31, 3) := by decide +kernel
theorem d_M_write_95 : decode b_M_write 95 = .ok (.aload_n 0, 1) := by decide +kernel
theorem d_M_write_96 : decode b_M_write 96 = .ok (.iload_n 1, 1) := by decide +kernel
theorem d_M_write_97 : decode b_M_write 97 = .ok (.invokevirtual 127, 3) := by decide +kernel
theorem d_M_write_100 : decode b_M_write 100 = .ok (.istore 5, 2) := by decide +kernel
theorem d_M_write_102 : decode b_M_write 102 = .ok (.iload 5, 2) := by decide +kernel
theorem d_M_write_104 : decode b_M_write 104 = .ok (.ifCond .ge 6, 3) := by decide +kernel
theorem d_M_write_107 : decode b_M_write 107 = .ok (.bipush (-5), 2) := by decide +kernel
theorem d_M_write_109 : decode b_M_write 109 = .ok (.ireturn, 1) := by decide +kernel
theorem d_M_write_110 : decode b_M_write 110 = .ok (.aload_n 0, 1) := by decide +kernel
theorem d_M_write_111 : decode b_M_write 111 = .ok (.getfield 35, 3) := by decide +kernel
theorem d_M_write_114 : decode b_M_write 114 = .ok (.bipush 8, 2) := by decide +kernel
theorem d_M_write_116 : decode b_M_write 116 = .ok (.iload_n 1, 1) := by decide +kernel
theorem d_M_write_117 : decode b_M_write 117 = .ok (.imul, 1) := by decide +kernel
theorem d_M_write_118 : decode b_M_write 118 = .ok (.iload 5, 2) := by decide +kernel
theorem d_M_write_120 : decode b_M_write 120 = .ok (.iadd, 1) := by decide +kernel
theorem d_M_write_121 : decode b_M_write 121 = .ok (.iconst 0, 1) := by decide +kernel
theorem d_M_write_122 : decode b_M_write 122 = .ok (.bastore, 1) := by decide +kernel
theorem d_M_write_123 : decode b_M_write 123 = .ok (.aload_n 0, 1) := by decide +kernel
theorem d_M_write_124 : decode b_M_write 124 = .ok (.getfield 35, 3) := by decide +kernel
theorem d_M_write_127 : decode b_M_write 127 = .ok (.iload 4, 2) := by decide +kernel
theorem d_M_write_129 : decode b_M_write 129 = .ok (.iconst 1, 1) := by decide +kernel
theorem d_M_write_130 : decode b_M_write 130 = .ok (.bastore, 1) := by decide +kernel
theorem d_M_write_131 : decode b_M_write 131 = .ok (.aload_n 0, 1) := by decide +kernel
theorem d_M_write_132 : decode b_M_write 132 = .ok (.dup, 1) := by decide +kernel
theorem d_M_write_133 : decode b_M_write 133 = .ok (.getfield 130, 3) := by decide +kernel
theorem d_M_write_136 : decode b_M_write 136 = .ok (.iconst 1, 1) := by decide +kernel
theorem d_M_write_137 : decode b_M_write 137 = .ok (.iadd, 1) := by decide +kernel
theorem d_M_write_138 : decode b_M_write 138 = .ok (.putfield 130, 3) := by decide +kernel
theorem d_M_write_141 : decode b_M_write 141 = .ok (.aload_n 0, 1) := by decide +kernel
theorem d_M_write_142 : decode b_M_write 142 = .ok (.getfield 38, 3) := by decide +kernel
theorem d_M_write_145 : decode b_M_write 145 = .ok (.iload 4, 2) := by decide +kernel
theorem d_M_write_147 : decode b_M_write 147 = .ok (.aload_n 0, 1) := by decide +kernel
theorem d_M_write_148 : decode b_M_write 148 = .ok (.getfield 130, 3) := by decide +kernel
theorem d_M_write_151 : decode b_M_write 151 = .ok (.iastore, 1) := by decide +kernel
theorem d_M_write_152 : decode b_M_write 152 = .ok (.aload_n 0, 1) := by decide +kernel
theorem d_M_write_153 : decode b_M_write 153 = .ok (.getfield 72, 3) := by decide +kernel
theorem d_M_write_156 : decode b_M_write 156 = .ok (.iload_n 1, 1) := by decide +kernel
theorem d_M_write_157 : decode b_M_write 157 = .ok (.iaload, 1) := by decide +kernel
theorem d_M_write_158 : decode b_M_write 158 = .ok (.ifCond .eq 22, 3) := by decide +kernel
theorem d_M_write_161 : decode b_M_write 161 = .ok (.aload_n 0, 1) := by decide +kernel
theorem d_M_write_162 : decode b_M_write 162 = .ok (.getfield 69, 3) := by decide +kernel
theorem d_M_write_165 : decode b_M_write 165 = .ok (.iload_n 1, 1) := by decide +kernel
theorem d_M_write_166 : decode b_M_write 166 = .ok (.baload, 1) := by decide +kernel
theorem d_M_write_167 : decode b_M_write 167 = .ok (.ifCond .ne 13, 3) := by decide +kernel
theorem d_M_write_170 : decode b_M_write 170 = .ok (.aload_n 0, 1) := by decide +kernel
theorem d_M_write_171 : decode b_M_write 171 = .ok (.iload_n 1, 1) := by decide +kernel
theorem d_M_write_172 : decode b_M_write 172 = .ok (.iload_n 2, 1) := by decide +kernel
theorem d_M_write_173 : decode b_M_write 173 = .ok (.iload_n 2, 1) := by decide +kernel
theorem d_M_write_174 : decode b_M_write 174 = .ok (.invokevirtual 90, 3) := by decide +kernel
theorem d_M_write_177 : decode b_M_write 177 = .ok (.ifCond .le 7, 3) := by decide +kernel
theorem d_M_write_180 : decode b_M_write 180 = .ok (.iconst 1, 1) := by decide +kernel
theorem d_M_write_181 : decode b_M_write 181 = .ok (.goto 4, 3) := by decide +kernel
theorem d_M_write_184 : decode b_M_write 184 = .ok (.iconst 0, 1) := by decide +kernel
theorem d_M_write_185 : decode b_M_write 185 = .ok (.istore 5, 2) := by decide +kernel
theorem d_M_write_187 : decode b_M_write 187 = .ok (.aload_n 0, 1) := by decide +kernel
theorem d_M_write_188 : decode b_M_write 188 = .ok (.dup, 1) := by decide +kernel
theorem d_M_write_189 : decode b_M_write 189 = .ok (.getfield 87, 3) := by decide +kernel
theorem d_M_write_192 : decode b_M_write 192 = .ok (.iconst 1, 1) := by decide +kernel
theorem d_M_write_193 : decode b_M_write 193 = .ok (.iadd, 1) := by decide +kernel
theorem d_M_write_194 : decode b_M_write 194 = .ok (.putfield 87, 3) := by decide +kernel
theorem d_M_write_197 : decode b_M_write 197 = .ok (.aload_n 0, 1) := by decide +kernel
theorem d_M_write_198 : decode b_M_write 198 = .ok (.getfield 87, 3) := by decide +kernel
theorem d_M_write_201 : decode b_M_write 201 = .ok (.istore 6, 2) := by decide +kernel
theorem d_M_write_203 : decode b_M_write 203 = .ok (.aload_n 0, 1) := by decide +kernel
theorem d_M_write_204 : decode b_M_write 204 = .ok (.getfield 7, 3) := by decide +kernel
theorem d_M_write_207 : decode b_M_write 207 = .ok (.iload 6, 2) := by decide +kernel
theorem d_M_write_209 : decode b_M_write 209 = .ok (.iload_n 1, 1) := by decide +kernel
theorem d_M_write_210 : decode b_M_write 210 = .ok (.iastore, 1) := by decide +kernel
theorem d_M_write_211 : decode b_M_write 211 = .ok (.aload_n 0, 1) := by decide +kernel
theorem d_M_write_212 : decode b_M_write 212 = .ok (.getfield 13, 3) := by decide +kernel
theorem d_M_write_215 : decode b_M_write 215 = .ok (.iload 6, 2) := by decide +kernel
theorem d_M_write_217 : decode b_M_write 217 = .ok (.iload_n 2, 1) := by decide +kernel
theorem d_M_write_218 : decode b_M_write 218 = .ok (.iastore, 1) := by decide +kernel
theorem d_M_write_219 : decode b_M_write 219 = .ok (.aload_n 0, 1) := by decide +kernel
theorem d_M_write_220 : decode b_M_write 220 = .ok (.getfield 16, 3) := by decide +kernel
theorem d_M_write_223 : decode b_M_write 223 = .ok (.iload 6, 2) := by decide +kernel
theorem d_M_write_225 : decode b_M_write 225 = .ok (.iload_n 3, 1) := by decide +kernel
theorem d_M_write_226 : decode b_M_write 226 = .ok (.iastore, 1) := by decide +kernel
theorem d_M_write_227 : decode b_M_write 227 = .ok (.aload_n 0, 1) := by decide +kernel
theorem d_M_write_228 : decode b_M_write 228 = .ok (.getfield 19, 3) := by decide +kernel
theorem d_M_write_231 : decode b_M_write 231 = .ok (.iload 6, 2) := by decide +kernel
theorem d_M_write_233 : decode b_M_write 233 = .ok (.aload_n 0, 1) := by decide +kernel
theorem d_M_write_234 : decode b_M_write 234 = .ok (.getfield 19, 3) := by decide +kernel
theorem d_M_write_237 : decode b_M_write 237 = .ok (.aload_n 0, 1) := by decide +kernel
theorem d_M_write_238 : decode b_M_write 238 = .ok (.getfield 72, 3) := by decide +kernel
theorem d_M_write_241 : decode b_M_write 241 = .ok (.iload_n 1, 1) := by decide +kernel
theorem d_M_write_242 : decode b_M_write 242 = .ok (.iaload, 1) := by decide +kernel
theorem d_M_write_243 : decode b_M_write 243 = .ok (.iaload, 1) := by decide +kernel
theorem d_M_write_244 : decode b_M_write 244 = .ok (.iload 5, 2) := by decide +kernel
theorem d_M_write_246 : decode b_M_write 246 = .ok (.ifCond .eq 7, 3) := by decide +kernel
theorem d_M_write_249 : decode b_M_write 249 = .ok (.iconst 1, 1) := by decide +kernel
theorem d_M_write_250 : decode b_M_write 250 = .ok (.goto 4, 3) := by decide +kernel
theorem d_M_write_253 : decode b_M_write 253 = .ok (.iconst 0, 1) := by decide +kernel
theorem d_M_write_254 : decode b_M_write 254 = .ok (.iadd, 1) := by decide +kernel
theorem d_M_write_255 : decode b_M_write 255 = .ok (.iastore, 1) := by decide +kernel
theorem d_M_write_256 : decode b_M_write 256 = .ok (.aload_n 0, 1) := by decide +kernel
theorem d_M_write_257 : decode b_M_write 257 = .ok (.getfield 72, 3) := by decide +kernel
theorem d_M_write_260 : decode b_M_write 260 = .ok (.iload_n 1, 1) := by decide +kernel
theorem d_M_write_261 : decode b_M_write 261 = .ok (.iload 6, 2) := by decide +kernel
theorem d_M_write_263 : decode b_M_write 263 = .ok (.iastore, 1) := by decide +kernel
theorem d_M_write_264 : decode b_M_write 264 = .ok (.aload_n 0, 1) := by decide +kernel
theorem d_M_write_265 : decode b_M_write 265 = .ok (.getfield 69, 3) := by decide +kernel
theorem d_M_write_268 : decode b_M_write 268 = .ok (.iload_n 1, 1) := by decide +kernel
theorem d_M_write_269 : decode b_M_write 269 = .ok (.iconst 0, 1) := by decide +kernel
theorem d_M_write_270 : decode b_M_write 270 = .ok (.bastore, 1) := by decide +kernel
theorem d_M_write_271 : decode b_M_write 271 = .ok (.aload_n 0, 1) := by decide +kernel
theorem d_M_write_272 : decode b_M_write 272 = .ok (.getfield 29, 3) := by decide +kernel
theorem d_M_write_275 : decode b_M_write 275 = .ok (.bipush 32, 2) := by decide +kernel
theorem d_M_write_277 : decode b_M_write 277 = .ok (.iload_n 1, 1) := by decide +kernel
theorem d_M_write_278 : decode b_M_write 278 = .ok (.imul, 1) := by decide +kernel
theorem d_M_write_279 : decode b_M_write 279 = .ok (.iload_n 2, 1) := by decide +kernel
theorem d_M_write_280 : decode b_M_write 280 = .ok (.iadd, 1) := by decide +kernel
theorem d_M_write_281 : decode b_M_write 281 = .ok (.iload_n 3, 1) := by decide +kernel
theorem d_M_write_282 : decode b_M_write 282 = .ok (.iastore, 1) := by decide +kernel
theorem d_M_write_283 : decode b_M_write 283 = .ok (.aload_n 0, 1) := by decide +kernel
theorem d_M_write_284 : decode b_M_write 284 = .ok (.getfield 109, 3) := by decide +kernel
theorem d_M_write_287 : decode b_M_write 287 = .ok (.ifCond .eq 23, 3) := by decide +kernel
theorem d_M_write_290 : decode b_M_write 290 = .ok (.aload_n 0, 1) := by decide +kernel
theorem d_M_write_291 : decode b_M_write 291 = .ok (.getfield 22, 3) := by decide +kernel
