theorem d_Rt_readInto_66 : decode b_Rt_readInto 66 = .ok (.iadd, 1) := by decide +kernel
theorem d_Rt_readInto_67 : decode b_Rt_readInto 67 = .ok (.ireturn, 1) := by decide +kernel
theorem d_Rt_readInto_68 : decode b_Rt_readInto 68 = .ok (.aload_n 1, 1) := by decide +kernel
theorem d_Rt_readInto_69 : decode b_Rt_readInto 69 = .ok (.aload_n 0, 1) := by decide +kernel
theorem d_Rt_readInto_70 : decode b_Rt_readInto 70 = .ok (.iload_n 2, 1) := by decide +kernel
theorem d_Rt_readInto_71 : decode b_Rt_readInto 71 = .ok (.iconst 1, 1) := by decide +kernel
theorem d_Rt_readInto_72 : decode b_Rt_readInto 72 = .ok (.iadd, 1) := by decide +kernel
theorem d_Rt_readInto_73 : decode b_Rt_readInto 73 = .ok (.invokevirtual 28, 3) := by decide +kernel
theorem d_Rt_readInto_76 : decode b_Rt_readInto 76 = .ok (.invokevirtual 36, 3) := by decide +kernel
theorem d_Rt_readInto_79 : decode b_Rt_readInto 79 = .ok (.istore 4, 2) := by decide +kernel
theorem d_Rt_readInto_81 : decode b_Rt_readInto 81 = .ok (.iload 4, 2) := by decide +kernel
theorem d_Rt_readInto_83 : decode b_Rt_readInto 83 = .ok (.iconst (-1), 1) := by decide +kernel
theorem d_Rt_readInto_84 : decode b_Rt_readInto 84 = .ok (.if_icmp .ne 7, 3) := by decide +kernel
theorem d_Rt_readInto_87 : decode b_Rt_readInto 87 = .ok (.iload_n 2, 1) := by decide +kernel
theorem d_Rt_readInto_88 : decode b_Rt_readInto 88 = .ok (.iconst 1, 1) := by decide +kernel
theorem d_Rt_readInto_89 : decode b_Rt_readInto 89 = .ok (.iadd, 1) := by decide +kernel
theorem d_Rt_readInto_90 : decode b_Rt_readInto 90 = .ok (.ireturn, 1) := by decide +kernel
theorem d_Rt_readInto_91 : decode b_Rt_readInto 91 = .ok (.aload_n 1, 1) := by decide +kernel
theorem d_Rt_readInto_92 : decode b_Rt_readInto 92 = .ok (.iload 4, 2) := by decide +kernel
theorem d_Rt_readInto_94 : decode b_Rt_readInto 94 = .ok (.aload_n 1, 1) := by decide +kernel
theorem d_Rt_readInto_95 : decode b_Rt_readInto 95 = .ok (.aload_n 0, 1) := by decide +kernel
theorem d_Rt_readInto_96 : decode b_Rt_readInto 96 = .ok (.iload_n 2, 1) := by decide +kernel
theorem d_Rt_readInto_97 : decode b_Rt_readInto 97 = .ok (.iconst 2, 1) := by decide +kernel
theorem d_Rt_readInto_98 : decode b_Rt_readInto 98 = .ok (.iadd, 1) := by decide +kernel
theorem d_Rt_readInto_99 : decode b_Rt_readInto 99 = .ok (.invokevirtual 28, 3) := by decide +kernel
theorem d_Rt_readInto_102 : decode b_Rt_readInto 102 = .ok (.invokevirtual 36, 3) := by decide +kernel
theorem d_Rt_readInto_105 : decode b_Rt_readInto 105 = .ok (.invokevirtual 39, 3) := by decide +kernel
theorem d_Rt_readInto_108 : decode b_Rt_readInto 108 = .ok (.ifCond .ne 7, 3) := by decide +kernel
theorem d_Rt_readInto_111 : decode b_Rt_readInto 111 = .ok (.iload_n 2, 1) := by decide +kernel
theorem d_Rt_readInto_112 : decode b_Rt_readInto 112 = .ok (.iconst 2, 1) := by decide +kernel
theorem d_Rt_readInto_113 : decode b_Rt_readInto 113 = .ok (.iadd, 1) := by decide +kernel
theorem d_Rt_readInto_114 : decode b_Rt_readInto 114 = .ok (.ireturn, 1) := by decide +kernel
theorem d_Rt_readInto_115 : decode b_Rt_readInto 115 = .ok (.iinc 2 3, 3) := by decide +kernel
theorem d_Rt_readInto_118 : decode b_Rt_readInto 118 = .ok (.iinc 3 1, 3) := by decide +kernel
theorem d_Rt_readInto_121 : decode b_Rt_readInto 121 = .ok (.goto (-103), 3) := by decide +kernel
theorem d_Rt_readInto_124 : decode b_Rt_readInto 124 = .ok (.iload_n 2, 1) := by decide +kernel
theorem d_Rt_readInto_125 : decode b_Rt_readInto 125 = .ok (.ireturn, 1) := by decide +kernel
theorem d_Rt_readThings_0 : decode b_Rt_readThings 0 = .ok (.iconst 0, 1) := by decide +kernel
theorem d_Rt_readThings_1 : decode b_Rt_readThings 1 = .ok (.istore_n 2, 1) := by decide +kernel
theorem d_Rt_readThings_2 : decode b_Rt_readThings 2 = .ok (.iload_n 2, 1) := by decide +kernel
theorem d_Rt_readThings_3 : decode b_Rt_readThings 3 = .ok (.bipush 100, 2) := by decide +kernel
theorem d_Rt_readThings_5 : decode b_Rt_readThings 5 = .ok (.if_icmp .ge 23, 3) := by decide +kernel
theorem d_Rt_readThings_8 : decode b_Rt_readThings 8 = .ok (.aload_n 1, 1) := by decide +kernel
theorem d_Rt_readThings_9 : decode b_Rt_readThings 9 = .ok (.aload_n 0, 1) := by decide +kernel
theorem d_Rt_readThings_10 : decode b_Rt_readThings 10 = .ok (.iload_n 2, 1) := by decide +kernel
theorem d_Rt_readThings_11 : decode b_Rt_readThings 11 = .ok (.invokevirtual 28, 3) := by decide +kernel
theorem d_Rt_readThings_14 : decode b_Rt_readThings 14 = .ok (.invokevirtual 43, 3) := by decide +kernel
theorem d_Rt_readThings_17 : decode b_Rt_readThings 17 = .ok (.ifCond .ne 5, 3) := by decide +kernel
theorem d_Rt_readThings_20 : decode b_Rt_readThings 20 = .ok (.iload_n 2, 1) := by decide +kernel
theorem d_Rt_readThings_21 : decode b_Rt_readThings 21 = .ok (.ireturn, 1) := by decide +kernel
theorem d_Rt_readThings_22 : decode b_Rt_readThings 22 = .ok (.iinc 2 1, 3) := by decide +kernel
theorem d_Rt_readThings_25 : decode b_Rt_readThings 25 = .ok (.goto (-23), 3) := by decide +kernel
theorem d_Rt_readThings_28 : decode b_Rt_readThings 28 = .ok (.bipush 100, 2) := by decide +kernel
theorem d_Rt_readThings_30 : decode b_Rt_readThings 30 = .ok (.ireturn, 1) := by decide +kernel
theorem d_Rt_unitAt_0 : decode b_Rt_unitAt 0 = .ok (.iload_n 1, 1) := by decide +kernel
theorem d_Rt_unitAt_1 : decode b_Rt_unitAt 1 = .ok (.ifCond .lt 20, 3) := by decide +kernel
theorem d_Rt_unitAt_4 : decode b_Rt_unitAt 4 = .ok (.iload_n 1, 1) := by decide +kernel
theorem d_Rt_unitAt_5 : decode b_Rt_unitAt 5 = .ok (.aload_n 0, 1) := by decide +kernel
theorem d_Rt_unitAt_6 : decode b_Rt_unitAt 6 = .ok (.getfield 15, 3) := by decide +kernel
theorem d_Rt_unitAt_9 : decode b_Rt_unitAt 9 = .ok (.if_icmp .ge 12, 3) := by decide +kernel
theorem d_Rt_unitAt_12 : decode b_Rt_unitAt 12 = .ok (.aload_n 0, 1) := by decide +kernel
theorem d_Rt_unitAt_13 : decode b_Rt_unitAt 13 = .ok (.getfield 11, 3) := by decide +kernel
theorem d_Rt_unitAt_16 : decode b_Rt_unitAt 16 = .ok (.iload_n 1, 1) := by decide +kernel
theorem d_Rt_unitAt_17 : decode b_Rt_unitAt 17 = .ok (.iaload, 1) := by decide +kernel
theorem d_Rt_unitAt_18 : decode b_Rt_unitAt 18 = .ok (.goto 4, 3) := by decide +kernel
theorem d_Rt_unitAt_21 : decode b_Rt_unitAt 21 = .ok (.iconst (-1), 1) := by decide +kernel
theorem d_Rt_unitAt_22 : decode b_Rt_unitAt 22 = .ok (.ireturn, 1) := by decide +kernel
theorem d_Se_init_0 : decode b_Se_init 0 = .ok (.aload_n 0, 1) := by decide +kernel
theorem d_Se_init_1 : decode b_Se_init 1 = .ok (.invokespecial 3, 3) := by decide +kernel
theorem d_Se_init_4 : decode b_Se_init 4 = .ok (.aload_n 0, 1) := by decide +kernel
theorem d_Se_init_5 : decode b_Se_init 5 = .ok (.sipush 512, 3) := by decide +kernel
theorem d_Se_init_8 : decode b_Se_init 8 = .ok (.newarray .int, 2) := by decide +kernel
theorem d_Se_init_10 : decode b_Se_init 10 = .ok (.putfield 11, 3) := by decide +kernel
theorem d_Se_init_13 : decode b_Se_init 13 = .ok (.aload_n 0, 1) := by decide +kernel
theorem d_Se_init_14 : decode b_Se_init 14 = .ok (.sipush 512, 3) := by decide +kernel
theorem d_Se_init_17 : decode b_Se_init 17 = .ok (.newarray .int, 2) := by decide +kernel
theorem d_Se_init_19 : decode b_Se_init 19 = .ok (.putfield 15, 3) := by decide +kernel
theorem d_Se_init_22 : decode b_Se_init 22 = .ok (.return_, 1) := by decide +kernel
theorem d_Se_before_0 : decode b_Se_before 0 = .ok (.iload_n 1, 1) := by decide +kernel
theorem d_Se_before_1 : decode b_Se_before 1 = .ok (.ifCond .lt 12, 3) := by decide +kernel
theorem d_Se_before_4 : decode b_Se_before 4 = .ok (.iload_n 1, 1) := by decide +kernel
theorem d_Se_before_5 : decode b_Se_before 5 = .ok (.aload_n 0, 1) := by decide +kernel
theorem d_Se_before_6 : decode b_Se_before 6 = .ok (.getfield 11, 3) := by decide +kernel
theorem d_Se_before_9 : decode b_Se_before 9 = .ok (.arraylength, 1) := by decide +kernel
theorem d_Se_before_10 : decode b_Se_before 10 = .ok (.if_icmp .lt 7, 3) := by decide +kernel
theorem d_Se_before_13 : decode b_Se_before 13 = .ok (.iload_n 1, 1) := by decide +kernel
theorem d_Se_before_14 : decode b_Se_before 14 = .ok (.goto 14, 3) := by decide +kernel
theorem d_Se_before_17 : decode b_Se_before 17 = .ok (.aload_n 0, 1) := by decide +kernel
theorem d_Se_before_18 : decode b_Se_before 18 = .ok (.getfield 11, 3) := by decide +kernel
theorem d_Se_before_21 : decode b_Se_before 21 = .ok (.iload_n 1, 1) := by decide +kernel
theorem d_Se_before_22 : decode b_Se_before 22 = .ok (.iaload, 1) := by decide +kernel
theorem d_Se_before_23 : decode b_Se_before 23 = .ok (.iconst 1, 1) := by decide +kernel
theorem d_Se_before_24 : decode b_Se_before 24 = .ok (.isub, 1) := by decide +kernel
theorem d_Se_before_25 : decode b_Se_before 25 = .ok (.bipush 8, 2) := by decide +kernel
theorem d_Se_before_27 : decode b_Se_before 27 = .ok (.ishr, 1) := by decide +kernel
theorem d_Se_before_28 : decode b_Se_before 28 = .ok (.ireturn, 1) := by decide +kernel
theorem d_Se_endOf_0 : decode b_Se_endOf 0 = .ok (.aload_n 0, 1) := by decide +kernel
theorem d_Se_endOf_1 : decode b_Se_endOf 1 = .ok (.aload_n 1, 1) := by decide +kernel
theorem d_Se_endOf_2 : decode b_Se_endOf 2 = .ok (.invokevirtual 18, 3) := by decide +kernel
theorem d_Se_endOf_5 : decode b_Se_endOf 5 = .ok (.invokevirtual 24, 3) := by decide +kernel
theorem d_Se_endOf_8 : decode b_Se_endOf 8 = .ok (.aload_n 0, 1) := by decide +kernel
theorem d_Se_endOf_9 : decode b_Se_endOf 9 = .ok (.getfield 11, 3) := by decide +kernel
theorem d_Se_endOf_12 : decode b_Se_endOf 12 = .ok (.iconst 0, 1) := by decide +kernel
theorem d_Se_endOf_13 : decode b_Se_endOf 13 = .ok (.invokestatic 28, 3) := by decide +kernel
theorem d_Se_endOf_16 : decode b_Se_endOf 16 = .ok (.aload_n 0, 1) := by decide +kernel
theorem d_Se_endOf_17 : decode b_Se_endOf 17 = .ok (.iconst 0, 1) := by decide +kernel
theorem d_Se_endOf_18 : decode b_Se_endOf 18 = .ok (.putfield 34, 3) := by decide +kernel
theorem d_Se_endOf_21 : decode b_Se_endOf 21 = .ok (.aload_n 1, 1) := by decide +kernel
theorem d_Se_endOf_22 : decode b_Se_endOf 22 = .ok (.invokevirtual 38, 3) := by decide +kernel
theorem d_Se_endOf_25 : decode b_Se_endOf 25 = .ok (.istore_n 2, 1) := by decide +kernel
theorem d_Se_endOf_26 : decode b_Se_endOf 26 = .ok (.aload_n 0, 1) := by decide +kernel
theorem d_Se_endOf_27 : decode b_Se_endOf 27 = .ok (.iload_n 2, 1) := by decide +kernel
theorem d_Se_endOf_28 : decode b_Se_endOf 28 = .ok (.iload_n 2, 1) := by decide +kernel
theorem d_Se_endOf_29 : decode b_Se_endOf 29 = .ok (.iconst 0, 1) := by decide +kernel
theorem d_Se_endOf_30 : decode b_Se_endOf 30 = .ok (.invokevirtual 41, 3) := by decide +kernel
theorem d_Se_endOf_33 : decode b_Se_endOf 33 = .ok (.iconst 0, 1) := by decide +kernel
theorem d_Se_endOf_34 : decode b_Se_endOf 34 = .ok (.istore_n 3, 1) := by decide +kernel
theorem d_Se_endOf_35 : decode b_Se_endOf 35 = .ok (.iload_n 3, 1) := by decide +kernel
theorem d_Se_endOf_36 : decode b_Se_endOf 36 = .ok (.sipush 10000, 3) := by decide +kernel
theorem d_Se_endOf_39 : decode b_Se_endOf 39 = .ok (.if_icmp .ge 55, 3) := by decide +kernel
theorem d_Se_endOf_42 : decode b_Se_endOf 42 = .ok (.iload_n 3, 1) := by decide +kernel
theorem d_Se_endOf_43 : decode b_Se_endOf 43 = .ok (.aload_n 0, 1) := by decide +kernel
theorem d_Se_endOf_44 : decode b_Se_endOf 44 = .ok (.getfield 34, 3) := by decide +kernel
theorem d_Se_endOf_47 : decode b_Se_endOf 47 = .ok (.if_icmp .ge 12, 3) := by decide +kernel
theorem d_Se_endOf_50 : decode b_Se_endOf 50 = .ok (.iload_n 3, 1) := by decide +kernel
theorem d_Se_endOf_51 : decode b_Se_endOf 51 = .ok (.aload_n 0, 1) := by decide +kernel
theorem d_Se_endOf_52 : decode b_Se_endOf 52 = .ok (.getfield 15, 3) := by decide +kernel
theorem d_Se_endOf_55 : decode b_Se_endOf 55 = .ok (.arraylength, 1) := by decide +kernel
theorem d_Se_endOf_56 : decode b_Se_endOf 56 = .ok (.if_icmp .lt 5, 3) := by decide +kernel
theorem d_Se_endOf_59 : decode b_Se_endOf 59 = .ok (.iconst (-1), 1) := by decide +kernel
theorem d_Se_endOf_60 : decode b_Se_endOf 60 = .ok (.ireturn, 1) := by decide +kernel
theorem d_Se_endOf_61 : decode b_Se_endOf 61 = .ok (.aload_n 0, 1) := by decide +kernel
theorem d_Se_endOf_62 : decode b_Se_endOf 62 = .ok (.getfield 15, 3) := by decide +kernel
theorem d_Se_endOf_65 : decode b_Se_endOf 65 = .ok (.iload_n 3, 1) := by decide +kernel
theorem d_Se_endOf_66 : decode b_Se_endOf 66 = .ok (.iaload, 1) := by decide +kernel
theorem d_Se_endOf_67 : decode b_Se_endOf 67 = .ok (.istore 4, 2) := by decide +kernel
theorem d_Se_endOf_69 : decode b_Se_endOf 69 = .ok (.aload_n 1, 1) := by decide +kernel
theorem d_Se_endOf_70 : decode b_Se_endOf 70 = .ok (.iload 4, 2) := by decide +kernel
theorem d_Se_endOf_72 : decode b_Se_endOf 72 = .ok (.invokevirtual 45, 3) := by decide +kernel
theorem d_Se_endOf_75 : decode b_Se_endOf 75 = .ok (.ifCond .eq 6, 3) := by decide +kernel
theorem d_Se_endOf_78 : decode b_Se_endOf 78 = .ok (.iload 4, 2) := by decide +kernel
theorem d_Se_endOf_80 : decode b_Se_endOf 80 = .ok (.ireturn, 1) := by decide +kernel
theorem d_Se_endOf_81 : decode b_Se_endOf 81 = .ok (.aload_n 1, 1) := by decide +kernel
theorem d_Se_endOf_82 : decode b_Se_endOf 82 = .ok (.iload 4, 2) := by decide +kernel
theorem d_Se_endOf_84 : decode b_Se_endOf 84 = .ok (.aload_n 0, 1) := by decide +kernel
theorem d_Se_endOf_85 : decode b_Se_endOf 85 = .ok (.invokevirtual 49, 3) := by decide +kernel
theorem d_Se_endOf_88 : decode b_Se_endOf 88 = .ok (.iinc 3 1, 3) := by decide +kernel
theorem d_Se_endOf_91 : decode b_Se_endOf 91 = .ok (.goto (-56), 3) := by decide +kernel
theorem d_Se_endOf_94 : decode b_Se_endOf 94 = .ok (.iconst (-1), 1) := by decide +kernel
theorem d_Se_endOf_95 : decode b_Se_endOf 95 = .ok (.ireturn, 1) := by decide +kernel
theorem d_Se_makeRoom_0 : decode b_Se_makeRoom 0 = .ok (.iload_n 1, 1) := by decide +kernel
theorem d_Se_makeRoom_1 : decode b_Se_makeRoom 1 = .ok (.aload_n 0, 1) := by decide +kernel
theorem d_Se_makeRoom_2 : decode b_Se_makeRoom 2 = .ok (.getfield 11, 3) := by decide +kernel
theorem d_Se_makeRoom_5 : decode b_Se_makeRoom 5 = .ok (.arraylength, 1) := by decide +kernel
theorem d_Se_makeRoom_6 : decode b_Se_makeRoom 6 = .ok (.if_icmp .le 24, 3) := by decide +kernel
theorem d_Se_makeRoom_9 : decode b_Se_makeRoom 9 = .ok (.iload_n 1, 1) := by decide +kernel
theorem d_Se_makeRoom_10 : decode b_Se_makeRoom 10 = .ok (.sipush 10000, 3) := by decide +kernel
theorem d_Se_makeRoom_13 : decode b_Se_makeRoom 13 = .ok (.if_icmp .gt 17, 3) := by decide +kernel
theorem d_Se_makeRoom_16 : decode b_Se_makeRoom 16 = .ok (.aload_n 0, 1) := by decide +kernel
theorem d_Se_makeRoom_17 : decode b_Se_makeRoom 17 = .ok (.iload_n 1, 1) := by decide +kernel
theorem d_Se_makeRoom_18 : decode b_Se_makeRoom 18 = .ok (.newarray .int, 2) := by decide +kernel
theorem d_Se_makeRoom_20 : decode b_Se_makeRoom 20 = .ok (.putfield 11, 3) := by decide +kernel
theorem d_Se_makeRoom_23 : decode b_Se_makeRoom 23 = .ok (.aload_n 0, 1) := by decide +kernel
theorem d_Se_makeRoom_24 : decode b_Se_makeRoom 24 = .ok (.iload_n 1, 1) := by decide +kernel
theorem d_Se_makeRoom_25 : decode b_Se_makeRoom 25 = .ok (.newarray .int, 2) := by decide +kernel
theorem d_Se_makeRoom_27 : decode b_Se_makeRoom 27 = .ok (.putfield 15, 3) := by decide +kernel
theorem d_Se_makeRoom_30 : decode b_Se_makeRoom 30 = .ok (.return_, 1) := by decide +kernel
theorem d_Se_meet_0 : decode b_Se_meet 0 = .ok (.iload_n 1, 1) := by decide +kernel
theorem d_Se_meet_1 : decode b_Se_meet 1 = .ok (.ifCond .lt 33, 3) := by decide +kernel
theorem d_Se_meet_4 : decode b_Se_meet 4 = .ok (.iload_n 1, 1) := by decide +kernel
theorem d_Se_meet_5 : decode b_Se_meet 5 = .ok (.aload_n 0, 1) := by decide +kernel
theorem d_Se_meet_6 : decode b_Se_meet 6 = .ok (.getfield 11, 3) := by decide +kernel
theorem d_Se_meet_9 : decode b_Se_meet 9 = .ok (.arraylength, 1) := by decide +kernel
theorem d_Se_meet_10 : decode b_Se_meet 10 = .ok (.if_icmp .ge 24, 3) := by decide +kernel
theorem d_Se_meet_13 : decode b_Se_meet 13 = .ok (.aload_n 0, 1) := by decide +kernel
theorem d_Se_meet_14 : decode b_Se_meet 14 = .ok (.getfield 11, 3) := by decide +kernel
theorem d_Se_meet_17 : decode b_Se_meet 17 = .ok (.iload_n 1, 1) := by decide +kernel
theorem d_Se_meet_18 : decode b_Se_meet 18 = .ok (.iaload, 1) := by decide +kernel
theorem d_Se_meet_19 : decode b_Se_meet 19 = .ok (.ifCond .ne 15, 3) := by decide +kernel
theorem d_Se_meet_22 : decode b_Se_meet 22 = .ok (.aload_n 0, 1) := by decide +kernel
theorem d_Se_meet_23 : decode b_Se_meet 23 = .ok (.getfield 34, 3) := by decide +kernel
theorem d_Se_meet_26 : decode b_Se_meet 26 = .ok (.aload_n 0, 1) := by decide +kernel
theorem d_Se_meet_27 : decode b_Se_meet 27 = .ok (.getfield 15, 3) := by decide +kernel
theorem d_Se_meet_30 : decode b_Se_meet 30 = .ok (.arraylength, 1) := by decide +kernel
theorem d_Se_meet_31 : decode b_Se_meet 31 = .ok (.if_icmp .lt 4, 3) := by decide +kernel
theorem d_Se_meet_34 : decode b_Se_meet 34 = .ok (.return_, 1) := by decide +kernel
theorem d_Se_meet_35 : decode b_Se_meet 35 = .ok (.aload_n 0, 1) := by decide +kernel
theorem d_Se_meet_36 : decode b_Se_meet 36 = .ok (.getfield 11, 3) := by decide +kernel
theorem d_Se_meet_39 : decode b_Se_meet 39 = .ok (.iload_n 1, 1) := by decide +kernel
theorem d_Se_meet_40 : decode b_Se_meet 40 = .ok (.iconst 1, 1) := by decide +kernel
theorem d_Se_meet_41 : decode b_Se_meet 41 = .ok (.iload_n 2, 1) := by decide +kernel
theorem d_Se_meet_42 : decode b_Se_meet 42 = .ok (.bipush 8, 2) := by decide +kernel
theorem d_Se_meet_44 : decode b_Se_meet 44 = .ok (.ishl, 1) := by decide +kernel
theorem d_Se_meet_45 : decode b_Se_meet 45 = .ok (.iload_n 3, 1) := by decide +kernel
theorem d_Se_meet_46 : decode b_Se_meet 46 = .ok (.ior, 1) := by decide +kernel
theorem d_Se_meet_47 : decode b_Se_meet 47 = .ok (.iadd, 1) := by decide +kernel
theorem d_Se_meet_48 : decode b_Se_meet 48 = .ok (.iastore, 1) := by decide +kernel
theorem d_Se_meet_49 : decode b_Se_meet 49 = .ok (.aload_n 0, 1) := by decide +kernel
theorem d_Se_meet_50 : decode b_Se_meet 50 = .ok (.getfield 15, 3) := by decide +kernel
theorem d_Se_meet_53 : decode b_Se_meet 53 = .ok (.aload_n 0, 1) := by decide +kernel
theorem d_Se_meet_54 : decode b_Se_meet 54 = .ok (.getfield 34, 3) := by decide +kernel
theorem d_Se_meet_57 : decode b_Se_meet 57 = .ok (.iload_n 1, 1) := by decide +kernel
theorem d_Se_meet_58 : decode b_Se_meet 58 = .ok (.iastore, 1) := by decide +kernel
theorem d_Se_meet_59 : decode b_Se_meet 59 = .ok (.aload_n 0, 1) := by decide +kernel
theorem d_Se_meet_60 : decode b_Se_meet 60 = .ok (.dup, 1) := by decide +kernel
theorem d_Se_meet_61 : decode b_Se_meet 61 = .ok (.getfield 34, 3) := by decide +kernel
theorem d_Se_meet_64 : decode b_Se_meet 64 = .ok (.iconst 1, 1) := by decide +kernel
theorem d_Se_meet_65 : decode b_Se_meet 65 = .ok (.iadd, 1) := by decide +kernel
theorem d_Se_meet_66 : decode b_Se_meet 66 = .ok (.putfield 34, 3) := by decide +kernel
theorem d_Se_meet_69 : decode b_Se_meet 69 = .ok (.return_, 1) := by decide +kernel
theorem d_Se_stepInto_0 : decode b_Se_stepInto 0 = .ok (.iload_n 1, 1) := by decide +kernel
theorem d_Se_stepInto_1 : decode b_Se_stepInto 1 = .ok (.ifCond .lt 12, 3) := by decide +kernel
theorem d_Se_stepInto_4 : decode b_Se_stepInto 4 = .ok (.iload_n 1, 1) := by decide +kernel
theorem d_Se_stepInto_5 : decode b_Se_stepInto 5 = .ok (.aload_n 0, 1) := by decide +kernel
theorem d_Se_stepInto_6 : decode b_Se_stepInto 6 = .ok (.getfield 11, 3) := by decide +kernel
theorem d_Se_stepInto_9 : decode b_Se_stepInto 9 = .ok (.arraylength, 1) := by decide +kernel
theorem d_Se_stepInto_10 : decode b_Se_stepInto 10 = .ok (.if_icmp .lt 7, 3) := by decide +kernel
theorem d_Se_stepInto_13 : decode b_Se_stepInto 13 = .ok (.iconst 0, 1) := by decide +kernel
theorem d_Se_stepInto_14 : decode b_Se_stepInto 14 = .ok (.goto 15, 3) := by decide +kernel
theorem d_Se_stepInto_17 : decode b_Se_stepInto 17 = .ok (.aload_n 0, 1) := by decide +kernel
theorem d_Se_stepInto_18 : decode b_Se_stepInto 18 = .ok (.getfield 11, 3) := by decide +kernel
theorem d_Se_stepInto_21 : decode b_Se_stepInto 21 = .ok (.iload_n 1, 1) := by decide +kernel
theorem d_Se_stepInto_22 : decode b_Se_stepInto 22 = .ok (.iaload, 1) := by decide +kernel
theorem d_Se_stepInto_23 : decode b_Se_stepInto 23 = .ok (.iconst 1, 1) := by decide +kernel
theorem d_Se_stepInto_24 : decode b_Se_stepInto 24 = .ok (.isub, 1) := by decide +kernel
theorem d_Se_stepInto_25 : decode b_Se_stepInto 25 = .ok (.sipush 255, 3) := by decide +kernel
theorem d_Se_stepInto_28 : decode b_Se_stepInto 28 = .ok (.iand, 1) := by decide +kernel
theorem d_Se_stepInto_29 : decode b_Se_stepInto 29 = .ok (.ireturn, 1) := by decide +kernel
theorem d_Se_stepsTo_0 : decode b_Se_stepsTo 0 = .ok (.iload_n 1, 1) := by decide +kernel
theorem d_Se_stepsTo_1 : decode b_Se_stepsTo 1 = .ok (.istore_n 2, 1) := by decide +kernel
theorem d_Se_stepsTo_2 : decode b_Se_stepsTo 2 = .ok (.iconst 0, 1) := by decide +kernel
theorem d_Se_stepsTo_3 : decode b_Se_stepsTo 3 = .ok (.istore_n 3, 1) := by decide +kernel
theorem d_Se_stepsTo_4 : decode b_Se_stepsTo 4 = .ok (.iload_n 3, 1) := by decide +kernel
theorem d_Se_stepsTo_5 : decode b_Se_stepsTo 5 = .ok (.sipush 10000, 3) := by decide +kernel
theorem d_Se_stepsTo_8 : decode b_Se_stepsTo 8 = .ok (.if_icmp .ge 27, 3) := by decide +kernel
theorem d_Se_stepsTo_11 : decode b_Se_stepsTo 11 = .ok (.aload_n 0, 1) := by decide +kernel
theorem d_Se_stepsTo_12 : decode b_Se_stepsTo 12 = .ok (.iload_n 2, 1) := by decide +kernel
theorem d_Se_stepsTo_13 : decode b_Se_stepsTo 13 = .ok (.invokevirtual 53, 3) := by decide +kernel
theorem d_Se_stepsTo_16 : decode b_Se_stepsTo 16 = .ok (.istore 4, 2) := by decide +kernel
theorem d_Se_stepsTo_18 : decode b_Se_stepsTo 18 = .ok (.iload 4, 2) := by decide +kernel
theorem d_Se_stepsTo_20 : decode b_Se_stepsTo 20 = .ok (.iload_n 2, 1) := by decide +kernel
theorem d_Se_stepsTo_21 : decode b_Se_stepsTo 21 = .ok (.if_icmp .ne 5, 3) := by decide +kernel
theorem d_Se_stepsTo_24 : decode b_Se_stepsTo 24 = .ok (.iload_n 3, 1) := by decide +kernel
theorem d_Se_stepsTo_25 : decode b_Se_stepsTo 25 = .ok (.ireturn, 1) := by decide +kernel
theorem d_Se_stepsTo_26 : decode b_Se_stepsTo 26 = .ok (.iload 4, 2) := by decide +kernel
theorem d_Se_stepsTo_28 : decode b_Se_stepsTo 28 = .ok (.istore_n 2, 1) := by decide +kernel
theorem d_Se_stepsTo_29 : decode b_Se_stepsTo 29 = .ok (.iinc 3 1, 3) := by decide +kernel
theorem d_Se_stepsTo_32 : decode b_Se_stepsTo 32 = .ok (.goto (-28), 3) := by decide +kernel
theorem d_Se_stepsTo_35 : decode b_Se_stepsTo 35 = .ok (.sipush 10000, 3) := by decide +kernel
theorem d_Se_stepsTo_38 : decode b_Se_stepsTo 38 = .ok (.ireturn, 1) := by decide +kernel
theorem d_Tw_init_0 : decode b_Tw_init 0 = .ok (.aload_n 0, 1) := by decide +kernel
theorem d_Tw_init_1 : decode b_Tw_init 1 = .ok (.invokespecial 3, 3) := by decide +kernel
theorem d_Tw_init_4 : decode b_Tw_init 4 = .ok (.aload_n 0, 1) := by decide +kernel
theorem d_Tw_init_5 : decode b_Tw_init 5 = .ok (.bipush 41, 2) := by decide +kernel
theorem d_Tw_init_7 : decode b_Tw_init 7 = .ok (.newarray .long, 2) := by decide +kernel
theorem d_Tw_init_9 : decode b_Tw_init 9 = .ok (.putfield 11, 3) := by decide +kernel
theorem d_Tw_init_12 : decode b_Tw_init 12 = .ok (.aload_n 0, 1) := by decide +kernel
theorem d_Tw_init_13 : decode b_Tw_init 13 = .ok (.bipush 41, 2) := by decide +kernel
theorem d_Tw_init_15 : decode b_Tw_init 15 = .ok (.newarray .int, 2) := by decide +kernel
theorem d_Tw_init_17 : decode b_Tw_init 17 = .ok (.putfield 15, 3) := by decide +kernel
theorem d_Tw_init_20 : decode b_Tw_init 20 = .ok (.aload_n 0, 1) := by decide +kernel
theorem d_Tw_init_21 : decode b_Tw_init 21 = .ok (.iconst 3, 1) := by decide +kernel
theorem d_Tw_init_22 : decode b_Tw_init 22 = .ok (.putfield 19, 3) := by decide +kernel
theorem d_Tw_init_25 : decode b_Tw_init 25 = .ok (.iconst 1, 1) := by decide +kernel
theorem d_Tw_init_26 : decode b_Tw_init 26 = .ok (.istore_n 1, 1) := by decide +kernel
theorem d_Tw_init_27 : decode b_Tw_init 27 = .ok (.iload_n 1, 1) := by decide +kernel
theorem d_Tw_init_28 : decode b_Tw_init 28 = .ok (.bipush 40, 2) := by decide +kernel
theorem d_Tw_init_30 : decode b_Tw_init 30 = .ok (.if_icmp .gt 74, 3) := by decide +kernel
theorem d_Tw_init_33 : decode b_Tw_init 33 = .ok (.aload_n 0, 1) := by decide +kernel
theorem d_Tw_init_34 : decode b_Tw_init 34 = .ok (.getfield 11, 3) := by decide +kernel
theorem d_Tw_init_37 : decode b_Tw_init 37 = .ok (.iload_n 1, 1) := by decide +kernel
theorem d_Tw_init_38 : decode b_Tw_init 38 = .ok (.ldc2_w 25, 3) := by decide +kernel
theorem d_Tw_init_41 : decode b_Tw_init 41 = .ok (.lastore, 1) := by decide +kernel
theorem d_Tw_init_42 : decode b_Tw_init 42 = .ok (.iconst 0, 1) := by decide +kernel
theorem d_Tw_init_43 : decode b_Tw_init 43 = .ok (.istore_n 2, 1) := by decide +kernel
theorem d_Tw_init_44 : decode b_Tw_init 44 = .ok (.iload_n 2, 1) := by decide +kernel
theorem d_Tw_init_45 : decode b_Tw_init 45 = .ok (.iload_n 1, 1) := by decide +kernel
theorem d_Tw_init_46 : decode b_Tw_init 46 = .ok (.if_icmp .ge 52, 3) := by decide +kernel
theorem d_Tw_init_49 : decode b_Tw_init 49 = .ok (.ldc2_w 27, 3) := by decide +kernel
theorem d_Tw_init_52 : decode b_Tw_init 52 = .ok (.aload_n 0, 1) := by decide +kernel
theorem d_Tw_init_53 : decode b_Tw_init 53 = .ok (.getfield 11, 3) := by decide +kernel
theorem d_Tw_init_56 : decode b_Tw_init 56 = .ok (.iload_n 2, 1) := by decide +kernel
theorem d_Tw_init_57 : decode b_Tw_init 57 = .ok (.laload, 1) := by decide +kernel
theorem d_Tw_init_58 : decode b_Tw_init 58 = .ok (.lmul, 1) := by decide +kernel
theorem d_Tw_init_59 : decode b_Tw_init 59 = .ok (.iload_n 1, 1) := by decide +kernel
theorem d_Tw_init_60 : decode b_Tw_init 60 = .ok (.iload_n 2, 1) := by decide +kernel
theorem d_Tw_init_61 : decode b_Tw_init 61 = .ok (.isub, 1) := by decide +kernel
theorem d_Tw_init_62 : decode b_Tw_init 62 = .ok (.invokestatic 29, 3) := by decide +kernel
theorem d_Tw_init_65 : decode b_Tw_init 65 = .ok (.ladd, 1) := by decide +kernel
theorem d_Tw_init_66 : decode b_Tw_init 66 = .ok (.lstore_n 3, 1) := by decide +kernel
theorem d_Tw_init_67 : decode b_Tw_init 67 = .ok (.lload_n 3, 1) := by decide +kernel
theorem d_Tw_init_68 : decode b_Tw_init 68 = .ok (.aload_n 0, 1) := by decide +kernel
theorem d_Tw_init_69 : decode b_Tw_init 69 = .ok (.getfield 11, 3) := by decide +kernel
theorem d_Tw_init_72 : decode b_Tw_init 72 = .ok (.iload_n 1, 1) := by decide +kernel
theorem d_Tw_init_73 : decode b_Tw_init 73 = .ok (.laload, 1) := by decide +kernel
theorem d_Tw_init_74 : decode b_Tw_init 74 = .ok (.lcmp, 1) := by decide +kernel
theorem d_Tw_init_75 : decode b_Tw_init 75 = .ok (.ifCond .ge 17, 3) := by decide +kernel
theorem d_Tw_init_78 : decode b_Tw_init 78 = .ok (.aload_n 0, 1) := by decide +kernel
theorem d_Tw_init_79 : decode b_Tw_init 79 = .ok (.getfield 11, 3) := by decide +kernel
theorem d_Tw_init_82 : decode b_Tw_init 82 = .ok (.iload_n 1, 1) := by decide +kernel
theorem d_Tw_init_83 : decode b_Tw_init 83 = .ok (.lload_n 3, 1) := by decide +kernel
theorem d_Tw_init_84 : decode b_Tw_init 84 = .ok (.lastore, 1) := by decide +kernel
theorem d_Tw_init_85 : decode b_Tw_init 85 = .ok (.aload_n 0, 1) := by decide +kernel
theorem d_Tw_init_86 : decode b_Tw_init 86 = .ok (.getfield 15, 3) := by decide +kernel
theorem d_Tw_init_89 : decode b_Tw_init 89 = .ok (.iload_n 1, 1) := by decide +kernel
theorem d_Tw_init_90 : decode b_Tw_init 90 = .ok (.iload_n 2, 1) := by decide +kernel
theorem d_Tw_init_91 : decode b_Tw_init 91 = .ok (.iastore, 1) := by decide +kernel
theorem d_Tw_init_92 : decode b_Tw_init 92 = .ok (.iinc 2 1, 3) := by decide +kernel
theorem d_Tw_init_95 : decode b_Tw_init 95 = .ok (.goto (-51), 3) := by decide +kernel
theorem d_Tw_init_98 : decode b_Tw_init 98 = .ok (.iinc 1 1, 3) := by decide +kernel
theorem d_Tw_init_101 : decode b_Tw_init 101 = .ok (.goto (-74), 3) := by decide +kernel
theorem d_Tw_init_104 : decode b_Tw_init 104 = .ok (.return_, 1) := by decide +kernel
theorem d_Tw_lesserFreePeg_0 : decode b_Tw_lesserFreePeg 0 = .ok (.iconst 0, 1) := by decide +kernel
theorem d_Tw_lesserFreePeg_1 : decode b_Tw_lesserFreePeg 1 = .ok (.istore_n 2, 1) := by decide +kernel
theorem d_Tw_lesserFreePeg_2 : decode b_Tw_lesserFreePeg 2 = .ok (.iconst 0, 1) := by decide +kernel
theorem d_Tw_lesserFreePeg_3 : decode b_Tw_lesserFreePeg 3 = .ok (.istore_n 3, 1) := by decide +kernel
theorem d_Tw_lesserFreePeg_4 : decode b_Tw_lesserFreePeg 4 = .ok (.iload_n 3, 1) := by decide +kernel
theorem d_Tw_lesserFreePeg_5 : decode b_Tw_lesserFreePeg 5 = .ok (.iconst 2, 1) := by decide +kernel
theorem d_Tw_lesserFreePeg_6 : decode b_Tw_lesserFreePeg 6 = .ok (.if_icmp .ge 22, 3) := by decide +kernel
theorem d_Tw_lesserFreePeg_9 : decode b_Tw_lesserFreePeg 9 = .ok (.iload_n 2, 1) := by decide +kernel
theorem d_Tw_lesserFreePeg_10 : decode b_Tw_lesserFreePeg 10 = .ok (.iload_n 0, 1) := by decide +kernel
theorem d_Tw_lesserFreePeg_11 : decode b_Tw_lesserFreePeg 11 = .ok (.if_icmp .eq 8, 3) := by decide +kernel
theorem d_Tw_lesserFreePeg_14 : decode b_Tw_lesserFreePeg 14 = .ok (.iload_n 2, 1) := by decide +kernel
theorem d_Tw_lesserFreePeg_15 : decode b_Tw_lesserFreePeg 15 = .ok (.iload_n 1, 1) := by decide +kernel
theorem d_Tw_lesserFreePeg_16 : decode b_Tw_lesserFreePeg 16 = .ok (.if_icmp .ne 6, 3) := by decide +kernel
theorem d_Tw_lesserFreePeg_19 : decode b_Tw_lesserFreePeg 19 = .ok (.iinc 2 1, 3) := by decide +kernel
theorem d_Tw_lesserFreePeg_22 : decode b_Tw_lesserFreePeg 22 = .ok (.iinc 3 1, 3) := by decide +kernel
theorem d_Tw_lesserFreePeg_25 : decode b_Tw_lesserFreePeg 25 = .ok (.goto (-21), 3) := by decide +kernel
theorem d_Tw_lesserFreePeg_28 : decode b_Tw_lesserFreePeg 28 = .ok (.iload_n 2, 1) := by decide +kernel
theorem d_Tw_lesserFreePeg_29 : decode b_Tw_lesserFreePeg 29 = .ok (.ireturn, 1) := by decide +kernel
theorem d_Tw_moves_0 : decode b_Tw_moves 0 = .ok (.aload_n 0, 1) := by decide +kernel
theorem d_Tw_moves_1 : decode b_Tw_moves 1 = .ok (.getfield 19, 3) := by decide +kernel
theorem d_Tw_moves_4 : decode b_Tw_moves 4 = .ok (.iconst 3, 1) := by decide +kernel
theorem d_Tw_moves_5 : decode b_Tw_moves 5 = .ok (.if_icmp .ne 13, 3) := by decide +kernel
theorem d_Tw_moves_8 : decode b_Tw_moves 8 = .ok (.aload_n 0, 1) := by decide +kernel
theorem d_Tw_moves_9 : decode b_Tw_moves 9 = .ok (.getfield 33, 3) := by decide +kernel
theorem d_Tw_moves_12 : decode b_Tw_moves 12 = .ok (.invokestatic 29, 3) := by decide +kernel
theorem d_Tw_moves_15 : decode b_Tw_moves 15 = .ok (.goto 12, 3) := by decide +kernel
theorem d_Tw_moves_18 : decode b_Tw_moves 18 = .ok (.aload_n 0, 1) := by decide +kernel
theorem d_Tw_moves_19 : decode b_Tw_moves 19 = .ok (.getfield 11, 3) := by decide +kernel
theorem d_Tw_moves_22 : decode b_Tw_moves 22 = .ok (.aload_n 0, 1) := by decide +kernel
theorem d_Tw_moves_23 : decode b_Tw_moves 23 = .ok (.getfield 33, 3) := by decide +kernel
theorem d_Tw_moves_26 : decode b_Tw_moves 26 = .ok (.laload, 1) := by decide +kernel
theorem d_Tw_moves_27 : decode b_Tw_moves 27 = .ok (.lreturn, 1) := by decide +kernel
theorem d_Tw_set_0 : decode b_Tw_set 0 = .ok (.iload_n 1, 1) := by decide +kernel
theorem d_Tw_set_1 : decode b_Tw_set 1 = .ok (.iconst 3, 1) := by decide +kernel
theorem d_Tw_set_2 : decode b_Tw_set 2 = .ok (.if_icmp .lt 18, 3) := by decide +kernel
theorem d_Tw_set_5 : decode b_Tw_set 5 = .ok (.iload_n 1, 1) := by decide +kernel
theorem d_Tw_set_6 : decode b_Tw_set 6 = .ok (.iconst 4, 1) := by decide +kernel
theorem d_Tw_set_7 : decode b_Tw_set 7 = .ok (.if_icmp .gt 13, 3) := by decide +kernel
theorem d_Tw_set_10 : decode b_Tw_set 10 = .ok (.iload_n 2, 1) := by decide +kernel
theorem d_Tw_set_11 : decode b_Tw_set 11 = .ok (.ifCond .lt 9, 3) := by decide +kernel
theorem d_Tw_set_14 : decode b_Tw_set 14 = .ok (.iload_n 2, 1) := by decide +kernel
theorem d_Tw_set_15 : decode b_Tw_set 15 = .ok (.bipush 40, 2) := by decide +kernel
theorem d_Tw_set_17 : decode b_Tw_set 17 = .ok (.if_icmp .le 5, 3) := by decide +kernel
theorem d_Tw_set_20 : decode b_Tw_set 20 = .ok (.iconst 0, 1) := by decide +kernel
theorem d_Tw_set_21 : decode b_Tw_set 21 = .ok (.ireturn, 1) := by decide +kernel
theorem d_Tw_set_22 : decode b_Tw_set 22 = .ok (.aload_n 0, 1) := by decide +kernel
theorem d_Tw_set_23 : decode b_Tw_set 23 = .ok (.iload_n 1, 1) := by decide +kernel
theorem d_Tw_set_24 : decode b_Tw_set 24 = .ok (.putfield 19, 3) := by decide +kernel
theorem d_Tw_set_27 : decode b_Tw_set 27 = .ok (.aload_n 0, 1) := by decide +kernel
theorem d_Tw_set_28 : decode b_Tw_set 28 = .ok (.iload_n 2, 1) := by decide +kernel
theorem d_Tw_set_29 : decode b_Tw_set 29 = .ok (.putfield 33, 3) := by decide +kernel
theorem d_Tw_set_32 : decode b_Tw_set 32 = .ok (.iconst 1, 1) := by decide +kernel
theorem d_Tw_set_33 : decode b_Tw_set 33 = .ok (.ireturn, 1) := by decide +kernel
theorem d_Tw_tellMove_0 : decode b_Tw_tellMove 0 = .ok (.lload_n 1, 1) := by decide +kernel
theorem d_Tw_tellMove_1 : decode b_Tw_tellMove 1 = .ok (.lconst 0, 1) := by decide +kernel
theorem d_Tw_tellMove_2 : decode b_Tw_tellMove 2 = .ok (.lcmp, 1) := by decide +kernel
theorem d_Tw_tellMove_3 : decode b_Tw_tellMove 3 = .ok (.ifCond .lt 21, 3) := by decide +kernel
theorem d_Tw_tellMove_6 : decode b_Tw_tellMove 6 = .ok (.lload_n 1, 1) := by decide +kernel
theorem d_Tw_tellMove_7 : decode b_Tw_tellMove 7 = .ok (.aload_n 0, 1) := by decide +kernel
theorem d_Tw_tellMove_8 : decode b_Tw_tellMove 8 = .ok (.invokevirtual 36, 3) := by decide +kernel
theorem d_Tw_tellMove_11 : decode b_Tw_tellMove 11 = .ok (.lcmp, 1) := by decide +kernel
theorem d_Tw_tellMove_12 : decode b_Tw_tellMove 12 = .ok (.ifCond .ge 12, 3) := by decide +kernel
theorem d_Tw_tellMove_15 : decode b_Tw_tellMove 15 = .ok (.iload_n 3, 1) := by decide +kernel
theorem d_Tw_tellMove_16 : decode b_Tw_tellMove 16 = .ok (.ifCond .lt 8, 3) := by decide +kernel
theorem d_Tw_tellMove_19 : decode b_Tw_tellMove 19 = .ok (.iload_n 3, 1) := by decide +kernel
theorem d_Tw_tellMove_20 : decode b_Tw_tellMove 20 = .ok (.iconst 2, 1) := by decide +kernel
theorem d_Tw_tellMove_21 : decode b_Tw_tellMove 21 = .ok (.if_icmp .le 5, 3) := by decide +kernel
theorem d_Tw_tellMove_24 : decode b_Tw_tellMove 24 = .ok (.iconst (-1), 1) := by decide +kernel
theorem d_Tw_tellMove_25 : decode b_Tw_tellMove 25 = .ok (.ireturn, 1) := by decide +kernel
theorem d_Tw_tellMove_26 : decode b_Tw_tellMove 26 = .ok (.aload_n 0, 1) := by decide +kernel
theorem d_Tw_tellMove_27 : decode b_Tw_tellMove 27 = .ok (.getfield 19, 3) := by decide +kernel
theorem d_Tw_tellMove_30 : decode b_Tw_tellMove 30 = .ok (.iconst 3, 1) := by decide +kernel
theorem d_Tw_tellMove_31 : decode b_Tw_tellMove 31 = .ok (.if_icmp .ne 19, 3) := by decide +kernel
theorem d_Tw_tellMove_34 : decode b_Tw_tellMove 34 = .ok (.lload_n 1, 1) := by decide +kernel
theorem d_Tw_tellMove_35 : decode b_Tw_tellMove 35 = .ok (.iload_n 3, 1) := by decide +kernel
theorem d_Tw_tellMove_36 : decode b_Tw_tellMove 36 = .ok (.iconst 0, 1) := by decide +kernel
theorem d_Tw_tellMove_37 : decode b_Tw_tellMove 37 = .ok (.aload_n 0, 1) := by decide +kernel
theorem d_Tw_tellMove_38 : decode b_Tw_tellMove 38 = .ok (.getfield 33, 3) := by decide +kernel
theorem d_Tw_tellMove_41 : decode b_Tw_tellMove 41 = .ok (.iconst 0, 1) := by decide +kernel
theorem d_Tw_tellMove_42 : decode b_Tw_tellMove 42 = .ok (.iconst 1, 1) := by decide +kernel
theorem d_Tw_tellMove_43 : decode b_Tw_tellMove 43 = .ok (.iconst 2, 1) := by decide +kernel
theorem d_Tw_tellMove_44 : decode b_Tw_tellMove 44 = .ok (.invokestatic 40, 3) := by decide +kernel
theorem d_Tw_tellMove_47 : decode b_Tw_tellMove 47 = .ok (.goto 9, 3) := by decide +kernel
theorem d_Tw_tellMove_50 : decode b_Tw_tellMove 50 = .ok (.aload_n 0, 1) := by decide +kernel
theorem d_Tw_tellMove_51 : decode b_Tw_tellMove 51 = .ok (.lload_n 1, 1) := by decide +kernel
theorem d_Tw_tellMove_52 : decode b_Tw_tellMove 52 = .ok (.iload_n 3, 1) := by decide +kernel
theorem d_Tw_tellMove_53 : decode b_Tw_tellMove 53 = .ok (.invokevirtual 44, 3) := by decide +kernel
theorem d_Tw_tellMove_56 : decode b_Tw_tellMove 56 = .ok (.ireturn, 1) := by decide +kernel
theorem d_Tw_tellOfFour_0 : decode b_Tw_tellOfFour 0 = .ok (.lload_n 1, 1) := by decide +kernel
theorem d_Tw_tellOfFour_1 : decode b_Tw_tellOfFour 1 = .ok (.lstore 4, 2) := by decide +kernel
theorem d_Tw_tellOfFour_3 : decode b_Tw_tellOfFour 3 = .ok (.aload_n 0, 1) := by decide +kernel
theorem d_Tw_tellOfFour_4 : decode b_Tw_tellOfFour 4 = .ok (.getfield 33, 3) := by decide +kernel
theorem d_Tw_tellOfFour_7 : decode b_Tw_tellOfFour 7 = .ok (.istore 6, 2) := by decide +kernel
theorem d_Tw_tellOfFour_9 : decode b_Tw_tellOfFour 9 = .ok (.iconst 0, 1) := by decide +kernel
theorem d_Tw_tellOfFour_10 : decode b_Tw_tellOfFour 10 = .ok (.istore 7, 2) := by decide +kernel
theorem d_Tw_tellOfFour_12 : decode b_Tw_tellOfFour 12 = .ok (.iconst 1, 1) := by decide +kernel
theorem d_Tw_tellOfFour_13 : decode b_Tw_tellOfFour 13 = .ok (.istore 8, 2) := by decide +kernel
theorem d_Tw_tellOfFour_15 : decode b_Tw_tellOfFour 15 = .ok (.iconst 0, 1) := by decide +kernel
theorem d_Tw_tellOfFour_16 : decode b_Tw_tellOfFour 16 = .ok (.istore 9, 2) := by decide +kernel
theorem d_Tw_tellOfFour_18 : decode b_Tw_tellOfFour 18 = .ok (.iload 9, 2) := by decide +kernel
theorem d_Tw_tellOfFour_20 : decode b_Tw_tellOfFour 20 = .ok (.bipush 40, 2) := by decide +kernel
theorem d_Tw_tellOfFour_22 : decode b_Tw_tellOfFour 22 = .ok (.if_icmp .ge 120, 3) := by decide +kernel
theorem d_Tw_tellOfFour_25 : decode b_Tw_tellOfFour 25 = .ok (.iload 6, 2) := by decide +kernel
theorem d_Tw_tellOfFour_27 : decode b_Tw_tellOfFour 27 = .ok (.ifCond .le 115, 3) := by decide +kernel
theorem d_Tw_tellOfFour_30 : decode b_Tw_tellOfFour 30 = .ok (.aload_n 0, 1) := by decide +kernel
theorem d_Tw_tellOfFour_31 : decode b_Tw_tellOfFour 31 = .ok (.getfield 15, 3) := by decide +kernel
theorem d_Tw_tellOfFour_34 : decode b_Tw_tellOfFour 34 = .ok (.iload 6, 2) := by decide +kernel
theorem d_Tw_tellOfFour_36 : decode b_Tw_tellOfFour 36 = .ok (.iaload, 1) := by decide +kernel
theorem d_Tw_tellOfFour_37 : decode b_Tw_tellOfFour 37 = .ok (.istore 10, 2) := by decide +kernel
theorem d_Tw_tellOfFour_39 : decode b_Tw_tellOfFour 39 = .ok (.iload 7, 2) := by decide +kernel
theorem d_Tw_tellOfFour_41 : decode b_Tw_tellOfFour 41 = .ok (.iload 8, 2) := by decide +kernel
theorem d_Tw_tellOfFour_43 : decode b_Tw_tellOfFour 43 = .ok (.invokestatic 48, 3) := by decide +kernel
theorem d_Tw_tellOfFour_46 : decode b_Tw_tellOfFour 46 = .ok (.istore 11, 2) := by decide +kernel
theorem d_Tw_tellOfFour_48 : decode b_Tw_tellOfFour 48 = .ok (.lload 4, 2) := by decide +kernel
theorem d_Tw_tellOfFour_50 : decode b_Tw_tellOfFour 50 = .ok (.aload_n 0, 1) := by decide +kernel
theorem d_Tw_tellOfFour_51 : decode b_Tw_tellOfFour 51 = .ok (.getfield 11, 3) := by decide +kernel
theorem d_Tw_tellOfFour_54 : decode b_Tw_tellOfFour 54 = .ok (.iload 10, 2) := by decide +kernel
theorem d_Tw_tellOfFour_56 : decode b_Tw_tellOfFour 56 = .ok (.laload, 1) := by decide +kernel
theorem d_Tw_tellOfFour_57 : decode b_Tw_tellOfFour 57 = .ok (.lsub, 1) := by decide +kernel
theorem d_Tw_tellOfFour_58 : decode b_Tw_tellOfFour 58 = .ok (.lstore 12, 2) := by decide +kernel
theorem d_Tw_tellOfFour_60 : decode b_Tw_tellOfFour 60 = .ok (.lload 12, 2) := by decide +kernel
theorem d_Tw_tellOfFour_62 : decode b_Tw_tellOfFour 62 = .ok (.iload 6, 2) := by decide +kernel
theorem d_Tw_tellOfFour_64 : decode b_Tw_tellOfFour 64 = .ok (.iload 10, 2) := by decide +kernel
theorem d_Tw_tellOfFour_66 : decode b_Tw_tellOfFour 66 = .ok (.isub, 1) := by decide +kernel
theorem d_Tw_tellOfFour_67 : decode b_Tw_tellOfFour 67 = .ok (.invokestatic 29, 3) := by decide +kernel
theorem d_Tw_tellOfFour_70 : decode b_Tw_tellOfFour 70 = .ok (.lsub, 1) := by decide +kernel
theorem d_Tw_tellOfFour_71 : decode b_Tw_tellOfFour 71 = .ok (.lstore 14, 2) := by decide +kernel
theorem d_Tw_tellOfFour_73 : decode b_Tw_tellOfFour 73 = .ok (.lload 12, 2) := by decide +kernel
theorem d_Tw_tellOfFour_75 : decode b_Tw_tellOfFour 75 = .ok (.lconst 0, 1) := by decide +kernel
theorem d_Tw_tellOfFour_76 : decode b_Tw_tellOfFour 76 = .ok (.lcmp, 1) := by decide +kernel
theorem d_Tw_tellOfFour_77 : decode b_Tw_tellOfFour 77 = .ok (.ifCond .ge 10, 3) := by decide +kernel
theorem d_Tw_tellOfFour_80 : decode b_Tw_tellOfFour 80 = .ok (.iload 11, 2) := by decide +kernel
theorem d_Tw_tellOfFour_82 : decode b_Tw_tellOfFour 82 = .ok (.istore 8, 2) := by decide +kernel
theorem d_Tw_tellOfFour_84 : decode b_Tw_tellOfFour 84 = .ok (.goto 48, 3) := by decide +kernel
theorem d_Tw_tellOfFour_87 : decode b_Tw_tellOfFour 87 = .ok (.lload 14, 2) := by decide +kernel
theorem d_Tw_tellOfFour_89 : decode b_Tw_tellOfFour 89 = .ok (.lconst 0, 1) := by decide +kernel
theorem d_Tw_tellOfFour_90 : decode b_Tw_tellOfFour 90 = .ok (.lcmp, 1) := by decide +kernel
theorem d_Tw_tellOfFour_91 : decode b_Tw_tellOfFour 91 = .ok (.ifCond .ge 33, 3) := by decide +kernel
theorem d_Tw_tellOfFour_94 : decode b_Tw_tellOfFour 94 = .ok (.bipush 6, 2) := by decide +kernel
theorem d_Tw_tellOfFour_96 : decode b_Tw_tellOfFour 96 = .ok (.iload 7, 2) := by decide +kernel
theorem d_Tw_tellOfFour_98 : decode b_Tw_tellOfFour 98 = .ok (.isub, 1) := by decide +kernel
theorem d_Tw_tellOfFour_99 : decode b_Tw_tellOfFour 99 = .ok (.iload 8, 2) := by decide +kernel
theorem d_Tw_tellOfFour_101 : decode b_Tw_tellOfFour 101 = .ok (.isub, 1) := by decide +kernel
theorem d_Tw_tellOfFour_102 : decode b_Tw_tellOfFour 102 = .ok (.iload 11, 2) := by decide +kernel
theorem d_Tw_tellOfFour_104 : decode b_Tw_tellOfFour 104 = .ok (.isub, 1) := by decide +kernel
theorem d_Tw_tellOfFour_105 : decode b_Tw_tellOfFour 105 = .ok (.istore 16, 2) := by decide +kernel
theorem d_Tw_tellOfFour_107 : decode b_Tw_tellOfFour 107 = .ok (.lload 12, 2) := by decide +kernel
theorem d_Tw_tellOfFour_109 : decode b_Tw_tellOfFour 109 = .ok (.iload_n 3, 1) := by decide +kernel
theorem d_Tw_tellOfFour_110 : decode b_Tw_tellOfFour 110 = .ok (.iload 10, 2) := by decide +kernel
theorem d_Tw_tellOfFour_112 : decode b_Tw_tellOfFour 112 = .ok (.iload 6, 2) := by decide +kernel
theorem d_Tw_tellOfFour_114 : decode b_Tw_tellOfFour 114 = .ok (.iload 7, 2) := by decide +kernel
theorem d_Tw_tellOfFour_116 : decode b_Tw_tellOfFour 116 = .ok (.iload 8, 2) := by decide +kernel
theorem d_Tw_tellOfFour_118 : decode b_Tw_tellOfFour 118 = .ok (.iload 16, 2) := by decide +kernel
theorem d_Tw_tellOfFour_120 : decode b_Tw_tellOfFour 120 = .ok (.invokestatic 40, 3) := by decide +kernel
theorem d_Tw_tellOfFour_123 : decode b_Tw_tellOfFour 123 = .ok (.ireturn, 1) := by decide +kernel
theorem d_Tw_tellOfFour_124 : decode b_Tw_tellOfFour 124 = .ok (.lload 14, 2) := by decide +kernel
theorem d_Tw_tellOfFour_126 : decode b_Tw_tellOfFour 126 = .ok (.lstore 4, 2) := by decide +kernel
theorem d_Tw_tellOfFour_128 : decode b_Tw_tellOfFour 128 = .ok (.iload 11, 2) := by decide +kernel
theorem d_Tw_tellOfFour_130 : decode b_Tw_tellOfFour 130 = .ok (.istore 7, 2) := by decide +kernel
theorem d_Tw_tellOfFour_132 : decode b_Tw_tellOfFour 132 = .ok (.iload 10, 2) := by decide +kernel
theorem d_Tw_tellOfFour_134 : decode b_Tw_tellOfFour 134 = .ok (.istore 6, 2) := by decide +kernel
theorem d_Tw_tellOfFour_136 : decode b_Tw_tellOfFour 136 = .ok (.iinc 9 1, 3) := by decide +kernel
theorem d_Tw_tellOfFour_139 : decode b_Tw_tellOfFour 139 = .ok (.goto (-121), 3) := by decide +kernel
theorem d_Tw_tellOfFour_142 : decode b_Tw_tellOfFour 142 = .ok (.iconst (-1), 1) := by decide +kernel
theorem d_Tw_tellOfFour_143 : decode b_Tw_tellOfFour 143 = .ok (.ireturn, 1) := by decide +kernel
theorem d_Tw_tellOfThree_0 : decode b_Tw_tellOfThree 0 = .ok (.lload_n 0, 1) := by decide +kernel
theorem d_Tw_tellOfThree_1 : decode b_Tw_tellOfThree 1 = .ok (.lstore 8, 2) := by decide +kernel
theorem d_Tw_tellOfThree_3 : decode b_Tw_tellOfThree 3 = .ok (.iload 5, 2) := by decide +kernel
theorem d_Tw_tellOfThree_5 : decode b_Tw_tellOfThree 5 = .ok (.istore 10, 2) := by decide +kernel
theorem d_Tw_tellOfThree_7 : decode b_Tw_tellOfThree 7 = .ok (.iload 6, 2) := by decide +kernel
theorem d_Tw_tellOfThree_9 : decode b_Tw_tellOfThree 9 = .ok (.istore 11, 2) := by decide +kernel
theorem d_Tw_tellOfThree_11 : decode b_Tw_tellOfThree 11 = .ok (.iload 7, 2) := by decide +kernel
theorem d_Tw_tellOfThree_13 : decode b_Tw_tellOfThree 13 = .ok (.istore 12, 2) := by decide +kernel
theorem d_Tw_tellOfThree_15 : decode b_Tw_tellOfThree 15 = .ok (.iload 4, 2) := by decide +kernel
theorem d_Tw_tellOfThree_17 : decode b_Tw_tellOfThree 17 = .ok (.iconst 1, 1) := by decide +kernel
theorem d_Tw_tellOfThree_18 : decode b_Tw_tellOfThree 18 = .ok (.isub, 1) := by decide +kernel
theorem d_Tw_tellOfThree_19 : decode b_Tw_tellOfThree 19 = .ok (.istore 13, 2) := by decide +kernel
theorem d_Tw_tellOfThree_21 : decode b_Tw_tellOfThree 21 = .ok (.iload 13, 2) := by decide +kernel
theorem d_Tw_tellOfThree_23 : decode b_Tw_tellOfThree 23 = .ok (.iload_n 3, 1) := by decide +kernel
theorem d_Tw_tellOfThree_24 : decode b_Tw_tellOfThree 24 = .ok (.if_icmp .lt 88, 3) := by decide +kernel
theorem d_Tw_tellOfThree_27 : decode b_Tw_tellOfThree 27 = .ok (.iload 13, 2) := by decide +kernel
theorem d_Tw_tellOfThree_29 : decode b_Tw_tellOfThree 29 = .ok (.iload_n 3, 1) := by decide +kernel
theorem d_Tw_tellOfThree_30 : decode b_Tw_tellOfThree 30 = .ok (.isub, 1) := by decide +kernel
theorem d_Tw_tellOfThree_31 : decode b_Tw_tellOfThree 31 = .ok (.invokestatic 29, 3) := by decide +kernel
theorem d_Tw_tellOfThree_34 : decode b_Tw_tellOfThree 34 = .ok (.lstore 14, 2) := by decide +kernel
theorem d_Tw_tellOfThree_36 : decode b_Tw_tellOfThree 36 = .ok (.lload 8, 2) := by decide +kernel
theorem d_Tw_tellOfThree_38 : decode b_Tw_tellOfThree 38 = .ok (.lload 14, 2) := by decide +kernel
theorem d_Tw_tellOfThree_40 : decode b_Tw_tellOfThree 40 = .ok (.lcmp, 1) := by decide +kernel
