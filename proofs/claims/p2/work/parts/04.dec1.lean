theorem d_Js_meetNext_32 : decode b_Js_meetNext 32 = .ok (.invokestatic 39, 3) := by decide +kernel
theorem d_Js_meetNext_35 : decode b_Js_meetNext 35 = .ok (.invokevirtual 43, 3) := by decide +kernel
theorem d_Js_meetNext_38 : decode b_Js_meetNext 38 = .ok (.iinc 3 1, 3) := by decide +kernel
theorem d_Js_meetNext_41 : decode b_Js_meetNext 41 = .ok (.goto (-34), 3) := by decide +kernel
theorem d_Js_meetNext_44 : decode b_Js_meetNext 44 = .ok (.iconst 0, 1) := by decide +kernel
theorem d_Js_meetNext_45 : decode b_Js_meetNext 45 = .ok (.istore_n 3, 1) := by decide +kernel
theorem d_Js_meetNext_46 : decode b_Js_meetNext 46 = .ok (.iload_n 3, 1) := by decide +kernel
theorem d_Js_meetNext_47 : decode b_Js_meetNext 47 = .ok (.aload_n 0, 1) := by decide +kernel
theorem d_Js_meetNext_48 : decode b_Js_meetNext 48 = .ok (.getfield 24, 3) := by decide +kernel
theorem d_Js_meetNext_51 : decode b_Js_meetNext 51 = .ok (.if_icmp .ge 96, 3) := by decide +kernel
theorem d_Js_meetNext_54 : decode b_Js_meetNext 54 = .ok (.aload_n 2, 1) := by decide +kernel
theorem d_Js_meetNext_55 : decode b_Js_meetNext 55 = .ok (.iload_n 1, 1) := by decide +kernel
theorem d_Js_meetNext_56 : decode b_Js_meetNext 56 = .ok (.aload_n 0, 1) := by decide +kernel
theorem d_Js_meetNext_57 : decode b_Js_meetNext 57 = .ok (.getfield 21, 3) := by decide +kernel
theorem d_Js_meetNext_60 : decode b_Js_meetNext 60 = .ok (.iload_n 3, 1) := by decide +kernel
theorem d_Js_meetNext_61 : decode b_Js_meetNext 61 = .ok (.iaload, 1) := by decide +kernel
theorem d_Js_meetNext_62 : decode b_Js_meetNext 62 = .ok (.getstatic 28, 3) := by decide +kernel
theorem d_Js_meetNext_65 : decode b_Js_meetNext 65 = .ok (.iload_n 3, 1) := by decide +kernel
theorem d_Js_meetNext_66 : decode b_Js_meetNext 66 = .ok (.iaload, 1) := by decide +kernel
theorem d_Js_meetNext_67 : decode b_Js_meetNext 67 = .ok (.imul, 1) := by decide +kernel
theorem d_Js_meetNext_68 : decode b_Js_meetNext 68 = .ok (.isub, 1) := by decide +kernel
theorem d_Js_meetNext_69 : decode b_Js_meetNext 69 = .ok (.iload_n 1, 1) := by decide +kernel
theorem d_Js_meetNext_70 : decode b_Js_meetNext 70 = .ok (.iload_n 3, 1) := by decide +kernel
theorem d_Js_meetNext_71 : decode b_Js_meetNext 71 = .ok (.iconst (-1), 1) := by decide +kernel
theorem d_Js_meetNext_72 : decode b_Js_meetNext 72 = .ok (.invokestatic 39, 3) := by decide +kernel
theorem d_Js_meetNext_75 : decode b_Js_meetNext 75 = .ok (.invokevirtual 43, 3) := by decide +kernel
theorem d_Js_meetNext_78 : decode b_Js_meetNext 78 = .ok (.iconst 0, 1) := by decide +kernel
theorem d_Js_meetNext_79 : decode b_Js_meetNext 79 = .ok (.istore 4, 2) := by decide +kernel
theorem d_Js_meetNext_81 : decode b_Js_meetNext 81 = .ok (.iload 4, 2) := by decide +kernel
theorem d_Js_meetNext_83 : decode b_Js_meetNext 83 = .ok (.aload_n 0, 1) := by decide +kernel
theorem d_Js_meetNext_84 : decode b_Js_meetNext 84 = .ok (.getfield 24, 3) := by decide +kernel
theorem d_Js_meetNext_87 : decode b_Js_meetNext 87 = .ok (.if_icmp .ge 54, 3) := by decide +kernel
theorem d_Js_meetNext_90 : decode b_Js_meetNext 90 = .ok (.aload_n 0, 1) := by decide +kernel
theorem d_Js_meetNext_91 : decode b_Js_meetNext 91 = .ok (.getfield 21, 3) := by decide +kernel
theorem d_Js_meetNext_94 : decode b_Js_meetNext 94 = .ok (.iload_n 3, 1) := by decide +kernel
theorem d_Js_meetNext_95 : decode b_Js_meetNext 95 = .ok (.iaload, 1) := by decide +kernel
theorem d_Js_meetNext_96 : decode b_Js_meetNext 96 = .ok (.aload_n 0, 1) := by decide +kernel
theorem d_Js_meetNext_97 : decode b_Js_meetNext 97 = .ok (.iload 4, 2) := by decide +kernel
theorem d_Js_meetNext_99 : decode b_Js_meetNext 99 = .ok (.invokevirtual 35, 3) := by decide +kernel
theorem d_Js_meetNext_102 : decode b_Js_meetNext 102 = .ok (.invokestatic 49, 3) := by decide +kernel
theorem d_Js_meetNext_105 : decode b_Js_meetNext 105 = .ok (.istore 5, 2) := by decide +kernel
theorem d_Js_meetNext_107 : decode b_Js_meetNext 107 = .ok (.aload_n 2, 1) := by decide +kernel
theorem d_Js_meetNext_108 : decode b_Js_meetNext 108 = .ok (.iload_n 1, 1) := by decide +kernel
theorem d_Js_meetNext_109 : decode b_Js_meetNext 109 = .ok (.iload 5, 2) := by decide +kernel
theorem d_Js_meetNext_111 : decode b_Js_meetNext 111 = .ok (.getstatic 28, 3) := by decide +kernel
theorem d_Js_meetNext_114 : decode b_Js_meetNext 114 = .ok (.iload 4, 2) := by decide +kernel
theorem d_Js_meetNext_116 : decode b_Js_meetNext 116 = .ok (.iaload, 1) := by decide +kernel
theorem d_Js_meetNext_117 : decode b_Js_meetNext 117 = .ok (.getstatic 28, 3) := by decide +kernel
theorem d_Js_meetNext_120 : decode b_Js_meetNext 120 = .ok (.iload_n 3, 1) := by decide +kernel
theorem d_Js_meetNext_121 : decode b_Js_meetNext 121 = .ok (.iaload, 1) := by decide +kernel
theorem d_Js_meetNext_122 : decode b_Js_meetNext 122 = .ok (.isub, 1) := by decide +kernel
theorem d_Js_meetNext_123 : decode b_Js_meetNext 123 = .ok (.imul, 1) := by decide +kernel
theorem d_Js_meetNext_124 : decode b_Js_meetNext 124 = .ok (.iadd, 1) := by decide +kernel
theorem d_Js_meetNext_125 : decode b_Js_meetNext 125 = .ok (.iload_n 1, 1) := by decide +kernel
theorem d_Js_meetNext_126 : decode b_Js_meetNext 126 = .ok (.iload_n 3, 1) := by decide +kernel
theorem d_Js_meetNext_127 : decode b_Js_meetNext 127 = .ok (.iload 4, 2) := by decide +kernel
theorem d_Js_meetNext_129 : decode b_Js_meetNext 129 = .ok (.invokestatic 39, 3) := by decide +kernel
theorem d_Js_meetNext_132 : decode b_Js_meetNext 132 = .ok (.invokevirtual 43, 3) := by decide +kernel
theorem d_Js_meetNext_135 : decode b_Js_meetNext 135 = .ok (.iinc 4 1, 3) := by decide +kernel
theorem d_Js_meetNext_138 : decode b_Js_meetNext 138 = .ok (.goto (-57), 3) := by decide +kernel
theorem d_Js_meetNext_141 : decode b_Js_meetNext 141 = .ok (.iinc 3 1, 3) := by decide +kernel
theorem d_Js_meetNext_144 : decode b_Js_meetNext 144 = .ok (.goto (-98), 3) := by decide +kernel
theorem d_Js_meetNext_147 : decode b_Js_meetNext 147 = .ok (.return_, 1) := by decide +kernel
theorem d_Js_readLevels_0 : decode b_Js_readLevels 0 = .ok (.iload_n 1, 1) := by decide +kernel
theorem d_Js_readLevels_1 : decode b_Js_readLevels 1 = .ok (.istore_n 2, 1) := by decide +kernel
theorem d_Js_readLevels_2 : decode b_Js_readLevels 2 = .ok (.iconst 0, 1) := by decide +kernel
theorem d_Js_readLevels_3 : decode b_Js_readLevels 3 = .ok (.istore_n 3, 1) := by decide +kernel
theorem d_Js_readLevels_4 : decode b_Js_readLevels 4 = .ok (.iload_n 3, 1) := by decide +kernel
theorem d_Js_readLevels_5 : decode b_Js_readLevels 5 = .ok (.aload_n 0, 1) := by decide +kernel
theorem d_Js_readLevels_6 : decode b_Js_readLevels 6 = .ok (.getfield 24, 3) := by decide +kernel
theorem d_Js_readLevels_9 : decode b_Js_readLevels 9 = .ok (.if_icmp .ge 24, 3) := by decide +kernel
theorem d_Js_readLevels_12 : decode b_Js_readLevels 12 = .ok (.aload_n 0, 1) := by decide +kernel
theorem d_Js_readLevels_13 : decode b_Js_readLevels 13 = .ok (.getfield 21, 3) := by decide +kernel
theorem d_Js_readLevels_16 : decode b_Js_readLevels 16 = .ok (.iload_n 3, 1) := by decide +kernel
theorem d_Js_readLevels_17 : decode b_Js_readLevels 17 = .ok (.iload_n 2, 1) := by decide +kernel
theorem d_Js_readLevels_18 : decode b_Js_readLevels 18 = .ok (.bipush 10, 2) := by decide +kernel
theorem d_Js_readLevels_20 : decode b_Js_readLevels 20 = .ok (.irem, 1) := by decide +kernel
theorem d_Js_readLevels_21 : decode b_Js_readLevels 21 = .ok (.iastore, 1) := by decide +kernel
theorem d_Js_readLevels_22 : decode b_Js_readLevels 22 = .ok (.iload_n 2, 1) := by decide +kernel
theorem d_Js_readLevels_23 : decode b_Js_readLevels 23 = .ok (.bipush 10, 2) := by decide +kernel
theorem d_Js_readLevels_25 : decode b_Js_readLevels 25 = .ok (.idiv, 1) := by decide +kernel
theorem d_Js_readLevels_26 : decode b_Js_readLevels 26 = .ok (.istore_n 2, 1) := by decide +kernel
theorem d_Js_readLevels_27 : decode b_Js_readLevels 27 = .ok (.iinc 3 1, 3) := by decide +kernel
theorem d_Js_readLevels_30 : decode b_Js_readLevels 30 = .ok (.goto (-26), 3) := by decide +kernel
theorem d_Js_readLevels_33 : decode b_Js_readLevels 33 = .ok (.return_, 1) := by decide +kernel
theorem d_Js_roomIn_0 : decode b_Js_roomIn 0 = .ok (.iload_n 1, 1) := by decide +kernel
theorem d_Js_roomIn_1 : decode b_Js_roomIn 1 = .ok (.ifCond .lt 11, 3) := by decide +kernel
theorem d_Js_roomIn_4 : decode b_Js_roomIn 4 = .ok (.iload_n 1, 1) := by decide +kernel
theorem d_Js_roomIn_5 : decode b_Js_roomIn 5 = .ok (.aload_n 0, 1) := by decide +kernel
theorem d_Js_roomIn_6 : decode b_Js_roomIn 6 = .ok (.getfield 24, 3) := by decide +kernel
theorem d_Js_roomIn_9 : decode b_Js_roomIn 9 = .ok (.if_icmp .lt 7, 3) := by decide +kernel
theorem d_Js_roomIn_12 : decode b_Js_roomIn 12 = .ok (.iconst 0, 1) := by decide +kernel
theorem d_Js_roomIn_13 : decode b_Js_roomIn 13 = .ok (.goto 16, 3) := by decide +kernel
theorem d_Js_roomIn_16 : decode b_Js_roomIn 16 = .ok (.aload_n 0, 1) := by decide +kernel
theorem d_Js_roomIn_17 : decode b_Js_roomIn 17 = .ok (.getfield 11, 3) := by decide +kernel
theorem d_Js_roomIn_20 : decode b_Js_roomIn 20 = .ok (.iload_n 1, 1) := by decide +kernel
theorem d_Js_roomIn_21 : decode b_Js_roomIn 21 = .ok (.iaload, 1) := by decide +kernel
theorem d_Js_roomIn_22 : decode b_Js_roomIn 22 = .ok (.aload_n 0, 1) := by decide +kernel
theorem d_Js_roomIn_23 : decode b_Js_roomIn 23 = .ok (.getfield 21, 3) := by decide +kernel
theorem d_Js_roomIn_26 : decode b_Js_roomIn 26 = .ok (.iload_n 1, 1) := by decide +kernel
theorem d_Js_roomIn_27 : decode b_Js_roomIn 27 = .ok (.iaload, 1) := by decide +kernel
theorem d_Js_roomIn_28 : decode b_Js_roomIn 28 = .ok (.isub, 1) := by decide +kernel
theorem d_Js_roomIn_29 : decode b_Js_roomIn 29 = .ok (.ireturn, 1) := by decide +kernel
theorem d_Js_secondTold_0 : decode b_Js_secondTold 0 = .ok (.iload_n 1, 1) := by decide +kernel
theorem d_Js_secondTold_1 : decode b_Js_secondTold 1 = .ok (.bipush 7, 2) := by decide +kernel
theorem d_Js_secondTold_3 : decode b_Js_secondTold 3 = .ok (.iand, 1) := by decide +kernel
theorem d_Js_secondTold_4 : decode b_Js_secondTold 4 = .ok (.iconst 1, 1) := by decide +kernel
theorem d_Js_secondTold_5 : decode b_Js_secondTold 5 = .ok (.isub, 1) := by decide +kernel
theorem d_Js_secondTold_6 : decode b_Js_secondTold 6 = .ok (.ireturn, 1) := by decide +kernel
theorem d_Js_startState_0 : decode b_Js_startState 0 = .ok (.iconst 0, 1) := by decide +kernel
theorem d_Js_startState_1 : decode b_Js_startState 1 = .ok (.istore_n 1, 1) := by decide +kernel
theorem d_Js_startState_2 : decode b_Js_startState 2 = .ok (.iconst 0, 1) := by decide +kernel
theorem d_Js_startState_3 : decode b_Js_startState 3 = .ok (.istore_n 2, 1) := by decide +kernel
theorem d_Js_startState_4 : decode b_Js_startState 4 = .ok (.iload_n 2, 1) := by decide +kernel
theorem d_Js_startState_5 : decode b_Js_startState 5 = .ok (.aload_n 0, 1) := by decide +kernel
theorem d_Js_startState_6 : decode b_Js_startState 6 = .ok (.getfield 24, 3) := by decide +kernel
theorem d_Js_startState_9 : decode b_Js_startState 9 = .ok (.if_icmp .ge 24, 3) := by decide +kernel
theorem d_Js_startState_12 : decode b_Js_startState 12 = .ok (.iload_n 1, 1) := by decide +kernel
theorem d_Js_startState_13 : decode b_Js_startState 13 = .ok (.aload_n 0, 1) := by decide +kernel
theorem d_Js_startState_14 : decode b_Js_startState 14 = .ok (.getfield 15, 3) := by decide +kernel
theorem d_Js_startState_17 : decode b_Js_startState 17 = .ok (.iload_n 2, 1) := by decide +kernel
theorem d_Js_startState_18 : decode b_Js_startState 18 = .ok (.iaload, 1) := by decide +kernel
theorem d_Js_startState_19 : decode b_Js_startState 19 = .ok (.getstatic 28, 3) := by decide +kernel
theorem d_Js_startState_22 : decode b_Js_startState 22 = .ok (.iload_n 2, 1) := by decide +kernel
theorem d_Js_startState_23 : decode b_Js_startState 23 = .ok (.iaload, 1) := by decide +kernel
theorem d_Js_startState_24 : decode b_Js_startState 24 = .ok (.imul, 1) := by decide +kernel
theorem d_Js_startState_25 : decode b_Js_startState 25 = .ok (.iadd, 1) := by decide +kernel
theorem d_Js_startState_26 : decode b_Js_startState 26 = .ok (.istore_n 1, 1) := by decide +kernel
theorem d_Js_startState_27 : decode b_Js_startState 27 = .ok (.iinc 2 1, 3) := by decide +kernel
theorem d_Js_startState_30 : decode b_Js_startState 30 = .ok (.goto (-26), 3) := by decide +kernel
theorem d_Js_startState_33 : decode b_Js_startState 33 = .ok (.iload_n 1, 1) := by decide +kernel
theorem d_Js_startState_34 : decode b_Js_startState 34 = .ok (.ireturn, 1) := by decide +kernel
theorem d_Js_stateCount_0 : decode b_Js_stateCount 0 = .ok (.iconst 1, 1) := by decide +kernel
theorem d_Js_stateCount_1 : decode b_Js_stateCount 1 = .ok (.istore_n 1, 1) := by decide +kernel
theorem d_Js_stateCount_2 : decode b_Js_stateCount 2 = .ok (.iconst 0, 1) := by decide +kernel
theorem d_Js_stateCount_3 : decode b_Js_stateCount 3 = .ok (.istore_n 2, 1) := by decide +kernel
theorem d_Js_stateCount_4 : decode b_Js_stateCount 4 = .ok (.iload_n 2, 1) := by decide +kernel
theorem d_Js_stateCount_5 : decode b_Js_stateCount 5 = .ok (.aload_n 0, 1) := by decide +kernel
theorem d_Js_stateCount_6 : decode b_Js_stateCount 6 = .ok (.getfield 24, 3) := by decide +kernel
theorem d_Js_stateCount_9 : decode b_Js_stateCount 9 = .ok (.if_icmp .ge 14, 3) := by decide +kernel
theorem d_Js_stateCount_12 : decode b_Js_stateCount 12 = .ok (.iload_n 1, 1) := by decide +kernel
theorem d_Js_stateCount_13 : decode b_Js_stateCount 13 = .ok (.bipush 10, 2) := by decide +kernel
theorem d_Js_stateCount_15 : decode b_Js_stateCount 15 = .ok (.imul, 1) := by decide +kernel
theorem d_Js_stateCount_16 : decode b_Js_stateCount 16 = .ok (.istore_n 1, 1) := by decide +kernel
theorem d_Js_stateCount_17 : decode b_Js_stateCount 17 = .ok (.iinc 2 1, 3) := by decide +kernel
theorem d_Js_stateCount_20 : decode b_Js_stateCount 20 = .ok (.goto (-16), 3) := by decide +kernel
theorem d_Js_stateCount_23 : decode b_Js_stateCount 23 = .ok (.iload_n 1, 1) := by decide +kernel
theorem d_Js_stateCount_24 : decode b_Js_stateCount 24 = .ok (.ireturn, 1) := by decide +kernel
theorem d_Js_want_0 : decode b_Js_want 0 = .ok (.iload_n 1, 1) := by decide +kernel
theorem d_Js_want_1 : decode b_Js_want 1 = .ok (.ifCond .lt 26, 3) := by decide +kernel
theorem d_Js_want_4 : decode b_Js_want 4 = .ok (.iload_n 1, 1) := by decide +kernel
theorem d_Js_want_5 : decode b_Js_want 5 = .ok (.aload_n 0, 1) := by decide +kernel
theorem d_Js_want_6 : decode b_Js_want 6 = .ok (.getfield 24, 3) := by decide +kernel
theorem d_Js_want_9 : decode b_Js_want 9 = .ok (.if_icmp .ge 18, 3) := by decide +kernel
theorem d_Js_want_12 : decode b_Js_want 12 = .ok (.iload_n 2, 1) := by decide +kernel
theorem d_Js_want_13 : decode b_Js_want 13 = .ok (.iconst (-1), 1) := by decide +kernel
theorem d_Js_want_14 : decode b_Js_want 14 = .ok (.if_icmp .lt 13, 3) := by decide +kernel
theorem d_Js_want_17 : decode b_Js_want 17 = .ok (.iload_n 2, 1) := by decide +kernel
theorem d_Js_want_18 : decode b_Js_want 18 = .ok (.aload_n 0, 1) := by decide +kernel
theorem d_Js_want_19 : decode b_Js_want 19 = .ok (.getfield 11, 3) := by decide +kernel
theorem d_Js_want_22 : decode b_Js_want 22 = .ok (.iload_n 1, 1) := by decide +kernel
theorem d_Js_want_23 : decode b_Js_want 23 = .ok (.iaload, 1) := by decide +kernel
theorem d_Js_want_24 : decode b_Js_want 24 = .ok (.if_icmp .le 5, 3) := by decide +kernel
theorem d_Js_want_27 : decode b_Js_want 27 = .ok (.iconst 0, 1) := by decide +kernel
theorem d_Js_want_28 : decode b_Js_want 28 = .ok (.ireturn, 1) := by decide +kernel
theorem d_Js_want_29 : decode b_Js_want 29 = .ok (.aload_n 0, 1) := by decide +kernel
theorem d_Js_want_30 : decode b_Js_want 30 = .ok (.getfield 18, 3) := by decide +kernel
theorem d_Js_want_33 : decode b_Js_want 33 = .ok (.iload_n 1, 1) := by decide +kernel
theorem d_Js_want_34 : decode b_Js_want 34 = .ok (.iload_n 2, 1) := by decide +kernel
theorem d_Js_want_35 : decode b_Js_want 35 = .ok (.iastore, 1) := by decide +kernel
theorem d_Js_want_36 : decode b_Js_want 36 = .ok (.iconst 1, 1) := by decide +kernel
theorem d_Js_want_37 : decode b_Js_want 37 = .ok (.ireturn, 1) := by decide +kernel
theorem d_Pz_init_0 : decode b_Pz_init 0 = .ok (.aload_n 0, 1) := by decide +kernel
theorem d_Pz_init_1 : decode b_Pz_init 1 = .ok (.invokespecial 1, 3) := by decide +kernel
theorem d_Pz_init_4 : decode b_Pz_init 4 = .ok (.return_, 1) := by decide +kernel
theorem d_Rv_init_0 : decode b_Rv_init 0 = .ok (.aload_n 0, 1) := by decide +kernel
theorem d_Rv_init_1 : decode b_Rv_init 1 = .ok (.invokespecial 3, 3) := by decide +kernel
theorem d_Rv_init_4 : decode b_Rv_init 4 = .ok (.aload_n 0, 1) := by decide +kernel
theorem d_Rv_init_5 : decode b_Rv_init 5 = .ok (.bipush 8, 2) := by decide +kernel
theorem d_Rv_init_7 : decode b_Rv_init 7 = .ok (.newarray .int, 2) := by decide +kernel
theorem d_Rv_init_9 : decode b_Rv_init 9 = .ok (.putfield 11, 3) := by decide +kernel
theorem d_Rv_init_12 : decode b_Rv_init 12 = .ok (.aload_n 0, 1) := by decide +kernel
theorem d_Rv_init_13 : decode b_Rv_init 13 = .ok (.bipush 8, 2) := by decide +kernel
theorem d_Rv_init_15 : decode b_Rv_init 15 = .ok (.newarray .int, 2) := by decide +kernel
theorem d_Rv_init_17 : decode b_Rv_init 17 = .ok (.putfield 15, 3) := by decide +kernel
theorem d_Rv_init_20 : decode b_Rv_init 20 = .ok (.return_, 1) := by decide +kernel
theorem d_Rv_addThing_0 : decode b_Rv_addThing 0 = .ok (.iload_n 1, 1) := by decide +kernel
theorem d_Rv_addThing_1 : decode b_Rv_addThing 1 = .ok (.bipush 97, 2) := by decide +kernel
theorem d_Rv_addThing_3 : decode b_Rv_addThing 3 = .ok (.isub, 1) := by decide +kernel
theorem d_Rv_addThing_4 : decode b_Rv_addThing 4 = .ok (.istore_n 2, 1) := by decide +kernel
theorem d_Rv_addThing_5 : decode b_Rv_addThing 5 = .ok (.iload_n 2, 1) := by decide +kernel
theorem d_Rv_addThing_6 : decode b_Rv_addThing 6 = .ok (.ifCond .lt 19, 3) := by decide +kernel
theorem d_Rv_addThing_9 : decode b_Rv_addThing 9 = .ok (.iload_n 2, 1) := by decide +kernel
theorem d_Rv_addThing_10 : decode b_Rv_addThing 10 = .ok (.bipush 8, 2) := by decide +kernel
theorem d_Rv_addThing_12 : decode b_Rv_addThing 12 = .ok (.if_icmp .ge 13, 3) := by decide +kernel
theorem d_Rv_addThing_15 : decode b_Rv_addThing 15 = .ok (.aload_n 0, 1) := by decide +kernel
theorem d_Rv_addThing_16 : decode b_Rv_addThing 16 = .ok (.getfield 11, 3) := by decide +kernel
theorem d_Rv_addThing_19 : decode b_Rv_addThing 19 = .ok (.iload_n 2, 1) := by decide +kernel
theorem d_Rv_addThing_20 : decode b_Rv_addThing 20 = .ok (.iaload, 1) := by decide +kernel
theorem d_Rv_addThing_21 : decode b_Rv_addThing 21 = .ok (.iconst (-1), 1) := by decide +kernel
theorem d_Rv_addThing_22 : decode b_Rv_addThing 22 = .ok (.if_icmp .eq 5, 3) := by decide +kernel
theorem d_Rv_addThing_25 : decode b_Rv_addThing 25 = .ok (.iconst 0, 1) := by decide +kernel
theorem d_Rv_addThing_26 : decode b_Rv_addThing 26 = .ok (.ireturn, 1) := by decide +kernel
theorem d_Rv_addThing_27 : decode b_Rv_addThing 27 = .ok (.aload_n 0, 1) := by decide +kernel
theorem d_Rv_addThing_28 : decode b_Rv_addThing 28 = .ok (.getfield 11, 3) := by decide +kernel
theorem d_Rv_addThing_31 : decode b_Rv_addThing 31 = .ok (.iload_n 2, 1) := by decide +kernel
theorem d_Rv_addThing_32 : decode b_Rv_addThing 32 = .ok (.aload_n 0, 1) := by decide +kernel
theorem d_Rv_addThing_33 : decode b_Rv_addThing 33 = .ok (.getfield 24, 3) := by decide +kernel
theorem d_Rv_addThing_36 : decode b_Rv_addThing 36 = .ok (.iastore, 1) := by decide +kernel
theorem d_Rv_addThing_37 : decode b_Rv_addThing 37 = .ok (.aload_n 0, 1) := by decide +kernel
theorem d_Rv_addThing_38 : decode b_Rv_addThing 38 = .ok (.dup, 1) := by decide +kernel
theorem d_Rv_addThing_39 : decode b_Rv_addThing 39 = .ok (.getfield 24, 3) := by decide +kernel
theorem d_Rv_addThing_42 : decode b_Rv_addThing 42 = .ok (.iconst 1, 1) := by decide +kernel
theorem d_Rv_addThing_43 : decode b_Rv_addThing 43 = .ok (.iadd, 1) := by decide +kernel
theorem d_Rv_addThing_44 : decode b_Rv_addThing 44 = .ok (.putfield 24, 3) := by decide +kernel
theorem d_Rv_addThing_47 : decode b_Rv_addThing 47 = .ok (.iconst 1, 1) := by decide +kernel
theorem d_Rv_addThing_48 : decode b_Rv_addThing 48 = .ok (.ireturn, 1) := by decide +kernel
theorem d_Rv_allThings_0 : decode b_Rv_allThings 0 = .ok (.iconst 1, 1) := by decide +kernel
theorem d_Rv_allThings_1 : decode b_Rv_allThings 1 = .ok (.aload_n 0, 1) := by decide +kernel
theorem d_Rv_allThings_2 : decode b_Rv_allThings 2 = .ok (.getfield 24, 3) := by decide +kernel
theorem d_Rv_allThings_5 : decode b_Rv_allThings 5 = .ok (.ishl, 1) := by decide +kernel
theorem d_Rv_allThings_6 : decode b_Rv_allThings 6 = .ok (.iconst 1, 1) := by decide +kernel
theorem d_Rv_allThings_7 : decode b_Rv_allThings 7 = .ok (.isub, 1) := by decide +kernel
theorem d_Rv_allThings_8 : decode b_Rv_allThings 8 = .ok (.ireturn, 1) := by decide +kernel
theorem d_Rv_clear_0 : decode b_Rv_clear 0 = .ok (.aload_n 0, 1) := by decide +kernel
theorem d_Rv_clear_1 : decode b_Rv_clear 1 = .ok (.getfield 11, 3) := by decide +kernel
theorem d_Rv_clear_4 : decode b_Rv_clear 4 = .ok (.iconst (-1), 1) := by decide +kernel
theorem d_Rv_clear_5 : decode b_Rv_clear 5 = .ok (.invokestatic 18, 3) := by decide +kernel
theorem d_Rv_clear_8 : decode b_Rv_clear 8 = .ok (.aload_n 0, 1) := by decide +kernel
theorem d_Rv_clear_9 : decode b_Rv_clear 9 = .ok (.getfield 15, 3) := by decide +kernel
theorem d_Rv_clear_12 : decode b_Rv_clear 12 = .ok (.iconst 0, 1) := by decide +kernel
theorem d_Rv_clear_13 : decode b_Rv_clear 13 = .ok (.invokestatic 18, 3) := by decide +kernel
theorem d_Rv_clear_16 : decode b_Rv_clear 16 = .ok (.aload_n 0, 1) := by decide +kernel
theorem d_Rv_clear_17 : decode b_Rv_clear 17 = .ok (.iconst 0, 1) := by decide +kernel
theorem d_Rv_clear_18 : decode b_Rv_clear 18 = .ok (.putfield 24, 3) := by decide +kernel
theorem d_Rv_clear_21 : decode b_Rv_clear 21 = .ok (.aload_n 0, 1) := by decide +kernel
theorem d_Rv_clear_22 : decode b_Rv_clear 22 = .ok (.iconst 0, 1) := by decide +kernel
theorem d_Rv_clear_23 : decode b_Rv_clear 23 = .ok (.putfield 28, 3) := by decide +kernel
theorem d_Rv_clear_26 : decode b_Rv_clear 26 = .ok (.return_, 1) := by decide +kernel
theorem d_Rv_firstTold_0 : decode b_Rv_firstTold 0 = .ok (.iload_n 1, 1) := by decide +kernel
theorem d_Rv_firstTold_1 : decode b_Rv_firstTold 1 = .ok (.ireturn, 1) := by decide +kernel
theorem d_Rv_isDone_0 : decode b_Rv_isDone 0 = .ok (.iload_n 1, 1) := by decide +kernel
theorem d_Rv_isDone_1 : decode b_Rv_isDone 1 = .ok (.sipush 255, 3) := by decide +kernel
theorem d_Rv_isDone_4 : decode b_Rv_isDone 4 = .ok (.iand, 1) := by decide +kernel
theorem d_Rv_isDone_5 : decode b_Rv_isDone 5 = .ok (.aload_n 0, 1) := by decide +kernel
theorem d_Rv_isDone_6 : decode b_Rv_isDone 6 = .ok (.invokevirtual 31, 3) := by decide +kernel
theorem d_Rv_isDone_9 : decode b_Rv_isDone 9 = .ok (.if_icmp .ne 7, 3) := by decide +kernel
theorem d_Rv_isDone_12 : decode b_Rv_isDone 12 = .ok (.iconst 1, 1) := by decide +kernel
theorem d_Rv_isDone_13 : decode b_Rv_isDone 13 = .ok (.goto 4, 3) := by decide +kernel
theorem d_Rv_isDone_16 : decode b_Rv_isDone 16 = .ok (.iconst 0, 1) := by decide +kernel
theorem d_Rv_isDone_17 : decode b_Rv_isDone 17 = .ok (.ireturn, 1) := by decide +kernel
theorem d_Rv_keepApart_0 : decode b_Rv_keepApart 0 = .ok (.iload_n 1, 1) := by decide +kernel
theorem d_Rv_keepApart_1 : decode b_Rv_keepApart 1 = .ok (.ifCond .lt 28, 3) := by decide +kernel
theorem d_Rv_keepApart_4 : decode b_Rv_keepApart 4 = .ok (.iload_n 1, 1) := by decide +kernel
theorem d_Rv_keepApart_5 : decode b_Rv_keepApart 5 = .ok (.aload_n 0, 1) := by decide +kernel
theorem d_Rv_keepApart_6 : decode b_Rv_keepApart 6 = .ok (.getfield 24, 3) := by decide +kernel
theorem d_Rv_keepApart_9 : decode b_Rv_keepApart 9 = .ok (.if_icmp .ge 20, 3) := by decide +kernel
theorem d_Rv_keepApart_12 : decode b_Rv_keepApart 12 = .ok (.iload_n 2, 1) := by decide +kernel
theorem d_Rv_keepApart_13 : decode b_Rv_keepApart 13 = .ok (.ifCond .lt 16, 3) := by decide +kernel
theorem d_Rv_keepApart_16 : decode b_Rv_keepApart 16 = .ok (.iload_n 2, 1) := by decide +kernel
theorem d_Rv_keepApart_17 : decode b_Rv_keepApart 17 = .ok (.aload_n 0, 1) := by decide +kernel
theorem d_Rv_keepApart_18 : decode b_Rv_keepApart 18 = .ok (.getfield 24, 3) := by decide +kernel
theorem d_Rv_keepApart_21 : decode b_Rv_keepApart 21 = .ok (.if_icmp .ge 8, 3) := by decide +kernel
theorem d_Rv_keepApart_24 : decode b_Rv_keepApart 24 = .ok (.iload_n 1, 1) := by decide +kernel
theorem d_Rv_keepApart_25 : decode b_Rv_keepApart 25 = .ok (.iload_n 2, 1) := by decide +kernel
theorem d_Rv_keepApart_26 : decode b_Rv_keepApart 26 = .ok (.if_icmp .ne 5, 3) := by decide +kernel
theorem d_Rv_keepApart_29 : decode b_Rv_keepApart 29 = .ok (.iconst 0, 1) := by decide +kernel
theorem d_Rv_keepApart_30 : decode b_Rv_keepApart 30 = .ok (.ireturn, 1) := by decide +kernel
theorem d_Rv_keepApart_31 : decode b_Rv_keepApart 31 = .ok (.aload_n 0, 1) := by decide +kernel
theorem d_Rv_keepApart_32 : decode b_Rv_keepApart 32 = .ok (.getfield 15, 3) := by decide +kernel
theorem d_Rv_keepApart_35 : decode b_Rv_keepApart 35 = .ok (.iload_n 1, 1) := by decide +kernel
theorem d_Rv_keepApart_36 : decode b_Rv_keepApart 36 = .ok (.dup2, 1) := by decide +kernel
theorem d_Rv_keepApart_37 : decode b_Rv_keepApart 37 = .ok (.iaload, 1) := by decide +kernel
theorem d_Rv_keepApart_38 : decode b_Rv_keepApart 38 = .ok (.iconst 1, 1) := by decide +kernel
theorem d_Rv_keepApart_39 : decode b_Rv_keepApart 39 = .ok (.iload_n 2, 1) := by decide +kernel
theorem d_Rv_keepApart_40 : decode b_Rv_keepApart 40 = .ok (.ishl, 1) := by decide +kernel
theorem d_Rv_keepApart_41 : decode b_Rv_keepApart 41 = .ok (.ior, 1) := by decide +kernel
theorem d_Rv_keepApart_42 : decode b_Rv_keepApart 42 = .ok (.iastore, 1) := by decide +kernel
theorem d_Rv_keepApart_43 : decode b_Rv_keepApart 43 = .ok (.aload_n 0, 1) := by decide +kernel
theorem d_Rv_keepApart_44 : decode b_Rv_keepApart 44 = .ok (.getfield 15, 3) := by decide +kernel
theorem d_Rv_keepApart_47 : decode b_Rv_keepApart 47 = .ok (.iload_n 2, 1) := by decide +kernel
theorem d_Rv_keepApart_48 : decode b_Rv_keepApart 48 = .ok (.dup2, 1) := by decide +kernel
theorem d_Rv_keepApart_49 : decode b_Rv_keepApart 49 = .ok (.iaload, 1) := by decide +kernel
theorem d_Rv_keepApart_50 : decode b_Rv_keepApart 50 = .ok (.iconst 1, 1) := by decide +kernel
theorem d_Rv_keepApart_51 : decode b_Rv_keepApart 51 = .ok (.iload_n 1, 1) := by decide +kernel
theorem d_Rv_keepApart_52 : decode b_Rv_keepApart 52 = .ok (.ishl, 1) := by decide +kernel
theorem d_Rv_keepApart_53 : decode b_Rv_keepApart 53 = .ok (.ior, 1) := by decide +kernel
theorem d_Rv_keepApart_54 : decode b_Rv_keepApart 54 = .ok (.iastore, 1) := by decide +kernel
theorem d_Rv_keepApart_55 : decode b_Rv_keepApart 55 = .ok (.iconst 1, 1) := by decide +kernel
theorem d_Rv_keepApart_56 : decode b_Rv_keepApart 56 = .ok (.ireturn, 1) := by decide +kernel
theorem d_Rv_mayBeLeft_0 : decode b_Rv_mayBeLeft 0 = .ok (.iconst 0, 1) := by decide +kernel
theorem d_Rv_mayBeLeft_1 : decode b_Rv_mayBeLeft 1 = .ok (.istore_n 2, 1) := by decide +kernel
theorem d_Rv_mayBeLeft_2 : decode b_Rv_mayBeLeft 2 = .ok (.iload_n 2, 1) := by decide +kernel
theorem d_Rv_mayBeLeft_3 : decode b_Rv_mayBeLeft 3 = .ok (.bipush 8, 2) := by decide +kernel
theorem d_Rv_mayBeLeft_5 : decode b_Rv_mayBeLeft 5 = .ok (.if_icmp .ge 30, 3) := by decide +kernel
theorem d_Rv_mayBeLeft_8 : decode b_Rv_mayBeLeft 8 = .ok (.iload_n 1, 1) := by decide +kernel
theorem d_Rv_mayBeLeft_9 : decode b_Rv_mayBeLeft 9 = .ok (.iload_n 2, 1) := by decide +kernel
theorem d_Rv_mayBeLeft_10 : decode b_Rv_mayBeLeft 10 = .ok (.ishr, 1) := by decide +kernel
theorem d_Rv_mayBeLeft_11 : decode b_Rv_mayBeLeft 11 = .ok (.iconst 1, 1) := by decide +kernel
theorem d_Rv_mayBeLeft_12 : decode b_Rv_mayBeLeft 12 = .ok (.iand, 1) := by decide +kernel
theorem d_Rv_mayBeLeft_13 : decode b_Rv_mayBeLeft 13 = .ok (.ifCond .eq 16, 3) := by decide +kernel
theorem d_Rv_mayBeLeft_16 : decode b_Rv_mayBeLeft 16 = .ok (.aload_n 0, 1) := by decide +kernel
theorem d_Rv_mayBeLeft_17 : decode b_Rv_mayBeLeft 17 = .ok (.getfield 15, 3) := by decide +kernel
theorem d_Rv_mayBeLeft_20 : decode b_Rv_mayBeLeft 20 = .ok (.iload_n 2, 1) := by decide +kernel
theorem d_Rv_mayBeLeft_21 : decode b_Rv_mayBeLeft 21 = .ok (.iaload, 1) := by decide +kernel
theorem d_Rv_mayBeLeft_22 : decode b_Rv_mayBeLeft 22 = .ok (.iload_n 1, 1) := by decide +kernel
theorem d_Rv_mayBeLeft_23 : decode b_Rv_mayBeLeft 23 = .ok (.iand, 1) := by decide +kernel
theorem d_Rv_mayBeLeft_24 : decode b_Rv_mayBeLeft 24 = .ok (.ifCond .eq 5, 3) := by decide +kernel
theorem d_Rv_mayBeLeft_27 : decode b_Rv_mayBeLeft 27 = .ok (.iconst 0, 1) := by decide +kernel
theorem d_Rv_mayBeLeft_28 : decode b_Rv_mayBeLeft 28 = .ok (.ireturn, 1) := by decide +kernel
theorem d_Rv_mayBeLeft_29 : decode b_Rv_mayBeLeft 29 = .ok (.iinc 2 1, 3) := by decide +kernel
theorem d_Rv_mayBeLeft_32 : decode b_Rv_mayBeLeft 32 = .ok (.goto (-30), 3) := by decide +kernel
theorem d_Rv_mayBeLeft_35 : decode b_Rv_mayBeLeft 35 = .ok (.iconst 1, 1) := by decide +kernel
theorem d_Rv_mayBeLeft_36 : decode b_Rv_mayBeLeft 36 = .ok (.ireturn, 1) := by decide +kernel
theorem d_Rv_meetNext_0 : decode b_Rv_meetNext 0 = .ok (.iload_n 1, 1) := by decide +kernel
theorem d_Rv_meetNext_1 : decode b_Rv_meetNext 1 = .ok (.sipush 255, 3) := by decide +kernel
theorem d_Rv_meetNext_4 : decode b_Rv_meetNext 4 = .ok (.iand, 1) := by decide +kernel
theorem d_Rv_meetNext_5 : decode b_Rv_meetNext 5 = .ok (.istore_n 3, 1) := by decide +kernel
theorem d_Rv_meetNext_6 : decode b_Rv_meetNext 6 = .ok (.iload_n 1, 1) := by decide +kernel
theorem d_Rv_meetNext_7 : decode b_Rv_meetNext 7 = .ok (.sipush 256, 3) := by decide +kernel
theorem d_Rv_meetNext_10 : decode b_Rv_meetNext 10 = .ok (.iand, 1) := by decide +kernel
theorem d_Rv_meetNext_11 : decode b_Rv_meetNext 11 = .ok (.ifCond .eq 7, 3) := by decide +kernel
theorem d_Rv_meetNext_14 : decode b_Rv_meetNext 14 = .ok (.iconst 1, 1) := by decide +kernel
theorem d_Rv_meetNext_15 : decode b_Rv_meetNext 15 = .ok (.goto 4, 3) := by decide +kernel
theorem d_Rv_meetNext_18 : decode b_Rv_meetNext 18 = .ok (.iconst 0, 1) := by decide +kernel
theorem d_Rv_meetNext_19 : decode b_Rv_meetNext 19 = .ok (.istore 4, 2) := by decide +kernel
theorem d_Rv_meetNext_21 : decode b_Rv_meetNext 21 = .ok (.iload 4, 2) := by decide +kernel
theorem d_Rv_meetNext_23 : decode b_Rv_meetNext 23 = .ok (.ifCond .eq 7, 3) := by decide +kernel
theorem d_Rv_meetNext_26 : decode b_Rv_meetNext 26 = .ok (.iload_n 3, 1) := by decide +kernel
theorem d_Rv_meetNext_27 : decode b_Rv_meetNext 27 = .ok (.goto 11, 3) := by decide +kernel
theorem d_Rv_meetNext_30 : decode b_Rv_meetNext 30 = .ok (.aload_n 0, 1) := by decide +kernel
theorem d_Rv_meetNext_31 : decode b_Rv_meetNext 31 = .ok (.invokevirtual 31, 3) := by decide +kernel
theorem d_Rv_meetNext_34 : decode b_Rv_meetNext 34 = .ok (.iload_n 3, 1) := by decide +kernel
theorem d_Rv_meetNext_35 : decode b_Rv_meetNext 35 = .ok (.iconst (-1), 1) := by decide +kernel
theorem d_Rv_meetNext_36 : decode b_Rv_meetNext 36 = .ok (.ixor, 1) := by decide +kernel
theorem d_Rv_meetNext_37 : decode b_Rv_meetNext 37 = .ok (.iand, 1) := by decide +kernel
theorem d_Rv_meetNext_38 : decode b_Rv_meetNext 38 = .ok (.istore 5, 2) := by decide +kernel
theorem d_Rv_meetNext_40 : decode b_Rv_meetNext 40 = .ok (.iload 4, 2) := by decide +kernel
theorem d_Rv_meetNext_42 : decode b_Rv_meetNext 42 = .ok (.ifCond .eq 7, 3) := by decide +kernel
theorem d_Rv_meetNext_45 : decode b_Rv_meetNext 45 = .ok (.iconst 0, 1) := by decide +kernel
theorem d_Rv_meetNext_46 : decode b_Rv_meetNext 46 = .ok (.goto 6, 3) := by decide +kernel
theorem d_Rv_meetNext_49 : decode b_Rv_meetNext 49 = .ok (.sipush 256, 3) := by decide +kernel
theorem d_Rv_meetNext_52 : decode b_Rv_meetNext 52 = .ok (.istore 6, 2) := by decide +kernel
theorem d_Rv_meetNext_54 : decode b_Rv_meetNext 54 = .ok (.iconst 0, 1) := by decide +kernel
theorem d_Rv_meetNext_55 : decode b_Rv_meetNext 55 = .ok (.istore 7, 2) := by decide +kernel
theorem d_Rv_meetNext_57 : decode b_Rv_meetNext 57 = .ok (.iconst 0, 1) := by decide +kernel
theorem d_Rv_meetNext_58 : decode b_Rv_meetNext 58 = .ok (.istore 8, 2) := by decide +kernel
theorem d_Rv_meetNext_60 : decode b_Rv_meetNext 60 = .ok (.iload 8, 2) := by decide +kernel
theorem d_Rv_meetNext_62 : decode b_Rv_meetNext 62 = .ok (.sipush 256, 3) := by decide +kernel
theorem d_Rv_meetNext_65 : decode b_Rv_meetNext 65 = .ok (.if_icmp .ge 67, 3) := by decide +kernel
theorem d_Rv_meetNext_68 : decode b_Rv_meetNext 68 = .ok (.iload 7, 2) := by decide +kernel
theorem d_Rv_meetNext_70 : decode b_Rv_meetNext 70 = .ok (.invokestatic 35, 3) := by decide +kernel
theorem d_Rv_meetNext_73 : decode b_Rv_meetNext 73 = .ok (.aload_n 0, 1) := by decide +kernel
theorem d_Rv_meetNext_74 : decode b_Rv_meetNext 74 = .ok (.getfield 28, 3) := by decide +kernel
theorem d_Rv_meetNext_77 : decode b_Rv_meetNext 77 = .ok (.if_icmp .gt 31, 3) := by decide +kernel
theorem d_Rv_meetNext_80 : decode b_Rv_meetNext 80 = .ok (.aload_n 0, 1) := by decide +kernel
theorem d_Rv_meetNext_81 : decode b_Rv_meetNext 81 = .ok (.iload 5, 2) := by decide +kernel
theorem d_Rv_meetNext_83 : decode b_Rv_meetNext 83 = .ok (.iload 7, 2) := by decide +kernel
theorem d_Rv_meetNext_85 : decode b_Rv_meetNext 85 = .ok (.iconst (-1), 1) := by decide +kernel
theorem d_Rv_meetNext_86 : decode b_Rv_meetNext 86 = .ok (.ixor, 1) := by decide +kernel
theorem d_Rv_meetNext_87 : decode b_Rv_meetNext 87 = .ok (.iand, 1) := by decide +kernel
theorem d_Rv_meetNext_88 : decode b_Rv_meetNext 88 = .ok (.invokevirtual 41, 3) := by decide +kernel
theorem d_Rv_meetNext_91 : decode b_Rv_meetNext 91 = .ok (.ifCond .eq 17, 3) := by decide +kernel
theorem d_Rv_meetNext_94 : decode b_Rv_meetNext 94 = .ok (.aload_n 2, 1) := by decide +kernel
theorem d_Rv_meetNext_95 : decode b_Rv_meetNext 95 = .ok (.iload 6, 2) := by decide +kernel
theorem d_Rv_meetNext_97 : decode b_Rv_meetNext 97 = .ok (.iload_n 3, 1) := by decide +kernel
theorem d_Rv_meetNext_98 : decode b_Rv_meetNext 98 = .ok (.iload 7, 2) := by decide +kernel
theorem d_Rv_meetNext_100 : decode b_Rv_meetNext 100 = .ok (.ixor, 1) := by decide +kernel
theorem d_Rv_meetNext_101 : decode b_Rv_meetNext 101 = .ok (.ior, 1) := by decide +kernel
theorem d_Rv_meetNext_102 : decode b_Rv_meetNext 102 = .ok (.iload_n 1, 1) := by decide +kernel
theorem d_Rv_meetNext_103 : decode b_Rv_meetNext 103 = .ok (.iload 7, 2) := by decide +kernel
theorem d_Rv_meetNext_105 : decode b_Rv_meetNext 105 = .ok (.invokevirtual 45, 3) := by decide +kernel
theorem d_Rv_meetNext_108 : decode b_Rv_meetNext 108 = .ok (.iload 7, 2) := by decide +kernel
theorem d_Rv_meetNext_110 : decode b_Rv_meetNext 110 = .ok (.iload 5, 2) := by decide +kernel
theorem d_Rv_meetNext_112 : decode b_Rv_meetNext 112 = .ok (.if_icmp .ne 4, 3) := by decide +kernel
theorem d_Rv_meetNext_115 : decode b_Rv_meetNext 115 = .ok (.return_, 1) := by decide +kernel
theorem d_Rv_meetNext_116 : decode b_Rv_meetNext 116 = .ok (.iload 7, 2) := by decide +kernel
theorem d_Rv_meetNext_118 : decode b_Rv_meetNext 118 = .ok (.iload 5, 2) := by decide +kernel
theorem d_Rv_meetNext_120 : decode b_Rv_meetNext 120 = .ok (.isub, 1) := by decide +kernel
theorem d_Rv_meetNext_121 : decode b_Rv_meetNext 121 = .ok (.iload 5, 2) := by decide +kernel
theorem d_Rv_meetNext_123 : decode b_Rv_meetNext 123 = .ok (.iand, 1) := by decide +kernel
theorem d_Rv_meetNext_124 : decode b_Rv_meetNext 124 = .ok (.istore 7, 2) := by decide +kernel
theorem d_Rv_meetNext_126 : decode b_Rv_meetNext 126 = .ok (.iinc 8 1, 3) := by decide +kernel
theorem d_Rv_meetNext_129 : decode b_Rv_meetNext 129 = .ok (.goto (-69), 3) := by decide +kernel
theorem d_Rv_meetNext_132 : decode b_Rv_meetNext 132 = .ok (.return_, 1) := by decide +kernel
theorem d_Rv_secondTold_0 : decode b_Rv_secondTold 0 = .ok (.iload_n 2, 1) := by decide +kernel
theorem d_Rv_secondTold_1 : decode b_Rv_secondTold 1 = .ok (.sipush 255, 3) := by decide +kernel
theorem d_Rv_secondTold_4 : decode b_Rv_secondTold 4 = .ok (.iand, 1) := by decide +kernel
theorem d_Rv_secondTold_5 : decode b_Rv_secondTold 5 = .ok (.ireturn, 1) := by decide +kernel
theorem d_Rv_setBoat_0 : decode b_Rv_setBoat 0 = .ok (.iload_n 1, 1) := by decide +kernel
theorem d_Rv_setBoat_1 : decode b_Rv_setBoat 1 = .ok (.bipush 49, 2) := by decide +kernel
theorem d_Rv_setBoat_3 : decode b_Rv_setBoat 3 = .ok (.if_icmp .lt 9, 3) := by decide +kernel
theorem d_Rv_setBoat_6 : decode b_Rv_setBoat 6 = .ok (.iload_n 1, 1) := by decide +kernel
theorem d_Rv_setBoat_7 : decode b_Rv_setBoat 7 = .ok (.bipush 51, 2) := by decide +kernel
theorem d_Rv_setBoat_9 : decode b_Rv_setBoat 9 = .ok (.if_icmp .le 5, 3) := by decide +kernel
theorem d_Rv_setBoat_12 : decode b_Rv_setBoat 12 = .ok (.iconst 0, 1) := by decide +kernel
theorem d_Rv_setBoat_13 : decode b_Rv_setBoat 13 = .ok (.ireturn, 1) := by decide +kernel
theorem d_Rv_setBoat_14 : decode b_Rv_setBoat 14 = .ok (.aload_n 0, 1) := by decide +kernel
theorem d_Rv_setBoat_15 : decode b_Rv_setBoat 15 = .ok (.iload_n 1, 1) := by decide +kernel
theorem d_Rv_setBoat_16 : decode b_Rv_setBoat 16 = .ok (.bipush 48, 2) := by decide +kernel
theorem d_Rv_setBoat_18 : decode b_Rv_setBoat 18 = .ok (.isub, 1) := by decide +kernel
theorem d_Rv_setBoat_19 : decode b_Rv_setBoat 19 = .ok (.putfield 28, 3) := by decide +kernel
theorem d_Rv_setBoat_22 : decode b_Rv_setBoat 22 = .ok (.iconst 1, 1) := by decide +kernel
theorem d_Rv_setBoat_23 : decode b_Rv_setBoat 23 = .ok (.ireturn, 1) := by decide +kernel
theorem d_Rv_startState_0 : decode b_Rv_startState 0 = .ok (.iconst 0, 1) := by decide +kernel
theorem d_Rv_startState_1 : decode b_Rv_startState 1 = .ok (.ireturn, 1) := by decide +kernel
theorem d_Rv_stateCount_0 : decode b_Rv_stateCount 0 = .ok (.sipush 512, 3) := by decide +kernel
theorem d_Rv_stateCount_3 : decode b_Rv_stateCount 3 = .ok (.ireturn, 1) := by decide +kernel
theorem d_Rv_thingOf_0 : decode b_Rv_thingOf 0 = .ok (.iload_n 1, 1) := by decide +kernel
theorem d_Rv_thingOf_1 : decode b_Rv_thingOf 1 = .ok (.bipush 97, 2) := by decide +kernel
theorem d_Rv_thingOf_3 : decode b_Rv_thingOf 3 = .ok (.isub, 1) := by decide +kernel
theorem d_Rv_thingOf_4 : decode b_Rv_thingOf 4 = .ok (.istore_n 2, 1) := by decide +kernel
theorem d_Rv_thingOf_5 : decode b_Rv_thingOf 5 = .ok (.iload_n 2, 1) := by decide +kernel
theorem d_Rv_thingOf_6 : decode b_Rv_thingOf 6 = .ok (.ifCond .lt 9, 3) := by decide +kernel
theorem d_Rv_thingOf_9 : decode b_Rv_thingOf 9 = .ok (.iload_n 2, 1) := by decide +kernel
theorem d_Rv_thingOf_10 : decode b_Rv_thingOf 10 = .ok (.bipush 8, 2) := by decide +kernel
theorem d_Rv_thingOf_12 : decode b_Rv_thingOf 12 = .ok (.if_icmp .lt 7, 3) := by decide +kernel
theorem d_Rv_thingOf_15 : decode b_Rv_thingOf 15 = .ok (.iconst (-1), 1) := by decide +kernel
theorem d_Rv_thingOf_16 : decode b_Rv_thingOf 16 = .ok (.goto 9, 3) := by decide +kernel
theorem d_Rv_thingOf_19 : decode b_Rv_thingOf 19 = .ok (.aload_n 0, 1) := by decide +kernel
theorem d_Rv_thingOf_20 : decode b_Rv_thingOf 20 = .ok (.getfield 11, 3) := by decide +kernel
theorem d_Rv_thingOf_23 : decode b_Rv_thingOf 23 = .ok (.iload_n 2, 1) := by decide +kernel
theorem d_Rv_thingOf_24 : decode b_Rv_thingOf 24 = .ok (.iaload, 1) := by decide +kernel
theorem d_Rv_thingOf_25 : decode b_Rv_thingOf 25 = .ok (.ireturn, 1) := by decide +kernel
theorem d_Rt_init_0 : decode b_Rt_init 0 = .ok (.aload_n 0, 1) := by decide +kernel
theorem d_Rt_init_1 : decode b_Rt_init 1 = .ok (.invokespecial 3, 3) := by decide +kernel
theorem d_Rt_init_4 : decode b_Rt_init 4 = .ok (.aload_n 0, 1) := by decide +kernel
theorem d_Rt_init_5 : decode b_Rt_init 5 = .ok (.bipush 100, 2) := by decide +kernel
theorem d_Rt_init_7 : decode b_Rt_init 7 = .ok (.newarray .int, 2) := by decide +kernel
theorem d_Rt_init_9 : decode b_Rt_init 9 = .ok (.putfield 11, 3) := by decide +kernel
theorem d_Rt_init_12 : decode b_Rt_init 12 = .ok (.return_, 1) := by decide +kernel
theorem d_Rt_add_0 : decode b_Rt_add 0 = .ok (.iload_n 1, 1) := by decide +kernel
theorem d_Rt_add_1 : decode b_Rt_add 1 = .ok (.ifCond .lt 19, 3) := by decide +kernel
theorem d_Rt_add_4 : decode b_Rt_add 4 = .ok (.iload_n 1, 1) := by decide +kernel
theorem d_Rt_add_5 : decode b_Rt_add 5 = .ok (.sipush 255, 3) := by decide +kernel
theorem d_Rt_add_8 : decode b_Rt_add 8 = .ok (.if_icmp .gt 12, 3) := by decide +kernel
theorem d_Rt_add_11 : decode b_Rt_add 11 = .ok (.aload_n 0, 1) := by decide +kernel
theorem d_Rt_add_12 : decode b_Rt_add 12 = .ok (.getfield 15, 3) := by decide +kernel
theorem d_Rt_add_15 : decode b_Rt_add 15 = .ok (.bipush 100, 2) := by decide +kernel
theorem d_Rt_add_17 : decode b_Rt_add 17 = .ok (.if_icmp .lt 5, 3) := by decide +kernel
theorem d_Rt_add_20 : decode b_Rt_add 20 = .ok (.iconst 0, 1) := by decide +kernel
theorem d_Rt_add_21 : decode b_Rt_add 21 = .ok (.ireturn, 1) := by decide +kernel
theorem d_Rt_add_22 : decode b_Rt_add 22 = .ok (.aload_n 0, 1) := by decide +kernel
theorem d_Rt_add_23 : decode b_Rt_add 23 = .ok (.getfield 11, 3) := by decide +kernel
theorem d_Rt_add_26 : decode b_Rt_add 26 = .ok (.aload_n 0, 1) := by decide +kernel
theorem d_Rt_add_27 : decode b_Rt_add 27 = .ok (.getfield 15, 3) := by decide +kernel
theorem d_Rt_add_30 : decode b_Rt_add 30 = .ok (.iload_n 1, 1) := by decide +kernel
theorem d_Rt_add_31 : decode b_Rt_add 31 = .ok (.iastore, 1) := by decide +kernel
theorem d_Rt_add_32 : decode b_Rt_add 32 = .ok (.aload_n 0, 1) := by decide +kernel
theorem d_Rt_add_33 : decode b_Rt_add 33 = .ok (.dup, 1) := by decide +kernel
theorem d_Rt_add_34 : decode b_Rt_add 34 = .ok (.getfield 15, 3) := by decide +kernel
theorem d_Rt_add_37 : decode b_Rt_add 37 = .ok (.iconst 1, 1) := by decide +kernel
theorem d_Rt_add_38 : decode b_Rt_add 38 = .ok (.iadd, 1) := by decide +kernel
theorem d_Rt_add_39 : decode b_Rt_add 39 = .ok (.putfield 15, 3) := by decide +kernel
theorem d_Rt_add_42 : decode b_Rt_add 42 = .ok (.iconst 1, 1) := by decide +kernel
theorem d_Rt_add_43 : decode b_Rt_add 43 = .ok (.ireturn, 1) := by decide +kernel
theorem d_Rt_forget_0 : decode b_Rt_forget 0 = .ok (.aload_n 0, 1) := by decide +kernel
theorem d_Rt_forget_1 : decode b_Rt_forget 1 = .ok (.iconst 0, 1) := by decide +kernel
theorem d_Rt_forget_2 : decode b_Rt_forget 2 = .ok (.putfield 15, 3) := by decide +kernel
theorem d_Rt_forget_5 : decode b_Rt_forget 5 = .ok (.return_, 1) := by decide +kernel
theorem d_Rt_readInto_0 : decode b_Rt_readInto 0 = .ok (.aload_n 1, 1) := by decide +kernel
theorem d_Rt_readInto_1 : decode b_Rt_readInto 1 = .ok (.invokevirtual 19, 3) := by decide +kernel
theorem d_Rt_readInto_4 : decode b_Rt_readInto 4 = .ok (.aload_n 0, 1) := by decide +kernel
theorem d_Rt_readInto_5 : decode b_Rt_readInto 5 = .ok (.aload_n 1, 1) := by decide +kernel
theorem d_Rt_readInto_6 : decode b_Rt_readInto 6 = .ok (.invokevirtual 24, 3) := by decide +kernel
theorem d_Rt_readInto_9 : decode b_Rt_readInto 9 = .ok (.istore_n 2, 1) := by decide +kernel
theorem d_Rt_readInto_10 : decode b_Rt_readInto 10 = .ok (.iload_n 2, 1) := by decide +kernel
theorem d_Rt_readInto_11 : decode b_Rt_readInto 11 = .ok (.ifCond .ne 5, 3) := by decide +kernel
theorem d_Rt_readInto_14 : decode b_Rt_readInto 14 = .ok (.iload_n 2, 1) := by decide +kernel
theorem d_Rt_readInto_15 : decode b_Rt_readInto 15 = .ok (.ireturn, 1) := by decide +kernel
theorem d_Rt_readInto_16 : decode b_Rt_readInto 16 = .ok (.iconst 0, 1) := by decide +kernel
theorem d_Rt_readInto_17 : decode b_Rt_readInto 17 = .ok (.istore_n 3, 1) := by decide +kernel
theorem d_Rt_readInto_18 : decode b_Rt_readInto 18 = .ok (.iload_n 3, 1) := by decide +kernel
theorem d_Rt_readInto_19 : decode b_Rt_readInto 19 = .ok (.bipush 100, 2) := by decide +kernel
theorem d_Rt_readInto_21 : decode b_Rt_readInto 21 = .ok (.if_icmp .ge 103, 3) := by decide +kernel
theorem d_Rt_readInto_24 : decode b_Rt_readInto 24 = .ok (.aload_n 0, 1) := by decide +kernel
theorem d_Rt_readInto_25 : decode b_Rt_readInto 25 = .ok (.iload_n 2, 1) := by decide +kernel
theorem d_Rt_readInto_26 : decode b_Rt_readInto 26 = .ok (.invokevirtual 28, 3) := by decide +kernel
theorem d_Rt_readInto_29 : decode b_Rt_readInto 29 = .ok (.bipush 32, 2) := by decide +kernel
theorem d_Rt_readInto_31 : decode b_Rt_readInto 31 = .ok (.if_icmp .eq 5, 3) := by decide +kernel
theorem d_Rt_readInto_34 : decode b_Rt_readInto 34 = .ok (.iload_n 2, 1) := by decide +kernel
theorem d_Rt_readInto_35 : decode b_Rt_readInto 35 = .ok (.ireturn, 1) := by decide +kernel
theorem d_Rt_readInto_36 : decode b_Rt_readInto 36 = .ok (.aload_n 1, 1) := by decide +kernel
theorem d_Rt_readInto_37 : decode b_Rt_readInto 37 = .ok (.aload_n 0, 1) := by decide +kernel
theorem d_Rt_readInto_38 : decode b_Rt_readInto 38 = .ok (.iload_n 2, 1) := by decide +kernel
theorem d_Rt_readInto_39 : decode b_Rt_readInto 39 = .ok (.iconst 1, 1) := by decide +kernel
theorem d_Rt_readInto_40 : decode b_Rt_readInto 40 = .ok (.iadd, 1) := by decide +kernel
theorem d_Rt_readInto_41 : decode b_Rt_readInto 41 = .ok (.invokevirtual 28, 3) := by decide +kernel
theorem d_Rt_readInto_44 : decode b_Rt_readInto 44 = .ok (.invokevirtual 32, 3) := by decide +kernel
theorem d_Rt_readInto_47 : decode b_Rt_readInto 47 = .ok (.ifCond .eq 21, 3) := by decide +kernel
theorem d_Rt_readInto_50 : decode b_Rt_readInto 50 = .ok (.iload_n 2, 1) := by decide +kernel
theorem d_Rt_readInto_51 : decode b_Rt_readInto 51 = .ok (.iconst 2, 1) := by decide +kernel
theorem d_Rt_readInto_52 : decode b_Rt_readInto 52 = .ok (.iadd, 1) := by decide +kernel
theorem d_Rt_readInto_53 : decode b_Rt_readInto 53 = .ok (.aload_n 0, 1) := by decide +kernel
theorem d_Rt_readInto_54 : decode b_Rt_readInto 54 = .ok (.getfield 15, 3) := by decide +kernel
theorem d_Rt_readInto_57 : decode b_Rt_readInto 57 = .ok (.if_icmp .ne 7, 3) := by decide +kernel
theorem d_Rt_readInto_60 : decode b_Rt_readInto 60 = .ok (.iconst (-1), 1) := by decide +kernel
theorem d_Rt_readInto_61 : decode b_Rt_readInto 61 = .ok (.goto 6, 3) := by decide +kernel
theorem d_Rt_readInto_64 : decode b_Rt_readInto 64 = .ok (.iload_n 2, 1) := by decide +kernel
theorem d_Rt_readInto_65 : decode b_Rt_readInto 65 = .ok (.iconst 2, 1) := by decide +kernel
