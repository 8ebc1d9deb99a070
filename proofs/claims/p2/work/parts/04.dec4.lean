theorem d_Mo_findThree_11 : decode b_Mo_findThree 11 = .ok (.iload 7, 2) := by decide +kernel
theorem d_Mo_findThree_13 : decode b_Mo_findThree 13 = .ok (.istore 12, 2) := by decide +kernel
theorem d_Mo_findThree_15 : decode b_Mo_findThree 15 = .ok (.iload_n 3, 1) := by decide +kernel
theorem d_Mo_findThree_16 : decode b_Mo_findThree 16 = .ok (.istore 13, 2) := by decide +kernel
theorem d_Mo_findThree_18 : decode b_Mo_findThree 18 = .ok (.lload 8, 2) := by decide +kernel
theorem d_Mo_findThree_20 : decode b_Mo_findThree 20 = .ok (.iload 13, 2) := by decide +kernel
theorem d_Mo_findThree_22 : decode b_Mo_findThree 22 = .ok (.iconst 1, 1) := by decide +kernel
theorem d_Mo_findThree_23 : decode b_Mo_findThree 23 = .ok (.isub, 1) := by decide +kernel
theorem d_Mo_findThree_24 : decode b_Mo_findThree 24 = .ok (.invokestatic 68, 3) := by decide +kernel
theorem d_Mo_findThree_27 : decode b_Mo_findThree 27 = .ok (.lcmp, 1) := by decide +kernel
theorem d_Mo_findThree_28 : decode b_Mo_findThree 28 = .ok (.ifCond .eq 73, 3) := by decide +kernel
theorem d_Mo_findThree_31 : decode b_Mo_findThree 31 = .ok (.lload 8, 2) := by decide +kernel
theorem d_Mo_findThree_33 : decode b_Mo_findThree 33 = .ok (.iload 13, 2) := by decide +kernel
theorem d_Mo_findThree_35 : decode b_Mo_findThree 35 = .ok (.iconst 1, 1) := by decide +kernel
theorem d_Mo_findThree_36 : decode b_Mo_findThree 36 = .ok (.isub, 1) := by decide +kernel
theorem d_Mo_findThree_37 : decode b_Mo_findThree 37 = .ok (.invokestatic 68, 3) := by decide +kernel
theorem d_Mo_findThree_40 : decode b_Mo_findThree 40 = .ok (.lcmp, 1) := by decide +kernel
theorem d_Mo_findThree_41 : decode b_Mo_findThree 41 = .ok (.ifCond .ge 8, 3) := by decide +kernel
theorem d_Mo_findThree_44 : decode b_Mo_findThree 44 = .ok (.iload 11, 2) := by decide +kernel
theorem d_Mo_findThree_46 : decode b_Mo_findThree 46 = .ok (.goto 5, 3) := by decide +kernel
theorem d_Mo_findThree_49 : decode b_Mo_findThree 49 = .ok (.iload 10, 2) := by decide +kernel
theorem d_Mo_findThree_51 : decode b_Mo_findThree 51 = .ok (.istore 14, 2) := by decide +kernel
theorem d_Mo_findThree_53 : decode b_Mo_findThree 53 = .ok (.lload 8, 2) := by decide +kernel
theorem d_Mo_findThree_55 : decode b_Mo_findThree 55 = .ok (.iload 13, 2) := by decide +kernel
theorem d_Mo_findThree_57 : decode b_Mo_findThree 57 = .ok (.iconst 1, 1) := by decide +kernel
theorem d_Mo_findThree_58 : decode b_Mo_findThree 58 = .ok (.isub, 1) := by decide +kernel
theorem d_Mo_findThree_59 : decode b_Mo_findThree 59 = .ok (.invokestatic 68, 3) := by decide +kernel
theorem d_Mo_findThree_62 : decode b_Mo_findThree 62 = .ok (.lcmp, 1) := by decide +kernel
theorem d_Mo_findThree_63 : decode b_Mo_findThree 63 = .ok (.ifCond .ge 10, 3) := by decide +kernel
theorem d_Mo_findThree_66 : decode b_Mo_findThree 66 = .ok (.iload 12, 2) := by decide +kernel
theorem d_Mo_findThree_68 : decode b_Mo_findThree 68 = .ok (.istore 11, 2) := by decide +kernel
theorem d_Mo_findThree_70 : decode b_Mo_findThree 70 = .ok (.goto 21, 3) := by decide +kernel
theorem d_Mo_findThree_73 : decode b_Mo_findThree 73 = .ok (.lload 8, 2) := by decide +kernel
theorem d_Mo_findThree_75 : decode b_Mo_findThree 75 = .ok (.iload 13, 2) := by decide +kernel
theorem d_Mo_findThree_77 : decode b_Mo_findThree 77 = .ok (.iconst 1, 1) := by decide +kernel
theorem d_Mo_findThree_78 : decode b_Mo_findThree 78 = .ok (.isub, 1) := by decide +kernel
theorem d_Mo_findThree_79 : decode b_Mo_findThree 79 = .ok (.invokestatic 68, 3) := by decide +kernel
theorem d_Mo_findThree_82 : decode b_Mo_findThree 82 = .ok (.lconst 1, 1) := by decide +kernel
theorem d_Mo_findThree_83 : decode b_Mo_findThree 83 = .ok (.ladd, 1) := by decide +kernel
theorem d_Mo_findThree_84 : decode b_Mo_findThree 84 = .ok (.lsub, 1) := by decide +kernel
theorem d_Mo_findThree_85 : decode b_Mo_findThree 85 = .ok (.lstore 8, 2) := by decide +kernel
theorem d_Mo_findThree_87 : decode b_Mo_findThree 87 = .ok (.iload 12, 2) := by decide +kernel
theorem d_Mo_findThree_89 : decode b_Mo_findThree 89 = .ok (.istore 10, 2) := by decide +kernel
theorem d_Mo_findThree_91 : decode b_Mo_findThree 91 = .ok (.iload 14, 2) := by decide +kernel
theorem d_Mo_findThree_93 : decode b_Mo_findThree 93 = .ok (.istore 12, 2) := by decide +kernel
theorem d_Mo_findThree_95 : decode b_Mo_findThree 95 = .ok (.iinc 13 (-1), 3) := by decide +kernel
theorem d_Mo_findThree_98 : decode b_Mo_findThree 98 = .ok (.goto (-80), 3) := by decide +kernel
theorem d_Mo_findThree_101 : decode b_Mo_findThree 101 = .ok (.aload_n 0, 1) := by decide +kernel
theorem d_Mo_findThree_102 : decode b_Mo_findThree 102 = .ok (.iload 4, 2) := by decide +kernel
theorem d_Mo_findThree_104 : decode b_Mo_findThree 104 = .ok (.iload 13, 2) := by decide +kernel
theorem d_Mo_findThree_106 : decode b_Mo_findThree 106 = .ok (.iadd, 1) := by decide +kernel
theorem d_Mo_findThree_107 : decode b_Mo_findThree 107 = .ok (.iconst 1, 1) := by decide +kernel
theorem d_Mo_findThree_108 : decode b_Mo_findThree 108 = .ok (.isub, 1) := by decide +kernel
theorem d_Mo_findThree_109 : decode b_Mo_findThree 109 = .ok (.putfield 144, 3) := by decide +kernel
theorem d_Mo_findThree_112 : decode b_Mo_findThree 112 = .ok (.aload_n 0, 1) := by decide +kernel
theorem d_Mo_findThree_113 : decode b_Mo_findThree 113 = .ok (.iload 10, 2) := by decide +kernel
theorem d_Mo_findThree_115 : decode b_Mo_findThree 115 = .ok (.putfield 147, 3) := by decide +kernel
theorem d_Mo_findThree_118 : decode b_Mo_findThree 118 = .ok (.aload_n 0, 1) := by decide +kernel
theorem d_Mo_findThree_119 : decode b_Mo_findThree 119 = .ok (.iload 11, 2) := by decide +kernel
theorem d_Mo_findThree_121 : decode b_Mo_findThree 121 = .ok (.putfield 150, 3) := by decide +kernel
theorem d_Mo_findThree_124 : decode b_Mo_findThree 124 = .ok (.return_, 1) := by decide +kernel
theorem d_Mo_found_0 : decode b_Mo_found 0 = .ok (.aload_n 0, 1) := by decide +kernel
theorem d_Mo_found_1 : decode b_Mo_found 1 = .ok (.iconst 0, 1) := by decide +kernel
theorem d_Mo_found_2 : decode b_Mo_found 2 = .ok (.putfield 78, 3) := by decide +kernel
theorem d_Mo_found_5 : decode b_Mo_found 5 = .ok (.iload_n 1, 1) := by decide +kernel
theorem d_Mo_found_6 : decode b_Mo_found 6 = .ok (.istore_n 2, 1) := by decide +kernel
theorem d_Mo_found_7 : decode b_Mo_found 7 = .ok (.aload_n 0, 1) := by decide +kernel
theorem d_Mo_found_8 : decode b_Mo_found 8 = .ok (.getfield 31, 3) := by decide +kernel
theorem d_Mo_found_11 : decode b_Mo_found 11 = .ok (.iload_n 2, 1) := by decide +kernel
theorem d_Mo_found_12 : decode b_Mo_found 12 = .ok (.iaload, 1) := by decide +kernel
theorem d_Mo_found_13 : decode b_Mo_found 13 = .ok (.ifCond .lt 23, 3) := by decide +kernel
theorem d_Mo_found_16 : decode b_Mo_found 16 = .ok (.aload_n 0, 1) := by decide +kernel
theorem d_Mo_found_17 : decode b_Mo_found 17 = .ok (.dup, 1) := by decide +kernel
theorem d_Mo_found_18 : decode b_Mo_found 18 = .ok (.getfield 78, 3) := by decide +kernel
theorem d_Mo_found_21 : decode b_Mo_found 21 = .ok (.iconst 1, 1) := by decide +kernel
theorem d_Mo_found_22 : decode b_Mo_found 22 = .ok (.iadd, 1) := by decide +kernel
theorem d_Mo_found_23 : decode b_Mo_found 23 = .ok (.putfield 78, 3) := by decide +kernel
theorem d_Mo_found_26 : decode b_Mo_found 26 = .ok (.aload_n 0, 1) := by decide +kernel
theorem d_Mo_found_27 : decode b_Mo_found 27 = .ok (.getfield 31, 3) := by decide +kernel
theorem d_Mo_found_30 : decode b_Mo_found 30 = .ok (.iload_n 2, 1) := by decide +kernel
theorem d_Mo_found_31 : decode b_Mo_found 31 = .ok (.iaload, 1) := by decide +kernel
theorem d_Mo_found_32 : decode b_Mo_found 32 = .ok (.istore_n 2, 1) := by decide +kernel
theorem d_Mo_found_33 : decode b_Mo_found 33 = .ok (.goto (-26), 3) := by decide +kernel
theorem d_Mo_found_36 : decode b_Mo_found 36 = .ok (.aload_n 0, 1) := by decide +kernel
theorem d_Mo_found_37 : decode b_Mo_found 37 = .ok (.getfield 78, 3) := by decide +kernel
theorem d_Mo_found_40 : decode b_Mo_found 40 = .ok (.istore_n 2, 1) := by decide +kernel
theorem d_Mo_found_41 : decode b_Mo_found 41 = .ok (.iload_n 1, 1) := by decide +kernel
theorem d_Mo_found_42 : decode b_Mo_found 42 = .ok (.istore_n 3, 1) := by decide +kernel
theorem d_Mo_found_43 : decode b_Mo_found 43 = .ok (.aload_n 0, 1) := by decide +kernel
theorem d_Mo_found_44 : decode b_Mo_found 44 = .ok (.getfield 31, 3) := by decide +kernel
theorem d_Mo_found_47 : decode b_Mo_found 47 = .ok (.iload_n 3, 1) := by decide +kernel
theorem d_Mo_found_48 : decode b_Mo_found 48 = .ok (.iaload, 1) := by decide +kernel
theorem d_Mo_found_49 : decode b_Mo_found 49 = .ok (.ifCond .lt 40, 3) := by decide +kernel
theorem d_Mo_found_52 : decode b_Mo_found 52 = .ok (.iinc 2 (-1), 3) := by decide +kernel
theorem d_Mo_found_55 : decode b_Mo_found 55 = .ok (.aload_n 0, 1) := by decide +kernel
theorem d_Mo_found_56 : decode b_Mo_found 56 = .ok (.getfield 22, 3) := by decide +kernel
theorem d_Mo_found_59 : decode b_Mo_found 59 = .ok (.iload_n 2, 1) := by decide +kernel
theorem d_Mo_found_60 : decode b_Mo_found 60 = .ok (.aload_n 0, 1) := by decide +kernel
theorem d_Mo_found_61 : decode b_Mo_found 61 = .ok (.getfield 34, 3) := by decide +kernel
theorem d_Mo_found_64 : decode b_Mo_found 64 = .ok (.iload_n 3, 1) := by decide +kernel
theorem d_Mo_found_65 : decode b_Mo_found 65 = .ok (.iaload, 1) := by decide +kernel
theorem d_Mo_found_66 : decode b_Mo_found 66 = .ok (.iastore, 1) := by decide +kernel
theorem d_Mo_found_67 : decode b_Mo_found 67 = .ok (.aload_n 0, 1) := by decide +kernel
theorem d_Mo_found_68 : decode b_Mo_found 68 = .ok (.getfield 25, 3) := by decide +kernel
theorem d_Mo_found_71 : decode b_Mo_found 71 = .ok (.iload_n 2, 1) := by decide +kernel
theorem d_Mo_found_72 : decode b_Mo_found 72 = .ok (.aload_n 0, 1) := by decide +kernel
theorem d_Mo_found_73 : decode b_Mo_found 73 = .ok (.getfield 37, 3) := by decide +kernel
theorem d_Mo_found_76 : decode b_Mo_found 76 = .ok (.iload_n 3, 1) := by decide +kernel
theorem d_Mo_found_77 : decode b_Mo_found 77 = .ok (.iaload, 1) := by decide +kernel
theorem d_Mo_found_78 : decode b_Mo_found 78 = .ok (.iastore, 1) := by decide +kernel
theorem d_Mo_found_79 : decode b_Mo_found 79 = .ok (.aload_n 0, 1) := by decide +kernel
theorem d_Mo_found_80 : decode b_Mo_found 80 = .ok (.getfield 31, 3) := by decide +kernel
theorem d_Mo_found_83 : decode b_Mo_found 83 = .ok (.iload_n 3, 1) := by decide +kernel
theorem d_Mo_found_84 : decode b_Mo_found 84 = .ok (.iaload, 1) := by decide +kernel
theorem d_Mo_found_85 : decode b_Mo_found 85 = .ok (.istore_n 3, 1) := by decide +kernel
theorem d_Mo_found_86 : decode b_Mo_found 86 = .ok (.goto (-43), 3) := by decide +kernel
theorem d_Mo_found_89 : decode b_Mo_found 89 = .ok (.aload_n 0, 1) := by decide +kernel
theorem d_Mo_found_90 : decode b_Mo_found 90 = .ok (.getfield 78, 3) := by decide +kernel
theorem d_Mo_found_93 : decode b_Mo_found 93 = .ok (.ireturn, 1) := by decide +kernel
theorem d_Mo_full_0 : decode b_Mo_full 0 = .ok (.lconst 0, 1) := by decide +kernel
theorem d_Mo_full_1 : decode b_Mo_full 1 = .ok (.lstore_n 1, 1) := by decide +kernel
theorem d_Mo_full_2 : decode b_Mo_full 2 = .ok (.iconst 0, 1) := by decide +kernel
theorem d_Mo_full_3 : decode b_Mo_full 3 = .ok (.istore_n 3, 1) := by decide +kernel
theorem d_Mo_full_4 : decode b_Mo_full 4 = .ok (.iload_n 3, 1) := by decide +kernel
theorem d_Mo_full_5 : decode b_Mo_full 5 = .ok (.iload_n 0, 1) := by decide +kernel
theorem d_Mo_full_6 : decode b_Mo_full 6 = .ok (.if_icmp .ge 27, 3) := by decide +kernel
theorem d_Mo_full_9 : decode b_Mo_full 9 = .ok (.ldc2_w 66, 3) := by decide +kernel
theorem d_Mo_full_12 : decode b_Mo_full 12 = .ok (.lload_n 1, 1) := by decide +kernel
theorem d_Mo_full_13 : decode b_Mo_full 13 = .ok (.lmul, 1) := by decide +kernel
theorem d_Mo_full_14 : decode b_Mo_full 14 = .ok (.iload_n 3, 1) := by decide +kernel
theorem d_Mo_full_15 : decode b_Mo_full 15 = .ok (.iconst 2, 1) := by decide +kernel
theorem d_Mo_full_16 : decode b_Mo_full 16 = .ok (.irem, 1) := by decide +kernel
theorem d_Mo_full_17 : decode b_Mo_full 17 = .ok (.ifCond .ne 7, 3) := by decide +kernel
theorem d_Mo_full_20 : decode b_Mo_full 20 = .ok (.lconst 1, 1) := by decide +kernel
theorem d_Mo_full_21 : decode b_Mo_full 21 = .ok (.goto 4, 3) := by decide +kernel
theorem d_Mo_full_24 : decode b_Mo_full 24 = .ok (.lconst 0, 1) := by decide +kernel
theorem d_Mo_full_25 : decode b_Mo_full 25 = .ok (.ladd, 1) := by decide +kernel
theorem d_Mo_full_26 : decode b_Mo_full 26 = .ok (.lstore_n 1, 1) := by decide +kernel
theorem d_Mo_full_27 : decode b_Mo_full 27 = .ok (.iinc 3 1, 3) := by decide +kernel
theorem d_Mo_full_30 : decode b_Mo_full 30 = .ok (.goto (-26), 3) := by decide +kernel
theorem d_Mo_full_33 : decode b_Mo_full 33 = .ok (.lload_n 1, 1) := by decide +kernel
theorem d_Mo_full_34 : decode b_Mo_full 34 = .ok (.lreturn, 1) := by decide +kernel
theorem d_Mo_goal_0 : decode b_Mo_goal 0 = .ok (.aload_n 0, 1) := by decide +kernel
theorem d_Mo_goal_1 : decode b_Mo_goal 1 = .ok (.iconst 0, 1) := by decide +kernel
theorem d_Mo_goal_2 : decode b_Mo_goal 2 = .ok (.putfield 72, 3) := by decide +kernel
theorem d_Mo_goal_5 : decode b_Mo_goal 5 = .ok (.iload_n 1, 1) := by decide +kernel
theorem d_Mo_goal_6 : decode b_Mo_goal 6 = .ok (.ifCond .lt 42, 3) := by decide +kernel
theorem d_Mo_goal_9 : decode b_Mo_goal 9 = .ok (.iload_n 1, 1) := by decide +kernel
theorem d_Mo_goal_10 : decode b_Mo_goal 10 = .ok (.aload_n 0, 1) := by decide +kernel
theorem d_Mo_goal_11 : decode b_Mo_goal 11 = .ok (.getfield 75, 3) := by decide +kernel
theorem d_Mo_goal_14 : decode b_Mo_goal 14 = .ok (.if_icmp .ge 34, 3) := by decide +kernel
theorem d_Mo_goal_17 : decode b_Mo_goal 17 = .ok (.iload_n 2, 1) := by decide +kernel
theorem d_Mo_goal_18 : decode b_Mo_goal 18 = .ok (.iconst (-1), 1) := by decide +kernel
theorem d_Mo_goal_19 : decode b_Mo_goal 19 = .ok (.if_icmp .lt 29, 3) := by decide +kernel
theorem d_Mo_goal_22 : decode b_Mo_goal 22 = .ok (.iload_n 2, 1) := by decide +kernel
theorem d_Mo_goal_23 : decode b_Mo_goal 23 = .ok (.iload_n 1, 1) := by decide +kernel
theorem d_Mo_goal_24 : decode b_Mo_goal 24 = .ok (.ifCond .lt 11, 3) := by decide +kernel
theorem d_Mo_goal_27 : decode b_Mo_goal 27 = .ok (.iload_n 1, 1) := by decide +kernel
theorem d_Mo_goal_28 : decode b_Mo_goal 28 = .ok (.aload_n 0, 1) := by decide +kernel
theorem d_Mo_goal_29 : decode b_Mo_goal 29 = .ok (.getfield 75, 3) := by decide +kernel
theorem d_Mo_goal_32 : decode b_Mo_goal 32 = .ok (.if_icmp .lt 7, 3) := by decide +kernel
theorem d_Mo_goal_35 : decode b_Mo_goal 35 = .ok (.iconst 0, 1) := by decide +kernel
theorem d_Mo_goal_36 : decode b_Mo_goal 36 = .ok (.goto 9, 3) := by decide +kernel
theorem d_Mo_goal_39 : decode b_Mo_goal 39 = .ok (.aload_n 0, 1) := by decide +kernel
theorem d_Mo_goal_40 : decode b_Mo_goal 40 = .ok (.getfield 7, 3) := by decide +kernel
theorem d_Mo_goal_43 : decode b_Mo_goal 43 = .ok (.iload_n 1, 1) := by decide +kernel
theorem d_Mo_goal_44 : decode b_Mo_goal 44 = .ok (.iaload, 1) := by decide +kernel
theorem d_Mo_goal_45 : decode b_Mo_goal 45 = .ok (.if_icmp .le 5, 3) := by decide +kernel
theorem d_Mo_goal_48 : decode b_Mo_goal 48 = .ok (.iconst 0, 1) := by decide +kernel
theorem d_Mo_goal_49 : decode b_Mo_goal 49 = .ok (.ireturn, 1) := by decide +kernel
theorem d_Mo_goal_50 : decode b_Mo_goal 50 = .ok (.aload_n 0, 1) := by decide +kernel
theorem d_Mo_goal_51 : decode b_Mo_goal 51 = .ok (.getfield 16, 3) := by decide +kernel
theorem d_Mo_goal_54 : decode b_Mo_goal 54 = .ok (.iload_n 1, 1) := by decide +kernel
theorem d_Mo_goal_55 : decode b_Mo_goal 55 = .ok (.iload_n 2, 1) := by decide +kernel
theorem d_Mo_goal_56 : decode b_Mo_goal 56 = .ok (.iastore, 1) := by decide +kernel
theorem d_Mo_goal_57 : decode b_Mo_goal 57 = .ok (.aload_n 0, 1) := by decide +kernel
theorem d_Mo_goal_58 : decode b_Mo_goal 58 = .ok (.iconst 0, 1) := by decide +kernel
theorem d_Mo_goal_59 : decode b_Mo_goal 59 = .ok (.putfield 78, 3) := by decide +kernel
theorem d_Mo_goal_62 : decode b_Mo_goal 62 = .ok (.iconst 1, 1) := by decide +kernel
theorem d_Mo_goal_63 : decode b_Mo_goal 63 = .ok (.ireturn, 1) := by decide +kernel
theorem d_Mo_isGoal_0 : decode b_Mo_isGoal 0 = .ok (.aload_n 0, 1) := by decide +kernel
theorem d_Mo_isGoal_1 : decode b_Mo_isGoal 1 = .ok (.iload_n 1, 1) := by decide +kernel
theorem d_Mo_isGoal_2 : decode b_Mo_isGoal 2 = .ok (.invokevirtual 81, 3) := by decide +kernel
theorem d_Mo_isGoal_5 : decode b_Mo_isGoal 5 = .ok (.iconst 0, 1) := by decide +kernel
theorem d_Mo_isGoal_6 : decode b_Mo_isGoal 6 = .ok (.istore_n 2, 1) := by decide +kernel
theorem d_Mo_isGoal_7 : decode b_Mo_isGoal 7 = .ok (.iload_n 2, 1) := by decide +kernel
theorem d_Mo_isGoal_8 : decode b_Mo_isGoal 8 = .ok (.aload_n 0, 1) := by decide +kernel
theorem d_Mo_isGoal_9 : decode b_Mo_isGoal 9 = .ok (.getfield 75, 3) := by decide +kernel
theorem d_Mo_isGoal_12 : decode b_Mo_isGoal 12 = .ok (.if_icmp .ge 35, 3) := by decide +kernel
theorem d_Mo_isGoal_15 : decode b_Mo_isGoal 15 = .ok (.aload_n 0, 1) := by decide +kernel
theorem d_Mo_isGoal_16 : decode b_Mo_isGoal 16 = .ok (.getfield 16, 3) := by decide +kernel
theorem d_Mo_isGoal_19 : decode b_Mo_isGoal 19 = .ok (.iload_n 2, 1) := by decide +kernel
theorem d_Mo_isGoal_20 : decode b_Mo_isGoal 20 = .ok (.iaload, 1) := by decide +kernel
theorem d_Mo_isGoal_21 : decode b_Mo_isGoal 21 = .ok (.ifCond .lt 20, 3) := by decide +kernel
theorem d_Mo_isGoal_24 : decode b_Mo_isGoal 24 = .ok (.aload_n 0, 1) := by decide +kernel
theorem d_Mo_isGoal_25 : decode b_Mo_isGoal 25 = .ok (.getfield 44, 3) := by decide +kernel
theorem d_Mo_isGoal_28 : decode b_Mo_isGoal 28 = .ok (.iload_n 2, 1) := by decide +kernel
theorem d_Mo_isGoal_29 : decode b_Mo_isGoal 29 = .ok (.iaload, 1) := by decide +kernel
theorem d_Mo_isGoal_30 : decode b_Mo_isGoal 30 = .ok (.aload_n 0, 1) := by decide +kernel
theorem d_Mo_isGoal_31 : decode b_Mo_isGoal 31 = .ok (.getfield 16, 3) := by decide +kernel
theorem d_Mo_isGoal_34 : decode b_Mo_isGoal 34 = .ok (.iload_n 2, 1) := by decide +kernel
theorem d_Mo_isGoal_35 : decode b_Mo_isGoal 35 = .ok (.iaload, 1) := by decide +kernel
theorem d_Mo_isGoal_36 : decode b_Mo_isGoal 36 = .ok (.if_icmp .eq 5, 3) := by decide +kernel
theorem d_Mo_isGoal_39 : decode b_Mo_isGoal 39 = .ok (.iconst 0, 1) := by decide +kernel
theorem d_Mo_isGoal_40 : decode b_Mo_isGoal 40 = .ok (.ireturn, 1) := by decide +kernel
theorem d_Mo_isGoal_41 : decode b_Mo_isGoal 41 = .ok (.iinc 2 1, 3) := by decide +kernel
theorem d_Mo_isGoal_44 : decode b_Mo_isGoal 44 = .ok (.goto (-37), 3) := by decide +kernel
theorem d_Mo_isGoal_47 : decode b_Mo_isGoal 47 = .ok (.iconst 1, 1) := by decide +kernel
theorem d_Mo_isGoal_48 : decode b_Mo_isGoal 48 = .ok (.ireturn, 1) := by decide +kernel
theorem d_Mo_jug_0 : decode b_Mo_jug 0 = .ok (.aload_n 0, 1) := by decide +kernel
theorem d_Mo_jug_1 : decode b_Mo_jug 1 = .ok (.iconst 0, 1) := by decide +kernel
theorem d_Mo_jug_2 : decode b_Mo_jug 2 = .ok (.putfield 72, 3) := by decide +kernel
theorem d_Mo_jug_5 : decode b_Mo_jug 5 = .ok (.aload_n 0, 1) := by decide +kernel
theorem d_Mo_jug_6 : decode b_Mo_jug 6 = .ok (.getfield 75, 3) := by decide +kernel
theorem d_Mo_jug_9 : decode b_Mo_jug 9 = .ok (.iconst 4, 1) := by decide +kernel
theorem d_Mo_jug_10 : decode b_Mo_jug 10 = .ok (.if_icmp .eq 23, 3) := by decide +kernel
theorem d_Mo_jug_13 : decode b_Mo_jug 13 = .ok (.iload_n 1, 1) := by decide +kernel
theorem d_Mo_jug_14 : decode b_Mo_jug 14 = .ok (.iconst 1, 1) := by decide +kernel
theorem d_Mo_jug_15 : decode b_Mo_jug 15 = .ok (.if_icmp .lt 18, 3) := by decide +kernel
theorem d_Mo_jug_18 : decode b_Mo_jug 18 = .ok (.iload_n 1, 1) := by decide +kernel
theorem d_Mo_jug_19 : decode b_Mo_jug 19 = .ok (.bipush 9, 2) := by decide +kernel
theorem d_Mo_jug_21 : decode b_Mo_jug 21 = .ok (.if_icmp .gt 12, 3) := by decide +kernel
theorem d_Mo_jug_24 : decode b_Mo_jug 24 = .ok (.iload_n 2, 1) := by decide +kernel
theorem d_Mo_jug_25 : decode b_Mo_jug 25 = .ok (.ifCond .lt 8, 3) := by decide +kernel
theorem d_Mo_jug_28 : decode b_Mo_jug 28 = .ok (.iload_n 2, 1) := by decide +kernel
theorem d_Mo_jug_29 : decode b_Mo_jug 29 = .ok (.iload_n 1, 1) := by decide +kernel
theorem d_Mo_jug_30 : decode b_Mo_jug 30 = .ok (.if_icmp .le 5, 3) := by decide +kernel
theorem d_Mo_jug_33 : decode b_Mo_jug 33 = .ok (.iconst (-1), 1) := by decide +kernel
theorem d_Mo_jug_34 : decode b_Mo_jug 34 = .ok (.ireturn, 1) := by decide +kernel
theorem d_Mo_jug_35 : decode b_Mo_jug 35 = .ok (.aload_n 0, 1) := by decide +kernel
theorem d_Mo_jug_36 : decode b_Mo_jug 36 = .ok (.getfield 7, 3) := by decide +kernel
theorem d_Mo_jug_39 : decode b_Mo_jug 39 = .ok (.aload_n 0, 1) := by decide +kernel
theorem d_Mo_jug_40 : decode b_Mo_jug 40 = .ok (.getfield 75, 3) := by decide +kernel
theorem d_Mo_jug_43 : decode b_Mo_jug 43 = .ok (.iload_n 1, 1) := by decide +kernel
theorem d_Mo_jug_44 : decode b_Mo_jug 44 = .ok (.iastore, 1) := by decide +kernel
theorem d_Mo_jug_45 : decode b_Mo_jug 45 = .ok (.aload_n 0, 1) := by decide +kernel
theorem d_Mo_jug_46 : decode b_Mo_jug 46 = .ok (.getfield 13, 3) := by decide +kernel
theorem d_Mo_jug_49 : decode b_Mo_jug 49 = .ok (.aload_n 0, 1) := by decide +kernel
theorem d_Mo_jug_50 : decode b_Mo_jug 50 = .ok (.getfield 75, 3) := by decide +kernel
theorem d_Mo_jug_53 : decode b_Mo_jug 53 = .ok (.iload_n 2, 1) := by decide +kernel
theorem d_Mo_jug_54 : decode b_Mo_jug 54 = .ok (.iastore, 1) := by decide +kernel
theorem d_Mo_jug_55 : decode b_Mo_jug 55 = .ok (.aload_n 0, 1) := by decide +kernel
theorem d_Mo_jug_56 : decode b_Mo_jug 56 = .ok (.getfield 16, 3) := by decide +kernel
theorem d_Mo_jug_59 : decode b_Mo_jug 59 = .ok (.aload_n 0, 1) := by decide +kernel
theorem d_Mo_jug_60 : decode b_Mo_jug 60 = .ok (.getfield 75, 3) := by decide +kernel
theorem d_Mo_jug_63 : decode b_Mo_jug 63 = .ok (.iconst (-1), 1) := by decide +kernel
theorem d_Mo_jug_64 : decode b_Mo_jug 64 = .ok (.iastore, 1) := by decide +kernel
theorem d_Mo_jug_65 : decode b_Mo_jug 65 = .ok (.aload_n 0, 1) := by decide +kernel
theorem d_Mo_jug_66 : decode b_Mo_jug 66 = .ok (.dup, 1) := by decide +kernel
theorem d_Mo_jug_67 : decode b_Mo_jug 67 = .ok (.getfield 75, 3) := by decide +kernel
theorem d_Mo_jug_70 : decode b_Mo_jug 70 = .ok (.iconst 1, 1) := by decide +kernel
theorem d_Mo_jug_71 : decode b_Mo_jug 71 = .ok (.iadd, 1) := by decide +kernel
theorem d_Mo_jug_72 : decode b_Mo_jug 72 = .ok (.putfield 75, 3) := by decide +kernel
theorem d_Mo_jug_75 : decode b_Mo_jug 75 = .ok (.aload_n 0, 1) := by decide +kernel
theorem d_Mo_jug_76 : decode b_Mo_jug 76 = .ok (.iconst 0, 1) := by decide +kernel
theorem d_Mo_jug_77 : decode b_Mo_jug 77 = .ok (.putfield 78, 3) := by decide +kernel
theorem d_Mo_jug_80 : decode b_Mo_jug 80 = .ok (.aload_n 0, 1) := by decide +kernel
theorem d_Mo_jug_81 : decode b_Mo_jug 81 = .ok (.getfield 75, 3) := by decide +kernel
theorem d_Mo_jug_84 : decode b_Mo_jug 84 = .ok (.iconst 1, 1) := by decide +kernel
theorem d_Mo_jug_85 : decode b_Mo_jug 85 = .ok (.isub, 1) := by decide +kernel
theorem d_Mo_jug_86 : decode b_Mo_jug 86 = .ok (.ireturn, 1) := by decide +kernel
theorem d_Mo_jugs_0 : decode b_Mo_jugs 0 = .ok (.aload_n 0, 1) := by decide +kernel
theorem d_Mo_jugs_1 : decode b_Mo_jugs 1 = .ok (.iconst 0, 1) := by decide +kernel
theorem d_Mo_jugs_2 : decode b_Mo_jugs 2 = .ok (.putfield 72, 3) := by decide +kernel
theorem d_Mo_jugs_5 : decode b_Mo_jugs 5 = .ok (.aload_n 0, 1) := by decide +kernel
theorem d_Mo_jugs_6 : decode b_Mo_jugs 6 = .ok (.iconst 0, 1) := by decide +kernel
theorem d_Mo_jugs_7 : decode b_Mo_jugs 7 = .ok (.putfield 78, 3) := by decide +kernel
theorem d_Mo_jugs_10 : decode b_Mo_jugs 10 = .ok (.iconst 0, 1) := by decide +kernel
theorem d_Mo_jugs_11 : decode b_Mo_jugs 11 = .ok (.istore_n 1, 1) := by decide +kernel
theorem d_Mo_jugs_12 : decode b_Mo_jugs 12 = .ok (.iload_n 1, 1) := by decide +kernel
theorem d_Mo_jugs_13 : decode b_Mo_jugs 13 = .ok (.iconst 4, 1) := by decide +kernel
theorem d_Mo_jugs_14 : decode b_Mo_jugs 14 = .ok (.if_icmp .ge 21, 3) := by decide +kernel
theorem d_Mo_jugs_17 : decode b_Mo_jugs 17 = .ok (.aload_n 0, 1) := by decide +kernel
theorem d_Mo_jugs_18 : decode b_Mo_jugs 18 = .ok (.getfield 44, 3) := by decide +kernel
theorem d_Mo_jugs_21 : decode b_Mo_jugs 21 = .ok (.iload_n 1, 1) := by decide +kernel
theorem d_Mo_jugs_22 : decode b_Mo_jugs 22 = .ok (.aload_n 0, 1) := by decide +kernel
theorem d_Mo_jugs_23 : decode b_Mo_jugs 23 = .ok (.getfield 13, 3) := by decide +kernel
theorem d_Mo_jugs_26 : decode b_Mo_jugs 26 = .ok (.iload_n 1, 1) := by decide +kernel
theorem d_Mo_jugs_27 : decode b_Mo_jugs 27 = .ok (.iaload, 1) := by decide +kernel
theorem d_Mo_jugs_28 : decode b_Mo_jugs 28 = .ok (.iastore, 1) := by decide +kernel
theorem d_Mo_jugs_29 : decode b_Mo_jugs 29 = .ok (.iinc 1 1, 3) := by decide +kernel
theorem d_Mo_jugs_32 : decode b_Mo_jugs 32 = .ok (.goto (-20), 3) := by decide +kernel
theorem d_Mo_jugs_35 : decode b_Mo_jugs 35 = .ok (.aload_n 0, 1) := by decide +kernel
theorem d_Mo_jugs_36 : decode b_Mo_jugs 36 = .ok (.aload_n 0, 1) := by decide +kernel
theorem d_Mo_jugs_37 : decode b_Mo_jugs 37 = .ok (.invokevirtual 92, 3) := by decide +kernel
theorem d_Mo_jugs_40 : decode b_Mo_jugs 40 = .ok (.invokevirtual 96, 3) := by decide +kernel
theorem d_Mo_jugs_43 : decode b_Mo_jugs 43 = .ok (.iconst 0, 1) := by decide +kernel
theorem d_Mo_jugs_44 : decode b_Mo_jugs 44 = .ok (.istore_n 1, 1) := by decide +kernel
theorem d_Mo_jugs_45 : decode b_Mo_jugs 45 = .ok (.iload_n 1, 1) := by decide +kernel
theorem d_Mo_jugs_46 : decode b_Mo_jugs 46 = .ok (.aload_n 0, 1) := by decide +kernel
theorem d_Mo_jugs_47 : decode b_Mo_jugs 47 = .ok (.getfield 85, 3) := by decide +kernel
theorem d_Mo_jugs_50 : decode b_Mo_jugs 50 = .ok (.if_icmp .ge 95, 3) := by decide +kernel
theorem d_Mo_jugs_53 : decode b_Mo_jugs 53 = .ok (.aload_n 0, 1) := by decide +kernel
theorem d_Mo_jugs_54 : decode b_Mo_jugs 54 = .ok (.aload_n 0, 1) := by decide +kernel
theorem d_Mo_jugs_55 : decode b_Mo_jugs 55 = .ok (.getfield 28, 3) := by decide +kernel
theorem d_Mo_jugs_58 : decode b_Mo_jugs 58 = .ok (.iload_n 1, 1) := by decide +kernel
theorem d_Mo_jugs_59 : decode b_Mo_jugs 59 = .ok (.iaload, 1) := by decide +kernel
theorem d_Mo_jugs_60 : decode b_Mo_jugs 60 = .ok (.invokevirtual 99, 3) := by decide +kernel
theorem d_Mo_jugs_63 : decode b_Mo_jugs 63 = .ok (.ifCond .eq 9, 3) := by decide +kernel
theorem d_Mo_jugs_66 : decode b_Mo_jugs 66 = .ok (.aload_n 0, 1) := by decide +kernel
theorem d_Mo_jugs_67 : decode b_Mo_jugs 67 = .ok (.iload_n 1, 1) := by decide +kernel
theorem d_Mo_jugs_68 : decode b_Mo_jugs 68 = .ok (.invokevirtual 103, 3) := by decide +kernel
theorem d_Mo_jugs_71 : decode b_Mo_jugs 71 = .ok (.ireturn, 1) := by decide +kernel
theorem d_Mo_jugs_72 : decode b_Mo_jugs 72 = .ok (.iconst (-1), 1) := by decide +kernel
theorem d_Mo_jugs_73 : decode b_Mo_jugs 73 = .ok (.istore_n 2, 1) := by decide +kernel
theorem d_Mo_jugs_74 : decode b_Mo_jugs 74 = .ok (.iload_n 2, 1) := by decide +kernel
theorem d_Mo_jugs_75 : decode b_Mo_jugs 75 = .ok (.aload_n 0, 1) := by decide +kernel
theorem d_Mo_jugs_76 : decode b_Mo_jugs 76 = .ok (.getfield 75, 3) := by decide +kernel
theorem d_Mo_jugs_79 : decode b_Mo_jugs 79 = .ok (.if_icmp .ge 60, 3) := by decide +kernel
theorem d_Mo_jugs_82 : decode b_Mo_jugs 82 = .ok (.iconst (-1), 1) := by decide +kernel
theorem d_Mo_jugs_83 : decode b_Mo_jugs 83 = .ok (.istore_n 3, 1) := by decide +kernel
theorem d_Mo_jugs_84 : decode b_Mo_jugs 84 = .ok (.iload_n 3, 1) := by decide +kernel
theorem d_Mo_jugs_85 : decode b_Mo_jugs 85 = .ok (.aload_n 0, 1) := by decide +kernel
theorem d_Mo_jugs_86 : decode b_Mo_jugs 86 = .ok (.getfield 75, 3) := by decide +kernel
theorem d_Mo_jugs_89 : decode b_Mo_jugs 89 = .ok (.if_icmp .ge 44, 3) := by decide +kernel
theorem d_Mo_jugs_92 : decode b_Mo_jugs 92 = .ok (.iload_n 2, 1) := by decide +kernel
theorem d_Mo_jugs_93 : decode b_Mo_jugs 93 = .ok (.iload_n 3, 1) := by decide +kernel
theorem d_Mo_jugs_94 : decode b_Mo_jugs 94 = .ok (.if_icmp .ne 6, 3) := by decide +kernel
theorem d_Mo_jugs_97 : decode b_Mo_jugs 97 = .ok (.goto 30, 3) := by decide +kernel
theorem d_Mo_jugs_100 : decode b_Mo_jugs 100 = .ok (.aload_n 0, 1) := by decide +kernel
theorem d_Mo_jugs_101 : decode b_Mo_jugs 101 = .ok (.aload_n 0, 1) := by decide +kernel
theorem d_Mo_jugs_102 : decode b_Mo_jugs 102 = .ok (.getfield 28, 3) := by decide +kernel
theorem d_Mo_jugs_105 : decode b_Mo_jugs 105 = .ok (.iload_n 1, 1) := by decide +kernel
theorem d_Mo_jugs_106 : decode b_Mo_jugs 106 = .ok (.iaload, 1) := by decide +kernel
theorem d_Mo_jugs_107 : decode b_Mo_jugs 107 = .ok (.invokevirtual 81, 3) := by decide +kernel
theorem d_Mo_jugs_110 : decode b_Mo_jugs 110 = .ok (.aload_n 0, 1) := by decide +kernel
theorem d_Mo_jugs_111 : decode b_Mo_jugs 111 = .ok (.iload_n 2, 1) := by decide +kernel
theorem d_Mo_jugs_112 : decode b_Mo_jugs 112 = .ok (.iload_n 3, 1) := by decide +kernel
theorem d_Mo_jugs_113 : decode b_Mo_jugs 113 = .ok (.invokevirtual 107, 3) := by decide +kernel
theorem d_Mo_jugs_116 : decode b_Mo_jugs 116 = .ok (.aload_n 0, 1) := by decide +kernel
theorem d_Mo_jugs_117 : decode b_Mo_jugs 117 = .ok (.aload_n 0, 1) := by decide +kernel
theorem d_Mo_jugs_118 : decode b_Mo_jugs 118 = .ok (.invokevirtual 92, 3) := by decide +kernel
theorem d_Mo_jugs_121 : decode b_Mo_jugs 121 = .ok (.iload_n 1, 1) := by decide +kernel
theorem d_Mo_jugs_122 : decode b_Mo_jugs 122 = .ok (.iload_n 2, 1) := by decide +kernel
theorem d_Mo_jugs_123 : decode b_Mo_jugs 123 = .ok (.iload_n 3, 1) := by decide +kernel
theorem d_Mo_jugs_124 : decode b_Mo_jugs 124 = .ok (.invokevirtual 88, 3) := by decide +kernel
theorem d_Mo_jugs_127 : decode b_Mo_jugs 127 = .ok (.iinc 3 1, 3) := by decide +kernel
theorem d_Mo_jugs_130 : decode b_Mo_jugs 130 = .ok (.goto (-46), 3) := by decide +kernel
theorem d_Mo_jugs_133 : decode b_Mo_jugs 133 = .ok (.iinc 2 1, 3) := by decide +kernel
theorem d_Mo_jugs_136 : decode b_Mo_jugs 136 = .ok (.goto (-62), 3) := by decide +kernel
theorem d_Mo_jugs_139 : decode b_Mo_jugs 139 = .ok (.iinc 1 1, 3) := by decide +kernel
theorem d_Mo_jugs_142 : decode b_Mo_jugs 142 = .ok (.goto (-97), 3) := by decide +kernel
theorem d_Mo_jugs_145 : decode b_Mo_jugs 145 = .ok (.iconst (-1), 1) := by decide +kernel
theorem d_Mo_jugs_146 : decode b_Mo_jugs 146 = .ok (.ireturn, 1) := by decide +kernel
theorem d_Mo_mayStay_0 : decode b_Mo_mayStay 0 = .ok (.iconst 0, 1) := by decide +kernel
theorem d_Mo_mayStay_1 : decode b_Mo_mayStay 1 = .ok (.istore_n 2, 1) := by decide +kernel
theorem d_Mo_mayStay_2 : decode b_Mo_mayStay 2 = .ok (.iload_n 2, 1) := by decide +kernel
theorem d_Mo_mayStay_3 : decode b_Mo_mayStay 3 = .ok (.aload_n 0, 1) := by decide +kernel
theorem d_Mo_mayStay_4 : decode b_Mo_mayStay 4 = .ok (.getfield 114, 3) := by decide +kernel
theorem d_Mo_mayStay_7 : decode b_Mo_mayStay 7 = .ok (.if_icmp .ge 31, 3) := by decide +kernel
theorem d_Mo_mayStay_10 : decode b_Mo_mayStay 10 = .ok (.iload_n 1, 1) := by decide +kernel
theorem d_Mo_mayStay_11 : decode b_Mo_mayStay 11 = .ok (.iload_n 2, 1) := by decide +kernel
theorem d_Mo_mayStay_12 : decode b_Mo_mayStay 12 = .ok (.ishr, 1) := by decide +kernel
theorem d_Mo_mayStay_13 : decode b_Mo_mayStay 13 = .ok (.iconst 1, 1) := by decide +kernel
theorem d_Mo_mayStay_14 : decode b_Mo_mayStay 14 = .ok (.iand, 1) := by decide +kernel
theorem d_Mo_mayStay_15 : decode b_Mo_mayStay 15 = .ok (.iconst 1, 1) := by decide +kernel
theorem d_Mo_mayStay_16 : decode b_Mo_mayStay 16 = .ok (.if_icmp .ne 16, 3) := by decide +kernel
theorem d_Mo_mayStay_19 : decode b_Mo_mayStay 19 = .ok (.aload_n 0, 1) := by decide +kernel
theorem d_Mo_mayStay_20 : decode b_Mo_mayStay 20 = .ok (.getfield 50, 3) := by decide +kernel
theorem d_Mo_mayStay_23 : decode b_Mo_mayStay 23 = .ok (.iload_n 2, 1) := by decide +kernel
theorem d_Mo_mayStay_24 : decode b_Mo_mayStay 24 = .ok (.iaload, 1) := by decide +kernel
theorem d_Mo_mayStay_25 : decode b_Mo_mayStay 25 = .ok (.iload_n 1, 1) := by decide +kernel
theorem d_Mo_mayStay_26 : decode b_Mo_mayStay 26 = .ok (.iand, 1) := by decide +kernel
theorem d_Mo_mayStay_27 : decode b_Mo_mayStay 27 = .ok (.ifCond .eq 5, 3) := by decide +kernel
theorem d_Mo_mayStay_30 : decode b_Mo_mayStay 30 = .ok (.iconst 0, 1) := by decide +kernel
theorem d_Mo_mayStay_31 : decode b_Mo_mayStay 31 = .ok (.ireturn, 1) := by decide +kernel
theorem d_Mo_mayStay_32 : decode b_Mo_mayStay 32 = .ok (.iinc 2 1, 3) := by decide +kernel
theorem d_Mo_mayStay_35 : decode b_Mo_mayStay 35 = .ok (.goto (-33), 3) := by decide +kernel
theorem d_Mo_mayStay_38 : decode b_Mo_mayStay 38 = .ok (.iconst 1, 1) := by decide +kernel
theorem d_Mo_mayStay_39 : decode b_Mo_mayStay 39 = .ok (.ireturn, 1) := by decide +kernel
theorem d_Mo_parse_0 : decode b_Mo_parse 0 = .ok (.aload_n 0, 1) := by decide +kernel
theorem d_Mo_parse_1 : decode b_Mo_parse 1 = .ok (.iconst 0, 1) := by decide +kernel
theorem d_Mo_parse_2 : decode b_Mo_parse 2 = .ok (.putfield 114, 3) := by decide +kernel
theorem d_Mo_parse_5 : decode b_Mo_parse 5 = .ok (.iconst 0, 1) := by decide +kernel
theorem d_Mo_parse_6 : decode b_Mo_parse 6 = .ok (.istore_n 1, 1) := by decide +kernel
theorem d_Mo_parse_7 : decode b_Mo_parse 7 = .ok (.iload_n 1, 1) := by decide +kernel
theorem d_Mo_parse_8 : decode b_Mo_parse 8 = .ok (.bipush 8, 2) := by decide +kernel
theorem d_Mo_parse_10 : decode b_Mo_parse 10 = .ok (.if_icmp .ge 23, 3) := by decide +kernel
theorem d_Mo_parse_13 : decode b_Mo_parse 13 = .ok (.aload_n 0, 1) := by decide +kernel
theorem d_Mo_parse_14 : decode b_Mo_parse 14 = .ok (.getfield 47, 3) := by decide +kernel
theorem d_Mo_parse_17 : decode b_Mo_parse 17 = .ok (.iload_n 1, 1) := by decide +kernel
theorem d_Mo_parse_18 : decode b_Mo_parse 18 = .ok (.iconst (-1), 1) := by decide +kernel
theorem d_Mo_parse_19 : decode b_Mo_parse 19 = .ok (.iastore, 1) := by decide +kernel
theorem d_Mo_parse_20 : decode b_Mo_parse 20 = .ok (.aload_n 0, 1) := by decide +kernel
theorem d_Mo_parse_21 : decode b_Mo_parse 21 = .ok (.getfield 50, 3) := by decide +kernel
theorem d_Mo_parse_24 : decode b_Mo_parse 24 = .ok (.iload_n 1, 1) := by decide +kernel
theorem d_Mo_parse_25 : decode b_Mo_parse 25 = .ok (.iconst 0, 1) := by decide +kernel
theorem d_Mo_parse_26 : decode b_Mo_parse 26 = .ok (.iastore, 1) := by decide +kernel
theorem d_Mo_parse_27 : decode b_Mo_parse 27 = .ok (.iinc 1 1, 3) := by decide +kernel
theorem d_Mo_parse_30 : decode b_Mo_parse 30 = .ok (.goto (-23), 3) := by decide +kernel
theorem d_Mo_parse_33 : decode b_Mo_parse 33 = .ok (.iconst 0, 1) := by decide +kernel
theorem d_Mo_parse_34 : decode b_Mo_parse 34 = .ok (.istore_n 1, 1) := by decide +kernel
theorem d_Mo_parse_35 : decode b_Mo_parse 35 = .ok (.aload_n 0, 1) := by decide +kernel
theorem d_Mo_parse_36 : decode b_Mo_parse 36 = .ok (.iload_n 1, 1) := by decide +kernel
theorem d_Mo_parse_37 : decode b_Mo_parse 37 = .ok (.invokevirtual 117, 3) := by decide +kernel
theorem d_Mo_parse_40 : decode b_Mo_parse 40 = .ok (.bipush 97, 2) := by decide +kernel
theorem d_Mo_parse_42 : decode b_Mo_parse 42 = .ok (.if_icmp .lt 58, 3) := by decide +kernel
theorem d_Mo_parse_45 : decode b_Mo_parse 45 = .ok (.aload_n 0, 1) := by decide +kernel
theorem d_Mo_parse_46 : decode b_Mo_parse 46 = .ok (.iload_n 1, 1) := by decide +kernel
theorem d_Mo_parse_47 : decode b_Mo_parse 47 = .ok (.invokevirtual 117, 3) := by decide +kernel
theorem d_Mo_parse_50 : decode b_Mo_parse 50 = .ok (.bipush 104, 2) := by decide +kernel
theorem d_Mo_parse_52 : decode b_Mo_parse 52 = .ok (.if_icmp .gt 48, 3) := by decide +kernel
theorem d_Mo_parse_55 : decode b_Mo_parse 55 = .ok (.aload_n 0, 1) := by decide +kernel
theorem d_Mo_parse_56 : decode b_Mo_parse 56 = .ok (.aload_n 0, 1) := by decide +kernel
theorem d_Mo_parse_57 : decode b_Mo_parse 57 = .ok (.iload_n 1, 1) := by decide +kernel
theorem d_Mo_parse_58 : decode b_Mo_parse 58 = .ok (.invokevirtual 117, 3) := by decide +kernel
theorem d_Mo_parse_61 : decode b_Mo_parse 61 = .ok (.invokevirtual 120, 3) := by decide +kernel
theorem d_Mo_parse_64 : decode b_Mo_parse 64 = .ok (.ifCond .ge 36, 3) := by decide +kernel
theorem d_Mo_parse_67 : decode b_Mo_parse 67 = .ok (.aload_n 0, 1) := by decide +kernel
theorem d_Mo_parse_68 : decode b_Mo_parse 68 = .ok (.getfield 47, 3) := by decide +kernel
theorem d_Mo_parse_71 : decode b_Mo_parse 71 = .ok (.aload_n 0, 1) := by decide +kernel
theorem d_Mo_parse_72 : decode b_Mo_parse 72 = .ok (.iload_n 1, 1) := by decide +kernel
theorem d_Mo_parse_73 : decode b_Mo_parse 73 = .ok (.invokevirtual 117, 3) := by decide +kernel
theorem d_Mo_parse_76 : decode b_Mo_parse 76 = .ok (.bipush 97, 2) := by decide +kernel
theorem d_Mo_parse_78 : decode b_Mo_parse 78 = .ok (.isub, 1) := by decide +kernel
theorem d_Mo_parse_79 : decode b_Mo_parse 79 = .ok (.aload_n 0, 1) := by decide +kernel
theorem d_Mo_parse_80 : decode b_Mo_parse 80 = .ok (.getfield 114, 3) := by decide +kernel
theorem d_Mo_parse_83 : decode b_Mo_parse 83 = .ok (.iastore, 1) := by decide +kernel
theorem d_Mo_parse_84 : decode b_Mo_parse 84 = .ok (.aload_n 0, 1) := by decide +kernel
theorem d_Mo_parse_85 : decode b_Mo_parse 85 = .ok (.dup, 1) := by decide +kernel
theorem d_Mo_parse_86 : decode b_Mo_parse 86 = .ok (.getfield 114, 3) := by decide +kernel
theorem d_Mo_parse_89 : decode b_Mo_parse 89 = .ok (.iconst 1, 1) := by decide +kernel
theorem d_Mo_parse_90 : decode b_Mo_parse 90 = .ok (.iadd, 1) := by decide +kernel
theorem d_Mo_parse_91 : decode b_Mo_parse 91 = .ok (.putfield 114, 3) := by decide +kernel
theorem d_Mo_parse_94 : decode b_Mo_parse 94 = .ok (.iinc 1 1, 3) := by decide +kernel
theorem d_Mo_parse_97 : decode b_Mo_parse 97 = .ok (.goto (-62), 3) := by decide +kernel
theorem d_Mo_parse_100 : decode b_Mo_parse 100 = .ok (.aload_n 0, 1) := by decide +kernel
theorem d_Mo_parse_101 : decode b_Mo_parse 101 = .ok (.getfield 114, 3) := by decide +kernel
theorem d_Mo_parse_104 : decode b_Mo_parse 104 = .ok (.ifCond .ne 5, 3) := by decide +kernel
theorem d_Mo_parse_107 : decode b_Mo_parse 107 = .ok (.iload_n 1, 1) := by decide +kernel
theorem d_Mo_parse_108 : decode b_Mo_parse 108 = .ok (.ireturn, 1) := by decide +kernel
theorem d_Mo_parse_109 : decode b_Mo_parse 109 = .ok (.aload_n 0, 1) := by decide +kernel
theorem d_Mo_parse_110 : decode b_Mo_parse 110 = .ok (.iload_n 1, 1) := by decide +kernel
theorem d_Mo_parse_111 : decode b_Mo_parse 111 = .ok (.invokevirtual 117, 3) := by decide +kernel
theorem d_Mo_parse_114 : decode b_Mo_parse 114 = .ok (.bipush 32, 2) := by decide +kernel
theorem d_Mo_parse_116 : decode b_Mo_parse 116 = .ok (.if_icmp .eq 5, 3) := by decide +kernel
theorem d_Mo_parse_119 : decode b_Mo_parse 119 = .ok (.iload_n 1, 1) := by decide +kernel
theorem d_Mo_parse_120 : decode b_Mo_parse 120 = .ok (.ireturn, 1) := by decide +kernel
theorem d_Mo_parse_121 : decode b_Mo_parse 121 = .ok (.iinc 1 1, 3) := by decide +kernel
theorem d_Mo_parse_124 : decode b_Mo_parse 124 = .ok (.aload_n 0, 1) := by decide +kernel
theorem d_Mo_parse_125 : decode b_Mo_parse 125 = .ok (.iload_n 1, 1) := by decide +kernel
theorem d_Mo_parse_126 : decode b_Mo_parse 126 = .ok (.invokevirtual 117, 3) := by decide +kernel
theorem d_Mo_parse_129 : decode b_Mo_parse 129 = .ok (.bipush 49, 2) := by decide +kernel
theorem d_Mo_parse_131 : decode b_Mo_parse 131 = .ok (.if_icmp .lt 43, 3) := by decide +kernel
theorem d_Mo_parse_134 : decode b_Mo_parse 134 = .ok (.aload_n 0, 1) := by decide +kernel
theorem d_Mo_parse_135 : decode b_Mo_parse 135 = .ok (.iload_n 1, 1) := by decide +kernel
theorem d_Mo_parse_136 : decode b_Mo_parse 136 = .ok (.invokevirtual 117, 3) := by decide +kernel
theorem d_Mo_parse_139 : decode b_Mo_parse 139 = .ok (.bipush 51, 2) := by decide +kernel
theorem d_Mo_parse_141 : decode b_Mo_parse 141 = .ok (.if_icmp .gt 33, 3) := by decide +kernel
theorem d_Mo_parse_144 : decode b_Mo_parse 144 = .ok (.aload_n 0, 1) := by decide +kernel
theorem d_Mo_parse_145 : decode b_Mo_parse 145 = .ok (.aload_n 0, 1) := by decide +kernel
theorem d_Mo_parse_146 : decode b_Mo_parse 146 = .ok (.iload_n 1, 1) := by decide +kernel
theorem d_Mo_parse_147 : decode b_Mo_parse 147 = .ok (.invokevirtual 117, 3) := by decide +kernel
theorem d_Mo_parse_150 : decode b_Mo_parse 150 = .ok (.bipush 48, 2) := by decide +kernel
theorem d_Mo_parse_152 : decode b_Mo_parse 152 = .ok (.isub, 1) := by decide +kernel
theorem d_Mo_parse_153 : decode b_Mo_parse 153 = .ok (.putfield 123, 3) := by decide +kernel
theorem d_Mo_parse_156 : decode b_Mo_parse 156 = .ok (.iload_n 1, 1) := by decide +kernel
theorem d_Mo_parse_157 : decode b_Mo_parse 157 = .ok (.iconst 1, 1) := by decide +kernel
theorem d_Mo_parse_158 : decode b_Mo_parse 158 = .ok (.iadd, 1) := by decide +kernel
theorem d_Mo_parse_159 : decode b_Mo_parse 159 = .ok (.aload_n 0, 1) := by decide +kernel
theorem d_Mo_parse_160 : decode b_Mo_parse 160 = .ok (.getfield 111, 3) := by decide +kernel
theorem d_Mo_parse_163 : decode b_Mo_parse 163 = .ok (.if_icmp .ne 7, 3) := by decide +kernel
theorem d_Mo_parse_166 : decode b_Mo_parse 166 = .ok (.iconst (-1), 1) := by decide +kernel
theorem d_Mo_parse_167 : decode b_Mo_parse 167 = .ok (.goto 6, 3) := by decide +kernel
theorem d_Mo_parse_170 : decode b_Mo_parse 170 = .ok (.iload_n 1, 1) := by decide +kernel
theorem d_Mo_parse_171 : decode b_Mo_parse 171 = .ok (.iconst 1, 1) := by decide +kernel
theorem d_Mo_parse_172 : decode b_Mo_parse 172 = .ok (.iadd, 1) := by decide +kernel
theorem d_Mo_parse_173 : decode b_Mo_parse 173 = .ok (.ireturn, 1) := by decide +kernel
theorem d_Mo_parse_174 : decode b_Mo_parse 174 = .ok (.aload_n 0, 1) := by decide +kernel
theorem d_Mo_parse_175 : decode b_Mo_parse 175 = .ok (.aload_n 0, 1) := by decide +kernel
theorem d_Mo_parse_176 : decode b_Mo_parse 176 = .ok (.iload_n 1, 1) := by decide +kernel
theorem d_Mo_parse_177 : decode b_Mo_parse 177 = .ok (.invokevirtual 117, 3) := by decide +kernel
theorem d_Mo_parse_180 : decode b_Mo_parse 180 = .ok (.invokevirtual 120, 3) := by decide +kernel
theorem d_Mo_parse_183 : decode b_Mo_parse 183 = .ok (.istore_n 2, 1) := by decide +kernel
theorem d_Mo_parse_184 : decode b_Mo_parse 184 = .ok (.iload_n 2, 1) := by decide +kernel
theorem d_Mo_parse_185 : decode b_Mo_parse 185 = .ok (.ifCond .ge 5, 3) := by decide +kernel
theorem d_Mo_parse_188 : decode b_Mo_parse 188 = .ok (.iload_n 1, 1) := by decide +kernel
theorem d_Mo_parse_189 : decode b_Mo_parse 189 = .ok (.ireturn, 1) := by decide +kernel
theorem d_Mo_parse_190 : decode b_Mo_parse 190 = .ok (.aload_n 0, 1) := by decide +kernel
theorem d_Mo_parse_191 : decode b_Mo_parse 191 = .ok (.aload_n 0, 1) := by decide +kernel
theorem d_Mo_parse_192 : decode b_Mo_parse 192 = .ok (.iload_n 1, 1) := by decide +kernel
theorem d_Mo_parse_193 : decode b_Mo_parse 193 = .ok (.iconst 1, 1) := by decide +kernel
theorem d_Mo_parse_194 : decode b_Mo_parse 194 = .ok (.iadd, 1) := by decide +kernel
theorem d_Mo_parse_195 : decode b_Mo_parse 195 = .ok (.invokevirtual 117, 3) := by decide +kernel
theorem d_Mo_parse_198 : decode b_Mo_parse 198 = .ok (.invokevirtual 120, 3) := by decide +kernel
theorem d_Mo_parse_201 : decode b_Mo_parse 201 = .ok (.istore_n 3, 1) := by decide +kernel
theorem d_Mo_parse_202 : decode b_Mo_parse 202 = .ok (.iload_n 3, 1) := by decide +kernel
theorem d_Mo_parse_203 : decode b_Mo_parse 203 = .ok (.ifCond .lt 8, 3) := by decide +kernel
theorem d_Mo_parse_206 : decode b_Mo_parse 206 = .ok (.iload_n 2, 1) := by decide +kernel
theorem d_Mo_parse_207 : decode b_Mo_parse 207 = .ok (.iload_n 3, 1) := by decide +kernel
theorem d_Mo_parse_208 : decode b_Mo_parse 208 = .ok (.if_icmp .ne 7, 3) := by decide +kernel
theorem d_Mo_parse_211 : decode b_Mo_parse 211 = .ok (.iload_n 1, 1) := by decide +kernel
theorem d_Mo_parse_212 : decode b_Mo_parse 212 = .ok (.iconst 1, 1) := by decide +kernel
theorem d_Mo_parse_213 : decode b_Mo_parse 213 = .ok (.iadd, 1) := by decide +kernel
theorem d_Mo_parse_214 : decode b_Mo_parse 214 = .ok (.ireturn, 1) := by decide +kernel
theorem d_Mo_parse_215 : decode b_Mo_parse 215 = .ok (.aload_n 0, 1) := by decide +kernel
theorem d_Mo_parse_216 : decode b_Mo_parse 216 = .ok (.getfield 50, 3) := by decide +kernel
theorem d_Mo_parse_219 : decode b_Mo_parse 219 = .ok (.iload_n 2, 1) := by decide +kernel
theorem d_Mo_parse_220 : decode b_Mo_parse 220 = .ok (.aload_n 0, 1) := by decide +kernel
theorem d_Mo_parse_221 : decode b_Mo_parse 221 = .ok (.getfield 50, 3) := by decide +kernel
