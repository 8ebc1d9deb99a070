theorem d_Sp_init_0 : decode b_Sp_init 0 = .ok (.aload_n 0, 1) := by decide +kernel
theorem d_Sp_init_1 : decode b_Sp_init 1 = .ok (.invokespecial 1, 3) := by decide +kernel
theorem d_Sp_init_4 : decode b_Sp_init 4 = .ok (.aload_n 0, 1) := by decide +kernel
theorem d_Sp_init_5 : decode b_Sp_init 5 = .ok (.new 7, 3) := by decide +kernel
theorem d_Sp_init_8 : decode b_Sp_init 8 = .ok (.dup, 1) := by decide +kernel
theorem d_Sp_init_9 : decode b_Sp_init 9 = .ok (.invokespecial 9, 3) := by decide +kernel
theorem d_Sp_init_12 : decode b_Sp_init 12 = .ok (.putfield 10, 3) := by decide +kernel
theorem d_Sp_init_15 : decode b_Sp_init 15 = .ok (.aload_n 0, 1) := by decide +kernel
theorem d_Sp_init_16 : decode b_Sp_init 16 = .ok (.new 16, 3) := by decide +kernel
theorem d_Sp_init_19 : decode b_Sp_init 19 = .ok (.dup, 1) := by decide +kernel
theorem d_Sp_init_20 : decode b_Sp_init 20 = .ok (.invokespecial 18, 3) := by decide +kernel
theorem d_Sp_init_23 : decode b_Sp_init 23 = .ok (.putfield 19, 3) := by decide +kernel
theorem d_Sp_init_26 : decode b_Sp_init 26 = .ok (.aload_n 0, 1) := by decide +kernel
theorem d_Sp_init_27 : decode b_Sp_init 27 = .ok (.new 23, 3) := by decide +kernel
theorem d_Sp_init_30 : decode b_Sp_init 30 = .ok (.dup, 1) := by decide +kernel
theorem d_Sp_init_31 : decode b_Sp_init 31 = .ok (.invokespecial 25, 3) := by decide +kernel
theorem d_Sp_init_34 : decode b_Sp_init 34 = .ok (.putfield 26, 3) := by decide +kernel
theorem d_Sp_init_37 : decode b_Sp_init 37 = .ok (.aload_n 0, 1) := by decide +kernel
theorem d_Sp_init_38 : decode b_Sp_init 38 = .ok (.new 30, 3) := by decide +kernel
theorem d_Sp_init_41 : decode b_Sp_init 41 = .ok (.dup, 1) := by decide +kernel
theorem d_Sp_init_42 : decode b_Sp_init 42 = .ok (.invokespecial 32, 3) := by decide +kernel
theorem d_Sp_init_45 : decode b_Sp_init 45 = .ok (.putfield 33, 3) := by decide +kernel
theorem d_Sp_init_48 : decode b_Sp_init 48 = .ok (.aload_n 0, 1) := by decide +kernel
theorem d_Sp_init_49 : decode b_Sp_init 49 = .ok (.new 37, 3) := by decide +kernel
theorem d_Sp_init_52 : decode b_Sp_init 52 = .ok (.dup, 1) := by decide +kernel
theorem d_Sp_init_53 : decode b_Sp_init 53 = .ok (.invokespecial 39, 3) := by decide +kernel
theorem d_Sp_init_56 : decode b_Sp_init 56 = .ok (.putfield 40, 3) := by decide +kernel
theorem d_Sp_init_59 : decode b_Sp_init 59 = .ok (.aload_n 0, 1) := by decide +kernel
theorem d_Sp_init_60 : decode b_Sp_init 60 = .ok (.new 44, 3) := by decide +kernel
theorem d_Sp_init_63 : decode b_Sp_init 63 = .ok (.dup, 1) := by decide +kernel
theorem d_Sp_init_64 : decode b_Sp_init 64 = .ok (.invokespecial 46, 3) := by decide +kernel
theorem d_Sp_init_67 : decode b_Sp_init 67 = .ok (.putfield 47, 3) := by decide +kernel
theorem d_Sp_init_70 : decode b_Sp_init 70 = .ok (.return_, 1) := by decide +kernel
theorem d_Sp_crossing_0 : decode b_Sp_crossing 0 = .ok (.aload_n 0, 1) := by decide +kernel
theorem d_Sp_crossing_1 : decode b_Sp_crossing 1 = .ok (.getfield 26, 3) := by decide +kernel
theorem d_Sp_crossing_4 : decode b_Sp_crossing 4 = .ok (.aload_n 0, 1) := by decide +kernel
theorem d_Sp_crossing_5 : decode b_Sp_crossing 5 = .ok (.getfield 19, 3) := by decide +kernel
theorem d_Sp_crossing_8 : decode b_Sp_crossing 8 = .ok (.invokevirtual 69, 3) := by decide +kernel
theorem d_Sp_crossing_11 : decode b_Sp_crossing 11 = .ok (.istore_n 1, 1) := by decide +kernel
theorem d_Sp_crossing_12 : decode b_Sp_crossing 12 = .ok (.aload_n 0, 1) := by decide +kernel
theorem d_Sp_crossing_13 : decode b_Sp_crossing 13 = .ok (.getfield 26, 3) := by decide +kernel
theorem d_Sp_crossing_16 : decode b_Sp_crossing 16 = .ok (.invokevirtual 73, 3) := by decide +kernel
theorem d_Sp_crossing_19 : decode b_Sp_crossing 19 = .ok (.iload_n 1, 1) := by decide +kernel
theorem d_Sp_crossing_20 : decode b_Sp_crossing 20 = .ok (.iconst (-1), 1) := by decide +kernel
theorem d_Sp_crossing_21 : decode b_Sp_crossing 21 = .ok (.if_icmp .eq 15, 3) := by decide +kernel
theorem d_Sp_crossing_24 : decode b_Sp_crossing 24 = .ok (.aload_n 0, 1) := by decide +kernel
theorem d_Sp_crossing_25 : decode b_Sp_crossing 25 = .ok (.getfield 40, 3) := by decide +kernel
theorem d_Sp_crossing_28 : decode b_Sp_crossing 28 = .ok (.invokevirtual 51, 3) := by decide +kernel
theorem d_Sp_crossing_31 : decode b_Sp_crossing 31 = .ok (.bipush (-2), 2) := by decide +kernel
theorem d_Sp_crossing_33 : decode b_Sp_crossing 33 = .ok (.iload_n 1, 1) := by decide +kernel
theorem d_Sp_crossing_34 : decode b_Sp_crossing 34 = .ok (.isub, 1) := by decide +kernel
theorem d_Sp_crossing_35 : decode b_Sp_crossing 35 = .ok (.ireturn, 1) := by decide +kernel
theorem d_Sp_crossing_36 : decode b_Sp_crossing 36 = .ok (.aload_n 0, 1) := by decide +kernel
theorem d_Sp_crossing_37 : decode b_Sp_crossing 37 = .ok (.aload_n 0, 1) := by decide +kernel
theorem d_Sp_crossing_38 : decode b_Sp_crossing 38 = .ok (.getfield 19, 3) := by decide +kernel
theorem d_Sp_crossing_41 : decode b_Sp_crossing 41 = .ok (.invokevirtual 62, 3) := by decide +kernel
theorem d_Sp_crossing_44 : decode b_Sp_crossing 44 = .ok (.ireturn, 1) := by decide +kernel
theorem d_Sp_find_0 : decode b_Sp_find 0 = .ok (.aload_n 0, 1) := by decide +kernel
theorem d_Sp_find_1 : decode b_Sp_find 1 = .ok (.getfield 40, 3) := by decide +kernel
theorem d_Sp_find_4 : decode b_Sp_find 4 = .ok (.invokevirtual 51, 3) := by decide +kernel
theorem d_Sp_find_7 : decode b_Sp_find 7 = .ok (.aload_n 0, 1) := by decide +kernel
theorem d_Sp_find_8 : decode b_Sp_find 8 = .ok (.getfield 33, 3) := by decide +kernel
theorem d_Sp_find_11 : decode b_Sp_find 11 = .ok (.aload_n 1, 1) := by decide +kernel
theorem d_Sp_find_12 : decode b_Sp_find 12 = .ok (.invokevirtual 104, 3) := by decide +kernel
theorem d_Sp_find_15 : decode b_Sp_find 15 = .ok (.istore_n 2, 1) := by decide +kernel
theorem d_Sp_find_16 : decode b_Sp_find 16 = .ok (.iload_n 2, 1) := by decide +kernel
theorem d_Sp_find_17 : decode b_Sp_find 17 = .ok (.iconst (-1), 1) := by decide +kernel
theorem d_Sp_find_18 : decode b_Sp_find 18 = .ok (.if_icmp .ne 5, 3) := by decide +kernel
theorem d_Sp_find_21 : decode b_Sp_find 21 = .ok (.iconst (-1), 1) := by decide +kernel
theorem d_Sp_find_22 : decode b_Sp_find 22 = .ok (.ireturn, 1) := by decide +kernel
theorem d_Sp_find_23 : decode b_Sp_find 23 = .ok (.aload_n 0, 1) := by decide +kernel
theorem d_Sp_find_24 : decode b_Sp_find 24 = .ok (.getfield 33, 3) := by decide +kernel
theorem d_Sp_find_27 : decode b_Sp_find 27 = .ok (.iload_n 2, 1) := by decide +kernel
theorem d_Sp_find_28 : decode b_Sp_find 28 = .ok (.invokevirtual 107, 3) := by decide +kernel
theorem d_Sp_find_31 : decode b_Sp_find 31 = .ok (.istore_n 3, 1) := by decide +kernel
theorem d_Sp_find_32 : decode b_Sp_find 32 = .ok (.aload_n 0, 1) := by decide +kernel
theorem d_Sp_find_33 : decode b_Sp_find 33 = .ok (.getfield 40, 3) := by decide +kernel
theorem d_Sp_find_36 : decode b_Sp_find 36 = .ok (.iload_n 3, 1) := by decide +kernel
theorem d_Sp_find_37 : decode b_Sp_find 37 = .ok (.invokevirtual 110, 3) := by decide +kernel
theorem d_Sp_find_40 : decode b_Sp_find 40 = .ok (.iload_n 2, 1) := by decide +kernel
theorem d_Sp_find_41 : decode b_Sp_find 41 = .ok (.istore 4, 2) := by decide +kernel
theorem d_Sp_find_43 : decode b_Sp_find 43 = .ok (.iload_n 3, 1) := by decide +kernel
theorem d_Sp_find_44 : decode b_Sp_find 44 = .ok (.iconst 1, 1) := by decide +kernel
theorem d_Sp_find_45 : decode b_Sp_find 45 = .ok (.isub, 1) := by decide +kernel
theorem d_Sp_find_46 : decode b_Sp_find 46 = .ok (.istore 5, 2) := by decide +kernel
theorem d_Sp_find_48 : decode b_Sp_find 48 = .ok (.iload 5, 2) := by decide +kernel
theorem d_Sp_find_50 : decode b_Sp_find 50 = .ok (.ifCond .lt 54, 3) := by decide +kernel
theorem d_Sp_find_53 : decode b_Sp_find 53 = .ok (.aload_n 0, 1) := by decide +kernel
theorem d_Sp_find_54 : decode b_Sp_find 54 = .ok (.getfield 33, 3) := by decide +kernel
theorem d_Sp_find_57 : decode b_Sp_find 57 = .ok (.iload 4, 2) := by decide +kernel
theorem d_Sp_find_59 : decode b_Sp_find 59 = .ok (.invokevirtual 114, 3) := by decide +kernel
theorem d_Sp_find_62 : decode b_Sp_find 62 = .ok (.istore 6, 2) := by decide +kernel
theorem d_Sp_find_64 : decode b_Sp_find 64 = .ok (.aload_n 0, 1) := by decide +kernel
theorem d_Sp_find_65 : decode b_Sp_find 65 = .ok (.getfield 40, 3) := by decide +kernel
theorem d_Sp_find_68 : decode b_Sp_find 68 = .ok (.iload 5, 2) := by decide +kernel
theorem d_Sp_find_70 : decode b_Sp_find 70 = .ok (.aload_n 1, 1) := by decide +kernel
theorem d_Sp_find_71 : decode b_Sp_find 71 = .ok (.iload 6, 2) := by decide +kernel
theorem d_Sp_find_73 : decode b_Sp_find 73 = .ok (.invokevirtual 117, 3) := by decide +kernel
theorem d_Sp_find_76 : decode b_Sp_find 76 = .ok (.aload_n 1, 1) := by decide +kernel
theorem d_Sp_find_77 : decode b_Sp_find 77 = .ok (.iload 6, 2) := by decide +kernel
theorem d_Sp_find_79 : decode b_Sp_find 79 = .ok (.iload 4, 2) := by decide +kernel
theorem d_Sp_find_81 : decode b_Sp_find 81 = .ok (.invokevirtual 122, 3) := by decide +kernel
theorem d_Sp_find_84 : decode b_Sp_find 84 = .ok (.invokevirtual 125, 3) := by decide +kernel
theorem d_Sp_find_87 : decode b_Sp_find 87 = .ok (.aload_n 0, 1) := by decide +kernel
theorem d_Sp_find_88 : decode b_Sp_find 88 = .ok (.getfield 33, 3) := by decide +kernel
theorem d_Sp_find_91 : decode b_Sp_find 91 = .ok (.iload 4, 2) := by decide +kernel
theorem d_Sp_find_93 : decode b_Sp_find 93 = .ok (.invokevirtual 129, 3) := by decide +kernel
theorem d_Sp_find_96 : decode b_Sp_find 96 = .ok (.istore 4, 2) := by decide +kernel
theorem d_Sp_find_98 : decode b_Sp_find 98 = .ok (.iinc 5 (-1), 3) := by decide +kernel
theorem d_Sp_find_101 : decode b_Sp_find 101 = .ok (.goto (-53), 3) := by decide +kernel
theorem d_Sp_find_104 : decode b_Sp_find 104 = .ok (.iload_n 3, 1) := by decide +kernel
theorem d_Sp_find_105 : decode b_Sp_find 105 = .ok (.ireturn, 1) := by decide +kernel
theorem d_Sp_goal_0 : decode b_Sp_goal 0 = .ok (.aload_n 0, 1) := by decide +kernel
theorem d_Sp_goal_1 : decode b_Sp_goal 1 = .ok (.getfield 40, 3) := by decide +kernel
theorem d_Sp_goal_4 : decode b_Sp_goal 4 = .ok (.invokevirtual 51, 3) := by decide +kernel
theorem d_Sp_goal_7 : decode b_Sp_goal 7 = .ok (.aload_n 0, 1) := by decide +kernel
theorem d_Sp_goal_8 : decode b_Sp_goal 8 = .ok (.getfield 10, 3) := by decide +kernel
theorem d_Sp_goal_11 : decode b_Sp_goal 11 = .ok (.iload_n 1, 1) := by decide +kernel
theorem d_Sp_goal_12 : decode b_Sp_goal 12 = .ok (.iload_n 2, 1) := by decide +kernel
theorem d_Sp_goal_13 : decode b_Sp_goal 13 = .ok (.invokevirtual 58, 3) := by decide +kernel
theorem d_Sp_goal_16 : decode b_Sp_goal 16 = .ok (.ireturn, 1) := by decide +kernel
theorem d_Sp_jug_0 : decode b_Sp_jug 0 = .ok (.aload_n 0, 1) := by decide +kernel
theorem d_Sp_jug_1 : decode b_Sp_jug 1 = .ok (.getfield 40, 3) := by decide +kernel
theorem d_Sp_jug_4 : decode b_Sp_jug 4 = .ok (.invokevirtual 51, 3) := by decide +kernel
theorem d_Sp_jug_7 : decode b_Sp_jug 7 = .ok (.aload_n 0, 1) := by decide +kernel
theorem d_Sp_jug_8 : decode b_Sp_jug 8 = .ok (.getfield 10, 3) := by decide +kernel
theorem d_Sp_jug_11 : decode b_Sp_jug 11 = .ok (.iload_n 1, 1) := by decide +kernel
theorem d_Sp_jug_12 : decode b_Sp_jug 12 = .ok (.iload_n 2, 1) := by decide +kernel
theorem d_Sp_jug_13 : decode b_Sp_jug 13 = .ok (.invokevirtual 54, 3) := by decide +kernel
theorem d_Sp_jug_16 : decode b_Sp_jug 16 = .ok (.ireturn, 1) := by decide +kernel
theorem d_Sp_jugs_0 : decode b_Sp_jugs 0 = .ok (.aload_n 0, 1) := by decide +kernel
theorem d_Sp_jugs_1 : decode b_Sp_jugs 1 = .ok (.aload_n 0, 1) := by decide +kernel
theorem d_Sp_jugs_2 : decode b_Sp_jugs 2 = .ok (.getfield 10, 3) := by decide +kernel
theorem d_Sp_jugs_5 : decode b_Sp_jugs 5 = .ok (.invokevirtual 62, 3) := by decide +kernel
theorem d_Sp_jugs_8 : decode b_Sp_jugs 8 = .ok (.ireturn, 1) := by decide +kernel
theorem d_Sp_ring_0 : decode b_Sp_ring 0 = .ok (.iload_n 1, 1) := by decide +kernel
theorem d_Sp_ring_1 : decode b_Sp_ring 1 = .ok (.ifCond .lt 24, 3) := by decide +kernel
theorem d_Sp_ring_4 : decode b_Sp_ring 4 = .ok (.iload_n 1, 1) := by decide +kernel
theorem d_Sp_ring_5 : decode b_Sp_ring 5 = .ok (.bipush 60, 2) := by decide +kernel
theorem d_Sp_ring_7 : decode b_Sp_ring 7 = .ok (.if_icmp .gt 18, 3) := by decide +kernel
theorem d_Sp_ring_10 : decode b_Sp_ring 10 = .ok (.lload_n 2, 1) := by decide +kernel
theorem d_Sp_ring_11 : decode b_Sp_ring 11 = .ok (.lconst 0, 1) := by decide +kernel
theorem d_Sp_ring_12 : decode b_Sp_ring 12 = .ok (.lcmp, 1) := by decide +kernel
theorem d_Sp_ring_13 : decode b_Sp_ring 13 = .ok (.ifCond .lt 12, 3) := by decide +kernel
theorem d_Sp_ring_16 : decode b_Sp_ring 16 = .ok (.lload_n 2, 1) := by decide +kernel
theorem d_Sp_ring_17 : decode b_Sp_ring 17 = .ok (.iload_n 1, 1) := by decide +kernel
theorem d_Sp_ring_18 : decode b_Sp_ring 18 = .ok (.invokestatic 100, 3) := by decide +kernel
theorem d_Sp_ring_21 : decode b_Sp_ring 21 = .ok (.lcmp, 1) := by decide +kernel
theorem d_Sp_ring_22 : decode b_Sp_ring 22 = .ok (.ifCond .le 7, 3) := by decide +kernel
theorem d_Sp_ring_25 : decode b_Sp_ring 25 = .ok (.ldc2_w 94, 3) := by decide +kernel
theorem d_Sp_ring_28 : decode b_Sp_ring 28 = .ok (.lreturn, 1) := by decide +kernel
theorem d_Sp_ring_29 : decode b_Sp_ring 29 = .ok (.iload_n 1, 1) := by decide +kernel
theorem d_Sp_ring_30 : decode b_Sp_ring 30 = .ok (.invokestatic 100, 3) := by decide +kernel
theorem d_Sp_ring_33 : decode b_Sp_ring 33 = .ok (.lload_n 2, 1) := by decide +kernel
theorem d_Sp_ring_34 : decode b_Sp_ring 34 = .ok (.lsub, 1) := by decide +kernel
theorem d_Sp_ring_35 : decode b_Sp_ring 35 = .ok (.lstore 4, 2) := by decide +kernel
theorem d_Sp_ring_37 : decode b_Sp_ring 37 = .ok (.lload 4, 2) := by decide +kernel
theorem d_Sp_ring_39 : decode b_Sp_ring 39 = .ok (.lload 4, 2) := by decide +kernel
theorem d_Sp_ring_41 : decode b_Sp_ring 41 = .ok (.iconst 1, 1) := by decide +kernel
theorem d_Sp_ring_42 : decode b_Sp_ring 42 = .ok (.lshr, 1) := by decide +kernel
theorem d_Sp_ring_43 : decode b_Sp_ring 43 = .ok (.lxor, 1) := by decide +kernel
theorem d_Sp_ring_44 : decode b_Sp_ring 44 = .ok (.lreturn, 1) := by decide +kernel
theorem d_Sp_ringSteps_0 : decode b_Sp_ringSteps 0 = .ok (.ldc2_w 132, 3) := by decide +kernel
theorem d_Sp_ringSteps_3 : decode b_Sp_ringSteps 3 = .ok (.iload_n 0, 1) := by decide +kernel
theorem d_Sp_ringSteps_4 : decode b_Sp_ringSteps 4 = .ok (.lshl, 1) := by decide +kernel
theorem d_Sp_ringSteps_5 : decode b_Sp_ringSteps 5 = .ok (.ldc2_w 134, 3) := by decide +kernel
theorem d_Sp_ringSteps_8 : decode b_Sp_ringSteps 8 = .ok (.ldiv, 1) := by decide +kernel
theorem d_Sp_ringSteps_9 : decode b_Sp_ringSteps 9 = .ok (.lreturn, 1) := by decide +kernel
theorem d_Sp_rings_0 : decode b_Sp_rings 0 = .ok (.iload_n 1, 1) := by decide +kernel
theorem d_Sp_rings_1 : decode b_Sp_rings 1 = .ok (.ifCond .lt 9, 3) := by decide +kernel
theorem d_Sp_rings_4 : decode b_Sp_rings 4 = .ok (.iload_n 1, 1) := by decide +kernel
theorem d_Sp_rings_5 : decode b_Sp_rings 5 = .ok (.bipush 60, 2) := by decide +kernel
theorem d_Sp_rings_7 : decode b_Sp_rings 7 = .ok (.if_icmp .le 9, 3) := by decide +kernel
theorem d_Sp_rings_10 : decode b_Sp_rings 10 = .ok (.ldc2_w 94, 3) := by decide +kernel
theorem d_Sp_rings_13 : decode b_Sp_rings 13 = .ok (.goto 7, 3) := by decide +kernel
theorem d_Sp_rings_16 : decode b_Sp_rings 16 = .ok (.iload_n 1, 1) := by decide +kernel
theorem d_Sp_rings_17 : decode b_Sp_rings 17 = .ok (.invokestatic 100, 3) := by decide +kernel
theorem d_Sp_rings_20 : decode b_Sp_rings 20 = .ok (.lreturn, 1) := by decide +kernel
theorem d_Sp_step_0 : decode b_Sp_step 0 = .ok (.iload_n 2, 1) := by decide +kernel
theorem d_Sp_step_1 : decode b_Sp_step 1 = .ok (.ifCond .eq 14, 3) := by decide +kernel
theorem d_Sp_step_4 : decode b_Sp_step 4 = .ok (.aload_n 0, 1) := by decide +kernel
theorem d_Sp_step_5 : decode b_Sp_step 5 = .ok (.getfield 40, 3) := by decide +kernel
theorem d_Sp_step_8 : decode b_Sp_step 8 = .ok (.iload_n 1, 1) := by decide +kernel
theorem d_Sp_step_9 : decode b_Sp_step 9 = .ok (.invokevirtual 74, 3) := by decide +kernel
theorem d_Sp_step_12 : decode b_Sp_step 12 = .ok (.goto 11, 3) := by decide +kernel
theorem d_Sp_step_15 : decode b_Sp_step 15 = .ok (.aload_n 0, 1) := by decide +kernel
theorem d_Sp_step_16 : decode b_Sp_step 16 = .ok (.getfield 40, 3) := by decide +kernel
theorem d_Sp_step_19 : decode b_Sp_step 19 = .ok (.iload_n 1, 1) := by decide +kernel
theorem d_Sp_step_20 : decode b_Sp_step 20 = .ok (.invokevirtual 78, 3) := by decide +kernel
theorem d_Sp_step_23 : decode b_Sp_step 23 = .ok (.ireturn, 1) := by decide +kernel
theorem d_Sp_tower_0 : decode b_Sp_tower 0 = .ok (.aload_n 0, 1) := by decide +kernel
theorem d_Sp_tower_1 : decode b_Sp_tower 1 = .ok (.getfield 47, 3) := by decide +kernel
theorem d_Sp_tower_4 : decode b_Sp_tower 4 = .ok (.iload_n 1, 1) := by decide +kernel
theorem d_Sp_tower_5 : decode b_Sp_tower 5 = .ok (.iload_n 2, 1) := by decide +kernel
theorem d_Sp_tower_6 : decode b_Sp_tower 6 = .ok (.invokevirtual 87, 3) := by decide +kernel
theorem d_Sp_tower_9 : decode b_Sp_tower 9 = .ok (.ifCond .eq 13, 3) := by decide +kernel
theorem d_Sp_tower_12 : decode b_Sp_tower 12 = .ok (.aload_n 0, 1) := by decide +kernel
theorem d_Sp_tower_13 : decode b_Sp_tower 13 = .ok (.getfield 47, 3) := by decide +kernel
theorem d_Sp_tower_16 : decode b_Sp_tower 16 = .ok (.invokevirtual 90, 3) := by decide +kernel
theorem d_Sp_tower_19 : decode b_Sp_tower 19 = .ok (.goto 6, 3) := by decide +kernel
theorem d_Sp_tower_22 : decode b_Sp_tower 22 = .ok (.ldc2_w 94, 3) := by decide +kernel
theorem d_Sp_tower_25 : decode b_Sp_tower 25 = .ok (.lreturn, 1) := by decide +kernel
theorem d_Sp_towerMove_0 : decode b_Sp_towerMove 0 = .ok (.aload_n 0, 1) := by decide +kernel
theorem d_Sp_towerMove_1 : decode b_Sp_towerMove 1 = .ok (.getfield 47, 3) := by decide +kernel
theorem d_Sp_towerMove_4 : decode b_Sp_towerMove 4 = .ok (.lload_n 1, 1) := by decide +kernel
theorem d_Sp_towerMove_5 : decode b_Sp_towerMove 5 = .ok (.iload_n 3, 1) := by decide +kernel
theorem d_Sp_towerMove_6 : decode b_Sp_towerMove 6 = .ok (.invokevirtual 96, 3) := by decide +kernel
theorem d_Sp_towerMove_9 : decode b_Sp_towerMove 9 = .ok (.ireturn, 1) := by decide +kernel
theorem d_Sp_triesForHeavier_0 : decode b_Sp_triesForHeavier 0 = .ok (.iconst 0, 1) := by decide +kernel
theorem d_Sp_triesForHeavier_1 : decode b_Sp_triesForHeavier 1 = .ok (.istore_n 1, 1) := by decide +kernel
theorem d_Sp_triesForHeavier_2 : decode b_Sp_triesForHeavier 2 = .ok (.iconst 1, 1) := by decide +kernel
theorem d_Sp_triesForHeavier_3 : decode b_Sp_triesForHeavier 3 = .ok (.istore_n 2, 1) := by decide +kernel
theorem d_Sp_triesForHeavier_4 : decode b_Sp_triesForHeavier 4 = .ok (.iload_n 2, 1) := by decide +kernel
theorem d_Sp_triesForHeavier_5 : decode b_Sp_triesForHeavier 5 = .ok (.iload_n 0, 1) := by decide +kernel
theorem d_Sp_triesForHeavier_6 : decode b_Sp_triesForHeavier 6 = .ok (.if_icmp .ge 13, 3) := by decide +kernel
theorem d_Sp_triesForHeavier_9 : decode b_Sp_triesForHeavier 9 = .ok (.iinc 1 1, 3) := by decide +kernel
theorem d_Sp_triesForHeavier_12 : decode b_Sp_triesForHeavier 12 = .ok (.iload_n 2, 1) := by decide +kernel
theorem d_Sp_triesForHeavier_13 : decode b_Sp_triesForHeavier 13 = .ok (.iconst 3, 1) := by decide +kernel
theorem d_Sp_triesForHeavier_14 : decode b_Sp_triesForHeavier 14 = .ok (.imul, 1) := by decide +kernel
theorem d_Sp_triesForHeavier_15 : decode b_Sp_triesForHeavier 15 = .ok (.istore_n 2, 1) := by decide +kernel
theorem d_Sp_triesForHeavier_16 : decode b_Sp_triesForHeavier 16 = .ok (.goto (-12), 3) := by decide +kernel
theorem d_Sp_triesForHeavier_19 : decode b_Sp_triesForHeavier 19 = .ok (.iload_n 1, 1) := by decide +kernel
theorem d_Sp_triesForHeavier_20 : decode b_Sp_triesForHeavier 20 = .ok (.ireturn, 1) := by decide +kernel
theorem d_Sp_triesForOdd_0 : decode b_Sp_triesForOdd 0 = .ok (.iload_n 0, 1) := by decide +kernel
theorem d_Sp_triesForOdd_1 : decode b_Sp_triesForOdd 1 = .ok (.iconst 3, 1) := by decide +kernel
theorem d_Sp_triesForOdd_2 : decode b_Sp_triesForOdd 2 = .ok (.if_icmp .ge 5, 3) := by decide +kernel
theorem d_Sp_triesForOdd_5 : decode b_Sp_triesForOdd 5 = .ok (.iconst (-1), 1) := by decide +kernel
theorem d_Sp_triesForOdd_6 : decode b_Sp_triesForOdd 6 = .ok (.ireturn, 1) := by decide +kernel
theorem d_Sp_triesForOdd_7 : decode b_Sp_triesForOdd 7 = .ok (.iconst 2, 1) := by decide +kernel
theorem d_Sp_triesForOdd_8 : decode b_Sp_triesForOdd 8 = .ok (.istore_n 1, 1) := by decide +kernel
theorem d_Sp_triesForOdd_9 : decode b_Sp_triesForOdd 9 = .ok (.iconst 3, 1) := by decide +kernel
theorem d_Sp_triesForOdd_10 : decode b_Sp_triesForOdd 10 = .ok (.istore_n 2, 1) := by decide +kernel
theorem d_Sp_triesForOdd_11 : decode b_Sp_triesForOdd 11 = .ok (.iload_n 2, 1) := by decide +kernel
theorem d_Sp_triesForOdd_12 : decode b_Sp_triesForOdd 12 = .ok (.iload_n 0, 1) := by decide +kernel
theorem d_Sp_triesForOdd_13 : decode b_Sp_triesForOdd 13 = .ok (.if_icmp .ge 15, 3) := by decide +kernel
theorem d_Sp_triesForOdd_16 : decode b_Sp_triesForOdd 16 = .ok (.iinc 1 1, 3) := by decide +kernel
theorem d_Sp_triesForOdd_19 : decode b_Sp_triesForOdd 19 = .ok (.iload_n 2, 1) := by decide +kernel
theorem d_Sp_triesForOdd_20 : decode b_Sp_triesForOdd 20 = .ok (.iconst 3, 1) := by decide +kernel
theorem d_Sp_triesForOdd_21 : decode b_Sp_triesForOdd 21 = .ok (.imul, 1) := by decide +kernel
theorem d_Sp_triesForOdd_22 : decode b_Sp_triesForOdd 22 = .ok (.iconst 3, 1) := by decide +kernel
theorem d_Sp_triesForOdd_23 : decode b_Sp_triesForOdd 23 = .ok (.iadd, 1) := by decide +kernel
theorem d_Sp_triesForOdd_24 : decode b_Sp_triesForOdd 24 = .ok (.istore_n 2, 1) := by decide +kernel
theorem d_Sp_triesForOdd_25 : decode b_Sp_triesForOdd 25 = .ok (.goto (-14), 3) := by decide +kernel
theorem d_Sp_triesForOdd_28 : decode b_Sp_triesForOdd 28 = .ok (.iload_n 1, 1) := by decide +kernel
theorem d_Sp_triesForOdd_29 : decode b_Sp_triesForOdd 29 = .ok (.ireturn, 1) := by decide +kernel
theorem d_Sp_unit_0 : decode b_Sp_unit 0 = .ok (.aload_n 0, 1) := by decide +kernel
theorem d_Sp_unit_1 : decode b_Sp_unit 1 = .ok (.getfield 26, 3) := by decide +kernel
theorem d_Sp_unit_4 : decode b_Sp_unit 4 = .ok (.iload_n 1, 1) := by decide +kernel
theorem d_Sp_unit_5 : decode b_Sp_unit 5 = .ok (.invokevirtual 66, 3) := by decide +kernel
theorem d_Sp_unit_8 : decode b_Sp_unit 8 = .ok (.ireturn, 1) := by decide +kernel
theorem d_Sp_weigh_0 : decode b_Sp_weigh 0 = .ok (.iload_n 1, 1) := by decide +kernel
theorem d_Sp_weigh_1 : decode b_Sp_weigh 1 = .ok (.iconst 1, 1) := by decide +kernel
theorem d_Sp_weigh_2 : decode b_Sp_weigh 2 = .ok (.if_icmp .lt 9, 3) := by decide +kernel
theorem d_Sp_weigh_5 : decode b_Sp_weigh 5 = .ok (.iload_n 1, 1) := by decide +kernel
theorem d_Sp_weigh_6 : decode b_Sp_weigh 6 = .ok (.bipush 13, 2) := by decide +kernel
theorem d_Sp_weigh_8 : decode b_Sp_weigh 8 = .ok (.if_icmp .le 6, 3) := by decide +kernel
theorem d_Sp_weigh_11 : decode b_Sp_weigh 11 = .ok (.bipush (-2), 2) := by decide +kernel
theorem d_Sp_weigh_13 : decode b_Sp_weigh 13 = .ok (.ireturn, 1) := by decide +kernel
theorem d_Sp_weigh_14 : decode b_Sp_weigh 14 = .ok (.iload_n 2, 1) := by decide +kernel
theorem d_Sp_weigh_15 : decode b_Sp_weigh 15 = .ok (.ifCond .ne 8, 3) := by decide +kernel
theorem d_Sp_weigh_18 : decode b_Sp_weigh 18 = .ok (.iload_n 1, 1) := by decide +kernel
theorem d_Sp_weigh_19 : decode b_Sp_weigh 19 = .ok (.invokestatic 81, 3) := by decide +kernel
theorem d_Sp_weigh_22 : decode b_Sp_weigh 22 = .ok (.ireturn, 1) := by decide +kernel
theorem d_Sp_weigh_23 : decode b_Sp_weigh 23 = .ok (.iload_n 2, 1) := by decide +kernel
theorem d_Sp_weigh_24 : decode b_Sp_weigh 24 = .ok (.iconst 1, 1) := by decide +kernel
theorem d_Sp_weigh_25 : decode b_Sp_weigh 25 = .ok (.if_icmp .ne 10, 3) := by decide +kernel
theorem d_Sp_weigh_28 : decode b_Sp_weigh 28 = .ok (.iload_n 1, 1) := by decide +kernel
theorem d_Sp_weigh_29 : decode b_Sp_weigh 29 = .ok (.invokestatic 84, 3) := by decide +kernel
theorem d_Sp_weigh_32 : decode b_Sp_weigh 32 = .ok (.goto 5, 3) := by decide +kernel
theorem d_Sp_weigh_35 : decode b_Sp_weigh 35 = .ok (.bipush (-2), 2) := by decide +kernel
theorem d_Sp_weigh_37 : decode b_Sp_weigh 37 = .ok (.ireturn, 1) := by decide +kernel
theorem d_Fs_init_0 : decode b_Fs_init 0 = .ok (.aload_n 0, 1) := by decide +kernel
theorem d_Fs_init_1 : decode b_Fs_init 1 = .ok (.invokespecial 3, 3) := by decide +kernel
theorem d_Fs_init_4 : decode b_Fs_init 4 = .ok (.aload_n 0, 1) := by decide +kernel
theorem d_Fs_init_5 : decode b_Fs_init 5 = .ok (.bipush 8, 2) := by decide +kernel
theorem d_Fs_init_7 : decode b_Fs_init 7 = .ok (.newarray .int, 2) := by decide +kernel
theorem d_Fs_init_9 : decode b_Fs_init 9 = .ok (.putfield 11, 3) := by decide +kernel
theorem d_Fs_init_12 : decode b_Fs_init 12 = .ok (.aload_n 0, 1) := by decide +kernel
theorem d_Fs_init_13 : decode b_Fs_init 13 = .ok (.bipush 8, 2) := by decide +kernel
theorem d_Fs_init_15 : decode b_Fs_init 15 = .ok (.newarray .int, 2) := by decide +kernel
theorem d_Fs_init_17 : decode b_Fs_init 17 = .ok (.putfield 15, 3) := by decide +kernel
theorem d_Fs_init_20 : decode b_Fs_init 20 = .ok (.return_, 1) := by decide +kernel
theorem d_Fs_first_0 : decode b_Fs_first 0 = .ok (.aload_n 0, 1) := by decide +kernel
theorem d_Fs_first_1 : decode b_Fs_first 1 = .ok (.iload_n 1, 1) := by decide +kernel
theorem d_Fs_first_2 : decode b_Fs_first 2 = .ok (.invokevirtual 28, 3) := by decide +kernel
theorem d_Fs_first_5 : decode b_Fs_first 5 = .ok (.ifCond .eq 12, 3) := by decide +kernel
theorem d_Fs_first_8 : decode b_Fs_first 8 = .ok (.aload_n 0, 1) := by decide +kernel
theorem d_Fs_first_9 : decode b_Fs_first 9 = .ok (.getfield 11, 3) := by decide +kernel
theorem d_Fs_first_12 : decode b_Fs_first 12 = .ok (.iload_n 1, 1) := by decide +kernel
theorem d_Fs_first_13 : decode b_Fs_first 13 = .ok (.iaload, 1) := by decide +kernel
theorem d_Fs_first_14 : decode b_Fs_first 14 = .ok (.goto 5, 3) := by decide +kernel
theorem d_Fs_first_17 : decode b_Fs_first 17 = .ok (.bipush (-2), 2) := by decide +kernel
theorem d_Fs_first_19 : decode b_Fs_first 19 = .ok (.ireturn, 1) := by decide +kernel
theorem d_Fs_forget_0 : decode b_Fs_forget 0 = .ok (.aload_n 0, 1) := by decide +kernel
theorem d_Fs_forget_1 : decode b_Fs_forget 1 = .ok (.iconst 0, 1) := by decide +kernel
theorem d_Fs_forget_2 : decode b_Fs_forget 2 = .ok (.putfield 18, 3) := by decide +kernel
theorem d_Fs_forget_5 : decode b_Fs_forget 5 = .ok (.return_, 1) := by decide +kernel
theorem d_Fs_isFound_0 : decode b_Fs_isFound 0 = .ok (.iload_n 1, 1) := by decide +kernel
theorem d_Fs_isFound_1 : decode b_Fs_isFound 1 = .ok (.ifCond .lt 33, 3) := by decide +kernel
theorem d_Fs_isFound_4 : decode b_Fs_isFound 4 = .ok (.iload_n 1, 1) := by decide +kernel
theorem d_Fs_isFound_5 : decode b_Fs_isFound 5 = .ok (.aload_n 0, 1) := by decide +kernel
theorem d_Fs_isFound_6 : decode b_Fs_isFound 6 = .ok (.getfield 18, 3) := by decide +kernel
theorem d_Fs_isFound_9 : decode b_Fs_isFound 9 = .ok (.if_icmp .ge 25, 3) := by decide +kernel
theorem d_Fs_isFound_12 : decode b_Fs_isFound 12 = .ok (.iload_n 1, 1) := by decide +kernel
theorem d_Fs_isFound_13 : decode b_Fs_isFound 13 = .ok (.aload_n 0, 1) := by decide +kernel
theorem d_Fs_isFound_14 : decode b_Fs_isFound 14 = .ok (.getfield 11, 3) := by decide +kernel
theorem d_Fs_isFound_17 : decode b_Fs_isFound 17 = .ok (.arraylength, 1) := by decide +kernel
theorem d_Fs_isFound_18 : decode b_Fs_isFound 18 = .ok (.if_icmp .ge 16, 3) := by decide +kernel
theorem d_Fs_isFound_21 : decode b_Fs_isFound 21 = .ok (.iload_n 1, 1) := by decide +kernel
theorem d_Fs_isFound_22 : decode b_Fs_isFound 22 = .ok (.aload_n 0, 1) := by decide +kernel
theorem d_Fs_isFound_23 : decode b_Fs_isFound 23 = .ok (.getfield 15, 3) := by decide +kernel
theorem d_Fs_isFound_26 : decode b_Fs_isFound 26 = .ok (.arraylength, 1) := by decide +kernel
theorem d_Fs_isFound_27 : decode b_Fs_isFound 27 = .ok (.if_icmp .ge 7, 3) := by decide +kernel
theorem d_Fs_isFound_30 : decode b_Fs_isFound 30 = .ok (.iconst 1, 1) := by decide +kernel
theorem d_Fs_isFound_31 : decode b_Fs_isFound 31 = .ok (.goto 4, 3) := by decide +kernel
theorem d_Fs_isFound_34 : decode b_Fs_isFound 34 = .ok (.iconst 0, 1) := by decide +kernel
theorem d_Fs_isFound_35 : decode b_Fs_isFound 35 = .ok (.ireturn, 1) := by decide +kernel
theorem d_Fs_makeRoom_0 : decode b_Fs_makeRoom 0 = .ok (.iload_n 1, 1) := by decide +kernel
theorem d_Fs_makeRoom_1 : decode b_Fs_makeRoom 1 = .ok (.aload_n 0, 1) := by decide +kernel
theorem d_Fs_makeRoom_2 : decode b_Fs_makeRoom 2 = .ok (.getfield 11, 3) := by decide +kernel
theorem d_Fs_makeRoom_5 : decode b_Fs_makeRoom 5 = .ok (.arraylength, 1) := by decide +kernel
theorem d_Fs_makeRoom_6 : decode b_Fs_makeRoom 6 = .ok (.if_icmp .le 24, 3) := by decide +kernel
theorem d_Fs_makeRoom_9 : decode b_Fs_makeRoom 9 = .ok (.iload_n 1, 1) := by decide +kernel
theorem d_Fs_makeRoom_10 : decode b_Fs_makeRoom 10 = .ok (.sipush 10000, 3) := by decide +kernel
theorem d_Fs_makeRoom_13 : decode b_Fs_makeRoom 13 = .ok (.if_icmp .gt 17, 3) := by decide +kernel
theorem d_Fs_makeRoom_16 : decode b_Fs_makeRoom 16 = .ok (.aload_n 0, 1) := by decide +kernel
theorem d_Fs_makeRoom_17 : decode b_Fs_makeRoom 17 = .ok (.iload_n 1, 1) := by decide +kernel
theorem d_Fs_makeRoom_18 : decode b_Fs_makeRoom 18 = .ok (.newarray .int, 2) := by decide +kernel
theorem d_Fs_makeRoom_20 : decode b_Fs_makeRoom 20 = .ok (.putfield 11, 3) := by decide +kernel
theorem d_Fs_makeRoom_23 : decode b_Fs_makeRoom 23 = .ok (.aload_n 0, 1) := by decide +kernel
theorem d_Fs_makeRoom_24 : decode b_Fs_makeRoom 24 = .ok (.iload_n 1, 1) := by decide +kernel
theorem d_Fs_makeRoom_25 : decode b_Fs_makeRoom 25 = .ok (.newarray .int, 2) := by decide +kernel
theorem d_Fs_makeRoom_27 : decode b_Fs_makeRoom 27 = .ok (.putfield 15, 3) := by decide +kernel
theorem d_Fs_makeRoom_30 : decode b_Fs_makeRoom 30 = .ok (.aload_n 0, 1) := by decide +kernel
theorem d_Fs_makeRoom_31 : decode b_Fs_makeRoom 31 = .ok (.iload_n 1, 1) := by decide +kernel
theorem d_Fs_makeRoom_32 : decode b_Fs_makeRoom 32 = .ok (.aload_n 0, 1) := by decide +kernel
theorem d_Fs_makeRoom_33 : decode b_Fs_makeRoom 33 = .ok (.getfield 11, 3) := by decide +kernel
theorem d_Fs_makeRoom_36 : decode b_Fs_makeRoom 36 = .ok (.arraylength, 1) := by decide +kernel
theorem d_Fs_makeRoom_37 : decode b_Fs_makeRoom 37 = .ok (.invokestatic 22, 3) := by decide +kernel
theorem d_Fs_makeRoom_40 : decode b_Fs_makeRoom 40 = .ok (.putfield 18, 3) := by decide +kernel
theorem d_Fs_makeRoom_43 : decode b_Fs_makeRoom 43 = .ok (.return_, 1) := by decide +kernel
theorem d_Fs_put_0 : decode b_Fs_put 0 = .ok (.aload_n 0, 1) := by decide +kernel
theorem d_Fs_put_1 : decode b_Fs_put 1 = .ok (.iload_n 1, 1) := by decide +kernel
theorem d_Fs_put_2 : decode b_Fs_put 2 = .ok (.invokevirtual 28, 3) := by decide +kernel
theorem d_Fs_put_5 : decode b_Fs_put 5 = .ok (.ifCond .eq 17, 3) := by decide +kernel
theorem d_Fs_put_8 : decode b_Fs_put 8 = .ok (.aload_n 0, 1) := by decide +kernel
theorem d_Fs_put_9 : decode b_Fs_put 9 = .ok (.getfield 11, 3) := by decide +kernel
theorem d_Fs_put_12 : decode b_Fs_put 12 = .ok (.iload_n 1, 1) := by decide +kernel
theorem d_Fs_put_13 : decode b_Fs_put 13 = .ok (.iload_n 2, 1) := by decide +kernel
theorem d_Fs_put_14 : decode b_Fs_put 14 = .ok (.iastore, 1) := by decide +kernel
theorem d_Fs_put_15 : decode b_Fs_put 15 = .ok (.aload_n 0, 1) := by decide +kernel
theorem d_Fs_put_16 : decode b_Fs_put 16 = .ok (.getfield 15, 3) := by decide +kernel
theorem d_Fs_put_19 : decode b_Fs_put 19 = .ok (.iload_n 1, 1) := by decide +kernel
theorem d_Fs_put_20 : decode b_Fs_put 20 = .ok (.iload_n 3, 1) := by decide +kernel
theorem d_Fs_put_21 : decode b_Fs_put 21 = .ok (.iastore, 1) := by decide +kernel
theorem d_Fs_put_22 : decode b_Fs_put 22 = .ok (.return_, 1) := by decide +kernel
theorem d_Fs_second_0 : decode b_Fs_second 0 = .ok (.aload_n 0, 1) := by decide +kernel
theorem d_Fs_second_1 : decode b_Fs_second 1 = .ok (.iload_n 1, 1) := by decide +kernel
theorem d_Fs_second_2 : decode b_Fs_second 2 = .ok (.invokevirtual 28, 3) := by decide +kernel
theorem d_Fs_second_5 : decode b_Fs_second 5 = .ok (.ifCond .eq 12, 3) := by decide +kernel
theorem d_Fs_second_8 : decode b_Fs_second 8 = .ok (.aload_n 0, 1) := by decide +kernel
theorem d_Fs_second_9 : decode b_Fs_second 9 = .ok (.getfield 15, 3) := by decide +kernel
theorem d_Fs_second_12 : decode b_Fs_second 12 = .ok (.iload_n 1, 1) := by decide +kernel
theorem d_Fs_second_13 : decode b_Fs_second 13 = .ok (.iaload, 1) := by decide +kernel
theorem d_Fs_second_14 : decode b_Fs_second 14 = .ok (.goto 5, 3) := by decide +kernel
theorem d_Fs_second_17 : decode b_Fs_second 17 = .ok (.bipush (-2), 2) := by decide +kernel
theorem d_Fs_second_19 : decode b_Fs_second 19 = .ok (.ireturn, 1) := by decide +kernel
theorem d_Js_init_0 : decode b_Js_init 0 = .ok (.aload_n 0, 1) := by decide +kernel
theorem d_Js_init_1 : decode b_Js_init 1 = .ok (.invokespecial 5, 3) := by decide +kernel
theorem d_Js_init_4 : decode b_Js_init 4 = .ok (.aload_n 0, 1) := by decide +kernel
theorem d_Js_init_5 : decode b_Js_init 5 = .ok (.iconst 4, 1) := by decide +kernel
theorem d_Js_init_6 : decode b_Js_init 6 = .ok (.newarray .int, 2) := by decide +kernel
theorem d_Js_init_8 : decode b_Js_init 8 = .ok (.putfield 11, 3) := by decide +kernel
theorem d_Js_init_11 : decode b_Js_init 11 = .ok (.aload_n 0, 1) := by decide +kernel
theorem d_Js_init_12 : decode b_Js_init 12 = .ok (.iconst 4, 1) := by decide +kernel
theorem d_Js_init_13 : decode b_Js_init 13 = .ok (.newarray .int, 2) := by decide +kernel
theorem d_Js_init_15 : decode b_Js_init 15 = .ok (.putfield 15, 3) := by decide +kernel
theorem d_Js_init_18 : decode b_Js_init 18 = .ok (.aload_n 0, 1) := by decide +kernel
theorem d_Js_init_19 : decode b_Js_init 19 = .ok (.iconst 4, 1) := by decide +kernel
theorem d_Js_init_20 : decode b_Js_init 20 = .ok (.newarray .int, 2) := by decide +kernel
theorem d_Js_init_22 : decode b_Js_init 22 = .ok (.putfield 18, 3) := by decide +kernel
theorem d_Js_init_25 : decode b_Js_init 25 = .ok (.aload_n 0, 1) := by decide +kernel
theorem d_Js_init_26 : decode b_Js_init 26 = .ok (.iconst 4, 1) := by decide +kernel
theorem d_Js_init_27 : decode b_Js_init 27 = .ok (.newarray .int, 2) := by decide +kernel
theorem d_Js_init_29 : decode b_Js_init 29 = .ok (.putfield 21, 3) := by decide +kernel
theorem d_Js_init_32 : decode b_Js_init 32 = .ok (.return_, 1) := by decide +kernel
theorem d_Js_add_0 : decode b_Js_add 0 = .ok (.aload_n 0, 1) := by decide +kernel
theorem d_Js_add_1 : decode b_Js_add 1 = .ok (.getfield 24, 3) := by decide +kernel
theorem d_Js_add_4 : decode b_Js_add 4 = .ok (.iconst 4, 1) := by decide +kernel
theorem d_Js_add_5 : decode b_Js_add 5 = .ok (.if_icmp .ge 23, 3) := by decide +kernel
theorem d_Js_add_8 : decode b_Js_add 8 = .ok (.iload_n 1, 1) := by decide +kernel
theorem d_Js_add_9 : decode b_Js_add 9 = .ok (.iconst 1, 1) := by decide +kernel
theorem d_Js_add_10 : decode b_Js_add 10 = .ok (.if_icmp .lt 18, 3) := by decide +kernel
theorem d_Js_add_13 : decode b_Js_add 13 = .ok (.iload_n 1, 1) := by decide +kernel
theorem d_Js_add_14 : decode b_Js_add 14 = .ok (.bipush 9, 2) := by decide +kernel
theorem d_Js_add_16 : decode b_Js_add 16 = .ok (.if_icmp .gt 12, 3) := by decide +kernel
theorem d_Js_add_19 : decode b_Js_add 19 = .ok (.iload_n 2, 1) := by decide +kernel
theorem d_Js_add_20 : decode b_Js_add 20 = .ok (.ifCond .lt 8, 3) := by decide +kernel
theorem d_Js_add_23 : decode b_Js_add 23 = .ok (.iload_n 2, 1) := by decide +kernel
theorem d_Js_add_24 : decode b_Js_add 24 = .ok (.iload_n 1, 1) := by decide +kernel
theorem d_Js_add_25 : decode b_Js_add 25 = .ok (.if_icmp .le 5, 3) := by decide +kernel
theorem d_Js_add_28 : decode b_Js_add 28 = .ok (.iconst (-1), 1) := by decide +kernel
theorem d_Js_add_29 : decode b_Js_add 29 = .ok (.ireturn, 1) := by decide +kernel
theorem d_Js_add_30 : decode b_Js_add 30 = .ok (.aload_n 0, 1) := by decide +kernel
theorem d_Js_add_31 : decode b_Js_add 31 = .ok (.getfield 11, 3) := by decide +kernel
theorem d_Js_add_34 : decode b_Js_add 34 = .ok (.aload_n 0, 1) := by decide +kernel
theorem d_Js_add_35 : decode b_Js_add 35 = .ok (.getfield 24, 3) := by decide +kernel
theorem d_Js_add_38 : decode b_Js_add 38 = .ok (.iload_n 1, 1) := by decide +kernel
theorem d_Js_add_39 : decode b_Js_add 39 = .ok (.iastore, 1) := by decide +kernel
theorem d_Js_add_40 : decode b_Js_add 40 = .ok (.aload_n 0, 1) := by decide +kernel
theorem d_Js_add_41 : decode b_Js_add 41 = .ok (.getfield 15, 3) := by decide +kernel
theorem d_Js_add_44 : decode b_Js_add 44 = .ok (.aload_n 0, 1) := by decide +kernel
theorem d_Js_add_45 : decode b_Js_add 45 = .ok (.getfield 24, 3) := by decide +kernel
theorem d_Js_add_48 : decode b_Js_add 48 = .ok (.iload_n 2, 1) := by decide +kernel
theorem d_Js_add_49 : decode b_Js_add 49 = .ok (.iastore, 1) := by decide +kernel
theorem d_Js_add_50 : decode b_Js_add 50 = .ok (.aload_n 0, 1) := by decide +kernel
theorem d_Js_add_51 : decode b_Js_add 51 = .ok (.getfield 18, 3) := by decide +kernel
theorem d_Js_add_54 : decode b_Js_add 54 = .ok (.aload_n 0, 1) := by decide +kernel
theorem d_Js_add_55 : decode b_Js_add 55 = .ok (.getfield 24, 3) := by decide +kernel
theorem d_Js_add_58 : decode b_Js_add 58 = .ok (.iconst (-1), 1) := by decide +kernel
theorem d_Js_add_59 : decode b_Js_add 59 = .ok (.iastore, 1) := by decide +kernel
theorem d_Js_add_60 : decode b_Js_add 60 = .ok (.aload_n 0, 1) := by decide +kernel
theorem d_Js_add_61 : decode b_Js_add 61 = .ok (.dup, 1) := by decide +kernel
theorem d_Js_add_62 : decode b_Js_add 62 = .ok (.getfield 24, 3) := by decide +kernel
theorem d_Js_add_65 : decode b_Js_add 65 = .ok (.iconst 1, 1) := by decide +kernel
theorem d_Js_add_66 : decode b_Js_add 66 = .ok (.iadd, 1) := by decide +kernel
theorem d_Js_add_67 : decode b_Js_add 67 = .ok (.putfield 24, 3) := by decide +kernel
theorem d_Js_add_70 : decode b_Js_add 70 = .ok (.aload_n 0, 1) := by decide +kernel
theorem d_Js_add_71 : decode b_Js_add 71 = .ok (.getfield 24, 3) := by decide +kernel
theorem d_Js_add_74 : decode b_Js_add 74 = .ok (.iconst 1, 1) := by decide +kernel
theorem d_Js_add_75 : decode b_Js_add 75 = .ok (.isub, 1) := by decide +kernel
theorem d_Js_add_76 : decode b_Js_add 76 = .ok (.ireturn, 1) := by decide +kernel
theorem d_Js_codeOf_0 : decode b_Js_codeOf 0 = .ok (.iload_n 0, 1) := by decide +kernel
theorem d_Js_codeOf_1 : decode b_Js_codeOf 1 = .ok (.iconst 1, 1) := by decide +kernel
theorem d_Js_codeOf_2 : decode b_Js_codeOf 2 = .ok (.iadd, 1) := by decide +kernel
theorem d_Js_codeOf_3 : decode b_Js_codeOf 3 = .ok (.iconst 3, 1) := by decide +kernel
theorem d_Js_codeOf_4 : decode b_Js_codeOf 4 = .ok (.ishl, 1) := by decide +kernel
theorem d_Js_codeOf_5 : decode b_Js_codeOf 5 = .ok (.iload_n 1, 1) := by decide +kernel
theorem d_Js_codeOf_6 : decode b_Js_codeOf 6 = .ok (.iconst 1, 1) := by decide +kernel
theorem d_Js_codeOf_7 : decode b_Js_codeOf 7 = .ok (.iadd, 1) := by decide +kernel
theorem d_Js_codeOf_8 : decode b_Js_codeOf 8 = .ok (.ior, 1) := by decide +kernel
theorem d_Js_codeOf_9 : decode b_Js_codeOf 9 = .ok (.ireturn, 1) := by decide +kernel
theorem d_Js_firstTold_0 : decode b_Js_firstTold 0 = .ok (.iload_n 1, 1) := by decide +kernel
theorem d_Js_firstTold_1 : decode b_Js_firstTold 1 = .ok (.iconst 3, 1) := by decide +kernel
theorem d_Js_firstTold_2 : decode b_Js_firstTold 2 = .ok (.ishr, 1) := by decide +kernel
theorem d_Js_firstTold_3 : decode b_Js_firstTold 3 = .ok (.iconst 1, 1) := by decide +kernel
theorem d_Js_firstTold_4 : decode b_Js_firstTold 4 = .ok (.isub, 1) := by decide +kernel
theorem d_Js_firstTold_5 : decode b_Js_firstTold 5 = .ok (.ireturn, 1) := by decide +kernel
theorem d_Js_isDone_0 : decode b_Js_isDone 0 = .ok (.aload_n 0, 1) := by decide +kernel
theorem d_Js_isDone_1 : decode b_Js_isDone 1 = .ok (.iload_n 1, 1) := by decide +kernel
theorem d_Js_isDone_2 : decode b_Js_isDone 2 = .ok (.invokevirtual 31, 3) := by decide +kernel
theorem d_Js_isDone_5 : decode b_Js_isDone 5 = .ok (.iconst 0, 1) := by decide +kernel
theorem d_Js_isDone_6 : decode b_Js_isDone 6 = .ok (.istore_n 2, 1) := by decide +kernel
theorem d_Js_isDone_7 : decode b_Js_isDone 7 = .ok (.iload_n 2, 1) := by decide +kernel
theorem d_Js_isDone_8 : decode b_Js_isDone 8 = .ok (.aload_n 0, 1) := by decide +kernel
theorem d_Js_isDone_9 : decode b_Js_isDone 9 = .ok (.getfield 24, 3) := by decide +kernel
theorem d_Js_isDone_12 : decode b_Js_isDone 12 = .ok (.if_icmp .ge 36, 3) := by decide +kernel
theorem d_Js_isDone_15 : decode b_Js_isDone 15 = .ok (.aload_n 0, 1) := by decide +kernel
theorem d_Js_isDone_16 : decode b_Js_isDone 16 = .ok (.getfield 18, 3) := by decide +kernel
theorem d_Js_isDone_19 : decode b_Js_isDone 19 = .ok (.iload_n 2, 1) := by decide +kernel
theorem d_Js_isDone_20 : decode b_Js_isDone 20 = .ok (.iaload, 1) := by decide +kernel
theorem d_Js_isDone_21 : decode b_Js_isDone 21 = .ok (.iconst (-1), 1) := by decide +kernel
theorem d_Js_isDone_22 : decode b_Js_isDone 22 = .ok (.if_icmp .eq 20, 3) := by decide +kernel
theorem d_Js_isDone_25 : decode b_Js_isDone 25 = .ok (.aload_n 0, 1) := by decide +kernel
theorem d_Js_isDone_26 : decode b_Js_isDone 26 = .ok (.getfield 18, 3) := by decide +kernel
theorem d_Js_isDone_29 : decode b_Js_isDone 29 = .ok (.iload_n 2, 1) := by decide +kernel
theorem d_Js_isDone_30 : decode b_Js_isDone 30 = .ok (.iaload, 1) := by decide +kernel
theorem d_Js_isDone_31 : decode b_Js_isDone 31 = .ok (.aload_n 0, 1) := by decide +kernel
theorem d_Js_isDone_32 : decode b_Js_isDone 32 = .ok (.getfield 21, 3) := by decide +kernel
theorem d_Js_isDone_35 : decode b_Js_isDone 35 = .ok (.iload_n 2, 1) := by decide +kernel
theorem d_Js_isDone_36 : decode b_Js_isDone 36 = .ok (.iaload, 1) := by decide +kernel
theorem d_Js_isDone_37 : decode b_Js_isDone 37 = .ok (.if_icmp .eq 5, 3) := by decide +kernel
theorem d_Js_isDone_40 : decode b_Js_isDone 40 = .ok (.iconst 0, 1) := by decide +kernel
theorem d_Js_isDone_41 : decode b_Js_isDone 41 = .ok (.ireturn, 1) := by decide +kernel
theorem d_Js_isDone_42 : decode b_Js_isDone 42 = .ok (.iinc 2 1, 3) := by decide +kernel
theorem d_Js_isDone_45 : decode b_Js_isDone 45 = .ok (.goto (-38), 3) := by decide +kernel
theorem d_Js_isDone_48 : decode b_Js_isDone 48 = .ok (.iconst 1, 1) := by decide +kernel
theorem d_Js_isDone_49 : decode b_Js_isDone 49 = .ok (.ireturn, 1) := by decide +kernel
theorem d_Js_meetNext_0 : decode b_Js_meetNext 0 = .ok (.aload_n 0, 1) := by decide +kernel
theorem d_Js_meetNext_1 : decode b_Js_meetNext 1 = .ok (.iload_n 1, 1) := by decide +kernel
theorem d_Js_meetNext_2 : decode b_Js_meetNext 2 = .ok (.invokevirtual 31, 3) := by decide +kernel
theorem d_Js_meetNext_5 : decode b_Js_meetNext 5 = .ok (.iconst 0, 1) := by decide +kernel
theorem d_Js_meetNext_6 : decode b_Js_meetNext 6 = .ok (.istore_n 3, 1) := by decide +kernel
theorem d_Js_meetNext_7 : decode b_Js_meetNext 7 = .ok (.iload_n 3, 1) := by decide +kernel
theorem d_Js_meetNext_8 : decode b_Js_meetNext 8 = .ok (.aload_n 0, 1) := by decide +kernel
theorem d_Js_meetNext_9 : decode b_Js_meetNext 9 = .ok (.getfield 24, 3) := by decide +kernel
theorem d_Js_meetNext_12 : decode b_Js_meetNext 12 = .ok (.if_icmp .ge 32, 3) := by decide +kernel
theorem d_Js_meetNext_15 : decode b_Js_meetNext 15 = .ok (.aload_n 2, 1) := by decide +kernel
theorem d_Js_meetNext_16 : decode b_Js_meetNext 16 = .ok (.iload_n 1, 1) := by decide +kernel
theorem d_Js_meetNext_17 : decode b_Js_meetNext 17 = .ok (.aload_n 0, 1) := by decide +kernel
theorem d_Js_meetNext_18 : decode b_Js_meetNext 18 = .ok (.iload_n 3, 1) := by decide +kernel
theorem d_Js_meetNext_19 : decode b_Js_meetNext 19 = .ok (.invokevirtual 35, 3) := by decide +kernel
theorem d_Js_meetNext_22 : decode b_Js_meetNext 22 = .ok (.getstatic 28, 3) := by decide +kernel
theorem d_Js_meetNext_25 : decode b_Js_meetNext 25 = .ok (.iload_n 3, 1) := by decide +kernel
theorem d_Js_meetNext_26 : decode b_Js_meetNext 26 = .ok (.iaload, 1) := by decide +kernel
theorem d_Js_meetNext_27 : decode b_Js_meetNext 27 = .ok (.imul, 1) := by decide +kernel
theorem d_Js_meetNext_28 : decode b_Js_meetNext 28 = .ok (.iadd, 1) := by decide +kernel
theorem d_Js_meetNext_29 : decode b_Js_meetNext 29 = .ok (.iload_n 1, 1) := by decide +kernel
theorem d_Js_meetNext_30 : decode b_Js_meetNext 30 = .ok (.iconst (-1), 1) := by decide +kernel
theorem d_Js_meetNext_31 : decode b_Js_meetNext 31 = .ok (.iload_n 3, 1) := by decide +kernel
