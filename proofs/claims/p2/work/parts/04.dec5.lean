theorem d_Mo_parse_224 : decode b_Mo_parse 224 = .ok (.iload_n 2, 1) := by decide +kernel
theorem d_Mo_parse_225 : decode b_Mo_parse 225 = .ok (.iaload, 1) := by decide +kernel
theorem d_Mo_parse_226 : decode b_Mo_parse 226 = .ok (.iconst 1, 1) := by decide +kernel
theorem d_Mo_parse_227 : decode b_Mo_parse 227 = .ok (.iload_n 3, 1) := by decide +kernel
theorem d_Mo_parse_228 : decode b_Mo_parse 228 = .ok (.ishl, 1) := by decide +kernel
theorem d_Mo_parse_229 : decode b_Mo_parse 229 = .ok (.ior, 1) := by decide +kernel
theorem d_Mo_parse_230 : decode b_Mo_parse 230 = .ok (.iastore, 1) := by decide +kernel
theorem d_Mo_parse_231 : decode b_Mo_parse 231 = .ok (.aload_n 0, 1) := by decide +kernel
theorem d_Mo_parse_232 : decode b_Mo_parse 232 = .ok (.getfield 50, 3) := by decide +kernel
theorem d_Mo_parse_235 : decode b_Mo_parse 235 = .ok (.iload_n 3, 1) := by decide +kernel
theorem d_Mo_parse_236 : decode b_Mo_parse 236 = .ok (.aload_n 0, 1) := by decide +kernel
theorem d_Mo_parse_237 : decode b_Mo_parse 237 = .ok (.getfield 50, 3) := by decide +kernel
theorem d_Mo_parse_240 : decode b_Mo_parse 240 = .ok (.iload_n 3, 1) := by decide +kernel
theorem d_Mo_parse_241 : decode b_Mo_parse 241 = .ok (.iaload, 1) := by decide +kernel
theorem d_Mo_parse_242 : decode b_Mo_parse 242 = .ok (.iconst 1, 1) := by decide +kernel
theorem d_Mo_parse_243 : decode b_Mo_parse 243 = .ok (.iload_n 2, 1) := by decide +kernel
theorem d_Mo_parse_244 : decode b_Mo_parse 244 = .ok (.ishl, 1) := by decide +kernel
theorem d_Mo_parse_245 : decode b_Mo_parse 245 = .ok (.ior, 1) := by decide +kernel
theorem d_Mo_parse_246 : decode b_Mo_parse 246 = .ok (.iastore, 1) := by decide +kernel
theorem d_Mo_parse_247 : decode b_Mo_parse 247 = .ok (.iinc 1 2, 3) := by decide +kernel
theorem d_Mo_parse_250 : decode b_Mo_parse 250 = .ok (.goto (-141), 3) := by decide +kernel
theorem d_Mo_pour_0 : decode b_Mo_pour 0 = .ok (.iload_n 1, 1) := by decide +kernel
theorem d_Mo_pour_1 : decode b_Mo_pour 1 = .ok (.ifCond .ge 18, 3) := by decide +kernel
theorem d_Mo_pour_4 : decode b_Mo_pour 4 = .ok (.aload_n 0, 1) := by decide +kernel
theorem d_Mo_pour_5 : decode b_Mo_pour 5 = .ok (.getfield 44, 3) := by decide +kernel
theorem d_Mo_pour_8 : decode b_Mo_pour 8 = .ok (.iload_n 2, 1) := by decide +kernel
theorem d_Mo_pour_9 : decode b_Mo_pour 9 = .ok (.aload_n 0, 1) := by decide +kernel
theorem d_Mo_pour_10 : decode b_Mo_pour 10 = .ok (.getfield 7, 3) := by decide +kernel
theorem d_Mo_pour_13 : decode b_Mo_pour 13 = .ok (.iload_n 2, 1) := by decide +kernel
theorem d_Mo_pour_14 : decode b_Mo_pour 14 = .ok (.iaload, 1) := by decide +kernel
theorem d_Mo_pour_15 : decode b_Mo_pour 15 = .ok (.iastore, 1) := by decide +kernel
theorem d_Mo_pour_16 : decode b_Mo_pour 16 = .ok (.goto 75, 3) := by decide +kernel
theorem d_Mo_pour_19 : decode b_Mo_pour 19 = .ok (.iload_n 2, 1) := by decide +kernel
theorem d_Mo_pour_20 : decode b_Mo_pour 20 = .ok (.ifCond .ge 13, 3) := by decide +kernel
theorem d_Mo_pour_23 : decode b_Mo_pour 23 = .ok (.aload_n 0, 1) := by decide +kernel
theorem d_Mo_pour_24 : decode b_Mo_pour 24 = .ok (.getfield 44, 3) := by decide +kernel
theorem d_Mo_pour_27 : decode b_Mo_pour 27 = .ok (.iload_n 1, 1) := by decide +kernel
theorem d_Mo_pour_28 : decode b_Mo_pour 28 = .ok (.iconst 0, 1) := by decide +kernel
theorem d_Mo_pour_29 : decode b_Mo_pour 29 = .ok (.iastore, 1) := by decide +kernel
theorem d_Mo_pour_30 : decode b_Mo_pour 30 = .ok (.goto 61, 3) := by decide +kernel
theorem d_Mo_pour_33 : decode b_Mo_pour 33 = .ok (.aload_n 0, 1) := by decide +kernel
theorem d_Mo_pour_34 : decode b_Mo_pour 34 = .ok (.getfield 7, 3) := by decide +kernel
theorem d_Mo_pour_37 : decode b_Mo_pour 37 = .ok (.iload_n 2, 1) := by decide +kernel
theorem d_Mo_pour_38 : decode b_Mo_pour 38 = .ok (.iaload, 1) := by decide +kernel
theorem d_Mo_pour_39 : decode b_Mo_pour 39 = .ok (.aload_n 0, 1) := by decide +kernel
theorem d_Mo_pour_40 : decode b_Mo_pour 40 = .ok (.getfield 44, 3) := by decide +kernel
theorem d_Mo_pour_43 : decode b_Mo_pour 43 = .ok (.iload_n 2, 1) := by decide +kernel
theorem d_Mo_pour_44 : decode b_Mo_pour 44 = .ok (.iaload, 1) := by decide +kernel
theorem d_Mo_pour_45 : decode b_Mo_pour 45 = .ok (.isub, 1) := by decide +kernel
theorem d_Mo_pour_46 : decode b_Mo_pour 46 = .ok (.istore_n 3, 1) := by decide +kernel
theorem d_Mo_pour_47 : decode b_Mo_pour 47 = .ok (.aload_n 0, 1) := by decide +kernel
theorem d_Mo_pour_48 : decode b_Mo_pour 48 = .ok (.getfield 44, 3) := by decide +kernel
theorem d_Mo_pour_51 : decode b_Mo_pour 51 = .ok (.iload_n 1, 1) := by decide +kernel
theorem d_Mo_pour_52 : decode b_Mo_pour 52 = .ok (.iaload, 1) := by decide +kernel
theorem d_Mo_pour_53 : decode b_Mo_pour 53 = .ok (.iload_n 3, 1) := by decide +kernel
theorem d_Mo_pour_54 : decode b_Mo_pour 54 = .ok (.if_icmp .ge 12, 3) := by decide +kernel
theorem d_Mo_pour_57 : decode b_Mo_pour 57 = .ok (.aload_n 0, 1) := by decide +kernel
theorem d_Mo_pour_58 : decode b_Mo_pour 58 = .ok (.getfield 44, 3) := by decide +kernel
theorem d_Mo_pour_61 : decode b_Mo_pour 61 = .ok (.iload_n 1, 1) := by decide +kernel
theorem d_Mo_pour_62 : decode b_Mo_pour 62 = .ok (.iaload, 1) := by decide +kernel
theorem d_Mo_pour_63 : decode b_Mo_pour 63 = .ok (.goto 4, 3) := by decide +kernel
theorem d_Mo_pour_66 : decode b_Mo_pour 66 = .ok (.iload_n 3, 1) := by decide +kernel
theorem d_Mo_pour_67 : decode b_Mo_pour 67 = .ok (.istore 4, 2) := by decide +kernel
theorem d_Mo_pour_69 : decode b_Mo_pour 69 = .ok (.aload_n 0, 1) := by decide +kernel
theorem d_Mo_pour_70 : decode b_Mo_pour 70 = .ok (.getfield 44, 3) := by decide +kernel
theorem d_Mo_pour_73 : decode b_Mo_pour 73 = .ok (.iload_n 1, 1) := by decide +kernel
theorem d_Mo_pour_74 : decode b_Mo_pour 74 = .ok (.dup2, 1) := by decide +kernel
theorem d_Mo_pour_75 : decode b_Mo_pour 75 = .ok (.iaload, 1) := by decide +kernel
theorem d_Mo_pour_76 : decode b_Mo_pour 76 = .ok (.iload 4, 2) := by decide +kernel
theorem d_Mo_pour_78 : decode b_Mo_pour 78 = .ok (.isub, 1) := by decide +kernel
theorem d_Mo_pour_79 : decode b_Mo_pour 79 = .ok (.iastore, 1) := by decide +kernel
theorem d_Mo_pour_80 : decode b_Mo_pour 80 = .ok (.aload_n 0, 1) := by decide +kernel
theorem d_Mo_pour_81 : decode b_Mo_pour 81 = .ok (.getfield 44, 3) := by decide +kernel
theorem d_Mo_pour_84 : decode b_Mo_pour 84 = .ok (.iload_n 2, 1) := by decide +kernel
theorem d_Mo_pour_85 : decode b_Mo_pour 85 = .ok (.dup2, 1) := by decide +kernel
theorem d_Mo_pour_86 : decode b_Mo_pour 86 = .ok (.iaload, 1) := by decide +kernel
theorem d_Mo_pour_87 : decode b_Mo_pour 87 = .ok (.iload 4, 2) := by decide +kernel
theorem d_Mo_pour_89 : decode b_Mo_pour 89 = .ok (.iadd, 1) := by decide +kernel
theorem d_Mo_pour_90 : decode b_Mo_pour 90 = .ok (.iastore, 1) := by decide +kernel
theorem d_Mo_pour_91 : decode b_Mo_pour 91 = .ok (.return_, 1) := by decide +kernel
theorem d_Mo_ring_0 : decode b_Mo_ring 0 = .ok (.aload_n 0, 1) := by decide +kernel
theorem d_Mo_ring_1 : decode b_Mo_ring 1 = .ok (.iconst 0, 1) := by decide +kernel
theorem d_Mo_ring_2 : decode b_Mo_ring 2 = .ok (.putfield 72, 3) := by decide +kernel
theorem d_Mo_ring_5 : decode b_Mo_ring 5 = .ok (.iload_n 1, 1) := by decide +kernel
theorem d_Mo_ring_6 : decode b_Mo_ring 6 = .ok (.ifCond .lt 24, 3) := by decide +kernel
theorem d_Mo_ring_9 : decode b_Mo_ring 9 = .ok (.iload_n 1, 1) := by decide +kernel
theorem d_Mo_ring_10 : decode b_Mo_ring 10 = .ok (.bipush 60, 2) := by decide +kernel
theorem d_Mo_ring_12 : decode b_Mo_ring 12 = .ok (.if_icmp .gt 18, 3) := by decide +kernel
theorem d_Mo_ring_15 : decode b_Mo_ring 15 = .ok (.lload_n 2, 1) := by decide +kernel
theorem d_Mo_ring_16 : decode b_Mo_ring 16 = .ok (.lconst 0, 1) := by decide +kernel
theorem d_Mo_ring_17 : decode b_Mo_ring 17 = .ok (.lcmp, 1) := by decide +kernel
theorem d_Mo_ring_18 : decode b_Mo_ring 18 = .ok (.ifCond .lt 12, 3) := by decide +kernel
theorem d_Mo_ring_21 : decode b_Mo_ring 21 = .ok (.lload_n 2, 1) := by decide +kernel
theorem d_Mo_ring_22 : decode b_Mo_ring 22 = .ok (.iload_n 1, 1) := by decide +kernel
theorem d_Mo_ring_23 : decode b_Mo_ring 23 = .ok (.invokestatic 165, 3) := by decide +kernel
theorem d_Mo_ring_26 : decode b_Mo_ring 26 = .ok (.lcmp, 1) := by decide +kernel
theorem d_Mo_ring_27 : decode b_Mo_ring 27 = .ok (.ifCond .le 7, 3) := by decide +kernel
theorem d_Mo_ring_30 : decode b_Mo_ring 30 = .ok (.ldc2_w 135, 3) := by decide +kernel
theorem d_Mo_ring_33 : decode b_Mo_ring 33 = .ok (.lreturn, 1) := by decide +kernel
theorem d_Mo_ring_34 : decode b_Mo_ring 34 = .ok (.iload_n 1, 1) := by decide +kernel
theorem d_Mo_ring_35 : decode b_Mo_ring 35 = .ok (.invokestatic 165, 3) := by decide +kernel
theorem d_Mo_ring_38 : decode b_Mo_ring 38 = .ok (.lload_n 2, 1) := by decide +kernel
theorem d_Mo_ring_39 : decode b_Mo_ring 39 = .ok (.lsub, 1) := by decide +kernel
theorem d_Mo_ring_40 : decode b_Mo_ring 40 = .ok (.lstore 4, 2) := by decide +kernel
theorem d_Mo_ring_42 : decode b_Mo_ring 42 = .ok (.lload 4, 2) := by decide +kernel
theorem d_Mo_ring_44 : decode b_Mo_ring 44 = .ok (.lload 4, 2) := by decide +kernel
theorem d_Mo_ring_46 : decode b_Mo_ring 46 = .ok (.iconst 1, 1) := by decide +kernel
theorem d_Mo_ring_47 : decode b_Mo_ring 47 = .ok (.lshr, 1) := by decide +kernel
theorem d_Mo_ring_48 : decode b_Mo_ring 48 = .ok (.lxor, 1) := by decide +kernel
theorem d_Mo_ring_49 : decode b_Mo_ring 49 = .ok (.lreturn, 1) := by decide +kernel
theorem d_Mo_rings_0 : decode b_Mo_rings 0 = .ok (.aload_n 0, 1) := by decide +kernel
theorem d_Mo_rings_1 : decode b_Mo_rings 1 = .ok (.iconst 0, 1) := by decide +kernel
theorem d_Mo_rings_2 : decode b_Mo_rings 2 = .ok (.putfield 72, 3) := by decide +kernel
theorem d_Mo_rings_5 : decode b_Mo_rings 5 = .ok (.iload_n 1, 1) := by decide +kernel
theorem d_Mo_rings_6 : decode b_Mo_rings 6 = .ok (.ifCond .lt 9, 3) := by decide +kernel
theorem d_Mo_rings_9 : decode b_Mo_rings 9 = .ok (.iload_n 1, 1) := by decide +kernel
theorem d_Mo_rings_10 : decode b_Mo_rings 10 = .ok (.bipush 60, 2) := by decide +kernel
theorem d_Mo_rings_12 : decode b_Mo_rings 12 = .ok (.if_icmp .le 9, 3) := by decide +kernel
theorem d_Mo_rings_15 : decode b_Mo_rings 15 = .ok (.ldc2_w 135, 3) := by decide +kernel
theorem d_Mo_rings_18 : decode b_Mo_rings 18 = .ok (.goto 7, 3) := by decide +kernel
theorem d_Mo_rings_21 : decode b_Mo_rings 21 = .ok (.iload_n 1, 1) := by decide +kernel
theorem d_Mo_rings_22 : decode b_Mo_rings 22 = .ok (.invokestatic 165, 3) := by decide +kernel
theorem d_Mo_rings_25 : decode b_Mo_rings 25 = .ok (.lreturn, 1) := by decide +kernel
theorem d_Mo_spare_0 : decode b_Mo_spare 0 = .ok (.iconst (-1), 1) := by decide +kernel
theorem d_Mo_spare_1 : decode b_Mo_spare 1 = .ok (.istore_n 3, 1) := by decide +kernel
theorem d_Mo_spare_2 : decode b_Mo_spare 2 = .ok (.iconst 0, 1) := by decide +kernel
theorem d_Mo_spare_3 : decode b_Mo_spare 3 = .ok (.istore 4, 2) := by decide +kernel
theorem d_Mo_spare_5 : decode b_Mo_spare 5 = .ok (.iload 4, 2) := by decide +kernel
theorem d_Mo_spare_7 : decode b_Mo_spare 7 = .ok (.iconst 4, 1) := by decide +kernel
theorem d_Mo_spare_8 : decode b_Mo_spare 8 = .ok (.if_icmp .ge 32, 3) := by decide +kernel
theorem d_Mo_spare_11 : decode b_Mo_spare 11 = .ok (.iload 4, 2) := by decide +kernel
theorem d_Mo_spare_13 : decode b_Mo_spare 13 = .ok (.iload_n 0, 1) := by decide +kernel
theorem d_Mo_spare_14 : decode b_Mo_spare 14 = .ok (.if_icmp .eq 20, 3) := by decide +kernel
theorem d_Mo_spare_17 : decode b_Mo_spare 17 = .ok (.iload 4, 2) := by decide +kernel
theorem d_Mo_spare_19 : decode b_Mo_spare 19 = .ok (.iload_n 1, 1) := by decide +kernel
theorem d_Mo_spare_20 : decode b_Mo_spare 20 = .ok (.if_icmp .eq 14, 3) := by decide +kernel
theorem d_Mo_spare_23 : decode b_Mo_spare 23 = .ok (.iload_n 3, 1) := by decide +kernel
theorem d_Mo_spare_24 : decode b_Mo_spare 24 = .ok (.ifCond .lt 7, 3) := by decide +kernel
theorem d_Mo_spare_27 : decode b_Mo_spare 27 = .ok (.iload_n 2, 1) := by decide +kernel
theorem d_Mo_spare_28 : decode b_Mo_spare 28 = .ok (.ifCond .eq 6, 3) := by decide +kernel
theorem d_Mo_spare_31 : decode b_Mo_spare 31 = .ok (.iload 4, 2) := by decide +kernel
theorem d_Mo_spare_33 : decode b_Mo_spare 33 = .ok (.istore_n 3, 1) := by decide +kernel
theorem d_Mo_spare_34 : decode b_Mo_spare 34 = .ok (.iinc 4 1, 3) := by decide +kernel
theorem d_Mo_spare_37 : decode b_Mo_spare 37 = .ok (.goto (-32), 3) := by decide +kernel
theorem d_Mo_spare_40 : decode b_Mo_spare 40 = .ok (.iload_n 3, 1) := by decide +kernel
theorem d_Mo_spare_41 : decode b_Mo_spare 41 = .ok (.ireturn, 1) := by decide +kernel
theorem d_Mo_step_0 : decode b_Mo_step 0 = .ok (.aload_n 0, 1) := by decide +kernel
theorem d_Mo_step_1 : decode b_Mo_step 1 = .ok (.iconst 0, 1) := by decide +kernel
theorem d_Mo_step_2 : decode b_Mo_step 2 = .ok (.putfield 72, 3) := by decide +kernel
theorem d_Mo_step_5 : decode b_Mo_step 5 = .ok (.iload_n 1, 1) := by decide +kernel
theorem d_Mo_step_6 : decode b_Mo_step 6 = .ok (.ifCond .lt 11, 3) := by decide +kernel
theorem d_Mo_step_9 : decode b_Mo_step 9 = .ok (.iload_n 1, 1) := by decide +kernel
theorem d_Mo_step_10 : decode b_Mo_step 10 = .ok (.aload_n 0, 1) := by decide +kernel
theorem d_Mo_step_11 : decode b_Mo_step 11 = .ok (.getfield 78, 3) := by decide +kernel
theorem d_Mo_step_14 : decode b_Mo_step 14 = .ok (.if_icmp .lt 6, 3) := by decide +kernel
theorem d_Mo_step_17 : decode b_Mo_step 17 = .ok (.bipush (-2), 2) := by decide +kernel
theorem d_Mo_step_19 : decode b_Mo_step 19 = .ok (.ireturn, 1) := by decide +kernel
theorem d_Mo_step_20 : decode b_Mo_step 20 = .ok (.iload_n 2, 1) := by decide +kernel
theorem d_Mo_step_21 : decode b_Mo_step 21 = .ok (.ifCond .eq 12, 3) := by decide +kernel
theorem d_Mo_step_24 : decode b_Mo_step 24 = .ok (.aload_n 0, 1) := by decide +kernel
theorem d_Mo_step_25 : decode b_Mo_step 25 = .ok (.getfield 25, 3) := by decide +kernel
theorem d_Mo_step_28 : decode b_Mo_step 28 = .ok (.iload_n 1, 1) := by decide +kernel
theorem d_Mo_step_29 : decode b_Mo_step 29 = .ok (.iaload, 1) := by decide +kernel
theorem d_Mo_step_30 : decode b_Mo_step 30 = .ok (.goto 9, 3) := by decide +kernel
theorem d_Mo_step_33 : decode b_Mo_step 33 = .ok (.aload_n 0, 1) := by decide +kernel
theorem d_Mo_step_34 : decode b_Mo_step 34 = .ok (.getfield 22, 3) := by decide +kernel
theorem d_Mo_step_37 : decode b_Mo_step 37 = .ok (.iload_n 1, 1) := by decide +kernel
theorem d_Mo_step_38 : decode b_Mo_step 38 = .ok (.iaload, 1) := by decide +kernel
theorem d_Mo_step_39 : decode b_Mo_step 39 = .ok (.ireturn, 1) := by decide +kernel
theorem d_Mo_take_0 : decode b_Mo_take 0 = .ok (.iload_n 1, 1) := by decide +kernel
theorem d_Mo_take_1 : decode b_Mo_take 1 = .ok (.istore_n 2, 1) := by decide +kernel
theorem d_Mo_take_2 : decode b_Mo_take 2 = .ok (.iconst 0, 1) := by decide +kernel
theorem d_Mo_take_3 : decode b_Mo_take 3 = .ok (.istore_n 3, 1) := by decide +kernel
theorem d_Mo_take_4 : decode b_Mo_take 4 = .ok (.iload_n 3, 1) := by decide +kernel
theorem d_Mo_take_5 : decode b_Mo_take 5 = .ok (.iconst 4, 1) := by decide +kernel
theorem d_Mo_take_6 : decode b_Mo_take 6 = .ok (.if_icmp .ge 24, 3) := by decide +kernel
theorem d_Mo_take_9 : decode b_Mo_take 9 = .ok (.aload_n 0, 1) := by decide +kernel
theorem d_Mo_take_10 : decode b_Mo_take 10 = .ok (.getfield 44, 3) := by decide +kernel
theorem d_Mo_take_13 : decode b_Mo_take 13 = .ok (.iload_n 3, 1) := by decide +kernel
theorem d_Mo_take_14 : decode b_Mo_take 14 = .ok (.iload_n 2, 1) := by decide +kernel
theorem d_Mo_take_15 : decode b_Mo_take 15 = .ok (.bipush 10, 2) := by decide +kernel
theorem d_Mo_take_17 : decode b_Mo_take 17 = .ok (.irem, 1) := by decide +kernel
theorem d_Mo_take_18 : decode b_Mo_take 18 = .ok (.iastore, 1) := by decide +kernel
theorem d_Mo_take_19 : decode b_Mo_take 19 = .ok (.iload_n 2, 1) := by decide +kernel
theorem d_Mo_take_20 : decode b_Mo_take 20 = .ok (.bipush 10, 2) := by decide +kernel
theorem d_Mo_take_22 : decode b_Mo_take 22 = .ok (.idiv, 1) := by decide +kernel
theorem d_Mo_take_23 : decode b_Mo_take 23 = .ok (.istore_n 2, 1) := by decide +kernel
theorem d_Mo_take_24 : decode b_Mo_take 24 = .ok (.iinc 3 1, 3) := by decide +kernel
theorem d_Mo_take_27 : decode b_Mo_take 27 = .ok (.goto (-23), 3) := by decide +kernel
theorem d_Mo_take_30 : decode b_Mo_take 30 = .ok (.return_, 1) := by decide +kernel
theorem d_Mo_thingOf_0 : decode b_Mo_thingOf 0 = .ok (.iload_n 1, 1) := by decide +kernel
theorem d_Mo_thingOf_1 : decode b_Mo_thingOf 1 = .ok (.bipush 97, 2) := by decide +kernel
theorem d_Mo_thingOf_3 : decode b_Mo_thingOf 3 = .ok (.if_icmp .lt 21, 3) := by decide +kernel
theorem d_Mo_thingOf_6 : decode b_Mo_thingOf 6 = .ok (.iload_n 1, 1) := by decide +kernel
theorem d_Mo_thingOf_7 : decode b_Mo_thingOf 7 = .ok (.bipush 104, 2) := by decide +kernel
theorem d_Mo_thingOf_9 : decode b_Mo_thingOf 9 = .ok (.if_icmp .gt 15, 3) := by decide +kernel
theorem d_Mo_thingOf_12 : decode b_Mo_thingOf 12 = .ok (.aload_n 0, 1) := by decide +kernel
theorem d_Mo_thingOf_13 : decode b_Mo_thingOf 13 = .ok (.getfield 47, 3) := by decide +kernel
theorem d_Mo_thingOf_16 : decode b_Mo_thingOf 16 = .ok (.iload_n 1, 1) := by decide +kernel
theorem d_Mo_thingOf_17 : decode b_Mo_thingOf 17 = .ok (.bipush 97, 2) := by decide +kernel
theorem d_Mo_thingOf_19 : decode b_Mo_thingOf 19 = .ok (.isub, 1) := by decide +kernel
theorem d_Mo_thingOf_20 : decode b_Mo_thingOf 20 = .ok (.iaload, 1) := by decide +kernel
theorem d_Mo_thingOf_21 : decode b_Mo_thingOf 21 = .ok (.goto 4, 3) := by decide +kernel
theorem d_Mo_thingOf_24 : decode b_Mo_thingOf 24 = .ok (.iconst (-1), 1) := by decide +kernel
theorem d_Mo_thingOf_25 : decode b_Mo_thingOf 25 = .ok (.ireturn, 1) := by decide +kernel
theorem d_Mo_three_0 : decode b_Mo_three 0 = .ok (.lconst 1, 1) := by decide +kernel
theorem d_Mo_three_1 : decode b_Mo_three 1 = .ok (.iload_n 0, 1) := by decide +kernel
theorem d_Mo_three_2 : decode b_Mo_three 2 = .ok (.lshl, 1) := by decide +kernel
theorem d_Mo_three_3 : decode b_Mo_three 3 = .ok (.lconst 1, 1) := by decide +kernel
theorem d_Mo_three_4 : decode b_Mo_three 4 = .ok (.lsub, 1) := by decide +kernel
theorem d_Mo_three_5 : decode b_Mo_three 5 = .ok (.lreturn, 1) := by decide +kernel
theorem d_Mo_tower_0 : decode b_Mo_tower 0 = .ok (.aload_n 0, 1) := by decide +kernel
theorem d_Mo_tower_1 : decode b_Mo_tower 1 = .ok (.iconst 0, 1) := by decide +kernel
theorem d_Mo_tower_2 : decode b_Mo_tower 2 = .ok (.putfield 72, 3) := by decide +kernel
theorem d_Mo_tower_5 : decode b_Mo_tower 5 = .ok (.iload_n 1, 1) := by decide +kernel
theorem d_Mo_tower_6 : decode b_Mo_tower 6 = .ok (.iconst 3, 1) := by decide +kernel
theorem d_Mo_tower_7 : decode b_Mo_tower 7 = .ok (.if_icmp .eq 8, 3) := by decide +kernel
theorem d_Mo_tower_10 : decode b_Mo_tower 10 = .ok (.iload_n 1, 1) := by decide +kernel
theorem d_Mo_tower_11 : decode b_Mo_tower 11 = .ok (.iconst 4, 1) := by decide +kernel
theorem d_Mo_tower_12 : decode b_Mo_tower 12 = .ok (.if_icmp .ne 13, 3) := by decide +kernel
theorem d_Mo_tower_15 : decode b_Mo_tower 15 = .ok (.iload_n 2, 1) := by decide +kernel
theorem d_Mo_tower_16 : decode b_Mo_tower 16 = .ok (.ifCond .lt 9, 3) := by decide +kernel
theorem d_Mo_tower_19 : decode b_Mo_tower 19 = .ok (.iload_n 2, 1) := by decide +kernel
theorem d_Mo_tower_20 : decode b_Mo_tower 20 = .ok (.bipush 40, 2) := by decide +kernel
theorem d_Mo_tower_22 : decode b_Mo_tower 22 = .ok (.if_icmp .le 7, 3) := by decide +kernel
theorem d_Mo_tower_25 : decode b_Mo_tower 25 = .ok (.ldc2_w 135, 3) := by decide +kernel
theorem d_Mo_tower_28 : decode b_Mo_tower 28 = .ok (.lreturn, 1) := by decide +kernel
theorem d_Mo_tower_29 : decode b_Mo_tower 29 = .ok (.aload_n 0, 1) := by decide +kernel
theorem d_Mo_tower_30 : decode b_Mo_tower 30 = .ok (.iload_n 1, 1) := by decide +kernel
theorem d_Mo_tower_31 : decode b_Mo_tower 31 = .ok (.putfield 53, 3) := by decide +kernel
theorem d_Mo_tower_34 : decode b_Mo_tower 34 = .ok (.aload_n 0, 1) := by decide +kernel
theorem d_Mo_tower_35 : decode b_Mo_tower 35 = .ok (.iload_n 2, 1) := by decide +kernel
theorem d_Mo_tower_36 : decode b_Mo_tower 36 = .ok (.putfield 137, 3) := by decide +kernel
theorem d_Mo_tower_39 : decode b_Mo_tower 39 = .ok (.aload_n 0, 1) := by decide +kernel
theorem d_Mo_tower_40 : decode b_Mo_tower 40 = .ok (.invokevirtual 140, 3) := by decide +kernel
theorem d_Mo_tower_43 : decode b_Mo_tower 43 = .ok (.lreturn, 1) := by decide +kernel
theorem d_Mo_towerMove_0 : decode b_Mo_towerMove 0 = .ok (.aload_n 0, 1) := by decide +kernel
theorem d_Mo_towerMove_1 : decode b_Mo_towerMove 1 = .ok (.iconst 0, 1) := by decide +kernel
theorem d_Mo_towerMove_2 : decode b_Mo_towerMove 2 = .ok (.putfield 72, 3) := by decide +kernel
theorem d_Mo_towerMove_5 : decode b_Mo_towerMove 5 = .ok (.lload_n 1, 1) := by decide +kernel
theorem d_Mo_towerMove_6 : decode b_Mo_towerMove 6 = .ok (.lconst 0, 1) := by decide +kernel
theorem d_Mo_towerMove_7 : decode b_Mo_towerMove 7 = .ok (.lcmp, 1) := by decide +kernel
theorem d_Mo_towerMove_8 : decode b_Mo_towerMove 8 = .ok (.ifCond .lt 21, 3) := by decide +kernel
theorem d_Mo_towerMove_11 : decode b_Mo_towerMove 11 = .ok (.lload_n 1, 1) := by decide +kernel
theorem d_Mo_towerMove_12 : decode b_Mo_towerMove 12 = .ok (.aload_n 0, 1) := by decide +kernel
theorem d_Mo_towerMove_13 : decode b_Mo_towerMove 13 = .ok (.invokevirtual 140, 3) := by decide +kernel
theorem d_Mo_towerMove_16 : decode b_Mo_towerMove 16 = .ok (.lcmp, 1) := by decide +kernel
theorem d_Mo_towerMove_17 : decode b_Mo_towerMove 17 = .ok (.ifCond .ge 12, 3) := by decide +kernel
theorem d_Mo_towerMove_20 : decode b_Mo_towerMove 20 = .ok (.iload_n 3, 1) := by decide +kernel
theorem d_Mo_towerMove_21 : decode b_Mo_towerMove 21 = .ok (.ifCond .lt 8, 3) := by decide +kernel
theorem d_Mo_towerMove_24 : decode b_Mo_towerMove 24 = .ok (.iload_n 3, 1) := by decide +kernel
theorem d_Mo_towerMove_25 : decode b_Mo_towerMove 25 = .ok (.iconst 2, 1) := by decide +kernel
theorem d_Mo_towerMove_26 : decode b_Mo_towerMove 26 = .ok (.if_icmp .le 5, 3) := by decide +kernel
theorem d_Mo_towerMove_29 : decode b_Mo_towerMove 29 = .ok (.iconst (-1), 1) := by decide +kernel
theorem d_Mo_towerMove_30 : decode b_Mo_towerMove 30 = .ok (.ireturn, 1) := by decide +kernel
theorem d_Mo_towerMove_31 : decode b_Mo_towerMove 31 = .ok (.aload_n 0, 1) := by decide +kernel
theorem d_Mo_towerMove_32 : decode b_Mo_towerMove 32 = .ok (.getfield 53, 3) := by decide +kernel
theorem d_Mo_towerMove_35 : decode b_Mo_towerMove 35 = .ok (.iconst 3, 1) := by decide +kernel
theorem d_Mo_towerMove_36 : decode b_Mo_towerMove 36 = .ok (.if_icmp .ne 19, 3) := by decide +kernel
theorem d_Mo_towerMove_39 : decode b_Mo_towerMove 39 = .ok (.aload_n 0, 1) := by decide +kernel
theorem d_Mo_towerMove_40 : decode b_Mo_towerMove 40 = .ok (.lload_n 1, 1) := by decide +kernel
theorem d_Mo_towerMove_41 : decode b_Mo_towerMove 41 = .ok (.aload_n 0, 1) := by decide +kernel
theorem d_Mo_towerMove_42 : decode b_Mo_towerMove 42 = .ok (.getfield 137, 3) := by decide +kernel
theorem d_Mo_towerMove_45 : decode b_Mo_towerMove 45 = .ok (.iconst 0, 1) := by decide +kernel
theorem d_Mo_towerMove_46 : decode b_Mo_towerMove 46 = .ok (.iconst 0, 1) := by decide +kernel
theorem d_Mo_towerMove_47 : decode b_Mo_towerMove 47 = .ok (.iconst 1, 1) := by decide +kernel
theorem d_Mo_towerMove_48 : decode b_Mo_towerMove 48 = .ok (.iconst 2, 1) := by decide +kernel
theorem d_Mo_towerMove_49 : decode b_Mo_towerMove 49 = .ok (.invokevirtual 157, 3) := by decide +kernel
theorem d_Mo_towerMove_52 : decode b_Mo_towerMove 52 = .ok (.goto 12, 3) := by decide +kernel
theorem d_Mo_towerMove_55 : decode b_Mo_towerMove 55 = .ok (.aload_n 0, 1) := by decide +kernel
theorem d_Mo_towerMove_56 : decode b_Mo_towerMove 56 = .ok (.lload_n 1, 1) := by decide +kernel
theorem d_Mo_towerMove_57 : decode b_Mo_towerMove 57 = .ok (.aload_n 0, 1) := by decide +kernel
theorem d_Mo_towerMove_58 : decode b_Mo_towerMove 58 = .ok (.getfield 137, 3) := by decide +kernel
theorem d_Mo_towerMove_61 : decode b_Mo_towerMove 61 = .ok (.invokevirtual 161, 3) := by decide +kernel
theorem d_Mo_towerMove_64 : decode b_Mo_towerMove 64 = .ok (.iload_n 3, 1) := by decide +kernel
theorem d_Mo_towerMove_65 : decode b_Mo_towerMove 65 = .ok (.ifCond .ne 10, 3) := by decide +kernel
theorem d_Mo_towerMove_68 : decode b_Mo_towerMove 68 = .ok (.aload_n 0, 1) := by decide +kernel
theorem d_Mo_towerMove_69 : decode b_Mo_towerMove 69 = .ok (.getfield 144, 3) := by decide +kernel
theorem d_Mo_towerMove_72 : decode b_Mo_towerMove 72 = .ok (.goto 19, 3) := by decide +kernel
theorem d_Mo_towerMove_75 : decode b_Mo_towerMove 75 = .ok (.iload_n 3, 1) := by decide +kernel
theorem d_Mo_towerMove_76 : decode b_Mo_towerMove 76 = .ok (.iconst 1, 1) := by decide +kernel
theorem d_Mo_towerMove_77 : decode b_Mo_towerMove 77 = .ok (.if_icmp .ne 10, 3) := by decide +kernel
theorem d_Mo_towerMove_80 : decode b_Mo_towerMove 80 = .ok (.aload_n 0, 1) := by decide +kernel
theorem d_Mo_towerMove_81 : decode b_Mo_towerMove 81 = .ok (.getfield 147, 3) := by decide +kernel
theorem d_Mo_towerMove_84 : decode b_Mo_towerMove 84 = .ok (.goto 7, 3) := by decide +kernel
theorem d_Mo_towerMove_87 : decode b_Mo_towerMove 87 = .ok (.aload_n 0, 1) := by decide +kernel
theorem d_Mo_towerMove_88 : decode b_Mo_towerMove 88 = .ok (.getfield 150, 3) := by decide +kernel
theorem d_Mo_towerMove_91 : decode b_Mo_towerMove 91 = .ok (.ireturn, 1) := by decide +kernel
theorem d_Mo_unit_0 : decode b_Mo_unit 0 = .ok (.aload_n 0, 1) := by decide +kernel
theorem d_Mo_unit_1 : decode b_Mo_unit 1 = .ok (.iconst 0, 1) := by decide +kernel
theorem d_Mo_unit_2 : decode b_Mo_unit 2 = .ok (.putfield 72, 3) := by decide +kernel
theorem d_Mo_unit_5 : decode b_Mo_unit 5 = .ok (.iload_n 1, 1) := by decide +kernel
theorem d_Mo_unit_6 : decode b_Mo_unit 6 = .ok (.ifCond .lt 19, 3) := by decide +kernel
theorem d_Mo_unit_9 : decode b_Mo_unit 9 = .ok (.iload_n 1, 1) := by decide +kernel
theorem d_Mo_unit_10 : decode b_Mo_unit 10 = .ok (.sipush 255, 3) := by decide +kernel
theorem d_Mo_unit_13 : decode b_Mo_unit 13 = .ok (.if_icmp .gt 12, 3) := by decide +kernel
theorem d_Mo_unit_16 : decode b_Mo_unit 16 = .ok (.aload_n 0, 1) := by decide +kernel
theorem d_Mo_unit_17 : decode b_Mo_unit 17 = .ok (.getfield 111, 3) := by decide +kernel
theorem d_Mo_unit_20 : decode b_Mo_unit 20 = .ok (.bipush 100, 2) := by decide +kernel
theorem d_Mo_unit_22 : decode b_Mo_unit 22 = .ok (.if_icmp .ne 5, 3) := by decide +kernel
theorem d_Mo_unit_25 : decode b_Mo_unit 25 = .ok (.iconst 0, 1) := by decide +kernel
theorem d_Mo_unit_26 : decode b_Mo_unit 26 = .ok (.ireturn, 1) := by decide +kernel
theorem d_Mo_unit_27 : decode b_Mo_unit 27 = .ok (.aload_n 0, 1) := by decide +kernel
theorem d_Mo_unit_28 : decode b_Mo_unit 28 = .ok (.getfield 19, 3) := by decide +kernel
theorem d_Mo_unit_31 : decode b_Mo_unit 31 = .ok (.aload_n 0, 1) := by decide +kernel
theorem d_Mo_unit_32 : decode b_Mo_unit 32 = .ok (.getfield 111, 3) := by decide +kernel
theorem d_Mo_unit_35 : decode b_Mo_unit 35 = .ok (.iload_n 1, 1) := by decide +kernel
theorem d_Mo_unit_36 : decode b_Mo_unit 36 = .ok (.iastore, 1) := by decide +kernel
theorem d_Mo_unit_37 : decode b_Mo_unit 37 = .ok (.aload_n 0, 1) := by decide +kernel
theorem d_Mo_unit_38 : decode b_Mo_unit 38 = .ok (.dup, 1) := by decide +kernel
theorem d_Mo_unit_39 : decode b_Mo_unit 39 = .ok (.getfield 111, 3) := by decide +kernel
theorem d_Mo_unit_42 : decode b_Mo_unit 42 = .ok (.iconst 1, 1) := by decide +kernel
theorem d_Mo_unit_43 : decode b_Mo_unit 43 = .ok (.iadd, 1) := by decide +kernel
theorem d_Mo_unit_44 : decode b_Mo_unit 44 = .ok (.putfield 111, 3) := by decide +kernel
theorem d_Mo_unit_47 : decode b_Mo_unit 47 = .ok (.iconst 1, 1) := by decide +kernel
theorem d_Mo_unit_48 : decode b_Mo_unit 48 = .ok (.ireturn, 1) := by decide +kernel
theorem d_Mo_weigh_0 : decode b_Mo_weigh 0 = .ok (.aload_n 0, 1) := by decide +kernel
theorem d_Mo_weigh_1 : decode b_Mo_weigh 1 = .ok (.iconst 0, 1) := by decide +kernel
theorem d_Mo_weigh_2 : decode b_Mo_weigh 2 = .ok (.putfield 72, 3) := by decide +kernel
theorem d_Mo_weigh_5 : decode b_Mo_weigh 5 = .ok (.iload_n 1, 1) := by decide +kernel
theorem d_Mo_weigh_6 : decode b_Mo_weigh 6 = .ok (.iconst 1, 1) := by decide +kernel
theorem d_Mo_weigh_7 : decode b_Mo_weigh 7 = .ok (.if_icmp .lt 18, 3) := by decide +kernel
theorem d_Mo_weigh_10 : decode b_Mo_weigh 10 = .ok (.iload_n 1, 1) := by decide +kernel
theorem d_Mo_weigh_11 : decode b_Mo_weigh 11 = .ok (.bipush 13, 2) := by decide +kernel
theorem d_Mo_weigh_13 : decode b_Mo_weigh 13 = .ok (.if_icmp .gt 12, 3) := by decide +kernel
theorem d_Mo_weigh_16 : decode b_Mo_weigh 16 = .ok (.iload_n 2, 1) := by decide +kernel
theorem d_Mo_weigh_17 : decode b_Mo_weigh 17 = .ok (.ifCond .eq 11, 3) := by decide +kernel
theorem d_Mo_weigh_20 : decode b_Mo_weigh 20 = .ok (.iload_n 2, 1) := by decide +kernel
theorem d_Mo_weigh_21 : decode b_Mo_weigh 21 = .ok (.iconst 1, 1) := by decide +kernel
theorem d_Mo_weigh_22 : decode b_Mo_weigh 22 = .ok (.if_icmp .eq 6, 3) := by decide +kernel
theorem d_Mo_weigh_25 : decode b_Mo_weigh 25 = .ok (.bipush (-2), 2) := by decide +kernel
theorem d_Mo_weigh_27 : decode b_Mo_weigh 27 = .ok (.ireturn, 1) := by decide +kernel
theorem d_Mo_weigh_28 : decode b_Mo_weigh 28 = .ok (.iload_n 2, 1) := by decide +kernel
theorem d_Mo_weigh_29 : decode b_Mo_weigh 29 = .ok (.iconst 1, 1) := by decide +kernel
theorem d_Mo_weigh_30 : decode b_Mo_weigh 30 = .ok (.if_icmp .ne 10, 3) := by decide +kernel
theorem d_Mo_weigh_33 : decode b_Mo_weigh 33 = .ok (.iload_n 1, 1) := by decide +kernel
theorem d_Mo_weigh_34 : decode b_Mo_weigh 34 = .ok (.iconst 3, 1) := by decide +kernel
theorem d_Mo_weigh_35 : decode b_Mo_weigh 35 = .ok (.if_icmp .ge 5, 3) := by decide +kernel
theorem d_Mo_weigh_38 : decode b_Mo_weigh 38 = .ok (.iconst (-1), 1) := by decide +kernel
theorem d_Mo_weigh_39 : decode b_Mo_weigh 39 = .ok (.ireturn, 1) := by decide +kernel
theorem d_Mo_weigh_40 : decode b_Mo_weigh 40 = .ok (.iconst 0, 1) := by decide +kernel
theorem d_Mo_weigh_41 : decode b_Mo_weigh 41 = .ok (.istore_n 3, 1) := by decide +kernel
theorem d_Mo_weigh_42 : decode b_Mo_weigh 42 = .ok (.iconst 1, 1) := by decide +kernel
theorem d_Mo_weigh_43 : decode b_Mo_weigh 43 = .ok (.istore 4, 2) := by decide +kernel
theorem d_Mo_weigh_45 : decode b_Mo_weigh 45 = .ok (.iload_n 2, 1) := by decide +kernel
theorem d_Mo_weigh_46 : decode b_Mo_weigh 46 = .ok (.ifCond .ne 12, 3) := by decide +kernel
theorem d_Mo_weigh_49 : decode b_Mo_weigh 49 = .ok (.iload 4, 2) := by decide +kernel
theorem d_Mo_weigh_51 : decode b_Mo_weigh 51 = .ok (.iload_n 1, 1) := by decide +kernel
theorem d_Mo_weigh_52 : decode b_Mo_weigh 52 = .ok (.if_icmp .ge 28, 3) := by decide +kernel
theorem d_Mo_weigh_55 : decode b_Mo_weigh 55 = .ok (.goto 13, 3) := by decide +kernel
theorem d_Mo_weigh_58 : decode b_Mo_weigh 58 = .ok (.iload 4, 2) := by decide +kernel
theorem d_Mo_weigh_60 : decode b_Mo_weigh 60 = .ok (.iconst 3, 1) := by decide +kernel
theorem d_Mo_weigh_61 : decode b_Mo_weigh 61 = .ok (.isub, 1) := by decide +kernel
theorem d_Mo_weigh_62 : decode b_Mo_weigh 62 = .ok (.iconst 2, 1) := by decide +kernel
theorem d_Mo_weigh_63 : decode b_Mo_weigh 63 = .ok (.idiv, 1) := by decide +kernel
theorem d_Mo_weigh_64 : decode b_Mo_weigh 64 = .ok (.iload_n 1, 1) := by decide +kernel
theorem d_Mo_weigh_65 : decode b_Mo_weigh 65 = .ok (.if_icmp .ge 15, 3) := by decide +kernel
theorem d_Mo_weigh_68 : decode b_Mo_weigh 68 = .ok (.iload 4, 2) := by decide +kernel
theorem d_Mo_weigh_70 : decode b_Mo_weigh 70 = .ok (.iconst 3, 1) := by decide +kernel
theorem d_Mo_weigh_71 : decode b_Mo_weigh 71 = .ok (.imul, 1) := by decide +kernel
theorem d_Mo_weigh_72 : decode b_Mo_weigh 72 = .ok (.istore 4, 2) := by decide +kernel
theorem d_Mo_weigh_74 : decode b_Mo_weigh 74 = .ok (.iinc 3 1, 3) := by decide +kernel
theorem d_Mo_weigh_77 : decode b_Mo_weigh 77 = .ok (.goto (-32), 3) := by decide +kernel
theorem d_Mo_weigh_80 : decode b_Mo_weigh 80 = .ok (.iload_n 3, 1) := by decide +kernel
theorem d_Mo_weigh_81 : decode b_Mo_weigh 81 = .ok (.ireturn, 1) := by decide +kernel
theorem d_Ig_bitCount_0 : decode b_Ig_bitCount 0 = .ok (.iload_n 0, 1) := by decide +kernel
theorem d_Ig_bitCount_1 : decode b_Ig_bitCount 1 = .ok (.iload_n 0, 1) := by decide +kernel
theorem d_Ig_bitCount_2 : decode b_Ig_bitCount 2 = .ok (.iconst 1, 1) := by decide +kernel
theorem d_Ig_bitCount_3 : decode b_Ig_bitCount 3 = .ok (.iushr, 1) := by decide +kernel
theorem d_Ig_bitCount_4 : decode b_Ig_bitCount 4 = .ok (.ldc_w 265, 3) := by decide +kernel
theorem d_Ig_bitCount_7 : decode b_Ig_bitCount 7 = .ok (.iand, 1) := by decide +kernel
theorem d_Ig_bitCount_8 : decode b_Ig_bitCount 8 = .ok (.isub, 1) := by decide +kernel
theorem d_Ig_bitCount_9 : decode b_Ig_bitCount 9 = .ok (.istore_n 0, 1) := by decide +kernel
theorem d_Ig_bitCount_10 : decode b_Ig_bitCount 10 = .ok (.iload_n 0, 1) := by decide +kernel
theorem d_Ig_bitCount_11 : decode b_Ig_bitCount 11 = .ok (.ldc_w 266, 3) := by decide +kernel
theorem d_Ig_bitCount_14 : decode b_Ig_bitCount 14 = .ok (.iand, 1) := by decide +kernel
theorem d_Ig_bitCount_15 : decode b_Ig_bitCount 15 = .ok (.iload_n 0, 1) := by decide +kernel
theorem d_Ig_bitCount_16 : decode b_Ig_bitCount 16 = .ok (.iconst 2, 1) := by decide +kernel
theorem d_Ig_bitCount_17 : decode b_Ig_bitCount 17 = .ok (.iushr, 1) := by decide +kernel
theorem d_Ig_bitCount_18 : decode b_Ig_bitCount 18 = .ok (.ldc_w 266, 3) := by decide +kernel
theorem d_Ig_bitCount_21 : decode b_Ig_bitCount 21 = .ok (.iand, 1) := by decide +kernel
theorem d_Ig_bitCount_22 : decode b_Ig_bitCount 22 = .ok (.iadd, 1) := by decide +kernel
theorem d_Ig_bitCount_23 : decode b_Ig_bitCount 23 = .ok (.istore_n 0, 1) := by decide +kernel
theorem d_Ig_bitCount_24 : decode b_Ig_bitCount 24 = .ok (.iload_n 0, 1) := by decide +kernel
theorem d_Ig_bitCount_25 : decode b_Ig_bitCount 25 = .ok (.iload_n 0, 1) := by decide +kernel
theorem d_Ig_bitCount_26 : decode b_Ig_bitCount 26 = .ok (.iconst 4, 1) := by decide +kernel
theorem d_Ig_bitCount_27 : decode b_Ig_bitCount 27 = .ok (.iushr, 1) := by decide +kernel
theorem d_Ig_bitCount_28 : decode b_Ig_bitCount 28 = .ok (.iadd, 1) := by decide +kernel
theorem d_Ig_bitCount_29 : decode b_Ig_bitCount 29 = .ok (.ldc_w 267, 3) := by decide +kernel
theorem d_Ig_bitCount_32 : decode b_Ig_bitCount 32 = .ok (.iand, 1) := by decide +kernel
theorem d_Ig_bitCount_33 : decode b_Ig_bitCount 33 = .ok (.istore_n 0, 1) := by decide +kernel
theorem d_Ig_bitCount_34 : decode b_Ig_bitCount 34 = .ok (.iload_n 0, 1) := by decide +kernel
theorem d_Ig_bitCount_35 : decode b_Ig_bitCount 35 = .ok (.iload_n 0, 1) := by decide +kernel
theorem d_Ig_bitCount_36 : decode b_Ig_bitCount 36 = .ok (.bipush 8, 2) := by decide +kernel
theorem d_Ig_bitCount_38 : decode b_Ig_bitCount 38 = .ok (.iushr, 1) := by decide +kernel
theorem d_Ig_bitCount_39 : decode b_Ig_bitCount 39 = .ok (.iadd, 1) := by decide +kernel
theorem d_Ig_bitCount_40 : decode b_Ig_bitCount 40 = .ok (.istore_n 0, 1) := by decide +kernel
theorem d_Ig_bitCount_41 : decode b_Ig_bitCount 41 = .ok (.iload_n 0, 1) := by decide +kernel
theorem d_Ig_bitCount_42 : decode b_Ig_bitCount 42 = .ok (.iload_n 0, 1) := by decide +kernel
theorem d_Ig_bitCount_43 : decode b_Ig_bitCount 43 = .ok (.bipush 16, 2) := by decide +kernel
theorem d_Ig_bitCount_45 : decode b_Ig_bitCount 45 = .ok (.iushr, 1) := by decide +kernel
theorem d_Ig_bitCount_46 : decode b_Ig_bitCount 46 = .ok (.iadd, 1) := by decide +kernel
theorem d_Ig_bitCount_47 : decode b_Ig_bitCount 47 = .ok (.istore_n 0, 1) := by decide +kernel
theorem d_Ig_bitCount_48 : decode b_Ig_bitCount 48 = .ok (.iload_n 0, 1) := by decide +kernel
theorem d_Ig_bitCount_49 : decode b_Ig_bitCount 49 = .ok (.bipush 63, 2) := by decide +kernel
theorem d_Ig_bitCount_51 : decode b_Ig_bitCount 51 = .ok (.iand, 1) := by decide +kernel
theorem d_Ig_bitCount_52 : decode b_Ig_bitCount 52 = .ok (.ireturn, 1) := by decide +kernel
theorem d_Ma_min_0 : decode b_Ma_min 0 = .ok (.iload_n 0, 1) := by decide +kernel
theorem d_Ma_min_1 : decode b_Ma_min 1 = .ok (.iload_n 1, 1) := by decide +kernel
theorem d_Ma_min_2 : decode b_Ma_min 2 = .ok (.if_icmp .gt 7, 3) := by decide +kernel
theorem d_Ma_min_5 : decode b_Ma_min 5 = .ok (.iload_n 0, 1) := by decide +kernel
theorem d_Ma_min_6 : decode b_Ma_min 6 = .ok (.goto 4, 3) := by decide +kernel
theorem d_Ma_min_9 : decode b_Ma_min 9 = .ok (.iload_n 1, 1) := by decide +kernel
theorem d_Ma_min_10 : decode b_Ma_min 10 = .ok (.ireturn, 1) := by decide +kernel
theorem d_Ar_fill_0 : decode b_Ar_fill 0 = .ok (.iconst 0, 1) := by decide +kernel
theorem d_Ar_fill_1 : decode b_Ar_fill 1 = .ok (.istore_n 2, 1) := by decide +kernel
theorem d_Ar_fill_2 : decode b_Ar_fill 2 = .ok (.aload_n 0, 1) := by decide +kernel
theorem d_Ar_fill_3 : decode b_Ar_fill 3 = .ok (.arraylength, 1) := by decide +kernel
theorem d_Ar_fill_4 : decode b_Ar_fill 4 = .ok (.istore_n 3, 1) := by decide +kernel
theorem d_Ar_fill_5 : decode b_Ar_fill 5 = .ok (.iload_n 2, 1) := by decide +kernel
theorem d_Ar_fill_6 : decode b_Ar_fill 6 = .ok (.iload_n 3, 1) := by decide +kernel
theorem d_Ar_fill_7 : decode b_Ar_fill 7 = .ok (.if_icmp .ge 13, 3) := by decide +kernel
theorem d_Ar_fill_10 : decode b_Ar_fill 10 = .ok (.aload_n 0, 1) := by decide +kernel
theorem d_Ar_fill_11 : decode b_Ar_fill 11 = .ok (.iload_n 2, 1) := by decide +kernel
theorem d_Ar_fill_12 : decode b_Ar_fill 12 = .ok (.iload_n 1, 1) := by decide +kernel
theorem d_Ar_fill_13 : decode b_Ar_fill 13 = .ok (.iastore, 1) := by decide +kernel
theorem d_Ar_fill_14 : decode b_Ar_fill 14 = .ok (.iinc 2 1, 3) := by decide +kernel
theorem d_Ar_fill_17 : decode b_Ar_fill 17 = .ok (.goto (-12), 3) := by decide +kernel
theorem d_Ar_fill_20 : decode b_Ar_fill 20 = .ok (.return_, 1) := by decide +kernel
