theorem d_Tw_tellOfThree_41 : decode b_Tw_tellOfThree 41 = .ok (.ifCond .ne 25, 3) := by decide +kernel
theorem d_Tw_tellOfThree_44 : decode b_Tw_tellOfThree 44 = .ok (.iload_n 2, 1) := by decide +kernel
theorem d_Tw_tellOfThree_45 : decode b_Tw_tellOfThree 45 = .ok (.ifCond .ne 8, 3) := by decide +kernel
theorem d_Tw_tellOfThree_48 : decode b_Tw_tellOfThree 48 = .ok (.iload 13, 2) := by decide +kernel
theorem d_Tw_tellOfThree_50 : decode b_Tw_tellOfThree 50 = .ok (.goto 15, 3) := by decide +kernel
theorem d_Tw_tellOfThree_53 : decode b_Tw_tellOfThree 53 = .ok (.iload_n 2, 1) := by decide +kernel
theorem d_Tw_tellOfThree_54 : decode b_Tw_tellOfThree 54 = .ok (.iconst 1, 1) := by decide +kernel
theorem d_Tw_tellOfThree_55 : decode b_Tw_tellOfThree 55 = .ok (.if_icmp .ne 8, 3) := by decide +kernel
theorem d_Tw_tellOfThree_58 : decode b_Tw_tellOfThree 58 = .ok (.iload 10, 2) := by decide +kernel
theorem d_Tw_tellOfThree_60 : decode b_Tw_tellOfThree 60 = .ok (.goto 5, 3) := by decide +kernel
theorem d_Tw_tellOfThree_63 : decode b_Tw_tellOfThree 63 = .ok (.iload 11, 2) := by decide +kernel
theorem d_Tw_tellOfThree_65 : decode b_Tw_tellOfThree 65 = .ok (.ireturn, 1) := by decide +kernel
theorem d_Tw_tellOfThree_66 : decode b_Tw_tellOfThree 66 = .ok (.iload 12, 2) := by decide +kernel
theorem d_Tw_tellOfThree_68 : decode b_Tw_tellOfThree 68 = .ok (.istore 16, 2) := by decide +kernel
theorem d_Tw_tellOfThree_70 : decode b_Tw_tellOfThree 70 = .ok (.lload 8, 2) := by decide +kernel
theorem d_Tw_tellOfThree_72 : decode b_Tw_tellOfThree 72 = .ok (.lload 14, 2) := by decide +kernel
theorem d_Tw_tellOfThree_74 : decode b_Tw_tellOfThree 74 = .ok (.lcmp, 1) := by decide +kernel
theorem d_Tw_tellOfThree_75 : decode b_Tw_tellOfThree 75 = .ok (.ifCond .ge 14, 3) := by decide +kernel
theorem d_Tw_tellOfThree_78 : decode b_Tw_tellOfThree 78 = .ok (.iload 11, 2) := by decide +kernel
theorem d_Tw_tellOfThree_80 : decode b_Tw_tellOfThree 80 = .ok (.istore 12, 2) := by decide +kernel
theorem d_Tw_tellOfThree_82 : decode b_Tw_tellOfThree 82 = .ok (.iload 16, 2) := by decide +kernel
theorem d_Tw_tellOfThree_84 : decode b_Tw_tellOfThree 84 = .ok (.istore 11, 2) := by decide +kernel
theorem d_Tw_tellOfThree_86 : decode b_Tw_tellOfThree 86 = .ok (.goto 20, 3) := by decide +kernel
theorem d_Tw_tellOfThree_89 : decode b_Tw_tellOfThree 89 = .ok (.lload 8, 2) := by decide +kernel
theorem d_Tw_tellOfThree_91 : decode b_Tw_tellOfThree 91 = .ok (.lload 14, 2) := by decide +kernel
theorem d_Tw_tellOfThree_93 : decode b_Tw_tellOfThree 93 = .ok (.lconst 1, 1) := by decide +kernel
theorem d_Tw_tellOfThree_94 : decode b_Tw_tellOfThree 94 = .ok (.ladd, 1) := by decide +kernel
theorem d_Tw_tellOfThree_95 : decode b_Tw_tellOfThree 95 = .ok (.lsub, 1) := by decide +kernel
theorem d_Tw_tellOfThree_96 : decode b_Tw_tellOfThree 96 = .ok (.lstore 8, 2) := by decide +kernel
theorem d_Tw_tellOfThree_98 : decode b_Tw_tellOfThree 98 = .ok (.iload 10, 2) := by decide +kernel
theorem d_Tw_tellOfThree_100 : decode b_Tw_tellOfThree 100 = .ok (.istore 12, 2) := by decide +kernel
theorem d_Tw_tellOfThree_102 : decode b_Tw_tellOfThree 102 = .ok (.iload 16, 2) := by decide +kernel
theorem d_Tw_tellOfThree_104 : decode b_Tw_tellOfThree 104 = .ok (.istore 10, 2) := by decide +kernel
theorem d_Tw_tellOfThree_106 : decode b_Tw_tellOfThree 106 = .ok (.iinc 13 (-1), 3) := by decide +kernel
theorem d_Tw_tellOfThree_109 : decode b_Tw_tellOfThree 109 = .ok (.goto (-88), 3) := by decide +kernel
theorem d_Tw_tellOfThree_112 : decode b_Tw_tellOfThree 112 = .ok (.iconst (-1), 1) := by decide +kernel
theorem d_Tw_tellOfThree_113 : decode b_Tw_tellOfThree 113 = .ok (.ireturn, 1) := by decide +kernel
theorem d_Tw_threePegMoves_0 : decode b_Tw_threePegMoves 0 = .ok (.lconst 1, 1) := by decide +kernel
theorem d_Tw_threePegMoves_1 : decode b_Tw_threePegMoves 1 = .ok (.iload_n 0, 1) := by decide +kernel
theorem d_Tw_threePegMoves_2 : decode b_Tw_threePegMoves 2 = .ok (.lshl, 1) := by decide +kernel
theorem d_Tw_threePegMoves_3 : decode b_Tw_threePegMoves 3 = .ok (.lconst 1, 1) := by decide +kernel
theorem d_Tw_threePegMoves_4 : decode b_Tw_threePegMoves 4 = .ok (.lsub, 1) := by decide +kernel
theorem d_Tw_threePegMoves_5 : decode b_Tw_threePegMoves 5 = .ok (.lreturn, 1) := by decide +kernel
theorem d_Mo_init_0 : decode b_Mo_init 0 = .ok (.aload_n 0, 1) := by decide +kernel
theorem d_Mo_init_1 : decode b_Mo_init 1 = .ok (.invokespecial 1, 3) := by decide +kernel
theorem d_Mo_init_4 : decode b_Mo_init 4 = .ok (.aload_n 0, 1) := by decide +kernel
theorem d_Mo_init_5 : decode b_Mo_init 5 = .ok (.iconst 4, 1) := by decide +kernel
theorem d_Mo_init_6 : decode b_Mo_init 6 = .ok (.newarray .int, 2) := by decide +kernel
theorem d_Mo_init_8 : decode b_Mo_init 8 = .ok (.putfield 7, 3) := by decide +kernel
theorem d_Mo_init_11 : decode b_Mo_init 11 = .ok (.aload_n 0, 1) := by decide +kernel
theorem d_Mo_init_12 : decode b_Mo_init 12 = .ok (.iconst 4, 1) := by decide +kernel
theorem d_Mo_init_13 : decode b_Mo_init 13 = .ok (.newarray .int, 2) := by decide +kernel
theorem d_Mo_init_15 : decode b_Mo_init 15 = .ok (.putfield 13, 3) := by decide +kernel
theorem d_Mo_init_18 : decode b_Mo_init 18 = .ok (.aload_n 0, 1) := by decide +kernel
theorem d_Mo_init_19 : decode b_Mo_init 19 = .ok (.iconst 4, 1) := by decide +kernel
theorem d_Mo_init_20 : decode b_Mo_init 20 = .ok (.newarray .int, 2) := by decide +kernel
theorem d_Mo_init_22 : decode b_Mo_init 22 = .ok (.putfield 16, 3) := by decide +kernel
theorem d_Mo_init_25 : decode b_Mo_init 25 = .ok (.aload_n 0, 1) := by decide +kernel
theorem d_Mo_init_26 : decode b_Mo_init 26 = .ok (.bipush 100, 2) := by decide +kernel
theorem d_Mo_init_28 : decode b_Mo_init 28 = .ok (.newarray .int, 2) := by decide +kernel
theorem d_Mo_init_30 : decode b_Mo_init 30 = .ok (.putfield 19, 3) := by decide +kernel
theorem d_Mo_init_33 : decode b_Mo_init 33 = .ok (.aload_n 0, 1) := by decide +kernel
theorem d_Mo_init_34 : decode b_Mo_init 34 = .ok (.sipush 10000, 3) := by decide +kernel
theorem d_Mo_init_37 : decode b_Mo_init 37 = .ok (.newarray .int, 2) := by decide +kernel
theorem d_Mo_init_39 : decode b_Mo_init 39 = .ok (.putfield 22, 3) := by decide +kernel
theorem d_Mo_init_42 : decode b_Mo_init 42 = .ok (.aload_n 0, 1) := by decide +kernel
theorem d_Mo_init_43 : decode b_Mo_init 43 = .ok (.sipush 10000, 3) := by decide +kernel
theorem d_Mo_init_46 : decode b_Mo_init 46 = .ok (.newarray .int, 2) := by decide +kernel
theorem d_Mo_init_48 : decode b_Mo_init 48 = .ok (.putfield 25, 3) := by decide +kernel
theorem d_Mo_init_51 : decode b_Mo_init 51 = .ok (.aload_n 0, 1) := by decide +kernel
theorem d_Mo_init_52 : decode b_Mo_init 52 = .ok (.sipush 10000, 3) := by decide +kernel
theorem d_Mo_init_55 : decode b_Mo_init 55 = .ok (.newarray .int, 2) := by decide +kernel
theorem d_Mo_init_57 : decode b_Mo_init 57 = .ok (.putfield 28, 3) := by decide +kernel
theorem d_Mo_init_60 : decode b_Mo_init 60 = .ok (.aload_n 0, 1) := by decide +kernel
theorem d_Mo_init_61 : decode b_Mo_init 61 = .ok (.sipush 10000, 3) := by decide +kernel
theorem d_Mo_init_64 : decode b_Mo_init 64 = .ok (.newarray .int, 2) := by decide +kernel
theorem d_Mo_init_66 : decode b_Mo_init 66 = .ok (.putfield 31, 3) := by decide +kernel
theorem d_Mo_init_69 : decode b_Mo_init 69 = .ok (.aload_n 0, 1) := by decide +kernel
theorem d_Mo_init_70 : decode b_Mo_init 70 = .ok (.sipush 10000, 3) := by decide +kernel
theorem d_Mo_init_73 : decode b_Mo_init 73 = .ok (.newarray .int, 2) := by decide +kernel
theorem d_Mo_init_75 : decode b_Mo_init 75 = .ok (.putfield 34, 3) := by decide +kernel
theorem d_Mo_init_78 : decode b_Mo_init 78 = .ok (.aload_n 0, 1) := by decide +kernel
theorem d_Mo_init_79 : decode b_Mo_init 79 = .ok (.sipush 10000, 3) := by decide +kernel
theorem d_Mo_init_82 : decode b_Mo_init 82 = .ok (.newarray .int, 2) := by decide +kernel
theorem d_Mo_init_84 : decode b_Mo_init 84 = .ok (.putfield 37, 3) := by decide +kernel
theorem d_Mo_init_87 : decode b_Mo_init 87 = .ok (.aload_n 0, 1) := by decide +kernel
theorem d_Mo_init_88 : decode b_Mo_init 88 = .ok (.sipush 10000, 3) := by decide +kernel
theorem d_Mo_init_91 : decode b_Mo_init 91 = .ok (.newarray .boolean, 2) := by decide +kernel
theorem d_Mo_init_93 : decode b_Mo_init 93 = .ok (.putfield 40, 3) := by decide +kernel
theorem d_Mo_init_96 : decode b_Mo_init 96 = .ok (.aload_n 0, 1) := by decide +kernel
theorem d_Mo_init_97 : decode b_Mo_init 97 = .ok (.iconst 4, 1) := by decide +kernel
theorem d_Mo_init_98 : decode b_Mo_init 98 = .ok (.newarray .int, 2) := by decide +kernel
theorem d_Mo_init_100 : decode b_Mo_init 100 = .ok (.putfield 44, 3) := by decide +kernel
theorem d_Mo_init_103 : decode b_Mo_init 103 = .ok (.aload_n 0, 1) := by decide +kernel
theorem d_Mo_init_104 : decode b_Mo_init 104 = .ok (.bipush 8, 2) := by decide +kernel
theorem d_Mo_init_106 : decode b_Mo_init 106 = .ok (.newarray .int, 2) := by decide +kernel
theorem d_Mo_init_108 : decode b_Mo_init 108 = .ok (.putfield 47, 3) := by decide +kernel
theorem d_Mo_init_111 : decode b_Mo_init 111 = .ok (.aload_n 0, 1) := by decide +kernel
theorem d_Mo_init_112 : decode b_Mo_init 112 = .ok (.bipush 8, 2) := by decide +kernel
theorem d_Mo_init_114 : decode b_Mo_init 114 = .ok (.newarray .int, 2) := by decide +kernel
theorem d_Mo_init_116 : decode b_Mo_init 116 = .ok (.putfield 50, 3) := by decide +kernel
theorem d_Mo_init_119 : decode b_Mo_init 119 = .ok (.aload_n 0, 1) := by decide +kernel
theorem d_Mo_init_120 : decode b_Mo_init 120 = .ok (.iconst 3, 1) := by decide +kernel
theorem d_Mo_init_121 : decode b_Mo_init 121 = .ok (.putfield 53, 3) := by decide +kernel
theorem d_Mo_init_124 : decode b_Mo_init 124 = .ok (.aload_n 0, 1) := by decide +kernel
theorem d_Mo_init_125 : decode b_Mo_init 125 = .ok (.bipush 41, 2) := by decide +kernel
theorem d_Mo_init_127 : decode b_Mo_init 127 = .ok (.newarray .long, 2) := by decide +kernel
theorem d_Mo_init_129 : decode b_Mo_init 129 = .ok (.putfield 57, 3) := by decide +kernel
theorem d_Mo_init_132 : decode b_Mo_init 132 = .ok (.aload_n 0, 1) := by decide +kernel
theorem d_Mo_init_133 : decode b_Mo_init 133 = .ok (.bipush 41, 2) := by decide +kernel
theorem d_Mo_init_135 : decode b_Mo_init 135 = .ok (.newarray .int, 2) := by decide +kernel
theorem d_Mo_init_137 : decode b_Mo_init 137 = .ok (.putfield 61, 3) := by decide +kernel
theorem d_Mo_init_140 : decode b_Mo_init 140 = .ok (.iconst 1, 1) := by decide +kernel
theorem d_Mo_init_141 : decode b_Mo_init 141 = .ok (.istore_n 1, 1) := by decide +kernel
theorem d_Mo_init_142 : decode b_Mo_init 142 = .ok (.iload_n 1, 1) := by decide +kernel
theorem d_Mo_init_143 : decode b_Mo_init 143 = .ok (.bipush 40, 2) := by decide +kernel
theorem d_Mo_init_145 : decode b_Mo_init 145 = .ok (.if_icmp .gt 77, 3) := by decide +kernel
theorem d_Mo_init_148 : decode b_Mo_init 148 = .ok (.aload_n 0, 1) := by decide +kernel
theorem d_Mo_init_149 : decode b_Mo_init 149 = .ok (.getfield 57, 3) := by decide +kernel
theorem d_Mo_init_152 : decode b_Mo_init 152 = .ok (.iload_n 1, 1) := by decide +kernel
theorem d_Mo_init_153 : decode b_Mo_init 153 = .ok (.ldc2_w 64, 3) := by decide +kernel
theorem d_Mo_init_156 : decode b_Mo_init 156 = .ok (.lastore, 1) := by decide +kernel
theorem d_Mo_init_157 : decode b_Mo_init 157 = .ok (.iconst 0, 1) := by decide +kernel
theorem d_Mo_init_158 : decode b_Mo_init 158 = .ok (.istore_n 2, 1) := by decide +kernel
theorem d_Mo_init_159 : decode b_Mo_init 159 = .ok (.iload_n 2, 1) := by decide +kernel
theorem d_Mo_init_160 : decode b_Mo_init 160 = .ok (.iload_n 1, 1) := by decide +kernel
theorem d_Mo_init_161 : decode b_Mo_init 161 = .ok (.if_icmp .ge 55, 3) := by decide +kernel
theorem d_Mo_init_164 : decode b_Mo_init 164 = .ok (.ldc2_w 66, 3) := by decide +kernel
theorem d_Mo_init_167 : decode b_Mo_init 167 = .ok (.aload_n 0, 1) := by decide +kernel
theorem d_Mo_init_168 : decode b_Mo_init 168 = .ok (.getfield 57, 3) := by decide +kernel
theorem d_Mo_init_171 : decode b_Mo_init 171 = .ok (.iload_n 2, 1) := by decide +kernel
theorem d_Mo_init_172 : decode b_Mo_init 172 = .ok (.laload, 1) := by decide +kernel
theorem d_Mo_init_173 : decode b_Mo_init 173 = .ok (.lmul, 1) := by decide +kernel
theorem d_Mo_init_174 : decode b_Mo_init 174 = .ok (.iload_n 1, 1) := by decide +kernel
theorem d_Mo_init_175 : decode b_Mo_init 175 = .ok (.iload_n 2, 1) := by decide +kernel
theorem d_Mo_init_176 : decode b_Mo_init 176 = .ok (.isub, 1) := by decide +kernel
theorem d_Mo_init_177 : decode b_Mo_init 177 = .ok (.invokestatic 68, 3) := by decide +kernel
theorem d_Mo_init_180 : decode b_Mo_init 180 = .ok (.ladd, 1) := by decide +kernel
theorem d_Mo_init_181 : decode b_Mo_init 181 = .ok (.lstore_n 3, 1) := by decide +kernel
theorem d_Mo_init_182 : decode b_Mo_init 182 = .ok (.lload_n 3, 1) := by decide +kernel
theorem d_Mo_init_183 : decode b_Mo_init 183 = .ok (.aload_n 0, 1) := by decide +kernel
theorem d_Mo_init_184 : decode b_Mo_init 184 = .ok (.getfield 57, 3) := by decide +kernel
theorem d_Mo_init_187 : decode b_Mo_init 187 = .ok (.iload_n 1, 1) := by decide +kernel
theorem d_Mo_init_188 : decode b_Mo_init 188 = .ok (.laload, 1) := by decide +kernel
theorem d_Mo_init_189 : decode b_Mo_init 189 = .ok (.lcmp, 1) := by decide +kernel
theorem d_Mo_init_190 : decode b_Mo_init 190 = .ok (.ifCond .lt 6, 3) := by decide +kernel
theorem d_Mo_init_193 : decode b_Mo_init 193 = .ok (.goto 17, 3) := by decide +kernel
theorem d_Mo_init_196 : decode b_Mo_init 196 = .ok (.aload_n 0, 1) := by decide +kernel
theorem d_Mo_init_197 : decode b_Mo_init 197 = .ok (.getfield 57, 3) := by decide +kernel
theorem d_Mo_init_200 : decode b_Mo_init 200 = .ok (.iload_n 1, 1) := by decide +kernel
theorem d_Mo_init_201 : decode b_Mo_init 201 = .ok (.lload_n 3, 1) := by decide +kernel
theorem d_Mo_init_202 : decode b_Mo_init 202 = .ok (.lastore, 1) := by decide +kernel
theorem d_Mo_init_203 : decode b_Mo_init 203 = .ok (.aload_n 0, 1) := by decide +kernel
theorem d_Mo_init_204 : decode b_Mo_init 204 = .ok (.getfield 61, 3) := by decide +kernel
theorem d_Mo_init_207 : decode b_Mo_init 207 = .ok (.iload_n 1, 1) := by decide +kernel
theorem d_Mo_init_208 : decode b_Mo_init 208 = .ok (.iload_n 2, 1) := by decide +kernel
theorem d_Mo_init_209 : decode b_Mo_init 209 = .ok (.iastore, 1) := by decide +kernel
theorem d_Mo_init_210 : decode b_Mo_init 210 = .ok (.iinc 2 1, 3) := by decide +kernel
theorem d_Mo_init_213 : decode b_Mo_init 213 = .ok (.goto (-54), 3) := by decide +kernel
theorem d_Mo_init_216 : decode b_Mo_init 216 = .ok (.iinc 1 1, 3) := by decide +kernel
theorem d_Mo_init_219 : decode b_Mo_init 219 = .ok (.goto (-77), 3) := by decide +kernel
theorem d_Mo_init_222 : decode b_Mo_init 222 = .ok (.return_, 1) := by decide +kernel
theorem d_Mo_all_0 : decode b_Mo_all 0 = .ok (.aload_n 0, 1) := by decide +kernel
theorem d_Mo_all_1 : decode b_Mo_all 1 = .ok (.getfield 53, 3) := by decide +kernel
theorem d_Mo_all_4 : decode b_Mo_all 4 = .ok (.iconst 3, 1) := by decide +kernel
theorem d_Mo_all_5 : decode b_Mo_all 5 = .ok (.if_icmp .ne 13, 3) := by decide +kernel
theorem d_Mo_all_8 : decode b_Mo_all 8 = .ok (.aload_n 0, 1) := by decide +kernel
theorem d_Mo_all_9 : decode b_Mo_all 9 = .ok (.getfield 137, 3) := by decide +kernel
theorem d_Mo_all_12 : decode b_Mo_all 12 = .ok (.invokestatic 68, 3) := by decide +kernel
theorem d_Mo_all_15 : decode b_Mo_all 15 = .ok (.goto 12, 3) := by decide +kernel
theorem d_Mo_all_18 : decode b_Mo_all 18 = .ok (.aload_n 0, 1) := by decide +kernel
theorem d_Mo_all_19 : decode b_Mo_all 19 = .ok (.getfield 57, 3) := by decide +kernel
theorem d_Mo_all_22 : decode b_Mo_all 22 = .ok (.aload_n 0, 1) := by decide +kernel
theorem d_Mo_all_23 : decode b_Mo_all 23 = .ok (.getfield 137, 3) := by decide +kernel
theorem d_Mo_all_26 : decode b_Mo_all 26 = .ok (.laload, 1) := by decide +kernel
theorem d_Mo_all_27 : decode b_Mo_all 27 = .ok (.lreturn, 1) := by decide +kernel
theorem d_Mo_begin_0 : decode b_Mo_begin 0 = .ok (.iconst 0, 1) := by decide +kernel
theorem d_Mo_begin_1 : decode b_Mo_begin 1 = .ok (.istore_n 2, 1) := by decide +kernel
theorem d_Mo_begin_2 : decode b_Mo_begin 2 = .ok (.iload_n 2, 1) := by decide +kernel
theorem d_Mo_begin_3 : decode b_Mo_begin 3 = .ok (.sipush 10000, 3) := by decide +kernel
theorem d_Mo_begin_6 : decode b_Mo_begin 6 = .ok (.if_icmp .ge 16, 3) := by decide +kernel
theorem d_Mo_begin_9 : decode b_Mo_begin 9 = .ok (.aload_n 0, 1) := by decide +kernel
theorem d_Mo_begin_10 : decode b_Mo_begin 10 = .ok (.getfield 40, 3) := by decide +kernel
theorem d_Mo_begin_13 : decode b_Mo_begin 13 = .ok (.iload_n 2, 1) := by decide +kernel
theorem d_Mo_begin_14 : decode b_Mo_begin 14 = .ok (.iconst 0, 1) := by decide +kernel
theorem d_Mo_begin_15 : decode b_Mo_begin 15 = .ok (.bastore, 1) := by decide +kernel
theorem d_Mo_begin_16 : decode b_Mo_begin 16 = .ok (.iinc 2 1, 3) := by decide +kernel
theorem d_Mo_begin_19 : decode b_Mo_begin 19 = .ok (.goto (-17), 3) := by decide +kernel
theorem d_Mo_begin_22 : decode b_Mo_begin 22 = .ok (.aload_n 0, 1) := by decide +kernel
theorem d_Mo_begin_23 : decode b_Mo_begin 23 = .ok (.iconst 0, 1) := by decide +kernel
theorem d_Mo_begin_24 : decode b_Mo_begin 24 = .ok (.putfield 85, 3) := by decide +kernel
theorem d_Mo_begin_27 : decode b_Mo_begin 27 = .ok (.aload_n 0, 1) := by decide +kernel
theorem d_Mo_begin_28 : decode b_Mo_begin 28 = .ok (.iload_n 1, 1) := by decide +kernel
theorem d_Mo_begin_29 : decode b_Mo_begin 29 = .ok (.iconst (-1), 1) := by decide +kernel
theorem d_Mo_begin_30 : decode b_Mo_begin 30 = .ok (.iconst 0, 1) := by decide +kernel
theorem d_Mo_begin_31 : decode b_Mo_begin 31 = .ok (.iconst 0, 1) := by decide +kernel
theorem d_Mo_begin_32 : decode b_Mo_begin 32 = .ok (.invokevirtual 88, 3) := by decide +kernel
theorem d_Mo_begin_35 : decode b_Mo_begin 35 = .ok (.return_, 1) := by decide +kernel
theorem d_Mo_byteAt_0 : decode b_Mo_byteAt 0 = .ok (.iload_n 1, 1) := by decide +kernel
theorem d_Mo_byteAt_1 : decode b_Mo_byteAt 1 = .ok (.aload_n 0, 1) := by decide +kernel
theorem d_Mo_byteAt_2 : decode b_Mo_byteAt 2 = .ok (.getfield 111, 3) := by decide +kernel
theorem d_Mo_byteAt_5 : decode b_Mo_byteAt 5 = .ok (.if_icmp .ge 12, 3) := by decide +kernel
theorem d_Mo_byteAt_8 : decode b_Mo_byteAt 8 = .ok (.aload_n 0, 1) := by decide +kernel
theorem d_Mo_byteAt_9 : decode b_Mo_byteAt 9 = .ok (.getfield 19, 3) := by decide +kernel
theorem d_Mo_byteAt_12 : decode b_Mo_byteAt 12 = .ok (.iload_n 1, 1) := by decide +kernel
theorem d_Mo_byteAt_13 : decode b_Mo_byteAt 13 = .ok (.iaload, 1) := by decide +kernel
theorem d_Mo_byteAt_14 : decode b_Mo_byteAt 14 = .ok (.goto 4, 3) := by decide +kernel
theorem d_Mo_byteAt_17 : decode b_Mo_byteAt 17 = .ok (.iconst (-1), 1) := by decide +kernel
theorem d_Mo_byteAt_18 : decode b_Mo_byteAt 18 = .ok (.ireturn, 1) := by decide +kernel
theorem d_Mo_code_0 : decode b_Mo_code 0 = .ok (.aload_n 0, 1) := by decide +kernel
theorem d_Mo_code_1 : decode b_Mo_code 1 = .ok (.getfield 44, 3) := by decide +kernel
theorem d_Mo_code_4 : decode b_Mo_code 4 = .ok (.iconst 0, 1) := by decide +kernel
theorem d_Mo_code_5 : decode b_Mo_code 5 = .ok (.iaload, 1) := by decide +kernel
theorem d_Mo_code_6 : decode b_Mo_code 6 = .ok (.bipush 10, 2) := by decide +kernel
theorem d_Mo_code_8 : decode b_Mo_code 8 = .ok (.aload_n 0, 1) := by decide +kernel
theorem d_Mo_code_9 : decode b_Mo_code 9 = .ok (.getfield 44, 3) := by decide +kernel
theorem d_Mo_code_12 : decode b_Mo_code 12 = .ok (.iconst 1, 1) := by decide +kernel
theorem d_Mo_code_13 : decode b_Mo_code 13 = .ok (.iaload, 1) := by decide +kernel
theorem d_Mo_code_14 : decode b_Mo_code 14 = .ok (.imul, 1) := by decide +kernel
theorem d_Mo_code_15 : decode b_Mo_code 15 = .ok (.iadd, 1) := by decide +kernel
theorem d_Mo_code_16 : decode b_Mo_code 16 = .ok (.bipush 100, 2) := by decide +kernel
theorem d_Mo_code_18 : decode b_Mo_code 18 = .ok (.aload_n 0, 1) := by decide +kernel
theorem d_Mo_code_19 : decode b_Mo_code 19 = .ok (.getfield 44, 3) := by decide +kernel
theorem d_Mo_code_22 : decode b_Mo_code 22 = .ok (.iconst 2, 1) := by decide +kernel
theorem d_Mo_code_23 : decode b_Mo_code 23 = .ok (.iaload, 1) := by decide +kernel
theorem d_Mo_code_24 : decode b_Mo_code 24 = .ok (.imul, 1) := by decide +kernel
theorem d_Mo_code_25 : decode b_Mo_code 25 = .ok (.iadd, 1) := by decide +kernel
theorem d_Mo_code_26 : decode b_Mo_code 26 = .ok (.sipush 1000, 3) := by decide +kernel
theorem d_Mo_code_29 : decode b_Mo_code 29 = .ok (.aload_n 0, 1) := by decide +kernel
theorem d_Mo_code_30 : decode b_Mo_code 30 = .ok (.getfield 44, 3) := by decide +kernel
theorem d_Mo_code_33 : decode b_Mo_code 33 = .ok (.iconst 3, 1) := by decide +kernel
theorem d_Mo_code_34 : decode b_Mo_code 34 = .ok (.iaload, 1) := by decide +kernel
theorem d_Mo_code_35 : decode b_Mo_code 35 = .ok (.imul, 1) := by decide +kernel
theorem d_Mo_code_36 : decode b_Mo_code 36 = .ok (.iadd, 1) := by decide +kernel
theorem d_Mo_code_37 : decode b_Mo_code 37 = .ok (.ireturn, 1) := by decide +kernel
theorem d_Mo_come_0 : decode b_Mo_come 0 = .ok (.aload_n 0, 1) := by decide +kernel
theorem d_Mo_come_1 : decode b_Mo_come 1 = .ok (.getfield 40, 3) := by decide +kernel
theorem d_Mo_come_4 : decode b_Mo_come 4 = .ok (.iload_n 1, 1) := by decide +kernel
theorem d_Mo_come_5 : decode b_Mo_come 5 = .ok (.baload, 1) := by decide +kernel
theorem d_Mo_come_6 : decode b_Mo_come 6 = .ok (.ifCond .eq 4, 3) := by decide +kernel
theorem d_Mo_come_9 : decode b_Mo_come 9 = .ok (.return_, 1) := by decide +kernel
theorem d_Mo_come_10 : decode b_Mo_come 10 = .ok (.aload_n 0, 1) := by decide +kernel
theorem d_Mo_come_11 : decode b_Mo_come 11 = .ok (.getfield 40, 3) := by decide +kernel
theorem d_Mo_come_14 : decode b_Mo_come 14 = .ok (.iload_n 1, 1) := by decide +kernel
theorem d_Mo_come_15 : decode b_Mo_come 15 = .ok (.iconst 1, 1) := by decide +kernel
theorem d_Mo_come_16 : decode b_Mo_come 16 = .ok (.bastore, 1) := by decide +kernel
theorem d_Mo_come_17 : decode b_Mo_come 17 = .ok (.aload_n 0, 1) := by decide +kernel
theorem d_Mo_come_18 : decode b_Mo_come 18 = .ok (.getfield 28, 3) := by decide +kernel
theorem d_Mo_come_21 : decode b_Mo_come 21 = .ok (.aload_n 0, 1) := by decide +kernel
theorem d_Mo_come_22 : decode b_Mo_come 22 = .ok (.getfield 85, 3) := by decide +kernel
theorem d_Mo_come_25 : decode b_Mo_come 25 = .ok (.iload_n 1, 1) := by decide +kernel
theorem d_Mo_come_26 : decode b_Mo_come 26 = .ok (.iastore, 1) := by decide +kernel
theorem d_Mo_come_27 : decode b_Mo_come 27 = .ok (.aload_n 0, 1) := by decide +kernel
theorem d_Mo_come_28 : decode b_Mo_come 28 = .ok (.getfield 31, 3) := by decide +kernel
theorem d_Mo_come_31 : decode b_Mo_come 31 = .ok (.aload_n 0, 1) := by decide +kernel
theorem d_Mo_come_32 : decode b_Mo_come 32 = .ok (.getfield 85, 3) := by decide +kernel
theorem d_Mo_come_35 : decode b_Mo_come 35 = .ok (.iload_n 2, 1) := by decide +kernel
theorem d_Mo_come_36 : decode b_Mo_come 36 = .ok (.iastore, 1) := by decide +kernel
theorem d_Mo_come_37 : decode b_Mo_come 37 = .ok (.aload_n 0, 1) := by decide +kernel
theorem d_Mo_come_38 : decode b_Mo_come 38 = .ok (.getfield 34, 3) := by decide +kernel
theorem d_Mo_come_41 : decode b_Mo_come 41 = .ok (.aload_n 0, 1) := by decide +kernel
theorem d_Mo_come_42 : decode b_Mo_come 42 = .ok (.getfield 85, 3) := by decide +kernel
theorem d_Mo_come_45 : decode b_Mo_come 45 = .ok (.iload_n 3, 1) := by decide +kernel
theorem d_Mo_come_46 : decode b_Mo_come 46 = .ok (.iastore, 1) := by decide +kernel
theorem d_Mo_come_47 : decode b_Mo_come 47 = .ok (.aload_n 0, 1) := by decide +kernel
theorem d_Mo_come_48 : decode b_Mo_come 48 = .ok (.getfield 37, 3) := by decide +kernel
theorem d_Mo_come_51 : decode b_Mo_come 51 = .ok (.aload_n 0, 1) := by decide +kernel
theorem d_Mo_come_52 : decode b_Mo_come 52 = .ok (.getfield 85, 3) := by decide +kernel
theorem d_Mo_come_55 : decode b_Mo_come 55 = .ok (.iload 4, 2) := by decide +kernel
theorem d_Mo_come_57 : decode b_Mo_come 57 = .ok (.iastore, 1) := by decide +kernel
theorem d_Mo_come_58 : decode b_Mo_come 58 = .ok (.aload_n 0, 1) := by decide +kernel
theorem d_Mo_come_59 : decode b_Mo_come 59 = .ok (.dup, 1) := by decide +kernel
theorem d_Mo_come_60 : decode b_Mo_come 60 = .ok (.getfield 85, 3) := by decide +kernel
theorem d_Mo_come_63 : decode b_Mo_come 63 = .ok (.iconst 1, 1) := by decide +kernel
theorem d_Mo_come_64 : decode b_Mo_come 64 = .ok (.iadd, 1) := by decide +kernel
theorem d_Mo_come_65 : decode b_Mo_come 65 = .ok (.putfield 85, 3) := by decide +kernel
theorem d_Mo_come_68 : decode b_Mo_come 68 = .ok (.return_, 1) := by decide +kernel
theorem d_Mo_countOf_0 : decode b_Mo_countOf 0 = .ok (.iconst 0, 1) := by decide +kernel
theorem d_Mo_countOf_1 : decode b_Mo_countOf 1 = .ok (.istore_n 2, 1) := by decide +kernel
theorem d_Mo_countOf_2 : decode b_Mo_countOf 2 = .ok (.iconst 0, 1) := by decide +kernel
theorem d_Mo_countOf_3 : decode b_Mo_countOf 3 = .ok (.istore_n 3, 1) := by decide +kernel
theorem d_Mo_countOf_4 : decode b_Mo_countOf 4 = .ok (.iload_n 3, 1) := by decide +kernel
theorem d_Mo_countOf_5 : decode b_Mo_countOf 5 = .ok (.bipush 8, 2) := by decide +kernel
theorem d_Mo_countOf_7 : decode b_Mo_countOf 7 = .ok (.if_icmp .ge 17, 3) := by decide +kernel
theorem d_Mo_countOf_10 : decode b_Mo_countOf 10 = .ok (.iload_n 2, 1) := by decide +kernel
theorem d_Mo_countOf_11 : decode b_Mo_countOf 11 = .ok (.iload_n 1, 1) := by decide +kernel
theorem d_Mo_countOf_12 : decode b_Mo_countOf 12 = .ok (.iload_n 3, 1) := by decide +kernel
theorem d_Mo_countOf_13 : decode b_Mo_countOf 13 = .ok (.ishr, 1) := by decide +kernel
theorem d_Mo_countOf_14 : decode b_Mo_countOf 14 = .ok (.iconst 1, 1) := by decide +kernel
theorem d_Mo_countOf_15 : decode b_Mo_countOf 15 = .ok (.iand, 1) := by decide +kernel
theorem d_Mo_countOf_16 : decode b_Mo_countOf 16 = .ok (.iadd, 1) := by decide +kernel
theorem d_Mo_countOf_17 : decode b_Mo_countOf 17 = .ok (.istore_n 2, 1) := by decide +kernel
theorem d_Mo_countOf_18 : decode b_Mo_countOf 18 = .ok (.iinc 3 1, 3) := by decide +kernel
theorem d_Mo_countOf_21 : decode b_Mo_countOf 21 = .ok (.goto (-17), 3) := by decide +kernel
theorem d_Mo_countOf_24 : decode b_Mo_countOf 24 = .ok (.iload_n 2, 1) := by decide +kernel
theorem d_Mo_countOf_25 : decode b_Mo_countOf 25 = .ok (.ireturn, 1) := by decide +kernel
theorem d_Mo_crossing_0 : decode b_Mo_crossing 0 = .ok (.aload_n 0, 1) := by decide +kernel
theorem d_Mo_crossing_1 : decode b_Mo_crossing 1 = .ok (.iconst 0, 1) := by decide +kernel
theorem d_Mo_crossing_2 : decode b_Mo_crossing 2 = .ok (.putfield 72, 3) := by decide +kernel
theorem d_Mo_crossing_5 : decode b_Mo_crossing 5 = .ok (.aload_n 0, 1) := by decide +kernel
theorem d_Mo_crossing_6 : decode b_Mo_crossing 6 = .ok (.iconst 0, 1) := by decide +kernel
theorem d_Mo_crossing_7 : decode b_Mo_crossing 7 = .ok (.putfield 78, 3) := by decide +kernel
theorem d_Mo_crossing_10 : decode b_Mo_crossing 10 = .ok (.aload_n 0, 1) := by decide +kernel
theorem d_Mo_crossing_11 : decode b_Mo_crossing 11 = .ok (.invokevirtual 126, 3) := by decide +kernel
theorem d_Mo_crossing_14 : decode b_Mo_crossing 14 = .ok (.istore_n 1, 1) := by decide +kernel
theorem d_Mo_crossing_15 : decode b_Mo_crossing 15 = .ok (.aload_n 0, 1) := by decide +kernel
theorem d_Mo_crossing_16 : decode b_Mo_crossing 16 = .ok (.iconst 0, 1) := by decide +kernel
theorem d_Mo_crossing_17 : decode b_Mo_crossing 17 = .ok (.putfield 111, 3) := by decide +kernel
theorem d_Mo_crossing_20 : decode b_Mo_crossing 20 = .ok (.iload_n 1, 1) := by decide +kernel
theorem d_Mo_crossing_21 : decode b_Mo_crossing 21 = .ok (.ifCond .lt 8, 3) := by decide +kernel
theorem d_Mo_crossing_24 : decode b_Mo_crossing 24 = .ok (.bipush (-2), 2) := by decide +kernel
theorem d_Mo_crossing_26 : decode b_Mo_crossing 26 = .ok (.iload_n 1, 1) := by decide +kernel
theorem d_Mo_crossing_27 : decode b_Mo_crossing 27 = .ok (.isub, 1) := by decide +kernel
theorem d_Mo_crossing_28 : decode b_Mo_crossing 28 = .ok (.ireturn, 1) := by decide +kernel
theorem d_Mo_crossing_29 : decode b_Mo_crossing 29 = .ok (.iconst 1, 1) := by decide +kernel
theorem d_Mo_crossing_30 : decode b_Mo_crossing 30 = .ok (.aload_n 0, 1) := by decide +kernel
theorem d_Mo_crossing_31 : decode b_Mo_crossing 31 = .ok (.getfield 114, 3) := by decide +kernel
theorem d_Mo_crossing_34 : decode b_Mo_crossing 34 = .ok (.ishl, 1) := by decide +kernel
theorem d_Mo_crossing_35 : decode b_Mo_crossing 35 = .ok (.iconst 1, 1) := by decide +kernel
theorem d_Mo_crossing_36 : decode b_Mo_crossing 36 = .ok (.isub, 1) := by decide +kernel
theorem d_Mo_crossing_37 : decode b_Mo_crossing 37 = .ok (.istore_n 2, 1) := by decide +kernel
theorem d_Mo_crossing_38 : decode b_Mo_crossing 38 = .ok (.aload_n 0, 1) := by decide +kernel
theorem d_Mo_crossing_39 : decode b_Mo_crossing 39 = .ok (.iconst 0, 1) := by decide +kernel
theorem d_Mo_crossing_40 : decode b_Mo_crossing 40 = .ok (.invokevirtual 96, 3) := by decide +kernel
theorem d_Mo_crossing_43 : decode b_Mo_crossing 43 = .ok (.iconst 0, 1) := by decide +kernel
theorem d_Mo_crossing_44 : decode b_Mo_crossing 44 = .ok (.istore_n 3, 1) := by decide +kernel
theorem d_Mo_crossing_45 : decode b_Mo_crossing 45 = .ok (.iload_n 3, 1) := by decide +kernel
theorem d_Mo_crossing_46 : decode b_Mo_crossing 46 = .ok (.aload_n 0, 1) := by decide +kernel
theorem d_Mo_crossing_47 : decode b_Mo_crossing 47 = .ok (.getfield 85, 3) := by decide +kernel
theorem d_Mo_crossing_50 : decode b_Mo_crossing 50 = .ok (.if_icmp .ge 154, 3) := by decide +kernel
theorem d_Mo_crossing_53 : decode b_Mo_crossing 53 = .ok (.aload_n 0, 1) := by decide +kernel
theorem d_Mo_crossing_54 : decode b_Mo_crossing 54 = .ok (.getfield 28, 3) := by decide +kernel
theorem d_Mo_crossing_57 : decode b_Mo_crossing 57 = .ok (.iload_n 3, 1) := by decide +kernel
theorem d_Mo_crossing_58 : decode b_Mo_crossing 58 = .ok (.iaload, 1) := by decide +kernel
theorem d_Mo_crossing_59 : decode b_Mo_crossing 59 = .ok (.iconst 2, 1) := by decide +kernel
theorem d_Mo_crossing_60 : decode b_Mo_crossing 60 = .ok (.idiv, 1) := by decide +kernel
theorem d_Mo_crossing_61 : decode b_Mo_crossing 61 = .ok (.istore 4, 2) := by decide +kernel
theorem d_Mo_crossing_63 : decode b_Mo_crossing 63 = .ok (.aload_n 0, 1) := by decide +kernel
theorem d_Mo_crossing_64 : decode b_Mo_crossing 64 = .ok (.getfield 28, 3) := by decide +kernel
theorem d_Mo_crossing_67 : decode b_Mo_crossing 67 = .ok (.iload_n 3, 1) := by decide +kernel
theorem d_Mo_crossing_68 : decode b_Mo_crossing 68 = .ok (.iaload, 1) := by decide +kernel
theorem d_Mo_crossing_69 : decode b_Mo_crossing 69 = .ok (.iconst 2, 1) := by decide +kernel
theorem d_Mo_crossing_70 : decode b_Mo_crossing 70 = .ok (.irem, 1) := by decide +kernel
theorem d_Mo_crossing_71 : decode b_Mo_crossing 71 = .ok (.iconst 1, 1) := by decide +kernel
theorem d_Mo_crossing_72 : decode b_Mo_crossing 72 = .ok (.if_icmp .ne 7, 3) := by decide +kernel
theorem d_Mo_crossing_75 : decode b_Mo_crossing 75 = .ok (.iconst 1, 1) := by decide +kernel
theorem d_Mo_crossing_76 : decode b_Mo_crossing 76 = .ok (.goto 4, 3) := by decide +kernel
theorem d_Mo_crossing_79 : decode b_Mo_crossing 79 = .ok (.iconst 0, 1) := by decide +kernel
theorem d_Mo_crossing_80 : decode b_Mo_crossing 80 = .ok (.istore 5, 2) := by decide +kernel
theorem d_Mo_crossing_82 : decode b_Mo_crossing 82 = .ok (.iload 4, 2) := by decide +kernel
theorem d_Mo_crossing_84 : decode b_Mo_crossing 84 = .ok (.iload_n 2, 1) := by decide +kernel
theorem d_Mo_crossing_85 : decode b_Mo_crossing 85 = .ok (.if_icmp .ne 9, 3) := by decide +kernel
theorem d_Mo_crossing_88 : decode b_Mo_crossing 88 = .ok (.aload_n 0, 1) := by decide +kernel
theorem d_Mo_crossing_89 : decode b_Mo_crossing 89 = .ok (.iload_n 3, 1) := by decide +kernel
theorem d_Mo_crossing_90 : decode b_Mo_crossing 90 = .ok (.invokevirtual 103, 3) := by decide +kernel
theorem d_Mo_crossing_93 : decode b_Mo_crossing 93 = .ok (.ireturn, 1) := by decide +kernel
theorem d_Mo_crossing_94 : decode b_Mo_crossing 94 = .ok (.iload 5, 2) := by decide +kernel
theorem d_Mo_crossing_96 : decode b_Mo_crossing 96 = .ok (.ifCond .eq 8, 3) := by decide +kernel
theorem d_Mo_crossing_99 : decode b_Mo_crossing 99 = .ok (.iload 4, 2) := by decide +kernel
theorem d_Mo_crossing_101 : decode b_Mo_crossing 101 = .ok (.goto 9, 3) := by decide +kernel
theorem d_Mo_crossing_104 : decode b_Mo_crossing 104 = .ok (.iload_n 2, 1) := by decide +kernel
theorem d_Mo_crossing_105 : decode b_Mo_crossing 105 = .ok (.iload 4, 2) := by decide +kernel
theorem d_Mo_crossing_107 : decode b_Mo_crossing 107 = .ok (.iconst (-1), 1) := by decide +kernel
theorem d_Mo_crossing_108 : decode b_Mo_crossing 108 = .ok (.ixor, 1) := by decide +kernel
theorem d_Mo_crossing_109 : decode b_Mo_crossing 109 = .ok (.iand, 1) := by decide +kernel
theorem d_Mo_crossing_110 : decode b_Mo_crossing 110 = .ok (.istore 6, 2) := by decide +kernel
theorem d_Mo_crossing_112 : decode b_Mo_crossing 112 = .ok (.iconst 0, 1) := by decide +kernel
theorem d_Mo_crossing_113 : decode b_Mo_crossing 113 = .ok (.istore 7, 2) := by decide +kernel
theorem d_Mo_crossing_115 : decode b_Mo_crossing 115 = .ok (.iload 7, 2) := by decide +kernel
theorem d_Mo_crossing_117 : decode b_Mo_crossing 117 = .ok (.iload_n 2, 1) := by decide +kernel
theorem d_Mo_crossing_118 : decode b_Mo_crossing 118 = .ok (.if_icmp .gt 80, 3) := by decide +kernel
theorem d_Mo_crossing_121 : decode b_Mo_crossing 121 = .ok (.iload 7, 2) := by decide +kernel
theorem d_Mo_crossing_123 : decode b_Mo_crossing 123 = .ok (.iload 6, 2) := by decide +kernel
theorem d_Mo_crossing_125 : decode b_Mo_crossing 125 = .ok (.iconst (-1), 1) := by decide +kernel
theorem d_Mo_crossing_126 : decode b_Mo_crossing 126 = .ok (.ixor, 1) := by decide +kernel
theorem d_Mo_crossing_127 : decode b_Mo_crossing 127 = .ok (.iand, 1) := by decide +kernel
theorem d_Mo_crossing_128 : decode b_Mo_crossing 128 = .ok (.ifCond .ne 64, 3) := by decide +kernel
theorem d_Mo_crossing_131 : decode b_Mo_crossing 131 = .ok (.aload_n 0, 1) := by decide +kernel
theorem d_Mo_crossing_132 : decode b_Mo_crossing 132 = .ok (.iload 7, 2) := by decide +kernel
theorem d_Mo_crossing_134 : decode b_Mo_crossing 134 = .ok (.invokevirtual 129, 3) := by decide +kernel
theorem d_Mo_crossing_137 : decode b_Mo_crossing 137 = .ok (.aload_n 0, 1) := by decide +kernel
theorem d_Mo_crossing_138 : decode b_Mo_crossing 138 = .ok (.getfield 123, 3) := by decide +kernel
theorem d_Mo_crossing_141 : decode b_Mo_crossing 141 = .ok (.if_icmp .gt 51, 3) := by decide +kernel
theorem d_Mo_crossing_144 : decode b_Mo_crossing 144 = .ok (.aload_n 0, 1) := by decide +kernel
theorem d_Mo_crossing_145 : decode b_Mo_crossing 145 = .ok (.iload 6, 2) := by decide +kernel
theorem d_Mo_crossing_147 : decode b_Mo_crossing 147 = .ok (.iload 7, 2) := by decide +kernel
theorem d_Mo_crossing_149 : decode b_Mo_crossing 149 = .ok (.iconst (-1), 1) := by decide +kernel
theorem d_Mo_crossing_150 : decode b_Mo_crossing 150 = .ok (.ixor, 1) := by decide +kernel
theorem d_Mo_crossing_151 : decode b_Mo_crossing 151 = .ok (.iand, 1) := by decide +kernel
theorem d_Mo_crossing_152 : decode b_Mo_crossing 152 = .ok (.invokevirtual 132, 3) := by decide +kernel
theorem d_Mo_crossing_155 : decode b_Mo_crossing 155 = .ok (.ifCond .ne 6, 3) := by decide +kernel
theorem d_Mo_crossing_158 : decode b_Mo_crossing 158 = .ok (.goto 34, 3) := by decide +kernel
theorem d_Mo_crossing_161 : decode b_Mo_crossing 161 = .ok (.iload 4, 2) := by decide +kernel
theorem d_Mo_crossing_163 : decode b_Mo_crossing 163 = .ok (.iload 7, 2) := by decide +kernel
theorem d_Mo_crossing_165 : decode b_Mo_crossing 165 = .ok (.ixor, 1) := by decide +kernel
theorem d_Mo_crossing_166 : decode b_Mo_crossing 166 = .ok (.istore 8, 2) := by decide +kernel
theorem d_Mo_crossing_168 : decode b_Mo_crossing 168 = .ok (.aload_n 0, 1) := by decide +kernel
theorem d_Mo_crossing_169 : decode b_Mo_crossing 169 = .ok (.iconst 2, 1) := by decide +kernel
theorem d_Mo_crossing_170 : decode b_Mo_crossing 170 = .ok (.iload 8, 2) := by decide +kernel
theorem d_Mo_crossing_172 : decode b_Mo_crossing 172 = .ok (.imul, 1) := by decide +kernel
theorem d_Mo_crossing_173 : decode b_Mo_crossing 173 = .ok (.iload 5, 2) := by decide +kernel
theorem d_Mo_crossing_175 : decode b_Mo_crossing 175 = .ok (.ifCond .eq 7, 3) := by decide +kernel
theorem d_Mo_crossing_178 : decode b_Mo_crossing 178 = .ok (.iconst 0, 1) := by decide +kernel
theorem d_Mo_crossing_179 : decode b_Mo_crossing 179 = .ok (.goto 4, 3) := by decide +kernel
theorem d_Mo_crossing_182 : decode b_Mo_crossing 182 = .ok (.iconst 1, 1) := by decide +kernel
theorem d_Mo_crossing_183 : decode b_Mo_crossing 183 = .ok (.iadd, 1) := by decide +kernel
theorem d_Mo_crossing_184 : decode b_Mo_crossing 184 = .ok (.iload_n 3, 1) := by decide +kernel
theorem d_Mo_crossing_185 : decode b_Mo_crossing 185 = .ok (.iload 7, 2) := by decide +kernel
theorem d_Mo_crossing_187 : decode b_Mo_crossing 187 = .ok (.iload 8, 2) := by decide +kernel
theorem d_Mo_crossing_189 : decode b_Mo_crossing 189 = .ok (.invokevirtual 88, 3) := by decide +kernel
theorem d_Mo_crossing_192 : decode b_Mo_crossing 192 = .ok (.iinc 7 1, 3) := by decide +kernel
theorem d_Mo_crossing_195 : decode b_Mo_crossing 195 = .ok (.goto (-80), 3) := by decide +kernel
theorem d_Mo_crossing_198 : decode b_Mo_crossing 198 = .ok (.iinc 3 1, 3) := by decide +kernel
theorem d_Mo_crossing_201 : decode b_Mo_crossing 201 = .ok (.goto (-156), 3) := by decide +kernel
theorem d_Mo_crossing_204 : decode b_Mo_crossing 204 = .ok (.iconst (-1), 1) := by decide +kernel
theorem d_Mo_crossing_205 : decode b_Mo_crossing 205 = .ok (.ireturn, 1) := by decide +kernel
theorem d_Mo_findFour_0 : decode b_Mo_findFour 0 = .ok (.lload_n 1, 1) := by decide +kernel
theorem d_Mo_findFour_1 : decode b_Mo_findFour 1 = .ok (.lstore 4, 2) := by decide +kernel
theorem d_Mo_findFour_3 : decode b_Mo_findFour 3 = .ok (.iconst 0, 1) := by decide +kernel
theorem d_Mo_findFour_4 : decode b_Mo_findFour 4 = .ok (.istore 6, 2) := by decide +kernel
theorem d_Mo_findFour_6 : decode b_Mo_findFour 6 = .ok (.iconst 1, 1) := by decide +kernel
theorem d_Mo_findFour_7 : decode b_Mo_findFour 7 = .ok (.istore 7, 2) := by decide +kernel
theorem d_Mo_findFour_9 : decode b_Mo_findFour 9 = .ok (.iload_n 3, 1) := by decide +kernel
theorem d_Mo_findFour_10 : decode b_Mo_findFour 10 = .ok (.istore 8, 2) := by decide +kernel
theorem d_Mo_findFour_12 : decode b_Mo_findFour 12 = .ok (.aload_n 0, 1) := by decide +kernel
theorem d_Mo_findFour_13 : decode b_Mo_findFour 13 = .ok (.getfield 61, 3) := by decide +kernel
theorem d_Mo_findFour_16 : decode b_Mo_findFour 16 = .ok (.iload 8, 2) := by decide +kernel
theorem d_Mo_findFour_18 : decode b_Mo_findFour 18 = .ok (.iaload, 1) := by decide +kernel
theorem d_Mo_findFour_19 : decode b_Mo_findFour 19 = .ok (.istore 9, 2) := by decide +kernel
theorem d_Mo_findFour_21 : decode b_Mo_findFour 21 = .ok (.iload 6, 2) := by decide +kernel
theorem d_Mo_findFour_23 : decode b_Mo_findFour 23 = .ok (.iload 7, 2) := by decide +kernel
theorem d_Mo_findFour_25 : decode b_Mo_findFour 25 = .ok (.iconst 0, 1) := by decide +kernel
theorem d_Mo_findFour_26 : decode b_Mo_findFour 26 = .ok (.invokestatic 153, 3) := by decide +kernel
theorem d_Mo_findFour_29 : decode b_Mo_findFour 29 = .ok (.istore 10, 2) := by decide +kernel
theorem d_Mo_findFour_31 : decode b_Mo_findFour 31 = .ok (.iload 6, 2) := by decide +kernel
theorem d_Mo_findFour_33 : decode b_Mo_findFour 33 = .ok (.iload 7, 2) := by decide +kernel
theorem d_Mo_findFour_35 : decode b_Mo_findFour 35 = .ok (.iconst 1, 1) := by decide +kernel
theorem d_Mo_findFour_36 : decode b_Mo_findFour 36 = .ok (.invokestatic 153, 3) := by decide +kernel
theorem d_Mo_findFour_39 : decode b_Mo_findFour 39 = .ok (.istore 11, 2) := by decide +kernel
theorem d_Mo_findFour_41 : decode b_Mo_findFour 41 = .ok (.lload 4, 2) := by decide +kernel
theorem d_Mo_findFour_43 : decode b_Mo_findFour 43 = .ok (.aload_n 0, 1) := by decide +kernel
theorem d_Mo_findFour_44 : decode b_Mo_findFour 44 = .ok (.getfield 57, 3) := by decide +kernel
theorem d_Mo_findFour_47 : decode b_Mo_findFour 47 = .ok (.iload 9, 2) := by decide +kernel
theorem d_Mo_findFour_49 : decode b_Mo_findFour 49 = .ok (.laload, 1) := by decide +kernel
theorem d_Mo_findFour_50 : decode b_Mo_findFour 50 = .ok (.lcmp, 1) := by decide +kernel
theorem d_Mo_findFour_51 : decode b_Mo_findFour 51 = .ok (.ifCond .ge 10, 3) := by decide +kernel
theorem d_Mo_findFour_54 : decode b_Mo_findFour 54 = .ok (.iload 10, 2) := by decide +kernel
theorem d_Mo_findFour_56 : decode b_Mo_findFour 56 = .ok (.istore 7, 2) := by decide +kernel
theorem d_Mo_findFour_58 : decode b_Mo_findFour 58 = .ok (.goto 78, 3) := by decide +kernel
theorem d_Mo_findFour_61 : decode b_Mo_findFour 61 = .ok (.lload 4, 2) := by decide +kernel
theorem d_Mo_findFour_63 : decode b_Mo_findFour 63 = .ok (.aload_n 0, 1) := by decide +kernel
theorem d_Mo_findFour_64 : decode b_Mo_findFour 64 = .ok (.getfield 57, 3) := by decide +kernel
theorem d_Mo_findFour_67 : decode b_Mo_findFour 67 = .ok (.iload 9, 2) := by decide +kernel
theorem d_Mo_findFour_69 : decode b_Mo_findFour 69 = .ok (.laload, 1) := by decide +kernel
theorem d_Mo_findFour_70 : decode b_Mo_findFour 70 = .ok (.iload 8, 2) := by decide +kernel
theorem d_Mo_findFour_72 : decode b_Mo_findFour 72 = .ok (.iload 9, 2) := by decide +kernel
theorem d_Mo_findFour_74 : decode b_Mo_findFour 74 = .ok (.isub, 1) := by decide +kernel
theorem d_Mo_findFour_75 : decode b_Mo_findFour 75 = .ok (.invokestatic 68, 3) := by decide +kernel
theorem d_Mo_findFour_78 : decode b_Mo_findFour 78 = .ok (.ladd, 1) := by decide +kernel
theorem d_Mo_findFour_79 : decode b_Mo_findFour 79 = .ok (.lcmp, 1) := by decide +kernel
theorem d_Mo_findFour_80 : decode b_Mo_findFour 80 = .ok (.ifCond .ge 31, 3) := by decide +kernel
theorem d_Mo_findFour_83 : decode b_Mo_findFour 83 = .ok (.aload_n 0, 1) := by decide +kernel
theorem d_Mo_findFour_84 : decode b_Mo_findFour 84 = .ok (.lload 4, 2) := by decide +kernel
theorem d_Mo_findFour_86 : decode b_Mo_findFour 86 = .ok (.aload_n 0, 1) := by decide +kernel
theorem d_Mo_findFour_87 : decode b_Mo_findFour 87 = .ok (.getfield 57, 3) := by decide +kernel
theorem d_Mo_findFour_90 : decode b_Mo_findFour 90 = .ok (.iload 9, 2) := by decide +kernel
theorem d_Mo_findFour_92 : decode b_Mo_findFour 92 = .ok (.laload, 1) := by decide +kernel
theorem d_Mo_findFour_93 : decode b_Mo_findFour 93 = .ok (.lsub, 1) := by decide +kernel
theorem d_Mo_findFour_94 : decode b_Mo_findFour 94 = .ok (.iload 8, 2) := by decide +kernel
theorem d_Mo_findFour_96 : decode b_Mo_findFour 96 = .ok (.iload 9, 2) := by decide +kernel
theorem d_Mo_findFour_98 : decode b_Mo_findFour 98 = .ok (.isub, 1) := by decide +kernel
theorem d_Mo_findFour_99 : decode b_Mo_findFour 99 = .ok (.iload 9, 2) := by decide +kernel
theorem d_Mo_findFour_101 : decode b_Mo_findFour 101 = .ok (.iload 6, 2) := by decide +kernel
theorem d_Mo_findFour_103 : decode b_Mo_findFour 103 = .ok (.iload 7, 2) := by decide +kernel
theorem d_Mo_findFour_105 : decode b_Mo_findFour 105 = .ok (.iload 11, 2) := by decide +kernel
theorem d_Mo_findFour_107 : decode b_Mo_findFour 107 = .ok (.invokevirtual 157, 3) := by decide +kernel
theorem d_Mo_findFour_110 : decode b_Mo_findFour 110 = .ok (.return_, 1) := by decide +kernel
theorem d_Mo_findFour_111 : decode b_Mo_findFour 111 = .ok (.lload 4, 2) := by decide +kernel
theorem d_Mo_findFour_113 : decode b_Mo_findFour 113 = .ok (.aload_n 0, 1) := by decide +kernel
theorem d_Mo_findFour_114 : decode b_Mo_findFour 114 = .ok (.getfield 57, 3) := by decide +kernel
theorem d_Mo_findFour_117 : decode b_Mo_findFour 117 = .ok (.iload 9, 2) := by decide +kernel
theorem d_Mo_findFour_119 : decode b_Mo_findFour 119 = .ok (.laload, 1) := by decide +kernel
theorem d_Mo_findFour_120 : decode b_Mo_findFour 120 = .ok (.iload 8, 2) := by decide +kernel
theorem d_Mo_findFour_122 : decode b_Mo_findFour 122 = .ok (.iload 9, 2) := by decide +kernel
theorem d_Mo_findFour_124 : decode b_Mo_findFour 124 = .ok (.isub, 1) := by decide +kernel
theorem d_Mo_findFour_125 : decode b_Mo_findFour 125 = .ok (.invokestatic 68, 3) := by decide +kernel
theorem d_Mo_findFour_128 : decode b_Mo_findFour 128 = .ok (.ladd, 1) := by decide +kernel
theorem d_Mo_findFour_129 : decode b_Mo_findFour 129 = .ok (.lsub, 1) := by decide +kernel
theorem d_Mo_findFour_130 : decode b_Mo_findFour 130 = .ok (.lstore 4, 2) := by decide +kernel
theorem d_Mo_findFour_132 : decode b_Mo_findFour 132 = .ok (.iload 10, 2) := by decide +kernel
theorem d_Mo_findFour_134 : decode b_Mo_findFour 134 = .ok (.istore 6, 2) := by decide +kernel
theorem d_Mo_findFour_136 : decode b_Mo_findFour 136 = .ok (.iload 9, 2) := by decide +kernel
theorem d_Mo_findFour_138 : decode b_Mo_findFour 138 = .ok (.istore 8, 2) := by decide +kernel
theorem d_Mo_findFour_140 : decode b_Mo_findFour 140 = .ok (.goto (-128), 3) := by decide +kernel
theorem d_Mo_findThree_0 : decode b_Mo_findThree 0 = .ok (.lload_n 1, 1) := by decide +kernel
theorem d_Mo_findThree_1 : decode b_Mo_findThree 1 = .ok (.lstore 8, 2) := by decide +kernel
theorem d_Mo_findThree_3 : decode b_Mo_findThree 3 = .ok (.iload 5, 2) := by decide +kernel
theorem d_Mo_findThree_5 : decode b_Mo_findThree 5 = .ok (.istore 10, 2) := by decide +kernel
theorem d_Mo_findThree_7 : decode b_Mo_findThree 7 = .ok (.iload 6, 2) := by decide +kernel
theorem d_Mo_findThree_9 : decode b_Mo_findThree 9 = .ok (.istore 11, 2) := by decide +kernel
