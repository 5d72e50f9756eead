theorem dX9_thrown_0 : decode cX9_thrown 0 = .ok (.aload_n 0, 1) := by decide +kernel
theorem dX9_thrown_1 : decode cX9_thrown 1 = .ok (.getfield 1, 3) := by decide +kernel
theorem dX9_thrown_4 : decode cX9_thrown 4 = .ok (.ireturn, 1) := by decide +kernel
theorem dX9_in_0 : decode cX9_in 0 = .ok (.lload_n 0, 1) := by decide +kernel
theorem dX9_in_1 : decode cX9_in 1 = .ok (.lload_n 2, 1) := by decide +kernel
theorem dX9_in_2 : decode cX9_in 2 = .ok (.lcmp, 1) := by decide +kernel
theorem dX9_in_3 : decode cX9_in 3 = .ok (.ifCond .lt 14, 3) := by decide +kernel
theorem dX9_in_6 : decode cX9_in 6 = .ok (.lload_n 0, 1) := by decide +kernel
theorem dX9_in_7 : decode cX9_in 7 = .ok (.lload 4, 2) := by decide +kernel
theorem dX9_in_9 : decode cX9_in 9 = .ok (.lcmp, 1) := by decide +kernel
theorem dX9_in_10 : decode cX9_in 10 = .ok (.ifCond .gt 7, 3) := by decide +kernel
theorem dX9_in_13 : decode cX9_in 13 = .ok (.iconst 1, 1) := by decide +kernel
theorem dX9_in_14 : decode cX9_in 14 = .ok (.goto 4, 3) := by decide +kernel
theorem dX9_in_17 : decode cX9_in 17 = .ok (.iconst 0, 1) := by decide +kernel
theorem dX9_in_18 : decode cX9_in 18 = .ok (.ireturn, 1) := by decide +kernel
theorem dX9_refuse_0 : decode cX9_refuse 0 = .ok (.aload_n 0, 1) := by decide +kernel
theorem dX9_refuse_1 : decode cX9_refuse 1 = .ok (.iconst 1, 1) := by decide +kernel
theorem dX9_refuse_2 : decode cX9_refuse 2 = .ok (.putfield 1, 3) := by decide +kernel
theorem dX9_refuse_5 : decode cX9_refuse 5 = .ok (.iconst 0, 1) := by decide +kernel
theorem dX9_refuse_6 : decode cX9_refuse 6 = .ok (.ireturn, 1) := by decide +kernel
theorem dX9_init_0 : decode cX9_init 0 = .ok (.aload_n 0, 1) := by decide +kernel
theorem dX9_init_1 : decode cX9_init 1 = .ok (.invokespecial 7, 3) := by decide +kernel
theorem dX9_init_4 : decode cX9_init 4 = .ok (.aload_n 0, 1) := by decide +kernel
theorem dX9_init_5 : decode cX9_init 5 = .ok (.bipush 12, 2) := by decide +kernel
theorem dX9_init_7 : decode cX9_init 7 = .ok (.newarray .int, 2) := by decide +kernel
theorem dX9_init_9 : decode cX9_init 9 = .ok (.putfield 13, 3) := by decide +kernel
theorem dX9_init_12 : decode cX9_init 12 = .ok (.aload_n 0, 1) := by decide +kernel
theorem dX9_init_13 : decode cX9_init 13 = .ok (.bipush 20, 2) := by decide +kernel
theorem dX9_init_15 : decode cX9_init 15 = .ok (.newarray .int, 2) := by decide +kernel
theorem dX9_init_17 : decode cX9_init 17 = .ok (.putfield 17, 3) := by decide +kernel
theorem dX9_init_20 : decode cX9_init 20 = .ok (.aload_n 0, 1) := by decide +kernel
theorem dX9_init_21 : decode cX9_init 21 = .ok (.bipush 20, 2) := by decide +kernel
theorem dX9_init_23 : decode cX9_init 23 = .ok (.newarray .int, 2) := by decide +kernel
theorem dX9_init_25 : decode cX9_init 25 = .ok (.putfield 20, 3) := by decide +kernel
theorem dX9_init_28 : decode cX9_init 28 = .ok (.aload_n 0, 1) := by decide +kernel
theorem dX9_init_29 : decode cX9_init 29 = .ok (.sipush 144, 3) := by decide +kernel
theorem dX9_init_32 : decode cX9_init 32 = .ok (.newarray .int, 2) := by decide +kernel
theorem dX9_init_34 : decode cX9_init 34 = .ok (.putfield 23, 3) := by decide +kernel
theorem dX9_init_37 : decode cX9_init 37 = .ok (.aload_n 0, 1) := by decide +kernel
theorem dX9_init_38 : decode cX9_init 38 = .ok (.sipush 144, 3) := by decide +kernel
theorem dX9_init_41 : decode cX9_init 41 = .ok (.newarray .int, 2) := by decide +kernel
theorem dX9_init_43 : decode cX9_init 43 = .ok (.putfield 26, 3) := by decide +kernel
theorem dX9_init_46 : decode cX9_init 46 = .ok (.aload_n 0, 1) := by decide +kernel
theorem dX9_init_47 : decode cX9_init 47 = .ok (.bipush 12, 2) := by decide +kernel
theorem dX9_init_49 : decode cX9_init 49 = .ok (.newarray .int, 2) := by decide +kernel
theorem dX9_init_51 : decode cX9_init 51 = .ok (.putfield 29, 3) := by decide +kernel
theorem dX9_init_54 : decode cX9_init 54 = .ok (.aload_n 0, 1) := by decide +kernel
theorem dX9_init_55 : decode cX9_init 55 = .ok (.bipush 6, 2) := by decide +kernel
theorem dX9_init_57 : decode cX9_init 57 = .ok (.newarray .int, 2) := by decide +kernel
theorem dX9_init_59 : decode cX9_init 59 = .ok (.putfield 32, 3) := by decide +kernel
theorem dX9_init_62 : decode cX9_init 62 = .ok (.aload_n 0, 1) := by decide +kernel
theorem dX9_init_63 : decode cX9_init 63 = .ok (.iconst (-1), 1) := by decide +kernel
theorem dX9_init_64 : decode cX9_init 64 = .ok (.putfield 35, 3) := by decide +kernel
theorem dX9_init_67 : decode cX9_init 67 = .ok (.aload_n 0, 1) := by decide +kernel
theorem dX9_init_68 : decode cX9_init 68 = .ok (.bipush 12, 2) := by decide +kernel
theorem dX9_init_70 : decode cX9_init 70 = .ok (.newarray .int, 2) := by decide +kernel
theorem dX9_init_72 : decode cX9_init 72 = .ok (.putfield 38, 3) := by decide +kernel
theorem dX9_init_75 : decode cX9_init 75 = .ok (.aload_n 0, 1) := by decide +kernel
theorem dX9_init_76 : decode cX9_init 76 = .ok (.bipush 12, 2) := by decide +kernel
theorem dX9_init_78 : decode cX9_init 78 = .ok (.newarray .int, 2) := by decide +kernel
theorem dX9_init_80 : decode cX9_init 80 = .ok (.putfield 41, 3) := by decide +kernel
theorem dX9_init_83 : decode cX9_init 83 = .ok (.aload_n 0, 1) := by decide +kernel
theorem dX9_init_84 : decode cX9_init 84 = .ok (.bipush 12, 2) := by decide +kernel
theorem dX9_init_86 : decode cX9_init 86 = .ok (.newarray .int, 2) := by decide +kernel
theorem dX9_init_88 : decode cX9_init 88 = .ok (.putfield 44, 3) := by decide +kernel
theorem dX9_init_91 : decode cX9_init 91 = .ok (.aload_n 0, 1) := by decide +kernel
theorem dX9_init_92 : decode cX9_init 92 = .ok (.bipush 12, 2) := by decide +kernel
theorem dX9_init_94 : decode cX9_init 94 = .ok (.newarray .int, 2) := by decide +kernel
theorem dX9_init_96 : decode cX9_init 96 = .ok (.putfield 47, 3) := by decide +kernel
theorem dX9_init_99 : decode cX9_init 99 = .ok (.aload_n 0, 1) := by decide +kernel
theorem dX9_init_100 : decode cX9_init 100 = .ok (.bipush 12, 2) := by decide +kernel
theorem dX9_init_102 : decode cX9_init 102 = .ok (.newarray .int, 2) := by decide +kernel
theorem dX9_init_104 : decode cX9_init 104 = .ok (.putfield 50, 3) := by decide +kernel
theorem dX9_init_107 : decode cX9_init 107 = .ok (.aload_n 0, 1) := by decide +kernel
theorem dX9_init_108 : decode cX9_init 108 = .ok (.bipush 12, 2) := by decide +kernel
theorem dX9_init_110 : decode cX9_init 110 = .ok (.newarray .int, 2) := by decide +kernel
theorem dX9_init_112 : decode cX9_init 112 = .ok (.putfield 53, 3) := by decide +kernel
theorem dX9_init_115 : decode cX9_init 115 = .ok (.aload_n 0, 1) := by decide +kernel
theorem dX9_init_116 : decode cX9_init 116 = .ok (.bipush 12, 2) := by decide +kernel
theorem dX9_init_118 : decode cX9_init 118 = .ok (.newarray .int, 2) := by decide +kernel
theorem dX9_init_120 : decode cX9_init 120 = .ok (.putfield 56, 3) := by decide +kernel
theorem dX9_init_123 : decode cX9_init 123 = .ok (.aload_n 0, 1) := by decide +kernel
theorem dX9_init_124 : decode cX9_init 124 = .ok (.iconst 2, 1) := by decide +kernel
theorem dX9_init_125 : decode cX9_init 125 = .ok (.newarray .int, 2) := by decide +kernel
theorem dX9_init_127 : decode cX9_init 127 = .ok (.putfield 59, 3) := by decide +kernel
theorem dX9_init_130 : decode cX9_init 130 = .ok (.aload_n 0, 1) := by decide +kernel
theorem dX9_init_131 : decode cX9_init 131 = .ok (.bipush 32, 2) := by decide +kernel
theorem dX9_init_133 : decode cX9_init 133 = .ok (.newarray .int, 2) := by decide +kernel
theorem dX9_init_135 : decode cX9_init 135 = .ok (.putfield 62, 3) := by decide +kernel
theorem dX9_init_138 : decode cX9_init 138 = .ok (.aload_n 0, 1) := by decide +kernel
theorem dX9_init_139 : decode cX9_init 139 = .ok (.bipush 32, 2) := by decide +kernel
theorem dX9_init_141 : decode cX9_init 141 = .ok (.newarray .int, 2) := by decide +kernel
theorem dX9_init_143 : decode cX9_init 143 = .ok (.putfield 65, 3) := by decide +kernel
theorem dX9_init_146 : decode cX9_init 146 = .ok (.aload_n 0, 1) := by decide +kernel
theorem dX9_init_147 : decode cX9_init 147 = .ok (.bipush 12, 2) := by decide +kernel
theorem dX9_init_149 : decode cX9_init 149 = .ok (.newarray .int, 2) := by decide +kernel
theorem dX9_init_151 : decode cX9_init 151 = .ok (.putfield 68, 3) := by decide +kernel
theorem dX9_init_154 : decode cX9_init 154 = .ok (.aload_n 0, 1) := by decide +kernel
theorem dX9_init_155 : decode cX9_init 155 = .ok (.bipush 12, 2) := by decide +kernel
theorem dX9_init_157 : decode cX9_init 157 = .ok (.newarray .int, 2) := by decide +kernel
theorem dX9_init_159 : decode cX9_init 159 = .ok (.putfield 71, 3) := by decide +kernel
theorem dX9_init_162 : decode cX9_init 162 = .ok (.aload_n 0, 1) := by decide +kernel
theorem dX9_init_163 : decode cX9_init 163 = .ok (.bipush 12, 2) := by decide +kernel
theorem dX9_init_165 : decode cX9_init 165 = .ok (.newarray .int, 2) := by decide +kernel
theorem dX9_init_167 : decode cX9_init 167 = .ok (.putfield 74, 3) := by decide +kernel
theorem dX9_init_170 : decode cX9_init 170 = .ok (.aload_n 0, 1) := by decide +kernel
theorem dX9_init_171 : decode cX9_init 171 = .ok (.bipush 12, 2) := by decide +kernel
theorem dX9_init_173 : decode cX9_init 173 = .ok (.newarray .int, 2) := by decide +kernel
theorem dX9_init_175 : decode cX9_init 175 = .ok (.putfield 77, 3) := by decide +kernel
theorem dX9_init_178 : decode cX9_init 178 = .ok (.aload_n 0, 1) := by decide +kernel
theorem dX9_init_179 : decode cX9_init 179 = .ok (.bipush 12, 2) := by decide +kernel
theorem dX9_init_181 : decode cX9_init 181 = .ok (.newarray .int, 2) := by decide +kernel
theorem dX9_init_183 : decode cX9_init 183 = .ok (.putfield 80, 3) := by decide +kernel
theorem dX9_init_186 : decode cX9_init 186 = .ok (.aload_n 0, 1) := by decide +kernel
theorem dX9_init_187 : decode cX9_init 187 = .ok (.sipush 144, 3) := by decide +kernel
theorem dX9_init_190 : decode cX9_init 190 = .ok (.newarray .int, 2) := by decide +kernel
theorem dX9_init_192 : decode cX9_init 192 = .ok (.putfield 83, 3) := by decide +kernel
theorem dX9_init_195 : decode cX9_init 195 = .ok (.aload_n 0, 1) := by decide +kernel
theorem dX9_init_196 : decode cX9_init 196 = .ok (.sipush 4096, 3) := by decide +kernel
theorem dX9_init_199 : decode cX9_init 199 = .ok (.newarray .int, 2) := by decide +kernel
theorem dX9_init_201 : decode cX9_init 201 = .ok (.putfield 86, 3) := by decide +kernel
theorem dX9_init_204 : decode cX9_init 204 = .ok (.aload_n 0, 1) := by decide +kernel
theorem dX9_init_205 : decode cX9_init 205 = .ok (.iconst (-1), 1) := by decide +kernel
theorem dX9_init_206 : decode cX9_init 206 = .ok (.putfield 89, 3) := by decide +kernel
theorem dX9_init_209 : decode cX9_init 209 = .ok (.aload_n 0, 1) := by decide +kernel
theorem dX9_init_210 : decode cX9_init 210 = .ok (.invokevirtual 92, 3) := by decide +kernel
theorem dX9_init_213 : decode cX9_init 213 = .ok (.return_, 1) := by decide +kernel
theorem dX9_empties_0 : decode cX9_empties 0 = .ok (.aload_n 0, 1) := by decide +kernel
theorem dX9_empties_1 : decode cX9_empties 1 = .ok (.iconst 0, 1) := by decide +kernel
theorem dX9_empties_2 : decode cX9_empties 2 = .ok (.putfield 95, 3) := by decide +kernel
theorem dX9_empties_5 : decode cX9_empties 5 = .ok (.aload_n 0, 1) := by decide +kernel
theorem dX9_empties_6 : decode cX9_empties 6 = .ok (.iconst 0, 1) := by decide +kernel
theorem dX9_empties_7 : decode cX9_empties 7 = .ok (.putfield 98, 3) := by decide +kernel
theorem dX9_empties_10 : decode cX9_empties 10 = .ok (.aload_n 0, 1) := by decide +kernel
theorem dX9_empties_11 : decode cX9_empties 11 = .ok (.iconst 0, 1) := by decide +kernel
theorem dX9_empties_12 : decode cX9_empties 12 = .ok (.putfield 101, 3) := by decide +kernel
theorem dX9_empties_15 : decode cX9_empties 15 = .ok (.aload_n 0, 1) := by decide +kernel
theorem dX9_empties_16 : decode cX9_empties 16 = .ok (.iconst 0, 1) := by decide +kernel
theorem dX9_empties_17 : decode cX9_empties 17 = .ok (.putfield 104, 3) := by decide +kernel
theorem dX9_empties_20 : decode cX9_empties 20 = .ok (.aload_n 0, 1) := by decide +kernel
theorem dX9_empties_21 : decode cX9_empties 21 = .ok (.iconst 0, 1) := by decide +kernel
theorem dX9_empties_22 : decode cX9_empties 22 = .ok (.putfield 107, 3) := by decide +kernel
theorem dX9_empties_25 : decode cX9_empties 25 = .ok (.aload_n 0, 1) := by decide +kernel
theorem dX9_empties_26 : decode cX9_empties 26 = .ok (.iconst 0, 1) := by decide +kernel
theorem dX9_empties_27 : decode cX9_empties 27 = .ok (.putfield 110, 3) := by decide +kernel
theorem dX9_empties_30 : decode cX9_empties 30 = .ok (.aload_n 0, 1) := by decide +kernel
theorem dX9_empties_31 : decode cX9_empties 31 = .ok (.iconst (-1), 1) := by decide +kernel
theorem dX9_empties_32 : decode cX9_empties 32 = .ok (.putfield 89, 3) := by decide +kernel
theorem dX9_empties_35 : decode cX9_empties 35 = .ok (.aload_n 0, 1) := by decide +kernel
theorem dX9_empties_36 : decode cX9_empties 36 = .ok (.iconst (-1), 1) := by decide +kernel
theorem dX9_empties_37 : decode cX9_empties 37 = .ok (.putfield 35, 3) := by decide +kernel
theorem dX9_empties_40 : decode cX9_empties 40 = .ok (.iconst 0, 1) := by decide +kernel
theorem dX9_empties_41 : decode cX9_empties 41 = .ok (.istore_n 1, 1) := by decide +kernel
theorem dX9_empties_42 : decode cX9_empties 42 = .ok (.iload_n 1, 1) := by decide +kernel
theorem dX9_empties_43 : decode cX9_empties 43 = .ok (.sipush 144, 3) := by decide +kernel
theorem dX9_empties_46 : decode cX9_empties 46 = .ok (.if_icmp .ge 23, 3) := by decide +kernel
theorem dX9_empties_49 : decode cX9_empties 49 = .ok (.aload_n 0, 1) := by decide +kernel
theorem dX9_empties_50 : decode cX9_empties 50 = .ok (.getfield 23, 3) := by decide +kernel
theorem dX9_empties_53 : decode cX9_empties 53 = .ok (.iload_n 1, 1) := by decide +kernel
theorem dX9_empties_54 : decode cX9_empties 54 = .ok (.iconst (-1), 1) := by decide +kernel
theorem dX9_empties_55 : decode cX9_empties 55 = .ok (.iastore, 1) := by decide +kernel
theorem dX9_empties_56 : decode cX9_empties 56 = .ok (.aload_n 0, 1) := by decide +kernel
theorem dX9_empties_57 : decode cX9_empties 57 = .ok (.getfield 26, 3) := by decide +kernel
theorem dX9_empties_60 : decode cX9_empties 60 = .ok (.iload_n 1, 1) := by decide +kernel
theorem dX9_empties_61 : decode cX9_empties 61 = .ok (.iconst 0, 1) := by decide +kernel
theorem dX9_empties_62 : decode cX9_empties 62 = .ok (.iastore, 1) := by decide +kernel
theorem dX9_empties_63 : decode cX9_empties 63 = .ok (.iinc 1 1, 3) := by decide +kernel
theorem dX9_empties_66 : decode cX9_empties 66 = .ok (.goto (-24), 3) := by decide +kernel
theorem dX9_empties_69 : decode cX9_empties 69 = .ok (.iconst 0, 1) := by decide +kernel
theorem dX9_empties_70 : decode cX9_empties 70 = .ok (.istore_n 1, 1) := by decide +kernel
theorem dX9_empties_71 : decode cX9_empties 71 = .ok (.iload_n 1, 1) := by decide +kernel
theorem dX9_empties_72 : decode cX9_empties 72 = .ok (.bipush 12, 2) := by decide +kernel
theorem dX9_empties_74 : decode cX9_empties 74 = .ok (.if_icmp .ge 17, 3) := by decide +kernel
theorem dX9_empties_77 : decode cX9_empties 77 = .ok (.aload_n 0, 1) := by decide +kernel
theorem dX9_empties_78 : decode cX9_empties 78 = .ok (.getfield 29, 3) := by decide +kernel
theorem dX9_empties_81 : decode cX9_empties 81 = .ok (.iload_n 1, 1) := by decide +kernel
theorem dX9_empties_82 : decode cX9_empties 82 = .ok (.bipush 15, 2) := by decide +kernel
theorem dX9_empties_84 : decode cX9_empties 84 = .ok (.iastore, 1) := by decide +kernel
theorem dX9_empties_85 : decode cX9_empties 85 = .ok (.iinc 1 1, 3) := by decide +kernel
theorem dX9_empties_88 : decode cX9_empties 88 = .ok (.goto (-17), 3) := by decide +kernel
theorem dX9_empties_91 : decode cX9_empties 91 = .ok (.iconst 0, 1) := by decide +kernel
theorem dX9_empties_92 : decode cX9_empties 92 = .ok (.istore_n 1, 1) := by decide +kernel
theorem dX9_empties_93 : decode cX9_empties 93 = .ok (.iload_n 1, 1) := by decide +kernel
theorem dX9_empties_94 : decode cX9_empties 94 = .ok (.bipush 6, 2) := by decide +kernel
theorem dX9_empties_96 : decode cX9_empties 96 = .ok (.if_icmp .ge 16, 3) := by decide +kernel
theorem dX9_empties_99 : decode cX9_empties 99 = .ok (.aload_n 0, 1) := by decide +kernel
theorem dX9_empties_100 : decode cX9_empties 100 = .ok (.getfield 32, 3) := by decide +kernel
theorem dX9_empties_103 : decode cX9_empties 103 = .ok (.iload_n 1, 1) := by decide +kernel
theorem dX9_empties_104 : decode cX9_empties 104 = .ok (.iconst (-1), 1) := by decide +kernel
theorem dX9_empties_105 : decode cX9_empties 105 = .ok (.iastore, 1) := by decide +kernel
theorem dX9_empties_106 : decode cX9_empties 106 = .ok (.iinc 1 1, 3) := by decide +kernel
theorem dX9_empties_109 : decode cX9_empties 109 = .ok (.goto (-16), 3) := by decide +kernel
theorem dX9_empties_112 : decode cX9_empties 112 = .ok (.return_, 1) := by decide +kernel
theorem dX9_isNode_0 : decode cX9_isNode 0 = .ok (.iload_n 1, 1) := by decide +kernel
theorem dX9_isNode_1 : decode cX9_isNode 1 = .ok (.i2l, 1) := by decide +kernel
theorem dX9_isNode_2 : decode cX9_isNode 2 = .ok (.lconst 0, 1) := by decide +kernel
theorem dX9_isNode_3 : decode cX9_isNode 3 = .ok (.aload_n 0, 1) := by decide +kernel
theorem dX9_isNode_4 : decode cX9_isNode 4 = .ok (.getfield 95, 3) := by decide +kernel
theorem dX9_isNode_7 : decode cX9_isNode 7 = .ok (.iconst 1, 1) := by decide +kernel
theorem dX9_isNode_8 : decode cX9_isNode 8 = .ok (.isub, 1) := by decide +kernel
theorem dX9_isNode_9 : decode cX9_isNode 9 = .ok (.i2l, 1) := by decide +kernel
theorem dX9_isNode_10 : decode cX9_isNode 10 = .ok (.invokestatic 113, 3) := by decide +kernel
theorem dX9_isNode_13 : decode cX9_isNode 13 = .ok (.ireturn, 1) := by decide +kernel
theorem dX9_isHost_0 : decode cX9_isHost 0 = .ok (.aload_n 0, 1) := by decide +kernel
theorem dX9_isHost_1 : decode cX9_isHost 1 = .ok (.iload_n 1, 1) := by decide +kernel
theorem dX9_isHost_2 : decode cX9_isHost 2 = .ok (.invokevirtual 117, 3) := by decide +kernel
theorem dX9_isHost_5 : decode cX9_isHost 5 = .ok (.ifCond .eq 16, 3) := by decide +kernel
theorem dX9_isHost_8 : decode cX9_isHost 8 = .ok (.aload_n 0, 1) := by decide +kernel
theorem dX9_isHost_9 : decode cX9_isHost 9 = .ok (.getfield 13, 3) := by decide +kernel
theorem dX9_isHost_12 : decode cX9_isHost 12 = .ok (.iload_n 1, 1) := by decide +kernel
theorem dX9_isHost_13 : decode cX9_isHost 13 = .ok (.iaload, 1) := by decide +kernel
theorem dX9_isHost_14 : decode cX9_isHost 14 = .ok (.ifCond .ne 7, 3) := by decide +kernel
theorem dX9_isHost_17 : decode cX9_isHost 17 = .ok (.iconst 1, 1) := by decide +kernel
theorem dX9_isHost_18 : decode cX9_isHost 18 = .ok (.goto 4, 3) := by decide +kernel
theorem dX9_isHost_21 : decode cX9_isHost 21 = .ok (.iconst 0, 1) := by decide +kernel
theorem dX9_isHost_22 : decode cX9_isHost 22 = .ok (.ireturn, 1) := by decide +kernel
theorem dX9_isRouter_0 : decode cX9_isRouter 0 = .ok (.aload_n 0, 1) := by decide +kernel
theorem dX9_isRouter_1 : decode cX9_isRouter 1 = .ok (.iload_n 1, 1) := by decide +kernel
theorem dX9_isRouter_2 : decode cX9_isRouter 2 = .ok (.invokevirtual 117, 3) := by decide +kernel
theorem dX9_isRouter_5 : decode cX9_isRouter 5 = .ok (.ifCond .eq 17, 3) := by decide +kernel
theorem dX9_isRouter_8 : decode cX9_isRouter 8 = .ok (.aload_n 0, 1) := by decide +kernel
theorem dX9_isRouter_9 : decode cX9_isRouter 9 = .ok (.getfield 13, 3) := by decide +kernel
theorem dX9_isRouter_12 : decode cX9_isRouter 12 = .ok (.iload_n 1, 1) := by decide +kernel
theorem dX9_isRouter_13 : decode cX9_isRouter 13 = .ok (.iaload, 1) := by decide +kernel
theorem dX9_isRouter_14 : decode cX9_isRouter 14 = .ok (.iconst 1, 1) := by decide +kernel
theorem dX9_isRouter_15 : decode cX9_isRouter 15 = .ok (.if_icmp .le 7, 3) := by decide +kernel
theorem dX9_isRouter_18 : decode cX9_isRouter 18 = .ok (.iconst 1, 1) := by decide +kernel
theorem dX9_isRouter_19 : decode cX9_isRouter 19 = .ok (.goto 4, 3) := by decide +kernel
theorem dX9_isRouter_22 : decode cX9_isRouter 22 = .ok (.iconst 0, 1) := by decide +kernel
theorem dX9_isRouter_23 : decode cX9_isRouter 23 = .ok (.ireturn, 1) := by decide +kernel
theorem dX9_isWall_0 : decode cX9_isWall 0 = .ok (.aload_n 0, 1) := by decide +kernel
theorem dX9_isWall_1 : decode cX9_isWall 1 = .ok (.iload_n 1, 1) := by decide +kernel
theorem dX9_isWall_2 : decode cX9_isWall 2 = .ok (.invokevirtual 117, 3) := by decide +kernel
theorem dX9_isWall_5 : decode cX9_isWall 5 = .ok (.ifCond .eq 17, 3) := by decide +kernel
theorem dX9_isWall_8 : decode cX9_isWall 8 = .ok (.aload_n 0, 1) := by decide +kernel
theorem dX9_isWall_9 : decode cX9_isWall 9 = .ok (.getfield 13, 3) := by decide +kernel
theorem dX9_isWall_12 : decode cX9_isWall 12 = .ok (.iload_n 1, 1) := by decide +kernel
theorem dX9_isWall_13 : decode cX9_isWall 13 = .ok (.iaload, 1) := by decide +kernel
theorem dX9_isWall_14 : decode cX9_isWall 14 = .ok (.iconst 3, 1) := by decide +kernel
theorem dX9_isWall_15 : decode cX9_isWall 15 = .ok (.if_icmp .ne 7, 3) := by decide +kernel
theorem dX9_isWall_18 : decode cX9_isWall 18 = .ok (.iconst 1, 1) := by decide +kernel
theorem dX9_isWall_19 : decode cX9_isWall 19 = .ok (.goto 4, 3) := by decide +kernel
theorem dX9_isWall_22 : decode cX9_isWall 22 = .ok (.iconst 0, 1) := by decide +kernel
theorem dX9_isWall_23 : decode cX9_isWall 23 = .ok (.ireturn, 1) := by decide +kernel
theorem dX9_isService_0 : decode cX9_isService 0 = .ok (.iload_n 0, 1) := by decide +kernel
theorem dX9_isService_1 : decode cX9_isService 1 = .ok (.i2l, 1) := by decide +kernel
theorem dX9_isService_2 : decode cX9_isService 2 = .ok (.lconst 0, 1) := by decide +kernel
theorem dX9_isService_3 : decode cX9_isService 3 = .ok (.ldc2_w 121, 3) := by decide +kernel
theorem dX9_isService_6 : decode cX9_isService 6 = .ok (.invokestatic 113, 3) := by decide +kernel
theorem dX9_isService_9 : decode cX9_isService 9 = .ok (.ireturn, 1) := by decide +kernel
theorem dX9_isName_0 : decode cX9_isName 0 = .ok (.iload_n 0, 1) := by decide +kernel
theorem dX9_isName_1 : decode cX9_isName 1 = .ok (.i2l, 1) := by decide +kernel
theorem dX9_isName_2 : decode cX9_isName 2 = .ok (.lconst 0, 1) := by decide +kernel
theorem dX9_isName_3 : decode cX9_isName 3 = .ok (.ldc2_w 123, 3) := by decide +kernel
theorem dX9_isName_6 : decode cX9_isName 6 = .ok (.invokestatic 113, 3) := by decide +kernel
theorem dX9_isName_9 : decode cX9_isName 9 = .ok (.ireturn, 1) := by decide +kernel
theorem dX9_lineOf_0 : decode cX9_lineOf 0 = .ok (.iconst 0, 1) := by decide +kernel
theorem dX9_lineOf_1 : decode cX9_lineOf 1 = .ok (.istore_n 3, 1) := by decide +kernel
theorem dX9_lineOf_2 : decode cX9_lineOf 2 = .ok (.iload_n 3, 1) := by decide +kernel
theorem dX9_lineOf_3 : decode cX9_lineOf 3 = .ok (.aload_n 0, 1) := by decide +kernel
theorem dX9_lineOf_4 : decode cX9_lineOf 4 = .ok (.getfield 98, 3) := by decide +kernel
theorem dX9_lineOf_7 : decode cX9_lineOf 7 = .ok (.if_icmp .ge 51, 3) := by decide +kernel
theorem dX9_lineOf_10 : decode cX9_lineOf 10 = .ok (.aload_n 0, 1) := by decide +kernel
theorem dX9_lineOf_11 : decode cX9_lineOf 11 = .ok (.getfield 17, 3) := by decide +kernel
theorem dX9_lineOf_14 : decode cX9_lineOf 14 = .ok (.iload_n 3, 1) := by decide +kernel
theorem dX9_lineOf_15 : decode cX9_lineOf 15 = .ok (.iaload, 1) := by decide +kernel
theorem dX9_lineOf_16 : decode cX9_lineOf 16 = .ok (.iload_n 1, 1) := by decide +kernel
theorem dX9_lineOf_17 : decode cX9_lineOf 17 = .ok (.if_icmp .ne 13, 3) := by decide +kernel
theorem dX9_lineOf_20 : decode cX9_lineOf 20 = .ok (.aload_n 0, 1) := by decide +kernel
theorem dX9_lineOf_21 : decode cX9_lineOf 21 = .ok (.getfield 20, 3) := by decide +kernel
theorem dX9_lineOf_24 : decode cX9_lineOf 24 = .ok (.iload_n 3, 1) := by decide +kernel
theorem dX9_lineOf_25 : decode cX9_lineOf 25 = .ok (.iaload, 1) := by decide +kernel
theorem dX9_lineOf_26 : decode cX9_lineOf 26 = .ok (.iload_n 2, 1) := by decide +kernel
theorem dX9_lineOf_27 : decode cX9_lineOf 27 = .ok (.if_icmp .eq 23, 3) := by decide +kernel
theorem dX9_lineOf_30 : decode cX9_lineOf 30 = .ok (.aload_n 0, 1) := by decide +kernel
theorem dX9_lineOf_31 : decode cX9_lineOf 31 = .ok (.getfield 17, 3) := by decide +kernel
theorem dX9_lineOf_34 : decode cX9_lineOf 34 = .ok (.iload_n 3, 1) := by decide +kernel
theorem dX9_lineOf_35 : decode cX9_lineOf 35 = .ok (.iaload, 1) := by decide +kernel
theorem dX9_lineOf_36 : decode cX9_lineOf 36 = .ok (.iload_n 2, 1) := by decide +kernel
theorem dX9_lineOf_37 : decode cX9_lineOf 37 = .ok (.if_icmp .ne 15, 3) := by decide +kernel
theorem dX9_lineOf_40 : decode cX9_lineOf 40 = .ok (.aload_n 0, 1) := by decide +kernel
theorem dX9_lineOf_41 : decode cX9_lineOf 41 = .ok (.getfield 20, 3) := by decide +kernel
theorem dX9_lineOf_44 : decode cX9_lineOf 44 = .ok (.iload_n 3, 1) := by decide +kernel
theorem dX9_lineOf_45 : decode cX9_lineOf 45 = .ok (.iaload, 1) := by decide +kernel
theorem dX9_lineOf_46 : decode cX9_lineOf 46 = .ok (.iload_n 1, 1) := by decide +kernel
theorem dX9_lineOf_47 : decode cX9_lineOf 47 = .ok (.if_icmp .ne 5, 3) := by decide +kernel
theorem dX9_lineOf_50 : decode cX9_lineOf 50 = .ok (.iload_n 3, 1) := by decide +kernel
theorem dX9_lineOf_51 : decode cX9_lineOf 51 = .ok (.ireturn, 1) := by decide +kernel
theorem dX9_lineOf_52 : decode cX9_lineOf 52 = .ok (.iinc 3 1, 3) := by decide +kernel
theorem dX9_lineOf_55 : decode cX9_lineOf 55 = .ok (.goto (-53), 3) := by decide +kernel
theorem dX9_lineOf_58 : decode cX9_lineOf 58 = .ok (.iconst (-1), 1) := by decide +kernel
theorem dX9_lineOf_59 : decode cX9_lineOf 59 = .ok (.ireturn, 1) := by decide +kernel
theorem dX9_told_0 : decode cX9_told 0 = .ok (.aload_n 0, 1) := by decide +kernel
theorem dX9_told_1 : decode cX9_told 1 = .ok (.iconst (-1), 1) := by decide +kernel
theorem dX9_told_2 : decode cX9_told 2 = .ok (.putfield 89, 3) := by decide +kernel
theorem dX9_told_5 : decode cX9_told 5 = .ok (.return_, 1) := by decide +kernel
theorem dX9_node_0 : decode cX9_node 0 = .ok (.aload_n 0, 1) := by decide +kernel
theorem dX9_node_1 : decode cX9_node 1 = .ok (.iconst 0, 1) := by decide +kernel
theorem dX9_node_2 : decode cX9_node 2 = .ok (.putfield 1, 3) := by decide +kernel
theorem dX9_node_5 : decode cX9_node 5 = .ok (.iload_n 1, 1) := by decide +kernel
theorem dX9_node_6 : decode cX9_node 6 = .ok (.i2l, 1) := by decide +kernel
theorem dX9_node_7 : decode cX9_node 7 = .ok (.lconst 0, 1) := by decide +kernel
theorem dX9_node_8 : decode cX9_node 8 = .ok (.ldc2_w 121, 3) := by decide +kernel
theorem dX9_node_11 : decode cX9_node 11 = .ok (.invokestatic 113, 3) := by decide +kernel
theorem dX9_node_14 : decode cX9_node 14 = .ok (.ifCond .eq 12, 3) := by decide +kernel
theorem dX9_node_17 : decode cX9_node 17 = .ok (.aload_n 0, 1) := by decide +kernel
theorem dX9_node_18 : decode cX9_node 18 = .ok (.getfield 95, 3) := by decide +kernel
theorem dX9_node_21 : decode cX9_node 21 = .ok (.bipush 12, 2) := by decide +kernel
theorem dX9_node_23 : decode cX9_node 23 = .ok (.if_icmp .ne 5, 3) := by decide +kernel
theorem dX9_node_26 : decode cX9_node 26 = .ok (.iconst (-1), 1) := by decide +kernel
theorem dX9_node_27 : decode cX9_node 27 = .ok (.ireturn, 1) := by decide +kernel
theorem dX9_node_28 : decode cX9_node 28 = .ok (.aload_n 0, 1) := by decide +kernel
theorem dX9_node_29 : decode cX9_node 29 = .ok (.invokevirtual 125, 3) := by decide +kernel
theorem dX9_node_32 : decode cX9_node 32 = .ok (.aload_n 0, 1) := by decide +kernel
theorem dX9_node_33 : decode cX9_node 33 = .ok (.getfield 13, 3) := by decide +kernel
theorem dX9_node_36 : decode cX9_node 36 = .ok (.aload_n 0, 1) := by decide +kernel
theorem dX9_node_37 : decode cX9_node 37 = .ok (.getfield 95, 3) := by decide +kernel
theorem dX9_node_40 : decode cX9_node 40 = .ok (.iload_n 1, 1) := by decide +kernel
theorem dX9_node_41 : decode cX9_node 41 = .ok (.iastore, 1) := by decide +kernel
theorem dX9_node_42 : decode cX9_node 42 = .ok (.aload_n 0, 1) := by decide +kernel
theorem dX9_node_43 : decode cX9_node 43 = .ok (.dup, 1) := by decide +kernel
theorem dX9_node_44 : decode cX9_node 44 = .ok (.getfield 95, 3) := by decide +kernel
theorem dX9_node_47 : decode cX9_node 47 = .ok (.iconst 1, 1) := by decide +kernel
theorem dX9_node_48 : decode cX9_node 48 = .ok (.iadd, 1) := by decide +kernel
theorem dX9_node_49 : decode cX9_node 49 = .ok (.putfield 95, 3) := by decide +kernel
theorem dX9_node_52 : decode cX9_node 52 = .ok (.aload_n 0, 1) := by decide +kernel
theorem dX9_node_53 : decode cX9_node 53 = .ok (.getfield 95, 3) := by decide +kernel
theorem dX9_node_56 : decode cX9_node 56 = .ok (.iconst 1, 1) := by decide +kernel
theorem dX9_node_57 : decode cX9_node 57 = .ok (.isub, 1) := by decide +kernel
theorem dX9_node_58 : decode cX9_node 58 = .ok (.ireturn, 1) := by decide +kernel
theorem dX9_line_0 : decode cX9_line 0 = .ok (.aload_n 0, 1) := by decide +kernel
theorem dX9_line_1 : decode cX9_line 1 = .ok (.iconst 0, 1) := by decide +kernel
theorem dX9_line_2 : decode cX9_line 2 = .ok (.putfield 1, 3) := by decide +kernel
theorem dX9_line_5 : decode cX9_line 5 = .ok (.aload_n 0, 1) := by decide +kernel
theorem dX9_line_6 : decode cX9_line 6 = .ok (.iload_n 1, 1) := by decide +kernel
theorem dX9_line_7 : decode cX9_line 7 = .ok (.invokevirtual 117, 3) := by decide +kernel
theorem dX9_line_10 : decode cX9_line 10 = .ok (.ifCond .eq 34, 3) := by decide +kernel
theorem dX9_line_13 : decode cX9_line 13 = .ok (.aload_n 0, 1) := by decide +kernel
theorem dX9_line_14 : decode cX9_line 14 = .ok (.iload_n 2, 1) := by decide +kernel
theorem dX9_line_15 : decode cX9_line 15 = .ok (.invokevirtual 117, 3) := by decide +kernel
theorem dX9_line_18 : decode cX9_line 18 = .ok (.ifCond .eq 26, 3) := by decide +kernel
theorem dX9_line_21 : decode cX9_line 21 = .ok (.iload_n 1, 1) := by decide +kernel
theorem dX9_line_22 : decode cX9_line 22 = .ok (.iload_n 2, 1) := by decide +kernel
theorem dX9_line_23 : decode cX9_line 23 = .ok (.if_icmp .eq 21, 3) := by decide +kernel
theorem dX9_line_26 : decode cX9_line 26 = .ok (.aload_n 0, 1) := by decide +kernel
theorem dX9_line_27 : decode cX9_line 27 = .ok (.iload_n 1, 1) := by decide +kernel
theorem dX9_line_28 : decode cX9_line 28 = .ok (.iload_n 2, 1) := by decide +kernel
theorem dX9_line_29 : decode cX9_line 29 = .ok (.invokevirtual 128, 3) := by decide +kernel
theorem dX9_line_32 : decode cX9_line 32 = .ok (.ifCond .ge 12, 3) := by decide +kernel
theorem dX9_line_35 : decode cX9_line 35 = .ok (.aload_n 0, 1) := by decide +kernel
theorem dX9_line_36 : decode cX9_line 36 = .ok (.getfield 98, 3) := by decide +kernel
theorem dX9_line_39 : decode cX9_line 39 = .ok (.bipush 20, 2) := by decide +kernel
theorem dX9_line_41 : decode cX9_line 41 = .ok (.if_icmp .ne 5, 3) := by decide +kernel
theorem dX9_line_44 : decode cX9_line 44 = .ok (.iconst (-1), 1) := by decide +kernel
theorem dX9_line_45 : decode cX9_line 45 = .ok (.ireturn, 1) := by decide +kernel
theorem dX9_line_46 : decode cX9_line 46 = .ok (.aload_n 0, 1) := by decide +kernel
theorem dX9_line_47 : decode cX9_line 47 = .ok (.invokevirtual 125, 3) := by decide +kernel
theorem dX9_line_50 : decode cX9_line 50 = .ok (.aload_n 0, 1) := by decide +kernel
theorem dX9_line_51 : decode cX9_line 51 = .ok (.getfield 17, 3) := by decide +kernel
theorem dX9_line_54 : decode cX9_line 54 = .ok (.aload_n 0, 1) := by decide +kernel
theorem dX9_line_55 : decode cX9_line 55 = .ok (.getfield 98, 3) := by decide +kernel
theorem dX9_line_58 : decode cX9_line 58 = .ok (.iload_n 1, 1) := by decide +kernel
theorem dX9_line_59 : decode cX9_line 59 = .ok (.iastore, 1) := by decide +kernel
theorem dX9_line_60 : decode cX9_line 60 = .ok (.aload_n 0, 1) := by decide +kernel
theorem dX9_line_61 : decode cX9_line 61 = .ok (.getfield 20, 3) := by decide +kernel
theorem dX9_line_64 : decode cX9_line 64 = .ok (.aload_n 0, 1) := by decide +kernel
theorem dX9_line_65 : decode cX9_line 65 = .ok (.getfield 98, 3) := by decide +kernel
theorem dX9_line_68 : decode cX9_line 68 = .ok (.iload_n 2, 1) := by decide +kernel
theorem dX9_line_69 : decode cX9_line 69 = .ok (.iastore, 1) := by decide +kernel
theorem dX9_line_70 : decode cX9_line 70 = .ok (.aload_n 0, 1) := by decide +kernel
theorem dX9_line_71 : decode cX9_line 71 = .ok (.dup, 1) := by decide +kernel
theorem dX9_line_72 : decode cX9_line 72 = .ok (.getfield 98, 3) := by decide +kernel
theorem dX9_line_75 : decode cX9_line 75 = .ok (.iconst 1, 1) := by decide +kernel
theorem dX9_line_76 : decode cX9_line 76 = .ok (.iadd, 1) := by decide +kernel
theorem dX9_line_77 : decode cX9_line 77 = .ok (.putfield 98, 3) := by decide +kernel
theorem dX9_line_80 : decode cX9_line 80 = .ok (.aload_n 0, 1) := by decide +kernel
theorem dX9_line_81 : decode cX9_line 81 = .ok (.getfield 98, 3) := by decide +kernel
theorem dX9_line_84 : decode cX9_line 84 = .ok (.iconst 1, 1) := by decide +kernel
theorem dX9_line_85 : decode cX9_line 85 = .ok (.isub, 1) := by decide +kernel
theorem dX9_line_86 : decode cX9_line 86 = .ok (.ireturn, 1) := by decide +kernel
theorem dX9_route_0 : decode cX9_route 0 = .ok (.aload_n 0, 1) := by decide +kernel
theorem dX9_route_1 : decode cX9_route 1 = .ok (.iconst 0, 1) := by decide +kernel
theorem dX9_route_2 : decode cX9_route 2 = .ok (.putfield 1, 3) := by decide +kernel
theorem dX9_route_5 : decode cX9_route 5 = .ok (.aload_n 0, 1) := by decide +kernel
theorem dX9_route_6 : decode cX9_route 6 = .ok (.iload_n 1, 1) := by decide +kernel
theorem dX9_route_7 : decode cX9_route 7 = .ok (.invokevirtual 132, 3) := by decide +kernel
theorem dX9_route_10 : decode cX9_route 10 = .ok (.ifCond .eq 29, 3) := by decide +kernel
theorem dX9_route_13 : decode cX9_route 13 = .ok (.aload_n 0, 1) := by decide +kernel
theorem dX9_route_14 : decode cX9_route 14 = .ok (.iload_n 2, 1) := by decide +kernel
theorem dX9_route_15 : decode cX9_route 15 = .ok (.invokevirtual 135, 3) := by decide +kernel
theorem dX9_route_18 : decode cX9_route 18 = .ok (.ifCond .eq 21, 3) := by decide +kernel
theorem dX9_route_21 : decode cX9_route 21 = .ok (.iload_n 3, 1) := by decide +kernel
theorem dX9_route_22 : decode cX9_route 22 = .ok (.iconst (-1), 1) := by decide +kernel
theorem dX9_route_23 : decode cX9_route 23 = .ok (.if_icmp .eq 11, 3) := by decide +kernel
theorem dX9_route_26 : decode cX9_route 26 = .ok (.aload_n 0, 1) := by decide +kernel
theorem dX9_route_27 : decode cX9_route 27 = .ok (.iload_n 3, 1) := by decide +kernel
theorem dX9_route_28 : decode cX9_route 28 = .ok (.invokevirtual 117, 3) := by decide +kernel
theorem dX9_route_31 : decode cX9_route 31 = .ok (.ifCond .eq 8, 3) := by decide +kernel
theorem dX9_route_34 : decode cX9_route 34 = .ok (.iload_n 3, 1) := by decide +kernel
theorem dX9_route_35 : decode cX9_route 35 = .ok (.iload_n 1, 1) := by decide +kernel
theorem dX9_route_36 : decode cX9_route 36 = .ok (.if_icmp .ne 5, 3) := by decide +kernel
theorem dX9_route_39 : decode cX9_route 39 = .ok (.iconst 0, 1) := by decide +kernel
theorem dX9_route_40 : decode cX9_route 40 = .ok (.ireturn, 1) := by decide +kernel
theorem dX9_route_41 : decode cX9_route 41 = .ok (.aload_n 0, 1) := by decide +kernel
theorem dX9_route_42 : decode cX9_route 42 = .ok (.invokevirtual 125, 3) := by decide +kernel
theorem dX9_route_45 : decode cX9_route 45 = .ok (.aload_n 0, 1) := by decide +kernel
theorem dX9_route_46 : decode cX9_route 46 = .ok (.getfield 23, 3) := by decide +kernel
theorem dX9_route_49 : decode cX9_route 49 = .ok (.bipush 12, 2) := by decide +kernel
theorem dX9_route_51 : decode cX9_route 51 = .ok (.iload_n 1, 1) := by decide +kernel
theorem dX9_route_52 : decode cX9_route 52 = .ok (.imul, 1) := by decide +kernel
theorem dX9_route_53 : decode cX9_route 53 = .ok (.iload_n 2, 1) := by decide +kernel
theorem dX9_route_54 : decode cX9_route 54 = .ok (.iadd, 1) := by decide +kernel
theorem dX9_route_55 : decode cX9_route 55 = .ok (.iload_n 3, 1) := by decide +kernel
theorem dX9_route_56 : decode cX9_route 56 = .ok (.iastore, 1) := by decide +kernel
theorem dX9_route_57 : decode cX9_route 57 = .ok (.iconst 1, 1) := by decide +kernel
theorem dX9_route_58 : decode cX9_route 58 = .ok (.ireturn, 1) := by decide +kernel
theorem dX9_deny_0 : decode cX9_deny 0 = .ok (.aload_n 0, 1) := by decide +kernel
theorem dX9_deny_1 : decode cX9_deny 1 = .ok (.iconst 0, 1) := by decide +kernel
theorem dX9_deny_2 : decode cX9_deny 2 = .ok (.putfield 1, 3) := by decide +kernel
theorem dX9_deny_5 : decode cX9_deny 5 = .ok (.aload_n 0, 1) := by decide +kernel
theorem dX9_deny_6 : decode cX9_deny 6 = .ok (.iload_n 1, 1) := by decide +kernel
theorem dX9_deny_7 : decode cX9_deny 7 = .ok (.invokevirtual 138, 3) := by decide +kernel
theorem dX9_deny_10 : decode cX9_deny 10 = .ok (.ifCond .eq 18, 3) := by decide +kernel
theorem dX9_deny_13 : decode cX9_deny 13 = .ok (.aload_n 0, 1) := by decide +kernel
theorem dX9_deny_14 : decode cX9_deny 14 = .ok (.iload_n 2, 1) := by decide +kernel
theorem dX9_deny_15 : decode cX9_deny 15 = .ok (.invokevirtual 135, 3) := by decide +kernel
theorem dX9_deny_18 : decode cX9_deny 18 = .ok (.ifCond .eq 10, 3) := by decide +kernel
theorem dX9_deny_21 : decode cX9_deny 21 = .ok (.iload_n 3, 1) := by decide +kernel
theorem dX9_deny_22 : decode cX9_deny 22 = .ok (.invokestatic 141, 3) := by decide +kernel
theorem dX9_deny_25 : decode cX9_deny 25 = .ok (.ifCond .ne 5, 3) := by decide +kernel
theorem dX9_deny_28 : decode cX9_deny 28 = .ok (.iconst 0, 1) := by decide +kernel
theorem dX9_deny_29 : decode cX9_deny 29 = .ok (.ireturn, 1) := by decide +kernel
theorem dX9_deny_30 : decode cX9_deny 30 = .ok (.aload_n 0, 1) := by decide +kernel
theorem dX9_deny_31 : decode cX9_deny 31 = .ok (.invokevirtual 125, 3) := by decide +kernel
theorem dX9_deny_34 : decode cX9_deny 34 = .ok (.aload_n 0, 1) := by decide +kernel
theorem dX9_deny_35 : decode cX9_deny 35 = .ok (.getfield 26, 3) := by decide +kernel
theorem dX9_deny_38 : decode cX9_deny 38 = .ok (.bipush 12, 2) := by decide +kernel
theorem dX9_deny_40 : decode cX9_deny 40 = .ok (.iload_n 1, 1) := by decide +kernel
theorem dX9_deny_41 : decode cX9_deny 41 = .ok (.imul, 1) := by decide +kernel
theorem dX9_deny_42 : decode cX9_deny 42 = .ok (.iload_n 2, 1) := by decide +kernel
theorem dX9_deny_43 : decode cX9_deny 43 = .ok (.iadd, 1) := by decide +kernel
theorem dX9_deny_44 : decode cX9_deny 44 = .ok (.iaload, 1) := by decide +kernel
theorem dX9_deny_45 : decode cX9_deny 45 = .ok (.istore 5, 2) := by decide +kernel
theorem dX9_deny_47 : decode cX9_deny 47 = .ok (.aload_n 0, 1) := by decide +kernel
theorem dX9_deny_48 : decode cX9_deny 48 = .ok (.getfield 26, 3) := by decide +kernel
theorem dX9_deny_51 : decode cX9_deny 51 = .ok (.bipush 12, 2) := by decide +kernel
theorem dX9_deny_53 : decode cX9_deny 53 = .ok (.iload_n 1, 1) := by decide +kernel
theorem dX9_deny_54 : decode cX9_deny 54 = .ok (.imul, 1) := by decide +kernel
theorem dX9_deny_55 : decode cX9_deny 55 = .ok (.iload_n 2, 1) := by decide +kernel
theorem dX9_deny_56 : decode cX9_deny 56 = .ok (.iadd, 1) := by decide +kernel
theorem dX9_deny_57 : decode cX9_deny 57 = .ok (.iload 4, 2) := by decide +kernel
theorem dX9_deny_59 : decode cX9_deny 59 = .ok (.ifCond .eq 12, 3) := by decide +kernel
theorem dX9_deny_62 : decode cX9_deny 62 = .ok (.iload 5, 2) := by decide +kernel
theorem dX9_deny_64 : decode cX9_deny 64 = .ok (.iconst 1, 1) := by decide +kernel
theorem dX9_deny_65 : decode cX9_deny 65 = .ok (.iload_n 3, 1) := by decide +kernel
theorem dX9_deny_66 : decode cX9_deny 66 = .ok (.ishl, 1) := by decide +kernel
theorem dX9_deny_67 : decode cX9_deny 67 = .ok (.ior, 1) := by decide +kernel
theorem dX9_deny_68 : decode cX9_deny 68 = .ok (.goto 11, 3) := by decide +kernel
theorem dX9_deny_71 : decode cX9_deny 71 = .ok (.iload 5, 2) := by decide +kernel
theorem dX9_deny_73 : decode cX9_deny 73 = .ok (.iconst 1, 1) := by decide +kernel
theorem dX9_deny_74 : decode cX9_deny 74 = .ok (.iload_n 3, 1) := by decide +kernel
theorem dX9_deny_75 : decode cX9_deny 75 = .ok (.ishl, 1) := by decide +kernel
theorem dX9_deny_76 : decode cX9_deny 76 = .ok (.iconst (-1), 1) := by decide +kernel
theorem dX9_deny_77 : decode cX9_deny 77 = .ok (.ixor, 1) := by decide +kernel
theorem dX9_deny_78 : decode cX9_deny 78 = .ok (.iand, 1) := by decide +kernel
theorem dX9_deny_79 : decode cX9_deny 79 = .ok (.iastore, 1) := by decide +kernel
theorem dX9_deny_80 : decode cX9_deny 80 = .ok (.iconst 1, 1) := by decide +kernel
theorem dX9_deny_81 : decode cX9_deny 81 = .ok (.ireturn, 1) := by decide +kernel
theorem dX9_on_0 : decode cX9_on 0 = .ok (.aload_n 0, 1) := by decide +kernel
theorem dX9_on_1 : decode cX9_on 1 = .ok (.iconst 0, 1) := by decide +kernel
theorem dX9_on_2 : decode cX9_on 2 = .ok (.putfield 1, 3) := by decide +kernel
theorem dX9_on_5 : decode cX9_on 5 = .ok (.aload_n 0, 1) := by decide +kernel
theorem dX9_on_6 : decode cX9_on 6 = .ok (.iload_n 1, 1) := by decide +kernel
theorem dX9_on_7 : decode cX9_on 7 = .ok (.invokevirtual 135, 3) := by decide +kernel
theorem dX9_on_10 : decode cX9_on 10 = .ok (.ifCond .eq 10, 3) := by decide +kernel
theorem dX9_on_13 : decode cX9_on 13 = .ok (.iload_n 2, 1) := by decide +kernel
theorem dX9_on_14 : decode cX9_on 14 = .ok (.invokestatic 141, 3) := by decide +kernel
theorem dX9_on_17 : decode cX9_on 17 = .ok (.ifCond .ne 5, 3) := by decide +kernel
theorem dX9_on_20 : decode cX9_on 20 = .ok (.iconst 0, 1) := by decide +kernel
theorem dX9_on_21 : decode cX9_on 21 = .ok (.ireturn, 1) := by decide +kernel
theorem dX9_on_22 : decode cX9_on 22 = .ok (.aload_n 0, 1) := by decide +kernel
theorem dX9_on_23 : decode cX9_on 23 = .ok (.invokevirtual 125, 3) := by decide +kernel
theorem dX9_on_26 : decode cX9_on 26 = .ok (.aload_n 0, 1) := by decide +kernel
theorem dX9_on_27 : decode cX9_on 27 = .ok (.getfield 29, 3) := by decide +kernel
theorem dX9_on_30 : decode cX9_on 30 = .ok (.iload_n 1, 1) := by decide +kernel
theorem dX9_on_31 : decode cX9_on 31 = .ok (.iload_n 3, 1) := by decide +kernel
theorem dX9_on_32 : decode cX9_on 32 = .ok (.ifCond .eq 16, 3) := by decide +kernel
theorem dX9_on_35 : decode cX9_on 35 = .ok (.aload_n 0, 1) := by decide +kernel
theorem dX9_on_36 : decode cX9_on 36 = .ok (.getfield 29, 3) := by decide +kernel
theorem dX9_on_39 : decode cX9_on 39 = .ok (.iload_n 1, 1) := by decide +kernel
theorem dX9_on_40 : decode cX9_on 40 = .ok (.iaload, 1) := by decide +kernel
theorem dX9_on_41 : decode cX9_on 41 = .ok (.iconst 1, 1) := by decide +kernel
theorem dX9_on_42 : decode cX9_on 42 = .ok (.iload_n 2, 1) := by decide +kernel
theorem dX9_on_43 : decode cX9_on 43 = .ok (.ishl, 1) := by decide +kernel
theorem dX9_on_44 : decode cX9_on 44 = .ok (.ior, 1) := by decide +kernel
theorem dX9_on_45 : decode cX9_on 45 = .ok (.goto 15, 3) := by decide +kernel
theorem dX9_on_48 : decode cX9_on 48 = .ok (.aload_n 0, 1) := by decide +kernel
theorem dX9_on_49 : decode cX9_on 49 = .ok (.getfield 29, 3) := by decide +kernel
theorem dX9_on_52 : decode cX9_on 52 = .ok (.iload_n 1, 1) := by decide +kernel
theorem dX9_on_53 : decode cX9_on 53 = .ok (.iaload, 1) := by decide +kernel
theorem dX9_on_54 : decode cX9_on 54 = .ok (.iconst 1, 1) := by decide +kernel
theorem dX9_on_55 : decode cX9_on 55 = .ok (.iload_n 2, 1) := by decide +kernel
theorem dX9_on_56 : decode cX9_on 56 = .ok (.ishl, 1) := by decide +kernel
theorem dX9_on_57 : decode cX9_on 57 = .ok (.iconst (-1), 1) := by decide +kernel
theorem dX9_on_58 : decode cX9_on 58 = .ok (.ixor, 1) := by decide +kernel
theorem dX9_on_59 : decode cX9_on 59 = .ok (.iand, 1) := by decide +kernel
theorem dX9_on_60 : decode cX9_on 60 = .ok (.iastore, 1) := by decide +kernel
theorem dX9_on_61 : decode cX9_on 61 = .ok (.iconst 1, 1) := by decide +kernel
theorem dX9_on_62 : decode cX9_on 62 = .ok (.ireturn, 1) := by decide +kernel
theorem dX9_name_0 : decode cX9_name 0 = .ok (.aload_n 0, 1) := by decide +kernel
theorem dX9_name_1 : decode cX9_name 1 = .ok (.iconst 0, 1) := by decide +kernel
theorem dX9_name_2 : decode cX9_name 2 = .ok (.putfield 1, 3) := by decide +kernel
theorem dX9_name_5 : decode cX9_name 5 = .ok (.iload_n 1, 1) := by decide +kernel
theorem dX9_name_6 : decode cX9_name 6 = .ok (.invokestatic 144, 3) := by decide +kernel
theorem dX9_name_9 : decode cX9_name 9 = .ok (.ifCond .eq 16, 3) := by decide +kernel
theorem dX9_name_12 : decode cX9_name 12 = .ok (.iload_n 2, 1) := by decide +kernel
theorem dX9_name_13 : decode cX9_name 13 = .ok (.iconst (-1), 1) := by decide +kernel
theorem dX9_name_14 : decode cX9_name 14 = .ok (.if_icmp .eq 13, 3) := by decide +kernel
theorem dX9_name_17 : decode cX9_name 17 = .ok (.aload_n 0, 1) := by decide +kernel
theorem dX9_name_18 : decode cX9_name 18 = .ok (.iload_n 2, 1) := by decide +kernel
theorem dX9_name_19 : decode cX9_name 19 = .ok (.invokevirtual 135, 3) := by decide +kernel
theorem dX9_name_22 : decode cX9_name 22 = .ok (.ifCond .ne 5, 3) := by decide +kernel
theorem dX9_name_25 : decode cX9_name 25 = .ok (.iconst 0, 1) := by decide +kernel
theorem dX9_name_26 : decode cX9_name 26 = .ok (.ireturn, 1) := by decide +kernel
theorem dX9_name_27 : decode cX9_name 27 = .ok (.aload_n 0, 1) := by decide +kernel
theorem dX9_name_28 : decode cX9_name 28 = .ok (.invokevirtual 125, 3) := by decide +kernel
theorem dX9_name_31 : decode cX9_name 31 = .ok (.aload_n 0, 1) := by decide +kernel
theorem dX9_name_32 : decode cX9_name 32 = .ok (.getfield 32, 3) := by decide +kernel
theorem dX9_name_35 : decode cX9_name 35 = .ok (.iload_n 1, 1) := by decide +kernel
theorem dX9_name_36 : decode cX9_name 36 = .ok (.iload_n 2, 1) := by decide +kernel
theorem dX9_name_37 : decode cX9_name 37 = .ok (.iastore, 1) := by decide +kernel
theorem dX9_name_38 : decode cX9_name 38 = .ok (.iconst 1, 1) := by decide +kernel
theorem dX9_name_39 : decode cX9_name 39 = .ok (.ireturn, 1) := by decide +kernel
theorem dX9_namer_0 : decode cX9_namer 0 = .ok (.aload_n 0, 1) := by decide +kernel
theorem dX9_namer_1 : decode cX9_namer 1 = .ok (.iconst 0, 1) := by decide +kernel
theorem dX9_namer_2 : decode cX9_namer 2 = .ok (.putfield 1, 3) := by decide +kernel
theorem dX9_namer_5 : decode cX9_namer 5 = .ok (.iload_n 1, 1) := by decide +kernel
theorem dX9_namer_6 : decode cX9_namer 6 = .ok (.iconst (-1), 1) := by decide +kernel
theorem dX9_namer_7 : decode cX9_namer 7 = .ok (.if_icmp .eq 13, 3) := by decide +kernel
theorem dX9_namer_10 : decode cX9_namer 10 = .ok (.aload_n 0, 1) := by decide +kernel
theorem dX9_namer_11 : decode cX9_namer 11 = .ok (.iload_n 1, 1) := by decide +kernel
theorem dX9_namer_12 : decode cX9_namer 12 = .ok (.invokevirtual 135, 3) := by decide +kernel
theorem dX9_namer_15 : decode cX9_namer 15 = .ok (.ifCond .ne 5, 3) := by decide +kernel
theorem dX9_namer_18 : decode cX9_namer 18 = .ok (.iconst 0, 1) := by decide +kernel
theorem dX9_namer_19 : decode cX9_namer 19 = .ok (.ireturn, 1) := by decide +kernel
theorem dX9_namer_20 : decode cX9_namer 20 = .ok (.aload_n 0, 1) := by decide +kernel
theorem dX9_namer_21 : decode cX9_namer 21 = .ok (.invokevirtual 125, 3) := by decide +kernel
theorem dX9_namer_24 : decode cX9_namer 24 = .ok (.aload_n 0, 1) := by decide +kernel
theorem dX9_namer_25 : decode cX9_namer 25 = .ok (.iload_n 1, 1) := by decide +kernel
theorem dX9_namer_26 : decode cX9_namer 26 = .ok (.putfield 35, 3) := by decide +kernel
theorem dX9_namer_29 : decode cX9_namer 29 = .ok (.iconst 1, 1) := by decide +kernel
theorem dX9_namer_30 : decode cX9_namer 30 = .ok (.ireturn, 1) := by decide +kernel
theorem dX9_clear_0 : decode cX9_clear 0 = .ok (.aload_n 0, 1) := by decide +kernel
theorem dX9_clear_1 : decode cX9_clear 1 = .ok (.iconst 0, 1) := by decide +kernel
theorem dX9_clear_2 : decode cX9_clear 2 = .ok (.putfield 1, 3) := by decide +kernel
theorem dX9_clear_5 : decode cX9_clear 5 = .ok (.aload_n 0, 1) := by decide +kernel
theorem dX9_clear_6 : decode cX9_clear 6 = .ok (.getfield 95, 3) := by decide +kernel
theorem dX9_clear_9 : decode cX9_clear 9 = .ok (.istore_n 1, 1) := by decide +kernel
theorem dX9_clear_10 : decode cX9_clear 10 = .ok (.aload_n 0, 1) := by decide +kernel
theorem dX9_clear_11 : decode cX9_clear 11 = .ok (.invokevirtual 92, 3) := by decide +kernel
theorem dX9_clear_14 : decode cX9_clear 14 = .ok (.iload_n 1, 1) := by decide +kernel
theorem dX9_clear_15 : decode cX9_clear 15 = .ok (.ireturn, 1) := by decide +kernel
theorem dX9_count_0 : decode cX9_count 0 = .ok (.aload_n 0, 1) := by decide +kernel
theorem dX9_count_1 : decode cX9_count 1 = .ok (.iconst 0, 1) := by decide +kernel
theorem dX9_count_2 : decode cX9_count 2 = .ok (.putfield 1, 3) := by decide +kernel
theorem dX9_count_5 : decode cX9_count 5 = .ok (.iload_n 1, 1) := by decide +kernel
theorem dX9_count_6 : decode cX9_count 6 = .ok (.tableswitch 85 0 6 #[42, 47, 52, 57, 62, 67, 72], 42) := by decide +kernel
theorem dX9_count_48 : decode cX9_count 48 = .ok (.aload_n 0, 1) := by decide +kernel
theorem dX9_count_49 : decode cX9_count 49 = .ok (.getfield 95, 3) := by decide +kernel
theorem dX9_count_52 : decode cX9_count 52 = .ok (.ireturn, 1) := by decide +kernel
theorem dX9_count_53 : decode cX9_count 53 = .ok (.aload_n 0, 1) := by decide +kernel
theorem dX9_count_54 : decode cX9_count 54 = .ok (.getfield 98, 3) := by decide +kernel
theorem dX9_count_57 : decode cX9_count 57 = .ok (.ireturn, 1) := by decide +kernel
theorem dX9_count_58 : decode cX9_count 58 = .ok (.aload_n 0, 1) := by decide +kernel
theorem dX9_count_59 : decode cX9_count 59 = .ok (.getfield 101, 3) := by decide +kernel
theorem dX9_count_62 : decode cX9_count 62 = .ok (.ireturn, 1) := by decide +kernel
theorem dX9_count_63 : decode cX9_count 63 = .ok (.aload_n 0, 1) := by decide +kernel
theorem dX9_count_64 : decode cX9_count 64 = .ok (.getfield 104, 3) := by decide +kernel
theorem dX9_count_67 : decode cX9_count 67 = .ok (.ireturn, 1) := by decide +kernel
theorem dX9_count_68 : decode cX9_count 68 = .ok (.aload_n 0, 1) := by decide +kernel
theorem dX9_count_69 : decode cX9_count 69 = .ok (.getfield 107, 3) := by decide +kernel
theorem dX9_count_72 : decode cX9_count 72 = .ok (.ireturn, 1) := by decide +kernel
theorem dX9_count_73 : decode cX9_count 73 = .ok (.aload_n 0, 1) := by decide +kernel
theorem dX9_count_74 : decode cX9_count 74 = .ok (.getfield 110, 3) := by decide +kernel
theorem dX9_count_77 : decode cX9_count 77 = .ok (.ireturn, 1) := by decide +kernel
theorem dX9_count_78 : decode cX9_count 78 = .ok (.aload_n 0, 1) := by decide +kernel
theorem dX9_count_79 : decode cX9_count 79 = .ok (.getfield 89, 3) := by decide +kernel
theorem dX9_count_82 : decode cX9_count 82 = .ok (.ifCond .lt 7, 3) := by decide +kernel
theorem dX9_count_85 : decode cX9_count 85 = .ok (.iconst 1, 1) := by decide +kernel
theorem dX9_count_86 : decode cX9_count 86 = .ok (.goto 4, 3) := by decide +kernel
theorem dX9_count_89 : decode cX9_count 89 = .ok (.iconst 0, 1) := by decide +kernel
theorem dX9_count_90 : decode cX9_count 90 = .ok (.ireturn, 1) := by decide +kernel
theorem dX9_count_91 : decode cX9_count 91 = .ok (.iconst (-1), 1) := by decide +kernel
theorem dX9_count_92 : decode cX9_count 92 = .ok (.ireturn, 1) := by decide +kernel
theorem dX9_measures_0 : decode cX9_measures 0 = .ok (.iconst 0, 1) := by decide +kernel
theorem dX9_measures_1 : decode cX9_measures 1 = .ok (.istore_n 2, 1) := by decide +kernel
theorem dX9_measures_2 : decode cX9_measures 2 = .ok (.iload_n 2, 1) := by decide +kernel
theorem dX9_measures_3 : decode cX9_measures 3 = .ok (.aload_n 0, 1) := by decide +kernel
theorem dX9_measures_4 : decode cX9_measures 4 = .ok (.getfield 95, 3) := by decide +kernel
theorem dX9_measures_7 : decode cX9_measures 7 = .ok (.if_icmp .ge 26, 3) := by decide +kernel
theorem dX9_measures_10 : decode cX9_measures 10 = .ok (.aload_n 0, 1) := by decide +kernel
theorem dX9_measures_11 : decode cX9_measures 11 = .ok (.getfield 38, 3) := by decide +kernel
theorem dX9_measures_14 : decode cX9_measures 14 = .ok (.iload_n 2, 1) := by decide +kernel
theorem dX9_measures_15 : decode cX9_measures 15 = .ok (.iload_n 2, 1) := by decide +kernel
theorem dX9_measures_16 : decode cX9_measures 16 = .ok (.iload_n 1, 1) := by decide +kernel
theorem dX9_measures_17 : decode cX9_measures 17 = .ok (.if_icmp .ne 7, 3) := by decide +kernel
theorem dX9_measures_20 : decode cX9_measures 20 = .ok (.iconst 0, 1) := by decide +kernel
theorem dX9_measures_21 : decode cX9_measures 21 = .ok (.goto 5, 3) := by decide +kernel
theorem dX9_measures_24 : decode cX9_measures 24 = .ok (.ldc 147, 2) := by decide +kernel
theorem dX9_measures_26 : decode cX9_measures 26 = .ok (.iastore, 1) := by decide +kernel
theorem dX9_measures_27 : decode cX9_measures 27 = .ok (.iinc 2 1, 3) := by decide +kernel
theorem dX9_measures_30 : decode cX9_measures 30 = .ok (.goto (-28), 3) := by decide +kernel
theorem dX9_measures_33 : decode cX9_measures 33 = .ok (.iconst 0, 1) := by decide +kernel
theorem dX9_measures_34 : decode cX9_measures 34 = .ok (.istore_n 2, 1) := by decide +kernel
theorem dX9_measures_35 : decode cX9_measures 35 = .ok (.iload_n 2, 1) := by decide +kernel
theorem dX9_measures_36 : decode cX9_measures 36 = .ok (.aload_n 0, 1) := by decide +kernel
theorem dX9_measures_37 : decode cX9_measures 37 = .ok (.getfield 95, 3) := by decide +kernel
theorem dX9_measures_40 : decode cX9_measures 40 = .ok (.if_icmp .ge 57, 3) := by decide +kernel
theorem dX9_measures_43 : decode cX9_measures 43 = .ok (.iconst 0, 1) := by decide +kernel
theorem dX9_measures_44 : decode cX9_measures 44 = .ok (.istore_n 3, 1) := by decide +kernel
theorem dX9_measures_45 : decode cX9_measures 45 = .ok (.iload_n 3, 1) := by decide +kernel
theorem dX9_measures_46 : decode cX9_measures 46 = .ok (.aload_n 0, 1) := by decide +kernel
theorem dX9_measures_47 : decode cX9_measures 47 = .ok (.getfield 98, 3) := by decide +kernel
theorem dX9_measures_50 : decode cX9_measures 50 = .ok (.if_icmp .ge 41, 3) := by decide +kernel
theorem dX9_measures_53 : decode cX9_measures 53 = .ok (.aload_n 0, 1) := by decide +kernel
theorem dX9_measures_54 : decode cX9_measures 54 = .ok (.aload_n 0, 1) := by decide +kernel
theorem dX9_measures_55 : decode cX9_measures 55 = .ok (.getfield 17, 3) := by decide +kernel
theorem dX9_measures_58 : decode cX9_measures 58 = .ok (.iload_n 3, 1) := by decide +kernel
theorem dX9_measures_59 : decode cX9_measures 59 = .ok (.iaload, 1) := by decide +kernel
theorem dX9_measures_60 : decode cX9_measures 60 = .ok (.aload_n 0, 1) := by decide +kernel
theorem dX9_measures_61 : decode cX9_measures 61 = .ok (.getfield 20, 3) := by decide +kernel
theorem dX9_measures_64 : decode cX9_measures 64 = .ok (.iload_n 3, 1) := by decide +kernel
theorem dX9_measures_65 : decode cX9_measures 65 = .ok (.iaload, 1) := by decide +kernel
theorem dX9_measures_66 : decode cX9_measures 66 = .ok (.invokevirtual 148, 3) := by decide +kernel
theorem dX9_measures_69 : decode cX9_measures 69 = .ok (.aload_n 0, 1) := by decide +kernel
theorem dX9_measures_70 : decode cX9_measures 70 = .ok (.aload_n 0, 1) := by decide +kernel
theorem dX9_measures_71 : decode cX9_measures 71 = .ok (.getfield 20, 3) := by decide +kernel
theorem dX9_measures_74 : decode cX9_measures 74 = .ok (.iload_n 3, 1) := by decide +kernel
theorem dX9_measures_75 : decode cX9_measures 75 = .ok (.iaload, 1) := by decide +kernel
theorem dX9_measures_76 : decode cX9_measures 76 = .ok (.aload_n 0, 1) := by decide +kernel
theorem dX9_measures_77 : decode cX9_measures 77 = .ok (.getfield 17, 3) := by decide +kernel
theorem dX9_measures_80 : decode cX9_measures 80 = .ok (.iload_n 3, 1) := by decide +kernel
theorem dX9_measures_81 : decode cX9_measures 81 = .ok (.iaload, 1) := by decide +kernel
theorem dX9_measures_82 : decode cX9_measures 82 = .ok (.invokevirtual 148, 3) := by decide +kernel
theorem dX9_measures_85 : decode cX9_measures 85 = .ok (.iinc 3 1, 3) := by decide +kernel
theorem dX9_measures_88 : decode cX9_measures 88 = .ok (.goto (-43), 3) := by decide +kernel
theorem dX9_measures_91 : decode cX9_measures 91 = .ok (.iinc 2 1, 3) := by decide +kernel
theorem dX9_measures_94 : decode cX9_measures 94 = .ok (.goto (-59), 3) := by decide +kernel
theorem dX9_measures_97 : decode cX9_measures 97 = .ok (.return_, 1) := by decide +kernel
theorem dX9_eases_0 : decode cX9_eases 0 = .ok (.aload_n 0, 1) := by decide +kernel
theorem dX9_eases_1 : decode cX9_eases 1 = .ok (.getfield 13, 3) := by decide +kernel
theorem dX9_eases_4 : decode cX9_eases 4 = .ok (.iload_n 1, 1) := by decide +kernel
theorem dX9_eases_5 : decode cX9_eases 5 = .ok (.iaload, 1) := by decide +kernel
theorem dX9_eases_6 : decode cX9_eases 6 = .ok (.ifCond .eq 34, 3) := by decide +kernel
theorem dX9_eases_9 : decode cX9_eases 9 = .ok (.aload_n 0, 1) := by decide +kernel
theorem dX9_eases_10 : decode cX9_eases 10 = .ok (.getfield 38, 3) := by decide +kernel
theorem dX9_eases_13 : decode cX9_eases 13 = .ok (.iload_n 2, 1) := by decide +kernel
theorem dX9_eases_14 : decode cX9_eases 14 = .ok (.iaload, 1) := by decide +kernel
theorem dX9_eases_15 : decode cX9_eases 15 = .ok (.iconst 1, 1) := by decide +kernel
theorem dX9_eases_16 : decode cX9_eases 16 = .ok (.iadd, 1) := by decide +kernel
theorem dX9_eases_17 : decode cX9_eases 17 = .ok (.aload_n 0, 1) := by decide +kernel
theorem dX9_eases_18 : decode cX9_eases 18 = .ok (.getfield 38, 3) := by decide +kernel
theorem dX9_eases_21 : decode cX9_eases 21 = .ok (.iload_n 1, 1) := by decide +kernel
theorem dX9_eases_22 : decode cX9_eases 22 = .ok (.iaload, 1) := by decide +kernel
theorem dX9_eases_23 : decode cX9_eases 23 = .ok (.if_icmp .ge 17, 3) := by decide +kernel
theorem dX9_eases_26 : decode cX9_eases 26 = .ok (.aload_n 0, 1) := by decide +kernel
theorem dX9_eases_27 : decode cX9_eases 27 = .ok (.getfield 38, 3) := by decide +kernel
theorem dX9_eases_30 : decode cX9_eases 30 = .ok (.iload_n 1, 1) := by decide +kernel
theorem dX9_eases_31 : decode cX9_eases 31 = .ok (.aload_n 0, 1) := by decide +kernel
theorem dX9_eases_32 : decode cX9_eases 32 = .ok (.getfield 38, 3) := by decide +kernel
theorem dX9_eases_35 : decode cX9_eases 35 = .ok (.iload_n 2, 1) := by decide +kernel
theorem dX9_eases_36 : decode cX9_eases 36 = .ok (.iaload, 1) := by decide +kernel
theorem dX9_eases_37 : decode cX9_eases 37 = .ok (.iconst 1, 1) := by decide +kernel
theorem dX9_eases_38 : decode cX9_eases 38 = .ok (.iadd, 1) := by decide +kernel
theorem dX9_eases_39 : decode cX9_eases 39 = .ok (.iastore, 1) := by decide +kernel
theorem dX9_eases_40 : decode cX9_eases 40 = .ok (.return_, 1) := by decide +kernel
theorem dX9_nearest_0 : decode cX9_nearest 0 = .ok (.aload_n 0, 1) := by decide +kernel
theorem dX9_nearest_1 : decode cX9_nearest 1 = .ok (.iload_n 2, 1) := by decide +kernel
theorem dX9_nearest_2 : decode cX9_nearest 2 = .ok (.invokevirtual 152, 3) := by decide +kernel
theorem dX9_nearest_5 : decode cX9_nearest 5 = .ok (.iconst (-1), 1) := by decide +kernel
theorem dX9_nearest_6 : decode cX9_nearest 6 = .ok (.istore_n 3, 1) := by decide +kernel
theorem dX9_nearest_7 : decode cX9_nearest 7 = .ok (.iconst 0, 1) := by decide +kernel
theorem dX9_nearest_8 : decode cX9_nearest 8 = .ok (.istore 4, 2) := by decide +kernel
theorem dX9_nearest_10 : decode cX9_nearest 10 = .ok (.iload 4, 2) := by decide +kernel
theorem dX9_nearest_12 : decode cX9_nearest 12 = .ok (.aload_n 0, 1) := by decide +kernel
theorem dX9_nearest_13 : decode cX9_nearest 13 = .ok (.getfield 95, 3) := by decide +kernel
theorem dX9_nearest_16 : decode cX9_nearest 16 = .ok (.if_icmp .ge 54, 3) := by decide +kernel
theorem dX9_nearest_19 : decode cX9_nearest 19 = .ok (.aload_n 0, 1) := by decide +kernel
theorem dX9_nearest_20 : decode cX9_nearest 20 = .ok (.iload_n 1, 1) := by decide +kernel
theorem dX9_nearest_21 : decode cX9_nearest 21 = .ok (.iload 4, 2) := by decide +kernel
theorem dX9_nearest_23 : decode cX9_nearest 23 = .ok (.invokevirtual 128, 3) := by decide +kernel
theorem dX9_nearest_26 : decode cX9_nearest 26 = .ok (.ifCond .lt 38, 3) := by decide +kernel
theorem dX9_nearest_29 : decode cX9_nearest 29 = .ok (.aload_n 0, 1) := by decide +kernel
theorem dX9_nearest_30 : decode cX9_nearest 30 = .ok (.getfield 38, 3) := by decide +kernel
theorem dX9_nearest_33 : decode cX9_nearest 33 = .ok (.iload 4, 2) := by decide +kernel
theorem dX9_nearest_35 : decode cX9_nearest 35 = .ok (.iaload, 1) := by decide +kernel
theorem dX9_nearest_36 : decode cX9_nearest 36 = .ok (.ldc 147, 2) := by decide +kernel
theorem dX9_nearest_38 : decode cX9_nearest 38 = .ok (.if_icmp .ge 26, 3) := by decide +kernel
theorem dX9_nearest_41 : decode cX9_nearest 41 = .ok (.iload_n 3, 1) := by decide +kernel
theorem dX9_nearest_42 : decode cX9_nearest 42 = .ok (.ifCond .lt 19, 3) := by decide +kernel
theorem dX9_nearest_45 : decode cX9_nearest 45 = .ok (.aload_n 0, 1) := by decide +kernel
theorem dX9_nearest_46 : decode cX9_nearest 46 = .ok (.getfield 38, 3) := by decide +kernel
theorem dX9_nearest_49 : decode cX9_nearest 49 = .ok (.iload 4, 2) := by decide +kernel
theorem dX9_nearest_51 : decode cX9_nearest 51 = .ok (.iaload, 1) := by decide +kernel
theorem dX9_nearest_52 : decode cX9_nearest 52 = .ok (.aload_n 0, 1) := by decide +kernel
theorem dX9_nearest_53 : decode cX9_nearest 53 = .ok (.getfield 38, 3) := by decide +kernel
theorem dX9_nearest_56 : decode cX9_nearest 56 = .ok (.iload_n 3, 1) := by decide +kernel
theorem dX9_nearest_57 : decode cX9_nearest 57 = .ok (.iaload, 1) := by decide +kernel
theorem dX9_nearest_58 : decode cX9_nearest 58 = .ok (.if_icmp .ge 6, 3) := by decide +kernel
theorem dX9_nearest_61 : decode cX9_nearest 61 = .ok (.iload 4, 2) := by decide +kernel
theorem dX9_nearest_63 : decode cX9_nearest 63 = .ok (.istore_n 3, 1) := by decide +kernel
theorem dX9_nearest_64 : decode cX9_nearest 64 = .ok (.iinc 4 1, 3) := by decide +kernel
theorem dX9_nearest_67 : decode cX9_nearest 67 = .ok (.goto (-57), 3) := by decide +kernel
theorem dX9_nearest_70 : decode cX9_nearest 70 = .ok (.iload_n 3, 1) := by decide +kernel
theorem dX9_nearest_71 : decode cX9_nearest 71 = .ok (.ireturn, 1) := by decide +kernel
theorem dX9_next_0 : decode cX9_next 0 = .ok (.aload_n 0, 1) := by decide +kernel
theorem dX9_next_1 : decode cX9_next 1 = .ok (.iconst 0, 1) := by decide +kernel
theorem dX9_next_2 : decode cX9_next 2 = .ok (.putfield 1, 3) := by decide +kernel
theorem dX9_next_5 : decode cX9_next 5 = .ok (.aload_n 0, 1) := by decide +kernel
theorem dX9_next_6 : decode cX9_next 6 = .ok (.iload_n 1, 1) := by decide +kernel
theorem dX9_next_7 : decode cX9_next 7 = .ok (.invokevirtual 117, 3) := by decide +kernel
theorem dX9_next_10 : decode cX9_next 10 = .ok (.ifCond .eq 26, 3) := by decide +kernel
theorem dX9_next_13 : decode cX9_next 13 = .ok (.aload_n 0, 1) := by decide +kernel
theorem dX9_next_14 : decode cX9_next 14 = .ok (.iload_n 2, 1) := by decide +kernel
theorem dX9_next_15 : decode cX9_next 15 = .ok (.invokevirtual 117, 3) := by decide +kernel
theorem dX9_next_18 : decode cX9_next 18 = .ok (.ifCond .eq 18, 3) := by decide +kernel
theorem dX9_next_21 : decode cX9_next 21 = .ok (.iload_n 1, 1) := by decide +kernel
theorem dX9_next_22 : decode cX9_next 22 = .ok (.iload_n 2, 1) := by decide +kernel
theorem dX9_next_23 : decode cX9_next 23 = .ok (.if_icmp .eq 13, 3) := by decide +kernel
theorem dX9_next_26 : decode cX9_next 26 = .ok (.iload_n 3, 1) := by decide +kernel
theorem dX9_next_27 : decode cX9_next 27 = .ok (.i2l, 1) := by decide +kernel
theorem dX9_next_28 : decode cX9_next 28 = .ok (.lconst 0, 1) := by decide +kernel
theorem dX9_next_29 : decode cX9_next 29 = .ok (.lconst 1, 1) := by decide +kernel
theorem dX9_next_30 : decode cX9_next 30 = .ok (.invokestatic 113, 3) := by decide +kernel
theorem dX9_next_33 : decode cX9_next 33 = .ok (.ifCond .ne 5, 3) := by decide +kernel
theorem dX9_next_36 : decode cX9_next 36 = .ok (.iconst (-1), 1) := by decide +kernel
theorem dX9_next_37 : decode cX9_next 37 = .ok (.ireturn, 1) := by decide +kernel
theorem dX9_next_38 : decode cX9_next 38 = .ok (.aload_n 0, 1) := by decide +kernel
theorem dX9_next_39 : decode cX9_next 39 = .ok (.iconst 0, 1) := by decide +kernel
theorem dX9_next_40 : decode cX9_next 40 = .ok (.putfield 156, 3) := by decide +kernel
theorem dX9_next_43 : decode cX9_next 43 = .ok (.iload_n 3, 1) := by decide +kernel
theorem dX9_next_44 : decode cX9_next 44 = .ok (.ifCond .ne 12, 3) := by decide +kernel
theorem dX9_next_47 : decode cX9_next 47 = .ok (.aload_n 0, 1) := by decide +kernel
theorem dX9_next_48 : decode cX9_next 48 = .ok (.iload_n 1, 1) := by decide +kernel
theorem dX9_next_49 : decode cX9_next 49 = .ok (.iload_n 2, 1) := by decide +kernel
theorem dX9_next_50 : decode cX9_next 50 = .ok (.invokevirtual 159, 3) := by decide +kernel
theorem dX9_next_53 : decode cX9_next 53 = .ok (.goto 9, 3) := by decide +kernel
theorem dX9_next_56 : decode cX9_next 56 = .ok (.aload_n 0, 1) := by decide +kernel
theorem dX9_next_57 : decode cX9_next 57 = .ok (.iload_n 1, 1) := by decide +kernel
theorem dX9_next_58 : decode cX9_next 58 = .ok (.iload_n 2, 1) := by decide +kernel
theorem dX9_next_59 : decode cX9_next 59 = .ok (.invokevirtual 162, 3) := by decide +kernel
theorem dX9_next_62 : decode cX9_next 62 = .ok (.ireturn, 1) := by decide +kernel
theorem dX9_fault_0 : decode cX9_fault 0 = .ok (.aload_n 0, 1) := by decide +kernel
theorem dX9_fault_1 : decode cX9_fault 1 = .ok (.iconst 0, 1) := by decide +kernel
theorem dX9_fault_2 : decode cX9_fault 2 = .ok (.putfield 1, 3) := by decide +kernel
theorem dX9_fault_5 : decode cX9_fault 5 = .ok (.aload_n 0, 1) := by decide +kernel
theorem dX9_fault_6 : decode cX9_fault 6 = .ok (.getfield 101, 3) := by decide +kernel
theorem dX9_fault_9 : decode cX9_fault 9 = .ok (.bipush 12, 2) := by decide +kernel
theorem dX9_fault_11 : decode cX9_fault 11 = .ok (.if_icmp .ge 7, 3) := by decide +kernel
theorem dX9_fault_14 : decode cX9_fault 14 = .ok (.iconst 1, 1) := by decide +kernel
theorem dX9_fault_15 : decode cX9_fault 15 = .ok (.goto 4, 3) := by decide +kernel
theorem dX9_fault_18 : decode cX9_fault 18 = .ok (.iconst 0, 1) := by decide +kernel
theorem dX9_fault_19 : decode cX9_fault 19 = .ok (.istore 5, 2) := by decide +kernel
theorem dX9_fault_21 : decode cX9_fault 21 = .ok (.iload_n 1, 1) := by decide +kernel
theorem dX9_fault_22 : decode cX9_fault 22 = .ok (.tableswitch 237 0 5 #[38, 69, 92, 122, 161, 207], 38) := by decide +kernel
theorem dX9_fault_60 : decode cX9_fault 60 = .ok (.iload 5, 2) := by decide +kernel
theorem dX9_fault_62 : decode cX9_fault 62 = .ok (.ifCond .eq 23, 3) := by decide +kernel
theorem dX9_fault_65 : decode cX9_fault 65 = .ok (.iload_n 2, 1) := by decide +kernel
theorem dX9_fault_66 : decode cX9_fault 66 = .ok (.i2l, 1) := by decide +kernel
theorem dX9_fault_67 : decode cX9_fault 67 = .ok (.lconst 0, 1) := by decide +kernel
theorem dX9_fault_68 : decode cX9_fault 68 = .ok (.aload_n 0, 1) := by decide +kernel
theorem dX9_fault_69 : decode cX9_fault 69 = .ok (.getfield 98, 3) := by decide +kernel
theorem dX9_fault_72 : decode cX9_fault 72 = .ok (.iconst 1, 1) := by decide +kernel
theorem dX9_fault_73 : decode cX9_fault 73 = .ok (.isub, 1) := by decide +kernel
theorem dX9_fault_74 : decode cX9_fault 74 = .ok (.i2l, 1) := by decide +kernel
theorem dX9_fault_75 : decode cX9_fault 75 = .ok (.invokestatic 113, 3) := by decide +kernel
theorem dX9_fault_78 : decode cX9_fault 78 = .ok (.ifCond .eq 7, 3) := by decide +kernel
theorem dX9_fault_81 : decode cX9_fault 81 = .ok (.iconst 1, 1) := by decide +kernel
theorem dX9_fault_82 : decode cX9_fault 82 = .ok (.goto 4, 3) := by decide +kernel
theorem dX9_fault_85 : decode cX9_fault 85 = .ok (.iconst 0, 1) := by decide +kernel
theorem dX9_fault_86 : decode cX9_fault 86 = .ok (.istore 5, 2) := by decide +kernel
theorem dX9_fault_88 : decode cX9_fault 88 = .ok (.goto 174, 3) := by decide +kernel
theorem dX9_fault_91 : decode cX9_fault 91 = .ok (.iload 5, 2) := by decide +kernel
theorem dX9_fault_93 : decode cX9_fault 93 = .ok (.ifCond .eq 15, 3) := by decide +kernel
theorem dX9_fault_96 : decode cX9_fault 96 = .ok (.aload_n 0, 1) := by decide +kernel
theorem dX9_fault_97 : decode cX9_fault 97 = .ok (.iload_n 2, 1) := by decide +kernel
theorem dX9_fault_98 : decode cX9_fault 98 = .ok (.invokevirtual 135, 3) := by decide +kernel
theorem dX9_fault_101 : decode cX9_fault 101 = .ok (.ifCond .eq 7, 3) := by decide +kernel
theorem dX9_fault_104 : decode cX9_fault 104 = .ok (.iconst 1, 1) := by decide +kernel
theorem dX9_fault_105 : decode cX9_fault 105 = .ok (.goto 4, 3) := by decide +kernel
theorem dX9_fault_108 : decode cX9_fault 108 = .ok (.iconst 0, 1) := by decide +kernel
theorem dX9_fault_109 : decode cX9_fault 109 = .ok (.istore 5, 2) := by decide +kernel
theorem dX9_fault_111 : decode cX9_fault 111 = .ok (.goto 151, 3) := by decide +kernel
theorem dX9_fault_114 : decode cX9_fault 114 = .ok (.iload 5, 2) := by decide +kernel
theorem dX9_fault_116 : decode cX9_fault 116 = .ok (.ifCond .eq 22, 3) := by decide +kernel
theorem dX9_fault_119 : decode cX9_fault 119 = .ok (.iload_n 2, 1) := by decide +kernel
theorem dX9_fault_120 : decode cX9_fault 120 = .ok (.invokestatic 144, 3) := by decide +kernel
theorem dX9_fault_123 : decode cX9_fault 123 = .ok (.ifCond .eq 15, 3) := by decide +kernel
theorem dX9_fault_126 : decode cX9_fault 126 = .ok (.aload_n 0, 1) := by decide +kernel
theorem dX9_fault_127 : decode cX9_fault 127 = .ok (.iload_n 3, 1) := by decide +kernel
theorem dX9_fault_128 : decode cX9_fault 128 = .ok (.invokevirtual 135, 3) := by decide +kernel
theorem dX9_fault_131 : decode cX9_fault 131 = .ok (.ifCond .eq 7, 3) := by decide +kernel
theorem dX9_fault_134 : decode cX9_fault 134 = .ok (.iconst 1, 1) := by decide +kernel
theorem dX9_fault_135 : decode cX9_fault 135 = .ok (.goto 4, 3) := by decide +kernel
theorem dX9_fault_138 : decode cX9_fault 138 = .ok (.iconst 0, 1) := by decide +kernel
theorem dX9_fault_139 : decode cX9_fault 139 = .ok (.istore 5, 2) := by decide +kernel
theorem dX9_fault_141 : decode cX9_fault 141 = .ok (.goto 121, 3) := by decide +kernel
theorem dX9_fault_144 : decode cX9_fault 144 = .ok (.iload 5, 2) := by decide +kernel
theorem dX9_fault_146 : decode cX9_fault 146 = .ok (.ifCond .eq 31, 3) := by decide +kernel
theorem dX9_fault_149 : decode cX9_fault 149 = .ok (.aload_n 0, 1) := by decide +kernel
theorem dX9_fault_150 : decode cX9_fault 150 = .ok (.iload_n 2, 1) := by decide +kernel
theorem dX9_fault_151 : decode cX9_fault 151 = .ok (.invokevirtual 138, 3) := by decide +kernel
theorem dX9_fault_154 : decode cX9_fault 154 = .ok (.ifCond .eq 23, 3) := by decide +kernel
theorem dX9_fault_157 : decode cX9_fault 157 = .ok (.aload_n 0, 1) := by decide +kernel
theorem dX9_fault_158 : decode cX9_fault 158 = .ok (.iload_n 3, 1) := by decide +kernel
theorem dX9_fault_159 : decode cX9_fault 159 = .ok (.invokevirtual 135, 3) := by decide +kernel
theorem dX9_fault_162 : decode cX9_fault 162 = .ok (.ifCond .eq 15, 3) := by decide +kernel
theorem dX9_fault_165 : decode cX9_fault 165 = .ok (.iload 4, 2) := by decide +kernel
theorem dX9_fault_167 : decode cX9_fault 167 = .ok (.invokestatic 141, 3) := by decide +kernel
theorem dX9_fault_170 : decode cX9_fault 170 = .ok (.ifCond .eq 7, 3) := by decide +kernel
theorem dX9_fault_173 : decode cX9_fault 173 = .ok (.iconst 1, 1) := by decide +kernel
theorem dX9_fault_174 : decode cX9_fault 174 = .ok (.goto 4, 3) := by decide +kernel
theorem dX9_fault_177 : decode cX9_fault 177 = .ok (.iconst 0, 1) := by decide +kernel
theorem dX9_fault_178 : decode cX9_fault 178 = .ok (.istore 5, 2) := by decide +kernel
theorem dX9_fault_180 : decode cX9_fault 180 = .ok (.goto 82, 3) := by decide +kernel
theorem dX9_fault_183 : decode cX9_fault 183 = .ok (.iload 5, 2) := by decide +kernel
theorem dX9_fault_185 : decode cX9_fault 185 = .ok (.ifCond .eq 38, 3) := by decide +kernel
theorem dX9_fault_188 : decode cX9_fault 188 = .ok (.aload_n 0, 1) := by decide +kernel
theorem dX9_fault_189 : decode cX9_fault 189 = .ok (.iload_n 2, 1) := by decide +kernel
theorem dX9_fault_190 : decode cX9_fault 190 = .ok (.invokevirtual 132, 3) := by decide +kernel
theorem dX9_fault_193 : decode cX9_fault 193 = .ok (.ifCond .eq 30, 3) := by decide +kernel
theorem dX9_fault_196 : decode cX9_fault 196 = .ok (.aload_n 0, 1) := by decide +kernel
theorem dX9_fault_197 : decode cX9_fault 197 = .ok (.iload_n 3, 1) := by decide +kernel
theorem dX9_fault_198 : decode cX9_fault 198 = .ok (.invokevirtual 135, 3) := by decide +kernel
theorem dX9_fault_201 : decode cX9_fault 201 = .ok (.ifCond .eq 22, 3) := by decide +kernel
theorem dX9_fault_204 : decode cX9_fault 204 = .ok (.aload_n 0, 1) := by decide +kernel
theorem dX9_fault_205 : decode cX9_fault 205 = .ok (.iload 4, 2) := by decide +kernel
theorem dX9_fault_207 : decode cX9_fault 207 = .ok (.invokevirtual 117, 3) := by decide +kernel
theorem dX9_fault_210 : decode cX9_fault 210 = .ok (.ifCond .eq 13, 3) := by decide +kernel
theorem dX9_fault_213 : decode cX9_fault 213 = .ok (.iload_n 2, 1) := by decide +kernel
theorem dX9_fault_214 : decode cX9_fault 214 = .ok (.iload 4, 2) := by decide +kernel
theorem dX9_fault_216 : decode cX9_fault 216 = .ok (.if_icmp .eq 7, 3) := by decide +kernel
theorem dX9_fault_219 : decode cX9_fault 219 = .ok (.iconst 1, 1) := by decide +kernel
theorem dX9_fault_220 : decode cX9_fault 220 = .ok (.goto 4, 3) := by decide +kernel
theorem dX9_fault_223 : decode cX9_fault 223 = .ok (.iconst 0, 1) := by decide +kernel
theorem dX9_fault_224 : decode cX9_fault 224 = .ok (.istore 5, 2) := by decide +kernel
theorem dX9_fault_226 : decode cX9_fault 226 = .ok (.goto 36, 3) := by decide +kernel
theorem dX9_fault_229 : decode cX9_fault 229 = .ok (.iload 5, 2) := by decide +kernel
theorem dX9_fault_231 : decode cX9_fault 231 = .ok (.ifCond .eq 22, 3) := by decide +kernel
theorem dX9_fault_234 : decode cX9_fault 234 = .ok (.aload_n 0, 1) := by decide +kernel
theorem dX9_fault_235 : decode cX9_fault 235 = .ok (.iload_n 2, 1) := by decide +kernel
theorem dX9_fault_236 : decode cX9_fault 236 = .ok (.invokevirtual 135, 3) := by decide +kernel
theorem dX9_fault_239 : decode cX9_fault 239 = .ok (.ifCond .eq 14, 3) := by decide +kernel
theorem dX9_fault_242 : decode cX9_fault 242 = .ok (.iload_n 3, 1) := by decide +kernel
theorem dX9_fault_243 : decode cX9_fault 243 = .ok (.invokestatic 141, 3) := by decide +kernel
theorem dX9_fault_246 : decode cX9_fault 246 = .ok (.ifCond .eq 7, 3) := by decide +kernel
theorem dX9_fault_249 : decode cX9_fault 249 = .ok (.iconst 1, 1) := by decide +kernel
theorem dX9_fault_250 : decode cX9_fault 250 = .ok (.goto 4, 3) := by decide +kernel
theorem dX9_fault_253 : decode cX9_fault 253 = .ok (.iconst 0, 1) := by decide +kernel
theorem dX9_fault_254 : decode cX9_fault 254 = .ok (.istore 5, 2) := by decide +kernel
theorem dX9_fault_256 : decode cX9_fault 256 = .ok (.goto 6, 3) := by decide +kernel
theorem dX9_fault_259 : decode cX9_fault 259 = .ok (.iconst 0, 1) := by decide +kernel
theorem dX9_fault_260 : decode cX9_fault 260 = .ok (.istore 5, 2) := by decide +kernel
theorem dX9_fault_262 : decode cX9_fault 262 = .ok (.iload 5, 2) := by decide +kernel
theorem dX9_fault_264 : decode cX9_fault 264 = .ok (.ifCond .ne 5, 3) := by decide +kernel
theorem dX9_fault_267 : decode cX9_fault 267 = .ok (.iconst (-1), 1) := by decide +kernel
theorem dX9_fault_268 : decode cX9_fault 268 = .ok (.ireturn, 1) := by decide +kernel
theorem dX9_fault_269 : decode cX9_fault 269 = .ok (.aload_n 0, 1) := by decide +kernel
theorem dX9_fault_270 : decode cX9_fault 270 = .ok (.invokevirtual 125, 3) := by decide +kernel
theorem dX9_fault_273 : decode cX9_fault 273 = .ok (.aload_n 0, 1) := by decide +kernel
theorem dX9_fault_274 : decode cX9_fault 274 = .ok (.getfield 41, 3) := by decide +kernel
theorem dX9_fault_277 : decode cX9_fault 277 = .ok (.aload_n 0, 1) := by decide +kernel
theorem dX9_fault_278 : decode cX9_fault 278 = .ok (.getfield 101, 3) := by decide +kernel
theorem dX9_fault_281 : decode cX9_fault 281 = .ok (.iload_n 1, 1) := by decide +kernel
theorem dX9_fault_282 : decode cX9_fault 282 = .ok (.iastore, 1) := by decide +kernel
theorem dX9_fault_283 : decode cX9_fault 283 = .ok (.aload_n 0, 1) := by decide +kernel
theorem dX9_fault_284 : decode cX9_fault 284 = .ok (.getfield 44, 3) := by decide +kernel
theorem dX9_fault_287 : decode cX9_fault 287 = .ok (.aload_n 0, 1) := by decide +kernel
theorem dX9_fault_288 : decode cX9_fault 288 = .ok (.getfield 101, 3) := by decide +kernel
theorem dX9_fault_291 : decode cX9_fault 291 = .ok (.iload_n 2, 1) := by decide +kernel
theorem dX9_fault_292 : decode cX9_fault 292 = .ok (.iastore, 1) := by decide +kernel
theorem dX9_fault_293 : decode cX9_fault 293 = .ok (.aload_n 0, 1) := by decide +kernel
theorem dX9_fault_294 : decode cX9_fault 294 = .ok (.getfield 47, 3) := by decide +kernel
theorem dX9_fault_297 : decode cX9_fault 297 = .ok (.aload_n 0, 1) := by decide +kernel
theorem dX9_fault_298 : decode cX9_fault 298 = .ok (.getfield 101, 3) := by decide +kernel
theorem dX9_fault_301 : decode cX9_fault 301 = .ok (.iload_n 3, 1) := by decide +kernel
theorem dX9_fault_302 : decode cX9_fault 302 = .ok (.iastore, 1) := by decide +kernel
theorem dX9_fault_303 : decode cX9_fault 303 = .ok (.aload_n 0, 1) := by decide +kernel
theorem dX9_fault_304 : decode cX9_fault 304 = .ok (.getfield 50, 3) := by decide +kernel
theorem dX9_fault_307 : decode cX9_fault 307 = .ok (.aload_n 0, 1) := by decide +kernel
theorem dX9_fault_308 : decode cX9_fault 308 = .ok (.getfield 101, 3) := by decide +kernel
theorem dX9_fault_311 : decode cX9_fault 311 = .ok (.iload 4, 2) := by decide +kernel
theorem dX9_fault_313 : decode cX9_fault 313 = .ok (.iastore, 1) := by decide +kernel
theorem dX9_fault_314 : decode cX9_fault 314 = .ok (.aload_n 0, 1) := by decide +kernel
theorem dX9_fault_315 : decode cX9_fault 315 = .ok (.dup, 1) := by decide +kernel
theorem dX9_fault_316 : decode cX9_fault 316 = .ok (.getfield 101, 3) := by decide +kernel
theorem dX9_fault_319 : decode cX9_fault 319 = .ok (.iconst 1, 1) := by decide +kernel
theorem dX9_fault_320 : decode cX9_fault 320 = .ok (.iadd, 1) := by decide +kernel
theorem dX9_fault_321 : decode cX9_fault 321 = .ok (.putfield 101, 3) := by decide +kernel
theorem dX9_fault_324 : decode cX9_fault 324 = .ok (.aload_n 0, 1) := by decide +kernel
theorem dX9_fault_325 : decode cX9_fault 325 = .ok (.getfield 101, 3) := by decide +kernel
theorem dX9_fault_328 : decode cX9_fault 328 = .ok (.iconst 1, 1) := by decide +kernel
theorem dX9_fault_329 : decode cX9_fault 329 = .ok (.isub, 1) := by decide +kernel
theorem dX9_fault_330 : decode cX9_fault 330 = .ok (.ireturn, 1) := by decide +kernel
theorem dX9_isFault_0 : decode cX9_isFault 0 = .ok (.iload_n 1, 1) := by decide +kernel
theorem dX9_isFault_1 : decode cX9_isFault 1 = .ok (.i2l, 1) := by decide +kernel
theorem dX9_isFault_2 : decode cX9_isFault 2 = .ok (.lconst 0, 1) := by decide +kernel
theorem dX9_isFault_3 : decode cX9_isFault 3 = .ok (.aload_n 0, 1) := by decide +kernel
theorem dX9_isFault_4 : decode cX9_isFault 4 = .ok (.getfield 101, 3) := by decide +kernel
theorem dX9_isFault_7 : decode cX9_isFault 7 = .ok (.iconst 1, 1) := by decide +kernel
theorem dX9_isFault_8 : decode cX9_isFault 8 = .ok (.isub, 1) := by decide +kernel
theorem dX9_isFault_9 : decode cX9_isFault 9 = .ok (.i2l, 1) := by decide +kernel
theorem dX9_isFault_10 : decode cX9_isFault 10 = .ok (.invokestatic 113, 3) := by decide +kernel
theorem dX9_isFault_13 : decode cX9_isFault 13 = .ok (.ireturn, 1) := by decide +kernel
theorem dX9_isCause_0 : decode cX9_isCause 0 = .ok (.iload_n 1, 1) := by decide +kernel
theorem dX9_isCause_1 : decode cX9_isCause 1 = .ok (.i2l, 1) := by decide +kernel
theorem dX9_isCause_2 : decode cX9_isCause 2 = .ok (.lconst 0, 1) := by decide +kernel
theorem dX9_isCause_3 : decode cX9_isCause 3 = .ok (.aload_n 0, 1) := by decide +kernel
theorem dX9_isCause_4 : decode cX9_isCause 4 = .ok (.getfield 104, 3) := by decide +kernel
theorem dX9_isCause_7 : decode cX9_isCause 7 = .ok (.iconst 1, 1) := by decide +kernel
theorem dX9_isCause_8 : decode cX9_isCause 8 = .ok (.isub, 1) := by decide +kernel
theorem dX9_isCause_9 : decode cX9_isCause 9 = .ok (.i2l, 1) := by decide +kernel
theorem dX9_isCause_10 : decode cX9_isCause 10 = .ok (.invokestatic 113, 3) := by decide +kernel
theorem dX9_isCause_13 : decode cX9_isCause 13 = .ok (.ireturn, 1) := by decide +kernel
theorem dX9_cause_0 : decode cX9_cause 0 = .ok (.aload_n 0, 1) := by decide +kernel
theorem dX9_cause_1 : decode cX9_cause 1 = .ok (.iconst 0, 1) := by decide +kernel
theorem dX9_cause_2 : decode cX9_cause 2 = .ok (.putfield 1, 3) := by decide +kernel
theorem dX9_cause_5 : decode cX9_cause 5 = .ok (.aload_n 0, 1) := by decide +kernel
theorem dX9_cause_6 : decode cX9_cause 6 = .ok (.iload_n 1, 1) := by decide +kernel
theorem dX9_cause_7 : decode cX9_cause 7 = .ok (.invokevirtual 165, 3) := by decide +kernel
theorem dX9_cause_10 : decode cX9_cause 10 = .ok (.ifCond .eq 30, 3) := by decide +kernel
theorem dX9_cause_13 : decode cX9_cause 13 = .ok (.iload_n 2, 1) := by decide +kernel
theorem dX9_cause_14 : decode cX9_cause 14 = .ok (.iconst (-1), 1) := by decide +kernel
theorem dX9_cause_15 : decode cX9_cause 15 = .ok (.if_icmp .eq 11, 3) := by decide +kernel
theorem dX9_cause_18 : decode cX9_cause 18 = .ok (.aload_n 0, 1) := by decide +kernel
theorem dX9_cause_19 : decode cX9_cause 19 = .ok (.iload_n 2, 1) := by decide +kernel
theorem dX9_cause_20 : decode cX9_cause 20 = .ok (.invokevirtual 165, 3) := by decide +kernel
theorem dX9_cause_23 : decode cX9_cause 23 = .ok (.ifCond .eq 17, 3) := by decide +kernel
theorem dX9_cause_26 : decode cX9_cause 26 = .ok (.iload_n 1, 1) := by decide +kernel
theorem dX9_cause_27 : decode cX9_cause 27 = .ok (.iload_n 2, 1) := by decide +kernel
theorem dX9_cause_28 : decode cX9_cause 28 = .ok (.if_icmp .eq 12, 3) := by decide +kernel
theorem dX9_cause_31 : decode cX9_cause 31 = .ok (.aload_n 0, 1) := by decide +kernel
theorem dX9_cause_32 : decode cX9_cause 32 = .ok (.getfield 104, 3) := by decide +kernel
theorem dX9_cause_35 : decode cX9_cause 35 = .ok (.bipush 12, 2) := by decide +kernel
theorem dX9_cause_37 : decode cX9_cause 37 = .ok (.if_icmp .ne 5, 3) := by decide +kernel
theorem dX9_cause_40 : decode cX9_cause 40 = .ok (.iconst (-1), 1) := by decide +kernel
theorem dX9_cause_41 : decode cX9_cause 41 = .ok (.ireturn, 1) := by decide +kernel
theorem dX9_cause_42 : decode cX9_cause 42 = .ok (.aload_n 0, 1) := by decide +kernel
theorem dX9_cause_43 : decode cX9_cause 43 = .ok (.invokevirtual 125, 3) := by decide +kernel
theorem dX9_cause_46 : decode cX9_cause 46 = .ok (.aload_n 0, 1) := by decide +kernel
theorem dX9_cause_47 : decode cX9_cause 47 = .ok (.getfield 53, 3) := by decide +kernel
theorem dX9_cause_50 : decode cX9_cause 50 = .ok (.aload_n 0, 1) := by decide +kernel
theorem dX9_cause_51 : decode cX9_cause 51 = .ok (.getfield 104, 3) := by decide +kernel
theorem dX9_cause_54 : decode cX9_cause 54 = .ok (.iload_n 1, 1) := by decide +kernel
theorem dX9_cause_55 : decode cX9_cause 55 = .ok (.iastore, 1) := by decide +kernel
theorem dX9_cause_56 : decode cX9_cause 56 = .ok (.aload_n 0, 1) := by decide +kernel
theorem dX9_cause_57 : decode cX9_cause 57 = .ok (.getfield 56, 3) := by decide +kernel
theorem dX9_cause_60 : decode cX9_cause 60 = .ok (.aload_n 0, 1) := by decide +kernel
theorem dX9_cause_61 : decode cX9_cause 61 = .ok (.getfield 104, 3) := by decide +kernel
theorem dX9_cause_64 : decode cX9_cause 64 = .ok (.iload_n 2, 1) := by decide +kernel
theorem dX9_cause_65 : decode cX9_cause 65 = .ok (.iastore, 1) := by decide +kernel
theorem dX9_cause_66 : decode cX9_cause 66 = .ok (.aload_n 0, 1) := by decide +kernel
theorem dX9_cause_67 : decode cX9_cause 67 = .ok (.dup, 1) := by decide +kernel
theorem dX9_cause_68 : decode cX9_cause 68 = .ok (.getfield 104, 3) := by decide +kernel
theorem dX9_cause_71 : decode cX9_cause 71 = .ok (.iconst 1, 1) := by decide +kernel
theorem dX9_cause_72 : decode cX9_cause 72 = .ok (.iadd, 1) := by decide +kernel
theorem dX9_cause_73 : decode cX9_cause 73 = .ok (.putfield 104, 3) := by decide +kernel
theorem dX9_cause_76 : decode cX9_cause 76 = .ok (.aload_n 0, 1) := by decide +kernel
theorem dX9_cause_77 : decode cX9_cause 77 = .ok (.getfield 104, 3) := by decide +kernel
theorem dX9_cause_80 : decode cX9_cause 80 = .ok (.iconst 1, 1) := by decide +kernel
theorem dX9_cause_81 : decode cX9_cause 81 = .ok (.isub, 1) := by decide +kernel
theorem dX9_cause_82 : decode cX9_cause 82 = .ok (.ireturn, 1) := by decide +kernel
theorem dX9_breaks_0 : decode cX9_breaks 0 = .ok (.aload_n 0, 1) := by decide +kernel
theorem dX9_breaks_1 : decode cX9_breaks 1 = .ok (.iconst 0, 1) := by decide +kernel
theorem dX9_breaks_2 : decode cX9_breaks 2 = .ok (.putfield 156, 3) := by decide +kernel
theorem dX9_breaks_5 : decode cX9_breaks 5 = .ok (.iconst 0, 1) := by decide +kernel
theorem dX9_breaks_6 : decode cX9_breaks 6 = .ok (.istore_n 3, 1) := by decide +kernel
theorem dX9_breaks_7 : decode cX9_breaks 7 = .ok (.iload_n 3, 1) := by decide +kernel
theorem dX9_breaks_8 : decode cX9_breaks 8 = .ok (.iconst 2, 1) := by decide +kernel
theorem dX9_breaks_9 : decode cX9_breaks 9 = .ok (.if_icmp .ge 69, 3) := by decide +kernel
theorem dX9_breaks_12 : decode cX9_breaks 12 = .ok (.iload_n 1, 1) := by decide +kernel
theorem dX9_breaks_13 : decode cX9_breaks 13 = .ok (.ifCond .lt 65, 3) := by decide +kernel
theorem dX9_breaks_16 : decode cX9_breaks 16 = .ok (.iload_n 3, 1) := by decide +kernel
theorem dX9_breaks_17 : decode cX9_breaks 17 = .ok (.ifCond .ne 12, 3) := by decide +kernel
theorem dX9_breaks_20 : decode cX9_breaks 20 = .ok (.aload_n 0, 1) := by decide +kernel
theorem dX9_breaks_21 : decode cX9_breaks 21 = .ok (.getfield 53, 3) := by decide +kernel
theorem dX9_breaks_24 : decode cX9_breaks 24 = .ok (.iload_n 1, 1) := by decide +kernel
theorem dX9_breaks_25 : decode cX9_breaks 25 = .ok (.iaload, 1) := by decide +kernel
theorem dX9_breaks_26 : decode cX9_breaks 26 = .ok (.goto 9, 3) := by decide +kernel
theorem dX9_breaks_29 : decode cX9_breaks 29 = .ok (.aload_n 0, 1) := by decide +kernel
theorem dX9_breaks_30 : decode cX9_breaks 30 = .ok (.getfield 56, 3) := by decide +kernel
theorem dX9_breaks_33 : decode cX9_breaks 33 = .ok (.iload_n 1, 1) := by decide +kernel
theorem dX9_breaks_34 : decode cX9_breaks 34 = .ok (.iaload, 1) := by decide +kernel
theorem dX9_breaks_35 : decode cX9_breaks 35 = .ok (.istore 4, 2) := by decide +kernel
theorem dX9_breaks_37 : decode cX9_breaks 37 = .ok (.iload 4, 2) := by decide +kernel
theorem dX9_breaks_39 : decode cX9_breaks 39 = .ok (.ifCond .lt 33, 3) := by decide +kernel
theorem dX9_breaks_42 : decode cX9_breaks 42 = .ok (.iload_n 2, 1) := by decide +kernel
theorem dX9_breaks_43 : decode cX9_breaks 43 = .ok (.iload 4, 2) := by decide +kernel
theorem dX9_breaks_45 : decode cX9_breaks 45 = .ok (.ishr, 1) := by decide +kernel
theorem dX9_breaks_46 : decode cX9_breaks 46 = .ok (.iconst 1, 1) := by decide +kernel
theorem dX9_breaks_47 : decode cX9_breaks 47 = .ok (.iand, 1) := by decide +kernel
theorem dX9_breaks_48 : decode cX9_breaks 48 = .ok (.ifCond .ne 24, 3) := by decide +kernel
theorem dX9_breaks_51 : decode cX9_breaks 51 = .ok (.aload_n 0, 1) := by decide +kernel
theorem dX9_breaks_52 : decode cX9_breaks 52 = .ok (.getfield 59, 3) := by decide +kernel
theorem dX9_breaks_55 : decode cX9_breaks 55 = .ok (.aload_n 0, 1) := by decide +kernel
theorem dX9_breaks_56 : decode cX9_breaks 56 = .ok (.getfield 156, 3) := by decide +kernel
theorem dX9_breaks_59 : decode cX9_breaks 59 = .ok (.iload 4, 2) := by decide +kernel
theorem dX9_breaks_61 : decode cX9_breaks 61 = .ok (.iastore, 1) := by decide +kernel
theorem dX9_breaks_62 : decode cX9_breaks 62 = .ok (.aload_n 0, 1) := by decide +kernel
theorem dX9_breaks_63 : decode cX9_breaks 63 = .ok (.dup, 1) := by decide +kernel
theorem dX9_breaks_64 : decode cX9_breaks 64 = .ok (.getfield 156, 3) := by decide +kernel
theorem dX9_breaks_67 : decode cX9_breaks 67 = .ok (.iconst 1, 1) := by decide +kernel
theorem dX9_breaks_68 : decode cX9_breaks 68 = .ok (.iadd, 1) := by decide +kernel
theorem dX9_breaks_69 : decode cX9_breaks 69 = .ok (.putfield 156, 3) := by decide +kernel
theorem dX9_breaks_72 : decode cX9_breaks 72 = .ok (.iinc 3 1, 3) := by decide +kernel
theorem dX9_breaks_75 : decode cX9_breaks 75 = .ok (.goto (-68), 3) := by decide +kernel
theorem dX9_breaks_78 : decode cX9_breaks 78 = .ok (.return_, 1) := by decide +kernel
theorem dX9_held_0 : decode cX9_held 0 = .ok (.iconst (-1), 1) := by decide +kernel
theorem dX9_held_1 : decode cX9_held 1 = .ok (.istore 5, 2) := by decide +kernel
theorem dX9_held_3 : decode cX9_held 3 = .ok (.iconst 0, 1) := by decide +kernel
theorem dX9_held_4 : decode cX9_held 4 = .ok (.istore 6, 2) := by decide +kernel
theorem dX9_held_6 : decode cX9_held 6 = .ok (.iload 6, 2) := by decide +kernel
theorem dX9_held_8 : decode cX9_held 8 = .ok (.aload_n 0, 1) := by decide +kernel
theorem dX9_held_9 : decode cX9_held 9 = .ok (.getfield 156, 3) := by decide +kernel
theorem dX9_held_12 : decode cX9_held 12 = .ok (.if_icmp .ge 65, 3) := by decide +kernel
theorem dX9_held_15 : decode cX9_held 15 = .ok (.aload_n 0, 1) := by decide +kernel
theorem dX9_held_16 : decode cX9_held 16 = .ok (.getfield 59, 3) := by decide +kernel
theorem dX9_held_19 : decode cX9_held 19 = .ok (.iload 6, 2) := by decide +kernel
theorem dX9_held_21 : decode cX9_held 21 = .ok (.iaload, 1) := by decide +kernel
theorem dX9_held_22 : decode cX9_held 22 = .ok (.istore 7, 2) := by decide +kernel
theorem dX9_held_24 : decode cX9_held 24 = .ok (.aload_n 0, 1) := by decide +kernel
theorem dX9_held_25 : decode cX9_held 25 = .ok (.getfield 41, 3) := by decide +kernel
theorem dX9_held_28 : decode cX9_held 28 = .ok (.iload 7, 2) := by decide +kernel
theorem dX9_held_30 : decode cX9_held 30 = .ok (.iaload, 1) := by decide +kernel
theorem dX9_held_31 : decode cX9_held 31 = .ok (.iload_n 1, 1) := by decide +kernel
theorem dX9_held_32 : decode cX9_held 32 = .ok (.if_icmp .ne 35, 3) := by decide +kernel
theorem dX9_held_35 : decode cX9_held 35 = .ok (.aload_n 0, 1) := by decide +kernel
theorem dX9_held_36 : decode cX9_held 36 = .ok (.getfield 44, 3) := by decide +kernel
theorem dX9_held_39 : decode cX9_held 39 = .ok (.iload 7, 2) := by decide +kernel
theorem dX9_held_41 : decode cX9_held 41 = .ok (.iaload, 1) := by decide +kernel
theorem dX9_held_42 : decode cX9_held 42 = .ok (.iload_n 2, 1) := by decide +kernel
theorem dX9_held_43 : decode cX9_held 43 = .ok (.if_icmp .ne 24, 3) := by decide +kernel
theorem dX9_held_46 : decode cX9_held 46 = .ok (.iload 4, 2) := by decide +kernel
theorem dX9_held_48 : decode cX9_held 48 = .ok (.ifCond .eq 14, 3) := by decide +kernel
theorem dX9_held_51 : decode cX9_held 51 = .ok (.aload_n 0, 1) := by decide +kernel
theorem dX9_held_52 : decode cX9_held 52 = .ok (.getfield 47, 3) := by decide +kernel
theorem dX9_held_55 : decode cX9_held 55 = .ok (.iload 7, 2) := by decide +kernel
theorem dX9_held_57 : decode cX9_held 57 = .ok (.iaload, 1) := by decide +kernel
theorem dX9_held_58 : decode cX9_held 58 = .ok (.iload_n 3, 1) := by decide +kernel
theorem dX9_held_59 : decode cX9_held 59 = .ok (.if_icmp .ne 8, 3) := by decide +kernel
theorem dX9_held_62 : decode cX9_held 62 = .ok (.iload 7, 2) := by decide +kernel
theorem dX9_held_64 : decode cX9_held 64 = .ok (.goto 5, 3) := by decide +kernel
theorem dX9_held_67 : decode cX9_held 67 = .ok (.iload 5, 2) := by decide +kernel
theorem dX9_held_69 : decode cX9_held 69 = .ok (.istore 5, 2) := by decide +kernel
theorem dX9_held_71 : decode cX9_held 71 = .ok (.iinc 6 1, 3) := by decide +kernel
theorem dX9_held_74 : decode cX9_held 74 = .ok (.goto (-68), 3) := by decide +kernel
theorem dX9_held_77 : decode cX9_held 77 = .ok (.iload 5, 2) := by decide +kernel
theorem dX9_held_79 : decode cX9_held 79 = .ok (.ireturn, 1) := by decide +kernel
theorem dX9_nextOf_0 : decode cX9_nextOf 0 = .ok (.aload_n 0, 1) := by decide +kernel
theorem dX9_nextOf_1 : decode cX9_nextOf 1 = .ok (.getfield 13, 3) := by decide +kernel
theorem dX9_nextOf_4 : decode cX9_nextOf 4 = .ok (.iload_n 1, 1) := by decide +kernel
theorem dX9_nextOf_5 : decode cX9_nextOf 5 = .ok (.iaload, 1) := by decide +kernel
theorem dX9_nextOf_6 : decode cX9_nextOf 6 = .ok (.iconst 1, 1) := by decide +kernel
theorem dX9_nextOf_7 : decode cX9_nextOf 7 = .ok (.if_icmp .le 55, 3) := by decide +kernel
theorem dX9_nextOf_10 : decode cX9_nextOf 10 = .ok (.aload_n 0, 1) := by decide +kernel
theorem dX9_nextOf_11 : decode cX9_nextOf 11 = .ok (.getfield 13, 3) := by decide +kernel
theorem dX9_nextOf_14 : decode cX9_nextOf 14 = .ok (.iload_n 2, 1) := by decide +kernel
theorem dX9_nextOf_15 : decode cX9_nextOf 15 = .ok (.iaload, 1) := by decide +kernel
theorem dX9_nextOf_16 : decode cX9_nextOf 16 = .ok (.ifCond .ne 46, 3) := by decide +kernel
theorem dX9_nextOf_19 : decode cX9_nextOf 19 = .ok (.aload_n 0, 1) := by decide +kernel
theorem dX9_nextOf_20 : decode cX9_nextOf 20 = .ok (.iconst 4, 1) := by decide +kernel
theorem dX9_nextOf_21 : decode cX9_nextOf 21 = .ok (.iload_n 1, 1) := by decide +kernel
theorem dX9_nextOf_22 : decode cX9_nextOf 22 = .ok (.iload_n 2, 1) := by decide +kernel
theorem dX9_nextOf_23 : decode cX9_nextOf 23 = .ok (.iconst 1, 1) := by decide +kernel
theorem dX9_nextOf_24 : decode cX9_nextOf 24 = .ok (.invokevirtual 168, 3) := by decide +kernel
theorem dX9_nextOf_27 : decode cX9_nextOf 27 = .ok (.istore_n 3, 1) := by decide +kernel
theorem dX9_nextOf_28 : decode cX9_nextOf 28 = .ok (.iload_n 3, 1) := by decide +kernel
theorem dX9_nextOf_29 : decode cX9_nextOf 29 = .ok (.ifCond .lt 12, 3) := by decide +kernel
theorem dX9_nextOf_32 : decode cX9_nextOf 32 = .ok (.aload_n 0, 1) := by decide +kernel
theorem dX9_nextOf_33 : decode cX9_nextOf 33 = .ok (.getfield 50, 3) := by decide +kernel
theorem dX9_nextOf_36 : decode cX9_nextOf 36 = .ok (.iload_n 3, 1) := by decide +kernel
theorem dX9_nextOf_37 : decode cX9_nextOf 37 = .ok (.iaload, 1) := by decide +kernel
theorem dX9_nextOf_38 : decode cX9_nextOf 38 = .ok (.goto 14, 3) := by decide +kernel
theorem dX9_nextOf_41 : decode cX9_nextOf 41 = .ok (.aload_n 0, 1) := by decide +kernel
theorem dX9_nextOf_42 : decode cX9_nextOf 42 = .ok (.getfield 23, 3) := by decide +kernel
theorem dX9_nextOf_45 : decode cX9_nextOf 45 = .ok (.bipush 12, 2) := by decide +kernel
theorem dX9_nextOf_47 : decode cX9_nextOf 47 = .ok (.iload_n 1, 1) := by decide +kernel
theorem dX9_nextOf_48 : decode cX9_nextOf 48 = .ok (.imul, 1) := by decide +kernel
theorem dX9_nextOf_49 : decode cX9_nextOf 49 = .ok (.iload_n 2, 1) := by decide +kernel
theorem dX9_nextOf_50 : decode cX9_nextOf 50 = .ok (.iadd, 1) := by decide +kernel
theorem dX9_nextOf_51 : decode cX9_nextOf 51 = .ok (.iaload, 1) := by decide +kernel
theorem dX9_nextOf_52 : decode cX9_nextOf 52 = .ok (.istore 4, 2) := by decide +kernel
theorem dX9_nextOf_54 : decode cX9_nextOf 54 = .ok (.iload 4, 2) := by decide +kernel
theorem dX9_nextOf_56 : decode cX9_nextOf 56 = .ok (.ifCond .lt 6, 3) := by decide +kernel
theorem dX9_nextOf_59 : decode cX9_nextOf 59 = .ok (.iload 4, 2) := by decide +kernel
theorem dX9_nextOf_61 : decode cX9_nextOf 61 = .ok (.ireturn, 1) := by decide +kernel
theorem dX9_nextOf_62 : decode cX9_nextOf 62 = .ok (.aload_n 0, 1) := by decide +kernel
theorem dX9_nextOf_63 : decode cX9_nextOf 63 = .ok (.iload_n 1, 1) := by decide +kernel
theorem dX9_nextOf_64 : decode cX9_nextOf 64 = .ok (.iload_n 2, 1) := by decide +kernel
theorem dX9_nextOf_65 : decode cX9_nextOf 65 = .ok (.invokevirtual 162, 3) := by decide +kernel
theorem dX9_nextOf_68 : decode cX9_nextOf 68 = .ok (.ireturn, 1) := by decide +kernel
theorem dX9_isDenied_0 : decode cX9_isDenied 0 = .ok (.aload_n 0, 1) := by decide +kernel
theorem dX9_isDenied_1 : decode cX9_isDenied 1 = .ok (.getfield 13, 3) := by decide +kernel
theorem dX9_isDenied_4 : decode cX9_isDenied 4 = .ok (.iload_n 1, 1) := by decide +kernel
theorem dX9_isDenied_5 : decode cX9_isDenied 5 = .ok (.iaload, 1) := by decide +kernel
theorem dX9_isDenied_6 : decode cX9_isDenied 6 = .ok (.iconst 3, 1) := by decide +kernel
theorem dX9_isDenied_7 : decode cX9_isDenied 7 = .ok (.if_icmp .eq 5, 3) := by decide +kernel
theorem dX9_isDenied_10 : decode cX9_isDenied 10 = .ok (.iconst 0, 1) := by decide +kernel
theorem dX9_isDenied_11 : decode cX9_isDenied 11 = .ok (.ireturn, 1) := by decide +kernel
theorem dX9_isDenied_12 : decode cX9_isDenied 12 = .ok (.aload_n 0, 1) := by decide +kernel
theorem dX9_isDenied_13 : decode cX9_isDenied 13 = .ok (.getfield 26, 3) := by decide +kernel
theorem dX9_isDenied_16 : decode cX9_isDenied 16 = .ok (.bipush 12, 2) := by decide +kernel
theorem dX9_isDenied_18 : decode cX9_isDenied 18 = .ok (.iload_n 1, 1) := by decide +kernel
theorem dX9_isDenied_19 : decode cX9_isDenied 19 = .ok (.imul, 1) := by decide +kernel
theorem dX9_isDenied_20 : decode cX9_isDenied 20 = .ok (.iload_n 3, 1) := by decide +kernel
theorem dX9_isDenied_21 : decode cX9_isDenied 21 = .ok (.iadd, 1) := by decide +kernel
theorem dX9_isDenied_22 : decode cX9_isDenied 22 = .ok (.iaload, 1) := by decide +kernel
theorem dX9_isDenied_23 : decode cX9_isDenied 23 = .ok (.iload_n 2, 1) := by decide +kernel
theorem dX9_isDenied_24 : decode cX9_isDenied 24 = .ok (.ishr, 1) := by decide +kernel
theorem dX9_isDenied_25 : decode cX9_isDenied 25 = .ok (.iconst 1, 1) := by decide +kernel
theorem dX9_isDenied_26 : decode cX9_isDenied 26 = .ok (.iand, 1) := by decide +kernel
theorem dX9_isDenied_27 : decode cX9_isDenied 27 = .ok (.iconst 1, 1) := by decide +kernel
theorem dX9_isDenied_28 : decode cX9_isDenied 28 = .ok (.if_icmp .ne 7, 3) := by decide +kernel
theorem dX9_isDenied_31 : decode cX9_isDenied 31 = .ok (.iconst 1, 1) := by decide +kernel
theorem dX9_isDenied_32 : decode cX9_isDenied 32 = .ok (.goto 4, 3) := by decide +kernel
theorem dX9_isDenied_35 : decode cX9_isDenied 35 = .ok (.iconst 0, 1) := by decide +kernel
theorem dX9_isDenied_36 : decode cX9_isDenied 36 = .ok (.istore 4, 2) := by decide +kernel
theorem dX9_isDenied_38 : decode cX9_isDenied 38 = .ok (.iconst 0, 1) := by decide +kernel
theorem dX9_isDenied_39 : decode cX9_isDenied 39 = .ok (.istore 5, 2) := by decide +kernel
theorem dX9_isDenied_41 : decode cX9_isDenied 41 = .ok (.iload 5, 2) := by decide +kernel
theorem dX9_isDenied_43 : decode cX9_isDenied 43 = .ok (.aload_n 0, 1) := by decide +kernel
theorem dX9_isDenied_44 : decode cX9_isDenied 44 = .ok (.getfield 156, 3) := by decide +kernel
theorem dX9_isDenied_47 : decode cX9_isDenied 47 = .ok (.if_icmp .ge 74, 3) := by decide +kernel
theorem dX9_isDenied_50 : decode cX9_isDenied 50 = .ok (.aload_n 0, 1) := by decide +kernel
theorem dX9_isDenied_51 : decode cX9_isDenied 51 = .ok (.getfield 59, 3) := by decide +kernel
theorem dX9_isDenied_54 : decode cX9_isDenied 54 = .ok (.iload 5, 2) := by decide +kernel
theorem dX9_isDenied_56 : decode cX9_isDenied 56 = .ok (.iaload, 1) := by decide +kernel
theorem dX9_isDenied_57 : decode cX9_isDenied 57 = .ok (.istore 6, 2) := by decide +kernel
theorem dX9_isDenied_59 : decode cX9_isDenied 59 = .ok (.iload 4, 2) := by decide +kernel
theorem dX9_isDenied_61 : decode cX9_isDenied 61 = .ok (.ifCond .ne 47, 3) := by decide +kernel
theorem dX9_isDenied_64 : decode cX9_isDenied 64 = .ok (.aload_n 0, 1) := by decide +kernel
theorem dX9_isDenied_65 : decode cX9_isDenied 65 = .ok (.getfield 41, 3) := by decide +kernel
theorem dX9_isDenied_68 : decode cX9_isDenied 68 = .ok (.iload 6, 2) := by decide +kernel
theorem dX9_isDenied_70 : decode cX9_isDenied 70 = .ok (.iaload, 1) := by decide +kernel
theorem dX9_isDenied_71 : decode cX9_isDenied 71 = .ok (.iconst 3, 1) := by decide +kernel
theorem dX9_isDenied_72 : decode cX9_isDenied 72 = .ok (.if_icmp .ne 40, 3) := by decide +kernel
theorem dX9_isDenied_75 : decode cX9_isDenied 75 = .ok (.aload_n 0, 1) := by decide +kernel
theorem dX9_isDenied_76 : decode cX9_isDenied 76 = .ok (.getfield 44, 3) := by decide +kernel
theorem dX9_isDenied_79 : decode cX9_isDenied 79 = .ok (.iload 6, 2) := by decide +kernel
theorem dX9_isDenied_81 : decode cX9_isDenied 81 = .ok (.iaload, 1) := by decide +kernel
theorem dX9_isDenied_82 : decode cX9_isDenied 82 = .ok (.iload_n 1, 1) := by decide +kernel
theorem dX9_isDenied_83 : decode cX9_isDenied 83 = .ok (.if_icmp .ne 29, 3) := by decide +kernel
theorem dX9_isDenied_86 : decode cX9_isDenied 86 = .ok (.aload_n 0, 1) := by decide +kernel
theorem dX9_isDenied_87 : decode cX9_isDenied 87 = .ok (.getfield 47, 3) := by decide +kernel
theorem dX9_isDenied_90 : decode cX9_isDenied 90 = .ok (.iload 6, 2) := by decide +kernel
theorem dX9_isDenied_92 : decode cX9_isDenied 92 = .ok (.iaload, 1) := by decide +kernel
theorem dX9_isDenied_93 : decode cX9_isDenied 93 = .ok (.iload_n 3, 1) := by decide +kernel
theorem dX9_isDenied_94 : decode cX9_isDenied 94 = .ok (.if_icmp .ne 18, 3) := by decide +kernel
theorem dX9_isDenied_97 : decode cX9_isDenied 97 = .ok (.aload_n 0, 1) := by decide +kernel
theorem dX9_isDenied_98 : decode cX9_isDenied 98 = .ok (.getfield 50, 3) := by decide +kernel
theorem dX9_isDenied_101 : decode cX9_isDenied 101 = .ok (.iload 6, 2) := by decide +kernel
theorem dX9_isDenied_103 : decode cX9_isDenied 103 = .ok (.iaload, 1) := by decide +kernel
theorem dX9_isDenied_104 : decode cX9_isDenied 104 = .ok (.iload_n 2, 1) := by decide +kernel
theorem dX9_isDenied_105 : decode cX9_isDenied 105 = .ok (.if_icmp .ne 7, 3) := by decide +kernel
theorem dX9_isDenied_108 : decode cX9_isDenied 108 = .ok (.iconst 1, 1) := by decide +kernel
theorem dX9_isDenied_109 : decode cX9_isDenied 109 = .ok (.goto 4, 3) := by decide +kernel
theorem dX9_isDenied_112 : decode cX9_isDenied 112 = .ok (.iconst 0, 1) := by decide +kernel
theorem dX9_isDenied_113 : decode cX9_isDenied 113 = .ok (.istore 4, 2) := by decide +kernel
theorem dX9_isDenied_115 : decode cX9_isDenied 115 = .ok (.iinc 5 1, 3) := by decide +kernel
theorem dX9_isDenied_118 : decode cX9_isDenied 118 = .ok (.goto (-77), 3) := by decide +kernel
theorem dX9_isDenied_121 : decode cX9_isDenied 121 = .ok (.iload 4, 2) := by decide +kernel
theorem dX9_isDenied_123 : decode cX9_isDenied 123 = .ok (.ireturn, 1) := by decide +kernel
theorem dX9_isOn_0 : decode cX9_isOn 0 = .ok (.aload_n 0, 1) := by decide +kernel
theorem dX9_isOn_1 : decode cX9_isOn 1 = .ok (.getfield 29, 3) := by decide +kernel
theorem dX9_isOn_4 : decode cX9_isOn 4 = .ok (.iload_n 1, 1) := by decide +kernel
theorem dX9_isOn_5 : decode cX9_isOn 5 = .ok (.iaload, 1) := by decide +kernel
theorem dX9_isOn_6 : decode cX9_isOn 6 = .ok (.iload_n 2, 1) := by decide +kernel
theorem dX9_isOn_7 : decode cX9_isOn 7 = .ok (.ishr, 1) := by decide +kernel
theorem dX9_isOn_8 : decode cX9_isOn 8 = .ok (.iconst 1, 1) := by decide +kernel
theorem dX9_isOn_9 : decode cX9_isOn 9 = .ok (.iand, 1) := by decide +kernel
theorem dX9_isOn_10 : decode cX9_isOn 10 = .ok (.iconst 1, 1) := by decide +kernel
theorem dX9_isOn_11 : decode cX9_isOn 11 = .ok (.if_icmp .ne 18, 3) := by decide +kernel
theorem dX9_isOn_14 : decode cX9_isOn 14 = .ok (.aload_n 0, 1) := by decide +kernel
theorem dX9_isOn_15 : decode cX9_isOn 15 = .ok (.iconst 5, 1) := by decide +kernel
theorem dX9_isOn_16 : decode cX9_isOn 16 = .ok (.iload_n 1, 1) := by decide +kernel
theorem dX9_isOn_17 : decode cX9_isOn 17 = .ok (.iload_n 2, 1) := by decide +kernel
theorem dX9_isOn_18 : decode cX9_isOn 18 = .ok (.iconst 1, 1) := by decide +kernel
theorem dX9_isOn_19 : decode cX9_isOn 19 = .ok (.invokevirtual 168, 3) := by decide +kernel
theorem dX9_isOn_22 : decode cX9_isOn 22 = .ok (.ifCond .ge 7, 3) := by decide +kernel
theorem dX9_isOn_25 : decode cX9_isOn 25 = .ok (.iconst 1, 1) := by decide +kernel
theorem dX9_isOn_26 : decode cX9_isOn 26 = .ok (.goto 4, 3) := by decide +kernel
theorem dX9_isOn_29 : decode cX9_isOn 29 = .ok (.iconst 0, 1) := by decide +kernel
theorem dX9_isOn_30 : decode cX9_isOn 30 = .ok (.ireturn, 1) := by decide +kernel
theorem dX9_comes_0 : decode cX9_comes 0 = .ok (.iload_n 2, 1) := by decide +kernel
theorem dX9_comes_1 : decode cX9_comes 1 = .ok (.istore 4, 2) := by decide +kernel
theorem dX9_comes_3 : decode cX9_comes 3 = .ok (.aload_n 0, 1) := by decide +kernel
theorem dX9_comes_4 : decode cX9_comes 4 = .ok (.iconst 0, 1) := by decide +kernel
theorem dX9_comes_5 : decode cX9_comes 5 = .ok (.putfield 172, 3) := by decide +kernel
theorem dX9_comes_8 : decode cX9_comes 8 = .ok (.aload_n 0, 1) := by decide +kernel
theorem dX9_comes_9 : decode cX9_comes 9 = .ok (.getfield 65, 3) := by decide +kernel
theorem dX9_comes_12 : decode cX9_comes 12 = .ok (.iconst 0, 1) := by decide +kernel
theorem dX9_comes_13 : decode cX9_comes 13 = .ok (.iload 4, 2) := by decide +kernel
theorem dX9_comes_15 : decode cX9_comes 15 = .ok (.iastore, 1) := by decide +kernel
theorem dX9_comes_16 : decode cX9_comes 16 = .ok (.iload 4, 2) := by decide +kernel
theorem dX9_comes_18 : decode cX9_comes 18 = .ok (.iload_n 3, 1) := by decide +kernel
theorem dX9_comes_19 : decode cX9_comes 19 = .ok (.if_icmp .eq 126, 3) := by decide +kernel
theorem dX9_comes_22 : decode cX9_comes 22 = .ok (.aload_n 0, 1) := by decide +kernel
theorem dX9_comes_23 : decode cX9_comes 23 = .ok (.iload 4, 2) := by decide +kernel
theorem dX9_comes_25 : decode cX9_comes 25 = .ok (.iload_n 3, 1) := by decide +kernel
theorem dX9_comes_26 : decode cX9_comes 26 = .ok (.invokevirtual 159, 3) := by decide +kernel
theorem dX9_comes_29 : decode cX9_comes 29 = .ok (.istore 5, 2) := by decide +kernel
theorem dX9_comes_31 : decode cX9_comes 31 = .ok (.iload 5, 2) := by decide +kernel
theorem dX9_comes_33 : decode cX9_comes 33 = .ok (.ifCond .lt 39, 3) := by decide +kernel
theorem dX9_comes_36 : decode cX9_comes 36 = .ok (.aload_n 0, 1) := by decide +kernel
theorem dX9_comes_37 : decode cX9_comes 37 = .ok (.getfield 13, 3) := by decide +kernel
theorem dX9_comes_40 : decode cX9_comes 40 = .ok (.iload 4, 2) := by decide +kernel
theorem dX9_comes_42 : decode cX9_comes 42 = .ok (.iaload, 1) := by decide +kernel
theorem dX9_comes_43 : decode cX9_comes 43 = .ok (.ifCond .ne 9, 3) := by decide +kernel
theorem dX9_comes_46 : decode cX9_comes 46 = .ok (.iload 4, 2) := by decide +kernel
theorem dX9_comes_48 : decode cX9_comes 48 = .ok (.iload_n 2, 1) := by decide +kernel
theorem dX9_comes_49 : decode cX9_comes 49 = .ok (.if_icmp .ne 23, 3) := by decide +kernel
theorem dX9_comes_52 : decode cX9_comes 52 = .ok (.aload_n 0, 1) := by decide +kernel
theorem dX9_comes_53 : decode cX9_comes 53 = .ok (.iload 4, 2) := by decide +kernel
theorem dX9_comes_55 : decode cX9_comes 55 = .ok (.iload_n 1, 1) := by decide +kernel
theorem dX9_comes_56 : decode cX9_comes 56 = .ok (.iload_n 3, 1) := by decide +kernel
theorem dX9_comes_57 : decode cX9_comes 57 = .ok (.invokevirtual 175, 3) := by decide +kernel
theorem dX9_comes_60 : decode cX9_comes 60 = .ok (.ifCond .ne 12, 3) := by decide +kernel
theorem dX9_comes_63 : decode cX9_comes 63 = .ok (.aload_n 0, 1) := by decide +kernel
theorem dX9_comes_64 : decode cX9_comes 64 = .ok (.getfield 172, 3) := by decide +kernel
theorem dX9_comes_67 : decode cX9_comes 67 = .ok (.bipush 30, 2) := by decide +kernel
theorem dX9_comes_69 : decode cX9_comes 69 = .ok (.if_icmp .ne 7, 3) := by decide +kernel
theorem dX9_comes_72 : decode cX9_comes 72 = .ok (.iconst 1, 1) := by decide +kernel
theorem dX9_comes_73 : decode cX9_comes 73 = .ok (.goto 4, 3) := by decide +kernel
theorem dX9_comes_76 : decode cX9_comes 76 = .ok (.iconst 0, 1) := by decide +kernel
theorem dX9_comes_77 : decode cX9_comes 77 = .ok (.istore 6, 2) := by decide +kernel
theorem dX9_comes_79 : decode cX9_comes 79 = .ok (.iload 6, 2) := by decide +kernel
theorem dX9_comes_81 : decode cX9_comes 81 = .ok (.ifCond .eq 7, 3) := by decide +kernel
theorem dX9_comes_84 : decode cX9_comes 84 = .ok (.iconst (-1), 1) := by decide +kernel
theorem dX9_comes_85 : decode cX9_comes 85 = .ok (.goto 11, 3) := by decide +kernel
theorem dX9_comes_88 : decode cX9_comes 88 = .ok (.aload_n 0, 1) := by decide +kernel
theorem dX9_comes_89 : decode cX9_comes 89 = .ok (.iload 4, 2) := by decide +kernel
theorem dX9_comes_91 : decode cX9_comes 91 = .ok (.iload 5, 2) := by decide +kernel
theorem dX9_comes_93 : decode cX9_comes 93 = .ok (.invokevirtual 128, 3) := by decide +kernel
theorem dX9_comes_96 : decode cX9_comes 96 = .ok (.istore 7, 2) := by decide +kernel
theorem dX9_comes_98 : decode cX9_comes 98 = .ok (.iload 7, 2) := by decide +kernel
theorem dX9_comes_100 : decode cX9_comes 100 = .ok (.ifCond .lt 15, 3) := by decide +kernel
theorem dX9_comes_103 : decode cX9_comes 103 = .ok (.aload_n 0, 1) := by decide +kernel
theorem dX9_comes_104 : decode cX9_comes 104 = .ok (.iconst 0, 1) := by decide +kernel
theorem dX9_comes_105 : decode cX9_comes 105 = .ok (.iload 7, 2) := by decide +kernel
theorem dX9_comes_107 : decode cX9_comes 107 = .ok (.iconst 0, 1) := by decide +kernel
theorem dX9_comes_108 : decode cX9_comes 108 = .ok (.iconst 0, 1) := by decide +kernel
theorem dX9_comes_109 : decode cX9_comes 109 = .ok (.invokevirtual 168, 3) := by decide +kernel
theorem dX9_comes_112 : decode cX9_comes 112 = .ok (.ifCond .lt 5, 3) := by decide +kernel
theorem dX9_comes_115 : decode cX9_comes 115 = .ok (.iconst 0, 1) := by decide +kernel
theorem dX9_comes_116 : decode cX9_comes 116 = .ok (.ireturn, 1) := by decide +kernel
theorem dX9_comes_117 : decode cX9_comes 117 = .ok (.iload 5, 2) := by decide +kernel
theorem dX9_comes_119 : decode cX9_comes 119 = .ok (.istore 4, 2) := by decide +kernel
theorem dX9_comes_121 : decode cX9_comes 121 = .ok (.aload_n 0, 1) := by decide +kernel
theorem dX9_comes_122 : decode cX9_comes 122 = .ok (.dup, 1) := by decide +kernel
theorem dX9_comes_123 : decode cX9_comes 123 = .ok (.getfield 172, 3) := by decide +kernel
theorem dX9_comes_126 : decode cX9_comes 126 = .ok (.iconst 1, 1) := by decide +kernel
theorem dX9_comes_127 : decode cX9_comes 127 = .ok (.iadd, 1) := by decide +kernel
theorem dX9_comes_128 : decode cX9_comes 128 = .ok (.putfield 172, 3) := by decide +kernel
theorem dX9_comes_131 : decode cX9_comes 131 = .ok (.aload_n 0, 1) := by decide +kernel
theorem dX9_comes_132 : decode cX9_comes 132 = .ok (.getfield 65, 3) := by decide +kernel
theorem dX9_comes_135 : decode cX9_comes 135 = .ok (.aload_n 0, 1) := by decide +kernel
theorem dX9_comes_136 : decode cX9_comes 136 = .ok (.getfield 172, 3) := by decide +kernel
theorem dX9_comes_139 : decode cX9_comes 139 = .ok (.iload 4, 2) := by decide +kernel
theorem dX9_comes_141 : decode cX9_comes 141 = .ok (.iastore, 1) := by decide +kernel
theorem dX9_comes_142 : decode cX9_comes 142 = .ok (.goto (-126), 3) := by decide +kernel
theorem dX9_comes_145 : decode cX9_comes 145 = .ok (.aload_n 0, 1) := by decide +kernel
theorem dX9_comes_146 : decode cX9_comes 146 = .ok (.iconst 1, 1) := by decide +kernel
theorem dX9_comes_147 : decode cX9_comes 147 = .ok (.iload_n 3, 1) := by decide +kernel
theorem dX9_comes_148 : decode cX9_comes 148 = .ok (.iconst 0, 1) := by decide +kernel
theorem dX9_comes_149 : decode cX9_comes 149 = .ok (.iconst 0, 1) := by decide +kernel
theorem dX9_comes_150 : decode cX9_comes 150 = .ok (.invokevirtual 168, 3) := by decide +kernel
theorem dX9_comes_153 : decode cX9_comes 153 = .ok (.ifCond .ge 7, 3) := by decide +kernel
theorem dX9_comes_156 : decode cX9_comes 156 = .ok (.iconst 1, 1) := by decide +kernel
theorem dX9_comes_157 : decode cX9_comes 157 = .ok (.goto 4, 3) := by decide +kernel
theorem dX9_comes_160 : decode cX9_comes 160 = .ok (.iconst 0, 1) := by decide +kernel
theorem dX9_comes_161 : decode cX9_comes 161 = .ok (.ireturn, 1) := by decide +kernel
theorem dX9_answers_0 : decode cX9_answers 0 = .ok (.iload_n 2, 1) := by decide +kernel
theorem dX9_answers_1 : decode cX9_answers 1 = .ok (.iload_n 3, 1) := by decide +kernel
theorem dX9_answers_2 : decode cX9_answers 2 = .ok (.if_icmp .eq 23, 3) := by decide +kernel
theorem dX9_answers_5 : decode cX9_answers 5 = .ok (.aload_n 0, 1) := by decide +kernel
theorem dX9_answers_6 : decode cX9_answers 6 = .ok (.iload_n 1, 1) := by decide +kernel
theorem dX9_answers_7 : decode cX9_answers 7 = .ok (.iload_n 2, 1) := by decide +kernel
theorem dX9_answers_8 : decode cX9_answers 8 = .ok (.iload_n 3, 1) := by decide +kernel
theorem dX9_answers_9 : decode cX9_answers 9 = .ok (.invokevirtual 179, 3) := by decide +kernel
theorem dX9_answers_12 : decode cX9_answers 12 = .ok (.ifCond .eq 17, 3) := by decide +kernel
theorem dX9_answers_15 : decode cX9_answers 15 = .ok (.aload_n 0, 1) := by decide +kernel
theorem dX9_answers_16 : decode cX9_answers 16 = .ok (.iload_n 1, 1) := by decide +kernel
theorem dX9_answers_17 : decode cX9_answers 17 = .ok (.iload_n 3, 1) := by decide +kernel
theorem dX9_answers_18 : decode cX9_answers 18 = .ok (.iload_n 2, 1) := by decide +kernel
theorem dX9_answers_19 : decode cX9_answers 19 = .ok (.invokevirtual 179, 3) := by decide +kernel
theorem dX9_answers_22 : decode cX9_answers 22 = .ok (.ifCond .eq 7, 3) := by decide +kernel
theorem dX9_answers_25 : decode cX9_answers 25 = .ok (.iconst 1, 1) := by decide +kernel
theorem dX9_answers_26 : decode cX9_answers 26 = .ok (.goto 4, 3) := by decide +kernel
theorem dX9_answers_29 : decode cX9_answers 29 = .ok (.iconst 0, 1) := by decide +kernel
theorem dX9_answers_30 : decode cX9_answers 30 = .ok (.ireturn, 1) := by decide +kernel
theorem dX9_goes_0 : decode cX9_goes 0 = .ok (.aload_n 0, 1) := by decide +kernel
theorem dX9_goes_1 : decode cX9_goes 1 = .ok (.iconst 0, 1) := by decide +kernel
theorem dX9_goes_2 : decode cX9_goes 2 = .ok (.putfield 1, 3) := by decide +kernel
theorem dX9_goes_5 : decode cX9_goes 5 = .ok (.iload_n 1, 1) := by decide +kernel
theorem dX9_goes_6 : decode cX9_goes 6 = .ok (.iconst (-1), 1) := by decide +kernel
theorem dX9_goes_7 : decode cX9_goes 7 = .ok (.if_icmp .eq 11, 3) := by decide +kernel
theorem dX9_goes_10 : decode cX9_goes 10 = .ok (.aload_n 0, 1) := by decide +kernel
theorem dX9_goes_11 : decode cX9_goes 11 = .ok (.iload_n 1, 1) := by decide +kernel
theorem dX9_goes_12 : decode cX9_goes 12 = .ok (.invokevirtual 182, 3) := by decide +kernel
theorem dX9_goes_15 : decode cX9_goes 15 = .ok (.ifCond .eq 33, 3) := by decide +kernel
theorem dX9_goes_18 : decode cX9_goes 18 = .ok (.iload_n 2, 1) := by decide +kernel
theorem dX9_goes_19 : decode cX9_goes 19 = .ok (.invokestatic 141, 3) := by decide +kernel
theorem dX9_goes_22 : decode cX9_goes 22 = .ok (.ifCond .eq 26, 3) := by decide +kernel
theorem dX9_goes_25 : decode cX9_goes 25 = .ok (.aload_n 0, 1) := by decide +kernel
theorem dX9_goes_26 : decode cX9_goes 26 = .ok (.iload_n 3, 1) := by decide +kernel
theorem dX9_goes_27 : decode cX9_goes 27 = .ok (.invokevirtual 135, 3) := by decide +kernel
theorem dX9_goes_30 : decode cX9_goes 30 = .ok (.ifCond .eq 18, 3) := by decide +kernel
theorem dX9_goes_33 : decode cX9_goes 33 = .ok (.aload_n 0, 1) := by decide +kernel
theorem dX9_goes_34 : decode cX9_goes 34 = .ok (.iload 4, 2) := by decide +kernel
theorem dX9_goes_36 : decode cX9_goes 36 = .ok (.invokevirtual 135, 3) := by decide +kernel
theorem dX9_goes_39 : decode cX9_goes 39 = .ok (.ifCond .eq 9, 3) := by decide +kernel
theorem dX9_goes_42 : decode cX9_goes 42 = .ok (.iload_n 3, 1) := by decide +kernel
theorem dX9_goes_43 : decode cX9_goes 43 = .ok (.iload 4, 2) := by decide +kernel
theorem dX9_goes_45 : decode cX9_goes 45 = .ok (.if_icmp .ne 5, 3) := by decide +kernel
theorem dX9_goes_48 : decode cX9_goes 48 = .ok (.iconst (-1), 1) := by decide +kernel
theorem dX9_goes_49 : decode cX9_goes 49 = .ok (.ireturn, 1) := by decide +kernel
theorem dX9_goes_50 : decode cX9_goes 50 = .ok (.aload_n 0, 1) := by decide +kernel
theorem dX9_goes_51 : decode cX9_goes 51 = .ok (.iload_n 1, 1) := by decide +kernel
theorem dX9_goes_52 : decode cX9_goes 52 = .ok (.iconst 0, 1) := by decide +kernel
theorem dX9_goes_53 : decode cX9_goes 53 = .ok (.invokevirtual 185, 3) := by decide +kernel
theorem dX9_goes_56 : decode cX9_goes 56 = .ok (.aload_n 0, 1) := by decide +kernel
theorem dX9_goes_57 : decode cX9_goes 57 = .ok (.iload_n 2, 1) := by decide +kernel
theorem dX9_goes_58 : decode cX9_goes 58 = .ok (.iload_n 3, 1) := by decide +kernel
theorem dX9_goes_59 : decode cX9_goes 59 = .ok (.iload 4, 2) := by decide +kernel
theorem dX9_goes_61 : decode cX9_goes 61 = .ok (.invokevirtual 179, 3) := by decide +kernel
theorem dX9_goes_64 : decode cX9_goes 64 = .ok (.istore 5, 2) := by decide +kernel
theorem dX9_goes_66 : decode cX9_goes 66 = .ok (.aload_n 0, 1) := by decide +kernel
theorem dX9_goes_67 : decode cX9_goes 67 = .ok (.aload_n 0, 1) := by decide +kernel
theorem dX9_goes_68 : decode cX9_goes 68 = .ok (.getfield 172, 3) := by decide +kernel
theorem dX9_goes_71 : decode cX9_goes 71 = .ok (.iconst 1, 1) := by decide +kernel
theorem dX9_goes_72 : decode cX9_goes 72 = .ok (.iadd, 1) := by decide +kernel
theorem dX9_goes_73 : decode cX9_goes 73 = .ok (.putfield 110, 3) := by decide +kernel
theorem dX9_goes_76 : decode cX9_goes 76 = .ok (.iconst 0, 1) := by decide +kernel
theorem dX9_goes_77 : decode cX9_goes 77 = .ok (.istore 6, 2) := by decide +kernel
theorem dX9_goes_79 : decode cX9_goes 79 = .ok (.iload 6, 2) := by decide +kernel
theorem dX9_goes_81 : decode cX9_goes 81 = .ok (.aload_n 0, 1) := by decide +kernel
theorem dX9_goes_82 : decode cX9_goes 82 = .ok (.getfield 110, 3) := by decide +kernel
theorem dX9_goes_85 : decode cX9_goes 85 = .ok (.if_icmp .ge 23, 3) := by decide +kernel
theorem dX9_goes_88 : decode cX9_goes 88 = .ok (.aload_n 0, 1) := by decide +kernel
theorem dX9_goes_89 : decode cX9_goes 89 = .ok (.getfield 62, 3) := by decide +kernel
theorem dX9_goes_92 : decode cX9_goes 92 = .ok (.iload 6, 2) := by decide +kernel
theorem dX9_goes_94 : decode cX9_goes 94 = .ok (.aload_n 0, 1) := by decide +kernel
theorem dX9_goes_95 : decode cX9_goes 95 = .ok (.getfield 65, 3) := by decide +kernel
theorem dX9_goes_98 : decode cX9_goes 98 = .ok (.iload 6, 2) := by decide +kernel
theorem dX9_goes_100 : decode cX9_goes 100 = .ok (.iaload, 1) := by decide +kernel
theorem dX9_goes_101 : decode cX9_goes 101 = .ok (.iastore, 1) := by decide +kernel
theorem dX9_goes_102 : decode cX9_goes 102 = .ok (.iinc 6 1, 3) := by decide +kernel
theorem dX9_goes_105 : decode cX9_goes 105 = .ok (.goto (-26), 3) := by decide +kernel
theorem dX9_goes_108 : decode cX9_goes 108 = .ok (.aload_n 0, 1) := by decide +kernel
theorem dX9_goes_109 : decode cX9_goes 109 = .ok (.getfield 110, 3) := by decide +kernel
theorem dX9_goes_112 : decode cX9_goes 112 = .ok (.ireturn, 1) := by decide +kernel
theorem dX9_look_0 : decode cX9_look 0 = .ok (.aload_n 0, 1) := by decide +kernel
theorem dX9_look_1 : decode cX9_look 1 = .ok (.iconst 0, 1) := by decide +kernel
theorem dX9_look_2 : decode cX9_look 2 = .ok (.putfield 1, 3) := by decide +kernel
theorem dX9_look_5 : decode cX9_look 5 = .ok (.aload_n 0, 1) := by decide +kernel
theorem dX9_look_6 : decode cX9_look 6 = .ok (.getfield 107, 3) := by decide +kernel
theorem dX9_look_9 : decode cX9_look 9 = .ok (.bipush 12, 2) := by decide +kernel
theorem dX9_look_11 : decode cX9_look 11 = .ok (.if_icmp .ge 32, 3) := by decide +kernel
theorem dX9_look_14 : decode cX9_look 14 = .ok (.iload 5, 2) := by decide +kernel
theorem dX9_look_16 : decode cX9_look 16 = .ok (.i2l, 1) := by decide +kernel
theorem dX9_look_17 : decode cX9_look 17 = .ok (.lconst 1, 1) := by decide +kernel
theorem dX9_look_18 : decode cX9_look 18 = .ok (.ldc2_w 188, 3) := by decide +kernel
theorem dX9_look_21 : decode cX9_look 21 = .ok (.invokestatic 113, 3) := by decide +kernel
theorem dX9_look_24 : decode cX9_look 24 = .ok (.ifCond .eq 19, 3) := by decide +kernel
theorem dX9_look_27 : decode cX9_look 27 = .ok (.iload_n 1, 1) := by decide +kernel
theorem dX9_look_28 : decode cX9_look 28 = .ok (.i2l, 1) := by decide +kernel
theorem dX9_look_29 : decode cX9_look 29 = .ok (.lconst 0, 1) := by decide +kernel
theorem dX9_look_30 : decode cX9_look 30 = .ok (.ldc2_w 190, 3) := by decide +kernel
theorem dX9_look_33 : decode cX9_look 33 = .ok (.invokestatic 113, 3) := by decide +kernel
theorem dX9_look_36 : decode cX9_look 36 = .ok (.ifCond .eq 7, 3) := by decide +kernel
theorem dX9_look_39 : decode cX9_look 39 = .ok (.iconst 1, 1) := by decide +kernel
theorem dX9_look_40 : decode cX9_look 40 = .ok (.goto 4, 3) := by decide +kernel
theorem dX9_look_43 : decode cX9_look 43 = .ok (.iconst 0, 1) := by decide +kernel
theorem dX9_look_44 : decode cX9_look 44 = .ok (.istore 6, 2) := by decide +kernel
theorem dX9_look_46 : decode cX9_look 46 = .ok (.iload 6, 2) := by decide +kernel
theorem dX9_look_48 : decode cX9_look 48 = .ok (.ifCond .eq 33, 3) := by decide +kernel
theorem dX9_look_51 : decode cX9_look 51 = .ok (.iload_n 1, 1) := by decide +kernel
theorem dX9_look_52 : decode cX9_look 52 = .ok (.iconst 1, 1) := by decide +kernel
theorem dX9_look_53 : decode cX9_look 53 = .ok (.if_icmp .gt 24, 3) := by decide +kernel
theorem dX9_look_56 : decode cX9_look 56 = .ok (.aload_n 0, 1) := by decide +kernel
theorem dX9_look_57 : decode cX9_look 57 = .ok (.iload_n 2, 1) := by decide +kernel
theorem dX9_look_58 : decode cX9_look 58 = .ok (.invokevirtual 135, 3) := by decide +kernel
theorem dX9_look_61 : decode cX9_look 61 = .ok (.ifCond .eq 20, 3) := by decide +kernel
theorem dX9_look_64 : decode cX9_look 64 = .ok (.aload_n 0, 1) := by decide +kernel
theorem dX9_look_65 : decode cX9_look 65 = .ok (.iload_n 3, 1) := by decide +kernel
theorem dX9_look_66 : decode cX9_look 66 = .ok (.invokevirtual 135, 3) := by decide +kernel
theorem dX9_look_69 : decode cX9_look 69 = .ok (.ifCond .eq 12, 3) := by decide +kernel
theorem dX9_look_72 : decode cX9_look 72 = .ok (.iload_n 2, 1) := by decide +kernel
theorem dX9_look_73 : decode cX9_look 73 = .ok (.iload_n 3, 1) := by decide +kernel
theorem dX9_look_74 : decode cX9_look 74 = .ok (.if_icmp .eq 7, 3) := by decide +kernel
theorem dX9_look_77 : decode cX9_look 77 = .ok (.iconst 1, 1) := by decide +kernel
theorem dX9_look_78 : decode cX9_look 78 = .ok (.goto 4, 3) := by decide +kernel
theorem dX9_look_81 : decode cX9_look 81 = .ok (.iconst 0, 1) := by decide +kernel
theorem dX9_look_82 : decode cX9_look 82 = .ok (.istore 6, 2) := by decide +kernel
theorem dX9_look_84 : decode cX9_look 84 = .ok (.iload 6, 2) := by decide +kernel
theorem dX9_look_86 : decode cX9_look 86 = .ok (.ifCond .eq 35, 3) := by decide +kernel
theorem dX9_look_89 : decode cX9_look 89 = .ok (.iload_n 1, 1) := by decide +kernel
theorem dX9_look_90 : decode cX9_look 90 = .ok (.iconst 2, 1) := by decide +kernel
theorem dX9_look_91 : decode cX9_look 91 = .ok (.if_icmp .ne 26, 3) := by decide +kernel
theorem dX9_look_94 : decode cX9_look 94 = .ok (.aload_n 0, 1) := by decide +kernel
theorem dX9_look_95 : decode cX9_look 95 = .ok (.iload_n 2, 1) := by decide +kernel
theorem dX9_look_96 : decode cX9_look 96 = .ok (.invokevirtual 135, 3) := by decide +kernel
theorem dX9_look_99 : decode cX9_look 99 = .ok (.ifCond .eq 22, 3) := by decide +kernel
theorem dX9_look_102 : decode cX9_look 102 = .ok (.iload_n 3, 1) := by decide +kernel
theorem dX9_look_103 : decode cX9_look 103 = .ok (.invokestatic 144, 3) := by decide +kernel
theorem dX9_look_106 : decode cX9_look 106 = .ok (.ifCond .eq 15, 3) := by decide +kernel
theorem dX9_look_109 : decode cX9_look 109 = .ok (.iload 4, 2) := by decide +kernel
theorem dX9_look_111 : decode cX9_look 111 = .ok (.invokestatic 141, 3) := by decide +kernel
theorem dX9_look_114 : decode cX9_look 114 = .ok (.ifCond .eq 7, 3) := by decide +kernel
theorem dX9_look_117 : decode cX9_look 117 = .ok (.iconst 1, 1) := by decide +kernel
theorem dX9_look_118 : decode cX9_look 118 = .ok (.goto 4, 3) := by decide +kernel
theorem dX9_look_121 : decode cX9_look 121 = .ok (.iconst 0, 1) := by decide +kernel
theorem dX9_look_122 : decode cX9_look 122 = .ok (.istore 6, 2) := by decide +kernel
theorem dX9_look_124 : decode cX9_look 124 = .ok (.iload 6, 2) := by decide +kernel
theorem dX9_look_126 : decode cX9_look 126 = .ok (.ifCond .eq 28, 3) := by decide +kernel
theorem dX9_look_129 : decode cX9_look 129 = .ok (.iload_n 1, 1) := by decide +kernel
theorem dX9_look_130 : decode cX9_look 130 = .ok (.iconst 3, 1) := by decide +kernel
theorem dX9_look_131 : decode cX9_look 131 = .ok (.if_icmp .ne 19, 3) := by decide +kernel
theorem dX9_look_134 : decode cX9_look 134 = .ok (.aload_n 0, 1) := by decide +kernel
theorem dX9_look_135 : decode cX9_look 135 = .ok (.iload_n 2, 1) := by decide +kernel
theorem dX9_look_136 : decode cX9_look 136 = .ok (.invokevirtual 132, 3) := by decide +kernel
theorem dX9_look_139 : decode cX9_look 139 = .ok (.ifCond .eq 15, 3) := by decide +kernel
theorem dX9_look_142 : decode cX9_look 142 = .ok (.aload_n 0, 1) := by decide +kernel
theorem dX9_look_143 : decode cX9_look 143 = .ok (.iload_n 3, 1) := by decide +kernel
theorem dX9_look_144 : decode cX9_look 144 = .ok (.invokevirtual 135, 3) := by decide +kernel
theorem dX9_look_147 : decode cX9_look 147 = .ok (.ifCond .eq 7, 3) := by decide +kernel
theorem dX9_look_150 : decode cX9_look 150 = .ok (.iconst 1, 1) := by decide +kernel
theorem dX9_look_151 : decode cX9_look 151 = .ok (.goto 4, 3) := by decide +kernel
theorem dX9_look_154 : decode cX9_look 154 = .ok (.iconst 0, 1) := by decide +kernel
theorem dX9_look_155 : decode cX9_look 155 = .ok (.istore 6, 2) := by decide +kernel
theorem dX9_look_157 : decode cX9_look 157 = .ok (.iload 6, 2) := by decide +kernel
theorem dX9_look_159 : decode cX9_look 159 = .ok (.ifCond .eq 28, 3) := by decide +kernel
theorem dX9_look_162 : decode cX9_look 162 = .ok (.iload_n 1, 1) := by decide +kernel
theorem dX9_look_163 : decode cX9_look 163 = .ok (.iconst 4, 1) := by decide +kernel
theorem dX9_look_164 : decode cX9_look 164 = .ok (.if_icmp .ne 19, 3) := by decide +kernel
theorem dX9_look_167 : decode cX9_look 167 = .ok (.iload_n 2, 1) := by decide +kernel
theorem dX9_look_168 : decode cX9_look 168 = .ok (.i2l, 1) := by decide +kernel
theorem dX9_look_169 : decode cX9_look 169 = .ok (.lconst 0, 1) := by decide +kernel
theorem dX9_look_170 : decode cX9_look 170 = .ok (.aload_n 0, 1) := by decide +kernel
theorem dX9_look_171 : decode cX9_look 171 = .ok (.getfield 98, 3) := by decide +kernel
theorem dX9_look_174 : decode cX9_look 174 = .ok (.iconst 1, 1) := by decide +kernel
theorem dX9_look_175 : decode cX9_look 175 = .ok (.isub, 1) := by decide +kernel
theorem dX9_look_176 : decode cX9_look 176 = .ok (.i2l, 1) := by decide +kernel
theorem dX9_look_177 : decode cX9_look 177 = .ok (.invokestatic 113, 3) := by decide +kernel
theorem dX9_look_180 : decode cX9_look 180 = .ok (.ifCond .eq 7, 3) := by decide +kernel
theorem dX9_look_183 : decode cX9_look 183 = .ok (.iconst 1, 1) := by decide +kernel
theorem dX9_look_184 : decode cX9_look 184 = .ok (.goto 4, 3) := by decide +kernel
theorem dX9_look_187 : decode cX9_look 187 = .ok (.iconst 0, 1) := by decide +kernel
theorem dX9_look_188 : decode cX9_look 188 = .ok (.istore 6, 2) := by decide +kernel
theorem dX9_look_190 : decode cX9_look 190 = .ok (.iload 6, 2) := by decide +kernel
theorem dX9_look_192 : decode cX9_look 192 = .ok (.ifCond .ne 5, 3) := by decide +kernel
theorem dX9_look_195 : decode cX9_look 195 = .ok (.iconst (-1), 1) := by decide +kernel
theorem dX9_look_196 : decode cX9_look 196 = .ok (.ireturn, 1) := by decide +kernel
theorem dX9_look_197 : decode cX9_look 197 = .ok (.aload_n 0, 1) := by decide +kernel
theorem dX9_look_198 : decode cX9_look 198 = .ok (.invokevirtual 125, 3) := by decide +kernel
theorem dX9_look_201 : decode cX9_look 201 = .ok (.aload_n 0, 1) := by decide +kernel
theorem dX9_look_202 : decode cX9_look 202 = .ok (.getfield 68, 3) := by decide +kernel
theorem dX9_look_205 : decode cX9_look 205 = .ok (.aload_n 0, 1) := by decide +kernel
theorem dX9_look_206 : decode cX9_look 206 = .ok (.getfield 107, 3) := by decide +kernel
theorem dX9_look_209 : decode cX9_look 209 = .ok (.iload_n 1, 1) := by decide +kernel
theorem dX9_look_210 : decode cX9_look 210 = .ok (.iastore, 1) := by decide +kernel
theorem dX9_look_211 : decode cX9_look 211 = .ok (.aload_n 0, 1) := by decide +kernel
theorem dX9_look_212 : decode cX9_look 212 = .ok (.getfield 71, 3) := by decide +kernel
theorem dX9_look_215 : decode cX9_look 215 = .ok (.aload_n 0, 1) := by decide +kernel
theorem dX9_look_216 : decode cX9_look 216 = .ok (.getfield 107, 3) := by decide +kernel
theorem dX9_look_219 : decode cX9_look 219 = .ok (.iload_n 2, 1) := by decide +kernel
theorem dX9_look_220 : decode cX9_look 220 = .ok (.iastore, 1) := by decide +kernel
theorem dX9_look_221 : decode cX9_look 221 = .ok (.aload_n 0, 1) := by decide +kernel
theorem dX9_look_222 : decode cX9_look 222 = .ok (.getfield 74, 3) := by decide +kernel
theorem dX9_look_225 : decode cX9_look 225 = .ok (.aload_n 0, 1) := by decide +kernel
theorem dX9_look_226 : decode cX9_look 226 = .ok (.getfield 107, 3) := by decide +kernel
theorem dX9_look_229 : decode cX9_look 229 = .ok (.iload_n 3, 1) := by decide +kernel
theorem dX9_look_230 : decode cX9_look 230 = .ok (.iastore, 1) := by decide +kernel
theorem dX9_look_231 : decode cX9_look 231 = .ok (.aload_n 0, 1) := by decide +kernel
theorem dX9_look_232 : decode cX9_look 232 = .ok (.getfield 77, 3) := by decide +kernel
theorem dX9_look_235 : decode cX9_look 235 = .ok (.aload_n 0, 1) := by decide +kernel
theorem dX9_look_236 : decode cX9_look 236 = .ok (.getfield 107, 3) := by decide +kernel
theorem dX9_look_239 : decode cX9_look 239 = .ok (.iload 4, 2) := by decide +kernel
theorem dX9_look_241 : decode cX9_look 241 = .ok (.iastore, 1) := by decide +kernel
theorem dX9_look_242 : decode cX9_look 242 = .ok (.aload_n 0, 1) := by decide +kernel
theorem dX9_look_243 : decode cX9_look 243 = .ok (.getfield 80, 3) := by decide +kernel
theorem dX9_look_246 : decode cX9_look 246 = .ok (.aload_n 0, 1) := by decide +kernel
theorem dX9_look_247 : decode cX9_look 247 = .ok (.getfield 107, 3) := by decide +kernel
theorem dX9_look_250 : decode cX9_look 250 = .ok (.iload 5, 2) := by decide +kernel
theorem dX9_look_252 : decode cX9_look 252 = .ok (.iastore, 1) := by decide +kernel
theorem dX9_look_253 : decode cX9_look 253 = .ok (.aload_n 0, 1) := by decide +kernel
theorem dX9_look_254 : decode cX9_look 254 = .ok (.dup, 1) := by decide +kernel
theorem dX9_look_255 : decode cX9_look 255 = .ok (.getfield 107, 3) := by decide +kernel
theorem dX9_look_258 : decode cX9_look 258 = .ok (.iconst 1, 1) := by decide +kernel
theorem dX9_look_259 : decode cX9_look 259 = .ok (.iadd, 1) := by decide +kernel
theorem dX9_look_260 : decode cX9_look 260 = .ok (.putfield 107, 3) := by decide +kernel
theorem dX9_look_263 : decode cX9_look 263 = .ok (.aload_n 0, 1) := by decide +kernel
theorem dX9_look_264 : decode cX9_look 264 = .ok (.getfield 107, 3) := by decide +kernel
theorem dX9_look_267 : decode cX9_look 267 = .ok (.iconst 1, 1) := by decide +kernel
theorem dX9_look_268 : decode cX9_look 268 = .ok (.isub, 1) := by decide +kernel
theorem dX9_look_269 : decode cX9_look 269 = .ok (.ireturn, 1) := by decide +kernel
theorem dX9_isLook_0 : decode cX9_isLook 0 = .ok (.iload_n 1, 1) := by decide +kernel
theorem dX9_isLook_1 : decode cX9_isLook 1 = .ok (.i2l, 1) := by decide +kernel
theorem dX9_isLook_2 : decode cX9_isLook 2 = .ok (.lconst 0, 1) := by decide +kernel
theorem dX9_isLook_3 : decode cX9_isLook 3 = .ok (.aload_n 0, 1) := by decide +kernel
theorem dX9_isLook_4 : decode cX9_isLook 4 = .ok (.getfield 107, 3) := by decide +kernel
theorem dX9_isLook_7 : decode cX9_isLook 7 = .ok (.iconst 1, 1) := by decide +kernel
theorem dX9_isLook_8 : decode cX9_isLook 8 = .ok (.isub, 1) := by decide +kernel
theorem dX9_isLook_9 : decode cX9_isLook 9 = .ok (.i2l, 1) := by decide +kernel
theorem dX9_isLook_10 : decode cX9_isLook 10 = .ok (.invokestatic 113, 3) := by decide +kernel
theorem dX9_isLook_13 : decode cX9_isLook 13 = .ok (.ireturn, 1) := by decide +kernel
theorem dX9_call_0 : decode cX9_call 0 = .ok (.aload_n 0, 1) := by decide +kernel
theorem dX9_call_1 : decode cX9_call 1 = .ok (.getfield 35, 3) := by decide +kernel
theorem dX9_call_4 : decode cX9_call 4 = .ok (.ifCond .lt 28, 3) := by decide +kernel
theorem dX9_call_7 : decode cX9_call 7 = .ok (.aload_n 0, 1) := by decide +kernel
theorem dX9_call_8 : decode cX9_call 8 = .ok (.aload_n 0, 1) := by decide +kernel
theorem dX9_call_9 : decode cX9_call 9 = .ok (.getfield 35, 3) := by decide +kernel
theorem dX9_call_12 : decode cX9_call 12 = .ok (.iconst 1, 1) := by decide +kernel
theorem dX9_call_13 : decode cX9_call 13 = .ok (.invokevirtual 192, 3) := by decide +kernel
theorem dX9_call_16 : decode cX9_call 16 = .ok (.ifCond .eq 16, 3) := by decide +kernel
theorem dX9_call_19 : decode cX9_call 19 = .ok (.aload_n 0, 1) := by decide +kernel
theorem dX9_call_20 : decode cX9_call 20 = .ok (.iconst 1, 1) := by decide +kernel
theorem dX9_call_21 : decode cX9_call 21 = .ok (.iload_n 1, 1) := by decide +kernel
theorem dX9_call_22 : decode cX9_call 22 = .ok (.aload_n 0, 1) := by decide +kernel
theorem dX9_call_23 : decode cX9_call 23 = .ok (.getfield 35, 3) := by decide +kernel
theorem dX9_call_26 : decode cX9_call 26 = .ok (.invokevirtual 196, 3) := by decide +kernel
theorem dX9_call_29 : decode cX9_call 29 = .ok (.ifCond .ne 5, 3) := by decide +kernel
theorem dX9_call_32 : decode cX9_call 32 = .ok (.iconst 1, 1) := by decide +kernel
theorem dX9_call_33 : decode cX9_call 33 = .ok (.ireturn, 1) := by decide +kernel
theorem dX9_call_34 : decode cX9_call 34 = .ok (.aload_n 0, 1) := by decide +kernel
theorem dX9_call_35 : decode cX9_call 35 = .ok (.iconst 2, 1) := by decide +kernel
theorem dX9_call_36 : decode cX9_call 36 = .ok (.iload_n 2, 1) := by decide +kernel
theorem dX9_call_37 : decode cX9_call 37 = .ok (.iconst 0, 1) := by decide +kernel
theorem dX9_call_38 : decode cX9_call 38 = .ok (.iconst 0, 1) := by decide +kernel
theorem dX9_call_39 : decode cX9_call 39 = .ok (.invokevirtual 168, 3) := by decide +kernel
theorem dX9_call_42 : decode cX9_call 42 = .ok (.istore 4, 2) := by decide +kernel
theorem dX9_call_44 : decode cX9_call 44 = .ok (.iload 4, 2) := by decide +kernel
theorem dX9_call_46 : decode cX9_call 46 = .ok (.ifCond .lt 13, 3) := by decide +kernel
theorem dX9_call_49 : decode cX9_call 49 = .ok (.aload_n 0, 1) := by decide +kernel
theorem dX9_call_50 : decode cX9_call 50 = .ok (.getfield 47, 3) := by decide +kernel
theorem dX9_call_53 : decode cX9_call 53 = .ok (.iload 4, 2) := by decide +kernel
theorem dX9_call_55 : decode cX9_call 55 = .ok (.iaload, 1) := by decide +kernel
theorem dX9_call_56 : decode cX9_call 56 = .ok (.goto 9, 3) := by decide +kernel
theorem dX9_call_59 : decode cX9_call 59 = .ok (.aload_n 0, 1) := by decide +kernel
theorem dX9_call_60 : decode cX9_call 60 = .ok (.getfield 32, 3) := by decide +kernel
theorem dX9_call_63 : decode cX9_call 63 = .ok (.iload_n 2, 1) := by decide +kernel
theorem dX9_call_64 : decode cX9_call 64 = .ok (.iaload, 1) := by decide +kernel
theorem dX9_call_65 : decode cX9_call 65 = .ok (.istore 5, 2) := by decide +kernel
theorem dX9_call_67 : decode cX9_call 67 = .ok (.iload 5, 2) := by decide +kernel
theorem dX9_call_69 : decode cX9_call 69 = .ok (.ifCond .ge 5, 3) := by decide +kernel
theorem dX9_call_72 : decode cX9_call 72 = .ok (.iconst 2, 1) := by decide +kernel
theorem dX9_call_73 : decode cX9_call 73 = .ok (.ireturn, 1) := by decide +kernel
theorem dX9_call_74 : decode cX9_call 74 = .ok (.aload_n 0, 1) := by decide +kernel
theorem dX9_call_75 : decode cX9_call 75 = .ok (.iload_n 3, 1) := by decide +kernel
theorem dX9_call_76 : decode cX9_call 76 = .ok (.iload_n 1, 1) := by decide +kernel
theorem dX9_call_77 : decode cX9_call 77 = .ok (.iload 5, 2) := by decide +kernel
theorem dX9_call_79 : decode cX9_call 79 = .ok (.invokevirtual 196, 3) := by decide +kernel
theorem dX9_call_82 : decode cX9_call 82 = .ok (.ifCond .ne 7, 3) := by decide +kernel
theorem dX9_call_85 : decode cX9_call 85 = .ok (.iconst 3, 1) := by decide +kernel
theorem dX9_call_86 : decode cX9_call 86 = .ok (.goto 22, 3) := by decide +kernel
theorem dX9_call_89 : decode cX9_call 89 = .ok (.aload_n 0, 1) := by decide +kernel
theorem dX9_call_90 : decode cX9_call 90 = .ok (.iload 5, 2) := by decide +kernel
theorem dX9_call_92 : decode cX9_call 92 = .ok (.iload_n 3, 1) := by decide +kernel
theorem dX9_call_93 : decode cX9_call 93 = .ok (.invokevirtual 192, 3) := by decide +kernel
theorem dX9_call_96 : decode cX9_call 96 = .ok (.ifCond .eq 11, 3) := by decide +kernel
theorem dX9_call_99 : decode cX9_call 99 = .ok (.bipush 10, 2) := by decide +kernel
theorem dX9_call_101 : decode cX9_call 101 = .ok (.iload 5, 2) := by decide +kernel
theorem dX9_call_103 : decode cX9_call 103 = .ok (.iadd, 1) := by decide +kernel
theorem dX9_call_104 : decode cX9_call 104 = .ok (.goto 4, 3) := by decide +kernel
theorem dX9_call_107 : decode cX9_call 107 = .ok (.iconst 4, 1) := by decide +kernel
theorem dX9_call_108 : decode cX9_call 108 = .ok (.ireturn, 1) := by decide +kernel
theorem dX9_sees_0 : decode cX9_sees 0 = .ok (.aload_n 0, 1) := by decide +kernel
theorem dX9_sees_1 : decode cX9_sees 1 = .ok (.getfield 71, 3) := by decide +kernel
theorem dX9_sees_4 : decode cX9_sees 4 = .ok (.iload_n 1, 1) := by decide +kernel
theorem dX9_sees_5 : decode cX9_sees 5 = .ok (.iaload, 1) := by decide +kernel
theorem dX9_sees_6 : decode cX9_sees 6 = .ok (.istore_n 2, 1) := by decide +kernel
theorem dX9_sees_7 : decode cX9_sees 7 = .ok (.aload_n 0, 1) := by decide +kernel
theorem dX9_sees_8 : decode cX9_sees 8 = .ok (.getfield 74, 3) := by decide +kernel
theorem dX9_sees_11 : decode cX9_sees 11 = .ok (.iload_n 1, 1) := by decide +kernel
theorem dX9_sees_12 : decode cX9_sees 12 = .ok (.iaload, 1) := by decide +kernel
theorem dX9_sees_13 : decode cX9_sees 13 = .ok (.istore_n 3, 1) := by decide +kernel
theorem dX9_sees_14 : decode cX9_sees 14 = .ok (.aload_n 0, 1) := by decide +kernel
theorem dX9_sees_15 : decode cX9_sees 15 = .ok (.getfield 68, 3) := by decide +kernel
theorem dX9_sees_18 : decode cX9_sees 18 = .ok (.iload_n 1, 1) := by decide +kernel
theorem dX9_sees_19 : decode cX9_sees 19 = .ok (.iaload, 1) := by decide +kernel
theorem dX9_sees_20 : decode cX9_sees 20 = .ok (.tableswitch 104 0 3 #[32, 48, 70, 83], 32) := by decide +kernel
theorem dX9_sees_52 : decode cX9_sees 52 = .ok (.aload_n 0, 1) := by decide +kernel
theorem dX9_sees_53 : decode cX9_sees 53 = .ok (.iconst 0, 1) := by decide +kernel
theorem dX9_sees_54 : decode cX9_sees 54 = .ok (.iload_n 2, 1) := by decide +kernel
theorem dX9_sees_55 : decode cX9_sees 55 = .ok (.iload_n 3, 1) := by decide +kernel
theorem dX9_sees_56 : decode cX9_sees 56 = .ok (.invokevirtual 196, 3) := by decide +kernel
theorem dX9_sees_59 : decode cX9_sees 59 = .ok (.ifCond .eq 7, 3) := by decide +kernel
theorem dX9_sees_62 : decode cX9_sees 62 = .ok (.iconst 1, 1) := by decide +kernel
theorem dX9_sees_63 : decode cX9_sees 63 = .ok (.goto 4, 3) := by decide +kernel
theorem dX9_sees_66 : decode cX9_sees 66 = .ok (.iconst 0, 1) := by decide +kernel
theorem dX9_sees_67 : decode cX9_sees 67 = .ok (.ireturn, 1) := by decide +kernel
theorem dX9_sees_68 : decode cX9_sees 68 = .ok (.aload_n 0, 1) := by decide +kernel
theorem dX9_sees_69 : decode cX9_sees 69 = .ok (.iconst 0, 1) := by decide +kernel
theorem dX9_sees_70 : decode cX9_sees 70 = .ok (.iload_n 2, 1) := by decide +kernel
theorem dX9_sees_71 : decode cX9_sees 71 = .ok (.iload_n 3, 1) := by decide +kernel
theorem dX9_sees_72 : decode cX9_sees 72 = .ok (.invokevirtual 179, 3) := by decide +kernel
theorem dX9_sees_75 : decode cX9_sees 75 = .ok (.ifCond .eq 8, 3) := by decide +kernel
theorem dX9_sees_78 : decode cX9_sees 78 = .ok (.bipush 100, 2) := by decide +kernel
theorem dX9_sees_80 : decode cX9_sees 80 = .ok (.goto 4, 3) := by decide +kernel
theorem dX9_sees_83 : decode cX9_sees 83 = .ok (.iconst 0, 1) := by decide +kernel
theorem dX9_sees_84 : decode cX9_sees 84 = .ok (.aload_n 0, 1) := by decide +kernel
theorem dX9_sees_85 : decode cX9_sees 85 = .ok (.getfield 172, 3) := by decide +kernel
theorem dX9_sees_88 : decode cX9_sees 88 = .ok (.iadd, 1) := by decide +kernel
theorem dX9_sees_89 : decode cX9_sees 89 = .ok (.ireturn, 1) := by decide +kernel
theorem dX9_sees_90 : decode cX9_sees 90 = .ok (.aload_n 0, 1) := by decide +kernel
theorem dX9_sees_91 : decode cX9_sees 91 = .ok (.iload_n 2, 1) := by decide +kernel
theorem dX9_sees_92 : decode cX9_sees 92 = .ok (.iload_n 3, 1) := by decide +kernel
theorem dX9_sees_93 : decode cX9_sees 93 = .ok (.aload_n 0, 1) := by decide +kernel
theorem dX9_sees_94 : decode cX9_sees 94 = .ok (.getfield 77, 3) := by decide +kernel
theorem dX9_sees_97 : decode cX9_sees 97 = .ok (.iload_n 1, 1) := by decide +kernel
theorem dX9_sees_98 : decode cX9_sees 98 = .ok (.iaload, 1) := by decide +kernel
theorem dX9_sees_99 : decode cX9_sees 99 = .ok (.invokevirtual 199, 3) := by decide +kernel
theorem dX9_sees_102 : decode cX9_sees 102 = .ok (.ireturn, 1) := by decide +kernel
theorem dX9_sees_103 : decode cX9_sees 103 = .ok (.aload_n 0, 1) := by decide +kernel
theorem dX9_sees_104 : decode cX9_sees 104 = .ok (.iload_n 2, 1) := by decide +kernel
theorem dX9_sees_105 : decode cX9_sees 105 = .ok (.iload_n 3, 1) := by decide +kernel
theorem dX9_sees_106 : decode cX9_sees 106 = .ok (.invokevirtual 159, 3) := by decide +kernel
theorem dX9_sees_109 : decode cX9_sees 109 = .ok (.istore 4, 2) := by decide +kernel
theorem dX9_sees_111 : decode cX9_sees 111 = .ok (.iload 4, 2) := by decide +kernel
theorem dX9_sees_113 : decode cX9_sees 113 = .ok (.ifCond .ge 8, 3) := by decide +kernel
theorem dX9_sees_116 : decode cX9_sees 116 = .ok (.bipush 99, 2) := by decide +kernel
theorem dX9_sees_118 : decode cX9_sees 118 = .ok (.goto 5, 3) := by decide +kernel
theorem dX9_sees_121 : decode cX9_sees 121 = .ok (.iload 4, 2) := by decide +kernel
theorem dX9_sees_123 : decode cX9_sees 123 = .ok (.ireturn, 1) := by decide +kernel
theorem dX9_sees_124 : decode cX9_sees 124 = .ok (.aload_n 0, 1) := by decide +kernel
theorem dX9_sees_125 : decode cX9_sees 125 = .ok (.iconst 0, 1) := by decide +kernel
theorem dX9_sees_126 : decode cX9_sees 126 = .ok (.iload_n 2, 1) := by decide +kernel
theorem dX9_sees_127 : decode cX9_sees 127 = .ok (.iconst 0, 1) := by decide +kernel
theorem dX9_sees_128 : decode cX9_sees 128 = .ok (.iconst 0, 1) := by decide +kernel
theorem dX9_sees_129 : decode cX9_sees 129 = .ok (.invokevirtual 168, 3) := by decide +kernel
theorem dX9_sees_132 : decode cX9_sees 132 = .ok (.ifCond .ge 7, 3) := by decide +kernel
theorem dX9_sees_135 : decode cX9_sees 135 = .ok (.iconst 1, 1) := by decide +kernel
theorem dX9_sees_136 : decode cX9_sees 136 = .ok (.goto 4, 3) := by decide +kernel
theorem dX9_sees_139 : decode cX9_sees 139 = .ok (.iconst 0, 1) := by decide +kernel
theorem dX9_sees_140 : decode cX9_sees 140 = .ok (.ireturn, 1) := by decide +kernel
theorem dX9_answer_0 : decode cX9_answer 0 = .ok (.aload_n 0, 1) := by decide +kernel
theorem dX9_answer_1 : decode cX9_answer 1 = .ok (.iconst 0, 1) := by decide +kernel
theorem dX9_answer_2 : decode cX9_answer 2 = .ok (.putfield 1, 3) := by decide +kernel
theorem dX9_answer_5 : decode cX9_answer 5 = .ok (.aload_n 0, 1) := by decide +kernel
theorem dX9_answer_6 : decode cX9_answer 6 = .ok (.iload_n 1, 1) := by decide +kernel
theorem dX9_answer_7 : decode cX9_answer 7 = .ok (.invokevirtual 203, 3) := by decide +kernel
theorem dX9_answer_10 : decode cX9_answer 10 = .ok (.ifCond .eq 16, 3) := by decide +kernel
theorem dX9_answer_13 : decode cX9_answer 13 = .ok (.iload_n 2, 1) := by decide +kernel
theorem dX9_answer_14 : decode cX9_answer 14 = .ok (.iconst (-1), 1) := by decide +kernel
theorem dX9_answer_15 : decode cX9_answer 15 = .ok (.if_icmp .eq 16, 3) := by decide +kernel
theorem dX9_answer_18 : decode cX9_answer 18 = .ok (.aload_n 0, 1) := by decide +kernel
theorem dX9_answer_19 : decode cX9_answer 19 = .ok (.iload_n 2, 1) := by decide +kernel
theorem dX9_answer_20 : decode cX9_answer 20 = .ok (.invokevirtual 182, 3) := by decide +kernel
theorem dX9_answer_23 : decode cX9_answer 23 = .ok (.ifCond .ne 8, 3) := by decide +kernel
theorem dX9_answer_26 : decode cX9_answer 26 = .ok (.aload_n 0, 1) := by decide +kernel
theorem dX9_answer_27 : decode cX9_answer 27 = .ok (.invokevirtual 206, 3) := by decide +kernel
theorem dX9_answer_30 : decode cX9_answer 30 = .ok (.ireturn, 1) := by decide +kernel
theorem dX9_answer_31 : decode cX9_answer 31 = .ok (.aload_n 0, 1) := by decide +kernel
theorem dX9_answer_32 : decode cX9_answer 32 = .ok (.iload_n 2, 1) := by decide +kernel
theorem dX9_answer_33 : decode cX9_answer 33 = .ok (.iconst 0, 1) := by decide +kernel
theorem dX9_answer_34 : decode cX9_answer 34 = .ok (.invokevirtual 185, 3) := by decide +kernel
theorem dX9_answer_37 : decode cX9_answer 37 = .ok (.aload_n 0, 1) := by decide +kernel
theorem dX9_answer_38 : decode cX9_answer 38 = .ok (.iload_n 1, 1) := by decide +kernel
theorem dX9_answer_39 : decode cX9_answer 39 = .ok (.invokevirtual 210, 3) := by decide +kernel
theorem dX9_answer_42 : decode cX9_answer 42 = .ok (.ireturn, 1) := by decide +kernel
theorem dX9_asks_0 : decode cX9_asks 0 = .ok (.iconst 0, 1) := by decide +kernel
theorem dX9_asks_1 : decode cX9_asks 1 = .ok (.istore_n 1, 1) := by decide +kernel
theorem dX9_asks_2 : decode cX9_asks 2 = .ok (.iload_n 1, 1) := by decide +kernel
theorem dX9_asks_3 : decode cX9_asks 3 = .ok (.aload_n 0, 1) := by decide +kernel
theorem dX9_asks_4 : decode cX9_asks 4 = .ok (.getfield 104, 3) := by decide +kernel
theorem dX9_asks_7 : decode cX9_asks 7 = .ok (.if_icmp .ge 47, 3) := by decide +kernel
theorem dX9_asks_10 : decode cX9_asks 10 = .ok (.aload_n 0, 1) := by decide +kernel
theorem dX9_asks_11 : decode cX9_asks 11 = .ok (.iload_n 1, 1) := by decide +kernel
theorem dX9_asks_12 : decode cX9_asks 12 = .ok (.iconst 0, 1) := by decide +kernel
theorem dX9_asks_13 : decode cX9_asks 13 = .ok (.invokevirtual 185, 3) := by decide +kernel
theorem dX9_asks_16 : decode cX9_asks 16 = .ok (.iconst 0, 1) := by decide +kernel
theorem dX9_asks_17 : decode cX9_asks 17 = .ok (.istore_n 2, 1) := by decide +kernel
theorem dX9_asks_18 : decode cX9_asks 18 = .ok (.iload_n 2, 1) := by decide +kernel
theorem dX9_asks_19 : decode cX9_asks 19 = .ok (.aload_n 0, 1) := by decide +kernel
theorem dX9_asks_20 : decode cX9_asks 20 = .ok (.getfield 107, 3) := by decide +kernel
theorem dX9_asks_23 : decode cX9_asks 23 = .ok (.if_icmp .ge 25, 3) := by decide +kernel
theorem dX9_asks_26 : decode cX9_asks 26 = .ok (.aload_n 0, 1) := by decide +kernel
theorem dX9_asks_27 : decode cX9_asks 27 = .ok (.getfield 83, 3) := by decide +kernel
theorem dX9_asks_30 : decode cX9_asks 30 = .ok (.bipush 12, 2) := by decide +kernel
theorem dX9_asks_32 : decode cX9_asks 32 = .ok (.iload_n 2, 1) := by decide +kernel
theorem dX9_asks_33 : decode cX9_asks 33 = .ok (.imul, 1) := by decide +kernel
theorem dX9_asks_34 : decode cX9_asks 34 = .ok (.iload_n 1, 1) := by decide +kernel
theorem dX9_asks_35 : decode cX9_asks 35 = .ok (.iadd, 1) := by decide +kernel
theorem dX9_asks_36 : decode cX9_asks 36 = .ok (.aload_n 0, 1) := by decide +kernel
theorem dX9_asks_37 : decode cX9_asks 37 = .ok (.iload_n 2, 1) := by decide +kernel
theorem dX9_asks_38 : decode cX9_asks 38 = .ok (.invokevirtual 210, 3) := by decide +kernel
theorem dX9_asks_41 : decode cX9_asks 41 = .ok (.iastore, 1) := by decide +kernel
theorem dX9_asks_42 : decode cX9_asks 42 = .ok (.iinc 2 1, 3) := by decide +kernel
theorem dX9_asks_45 : decode cX9_asks 45 = .ok (.goto (-27), 3) := by decide +kernel
theorem dX9_asks_48 : decode cX9_asks 48 = .ok (.iinc 1 1, 3) := by decide +kernel
theorem dX9_asks_51 : decode cX9_asks 51 = .ok (.goto (-49), 3) := by decide +kernel
theorem dX9_asks_54 : decode cX9_asks 54 = .ok (.return_, 1) := by decide +kernel
theorem dX9_alike_0 : decode cX9_alike 0 = .ok (.iconst 0, 1) := by decide +kernel
theorem dX9_alike_1 : decode cX9_alike 1 = .ok (.istore 4, 2) := by decide +kernel
theorem dX9_alike_3 : decode cX9_alike 3 = .ok (.iconst 0, 1) := by decide +kernel
theorem dX9_alike_4 : decode cX9_alike 4 = .ok (.istore 5, 2) := by decide +kernel
theorem dX9_alike_6 : decode cX9_alike 6 = .ok (.iload 5, 2) := by decide +kernel
theorem dX9_alike_8 : decode cX9_alike 8 = .ok (.aload_n 0, 1) := by decide +kernel
theorem dX9_alike_9 : decode cX9_alike 9 = .ok (.getfield 104, 3) := by decide +kernel
theorem dX9_alike_12 : decode cX9_alike 12 = .ok (.if_icmp .ge 58, 3) := by decide +kernel
theorem dX9_alike_15 : decode cX9_alike 15 = .ok (.iload 4, 2) := by decide +kernel
theorem dX9_alike_17 : decode cX9_alike 17 = .ok (.iload_n 2, 1) := by decide +kernel
theorem dX9_alike_18 : decode cX9_alike 18 = .ok (.iload 5, 2) := by decide +kernel
theorem dX9_alike_20 : decode cX9_alike 20 = .ok (.ishr, 1) := by decide +kernel
theorem dX9_alike_21 : decode cX9_alike 21 = .ok (.iconst 1, 1) := by decide +kernel
theorem dX9_alike_22 : decode cX9_alike 22 = .ok (.iand, 1) := by decide +kernel
theorem dX9_alike_23 : decode cX9_alike 23 = .ok (.iconst 1, 1) := by decide +kernel
theorem dX9_alike_24 : decode cX9_alike 24 = .ok (.if_icmp .ne 36, 3) := by decide +kernel
theorem dX9_alike_27 : decode cX9_alike 27 = .ok (.aload_n 0, 1) := by decide +kernel
theorem dX9_alike_28 : decode cX9_alike 28 = .ok (.getfield 83, 3) := by decide +kernel
theorem dX9_alike_31 : decode cX9_alike 31 = .ok (.bipush 12, 2) := by decide +kernel
theorem dX9_alike_33 : decode cX9_alike 33 = .ok (.iload_n 1, 1) := by decide +kernel
theorem dX9_alike_34 : decode cX9_alike 34 = .ok (.imul, 1) := by decide +kernel
theorem dX9_alike_35 : decode cX9_alike 35 = .ok (.iload 5, 2) := by decide +kernel
theorem dX9_alike_37 : decode cX9_alike 37 = .ok (.iadd, 1) := by decide +kernel
theorem dX9_alike_38 : decode cX9_alike 38 = .ok (.iaload, 1) := by decide +kernel
theorem dX9_alike_39 : decode cX9_alike 39 = .ok (.aload_n 0, 1) := by decide +kernel
theorem dX9_alike_40 : decode cX9_alike 40 = .ok (.getfield 83, 3) := by decide +kernel
theorem dX9_alike_43 : decode cX9_alike 43 = .ok (.bipush 12, 2) := by decide +kernel
theorem dX9_alike_45 : decode cX9_alike 45 = .ok (.iload_n 1, 1) := by decide +kernel
theorem dX9_alike_46 : decode cX9_alike 46 = .ok (.imul, 1) := by decide +kernel
theorem dX9_alike_47 : decode cX9_alike 47 = .ok (.iload_n 3, 1) := by decide +kernel
theorem dX9_alike_48 : decode cX9_alike 48 = .ok (.iadd, 1) := by decide +kernel
theorem dX9_alike_49 : decode cX9_alike 49 = .ok (.iaload, 1) := by decide +kernel
theorem dX9_alike_50 : decode cX9_alike 50 = .ok (.if_icmp .ne 10, 3) := by decide +kernel
theorem dX9_alike_53 : decode cX9_alike 53 = .ok (.iconst 1, 1) := by decide +kernel
theorem dX9_alike_54 : decode cX9_alike 54 = .ok (.iload 5, 2) := by decide +kernel
theorem dX9_alike_56 : decode cX9_alike 56 = .ok (.ishl, 1) := by decide +kernel
theorem dX9_alike_57 : decode cX9_alike 57 = .ok (.goto 4, 3) := by decide +kernel
theorem dX9_alike_60 : decode cX9_alike 60 = .ok (.iconst 0, 1) := by decide +kernel
theorem dX9_alike_61 : decode cX9_alike 61 = .ok (.ior, 1) := by decide +kernel
theorem dX9_alike_62 : decode cX9_alike 62 = .ok (.istore 4, 2) := by decide +kernel
theorem dX9_alike_64 : decode cX9_alike 64 = .ok (.iinc 5 1, 3) := by decide +kernel
theorem dX9_alike_67 : decode cX9_alike 67 = .ok (.goto (-61), 3) := by decide +kernel
theorem dX9_alike_70 : decode cX9_alike 70 = .ok (.iload 4, 2) := by decide +kernel
theorem dX9_alike_72 : decode cX9_alike 72 = .ok (.ireturn, 1) := by decide +kernel
theorem dX9_parts_0 : decode cX9_parts 0 = .ok (.aload_n 0, 1) := by decide +kernel
theorem dX9_parts_1 : decode cX9_parts 1 = .ok (.iload_n 1, 1) := by decide +kernel
theorem dX9_parts_2 : decode cX9_parts 2 = .ok (.iload_n 2, 1) := by decide +kernel
theorem dX9_parts_3 : decode cX9_parts 3 = .ok (.iload_n 2, 1) := by decide +kernel
theorem dX9_parts_4 : decode cX9_parts 4 = .ok (.invokestatic 214, 3) := by decide +kernel
theorem dX9_parts_7 : decode cX9_parts 7 = .ok (.invokevirtual 219, 3) := by decide +kernel
theorem dX9_parts_10 : decode cX9_parts 10 = .ok (.iload_n 2, 1) := by decide +kernel
theorem dX9_parts_11 : decode cX9_parts 11 = .ok (.if_icmp .eq 7, 3) := by decide +kernel
theorem dX9_parts_14 : decode cX9_parts 14 = .ok (.iconst 1, 1) := by decide +kernel
theorem dX9_parts_15 : decode cX9_parts 15 = .ok (.goto 4, 3) := by decide +kernel
theorem dX9_parts_18 : decode cX9_parts 18 = .ok (.iconst 0, 1) := by decide +kernel
theorem dX9_parts_19 : decode cX9_parts 19 = .ok (.ireturn, 1) := by decide +kernel
theorem dX9_unlike_0 : decode cX9_unlike 0 = .ok (.aload_n 0, 1) := by decide +kernel
theorem dX9_unlike_1 : decode cX9_unlike 1 = .ok (.iconst 0, 1) := by decide +kernel
theorem dX9_unlike_2 : decode cX9_unlike 2 = .ok (.putfield 1, 3) := by decide +kernel
theorem dX9_unlike_5 : decode cX9_unlike 5 = .ok (.aload_n 0, 1) := by decide +kernel
theorem dX9_unlike_6 : decode cX9_unlike 6 = .ok (.iload_n 1, 1) := by decide +kernel
theorem dX9_unlike_7 : decode cX9_unlike 7 = .ok (.invokevirtual 182, 3) := by decide +kernel
theorem dX9_unlike_10 : decode cX9_unlike 10 = .ok (.ifCond .eq 11, 3) := by decide +kernel
theorem dX9_unlike_13 : decode cX9_unlike 13 = .ok (.aload_n 0, 1) := by decide +kernel
theorem dX9_unlike_14 : decode cX9_unlike 14 = .ok (.iload_n 2, 1) := by decide +kernel
theorem dX9_unlike_15 : decode cX9_unlike 15 = .ok (.invokevirtual 182, 3) := by decide +kernel
theorem dX9_unlike_18 : decode cX9_unlike 18 = .ok (.ifCond .ne 5, 3) := by decide +kernel
theorem dX9_unlike_21 : decode cX9_unlike 21 = .ok (.iconst (-1), 1) := by decide +kernel
theorem dX9_unlike_22 : decode cX9_unlike 22 = .ok (.ireturn, 1) := by decide +kernel
theorem dX9_unlike_23 : decode cX9_unlike 23 = .ok (.aload_n 0, 1) := by decide +kernel
theorem dX9_unlike_24 : decode cX9_unlike 24 = .ok (.invokevirtual 222, 3) := by decide +kernel
theorem dX9_unlike_27 : decode cX9_unlike 27 = .ok (.iconst 0, 1) := by decide +kernel
theorem dX9_unlike_28 : decode cX9_unlike 28 = .ok (.istore_n 3, 1) := by decide +kernel
theorem dX9_unlike_29 : decode cX9_unlike 29 = .ok (.iconst 0, 1) := by decide +kernel
theorem dX9_unlike_30 : decode cX9_unlike 30 = .ok (.istore 4, 2) := by decide +kernel
theorem dX9_unlike_32 : decode cX9_unlike 32 = .ok (.iload 4, 2) := by decide +kernel
theorem dX9_unlike_34 : decode cX9_unlike 34 = .ok (.aload_n 0, 1) := by decide +kernel
theorem dX9_unlike_35 : decode cX9_unlike 35 = .ok (.getfield 107, 3) := by decide +kernel
theorem dX9_unlike_38 : decode cX9_unlike 38 = .ok (.if_icmp .ge 36, 3) := by decide +kernel
theorem dX9_unlike_41 : decode cX9_unlike 41 = .ok (.iload_n 3, 1) := by decide +kernel
theorem dX9_unlike_42 : decode cX9_unlike 42 = .ok (.aload_n 0, 1) := by decide +kernel
theorem dX9_unlike_43 : decode cX9_unlike 43 = .ok (.iload 4, 2) := by decide +kernel
theorem dX9_unlike_45 : decode cX9_unlike 45 = .ok (.iconst 1, 1) := by decide +kernel
theorem dX9_unlike_46 : decode cX9_unlike 46 = .ok (.iload_n 1, 1) := by decide +kernel
theorem dX9_unlike_47 : decode cX9_unlike 47 = .ok (.ishl, 1) := by decide +kernel
theorem dX9_unlike_48 : decode cX9_unlike 48 = .ok (.iconst 1, 1) := by decide +kernel
theorem dX9_unlike_49 : decode cX9_unlike 49 = .ok (.iload_n 2, 1) := by decide +kernel
theorem dX9_unlike_50 : decode cX9_unlike 50 = .ok (.ishl, 1) := by decide +kernel
theorem dX9_unlike_51 : decode cX9_unlike 51 = .ok (.ior, 1) := by decide +kernel
theorem dX9_unlike_52 : decode cX9_unlike 52 = .ok (.invokevirtual 225, 3) := by decide +kernel
theorem dX9_unlike_55 : decode cX9_unlike 55 = .ok (.ifCond .eq 10, 3) := by decide +kernel
theorem dX9_unlike_58 : decode cX9_unlike 58 = .ok (.iconst 1, 1) := by decide +kernel
theorem dX9_unlike_59 : decode cX9_unlike 59 = .ok (.iload 4, 2) := by decide +kernel
theorem dX9_unlike_61 : decode cX9_unlike 61 = .ok (.ishl, 1) := by decide +kernel
theorem dX9_unlike_62 : decode cX9_unlike 62 = .ok (.goto 4, 3) := by decide +kernel
theorem dX9_unlike_65 : decode cX9_unlike 65 = .ok (.iconst 0, 1) := by decide +kernel
theorem dX9_unlike_66 : decode cX9_unlike 66 = .ok (.ior, 1) := by decide +kernel
theorem dX9_unlike_67 : decode cX9_unlike 67 = .ok (.istore_n 3, 1) := by decide +kernel
theorem dX9_unlike_68 : decode cX9_unlike 68 = .ok (.iinc 4 1, 3) := by decide +kernel
theorem dX9_unlike_71 : decode cX9_unlike 71 = .ok (.goto (-39), 3) := by decide +kernel
theorem dX9_unlike_74 : decode cX9_unlike 74 = .ok (.iload_n 3, 1) := by decide +kernel
theorem dX9_unlike_75 : decode cX9_unlike 75 = .ok (.ireturn, 1) := by decide +kernel
theorem dX9_fair_0 : decode cX9_fair 0 = .ok (.aload_n 0, 1) := by decide +kernel
theorem dX9_fair_1 : decode cX9_fair 1 = .ok (.iconst 0, 1) := by decide +kernel
theorem dX9_fair_2 : decode cX9_fair 2 = .ok (.putfield 1, 3) := by decide +kernel
theorem dX9_fair_5 : decode cX9_fair 5 = .ok (.iconst 0, 1) := by decide +kernel
theorem dX9_fair_6 : decode cX9_fair 6 = .ok (.istore_n 1, 1) := by decide +kernel
theorem dX9_fair_7 : decode cX9_fair 7 = .ok (.iload_n 1, 1) := by decide +kernel
theorem dX9_fair_8 : decode cX9_fair 8 = .ok (.aload_n 0, 1) := by decide +kernel
theorem dX9_fair_9 : decode cX9_fair 9 = .ok (.getfield 104, 3) := by decide +kernel
theorem dX9_fair_12 : decode cX9_fair 12 = .ok (.if_icmp .ge 57, 3) := by decide +kernel
theorem dX9_fair_15 : decode cX9_fair 15 = .ok (.iload_n 1, 1) := by decide +kernel
theorem dX9_fair_16 : decode cX9_fair 16 = .ok (.iconst 1, 1) := by decide +kernel
theorem dX9_fair_17 : decode cX9_fair 17 = .ok (.iadd, 1) := by decide +kernel
theorem dX9_fair_18 : decode cX9_fair 18 = .ok (.istore_n 2, 1) := by decide +kernel
theorem dX9_fair_19 : decode cX9_fair 19 = .ok (.iload_n 2, 1) := by decide +kernel
theorem dX9_fair_20 : decode cX9_fair 20 = .ok (.aload_n 0, 1) := by decide +kernel
theorem dX9_fair_21 : decode cX9_fair 21 = .ok (.getfield 104, 3) := by decide +kernel
theorem dX9_fair_24 : decode cX9_fair 24 = .ok (.if_icmp .ge 39, 3) := by decide +kernel
theorem dX9_fair_27 : decode cX9_fair 27 = .ok (.aload_n 0, 1) := by decide +kernel
theorem dX9_fair_28 : decode cX9_fair 28 = .ok (.iload_n 1, 1) := by decide +kernel
theorem dX9_fair_29 : decode cX9_fair 29 = .ok (.iload_n 2, 1) := by decide +kernel
theorem dX9_fair_30 : decode cX9_fair 30 = .ok (.invokevirtual 228, 3) := by decide +kernel
theorem dX9_fair_33 : decode cX9_fair 33 = .ok (.ifCond .ne 24, 3) := by decide +kernel
theorem dX9_fair_36 : decode cX9_fair 36 = .ok (.aload_n 0, 1) := by decide +kernel
theorem dX9_fair_37 : decode cX9_fair 37 = .ok (.iconst 2, 1) := by decide +kernel
theorem dX9_fair_38 : decode cX9_fair 38 = .ok (.putfield 110, 3) := by decide +kernel
theorem dX9_fair_41 : decode cX9_fair 41 = .ok (.aload_n 0, 1) := by decide +kernel
theorem dX9_fair_42 : decode cX9_fair 42 = .ok (.getfield 62, 3) := by decide +kernel
theorem dX9_fair_45 : decode cX9_fair 45 = .ok (.iconst 0, 1) := by decide +kernel
theorem dX9_fair_46 : decode cX9_fair 46 = .ok (.iload_n 1, 1) := by decide +kernel
theorem dX9_fair_47 : decode cX9_fair 47 = .ok (.iastore, 1) := by decide +kernel
theorem dX9_fair_48 : decode cX9_fair 48 = .ok (.aload_n 0, 1) := by decide +kernel
theorem dX9_fair_49 : decode cX9_fair 49 = .ok (.getfield 62, 3) := by decide +kernel
theorem dX9_fair_52 : decode cX9_fair 52 = .ok (.iconst 1, 1) := by decide +kernel
theorem dX9_fair_53 : decode cX9_fair 53 = .ok (.iload_n 2, 1) := by decide +kernel
theorem dX9_fair_54 : decode cX9_fair 54 = .ok (.iastore, 1) := by decide +kernel
theorem dX9_fair_55 : decode cX9_fair 55 = .ok (.iconst 1, 1) := by decide +kernel
theorem dX9_fair_56 : decode cX9_fair 56 = .ok (.ireturn, 1) := by decide +kernel
theorem dX9_fair_57 : decode cX9_fair 57 = .ok (.iinc 2 1, 3) := by decide +kernel
theorem dX9_fair_60 : decode cX9_fair 60 = .ok (.goto (-41), 3) := by decide +kernel
theorem dX9_fair_63 : decode cX9_fair 63 = .ok (.iinc 1 1, 3) := by decide +kernel
theorem dX9_fair_66 : decode cX9_fair 66 = .ok (.goto (-59), 3) := by decide +kernel
theorem dX9_fair_69 : decode cX9_fair 69 = .ok (.iconst 0, 1) := by decide +kernel
theorem dX9_fair_70 : decode cX9_fair 70 = .ok (.ireturn, 1) := by decide +kernel
theorem dX9_groups_0 : decode cX9_groups 0 = .ok (.aload_n 0, 1) := by decide +kernel
theorem dX9_groups_1 : decode cX9_groups 1 = .ok (.iconst 0, 1) := by decide +kernel
theorem dX9_groups_2 : decode cX9_groups 2 = .ok (.putfield 1, 3) := by decide +kernel
theorem dX9_groups_5 : decode cX9_groups 5 = .ok (.aload_n 0, 1) := by decide +kernel
theorem dX9_groups_6 : decode cX9_groups 6 = .ok (.iload_n 1, 1) := by decide +kernel
theorem dX9_groups_7 : decode cX9_groups 7 = .ok (.invokevirtual 203, 3) := by decide +kernel
theorem dX9_groups_10 : decode cX9_groups 10 = .ok (.ifCond .ne 5, 3) := by decide +kernel
theorem dX9_groups_13 : decode cX9_groups 13 = .ok (.iconst (-1), 1) := by decide +kernel
theorem dX9_groups_14 : decode cX9_groups 14 = .ok (.ireturn, 1) := by decide +kernel
theorem dX9_groups_15 : decode cX9_groups 15 = .ok (.aload_n 0, 1) := by decide +kernel
theorem dX9_groups_16 : decode cX9_groups 16 = .ok (.invokevirtual 222, 3) := by decide +kernel
theorem dX9_groups_19 : decode cX9_groups 19 = .ok (.iconst 0, 1) := by decide +kernel
theorem dX9_groups_20 : decode cX9_groups 20 = .ok (.istore_n 2, 1) := by decide +kernel
theorem dX9_groups_21 : decode cX9_groups 21 = .ok (.iconst 1, 1) := by decide +kernel
theorem dX9_groups_22 : decode cX9_groups 22 = .ok (.aload_n 0, 1) := by decide +kernel
theorem dX9_groups_23 : decode cX9_groups 23 = .ok (.getfield 104, 3) := by decide +kernel
theorem dX9_groups_26 : decode cX9_groups 26 = .ok (.ishl, 1) := by decide +kernel
theorem dX9_groups_27 : decode cX9_groups 27 = .ok (.iconst 1, 1) := by decide +kernel
theorem dX9_groups_28 : decode cX9_groups 28 = .ok (.isub, 1) := by decide +kernel
theorem dX9_groups_29 : decode cX9_groups 29 = .ok (.istore_n 3, 1) := by decide +kernel
theorem dX9_groups_30 : decode cX9_groups 30 = .ok (.iload_n 3, 1) := by decide +kernel
theorem dX9_groups_31 : decode cX9_groups 31 = .ok (.ifCond .eq 24, 3) := by decide +kernel
theorem dX9_groups_34 : decode cX9_groups 34 = .ok (.iinc 2 1, 3) := by decide +kernel
theorem dX9_groups_37 : decode cX9_groups 37 = .ok (.iload_n 3, 1) := by decide +kernel
theorem dX9_groups_38 : decode cX9_groups 38 = .ok (.aload_n 0, 1) := by decide +kernel
theorem dX9_groups_39 : decode cX9_groups 39 = .ok (.iload_n 1, 1) := by decide +kernel
theorem dX9_groups_40 : decode cX9_groups 40 = .ok (.iload_n 3, 1) := by decide +kernel
theorem dX9_groups_41 : decode cX9_groups 41 = .ok (.iload_n 3, 1) := by decide +kernel
theorem dX9_groups_42 : decode cX9_groups 42 = .ok (.invokestatic 214, 3) := by decide +kernel
theorem dX9_groups_45 : decode cX9_groups 45 = .ok (.invokevirtual 219, 3) := by decide +kernel
theorem dX9_groups_48 : decode cX9_groups 48 = .ok (.iconst (-1), 1) := by decide +kernel
theorem dX9_groups_49 : decode cX9_groups 49 = .ok (.ixor, 1) := by decide +kernel
theorem dX9_groups_50 : decode cX9_groups 50 = .ok (.iand, 1) := by decide +kernel
theorem dX9_groups_51 : decode cX9_groups 51 = .ok (.istore_n 3, 1) := by decide +kernel
theorem dX9_groups_52 : decode cX9_groups 52 = .ok (.goto (-22), 3) := by decide +kernel
theorem dX9_groups_55 : decode cX9_groups 55 = .ok (.iload_n 2, 1) := by decide +kernel
theorem dX9_groups_56 : decode cX9_groups 56 = .ok (.ireturn, 1) := by decide +kernel
theorem dX9_greatest_0 : decode cX9_greatest 0 = .ok (.iconst 0, 1) := by decide +kernel
theorem dX9_greatest_1 : decode cX9_greatest 1 = .ok (.istore_n 3, 1) := by decide +kernel
theorem dX9_greatest_2 : decode cX9_greatest 2 = .ok (.iload_n 2, 1) := by decide +kernel
theorem dX9_greatest_3 : decode cX9_greatest 3 = .ok (.istore 4, 2) := by decide +kernel
theorem dX9_greatest_5 : decode cX9_greatest 5 = .ok (.iload 4, 2) := by decide +kernel
theorem dX9_greatest_7 : decode cX9_greatest 7 = .ok (.ifCond .eq 40, 3) := by decide +kernel
theorem dX9_greatest_10 : decode cX9_greatest 10 = .ok (.aload_n 0, 1) := by decide +kernel
theorem dX9_greatest_11 : decode cX9_greatest 11 = .ok (.iload_n 1, 1) := by decide +kernel
theorem dX9_greatest_12 : decode cX9_greatest 12 = .ok (.iload 4, 2) := by decide +kernel
theorem dX9_greatest_14 : decode cX9_greatest 14 = .ok (.iload 4, 2) := by decide +kernel
theorem dX9_greatest_16 : decode cX9_greatest 16 = .ok (.invokestatic 214, 3) := by decide +kernel
theorem dX9_greatest_19 : decode cX9_greatest 19 = .ok (.invokevirtual 219, 3) := by decide +kernel
theorem dX9_greatest_22 : decode cX9_greatest 22 = .ok (.istore 5, 2) := by decide +kernel
theorem dX9_greatest_24 : decode cX9_greatest 24 = .ok (.iload_n 3, 1) := by decide +kernel
theorem dX9_greatest_25 : decode cX9_greatest 25 = .ok (.aload_n 0, 1) := by decide +kernel
theorem dX9_greatest_26 : decode cX9_greatest 26 = .ok (.iload 5, 2) := by decide +kernel
theorem dX9_greatest_28 : decode cX9_greatest 28 = .ok (.invokevirtual 231, 3) := by decide +kernel
theorem dX9_greatest_31 : decode cX9_greatest 31 = .ok (.invokestatic 234, 3) := by decide +kernel
theorem dX9_greatest_34 : decode cX9_greatest 34 = .ok (.istore_n 3, 1) := by decide +kernel
theorem dX9_greatest_35 : decode cX9_greatest 35 = .ok (.iload 4, 2) := by decide +kernel
theorem dX9_greatest_37 : decode cX9_greatest 37 = .ok (.iload 5, 2) := by decide +kernel
theorem dX9_greatest_39 : decode cX9_greatest 39 = .ok (.iconst (-1), 1) := by decide +kernel
theorem dX9_greatest_40 : decode cX9_greatest 40 = .ok (.ixor, 1) := by decide +kernel
theorem dX9_greatest_41 : decode cX9_greatest 41 = .ok (.iand, 1) := by decide +kernel
theorem dX9_greatest_42 : decode cX9_greatest 42 = .ok (.istore 4, 2) := by decide +kernel
theorem dX9_greatest_44 : decode cX9_greatest 44 = .ok (.goto (-39), 3) := by decide +kernel
theorem dX9_greatest_47 : decode cX9_greatest 47 = .ok (.iload_n 3, 1) := by decide +kernel
theorem dX9_greatest_48 : decode cX9_greatest 48 = .ok (.ireturn, 1) := by decide +kernel
theorem dX9_worstOf_0 : decode cX9_worstOf 0 = .ok (.aload_n 0, 1) := by decide +kernel
theorem dX9_worstOf_1 : decode cX9_worstOf 1 = .ok (.getfield 86, 3) := by decide +kernel
theorem dX9_worstOf_4 : decode cX9_worstOf 4 = .ok (.iload_n 1, 1) := by decide +kernel
theorem dX9_worstOf_5 : decode cX9_worstOf 5 = .ok (.iaload, 1) := by decide +kernel
theorem dX9_worstOf_6 : decode cX9_worstOf 6 = .ok (.ifCond .lt 10, 3) := by decide +kernel
theorem dX9_worstOf_9 : decode cX9_worstOf 9 = .ok (.aload_n 0, 1) := by decide +kernel
theorem dX9_worstOf_10 : decode cX9_worstOf 10 = .ok (.getfield 86, 3) := by decide +kernel
theorem dX9_worstOf_13 : decode cX9_worstOf 13 = .ok (.iload_n 1, 1) := by decide +kernel
theorem dX9_worstOf_14 : decode cX9_worstOf 14 = .ok (.iaload, 1) := by decide +kernel
theorem dX9_worstOf_15 : decode cX9_worstOf 15 = .ok (.ireturn, 1) := by decide +kernel
theorem dX9_worstOf_16 : decode cX9_worstOf 16 = .ok (.ldc 147, 2) := by decide +kernel
theorem dX9_worstOf_18 : decode cX9_worstOf 18 = .ok (.istore_n 2, 1) := by decide +kernel
theorem dX9_worstOf_19 : decode cX9_worstOf 19 = .ok (.iconst 0, 1) := by decide +kernel
theorem dX9_worstOf_20 : decode cX9_worstOf 20 = .ok (.istore_n 3, 1) := by decide +kernel
theorem dX9_worstOf_21 : decode cX9_worstOf 21 = .ok (.iload_n 3, 1) := by decide +kernel
theorem dX9_worstOf_22 : decode cX9_worstOf 22 = .ok (.aload_n 0, 1) := by decide +kernel
theorem dX9_worstOf_23 : decode cX9_worstOf 23 = .ok (.getfield 107, 3) := by decide +kernel
theorem dX9_worstOf_26 : decode cX9_worstOf 26 = .ok (.if_icmp .ge 36, 3) := by decide +kernel
theorem dX9_worstOf_29 : decode cX9_worstOf 29 = .ok (.aload_n 0, 1) := by decide +kernel
theorem dX9_worstOf_30 : decode cX9_worstOf 30 = .ok (.iload_n 3, 1) := by decide +kernel
theorem dX9_worstOf_31 : decode cX9_worstOf 31 = .ok (.iload_n 1, 1) := by decide +kernel
theorem dX9_worstOf_32 : decode cX9_worstOf 32 = .ok (.invokevirtual 225, 3) := by decide +kernel
theorem dX9_worstOf_35 : decode cX9_worstOf 35 = .ok (.ifCond .eq 21, 3) := by decide +kernel
theorem dX9_worstOf_38 : decode cX9_worstOf 38 = .ok (.iload_n 2, 1) := by decide +kernel
theorem dX9_worstOf_39 : decode cX9_worstOf 39 = .ok (.aload_n 0, 1) := by decide +kernel
theorem dX9_worstOf_40 : decode cX9_worstOf 40 = .ok (.getfield 80, 3) := by decide +kernel
theorem dX9_worstOf_43 : decode cX9_worstOf 43 = .ok (.iload_n 3, 1) := by decide +kernel
theorem dX9_worstOf_44 : decode cX9_worstOf 44 = .ok (.iaload, 1) := by decide +kernel
theorem dX9_worstOf_45 : decode cX9_worstOf 45 = .ok (.aload_n 0, 1) := by decide +kernel
theorem dX9_worstOf_46 : decode cX9_worstOf 46 = .ok (.iload_n 3, 1) := by decide +kernel
theorem dX9_worstOf_47 : decode cX9_worstOf 47 = .ok (.iload_n 1, 1) := by decide +kernel
theorem dX9_worstOf_48 : decode cX9_worstOf 48 = .ok (.invokevirtual 239, 3) := by decide +kernel
theorem dX9_worstOf_51 : decode cX9_worstOf 51 = .ok (.iadd, 1) := by decide +kernel
theorem dX9_worstOf_52 : decode cX9_worstOf 52 = .ok (.invokestatic 242, 3) := by decide +kernel
theorem dX9_worstOf_55 : decode cX9_worstOf 55 = .ok (.istore_n 2, 1) := by decide +kernel
theorem dX9_worstOf_56 : decode cX9_worstOf 56 = .ok (.iinc 3 1, 3) := by decide +kernel
theorem dX9_worstOf_59 : decode cX9_worstOf 59 = .ok (.goto (-38), 3) := by decide +kernel
theorem dX9_worstOf_62 : decode cX9_worstOf 62 = .ok (.aload_n 0, 1) := by decide +kernel
theorem dX9_worstOf_63 : decode cX9_worstOf 63 = .ok (.getfield 86, 3) := by decide +kernel
theorem dX9_worstOf_66 : decode cX9_worstOf 66 = .ok (.iload_n 1, 1) := by decide +kernel
theorem dX9_worstOf_67 : decode cX9_worstOf 67 = .ok (.iload_n 2, 1) := by decide +kernel
theorem dX9_worstOf_68 : decode cX9_worstOf 68 = .ok (.ldc 147, 2) := by decide +kernel
theorem dX9_worstOf_70 : decode cX9_worstOf 70 = .ok (.if_icmp .ne 7, 3) := by decide +kernel
theorem dX9_worstOf_73 : decode cX9_worstOf 73 = .ok (.iconst 0, 1) := by decide +kernel
theorem dX9_worstOf_74 : decode cX9_worstOf 74 = .ok (.goto 4, 3) := by decide +kernel
theorem dX9_worstOf_77 : decode cX9_worstOf 77 = .ok (.iload_n 2, 1) := by decide +kernel
theorem dX9_worstOf_78 : decode cX9_worstOf 78 = .ok (.iastore, 1) := by decide +kernel
theorem dX9_worstOf_79 : decode cX9_worstOf 79 = .ok (.aload_n 0, 1) := by decide +kernel
theorem dX9_worstOf_80 : decode cX9_worstOf 80 = .ok (.getfield 86, 3) := by decide +kernel
theorem dX9_worstOf_83 : decode cX9_worstOf 83 = .ok (.iload_n 1, 1) := by decide +kernel
theorem dX9_worstOf_84 : decode cX9_worstOf 84 = .ok (.iaload, 1) := by decide +kernel
theorem dX9_worstOf_85 : decode cX9_worstOf 85 = .ok (.ireturn, 1) := by decide +kernel
theorem dX9_isSet_0 : decode cX9_isSet 0 = .ok (.iload_n 1, 1) := by decide +kernel
theorem dX9_isSet_1 : decode cX9_isSet 1 = .ok (.i2l, 1) := by decide +kernel
theorem dX9_isSet_2 : decode cX9_isSet 2 = .ok (.lconst 1, 1) := by decide +kernel
theorem dX9_isSet_3 : decode cX9_isSet 3 = .ok (.iconst 1, 1) := by decide +kernel
theorem dX9_isSet_4 : decode cX9_isSet 4 = .ok (.aload_n 0, 1) := by decide +kernel
theorem dX9_isSet_5 : decode cX9_isSet 5 = .ok (.getfield 104, 3) := by decide +kernel
theorem dX9_isSet_8 : decode cX9_isSet 8 = .ok (.ishl, 1) := by decide +kernel
theorem dX9_isSet_9 : decode cX9_isSet 9 = .ok (.iconst 1, 1) := by decide +kernel
theorem dX9_isSet_10 : decode cX9_isSet 10 = .ok (.isub, 1) := by decide +kernel
theorem dX9_isSet_11 : decode cX9_isSet 11 = .ok (.i2l, 1) := by decide +kernel
theorem dX9_isSet_12 : decode cX9_isSet 12 = .ok (.invokestatic 113, 3) := by decide +kernel
theorem dX9_isSet_15 : decode cX9_isSet 15 = .ok (.ireturn, 1) := by decide +kernel
theorem dX9_fresh_0 : decode cX9_fresh 0 = .ok (.aload_n 0, 1) := by decide +kernel
theorem dX9_fresh_1 : decode cX9_fresh 1 = .ok (.invokevirtual 222, 3) := by decide +kernel
theorem dX9_fresh_4 : decode cX9_fresh 4 = .ok (.iconst 0, 1) := by decide +kernel
theorem dX9_fresh_5 : decode cX9_fresh 5 = .ok (.istore_n 1, 1) := by decide +kernel
theorem dX9_fresh_6 : decode cX9_fresh 6 = .ok (.iload_n 1, 1) := by decide +kernel
theorem dX9_fresh_7 : decode cX9_fresh 7 = .ok (.aload_n 0, 1) := by decide +kernel
theorem dX9_fresh_8 : decode cX9_fresh 8 = .ok (.getfield 86, 3) := by decide +kernel
theorem dX9_fresh_11 : decode cX9_fresh 11 = .ok (.arraylength, 1) := by decide +kernel
theorem dX9_fresh_12 : decode cX9_fresh 12 = .ok (.if_icmp .ge 16, 3) := by decide +kernel
theorem dX9_fresh_15 : decode cX9_fresh 15 = .ok (.aload_n 0, 1) := by decide +kernel
theorem dX9_fresh_16 : decode cX9_fresh 16 = .ok (.getfield 86, 3) := by decide +kernel
theorem dX9_fresh_19 : decode cX9_fresh 19 = .ok (.iload_n 1, 1) := by decide +kernel
theorem dX9_fresh_20 : decode cX9_fresh 20 = .ok (.iconst (-1), 1) := by decide +kernel
theorem dX9_fresh_21 : decode cX9_fresh 21 = .ok (.iastore, 1) := by decide +kernel
theorem dX9_fresh_22 : decode cX9_fresh 22 = .ok (.iinc 1 1, 3) := by decide +kernel
theorem dX9_fresh_25 : decode cX9_fresh 25 = .ok (.goto (-19), 3) := by decide +kernel
theorem dX9_fresh_28 : decode cX9_fresh 28 = .ok (.return_, 1) := by decide +kernel
theorem dX9_worst_0 : decode cX9_worst 0 = .ok (.aload_n 0, 1) := by decide +kernel
theorem dX9_worst_1 : decode cX9_worst 1 = .ok (.iconst 0, 1) := by decide +kernel
theorem dX9_worst_2 : decode cX9_worst 2 = .ok (.putfield 1, 3) := by decide +kernel
theorem dX9_worst_5 : decode cX9_worst 5 = .ok (.aload_n 0, 1) := by decide +kernel
theorem dX9_worst_6 : decode cX9_worst 6 = .ok (.iload_n 1, 1) := by decide +kernel
theorem dX9_worst_7 : decode cX9_worst 7 = .ok (.invokevirtual 245, 3) := by decide +kernel
theorem dX9_worst_10 : decode cX9_worst 10 = .ok (.ifCond .ne 5, 3) := by decide +kernel
theorem dX9_worst_13 : decode cX9_worst 13 = .ok (.iconst (-1), 1) := by decide +kernel
theorem dX9_worst_14 : decode cX9_worst 14 = .ok (.ireturn, 1) := by decide +kernel
theorem dX9_worst_15 : decode cX9_worst 15 = .ok (.aload_n 0, 1) := by decide +kernel
theorem dX9_worst_16 : decode cX9_worst 16 = .ok (.invokevirtual 248, 3) := by decide +kernel
theorem dX9_worst_19 : decode cX9_worst 19 = .ok (.aload_n 0, 1) := by decide +kernel
theorem dX9_worst_20 : decode cX9_worst 20 = .ok (.iload_n 1, 1) := by decide +kernel
theorem dX9_worst_21 : decode cX9_worst 21 = .ok (.invokevirtual 231, 3) := by decide +kernel
theorem dX9_worst_24 : decode cX9_worst 24 = .ok (.ireturn, 1) := by decide +kernel
theorem dX9_largest_0 : decode cX9_largest 0 = .ok (.iconst 0, 1) := by decide +kernel
theorem dX9_largest_1 : decode cX9_largest 1 = .ok (.istore_n 3, 1) := by decide +kernel
theorem dX9_largest_2 : decode cX9_largest 2 = .ok (.iload_n 2, 1) := by decide +kernel
theorem dX9_largest_3 : decode cX9_largest 3 = .ok (.istore 4, 2) := by decide +kernel
theorem dX9_largest_5 : decode cX9_largest 5 = .ok (.iload 4, 2) := by decide +kernel
theorem dX9_largest_7 : decode cX9_largest 7 = .ok (.ifCond .eq 39, 3) := by decide +kernel
theorem dX9_largest_10 : decode cX9_largest 10 = .ok (.aload_n 0, 1) := by decide +kernel
theorem dX9_largest_11 : decode cX9_largest 11 = .ok (.iload_n 1, 1) := by decide +kernel
theorem dX9_largest_12 : decode cX9_largest 12 = .ok (.iload 4, 2) := by decide +kernel
theorem dX9_largest_14 : decode cX9_largest 14 = .ok (.iload 4, 2) := by decide +kernel
theorem dX9_largest_16 : decode cX9_largest 16 = .ok (.invokestatic 214, 3) := by decide +kernel
theorem dX9_largest_19 : decode cX9_largest 19 = .ok (.invokevirtual 219, 3) := by decide +kernel
theorem dX9_largest_22 : decode cX9_largest 22 = .ok (.istore 5, 2) := by decide +kernel
theorem dX9_largest_24 : decode cX9_largest 24 = .ok (.iload_n 3, 1) := by decide +kernel
theorem dX9_largest_25 : decode cX9_largest 25 = .ok (.iload 5, 2) := by decide +kernel
theorem dX9_largest_27 : decode cX9_largest 27 = .ok (.invokestatic 251, 3) := by decide +kernel
theorem dX9_largest_30 : decode cX9_largest 30 = .ok (.invokestatic 234, 3) := by decide +kernel
theorem dX9_largest_33 : decode cX9_largest 33 = .ok (.istore_n 3, 1) := by decide +kernel
theorem dX9_largest_34 : decode cX9_largest 34 = .ok (.iload 4, 2) := by decide +kernel
theorem dX9_largest_36 : decode cX9_largest 36 = .ok (.iload 5, 2) := by decide +kernel
theorem dX9_largest_38 : decode cX9_largest 38 = .ok (.iconst (-1), 1) := by decide +kernel
theorem dX9_largest_39 : decode cX9_largest 39 = .ok (.ixor, 1) := by decide +kernel
theorem dX9_largest_40 : decode cX9_largest 40 = .ok (.iand, 1) := by decide +kernel
theorem dX9_largest_41 : decode cX9_largest 41 = .ok (.istore 4, 2) := by decide +kernel
theorem dX9_largest_43 : decode cX9_largest 43 = .ok (.goto (-38), 3) := by decide +kernel
theorem dX9_largest_46 : decode cX9_largest 46 = .ok (.iload_n 3, 1) := by decide +kernel
theorem dX9_largest_47 : decode cX9_largest 47 = .ok (.ireturn, 1) := by decide +kernel
theorem dX9_tells_0 : decode cX9_tells 0 = .ok (.aload_n 0, 1) := by decide +kernel
theorem dX9_tells_1 : decode cX9_tells 1 = .ok (.iconst 0, 1) := by decide +kernel
theorem dX9_tells_2 : decode cX9_tells 2 = .ok (.putfield 1, 3) := by decide +kernel
theorem dX9_tells_5 : decode cX9_tells 5 = .ok (.aload_n 0, 1) := by decide +kernel
theorem dX9_tells_6 : decode cX9_tells 6 = .ok (.iload_n 1, 1) := by decide +kernel
theorem dX9_tells_7 : decode cX9_tells 7 = .ok (.invokevirtual 245, 3) := by decide +kernel
theorem dX9_tells_10 : decode cX9_tells 10 = .ok (.ifCond .ne 5, 3) := by decide +kernel
theorem dX9_tells_13 : decode cX9_tells 13 = .ok (.iconst (-1), 1) := by decide +kernel
theorem dX9_tells_14 : decode cX9_tells 14 = .ok (.ireturn, 1) := by decide +kernel
theorem dX9_tells_15 : decode cX9_tells 15 = .ok (.aload_n 0, 1) := by decide +kernel
theorem dX9_tells_16 : decode cX9_tells 16 = .ok (.invokevirtual 222, 3) := by decide +kernel
theorem dX9_tells_19 : decode cX9_tells 19 = .ok (.iconst (-1), 1) := by decide +kernel
theorem dX9_tells_20 : decode cX9_tells 20 = .ok (.istore_n 2, 1) := by decide +kernel
theorem dX9_tells_21 : decode cX9_tells 21 = .ok (.iconst 0, 1) := by decide +kernel
theorem dX9_tells_22 : decode cX9_tells 22 = .ok (.istore_n 3, 1) := by decide +kernel
theorem dX9_tells_23 : decode cX9_tells 23 = .ok (.iload_n 3, 1) := by decide +kernel
theorem dX9_tells_24 : decode cX9_tells 24 = .ok (.aload_n 0, 1) := by decide +kernel
theorem dX9_tells_25 : decode cX9_tells 25 = .ok (.getfield 107, 3) := by decide +kernel
theorem dX9_tells_28 : decode cX9_tells 28 = .ok (.if_icmp .ge 71, 3) := by decide +kernel
theorem dX9_tells_31 : decode cX9_tells 31 = .ok (.aload_n 0, 1) := by decide +kernel
theorem dX9_tells_32 : decode cX9_tells 32 = .ok (.iload_n 3, 1) := by decide +kernel
theorem dX9_tells_33 : decode cX9_tells 33 = .ok (.iload_n 1, 1) := by decide +kernel
theorem dX9_tells_34 : decode cX9_tells 34 = .ok (.invokevirtual 225, 3) := by decide +kernel
theorem dX9_tells_37 : decode cX9_tells 37 = .ok (.ifCond .ne 6, 3) := by decide +kernel
theorem dX9_tells_40 : decode cX9_tells 40 = .ok (.goto 53, 3) := by decide +kernel
theorem dX9_tells_43 : decode cX9_tells 43 = .ok (.iload_n 2, 1) := by decide +kernel
theorem dX9_tells_44 : decode cX9_tells 44 = .ok (.ifCond .ge 7, 3) := by decide +kernel
theorem dX9_tells_47 : decode cX9_tells 47 = .ok (.iconst (-1), 1) := by decide +kernel
theorem dX9_tells_48 : decode cX9_tells 48 = .ok (.goto 16, 3) := by decide +kernel
theorem dX9_tells_51 : decode cX9_tells 51 = .ok (.aload_n 0, 1) := by decide +kernel
theorem dX9_tells_52 : decode cX9_tells 52 = .ok (.iload_n 3, 1) := by decide +kernel
theorem dX9_tells_53 : decode cX9_tells 53 = .ok (.iload_n 1, 1) := by decide +kernel
theorem dX9_tells_54 : decode cX9_tells 54 = .ok (.invokevirtual 254, 3) := by decide +kernel
theorem dX9_tells_57 : decode cX9_tells 57 = .ok (.aload_n 0, 1) := by decide +kernel
theorem dX9_tells_58 : decode cX9_tells 58 = .ok (.iload_n 2, 1) := by decide +kernel
theorem dX9_tells_59 : decode cX9_tells 59 = .ok (.iload_n 1, 1) := by decide +kernel
theorem dX9_tells_60 : decode cX9_tells 60 = .ok (.invokevirtual 254, 3) := by decide +kernel
theorem dX9_tells_63 : decode cX9_tells 63 = .ok (.isub, 1) := by decide +kernel
theorem dX9_tells_64 : decode cX9_tells 64 = .ok (.istore 4, 2) := by decide +kernel
theorem dX9_tells_66 : decode cX9_tells 66 = .ok (.iload 4, 2) := by decide +kernel
theorem dX9_tells_68 : decode cX9_tells 68 = .ok (.ifCond .lt 23, 3) := by decide +kernel
theorem dX9_tells_71 : decode cX9_tells 71 = .ok (.iload 4, 2) := by decide +kernel
theorem dX9_tells_73 : decode cX9_tells 73 = .ok (.ifCond .ne 20, 3) := by decide +kernel
theorem dX9_tells_76 : decode cX9_tells 76 = .ok (.aload_n 0, 1) := by decide +kernel
theorem dX9_tells_77 : decode cX9_tells 77 = .ok (.getfield 80, 3) := by decide +kernel
theorem dX9_tells_80 : decode cX9_tells 80 = .ok (.iload_n 3, 1) := by decide +kernel
theorem dX9_tells_81 : decode cX9_tells 81 = .ok (.iaload, 1) := by decide +kernel
theorem dX9_tells_82 : decode cX9_tells 82 = .ok (.aload_n 0, 1) := by decide +kernel
theorem dX9_tells_83 : decode cX9_tells 83 = .ok (.getfield 80, 3) := by decide +kernel
theorem dX9_tells_86 : decode cX9_tells 86 = .ok (.iload_n 2, 1) := by decide +kernel
theorem dX9_tells_87 : decode cX9_tells 87 = .ok (.iaload, 1) := by decide +kernel
theorem dX9_tells_88 : decode cX9_tells 88 = .ok (.if_icmp .ge 5, 3) := by decide +kernel
theorem dX9_tells_91 : decode cX9_tells 91 = .ok (.iload_n 3, 1) := by decide +kernel
theorem dX9_tells_92 : decode cX9_tells 92 = .ok (.istore_n 2, 1) := by decide +kernel
theorem dX9_tells_93 : decode cX9_tells 93 = .ok (.iinc 3 1, 3) := by decide +kernel
theorem dX9_tells_96 : decode cX9_tells 96 = .ok (.goto (-73), 3) := by decide +kernel
theorem dX9_tells_99 : decode cX9_tells 99 = .ok (.iload_n 2, 1) := by decide +kernel
theorem dX9_tells_100 : decode cX9_tells 100 = .ok (.ireturn, 1) := by decide +kernel
theorem dX9_first_0 : decode cX9_first 0 = .ok (.aload_n 0, 1) := by decide +kernel
theorem dX9_first_1 : decode cX9_first 1 = .ok (.iconst 0, 1) := by decide +kernel
theorem dX9_first_2 : decode cX9_first 2 = .ok (.putfield 1, 3) := by decide +kernel
theorem dX9_first_5 : decode cX9_first 5 = .ok (.aload_n 0, 1) := by decide +kernel
theorem dX9_first_6 : decode cX9_first 6 = .ok (.iload_n 1, 1) := by decide +kernel
theorem dX9_first_7 : decode cX9_first 7 = .ok (.invokevirtual 245, 3) := by decide +kernel
theorem dX9_first_10 : decode cX9_first 10 = .ok (.ifCond .ne 5, 3) := by decide +kernel
theorem dX9_first_13 : decode cX9_first 13 = .ok (.iconst (-1), 1) := by decide +kernel
theorem dX9_first_14 : decode cX9_first 14 = .ok (.ireturn, 1) := by decide +kernel
theorem dX9_first_15 : decode cX9_first 15 = .ok (.aload_n 0, 1) := by decide +kernel
theorem dX9_first_16 : decode cX9_first 16 = .ok (.invokevirtual 248, 3) := by decide +kernel
theorem dX9_first_19 : decode cX9_first 19 = .ok (.aload_n 0, 1) := by decide +kernel
theorem dX9_first_20 : decode cX9_first 20 = .ok (.iload_n 1, 1) := by decide +kernel
theorem dX9_first_21 : decode cX9_first 21 = .ok (.invokevirtual 231, 3) := by decide +kernel
theorem dX9_first_24 : decode cX9_first 24 = .ok (.istore_n 2, 1) := by decide +kernel
theorem dX9_first_25 : decode cX9_first 25 = .ok (.iconst 0, 1) := by decide +kernel
theorem dX9_first_26 : decode cX9_first 26 = .ok (.istore_n 3, 1) := by decide +kernel
theorem dX9_first_27 : decode cX9_first 27 = .ok (.iload_n 3, 1) := by decide +kernel
theorem dX9_first_28 : decode cX9_first 28 = .ok (.aload_n 0, 1) := by decide +kernel
theorem dX9_first_29 : decode cX9_first 29 = .ok (.getfield 107, 3) := by decide +kernel
theorem dX9_first_32 : decode cX9_first 32 = .ok (.if_icmp .ge 37, 3) := by decide +kernel
theorem dX9_first_35 : decode cX9_first 35 = .ok (.aload_n 0, 1) := by decide +kernel
theorem dX9_first_36 : decode cX9_first 36 = .ok (.iload_n 3, 1) := by decide +kernel
theorem dX9_first_37 : decode cX9_first 37 = .ok (.iload_n 1, 1) := by decide +kernel
theorem dX9_first_38 : decode cX9_first 38 = .ok (.invokevirtual 225, 3) := by decide +kernel
theorem dX9_first_41 : decode cX9_first 41 = .ok (.ifCond .eq 22, 3) := by decide +kernel
theorem dX9_first_44 : decode cX9_first 44 = .ok (.aload_n 0, 1) := by decide +kernel
theorem dX9_first_45 : decode cX9_first 45 = .ok (.getfield 80, 3) := by decide +kernel
theorem dX9_first_48 : decode cX9_first 48 = .ok (.iload_n 3, 1) := by decide +kernel
theorem dX9_first_49 : decode cX9_first 49 = .ok (.iaload, 1) := by decide +kernel
theorem dX9_first_50 : decode cX9_first 50 = .ok (.aload_n 0, 1) := by decide +kernel
theorem dX9_first_51 : decode cX9_first 51 = .ok (.iload_n 3, 1) := by decide +kernel
theorem dX9_first_52 : decode cX9_first 52 = .ok (.iload_n 1, 1) := by decide +kernel
theorem dX9_first_53 : decode cX9_first 53 = .ok (.invokevirtual 239, 3) := by decide +kernel
theorem dX9_first_56 : decode cX9_first 56 = .ok (.iadd, 1) := by decide +kernel
theorem dX9_first_57 : decode cX9_first 57 = .ok (.iload_n 2, 1) := by decide +kernel
theorem dX9_first_58 : decode cX9_first 58 = .ok (.if_icmp .ne 5, 3) := by decide +kernel
theorem dX9_first_61 : decode cX9_first 61 = .ok (.iload_n 3, 1) := by decide +kernel
theorem dX9_first_62 : decode cX9_first 62 = .ok (.ireturn, 1) := by decide +kernel
theorem dX9_first_63 : decode cX9_first 63 = .ok (.iinc 3 1, 3) := by decide +kernel
theorem dX9_first_66 : decode cX9_first 66 = .ok (.goto (-39), 3) := by decide +kernel
theorem dX9_first_69 : decode cX9_first 69 = .ok (.iconst (-1), 1) := by decide +kernel
theorem dX9_first_70 : decode cX9_first 70 = .ok (.ireturn, 1) := by decide +kernel
theorem dX9_begin_0 : decode cX9_begin 0 = .ok (.aload_n 0, 1) := by decide +kernel
theorem dX9_begin_1 : decode cX9_begin 1 = .ok (.iconst 0, 1) := by decide +kernel
theorem dX9_begin_2 : decode cX9_begin 2 = .ok (.putfield 1, 3) := by decide +kernel
theorem dX9_begin_5 : decode cX9_begin 5 = .ok (.aload_n 0, 1) := by decide +kernel
theorem dX9_begin_6 : decode cX9_begin 6 = .ok (.iload_n 1, 1) := by decide +kernel
theorem dX9_begin_7 : decode cX9_begin 7 = .ok (.invokevirtual 182, 3) := by decide +kernel
theorem dX9_begin_10 : decode cX9_begin 10 = .ok (.ifCond .ne 5, 3) := by decide +kernel
theorem dX9_begin_13 : decode cX9_begin 13 = .ok (.iconst 0, 1) := by decide +kernel
theorem dX9_begin_14 : decode cX9_begin 14 = .ok (.ireturn, 1) := by decide +kernel
theorem dX9_begin_15 : decode cX9_begin 15 = .ok (.aload_n 0, 1) := by decide +kernel
theorem dX9_begin_16 : decode cX9_begin 16 = .ok (.iload_n 1, 1) := by decide +kernel
theorem dX9_begin_17 : decode cX9_begin 17 = .ok (.putfield 89, 3) := by decide +kernel
theorem dX9_begin_20 : decode cX9_begin 20 = .ok (.aload_n 0, 1) := by decide +kernel
theorem dX9_begin_21 : decode cX9_begin 21 = .ok (.iconst 0, 1) := by decide +kernel
theorem dX9_begin_22 : decode cX9_begin 22 = .ok (.putfield 257, 3) := by decide +kernel
theorem dX9_begin_25 : decode cX9_begin 25 = .ok (.aload_n 0, 1) := by decide +kernel
theorem dX9_begin_26 : decode cX9_begin 26 = .ok (.iconst 0, 1) := by decide +kernel
theorem dX9_begin_27 : decode cX9_begin 27 = .ok (.putfield 260, 3) := by decide +kernel
theorem dX9_begin_30 : decode cX9_begin 30 = .ok (.aload_n 0, 1) := by decide +kernel
theorem dX9_begin_31 : decode cX9_begin 31 = .ok (.iconst 0, 1) := by decide +kernel
theorem dX9_begin_32 : decode cX9_begin 32 = .ok (.putfield 263, 3) := by decide +kernel
theorem dX9_begin_35 : decode cX9_begin 35 = .ok (.aload_n 0, 1) := by decide +kernel
theorem dX9_begin_36 : decode cX9_begin 36 = .ok (.iconst 0, 1) := by decide +kernel
theorem dX9_begin_37 : decode cX9_begin 37 = .ok (.putfield 266, 3) := by decide +kernel
theorem dX9_begin_40 : decode cX9_begin 40 = .ok (.aload_n 0, 1) := by decide +kernel
theorem dX9_begin_41 : decode cX9_begin 41 = .ok (.iconst 0, 1) := by decide +kernel
theorem dX9_begin_42 : decode cX9_begin 42 = .ok (.putfield 269, 3) := by decide +kernel
theorem dX9_begin_45 : decode cX9_begin 45 = .ok (.aload_n 0, 1) := by decide +kernel
theorem dX9_begin_46 : decode cX9_begin 46 = .ok (.iconst 1, 1) := by decide +kernel
theorem dX9_begin_47 : decode cX9_begin 47 = .ok (.aload_n 0, 1) := by decide +kernel
theorem dX9_begin_48 : decode cX9_begin 48 = .ok (.getfield 104, 3) := by decide +kernel
theorem dX9_begin_51 : decode cX9_begin 51 = .ok (.ishl, 1) := by decide +kernel
theorem dX9_begin_52 : decode cX9_begin 52 = .ok (.iconst 1, 1) := by decide +kernel
theorem dX9_begin_53 : decode cX9_begin 53 = .ok (.isub, 1) := by decide +kernel
theorem dX9_begin_54 : decode cX9_begin 54 = .ok (.putfield 272, 3) := by decide +kernel
theorem dX9_begin_57 : decode cX9_begin 57 = .ok (.iconst 1, 1) := by decide +kernel
theorem dX9_begin_58 : decode cX9_begin 58 = .ok (.ireturn, 1) := by decide +kernel
theorem dX9_use_0 : decode cX9_use 0 = .ok (.aload_n 0, 1) := by decide +kernel
theorem dX9_use_1 : decode cX9_use 1 = .ok (.iconst 0, 1) := by decide +kernel
theorem dX9_use_2 : decode cX9_use 2 = .ok (.putfield 1, 3) := by decide +kernel
theorem dX9_use_5 : decode cX9_use 5 = .ok (.aload_n 0, 1) := by decide +kernel
theorem dX9_use_6 : decode cX9_use 6 = .ok (.getfield 89, 3) := by decide +kernel
theorem dX9_use_9 : decode cX9_use 9 = .ok (.ifCond .lt 11, 3) := by decide +kernel
theorem dX9_use_12 : decode cX9_use 12 = .ok (.aload_n 0, 1) := by decide +kernel
theorem dX9_use_13 : decode cX9_use 13 = .ok (.iload_n 1, 1) := by decide +kernel
theorem dX9_use_14 : decode cX9_use 14 = .ok (.invokevirtual 203, 3) := by decide +kernel
theorem dX9_use_17 : decode cX9_use 17 = .ok (.ifCond .ne 6, 3) := by decide +kernel
theorem dX9_use_20 : decode cX9_use 20 = .ok (.bipush (-2), 2) := by decide +kernel
theorem dX9_use_22 : decode cX9_use 22 = .ok (.ireturn, 1) := by decide +kernel
theorem dX9_use_23 : decode cX9_use 23 = .ok (.aload_n 0, 1) := by decide +kernel
theorem dX9_use_24 : decode cX9_use 24 = .ok (.dup, 1) := by decide +kernel
theorem dX9_use_25 : decode cX9_use 25 = .ok (.getfield 260, 3) := by decide +kernel
theorem dX9_use_28 : decode cX9_use 28 = .ok (.aload_n 0, 1) := by decide +kernel
theorem dX9_use_29 : decode cX9_use 29 = .ok (.getfield 80, 3) := by decide +kernel
theorem dX9_use_32 : decode cX9_use 32 = .ok (.iload_n 1, 1) := by decide +kernel
theorem dX9_use_33 : decode cX9_use 33 = .ok (.iaload, 1) := by decide +kernel
theorem dX9_use_34 : decode cX9_use 34 = .ok (.iadd, 1) := by decide +kernel
theorem dX9_use_35 : decode cX9_use 35 = .ok (.putfield 260, 3) := by decide +kernel
theorem dX9_use_38 : decode cX9_use 38 = .ok (.aload_n 0, 1) := by decide +kernel
theorem dX9_use_39 : decode cX9_use 39 = .ok (.dup, 1) := by decide +kernel
theorem dX9_use_40 : decode cX9_use 40 = .ok (.getfield 263, 3) := by decide +kernel
theorem dX9_use_43 : decode cX9_use 43 = .ok (.iconst 1, 1) := by decide +kernel
theorem dX9_use_44 : decode cX9_use 44 = .ok (.iadd, 1) := by decide +kernel
theorem dX9_use_45 : decode cX9_use 45 = .ok (.putfield 263, 3) := by decide +kernel
theorem dX9_use_48 : decode cX9_use 48 = .ok (.aload_n 0, 1) := by decide +kernel
theorem dX9_use_49 : decode cX9_use 49 = .ok (.getfield 257, 3) := by decide +kernel
theorem dX9_use_52 : decode cX9_use 52 = .ok (.ifCond .ne 48, 3) := by decide +kernel
theorem dX9_use_55 : decode cX9_use 55 = .ok (.aload_n 0, 1) := by decide +kernel
theorem dX9_use_56 : decode cX9_use 56 = .ok (.invokevirtual 222, 3) := by decide +kernel
theorem dX9_use_59 : decode cX9_use 59 = .ok (.aload_n 0, 1) := by decide +kernel
theorem dX9_use_60 : decode cX9_use 60 = .ok (.iload_n 1, 1) := by decide +kernel
theorem dX9_use_61 : decode cX9_use 61 = .ok (.aload_n 0, 1) := by decide +kernel
theorem dX9_use_62 : decode cX9_use 62 = .ok (.getfield 272, 3) := by decide +kernel
theorem dX9_use_65 : decode cX9_use 65 = .ok (.aload_n 0, 1) := by decide +kernel
theorem dX9_use_66 : decode cX9_use 66 = .ok (.getfield 89, 3) := by decide +kernel
theorem dX9_use_69 : decode cX9_use 69 = .ok (.invokevirtual 219, 3) := by decide +kernel
theorem dX9_use_72 : decode cX9_use 72 = .ok (.istore_n 2, 1) := by decide +kernel
theorem dX9_use_73 : decode cX9_use 73 = .ok (.aload_n 0, 1) := by decide +kernel
theorem dX9_use_74 : decode cX9_use 74 = .ok (.dup, 1) := by decide +kernel
theorem dX9_use_75 : decode cX9_use 75 = .ok (.getfield 266, 3) := by decide +kernel
theorem dX9_use_78 : decode cX9_use 78 = .ok (.iload_n 2, 1) := by decide +kernel
theorem dX9_use_79 : decode cX9_use 79 = .ok (.aload_n 0, 1) := by decide +kernel
theorem dX9_use_80 : decode cX9_use 80 = .ok (.getfield 272, 3) := by decide +kernel
theorem dX9_use_83 : decode cX9_use 83 = .ok (.if_icmp .eq 7, 3) := by decide +kernel
theorem dX9_use_86 : decode cX9_use 86 = .ok (.iconst 1, 1) := by decide +kernel
theorem dX9_use_87 : decode cX9_use 87 = .ok (.goto 4, 3) := by decide +kernel
theorem dX9_use_90 : decode cX9_use 90 = .ok (.iconst 0, 1) := by decide +kernel
theorem dX9_use_91 : decode cX9_use 91 = .ok (.iadd, 1) := by decide +kernel
theorem dX9_use_92 : decode cX9_use 92 = .ok (.putfield 266, 3) := by decide +kernel
theorem dX9_use_95 : decode cX9_use 95 = .ok (.aload_n 0, 1) := by decide +kernel
theorem dX9_use_96 : decode cX9_use 96 = .ok (.iload_n 2, 1) := by decide +kernel
theorem dX9_use_97 : decode cX9_use 97 = .ok (.putfield 272, 3) := by decide +kernel
theorem dX9_use_100 : decode cX9_use 100 = .ok (.aload_n 0, 1) := by decide +kernel
theorem dX9_use_101 : decode cX9_use 101 = .ok (.aload_n 0, 1) := by decide +kernel
theorem dX9_use_102 : decode cX9_use 102 = .ok (.getfield 89, 3) := by decide +kernel
theorem dX9_use_105 : decode cX9_use 105 = .ok (.aload_n 0, 1) := by decide +kernel
theorem dX9_use_106 : decode cX9_use 106 = .ok (.getfield 257, 3) := by decide +kernel
theorem dX9_use_109 : decode cX9_use 109 = .ok (.invokevirtual 185, 3) := by decide +kernel
theorem dX9_use_112 : decode cX9_use 112 = .ok (.aload_n 0, 1) := by decide +kernel
theorem dX9_use_113 : decode cX9_use 113 = .ok (.iload_n 1, 1) := by decide +kernel
theorem dX9_use_114 : decode cX9_use 114 = .ok (.invokevirtual 210, 3) := by decide +kernel
theorem dX9_use_117 : decode cX9_use 117 = .ok (.ireturn, 1) := by decide +kernel
theorem dX9_left_0 : decode cX9_left 0 = .ok (.aload_n 0, 1) := by decide +kernel
theorem dX9_left_1 : decode cX9_left 1 = .ok (.iconst 0, 1) := by decide +kernel
theorem dX9_left_2 : decode cX9_left 2 = .ok (.putfield 1, 3) := by decide +kernel
theorem dX9_left_5 : decode cX9_left 5 = .ok (.aload_n 0, 1) := by decide +kernel
theorem dX9_left_6 : decode cX9_left 6 = .ok (.getfield 89, 3) := by decide +kernel
theorem dX9_left_9 : decode cX9_left 9 = .ok (.ifCond .ge 8, 3) := by decide +kernel
theorem dX9_left_12 : decode cX9_left 12 = .ok (.bipush (-2), 2) := by decide +kernel
theorem dX9_left_14 : decode cX9_left 14 = .ok (.goto 7, 3) := by decide +kernel
theorem dX9_left_17 : decode cX9_left 17 = .ok (.aload_n 0, 1) := by decide +kernel
theorem dX9_left_18 : decode cX9_left 18 = .ok (.getfield 272, 3) := by decide +kernel
theorem dX9_left_21 : decode cX9_left 21 = .ok (.ireturn, 1) := by decide +kernel
theorem dX9_mend_0 : decode cX9_mend 0 = .ok (.aload_n 0, 1) := by decide +kernel
theorem dX9_mend_1 : decode cX9_mend 1 = .ok (.iconst 0, 1) := by decide +kernel
theorem dX9_mend_2 : decode cX9_mend 2 = .ok (.putfield 1, 3) := by decide +kernel
theorem dX9_mend_5 : decode cX9_mend 5 = .ok (.aload_n 0, 1) := by decide +kernel
theorem dX9_mend_6 : decode cX9_mend 6 = .ok (.getfield 89, 3) := by decide +kernel
theorem dX9_mend_9 : decode cX9_mend 9 = .ok (.ifCond .lt 11, 3) := by decide +kernel
theorem dX9_mend_12 : decode cX9_mend 12 = .ok (.aload_n 0, 1) := by decide +kernel
theorem dX9_mend_13 : decode cX9_mend 13 = .ok (.iload_n 1, 1) := by decide +kernel
theorem dX9_mend_14 : decode cX9_mend 14 = .ok (.invokevirtual 165, 3) := by decide +kernel
theorem dX9_mend_17 : decode cX9_mend 17 = .ok (.ifCond .ne 6, 3) := by decide +kernel
theorem dX9_mend_20 : decode cX9_mend 20 = .ok (.bipush (-2), 2) := by decide +kernel
theorem dX9_mend_22 : decode cX9_mend 22 = .ok (.ireturn, 1) := by decide +kernel
theorem dX9_mend_23 : decode cX9_mend 23 = .ok (.aload_n 0, 1) := by decide +kernel
theorem dX9_mend_24 : decode cX9_mend 24 = .ok (.getfield 257, 3) := by decide +kernel
theorem dX9_mend_27 : decode cX9_mend 27 = .ok (.iload_n 1, 1) := by decide +kernel
theorem dX9_mend_28 : decode cX9_mend 28 = .ok (.ishr, 1) := by decide +kernel
theorem dX9_mend_29 : decode cX9_mend 29 = .ok (.iconst 1, 1) := by decide +kernel
theorem dX9_mend_30 : decode cX9_mend 30 = .ok (.iand, 1) := by decide +kernel
theorem dX9_mend_31 : decode cX9_mend 31 = .ok (.iconst 1, 1) := by decide +kernel
theorem dX9_mend_32 : decode cX9_mend 32 = .ok (.if_icmp .ne 6, 3) := by decide +kernel
theorem dX9_mend_35 : decode cX9_mend 35 = .ok (.bipush (-3), 2) := by decide +kernel
theorem dX9_mend_37 : decode cX9_mend 37 = .ok (.ireturn, 1) := by decide +kernel
theorem dX9_mend_38 : decode cX9_mend 38 = .ok (.aload_n 0, 1) := by decide +kernel
theorem dX9_mend_39 : decode cX9_mend 39 = .ok (.dup, 1) := by decide +kernel
theorem dX9_mend_40 : decode cX9_mend 40 = .ok (.getfield 257, 3) := by decide +kernel
theorem dX9_mend_43 : decode cX9_mend 43 = .ok (.iconst 1, 1) := by decide +kernel
theorem dX9_mend_44 : decode cX9_mend 44 = .ok (.iload_n 1, 1) := by decide +kernel
theorem dX9_mend_45 : decode cX9_mend 45 = .ok (.ishl, 1) := by decide +kernel
theorem dX9_mend_46 : decode cX9_mend 46 = .ok (.ior, 1) := by decide +kernel
theorem dX9_mend_47 : decode cX9_mend 47 = .ok (.putfield 257, 3) := by decide +kernel
theorem dX9_mend_50 : decode cX9_mend 50 = .ok (.aload_n 0, 1) := by decide +kernel
theorem dX9_mend_51 : decode cX9_mend 51 = .ok (.dup, 1) := by decide +kernel
theorem dX9_mend_52 : decode cX9_mend 52 = .ok (.getfield 260, 3) := by decide +kernel
theorem dX9_mend_55 : decode cX9_mend 55 = .ok (.iconst 5, 1) := by decide +kernel
theorem dX9_mend_56 : decode cX9_mend 56 = .ok (.iadd, 1) := by decide +kernel
theorem dX9_mend_57 : decode cX9_mend 57 = .ok (.putfield 260, 3) := by decide +kernel
theorem dX9_mend_60 : decode cX9_mend 60 = .ok (.aload_n 0, 1) := by decide +kernel
theorem dX9_mend_61 : decode cX9_mend 61 = .ok (.aload_n 0, 1) := by decide +kernel
theorem dX9_mend_62 : decode cX9_mend 62 = .ok (.getfield 89, 3) := by decide +kernel
theorem dX9_mend_65 : decode cX9_mend 65 = .ok (.aload_n 0, 1) := by decide +kernel
theorem dX9_mend_66 : decode cX9_mend 66 = .ok (.getfield 257, 3) := by decide +kernel
theorem dX9_mend_69 : decode cX9_mend 69 = .ok (.invokevirtual 185, 3) := by decide +kernel
theorem dX9_mend_72 : decode cX9_mend 72 = .ok (.aload_n 0, 1) := by decide +kernel
theorem dX9_mend_73 : decode cX9_mend 73 = .ok (.getfield 156, 3) := by decide +kernel
theorem dX9_mend_76 : decode cX9_mend 76 = .ok (.ireturn, 1) := by decide +kernel
theorem dX9_well_0 : decode cX9_well 0 = .ok (.aload_n 0, 1) := by decide +kernel
theorem dX9_well_1 : decode cX9_well 1 = .ok (.iconst 0, 1) := by decide +kernel
theorem dX9_well_2 : decode cX9_well 2 = .ok (.putfield 1, 3) := by decide +kernel
theorem dX9_well_5 : decode cX9_well 5 = .ok (.aload_n 0, 1) := by decide +kernel
theorem dX9_well_6 : decode cX9_well 6 = .ok (.getfield 89, 3) := by decide +kernel
theorem dX9_well_9 : decode cX9_well 9 = .ok (.ifCond .ge 6, 3) := by decide +kernel
theorem dX9_well_12 : decode cX9_well 12 = .ok (.bipush (-2), 2) := by decide +kernel
theorem dX9_well_14 : decode cX9_well 14 = .ok (.ireturn, 1) := by decide +kernel
theorem dX9_well_15 : decode cX9_well 15 = .ok (.iconst 1, 1) := by decide +kernel
theorem dX9_well_16 : decode cX9_well 16 = .ok (.istore_n 1, 1) := by decide +kernel
theorem dX9_well_17 : decode cX9_well 17 = .ok (.iconst 0, 1) := by decide +kernel
theorem dX9_well_18 : decode cX9_well 18 = .ok (.istore_n 2, 1) := by decide +kernel
theorem dX9_well_19 : decode cX9_well 19 = .ok (.iload_n 2, 1) := by decide +kernel
theorem dX9_well_20 : decode cX9_well 20 = .ok (.aload_n 0, 1) := by decide +kernel
theorem dX9_well_21 : decode cX9_well 21 = .ok (.getfield 107, 3) := by decide +kernel
theorem dX9_well_24 : decode cX9_well 24 = .ok (.if_icmp .ge 52, 3) := by decide +kernel
theorem dX9_well_27 : decode cX9_well 27 = .ok (.aload_n 0, 1) := by decide +kernel
theorem dX9_well_28 : decode cX9_well 28 = .ok (.iconst (-1), 1) := by decide +kernel
theorem dX9_well_29 : decode cX9_well 29 = .ok (.iconst 0, 1) := by decide +kernel
theorem dX9_well_30 : decode cX9_well 30 = .ok (.invokevirtual 185, 3) := by decide +kernel
theorem dX9_well_33 : decode cX9_well 33 = .ok (.aload_n 0, 1) := by decide +kernel
theorem dX9_well_34 : decode cX9_well 34 = .ok (.iload_n 2, 1) := by decide +kernel
theorem dX9_well_35 : decode cX9_well 35 = .ok (.invokevirtual 210, 3) := by decide +kernel
theorem dX9_well_38 : decode cX9_well 38 = .ok (.istore_n 3, 1) := by decide +kernel
theorem dX9_well_39 : decode cX9_well 39 = .ok (.aload_n 0, 1) := by decide +kernel
theorem dX9_well_40 : decode cX9_well 40 = .ok (.aload_n 0, 1) := by decide +kernel
theorem dX9_well_41 : decode cX9_well 41 = .ok (.getfield 89, 3) := by decide +kernel
theorem dX9_well_44 : decode cX9_well 44 = .ok (.aload_n 0, 1) := by decide +kernel
theorem dX9_well_45 : decode cX9_well 45 = .ok (.getfield 257, 3) := by decide +kernel
theorem dX9_well_48 : decode cX9_well 48 = .ok (.invokevirtual 185, 3) := by decide +kernel
theorem dX9_well_51 : decode cX9_well 51 = .ok (.iload_n 1, 1) := by decide +kernel
theorem dX9_well_52 : decode cX9_well 52 = .ok (.ifCond .eq 16, 3) := by decide +kernel
theorem dX9_well_55 : decode cX9_well 55 = .ok (.aload_n 0, 1) := by decide +kernel
theorem dX9_well_56 : decode cX9_well 56 = .ok (.iload_n 2, 1) := by decide +kernel
theorem dX9_well_57 : decode cX9_well 57 = .ok (.invokevirtual 210, 3) := by decide +kernel
theorem dX9_well_60 : decode cX9_well 60 = .ok (.iload_n 3, 1) := by decide +kernel
theorem dX9_well_61 : decode cX9_well 61 = .ok (.if_icmp .ne 7, 3) := by decide +kernel
theorem dX9_well_64 : decode cX9_well 64 = .ok (.iconst 1, 1) := by decide +kernel
theorem dX9_well_65 : decode cX9_well 65 = .ok (.goto 4, 3) := by decide +kernel
theorem dX9_well_68 : decode cX9_well 68 = .ok (.iconst 0, 1) := by decide +kernel
theorem dX9_well_69 : decode cX9_well 69 = .ok (.istore_n 1, 1) := by decide +kernel
theorem dX9_well_70 : decode cX9_well 70 = .ok (.iinc 2 1, 3) := by decide +kernel
theorem dX9_well_73 : decode cX9_well 73 = .ok (.goto (-54), 3) := by decide +kernel
theorem dX9_well_76 : decode cX9_well 76 = .ok (.iload_n 1, 1) := by decide +kernel
theorem dX9_well_77 : decode cX9_well 77 = .ok (.ifCond .eq 7, 3) := by decide +kernel
theorem dX9_well_80 : decode cX9_well 80 = .ok (.iconst 1, 1) := by decide +kernel
theorem dX9_well_81 : decode cX9_well 81 = .ok (.goto 4, 3) := by decide +kernel
theorem dX9_well_84 : decode cX9_well 84 = .ok (.iconst 0, 1) := by decide +kernel
theorem dX9_well_85 : decode cX9_well 85 = .ok (.ireturn, 1) := by decide +kernel
theorem dX9_claim_0 : decode cX9_claim 0 = .ok (.aload_n 0, 1) := by decide +kernel
theorem dX9_claim_1 : decode cX9_claim 1 = .ok (.iconst 0, 1) := by decide +kernel
theorem dX9_claim_2 : decode cX9_claim 2 = .ok (.putfield 1, 3) := by decide +kernel
theorem dX9_claim_5 : decode cX9_claim 5 = .ok (.aload_n 0, 1) := by decide +kernel
theorem dX9_claim_6 : decode cX9_claim 6 = .ok (.getfield 89, 3) := by decide +kernel
theorem dX9_claim_9 : decode cX9_claim 9 = .ok (.ifCond .lt 11, 3) := by decide +kernel
theorem dX9_claim_12 : decode cX9_claim 12 = .ok (.aload_n 0, 1) := by decide +kernel
theorem dX9_claim_13 : decode cX9_claim 13 = .ok (.iload_n 1, 1) := by decide +kernel
theorem dX9_claim_14 : decode cX9_claim 14 = .ok (.invokevirtual 182, 3) := by decide +kernel
theorem dX9_claim_17 : decode cX9_claim 17 = .ok (.ifCond .ne 6, 3) := by decide +kernel
theorem dX9_claim_20 : decode cX9_claim 20 = .ok (.bipush (-2), 2) := by decide +kernel
theorem dX9_claim_22 : decode cX9_claim 22 = .ok (.ireturn, 1) := by decide +kernel
theorem dX9_claim_23 : decode cX9_claim 23 = .ok (.iload_n 1, 1) := by decide +kernel
theorem dX9_claim_24 : decode cX9_claim 24 = .ok (.aload_n 0, 1) := by decide +kernel
theorem dX9_claim_25 : decode cX9_claim 25 = .ok (.getfield 89, 3) := by decide +kernel
theorem dX9_claim_28 : decode cX9_claim 28 = .ok (.if_icmp .ne 5, 3) := by decide +kernel
theorem dX9_claim_31 : decode cX9_claim 31 = .ok (.iconst (-1), 1) := by decide +kernel
theorem dX9_claim_32 : decode cX9_claim 32 = .ok (.ireturn, 1) := by decide +kernel
theorem dX9_claim_33 : decode cX9_claim 33 = .ok (.aload_n 0, 1) := by decide +kernel
theorem dX9_claim_34 : decode cX9_claim 34 = .ok (.dup, 1) := by decide +kernel
theorem dX9_claim_35 : decode cX9_claim 35 = .ok (.getfield 260, 3) := by decide +kernel
theorem dX9_claim_38 : decode cX9_claim 38 = .ok (.bipush 10, 2) := by decide +kernel
theorem dX9_claim_40 : decode cX9_claim 40 = .ok (.iadd, 1) := by decide +kernel
theorem dX9_claim_41 : decode cX9_claim 41 = .ok (.putfield 260, 3) := by decide +kernel
theorem dX9_claim_44 : decode cX9_claim 44 = .ok (.aload_n 0, 1) := by decide +kernel
theorem dX9_claim_45 : decode cX9_claim 45 = .ok (.dup, 1) := by decide +kernel
theorem dX9_claim_46 : decode cX9_claim 46 = .ok (.getfield 269, 3) := by decide +kernel
theorem dX9_claim_49 : decode cX9_claim 49 = .ok (.iconst 1, 1) := by decide +kernel
theorem dX9_claim_50 : decode cX9_claim 50 = .ok (.iadd, 1) := by decide +kernel
theorem dX9_claim_51 : decode cX9_claim 51 = .ok (.putfield 269, 3) := by decide +kernel
theorem dX9_claim_54 : decode cX9_claim 54 = .ok (.aload_n 0, 1) := by decide +kernel
theorem dX9_claim_55 : decode cX9_claim 55 = .ok (.iload_n 1, 1) := by decide +kernel
theorem dX9_claim_56 : decode cX9_claim 56 = .ok (.aload_n 0, 1) := by decide +kernel
theorem dX9_claim_57 : decode cX9_claim 57 = .ok (.getfield 89, 3) := by decide +kernel
theorem dX9_claim_60 : decode cX9_claim 60 = .ok (.invokevirtual 228, 3) := by decide +kernel
theorem dX9_claim_63 : decode cX9_claim 63 = .ok (.istore_n 2, 1) := by decide +kernel
theorem dX9_claim_64 : decode cX9_claim 64 = .ok (.iload_n 2, 1) := by decide +kernel
theorem dX9_claim_65 : decode cX9_claim 65 = .ok (.ifCond .ne 8, 3) := by decide +kernel
theorem dX9_claim_68 : decode cX9_claim 68 = .ok (.bipush (-3), 2) := by decide +kernel
theorem dX9_claim_70 : decode cX9_claim 70 = .ok (.goto 7, 3) := by decide +kernel
theorem dX9_claim_73 : decode cX9_claim 73 = .ok (.iload_n 2, 1) := by decide +kernel
theorem dX9_claim_74 : decode cX9_claim 74 = .ok (.invokestatic 214, 3) := by decide +kernel
theorem dX9_claim_77 : decode cX9_claim 77 = .ok (.ireturn, 1) := by decide +kernel
theorem dX9_mark_0 : decode cX9_mark 0 = .ok (.aload_n 0, 1) := by decide +kernel
theorem dX9_mark_1 : decode cX9_mark 1 = .ok (.iconst 0, 1) := by decide +kernel
theorem dX9_mark_2 : decode cX9_mark 2 = .ok (.putfield 1, 3) := by decide +kernel
theorem dX9_mark_5 : decode cX9_mark 5 = .ok (.aload_n 0, 1) := by decide +kernel
theorem dX9_mark_6 : decode cX9_mark 6 = .ok (.getfield 89, 3) := by decide +kernel
theorem dX9_mark_9 : decode cX9_mark 9 = .ok (.ifCond .ge 6, 3) := by decide +kernel
theorem dX9_mark_12 : decode cX9_mark 12 = .ok (.bipush (-2), 2) := by decide +kernel
theorem dX9_mark_14 : decode cX9_mark 14 = .ok (.ireturn, 1) := by decide +kernel
theorem dX9_mark_15 : decode cX9_mark 15 = .ok (.iload_n 1, 1) := by decide +kernel
theorem dX9_mark_16 : decode cX9_mark 16 = .ok (.tableswitch 81 0 5 #[40, 45, 50, 55, 60, 68], 40) := by decide +kernel
theorem dX9_mark_56 : decode cX9_mark 56 = .ok (.aload_n 0, 1) := by decide +kernel
theorem dX9_mark_57 : decode cX9_mark 57 = .ok (.getfield 260, 3) := by decide +kernel
theorem dX9_mark_60 : decode cX9_mark 60 = .ok (.ireturn, 1) := by decide +kernel
theorem dX9_mark_61 : decode cX9_mark 61 = .ok (.aload_n 0, 1) := by decide +kernel
theorem dX9_mark_62 : decode cX9_mark 62 = .ok (.getfield 263, 3) := by decide +kernel
theorem dX9_mark_65 : decode cX9_mark 65 = .ok (.ireturn, 1) := by decide +kernel
theorem dX9_mark_66 : decode cX9_mark 66 = .ok (.aload_n 0, 1) := by decide +kernel
theorem dX9_mark_67 : decode cX9_mark 67 = .ok (.getfield 266, 3) := by decide +kernel
theorem dX9_mark_70 : decode cX9_mark 70 = .ok (.ireturn, 1) := by decide +kernel
theorem dX9_mark_71 : decode cX9_mark 71 = .ok (.aload_n 0, 1) := by decide +kernel
theorem dX9_mark_72 : decode cX9_mark 72 = .ok (.getfield 269, 3) := by decide +kernel
theorem dX9_mark_75 : decode cX9_mark 75 = .ok (.ireturn, 1) := by decide +kernel
theorem dX9_mark_76 : decode cX9_mark 76 = .ok (.aload_n 0, 1) := by decide +kernel
theorem dX9_mark_77 : decode cX9_mark 77 = .ok (.getfield 257, 3) := by decide +kernel
theorem dX9_mark_80 : decode cX9_mark 80 = .ok (.invokestatic 251, 3) := by decide +kernel
theorem dX9_mark_83 : decode cX9_mark 83 = .ok (.ireturn, 1) := by decide +kernel
theorem dX9_mark_84 : decode cX9_mark 84 = .ok (.aload_n 0, 1) := by decide +kernel
theorem dX9_mark_85 : decode cX9_mark 85 = .ok (.iconst 1, 1) := by decide +kernel
theorem dX9_mark_86 : decode cX9_mark 86 = .ok (.aload_n 0, 1) := by decide +kernel
theorem dX9_mark_87 : decode cX9_mark 87 = .ok (.getfield 104, 3) := by decide +kernel
theorem dX9_mark_90 : decode cX9_mark 90 = .ok (.ishl, 1) := by decide +kernel
theorem dX9_mark_91 : decode cX9_mark 91 = .ok (.iconst 1, 1) := by decide +kernel
theorem dX9_mark_92 : decode cX9_mark 92 = .ok (.isub, 1) := by decide +kernel
theorem dX9_mark_93 : decode cX9_mark 93 = .ok (.invokevirtual 275, 3) := by decide +kernel
theorem dX9_mark_96 : decode cX9_mark 96 = .ok (.ireturn, 1) := by decide +kernel
theorem dX9_mark_97 : decode cX9_mark 97 = .ok (.bipush (-2), 2) := by decide +kernel
theorem dX9_mark_99 : decode cX9_mark 99 = .ok (.ireturn, 1) := by decide +kernel
theorem dX9_row_0 : decode cX9_row 0 = .ok (.aload_n 0, 1) := by decide +kernel
theorem dX9_row_1 : decode cX9_row 1 = .ok (.iconst 0, 1) := by decide +kernel
theorem dX9_row_2 : decode cX9_row 2 = .ok (.putfield 1, 3) := by decide +kernel
theorem dX9_row_5 : decode cX9_row 5 = .ok (.iload_n 1, 1) := by decide +kernel
theorem dX9_row_6 : decode cX9_row 6 = .ok (.i2l, 1) := by decide +kernel
theorem dX9_row_7 : decode cX9_row 7 = .ok (.lconst 0, 1) := by decide +kernel
theorem dX9_row_8 : decode cX9_row 8 = .ok (.aload_n 0, 1) := by decide +kernel
theorem dX9_row_9 : decode cX9_row 9 = .ok (.getfield 110, 3) := by decide +kernel
theorem dX9_row_12 : decode cX9_row 12 = .ok (.iconst 1, 1) := by decide +kernel
theorem dX9_row_13 : decode cX9_row 13 = .ok (.isub, 1) := by decide +kernel
theorem dX9_row_14 : decode cX9_row 14 = .ok (.i2l, 1) := by decide +kernel
theorem dX9_row_15 : decode cX9_row 15 = .ok (.invokestatic 113, 3) := by decide +kernel
theorem dX9_row_18 : decode cX9_row 18 = .ok (.ifCond .eq 12, 3) := by decide +kernel
theorem dX9_row_21 : decode cX9_row 21 = .ok (.aload_n 0, 1) := by decide +kernel
theorem dX9_row_22 : decode cX9_row 22 = .ok (.getfield 62, 3) := by decide +kernel
theorem dX9_row_25 : decode cX9_row 25 = .ok (.iload_n 1, 1) := by decide +kernel
theorem dX9_row_26 : decode cX9_row 26 = .ok (.iaload, 1) := by decide +kernel
theorem dX9_row_27 : decode cX9_row 27 = .ok (.goto 7, 3) := by decide +kernel
theorem dX9_row_30 : decode cX9_row 30 = .ok (.aload_n 0, 1) := by decide +kernel
theorem dX9_row_31 : decode cX9_row 31 = .ok (.invokevirtual 206, 3) := by decide +kernel
theorem dX9_row_34 : decode cX9_row 34 = .ok (.ireturn, 1) := by decide +kernel
