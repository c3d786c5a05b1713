theorem dX0_init_0 : decode cX0_init 0 = .ok (.aload_n 0, 1) := by decide +kernel
theorem dX0_init_1 : decode cX0_init 1 = .ok (.invokespecial 3, 3) := by decide +kernel
theorem dX0_init_4 : decode cX0_init 4 = .ok (.aload_n 0, 1) := by decide +kernel
theorem dX0_init_5 : decode cX0_init 5 = .ok (.iconst 0, 1) := by decide +kernel
theorem dX0_init_6 : decode cX0_init 6 = .ok (.putfield 9, 3) := by decide +kernel
theorem dX0_init_9 : decode cX0_init 9 = .ok (.aload_n 0, 1) := by decide +kernel
theorem dX0_init_10 : decode cX0_init 10 = .ok (.bipush 11, 2) := by decide +kernel
theorem dX0_init_12 : decode cX0_init 12 = .ok (.newarray .int, 2) := by decide +kernel
theorem dX0_init_14 : decode cX0_init 14 = .ok (.putfield 15, 3) := by decide +kernel
theorem dX0_init_17 : decode cX0_init 17 = .ok (.aload_n 0, 1) := by decide +kernel
theorem dX0_init_18 : decode cX0_init 18 = .ok (.bipush 11, 2) := by decide +kernel
theorem dX0_init_20 : decode cX0_init 20 = .ok (.newarray .int, 2) := by decide +kernel
theorem dX0_init_22 : decode cX0_init 22 = .ok (.putfield 19, 3) := by decide +kernel
theorem dX0_init_25 : decode cX0_init 25 = .ok (.aload_n 0, 1) := by decide +kernel
theorem dX0_init_26 : decode cX0_init 26 = .ok (.bipush 11, 2) := by decide +kernel
theorem dX0_init_28 : decode cX0_init 28 = .ok (.newarray .int, 2) := by decide +kernel
theorem dX0_init_30 : decode cX0_init 30 = .ok (.putfield 22, 3) := by decide +kernel
theorem dX0_init_33 : decode cX0_init 33 = .ok (.aload_n 0, 1) := by decide +kernel
theorem dX0_init_34 : decode cX0_init 34 = .ok (.bipush 11, 2) := by decide +kernel
theorem dX0_init_36 : decode cX0_init 36 = .ok (.newarray .int, 2) := by decide +kernel
theorem dX0_init_38 : decode cX0_init 38 = .ok (.putfield 25, 3) := by decide +kernel
theorem dX0_init_41 : decode cX0_init 41 = .ok (.aload_n 0, 1) := by decide +kernel
theorem dX0_init_42 : decode cX0_init 42 = .ok (.aload_n 1, 1) := by decide +kernel
theorem dX0_init_43 : decode cX0_init 43 = .ok (.putfield 28, 3) := by decide +kernel
theorem dX0_init_46 : decode cX0_init 46 = .ok (.aload_n 0, 1) := by decide +kernel
theorem dX0_init_47 : decode cX0_init 47 = .ok (.getfield 15, 3) := by decide +kernel
theorem dX0_init_50 : decode cX0_init 50 = .ok (.bipush 10, 2) := by decide +kernel
theorem dX0_init_52 : decode cX0_init 52 = .ok (.bipush 11, 2) := by decide +kernel
theorem dX0_init_54 : decode cX0_init 54 = .ok (.iastore, 1) := by decide +kernel
theorem dX0_init_55 : decode cX0_init 55 = .ok (.return_, 1) := by decide +kernel
theorem dX0_add_0 : decode cX0_add 0 = .ok (.aload_n 0, 1) := by decide +kernel
theorem dX0_add_1 : decode cX0_add 1 = .ok (.getfield 9, 3) := by decide +kernel
theorem dX0_add_4 : decode cX0_add 4 = .ok (.bipush 10, 2) := by decide +kernel
theorem dX0_add_6 : decode cX0_add 6 = .ok (.if_icmp .lt 4, 3) := by decide +kernel
theorem dX0_add_9 : decode cX0_add 9 = .ok (.return_, 1) := by decide +kernel
theorem dX0_add_10 : decode cX0_add 10 = .ok (.aload_n 0, 1) := by decide +kernel
theorem dX0_add_11 : decode cX0_add 11 = .ok (.getfield 15, 3) := by decide +kernel
theorem dX0_add_14 : decode cX0_add 14 = .ok (.aload_n 0, 1) := by decide +kernel
theorem dX0_add_15 : decode cX0_add 15 = .ok (.getfield 9, 3) := by decide +kernel
theorem dX0_add_18 : decode cX0_add 18 = .ok (.iload_n 1, 1) := by decide +kernel
theorem dX0_add_19 : decode cX0_add 19 = .ok (.iastore, 1) := by decide +kernel
theorem dX0_add_20 : decode cX0_add 20 = .ok (.aload_n 0, 1) := by decide +kernel
theorem dX0_add_21 : decode cX0_add 21 = .ok (.getfield 19, 3) := by decide +kernel
theorem dX0_add_24 : decode cX0_add 24 = .ok (.aload_n 0, 1) := by decide +kernel
theorem dX0_add_25 : decode cX0_add 25 = .ok (.getfield 9, 3) := by decide +kernel
theorem dX0_add_28 : decode cX0_add 28 = .ok (.iload_n 2, 1) := by decide +kernel
theorem dX0_add_29 : decode cX0_add 29 = .ok (.iastore, 1) := by decide +kernel
theorem dX0_add_30 : decode cX0_add 30 = .ok (.aload_n 0, 1) := by decide +kernel
theorem dX0_add_31 : decode cX0_add 31 = .ok (.getfield 22, 3) := by decide +kernel
theorem dX0_add_34 : decode cX0_add 34 = .ok (.aload_n 0, 1) := by decide +kernel
theorem dX0_add_35 : decode cX0_add 35 = .ok (.getfield 9, 3) := by decide +kernel
theorem dX0_add_38 : decode cX0_add 38 = .ok (.iload_n 3, 1) := by decide +kernel
theorem dX0_add_39 : decode cX0_add 39 = .ok (.iastore, 1) := by decide +kernel
theorem dX0_add_40 : decode cX0_add 40 = .ok (.aload_n 0, 1) := by decide +kernel
theorem dX0_add_41 : decode cX0_add 41 = .ok (.getfield 25, 3) := by decide +kernel
theorem dX0_add_44 : decode cX0_add 44 = .ok (.aload_n 0, 1) := by decide +kernel
theorem dX0_add_45 : decode cX0_add 45 = .ok (.getfield 9, 3) := by decide +kernel
theorem dX0_add_48 : decode cX0_add 48 = .ok (.iload 4, 2) := by decide +kernel
theorem dX0_add_50 : decode cX0_add 50 = .ok (.iastore, 1) := by decide +kernel
theorem dX0_add_51 : decode cX0_add 51 = .ok (.aload_n 0, 1) := by decide +kernel
theorem dX0_add_52 : decode cX0_add 52 = .ok (.dup, 1) := by decide +kernel
theorem dX0_add_53 : decode cX0_add 53 = .ok (.getfield 9, 3) := by decide +kernel
theorem dX0_add_56 : decode cX0_add 56 = .ok (.iconst 1, 1) := by decide +kernel
theorem dX0_add_57 : decode cX0_add 57 = .ok (.iadd, 1) := by decide +kernel
theorem dX0_add_58 : decode cX0_add 58 = .ok (.putfield 9, 3) := by decide +kernel
theorem dX0_add_61 : decode cX0_add 61 = .ok (.return_, 1) := by decide +kernel
theorem dX0_barAt_0 : decode cX0_barAt 0 = .ok (.iload_n 1, 1) := by decide +kernel
theorem dX0_barAt_1 : decode cX0_barAt 1 = .ok (.aload_n 0, 1) := by decide +kernel
theorem dX0_barAt_2 : decode cX0_barAt 2 = .ok (.getfield 9, 3) := by decide +kernel
theorem dX0_barAt_5 : decode cX0_barAt 5 = .ok (.if_icmp .ge 7, 3) := by decide +kernel
theorem dX0_barAt_8 : decode cX0_barAt 8 = .ok (.iload_n 1, 1) := by decide +kernel
theorem dX0_barAt_9 : decode cX0_barAt 9 = .ok (.goto 5, 3) := by decide +kernel
theorem dX0_barAt_12 : decode cX0_barAt 12 = .ok (.bipush 10, 2) := by decide +kernel
theorem dX0_barAt_14 : decode cX0_barAt 14 = .ok (.ireturn, 1) := by decide +kernel
theorem dX0_isOne_0 : decode cX0_isOne 0 = .ok (.iload_n 1, 1) := by decide +kernel
theorem dX0_isOne_1 : decode cX0_isOne 1 = .ok (.bipush 8, 2) := by decide +kernel
theorem dX0_isOne_3 : decode cX0_isOne 3 = .ok (.if_icmp .ge 16, 3) := by decide +kernel
theorem dX0_isOne_6 : decode cX0_isOne 6 = .ok (.iload_n 1, 1) := by decide +kernel
theorem dX0_isOne_7 : decode cX0_isOne 7 = .ok (.iload_n 2, 1) := by decide +kernel
theorem dX0_isOne_8 : decode cX0_isOne 8 = .ok (.if_icmp .ne 7, 3) := by decide +kernel
theorem dX0_isOne_11 : decode cX0_isOne 11 = .ok (.iconst 1, 1) := by decide +kernel
theorem dX0_isOne_12 : decode cX0_isOne 12 = .ok (.goto 28, 3) := by decide +kernel
theorem dX0_isOne_15 : decode cX0_isOne 15 = .ok (.iconst 0, 1) := by decide +kernel
theorem dX0_isOne_16 : decode cX0_isOne 16 = .ok (.goto 24, 3) := by decide +kernel
theorem dX0_isOne_19 : decode cX0_isOne 19 = .ok (.iload_n 1, 1) := by decide +kernel
theorem dX0_isOne_20 : decode cX0_isOne 20 = .ok (.bipush 8, 2) := by decide +kernel
theorem dX0_isOne_22 : decode cX0_isOne 22 = .ok (.isub, 1) := by decide +kernel
theorem dX0_isOne_23 : decode cX0_isOne 23 = .ok (.aload_n 0, 1) := by decide +kernel
theorem dX0_isOne_24 : decode cX0_isOne 24 = .ok (.getfield 28, 3) := by decide +kernel
theorem dX0_isOne_27 : decode cX0_isOne 27 = .ok (.getfield 32, 3) := by decide +kernel
theorem dX0_isOne_30 : decode cX0_isOne 30 = .ok (.iload_n 2, 1) := by decide +kernel
theorem dX0_isOne_31 : decode cX0_isOne 31 = .ok (.iaload, 1) := by decide +kernel
theorem dX0_isOne_32 : decode cX0_isOne 32 = .ok (.if_icmp .ne 7, 3) := by decide +kernel
theorem dX0_isOne_35 : decode cX0_isOne 35 = .ok (.iconst 1, 1) := by decide +kernel
theorem dX0_isOne_36 : decode cX0_isOne 36 = .ok (.goto 4, 3) := by decide +kernel
theorem dX0_isOne_39 : decode cX0_isOne 39 = .ok (.iconst 0, 1) := by decide +kernel
theorem dX0_isOne_40 : decode cX0_isOne 40 = .ok (.ireturn, 1) := by decide +kernel
set_option maxRecDepth 20000 in
theorem ggX0_breaks_X0_isOne : GoodIn wsX0_breaks wsX0_isOne := goodIn_r _ [11, 5, 12, 21, 22, 23, 24, 25, 26, 27, 28, 29, 30, 31, 32] (by decide +kernel) (by decide +kernel)
set_option maxRecDepth 20000 in
theorem gX0_breaks_X0_isOne : GoodIn wsX0_breaks (wsV RX0 37 RX0 yX0_isOne wsX0_isOne) := goodIn_app (goodIn_of _ (by decide +kernel)) ggX0_breaks_X0_isOne
set_option maxRecDepth 20000 in
theorem ggX0_breaks_X2_frightens : GoodIn wsX0_breaks wsX2_frightens := goodIn_r _ [17, 18, 19, 20, 27, 28, 29, 30, 31, 32] (by decide +kernel) (by decide +kernel)
set_option maxRecDepth 20000 in
theorem gX0_breaks_X2_frightens : GoodIn wsX0_breaks (wsV RX0 44 RX2 yX2_frightens wsX2_frightens) := goodIn_app (goodIn_of _ (by decide +kernel)) ggX0_breaks_X2_frightens
theorem dX0_breaks_0 : decode cX0_breaks 0 = .ok (.aload_n 0, 1) := by decide +kernel
theorem dX0_breaks_1 : decode cX0_breaks 1 = .ok (.getfield 15, 3) := by decide +kernel
theorem dX0_breaks_4 : decode cX0_breaks 4 = .ok (.iload_n 1, 1) := by decide +kernel
theorem dX0_breaks_5 : decode cX0_breaks 5 = .ok (.iaload, 1) := by decide +kernel
theorem dX0_breaks_6 : decode cX0_breaks 6 = .ok (.lookupswitch 225 #[(1, 42), (2, 115), (5, 149), (11, 189)], 42) := by decide +kernel
theorem dX0_breaks_48 : decode cX0_breaks 48 = .ok (.iload 4, 2) := by decide +kernel
theorem dX0_breaks_50 : decode cX0_breaks 50 = .ok (.aload_n 0, 1) := by decide +kernel
theorem dX0_breaks_51 : decode cX0_breaks 51 = .ok (.getfield 25, 3) := by decide +kernel
theorem dX0_breaks_54 : decode cX0_breaks 54 = .ok (.iload_n 1, 1) := by decide +kernel
theorem dX0_breaks_55 : decode cX0_breaks 55 = .ok (.iaload, 1) := by decide +kernel
theorem dX0_breaks_56 : decode cX0_breaks 56 = .ok (.if_icmp .ge 63, 3) := by decide +kernel
theorem dX0_breaks_59 : decode cX0_breaks 59 = .ok (.aload_n 0, 1) := by decide +kernel
theorem dX0_breaks_60 : decode cX0_breaks 60 = .ok (.aload_n 0, 1) := by decide +kernel
theorem dX0_breaks_61 : decode cX0_breaks 61 = .ok (.getfield 19, 3) := by decide +kernel
theorem dX0_breaks_64 : decode cX0_breaks 64 = .ok (.iload_n 1, 1) := by decide +kernel
theorem dX0_breaks_65 : decode cX0_breaks 65 = .ok (.iaload, 1) := by decide +kernel
theorem dX0_breaks_66 : decode cX0_breaks 66 = .ok (.iload_n 2, 1) := by decide +kernel
theorem dX0_breaks_67 : decode cX0_breaks 67 = .ok (.invokevirtual 37, 3) := by decide +kernel
theorem dX0_breaks_70 : decode cX0_breaks 70 = .ok (.ifCond .eq 17, 3) := by decide +kernel
theorem dX0_breaks_73 : decode cX0_breaks 73 = .ok (.aload_n 0, 1) := by decide +kernel
theorem dX0_breaks_74 : decode cX0_breaks 74 = .ok (.aload_n 0, 1) := by decide +kernel
theorem dX0_breaks_75 : decode cX0_breaks 75 = .ok (.getfield 22, 3) := by decide +kernel
theorem dX0_breaks_78 : decode cX0_breaks 78 = .ok (.iload_n 1, 1) := by decide +kernel
theorem dX0_breaks_79 : decode cX0_breaks 79 = .ok (.iaload, 1) := by decide +kernel
theorem dX0_breaks_80 : decode cX0_breaks 80 = .ok (.iload_n 3, 1) := by decide +kernel
theorem dX0_breaks_81 : decode cX0_breaks 81 = .ok (.invokevirtual 37, 3) := by decide +kernel
theorem dX0_breaks_84 : decode cX0_breaks 84 = .ok (.ifCond .ne 31, 3) := by decide +kernel
theorem dX0_breaks_87 : decode cX0_breaks 87 = .ok (.aload_n 0, 1) := by decide +kernel
theorem dX0_breaks_88 : decode cX0_breaks 88 = .ok (.aload_n 0, 1) := by decide +kernel
theorem dX0_breaks_89 : decode cX0_breaks 89 = .ok (.getfield 19, 3) := by decide +kernel
theorem dX0_breaks_92 : decode cX0_breaks 92 = .ok (.iload_n 1, 1) := by decide +kernel
theorem dX0_breaks_93 : decode cX0_breaks 93 = .ok (.iaload, 1) := by decide +kernel
theorem dX0_breaks_94 : decode cX0_breaks 94 = .ok (.iload_n 3, 1) := by decide +kernel
theorem dX0_breaks_95 : decode cX0_breaks 95 = .ok (.invokevirtual 37, 3) := by decide +kernel
theorem dX0_breaks_98 : decode cX0_breaks 98 = .ok (.ifCond .eq 21, 3) := by decide +kernel
theorem dX0_breaks_101 : decode cX0_breaks 101 = .ok (.aload_n 0, 1) := by decide +kernel
theorem dX0_breaks_102 : decode cX0_breaks 102 = .ok (.aload_n 0, 1) := by decide +kernel
theorem dX0_breaks_103 : decode cX0_breaks 103 = .ok (.getfield 22, 3) := by decide +kernel
theorem dX0_breaks_106 : decode cX0_breaks 106 = .ok (.iload_n 1, 1) := by decide +kernel
theorem dX0_breaks_107 : decode cX0_breaks 107 = .ok (.iaload, 1) := by decide +kernel
theorem dX0_breaks_108 : decode cX0_breaks 108 = .ok (.iload_n 2, 1) := by decide +kernel
theorem dX0_breaks_109 : decode cX0_breaks 109 = .ok (.invokevirtual 37, 3) := by decide +kernel
theorem dX0_breaks_112 : decode cX0_breaks 112 = .ok (.ifCond .eq 7, 3) := by decide +kernel
theorem dX0_breaks_115 : decode cX0_breaks 115 = .ok (.iconst 1, 1) := by decide +kernel
theorem dX0_breaks_116 : decode cX0_breaks 116 = .ok (.goto 4, 3) := by decide +kernel
theorem dX0_breaks_119 : decode cX0_breaks 119 = .ok (.iconst 0, 1) := by decide +kernel
theorem dX0_breaks_120 : decode cX0_breaks 120 = .ok (.ireturn, 1) := by decide +kernel
theorem dX0_breaks_121 : decode cX0_breaks 121 = .ok (.aload_n 0, 1) := by decide +kernel
theorem dX0_breaks_122 : decode cX0_breaks 122 = .ok (.aload_n 0, 1) := by decide +kernel
theorem dX0_breaks_123 : decode cX0_breaks 123 = .ok (.getfield 19, 3) := by decide +kernel
theorem dX0_breaks_126 : decode cX0_breaks 126 = .ok (.iload_n 1, 1) := by decide +kernel
theorem dX0_breaks_127 : decode cX0_breaks 127 = .ok (.iaload, 1) := by decide +kernel
theorem dX0_breaks_128 : decode cX0_breaks 128 = .ok (.iload_n 3, 1) := by decide +kernel
theorem dX0_breaks_129 : decode cX0_breaks 129 = .ok (.invokevirtual 37, 3) := by decide +kernel
theorem dX0_breaks_132 : decode cX0_breaks 132 = .ok (.ifCond .eq 21, 3) := by decide +kernel
theorem dX0_breaks_135 : decode cX0_breaks 135 = .ok (.aload_n 0, 1) := by decide +kernel
theorem dX0_breaks_136 : decode cX0_breaks 136 = .ok (.aload_n 0, 1) := by decide +kernel
theorem dX0_breaks_137 : decode cX0_breaks 137 = .ok (.getfield 22, 3) := by decide +kernel
theorem dX0_breaks_140 : decode cX0_breaks 140 = .ok (.iload_n 1, 1) := by decide +kernel
theorem dX0_breaks_141 : decode cX0_breaks 141 = .ok (.iaload, 1) := by decide +kernel
theorem dX0_breaks_142 : decode cX0_breaks 142 = .ok (.iload_n 2, 1) := by decide +kernel
theorem dX0_breaks_143 : decode cX0_breaks 143 = .ok (.invokevirtual 37, 3) := by decide +kernel
theorem dX0_breaks_146 : decode cX0_breaks 146 = .ok (.ifCond .eq 7, 3) := by decide +kernel
theorem dX0_breaks_149 : decode cX0_breaks 149 = .ok (.iconst 1, 1) := by decide +kernel
theorem dX0_breaks_150 : decode cX0_breaks 150 = .ok (.goto 4, 3) := by decide +kernel
theorem dX0_breaks_153 : decode cX0_breaks 153 = .ok (.iconst 0, 1) := by decide +kernel
theorem dX0_breaks_154 : decode cX0_breaks 154 = .ok (.ireturn, 1) := by decide +kernel
theorem dX0_breaks_155 : decode cX0_breaks 155 = .ok (.iload 4, 2) := by decide +kernel
theorem dX0_breaks_157 : decode cX0_breaks 157 = .ok (.iconst 1, 1) := by decide +kernel
theorem dX0_breaks_158 : decode cX0_breaks 158 = .ok (.if_icmp .ne 35, 3) := by decide +kernel
theorem dX0_breaks_161 : decode cX0_breaks 161 = .ok (.aload_n 0, 1) := by decide +kernel
theorem dX0_breaks_162 : decode cX0_breaks 162 = .ok (.getfield 28, 3) := by decide +kernel
theorem dX0_breaks_165 : decode cX0_breaks 165 = .ok (.getfield 41, 3) := by decide +kernel
theorem dX0_breaks_168 : decode cX0_breaks 168 = .ok (.iload_n 2, 1) := by decide +kernel
theorem dX0_breaks_169 : decode cX0_breaks 169 = .ok (.iaload, 1) := by decide +kernel
theorem dX0_breaks_170 : decode cX0_breaks 170 = .ok (.aload_n 0, 1) := by decide +kernel
theorem dX0_breaks_171 : decode cX0_breaks 171 = .ok (.getfield 28, 3) := by decide +kernel
theorem dX0_breaks_174 : decode cX0_breaks 174 = .ok (.getfield 41, 3) := by decide +kernel
theorem dX0_breaks_177 : decode cX0_breaks 177 = .ok (.iload_n 3, 1) := by decide +kernel
theorem dX0_breaks_178 : decode cX0_breaks 178 = .ok (.iaload, 1) := by decide +kernel
theorem dX0_breaks_179 : decode cX0_breaks 179 = .ok (.iadd, 1) := by decide +kernel
theorem dX0_breaks_180 : decode cX0_breaks 180 = .ok (.aload_n 0, 1) := by decide +kernel
theorem dX0_breaks_181 : decode cX0_breaks 181 = .ok (.getfield 25, 3) := by decide +kernel
theorem dX0_breaks_184 : decode cX0_breaks 184 = .ok (.iload_n 1, 1) := by decide +kernel
theorem dX0_breaks_185 : decode cX0_breaks 185 = .ok (.iaload, 1) := by decide +kernel
theorem dX0_breaks_186 : decode cX0_breaks 186 = .ok (.if_icmp .le 7, 3) := by decide +kernel
theorem dX0_breaks_189 : decode cX0_breaks 189 = .ok (.iconst 1, 1) := by decide +kernel
theorem dX0_breaks_190 : decode cX0_breaks 190 = .ok (.goto 4, 3) := by decide +kernel
theorem dX0_breaks_193 : decode cX0_breaks 193 = .ok (.iconst 0, 1) := by decide +kernel
theorem dX0_breaks_194 : decode cX0_breaks 194 = .ok (.ireturn, 1) := by decide +kernel
theorem dX0_breaks_195 : decode cX0_breaks 195 = .ok (.iload 4, 2) := by decide +kernel
theorem dX0_breaks_197 : decode cX0_breaks 197 = .ok (.iconst 2, 1) := by decide +kernel
theorem dX0_breaks_198 : decode cX0_breaks 198 = .ok (.if_icmp .gt 31, 3) := by decide +kernel
theorem dX0_breaks_201 : decode cX0_breaks 201 = .ok (.aload_n 0, 1) := by decide +kernel
theorem dX0_breaks_202 : decode cX0_breaks 202 = .ok (.getfield 28, 3) := by decide +kernel
theorem dX0_breaks_205 : decode cX0_breaks 205 = .ok (.iload_n 2, 1) := by decide +kernel
theorem dX0_breaks_206 : decode cX0_breaks 206 = .ok (.iload_n 3, 1) := by decide +kernel
theorem dX0_breaks_207 : decode cX0_breaks 207 = .ok (.invokevirtual 44, 3) := by decide +kernel
theorem dX0_breaks_210 : decode cX0_breaks 210 = .ok (.ifCond .ne 15, 3) := by decide +kernel
theorem dX0_breaks_213 : decode cX0_breaks 213 = .ok (.aload_n 0, 1) := by decide +kernel
theorem dX0_breaks_214 : decode cX0_breaks 214 = .ok (.getfield 28, 3) := by decide +kernel
theorem dX0_breaks_217 : decode cX0_breaks 217 = .ok (.iload_n 3, 1) := by decide +kernel
theorem dX0_breaks_218 : decode cX0_breaks 218 = .ok (.iload_n 2, 1) := by decide +kernel
theorem dX0_breaks_219 : decode cX0_breaks 219 = .ok (.invokevirtual 44, 3) := by decide +kernel
theorem dX0_breaks_222 : decode cX0_breaks 222 = .ok (.ifCond .eq 7, 3) := by decide +kernel
theorem dX0_breaks_225 : decode cX0_breaks 225 = .ok (.iconst 1, 1) := by decide +kernel
theorem dX0_breaks_226 : decode cX0_breaks 226 = .ok (.goto 4, 3) := by decide +kernel
theorem dX0_breaks_229 : decode cX0_breaks 229 = .ok (.iconst 0, 1) := by decide +kernel
theorem dX0_breaks_230 : decode cX0_breaks 230 = .ok (.ireturn, 1) := by decide +kernel
theorem dX0_breaks_231 : decode cX0_breaks 231 = .ok (.iconst 0, 1) := by decide +kernel
theorem dX0_breaks_232 : decode cX0_breaks 232 = .ok (.ireturn, 1) := by decide +kernel
set_option maxRecDepth 20000 in
theorem ggX0_anyBreaks_X0_barAt : GoodIn wsX0_anyBreaks wsX0_barAt := goodIn_r _ [6, 1, 30, 31, 32, 33, 34, 35] (by decide +kernel) (by decide +kernel)
set_option maxRecDepth 20000 in
theorem gX0_anyBreaks_X0_barAt : GoodIn wsX0_anyBreaks (wsV RX0 47 RX0 yX0_barAt wsX0_barAt) := goodIn_app (goodIn_of _ (by decide +kernel)) ggX0_anyBreaks_X0_barAt
set_option maxRecDepth 20000 in
theorem ggX0_anyBreaks_X0_breaks : GoodIn wsX0_anyBreaks wsX0_breaks := goodIn_r _ [10, 11, 12, 13, 14, 15, 16, 17, 18, 19, 5, 20, 21, 22, 23, 24, 25, 26, 27, 28, 29, 30, 31, 32, 33, 34, 35, 36, 37, 38, 39, 40, 41] (by decide +kernel) (by decide +kernel)
set_option maxRecDepth 20000 in
theorem gX0_anyBreaks_X0_breaks : GoodIn wsX0_anyBreaks (wsV RX0 51 RX0 yX0_breaks wsX0_breaks) := goodIn_app (goodIn_of _ (by decide +kernel)) ggX0_anyBreaks_X0_breaks
theorem dX0_anyBreaks_0 : decode cX0_anyBreaks 0 = .ok (.iconst 0, 1) := by decide +kernel
theorem dX0_anyBreaks_1 : decode cX0_anyBreaks 1 = .ok (.istore 4, 2) := by decide +kernel
theorem dX0_anyBreaks_3 : decode cX0_anyBreaks 3 = .ok (.iload 4, 2) := by decide +kernel
theorem dX0_anyBreaks_5 : decode cX0_anyBreaks 5 = .ok (.aload_n 0, 1) := by decide +kernel
theorem dX0_anyBreaks_6 : decode cX0_anyBreaks 6 = .ok (.getfield 9, 3) := by decide +kernel
theorem dX0_anyBreaks_9 : decode cX0_anyBreaks 9 = .ok (.if_icmp .gt 27, 3) := by decide +kernel
theorem dX0_anyBreaks_12 : decode cX0_anyBreaks 12 = .ok (.aload_n 0, 1) := by decide +kernel
theorem dX0_anyBreaks_13 : decode cX0_anyBreaks 13 = .ok (.aload_n 0, 1) := by decide +kernel
theorem dX0_anyBreaks_14 : decode cX0_anyBreaks 14 = .ok (.iload 4, 2) := by decide +kernel
theorem dX0_anyBreaks_16 : decode cX0_anyBreaks 16 = .ok (.invokevirtual 47, 3) := by decide +kernel
theorem dX0_anyBreaks_19 : decode cX0_anyBreaks 19 = .ok (.iload_n 1, 1) := by decide +kernel
theorem dX0_anyBreaks_20 : decode cX0_anyBreaks 20 = .ok (.iload_n 2, 1) := by decide +kernel
theorem dX0_anyBreaks_21 : decode cX0_anyBreaks 21 = .ok (.iload_n 3, 1) := by decide +kernel
theorem dX0_anyBreaks_22 : decode cX0_anyBreaks 22 = .ok (.invokevirtual 51, 3) := by decide +kernel
theorem dX0_anyBreaks_25 : decode cX0_anyBreaks 25 = .ok (.ifCond .eq 5, 3) := by decide +kernel
theorem dX0_anyBreaks_28 : decode cX0_anyBreaks 28 = .ok (.iconst 1, 1) := by decide +kernel
theorem dX0_anyBreaks_29 : decode cX0_anyBreaks 29 = .ok (.ireturn, 1) := by decide +kernel
theorem dX0_anyBreaks_30 : decode cX0_anyBreaks 30 = .ok (.iinc 4 1, 3) := by decide +kernel
theorem dX0_anyBreaks_33 : decode cX0_anyBreaks 33 = .ok (.goto (-30), 3) := by decide +kernel
theorem dX0_anyBreaks_36 : decode cX0_anyBreaks 36 = .ok (.iconst 0, 1) := by decide +kernel
theorem dX0_anyBreaks_37 : decode cX0_anyBreaks 37 = .ok (.ireturn, 1) := by decide +kernel
set_option maxRecDepth 20000 in
theorem ggX0_mayEnd_X0_isOne : GoodIn wsX0_mayEnd wsX0_isOne := goodIn_r _ [8, 9, 10, 11, 12, 13, 14, 15, 16, 17, 18, 19, 20, 21, 22] (by decide +kernel) (by decide +kernel)
set_option maxRecDepth 20000 in
theorem gX0_mayEnd_X0_isOne : GoodIn wsX0_mayEnd (wsV RX0 37 RX0 yX0_isOne wsX0_isOne) := goodIn_app (goodIn_of _ (by decide +kernel)) ggX0_mayEnd_X0_isOne
theorem dX0_mayEnd_0 : decode cX0_mayEnd 0 = .ok (.iconst 0, 1) := by decide +kernel
theorem dX0_mayEnd_1 : decode cX0_mayEnd 1 = .ok (.istore_n 3, 1) := by decide +kernel
theorem dX0_mayEnd_2 : decode cX0_mayEnd 2 = .ok (.iload_n 3, 1) := by decide +kernel
theorem dX0_mayEnd_3 : decode cX0_mayEnd 3 = .ok (.aload_n 0, 1) := by decide +kernel
theorem dX0_mayEnd_4 : decode cX0_mayEnd 4 = .ok (.getfield 9, 3) := by decide +kernel
theorem dX0_mayEnd_7 : decode cX0_mayEnd 7 = .ok (.if_icmp .ge 35, 3) := by decide +kernel
theorem dX0_mayEnd_10 : decode cX0_mayEnd 10 = .ok (.aload_n 0, 1) := by decide +kernel
theorem dX0_mayEnd_11 : decode cX0_mayEnd 11 = .ok (.getfield 15, 3) := by decide +kernel
theorem dX0_mayEnd_14 : decode cX0_mayEnd 14 = .ok (.iload_n 3, 1) := by decide +kernel
theorem dX0_mayEnd_15 : decode cX0_mayEnd 15 = .ok (.iaload, 1) := by decide +kernel
theorem dX0_mayEnd_16 : decode cX0_mayEnd 16 = .ok (.iload_n 1, 1) := by decide +kernel
theorem dX0_mayEnd_17 : decode cX0_mayEnd 17 = .ok (.if_icmp .ne 19, 3) := by decide +kernel
theorem dX0_mayEnd_20 : decode cX0_mayEnd 20 = .ok (.aload_n 0, 1) := by decide +kernel
theorem dX0_mayEnd_21 : decode cX0_mayEnd 21 = .ok (.aload_n 0, 1) := by decide +kernel
theorem dX0_mayEnd_22 : decode cX0_mayEnd 22 = .ok (.getfield 19, 3) := by decide +kernel
theorem dX0_mayEnd_25 : decode cX0_mayEnd 25 = .ok (.iload_n 3, 1) := by decide +kernel
theorem dX0_mayEnd_26 : decode cX0_mayEnd 26 = .ok (.iaload, 1) := by decide +kernel
theorem dX0_mayEnd_27 : decode cX0_mayEnd 27 = .ok (.iload_n 2, 1) := by decide +kernel
theorem dX0_mayEnd_28 : decode cX0_mayEnd 28 = .ok (.invokevirtual 37, 3) := by decide +kernel
theorem dX0_mayEnd_31 : decode cX0_mayEnd 31 = .ok (.ifCond .ne 5, 3) := by decide +kernel
theorem dX0_mayEnd_34 : decode cX0_mayEnd 34 = .ok (.iconst 0, 1) := by decide +kernel
theorem dX0_mayEnd_35 : decode cX0_mayEnd 35 = .ok (.ireturn, 1) := by decide +kernel
theorem dX0_mayEnd_36 : decode cX0_mayEnd 36 = .ok (.iinc 3 1, 3) := by decide +kernel
theorem dX0_mayEnd_39 : decode cX0_mayEnd 39 = .ok (.goto (-37), 3) := by decide +kernel
theorem dX0_mayEnd_42 : decode cX0_mayEnd 42 = .ok (.iconst 1, 1) := by decide +kernel
theorem dX0_mayEnd_43 : decode cX0_mayEnd 43 = .ok (.ireturn, 1) := by decide +kernel
theorem dX0_hasWord_0 : decode cX0_hasWord 0 = .ok (.iconst 0, 1) := by decide +kernel
theorem dX0_hasWord_1 : decode cX0_hasWord 1 = .ok (.istore_n 2, 1) := by decide +kernel
theorem dX0_hasWord_2 : decode cX0_hasWord 2 = .ok (.iload_n 2, 1) := by decide +kernel
theorem dX0_hasWord_3 : decode cX0_hasWord 3 = .ok (.aload_n 0, 1) := by decide +kernel
theorem dX0_hasWord_4 : decode cX0_hasWord 4 = .ok (.getfield 9, 3) := by decide +kernel
theorem dX0_hasWord_7 : decode cX0_hasWord 7 = .ok (.if_icmp .ge 21, 3) := by decide +kernel
theorem dX0_hasWord_10 : decode cX0_hasWord 10 = .ok (.aload_n 0, 1) := by decide +kernel
theorem dX0_hasWord_11 : decode cX0_hasWord 11 = .ok (.getfield 15, 3) := by decide +kernel
theorem dX0_hasWord_14 : decode cX0_hasWord 14 = .ok (.iload_n 2, 1) := by decide +kernel
theorem dX0_hasWord_15 : decode cX0_hasWord 15 = .ok (.iaload, 1) := by decide +kernel
theorem dX0_hasWord_16 : decode cX0_hasWord 16 = .ok (.iload_n 1, 1) := by decide +kernel
theorem dX0_hasWord_17 : decode cX0_hasWord 17 = .ok (.if_icmp .ne 5, 3) := by decide +kernel
theorem dX0_hasWord_20 : decode cX0_hasWord 20 = .ok (.iconst 1, 1) := by decide +kernel
theorem dX0_hasWord_21 : decode cX0_hasWord 21 = .ok (.ireturn, 1) := by decide +kernel
theorem dX0_hasWord_22 : decode cX0_hasWord 22 = .ok (.iinc 2 1, 3) := by decide +kernel
theorem dX0_hasWord_25 : decode cX0_hasWord 25 = .ok (.goto (-23), 3) := by decide +kernel
theorem dX0_hasWord_28 : decode cX0_hasWord 28 = .ok (.iconst 0, 1) := by decide +kernel
theorem dX0_hasWord_29 : decode cX0_hasWord 29 = .ok (.ireturn, 1) := by decide +kernel
theorem dX1_init_0 : decode cX1_init 0 = .ok (.aload_n 0, 1) := by decide +kernel
theorem dX1_init_1 : decode cX1_init 1 = .ok (.invokespecial 3, 3) := by decide +kernel
theorem dX1_init_4 : decode cX1_init 4 = .ok (.aload_n 0, 1) := by decide +kernel
theorem dX1_init_5 : decode cX1_init 5 = .ok (.iconst (-1), 1) := by decide +kernel
theorem dX1_init_6 : decode cX1_init 6 = .ok (.putfield 9, 3) := by decide +kernel
theorem dX1_init_9 : decode cX1_init 9 = .ok (.aload_n 0, 1) := by decide +kernel
theorem dX1_init_10 : decode cX1_init 10 = .ok (.iconst (-1), 1) := by decide +kernel
theorem dX1_init_11 : decode cX1_init 11 = .ok (.putfield 15, 3) := by decide +kernel
theorem dX1_init_14 : decode cX1_init 14 = .ok (.aload_n 0, 1) := by decide +kernel
theorem dX1_init_15 : decode cX1_init 15 = .ok (.iconst (-1), 1) := by decide +kernel
theorem dX1_init_16 : decode cX1_init 16 = .ok (.putfield 18, 3) := by decide +kernel
theorem dX1_init_19 : decode cX1_init 19 = .ok (.return_, 1) := by decide +kernel
set_option maxRecDepth 20000 in
theorem ggX1_findIn_X1_note : GoodIn wsX1_findIn wsX1_note := goodIn_r _ [9, 2, 10, 11, 57, 58, 59] (by decide +kernel) (by decide +kernel)
set_option maxRecDepth 20000 in
theorem gX1_findIn_X1_note : GoodIn wsX1_findIn (wsV RX1 21 RX1 yX1_note wsX1_note) := goodIn_app (goodIn_of _ (by decide +kernel)) ggX1_findIn_X1_note
set_option maxRecDepth 20000 in
theorem ggX1_findIn_X0_barAt : GoodIn wsX1_findIn wsX0_barAt := goodIn_r _ [16, 17, 51, 52, 53, 54, 55, 56] (by decide +kernel) (by decide +kernel)
set_option maxRecDepth 20000 in
theorem gX1_findIn_X0_barAt : GoodIn wsX1_findIn (wsV RX1 30 RX0 yX0_barAt wsX0_barAt) := goodIn_app (goodIn_of _ (by decide +kernel)) ggX1_findIn_X0_barAt
set_option maxRecDepth 20000 in
theorem ggX1_findIn_X1_findAtEnd : GoodIn wsX1_findIn wsX1_findAtEnd := goodIn_r _ [21, 4, 22, 5, 6, 7, 8, 9, 2, 10, 11, 23, 24, 25, 15, 26, 27, 28, 60, 61, 62, 63, 64, 65, 51, 52, 53, 54, 55, 56, 57, 58, 59] (by decide +kernel) (by decide +kernel)
set_option maxRecDepth 20000 in
theorem gX1_findIn_X1_findAtEnd : GoodIn wsX1_findIn (wsV RX1 38 RX1 yX1_findAtEnd wsX1_findAtEnd) := goodIn_app (goodIn_of _ (by decide +kernel)) ggX1_findIn_X1_findAtEnd
set_option maxRecDepth 20000 in
theorem ggX1_findIn_X1_findPair : GoodIn wsX1_findIn wsX1_findPair := goodIn_r _ [32, 4, 33, 34, 35, 15, 36, 37, 38, 39, 40, 27, 41, 42, 24, 25, 26, 28, 43, 44, 45, 46, 47, 48, 49, 50, 5, 6, 7, 8, 9, 2, 10, 11, 60, 61, 62, 63, 64, 65, 51, 52, 53, 54, 55, 56, 57, 58, 59] (by decide +kernel) (by decide +kernel)
set_option maxRecDepth 20000 in
theorem gX1_findIn_X1_findPair : GoodIn wsX1_findIn (wsV RX1 45 RX1 yX1_findPair wsX1_findPair) := goodIn_app (goodIn_of _ (by decide +kernel)) ggX1_findIn_X1_findPair
theorem dX1_findIn_0 : decode cX1_findIn 0 = .ok (.aload_n 0, 1) := by decide +kernel
theorem dX1_findIn_1 : decode cX1_findIn 1 = .ok (.iconst (-1), 1) := by decide +kernel
theorem dX1_findIn_2 : decode cX1_findIn 2 = .ok (.iconst (-1), 1) := by decide +kernel
theorem dX1_findIn_3 : decode cX1_findIn 3 = .ok (.iconst (-1), 1) := by decide +kernel
theorem dX1_findIn_4 : decode cX1_findIn 4 = .ok (.invokevirtual 21, 3) := by decide +kernel
theorem dX1_findIn_7 : decode cX1_findIn 7 = .ok (.iconst 0, 1) := by decide +kernel
theorem dX1_findIn_8 : decode cX1_findIn 8 = .ok (.istore 4, 2) := by decide +kernel
theorem dX1_findIn_10 : decode cX1_findIn 10 = .ok (.iload 4, 2) := by decide +kernel
theorem dX1_findIn_12 : decode cX1_findIn 12 = .ok (.aload_n 1, 1) := by decide +kernel
theorem dX1_findIn_13 : decode cX1_findIn 13 = .ok (.getfield 25, 3) := by decide +kernel
theorem dX1_findIn_16 : decode cX1_findIn 16 = .ok (.if_icmp .gt 87, 3) := by decide +kernel
theorem dX1_findIn_19 : decode cX1_findIn 19 = .ok (.aload_n 0, 1) := by decide +kernel
theorem dX1_findIn_20 : decode cX1_findIn 20 = .ok (.getfield 9, 3) := by decide +kernel
theorem dX1_findIn_23 : decode cX1_findIn 23 = .ok (.iconst (-1), 1) := by decide +kernel
theorem dX1_findIn_24 : decode cX1_findIn 24 = .ok (.if_icmp .ne 79, 3) := by decide +kernel
theorem dX1_findIn_27 : decode cX1_findIn 27 = .ok (.aload_n 1, 1) := by decide +kernel
theorem dX1_findIn_28 : decode cX1_findIn 28 = .ok (.iload 4, 2) := by decide +kernel
theorem dX1_findIn_30 : decode cX1_findIn 30 = .ok (.invokevirtual 30, 3) := by decide +kernel
theorem dX1_findIn_33 : decode cX1_findIn 33 = .ok (.istore 5, 2) := by decide +kernel
theorem dX1_findIn_35 : decode cX1_findIn 35 = .ok (.aload_n 1, 1) := by decide +kernel
theorem dX1_findIn_36 : decode cX1_findIn 36 = .ok (.getfield 34, 3) := by decide +kernel
theorem dX1_findIn_39 : decode cX1_findIn 39 = .ok (.iload 5, 2) := by decide +kernel
theorem dX1_findIn_41 : decode cX1_findIn 41 = .ok (.iaload, 1) := by decide +kernel
theorem dX1_findIn_42 : decode cX1_findIn 42 = .ok (.iconst 3, 1) := by decide +kernel
theorem dX1_findIn_43 : decode cX1_findIn 43 = .ok (.if_icmp .ne 16, 3) := by decide +kernel
theorem dX1_findIn_46 : decode cX1_findIn 46 = .ok (.aload_n 0, 1) := by decide +kernel
theorem dX1_findIn_47 : decode cX1_findIn 47 = .ok (.aload_n 1, 1) := by decide +kernel
theorem dX1_findIn_48 : decode cX1_findIn 48 = .ok (.iload 5, 2) := by decide +kernel
theorem dX1_findIn_50 : decode cX1_findIn 50 = .ok (.aload_n 2, 1) := by decide +kernel
theorem dX1_findIn_51 : decode cX1_findIn 51 = .ok (.aload_n 3, 1) := by decide +kernel
theorem dX1_findIn_52 : decode cX1_findIn 52 = .ok (.iconst 0, 1) := by decide +kernel
theorem dX1_findIn_53 : decode cX1_findIn 53 = .ok (.invokevirtual 38, 3) := by decide +kernel
theorem dX1_findIn_56 : decode cX1_findIn 56 = .ok (.goto 41, 3) := by decide +kernel
theorem dX1_findIn_59 : decode cX1_findIn 59 = .ok (.aload_n 1, 1) := by decide +kernel
theorem dX1_findIn_60 : decode cX1_findIn 60 = .ok (.getfield 34, 3) := by decide +kernel
theorem dX1_findIn_63 : decode cX1_findIn 63 = .ok (.iload 5, 2) := by decide +kernel
theorem dX1_findIn_65 : decode cX1_findIn 65 = .ok (.iaload, 1) := by decide +kernel
theorem dX1_findIn_66 : decode cX1_findIn 66 = .ok (.iconst 4, 1) := by decide +kernel
theorem dX1_findIn_67 : decode cX1_findIn 67 = .ok (.if_icmp .ne 21, 3) := by decide +kernel
theorem dX1_findIn_70 : decode cX1_findIn 70 = .ok (.aload_n 0, 1) := by decide +kernel
theorem dX1_findIn_71 : decode cX1_findIn 71 = .ok (.aload_n 1, 1) := by decide +kernel
theorem dX1_findIn_72 : decode cX1_findIn 72 = .ok (.iload 5, 2) := by decide +kernel
theorem dX1_findIn_74 : decode cX1_findIn 74 = .ok (.aload_n 2, 1) := by decide +kernel
theorem dX1_findIn_75 : decode cX1_findIn 75 = .ok (.aload_n 3, 1) := by decide +kernel
theorem dX1_findIn_76 : decode cX1_findIn 76 = .ok (.aload_n 2, 1) := by decide +kernel
theorem dX1_findIn_77 : decode cX1_findIn 77 = .ok (.getfield 42, 3) := by decide +kernel
theorem dX1_findIn_80 : decode cX1_findIn 80 = .ok (.iconst 1, 1) := by decide +kernel
theorem dX1_findIn_81 : decode cX1_findIn 81 = .ok (.isub, 1) := by decide +kernel
theorem dX1_findIn_82 : decode cX1_findIn 82 = .ok (.invokevirtual 38, 3) := by decide +kernel
theorem dX1_findIn_85 : decode cX1_findIn 85 = .ok (.goto 12, 3) := by decide +kernel
theorem dX1_findIn_88 : decode cX1_findIn 88 = .ok (.aload_n 0, 1) := by decide +kernel
theorem dX1_findIn_89 : decode cX1_findIn 89 = .ok (.aload_n 1, 1) := by decide +kernel
theorem dX1_findIn_90 : decode cX1_findIn 90 = .ok (.iload 5, 2) := by decide +kernel
theorem dX1_findIn_92 : decode cX1_findIn 92 = .ok (.aload_n 2, 1) := by decide +kernel
theorem dX1_findIn_93 : decode cX1_findIn 93 = .ok (.aload_n 3, 1) := by decide +kernel
theorem dX1_findIn_94 : decode cX1_findIn 94 = .ok (.invokevirtual 45, 3) := by decide +kernel
theorem dX1_findIn_97 : decode cX1_findIn 97 = .ok (.iinc 4 1, 3) := by decide +kernel
theorem dX1_findIn_100 : decode cX1_findIn 100 = .ok (.goto (-90), 3) := by decide +kernel
theorem dX1_findIn_103 : decode cX1_findIn 103 = .ok (.return_, 1) := by decide +kernel
set_option maxRecDepth 20000 in
theorem ggX1_findAtEnd_X1_note : GoodIn wsX1_findAtEnd wsX1_note := goodIn_r _ [7, 8, 9, 10, 30, 31, 32] (by decide +kernel) (by decide +kernel)
set_option maxRecDepth 20000 in
theorem gX1_findAtEnd_X1_note : GoodIn wsX1_findAtEnd (wsV RX1 21 RX1 yX1_note wsX1_note) := goodIn_app (goodIn_of _ (by decide +kernel)) ggX1_findAtEnd_X1_note
set_option maxRecDepth 20000 in
theorem ggX1_findAtEnd_X0_isOne : GoodIn wsX1_findAtEnd wsX0_isOne := goodIn_r _ [15, 16, 17, 24, 25, 26, 27, 28, 29, 18, 19, 20, 21, 22, 23] (by decide +kernel) (by decide +kernel)
set_option maxRecDepth 20000 in
theorem gX1_findAtEnd_X0_isOne : GoodIn wsX1_findAtEnd (wsV RX1 52 RX0 yX0_isOne wsX0_isOne) := goodIn_app (goodIn_of _ (by decide +kernel)) ggX1_findAtEnd_X0_isOne
theorem dX1_findAtEnd_0 : decode cX1_findAtEnd 0 = .ok (.aload_n 3, 1) := by decide +kernel
theorem dX1_findAtEnd_1 : decode cX1_findAtEnd 1 = .ok (.getfield 42, 3) := by decide +kernel
theorem dX1_findAtEnd_4 : decode cX1_findAtEnd 4 = .ok (.ifCond .ne 13, 3) := by decide +kernel
theorem dX1_findAtEnd_7 : decode cX1_findAtEnd 7 = .ok (.aload_n 0, 1) := by decide +kernel
theorem dX1_findAtEnd_8 : decode cX1_findAtEnd 8 = .ok (.iload_n 2, 1) := by decide +kernel
theorem dX1_findAtEnd_9 : decode cX1_findAtEnd 9 = .ok (.iconst 0, 1) := by decide +kernel
theorem dX1_findAtEnd_10 : decode cX1_findAtEnd 10 = .ok (.iconst 0, 1) := by decide +kernel
theorem dX1_findAtEnd_11 : decode cX1_findAtEnd 11 = .ok (.invokevirtual 21, 3) := by decide +kernel
theorem dX1_findAtEnd_14 : decode cX1_findAtEnd 14 = .ok (.goto 30, 3) := by decide +kernel
theorem dX1_findAtEnd_17 : decode cX1_findAtEnd 17 = .ok (.aload_n 1, 1) := by decide +kernel
theorem dX1_findAtEnd_18 : decode cX1_findAtEnd 18 = .ok (.aload_n 1, 1) := by decide +kernel
theorem dX1_findAtEnd_19 : decode cX1_findAtEnd 19 = .ok (.getfield 49, 3) := by decide +kernel
theorem dX1_findAtEnd_22 : decode cX1_findAtEnd 22 = .ok (.iload_n 2, 1) := by decide +kernel
theorem dX1_findAtEnd_23 : decode cX1_findAtEnd 23 = .ok (.iaload, 1) := by decide +kernel
theorem dX1_findAtEnd_24 : decode cX1_findAtEnd 24 = .ok (.aload 4, 2) := by decide +kernel
theorem dX1_findAtEnd_26 : decode cX1_findAtEnd 26 = .ok (.iload 5, 2) := by decide +kernel
theorem dX1_findAtEnd_28 : decode cX1_findAtEnd 28 = .ok (.iaload, 1) := by decide +kernel
theorem dX1_findAtEnd_29 : decode cX1_findAtEnd 29 = .ok (.invokevirtual 52, 3) := by decide +kernel
theorem dX1_findAtEnd_32 : decode cX1_findAtEnd 32 = .ok (.ifCond .ne 12, 3) := by decide +kernel
theorem dX1_findAtEnd_35 : decode cX1_findAtEnd 35 = .ok (.aload_n 0, 1) := by decide +kernel
theorem dX1_findAtEnd_36 : decode cX1_findAtEnd 36 = .ok (.iload_n 2, 1) := by decide +kernel
theorem dX1_findAtEnd_37 : decode cX1_findAtEnd 37 = .ok (.iload 5, 2) := by decide +kernel
theorem dX1_findAtEnd_39 : decode cX1_findAtEnd 39 = .ok (.iload 5, 2) := by decide +kernel
theorem dX1_findAtEnd_41 : decode cX1_findAtEnd 41 = .ok (.invokevirtual 21, 3) := by decide +kernel
theorem dX1_findAtEnd_44 : decode cX1_findAtEnd 44 = .ok (.return_, 1) := by decide +kernel
set_option maxRecDepth 20000 in
theorem ggX1_findPair_X0_breaks : GoodIn wsX1_findPair wsX0_breaks := goodIn_r _ [6, 7, 8, 9, 10, 11, 12, 13, 14, 15, 5, 16, 17, 18, 19, 20, 21, 22, 23, 24, 25, 40, 41, 42, 43, 44, 45, 34, 35, 36, 37, 38, 39] (by decide +kernel) (by decide +kernel)
set_option maxRecDepth 20000 in
theorem gX1_findPair_X0_breaks : GoodIn wsX1_findPair (wsV RX1 56 RX0 yX0_breaks wsX0_breaks) := goodIn_app (goodIn_of _ (by decide +kernel)) ggX1_findPair_X0_breaks
set_option maxRecDepth 20000 in
theorem ggX1_findPair_X1_note : GoodIn wsX1_findPair wsX1_note := goodIn_r _ [30, 31, 32, 33, 46, 47, 48] (by decide +kernel) (by decide +kernel)
set_option maxRecDepth 20000 in
theorem gX1_findPair_X1_note : GoodIn wsX1_findPair (wsV RX1 21 RX1 yX1_note wsX1_note) := goodIn_app (goodIn_of _ (by decide +kernel)) ggX1_findPair_X1_note
theorem dX1_findPair_0 : decode cX1_findPair 0 = .ok (.iconst 0, 1) := by decide +kernel
theorem dX1_findPair_1 : decode cX1_findPair 1 = .ok (.istore 5, 2) := by decide +kernel
theorem dX1_findPair_3 : decode cX1_findPair 3 = .ok (.iload 5, 2) := by decide +kernel
theorem dX1_findPair_5 : decode cX1_findPair 5 = .ok (.aload_n 3, 1) := by decide +kernel
theorem dX1_findPair_6 : decode cX1_findPair 6 = .ok (.getfield 42, 3) := by decide +kernel
theorem dX1_findPair_9 : decode cX1_findPair 9 = .ok (.if_icmp .ge 63, 3) := by decide +kernel
theorem dX1_findPair_12 : decode cX1_findPair 12 = .ok (.iload 5, 2) := by decide +kernel
theorem dX1_findPair_14 : decode cX1_findPair 14 = .ok (.iconst 1, 1) := by decide +kernel
theorem dX1_findPair_15 : decode cX1_findPair 15 = .ok (.iadd, 1) := by decide +kernel
theorem dX1_findPair_16 : decode cX1_findPair 16 = .ok (.istore 6, 2) := by decide +kernel
theorem dX1_findPair_18 : decode cX1_findPair 18 = .ok (.iload 6, 2) := by decide +kernel
theorem dX1_findPair_20 : decode cX1_findPair 20 = .ok (.aload_n 3, 1) := by decide +kernel
theorem dX1_findPair_21 : decode cX1_findPair 21 = .ok (.getfield 42, 3) := by decide +kernel
theorem dX1_findPair_24 : decode cX1_findPair 24 = .ok (.if_icmp .ge 42, 3) := by decide +kernel
theorem dX1_findPair_27 : decode cX1_findPair 27 = .ok (.aload_n 1, 1) := by decide +kernel
theorem dX1_findPair_28 : decode cX1_findPair 28 = .ok (.iload_n 2, 1) := by decide +kernel
theorem dX1_findPair_29 : decode cX1_findPair 29 = .ok (.aload 4, 2) := by decide +kernel
theorem dX1_findPair_31 : decode cX1_findPair 31 = .ok (.iload 5, 2) := by decide +kernel
theorem dX1_findPair_33 : decode cX1_findPair 33 = .ok (.iaload, 1) := by decide +kernel
theorem dX1_findPair_34 : decode cX1_findPair 34 = .ok (.aload 4, 2) := by decide +kernel
theorem dX1_findPair_36 : decode cX1_findPair 36 = .ok (.iload 6, 2) := by decide +kernel
theorem dX1_findPair_38 : decode cX1_findPair 38 = .ok (.iaload, 1) := by decide +kernel
theorem dX1_findPair_39 : decode cX1_findPair 39 = .ok (.iload 6, 2) := by decide +kernel
theorem dX1_findPair_41 : decode cX1_findPair 41 = .ok (.iload 5, 2) := by decide +kernel
theorem dX1_findPair_43 : decode cX1_findPair 43 = .ok (.isub, 1) := by decide +kernel
theorem dX1_findPair_44 : decode cX1_findPair 44 = .ok (.invokevirtual 56, 3) := by decide +kernel
theorem dX1_findPair_47 : decode cX1_findPair 47 = .ok (.ifCond .eq 13, 3) := by decide +kernel
theorem dX1_findPair_50 : decode cX1_findPair 50 = .ok (.aload_n 0, 1) := by decide +kernel
theorem dX1_findPair_51 : decode cX1_findPair 51 = .ok (.iload_n 2, 1) := by decide +kernel
theorem dX1_findPair_52 : decode cX1_findPair 52 = .ok (.iload 5, 2) := by decide +kernel
theorem dX1_findPair_54 : decode cX1_findPair 54 = .ok (.iload 6, 2) := by decide +kernel
theorem dX1_findPair_56 : decode cX1_findPair 56 = .ok (.invokevirtual 21, 3) := by decide +kernel
theorem dX1_findPair_59 : decode cX1_findPair 59 = .ok (.return_, 1) := by decide +kernel
theorem dX1_findPair_60 : decode cX1_findPair 60 = .ok (.iinc 6 1, 3) := by decide +kernel
theorem dX1_findPair_63 : decode cX1_findPair 63 = .ok (.goto (-45), 3) := by decide +kernel
theorem dX1_findPair_66 : decode cX1_findPair 66 = .ok (.iinc 5 1, 3) := by decide +kernel
theorem dX1_findPair_69 : decode cX1_findPair 69 = .ok (.goto (-66), 3) := by decide +kernel
theorem dX1_findPair_72 : decode cX1_findPair 72 = .ok (.return_, 1) := by decide +kernel
theorem dX1_note_0 : decode cX1_note 0 = .ok (.aload_n 0, 1) := by decide +kernel
theorem dX1_note_1 : decode cX1_note 1 = .ok (.iload_n 1, 1) := by decide +kernel
theorem dX1_note_2 : decode cX1_note 2 = .ok (.putfield 9, 3) := by decide +kernel
theorem dX1_note_5 : decode cX1_note 5 = .ok (.aload_n 0, 1) := by decide +kernel
theorem dX1_note_6 : decode cX1_note 6 = .ok (.iload_n 2, 1) := by decide +kernel
theorem dX1_note_7 : decode cX1_note 7 = .ok (.putfield 15, 3) := by decide +kernel
theorem dX1_note_10 : decode cX1_note 10 = .ok (.aload_n 0, 1) := by decide +kernel
theorem dX1_note_11 : decode cX1_note 11 = .ok (.iload_n 3, 1) := by decide +kernel
theorem dX1_note_12 : decode cX1_note 12 = .ok (.putfield 18, 3) := by decide +kernel
theorem dX1_note_15 : decode cX1_note 15 = .ok (.return_, 1) := by decide +kernel
theorem dX2_init_0 : decode cX2_init 0 = .ok (.aload_n 0, 1) := by decide +kernel
theorem dX2_init_1 : decode cX2_init 1 = .ok (.invokespecial 3, 3) := by decide +kernel
theorem dX2_init_4 : decode cX2_init 4 = .ok (.aload_n 0, 1) := by decide +kernel
theorem dX2_init_5 : decode cX2_init 5 = .ok (.iconst 0, 1) := by decide +kernel
theorem dX2_init_6 : decode cX2_init 6 = .ok (.putfield 9, 3) := by decide +kernel
theorem dX2_init_9 : decode cX2_init 9 = .ok (.aload_n 0, 1) := by decide +kernel
theorem dX2_init_10 : decode cX2_init 10 = .ok (.bipush 8, 2) := by decide +kernel
theorem dX2_init_12 : decode cX2_init 12 = .ok (.newarray .int, 2) := by decide +kernel
theorem dX2_init_14 : decode cX2_init 14 = .ok (.putfield 15, 3) := by decide +kernel
theorem dX2_init_17 : decode cX2_init 17 = .ok (.aload_n 0, 1) := by decide +kernel
theorem dX2_init_18 : decode cX2_init 18 = .ok (.bipush 8, 2) := by decide +kernel
theorem dX2_init_20 : decode cX2_init 20 = .ok (.newarray .int, 2) := by decide +kernel
theorem dX2_init_22 : decode cX2_init 22 = .ok (.putfield 19, 3) := by decide +kernel
theorem dX2_init_25 : decode cX2_init 25 = .ok (.aload_n 0, 1) := by decide +kernel
theorem dX2_init_26 : decode cX2_init 26 = .ok (.bipush 8, 2) := by decide +kernel
theorem dX2_init_28 : decode cX2_init 28 = .ok (.newarray .int, 2) := by decide +kernel
theorem dX2_init_30 : decode cX2_init 30 = .ok (.putfield 22, 3) := by decide +kernel
theorem dX2_init_33 : decode cX2_init 33 = .ok (.aload_n 0, 1) := by decide +kernel
theorem dX2_init_34 : decode cX2_init 34 = .ok (.bipush 8, 2) := by decide +kernel
theorem dX2_init_36 : decode cX2_init 36 = .ok (.newarray .int, 2) := by decide +kernel
theorem dX2_init_38 : decode cX2_init 38 = .ok (.putfield 25, 3) := by decide +kernel
theorem dX2_init_41 : decode cX2_init 41 = .ok (.aload_n 0, 1) := by decide +kernel
theorem dX2_init_42 : decode cX2_init 42 = .ok (.bipush 8, 2) := by decide +kernel
theorem dX2_init_44 : decode cX2_init 44 = .ok (.newarray .int, 2) := by decide +kernel
theorem dX2_init_46 : decode cX2_init 46 = .ok (.putfield 28, 3) := by decide +kernel
theorem dX2_init_49 : decode cX2_init 49 = .ok (.return_, 1) := by decide +kernel
theorem dX2_canBe_0 : decode cX2_canBe 0 = .ok (.iload_n 0, 1) := by decide +kernel
theorem dX2_canBe_1 : decode cX2_canBe 1 = .ok (.ifCond .lt 55, 3) := by decide +kernel
theorem dX2_canBe_4 : decode cX2_canBe 4 = .ok (.iload_n 0, 1) := by decide +kernel
theorem dX2_canBe_5 : decode cX2_canBe 5 = .ok (.iconst 4, 1) := by decide +kernel
theorem dX2_canBe_6 : decode cX2_canBe 6 = .ok (.if_icmp .gt 50, 3) := by decide +kernel
theorem dX2_canBe_9 : decode cX2_canBe 9 = .ok (.iload_n 1, 1) := by decide +kernel
theorem dX2_canBe_10 : decode cX2_canBe 10 = .ok (.iconst 1, 1) := by decide +kernel
theorem dX2_canBe_11 : decode cX2_canBe 11 = .ok (.if_icmp .lt 45, 3) := by decide +kernel
theorem dX2_canBe_14 : decode cX2_canBe 14 = .ok (.iload_n 1, 1) := by decide +kernel
theorem dX2_canBe_15 : decode cX2_canBe 15 = .ok (.iconst 5, 1) := by decide +kernel
theorem dX2_canBe_16 : decode cX2_canBe 16 = .ok (.if_icmp .gt 40, 3) := by decide +kernel
theorem dX2_canBe_19 : decode cX2_canBe 19 = .ok (.iload_n 2, 1) := by decide +kernel
theorem dX2_canBe_20 : decode cX2_canBe 20 = .ok (.ifCond .lt 36, 3) := by decide +kernel
theorem dX2_canBe_23 : decode cX2_canBe 23 = .ok (.iload_n 2, 1) := by decide +kernel
theorem dX2_canBe_24 : decode cX2_canBe 24 = .ok (.bipush 9, 2) := by decide +kernel
theorem dX2_canBe_26 : decode cX2_canBe 26 = .ok (.if_icmp .gt 30, 3) := by decide +kernel
theorem dX2_canBe_29 : decode cX2_canBe 29 = .ok (.iload_n 3, 1) := by decide +kernel
theorem dX2_canBe_30 : decode cX2_canBe 30 = .ok (.iconst 1, 1) := by decide +kernel
theorem dX2_canBe_31 : decode cX2_canBe 31 = .ok (.if_icmp .lt 25, 3) := by decide +kernel
theorem dX2_canBe_34 : decode cX2_canBe 34 = .ok (.iload_n 3, 1) := by decide +kernel
theorem dX2_canBe_35 : decode cX2_canBe 35 = .ok (.bipush 9, 2) := by decide +kernel
theorem dX2_canBe_37 : decode cX2_canBe 37 = .ok (.if_icmp .gt 19, 3) := by decide +kernel
theorem dX2_canBe_40 : decode cX2_canBe 40 = .ok (.iload 4, 2) := by decide +kernel
theorem dX2_canBe_42 : decode cX2_canBe 42 = .ok (.ifCond .lt 14, 3) := by decide +kernel
theorem dX2_canBe_45 : decode cX2_canBe 45 = .ok (.iload 4, 2) := by decide +kernel
theorem dX2_canBe_47 : decode cX2_canBe 47 = .ok (.bipush 9, 2) := by decide +kernel
theorem dX2_canBe_49 : decode cX2_canBe 49 = .ok (.if_icmp .gt 7, 3) := by decide +kernel
theorem dX2_canBe_52 : decode cX2_canBe 52 = .ok (.iconst 1, 1) := by decide +kernel
theorem dX2_canBe_53 : decode cX2_canBe 53 = .ok (.goto 4, 3) := by decide +kernel
theorem dX2_canBe_56 : decode cX2_canBe 56 = .ok (.iconst 0, 1) := by decide +kernel
theorem dX2_canBe_57 : decode cX2_canBe 57 = .ok (.ireturn, 1) := by decide +kernel
theorem dX2_add_0 : decode cX2_add 0 = .ok (.aload_n 0, 1) := by decide +kernel
theorem dX2_add_1 : decode cX2_add 1 = .ok (.getfield 9, 3) := by decide +kernel
theorem dX2_add_4 : decode cX2_add 4 = .ok (.bipush 8, 2) := by decide +kernel
theorem dX2_add_6 : decode cX2_add 6 = .ok (.if_icmp .lt 4, 3) := by decide +kernel
theorem dX2_add_9 : decode cX2_add 9 = .ok (.return_, 1) := by decide +kernel
theorem dX2_add_10 : decode cX2_add 10 = .ok (.aload_n 0, 1) := by decide +kernel
theorem dX2_add_11 : decode cX2_add 11 = .ok (.getfield 15, 3) := by decide +kernel
theorem dX2_add_14 : decode cX2_add 14 = .ok (.aload_n 0, 1) := by decide +kernel
theorem dX2_add_15 : decode cX2_add 15 = .ok (.getfield 9, 3) := by decide +kernel
theorem dX2_add_18 : decode cX2_add 18 = .ok (.iload_n 1, 1) := by decide +kernel
theorem dX2_add_19 : decode cX2_add 19 = .ok (.iastore, 1) := by decide +kernel
theorem dX2_add_20 : decode cX2_add 20 = .ok (.aload_n 0, 1) := by decide +kernel
theorem dX2_add_21 : decode cX2_add 21 = .ok (.getfield 19, 3) := by decide +kernel
theorem dX2_add_24 : decode cX2_add 24 = .ok (.aload_n 0, 1) := by decide +kernel
theorem dX2_add_25 : decode cX2_add 25 = .ok (.getfield 9, 3) := by decide +kernel
theorem dX2_add_28 : decode cX2_add 28 = .ok (.iload_n 2, 1) := by decide +kernel
theorem dX2_add_29 : decode cX2_add 29 = .ok (.iastore, 1) := by decide +kernel
theorem dX2_add_30 : decode cX2_add 30 = .ok (.aload_n 0, 1) := by decide +kernel
theorem dX2_add_31 : decode cX2_add 31 = .ok (.getfield 22, 3) := by decide +kernel
theorem dX2_add_34 : decode cX2_add 34 = .ok (.aload_n 0, 1) := by decide +kernel
theorem dX2_add_35 : decode cX2_add 35 = .ok (.getfield 9, 3) := by decide +kernel
theorem dX2_add_38 : decode cX2_add 38 = .ok (.iload_n 3, 1) := by decide +kernel
theorem dX2_add_39 : decode cX2_add 39 = .ok (.iastore, 1) := by decide +kernel
theorem dX2_add_40 : decode cX2_add 40 = .ok (.aload_n 0, 1) := by decide +kernel
theorem dX2_add_41 : decode cX2_add 41 = .ok (.getfield 25, 3) := by decide +kernel
theorem dX2_add_44 : decode cX2_add 44 = .ok (.aload_n 0, 1) := by decide +kernel
theorem dX2_add_45 : decode cX2_add 45 = .ok (.getfield 9, 3) := by decide +kernel
theorem dX2_add_48 : decode cX2_add 48 = .ok (.iload 4, 2) := by decide +kernel
theorem dX2_add_50 : decode cX2_add 50 = .ok (.iastore, 1) := by decide +kernel
theorem dX2_add_51 : decode cX2_add 51 = .ok (.aload_n 0, 1) := by decide +kernel
theorem dX2_add_52 : decode cX2_add 52 = .ok (.getfield 28, 3) := by decide +kernel
theorem dX2_add_55 : decode cX2_add 55 = .ok (.aload_n 0, 1) := by decide +kernel
theorem dX2_add_56 : decode cX2_add 56 = .ok (.getfield 9, 3) := by decide +kernel
theorem dX2_add_59 : decode cX2_add 59 = .ok (.iload 5, 2) := by decide +kernel
theorem dX2_add_61 : decode cX2_add 61 = .ok (.iastore, 1) := by decide +kernel
theorem dX2_add_62 : decode cX2_add 62 = .ok (.aload_n 0, 1) := by decide +kernel
theorem dX2_add_63 : decode cX2_add 63 = .ok (.dup, 1) := by decide +kernel
theorem dX2_add_64 : decode cX2_add 64 = .ok (.getfield 9, 3) := by decide +kernel
theorem dX2_add_67 : decode cX2_add 67 = .ok (.iconst 1, 1) := by decide +kernel
theorem dX2_add_68 : decode cX2_add 68 = .ok (.iadd, 1) := by decide +kernel
theorem dX2_add_69 : decode cX2_add 69 = .ok (.putfield 9, 3) := by decide +kernel
theorem dX2_add_72 : decode cX2_add 72 = .ok (.return_, 1) := by decide +kernel
theorem dX2_has_0 : decode cX2_has 0 = .ok (.iload_n 1, 1) := by decide +kernel
theorem dX2_has_1 : decode cX2_has 1 = .ok (.ifCond .lt 15, 3) := by decide +kernel
theorem dX2_has_4 : decode cX2_has 4 = .ok (.iload_n 1, 1) := by decide +kernel
theorem dX2_has_5 : decode cX2_has 5 = .ok (.aload_n 0, 1) := by decide +kernel
theorem dX2_has_6 : decode cX2_has 6 = .ok (.getfield 9, 3) := by decide +kernel
theorem dX2_has_9 : decode cX2_has 9 = .ok (.if_icmp .ge 7, 3) := by decide +kernel
theorem dX2_has_12 : decode cX2_has 12 = .ok (.iconst 1, 1) := by decide +kernel
theorem dX2_has_13 : decode cX2_has 13 = .ok (.goto 4, 3) := by decide +kernel
theorem dX2_has_16 : decode cX2_has 16 = .ok (.iconst 0, 1) := by decide +kernel
theorem dX2_has_17 : decode cX2_has 17 = .ok (.ireturn, 1) := by decide +kernel
theorem dX2_frightens_0 : decode cX2_frightens 0 = .ok (.aload_n 0, 1) := by decide +kernel
theorem dX2_frightens_1 : decode cX2_frightens 1 = .ok (.getfield 15, 3) := by decide +kernel
theorem dX2_frightens_4 : decode cX2_frightens 4 = .ok (.iload_n 2, 1) := by decide +kernel
theorem dX2_frightens_5 : decode cX2_frightens 5 = .ok (.iaload, 1) := by decide +kernel
theorem dX2_frightens_6 : decode cX2_frightens 6 = .ok (.iconst 2, 1) := by decide +kernel
theorem dX2_frightens_7 : decode cX2_frightens 7 = .ok (.if_icmp .ne 22, 3) := by decide +kernel
theorem dX2_frightens_10 : decode cX2_frightens 10 = .ok (.aload_n 0, 1) := by decide +kernel
theorem dX2_frightens_11 : decode cX2_frightens 11 = .ok (.getfield 22, 3) := by decide +kernel
theorem dX2_frightens_14 : decode cX2_frightens 14 = .ok (.iload_n 1, 1) := by decide +kernel
theorem dX2_frightens_15 : decode cX2_frightens 15 = .ok (.iaload, 1) := by decide +kernel
theorem dX2_frightens_16 : decode cX2_frightens 16 = .ok (.aload_n 0, 1) := by decide +kernel
theorem dX2_frightens_17 : decode cX2_frightens 17 = .ok (.getfield 28, 3) := by decide +kernel
theorem dX2_frightens_20 : decode cX2_frightens 20 = .ok (.iload_n 2, 1) := by decide +kernel
theorem dX2_frightens_21 : decode cX2_frightens 21 = .ok (.iaload, 1) := by decide +kernel
theorem dX2_frightens_22 : decode cX2_frightens 22 = .ok (.if_icmp .le 7, 3) := by decide +kernel
theorem dX2_frightens_25 : decode cX2_frightens 25 = .ok (.iconst 1, 1) := by decide +kernel
theorem dX2_frightens_26 : decode cX2_frightens 26 = .ok (.goto 4, 3) := by decide +kernel
theorem dX2_frightens_29 : decode cX2_frightens 29 = .ok (.iconst 0, 1) := by decide +kernel
theorem dX2_frightens_30 : decode cX2_frightens 30 = .ok (.ireturn, 1) := by decide +kernel
theorem dX2_noiseOf_0 : decode cX2_noiseOf 0 = .ok (.iconst 0, 1) := by decide +kernel
theorem dX2_noiseOf_1 : decode cX2_noiseOf 1 = .ok (.istore_n 2, 1) := by decide +kernel
theorem dX2_noiseOf_2 : decode cX2_noiseOf 2 = .ok (.iconst 1, 1) := by decide +kernel
theorem dX2_noiseOf_3 : decode cX2_noiseOf 3 = .ok (.istore_n 3, 1) := by decide +kernel
theorem dX2_noiseOf_4 : decode cX2_noiseOf 4 = .ok (.iload_n 3, 1) := by decide +kernel
theorem dX2_noiseOf_5 : decode cX2_noiseOf 5 = .ok (.aload_n 0, 1) := by decide +kernel
theorem dX2_noiseOf_6 : decode cX2_noiseOf 6 = .ok (.getfield 9, 3) := by decide +kernel
theorem dX2_noiseOf_9 : decode cX2_noiseOf 9 = .ok (.if_icmp .ge 31, 3) := by decide +kernel
theorem dX2_noiseOf_12 : decode cX2_noiseOf 12 = .ok (.iload_n 2, 1) := by decide +kernel
theorem dX2_noiseOf_13 : decode cX2_noiseOf 13 = .ok (.aload_n 0, 1) := by decide +kernel
theorem dX2_noiseOf_14 : decode cX2_noiseOf 14 = .ok (.getfield 22, 3) := by decide +kernel
theorem dX2_noiseOf_17 : decode cX2_noiseOf 17 = .ok (.aload_n 1, 1) := by decide +kernel
theorem dX2_noiseOf_18 : decode cX2_noiseOf 18 = .ok (.iload_n 3, 1) := by decide +kernel
theorem dX2_noiseOf_19 : decode cX2_noiseOf 19 = .ok (.iconst 1, 1) := by decide +kernel
theorem dX2_noiseOf_20 : decode cX2_noiseOf 20 = .ok (.isub, 1) := by decide +kernel
theorem dX2_noiseOf_21 : decode cX2_noiseOf 21 = .ok (.iaload, 1) := by decide +kernel
theorem dX2_noiseOf_22 : decode cX2_noiseOf 22 = .ok (.iaload, 1) := by decide +kernel
theorem dX2_noiseOf_23 : decode cX2_noiseOf 23 = .ok (.aload_n 0, 1) := by decide +kernel
theorem dX2_noiseOf_24 : decode cX2_noiseOf 24 = .ok (.getfield 22, 3) := by decide +kernel
theorem dX2_noiseOf_27 : decode cX2_noiseOf 27 = .ok (.aload_n 1, 1) := by decide +kernel
theorem dX2_noiseOf_28 : decode cX2_noiseOf 28 = .ok (.iload_n 3, 1) := by decide +kernel
theorem dX2_noiseOf_29 : decode cX2_noiseOf 29 = .ok (.iaload, 1) := by decide +kernel
theorem dX2_noiseOf_30 : decode cX2_noiseOf 30 = .ok (.iaload, 1) := by decide +kernel
theorem dX2_noiseOf_31 : decode cX2_noiseOf 31 = .ok (.imul, 1) := by decide +kernel
theorem dX2_noiseOf_32 : decode cX2_noiseOf 32 = .ok (.iadd, 1) := by decide +kernel
theorem dX2_noiseOf_33 : decode cX2_noiseOf 33 = .ok (.istore_n 2, 1) := by decide +kernel
theorem dX2_noiseOf_34 : decode cX2_noiseOf 34 = .ok (.iinc 3 1, 3) := by decide +kernel
theorem dX2_noiseOf_37 : decode cX2_noiseOf 37 = .ok (.goto (-33), 3) := by decide +kernel
theorem dX2_noiseOf_40 : decode cX2_noiseOf 40 = .ok (.iload_n 2, 1) := by decide +kernel
theorem dX2_noiseOf_41 : decode cX2_noiseOf 41 = .ok (.ireturn, 1) := by decide +kernel
theorem dX3_init_0 : decode cX3_init 0 = .ok (.aload_n 0, 1) := by decide +kernel
theorem dX3_init_1 : decode cX3_init 1 = .ok (.invokespecial 3, 3) := by decide +kernel
theorem dX3_init_4 : decode cX3_init 4 = .ok (.aload_n 0, 1) := by decide +kernel
theorem dX3_init_5 : decode cX3_init 5 = .ok (.bipush 8, 2) := by decide +kernel
theorem dX3_init_7 : decode cX3_init 7 = .ok (.newarray .int, 2) := by decide +kernel
theorem dX3_init_9 : decode cX3_init 9 = .ok (.putfield 9, 3) := by decide +kernel
theorem dX3_init_12 : decode cX3_init 12 = .ok (.aload_n 0, 1) := by decide +kernel
theorem dX3_init_13 : decode cX3_init 13 = .ok (.iconst 0, 1) := by decide +kernel
theorem dX3_init_14 : decode cX3_init 14 = .ok (.putfield 15, 3) := by decide +kernel
theorem dX3_init_17 : decode cX3_init 17 = .ok (.aload_n 0, 1) := by decide +kernel
theorem dX3_init_18 : decode cX3_init 18 = .ok (.iconst 0, 1) := by decide +kernel
theorem dX3_init_19 : decode cX3_init 19 = .ok (.putfield 19, 3) := by decide +kernel
theorem dX3_init_22 : decode cX3_init 22 = .ok (.aload_n 0, 1) := by decide +kernel
theorem dX3_init_23 : decode cX3_init 23 = .ok (.bipush 8, 2) := by decide +kernel
theorem dX3_init_25 : decode cX3_init 25 = .ok (.newarray .int, 2) := by decide +kernel
theorem dX3_init_27 : decode cX3_init 27 = .ok (.putfield 22, 3) := by decide +kernel
theorem dX3_init_30 : decode cX3_init 30 = .ok (.aload_n 0, 1) := by decide +kernel
theorem dX3_init_31 : decode cX3_init 31 = .ok (.bipush 8, 2) := by decide +kernel
theorem dX3_init_33 : decode cX3_init 33 = .ok (.newarray .int, 2) := by decide +kernel
theorem dX3_init_35 : decode cX3_init 35 = .ok (.putfield 25, 3) := by decide +kernel
theorem dX3_init_38 : decode cX3_init 38 = .ok (.aload_n 0, 1) := by decide +kernel
theorem dX3_init_39 : decode cX3_init 39 = .ok (.bipush 8, 2) := by decide +kernel
theorem dX3_init_41 : decode cX3_init 41 = .ok (.newarray .int, 2) := by decide +kernel
theorem dX3_init_43 : decode cX3_init 43 = .ok (.putfield 28, 3) := by decide +kernel
theorem dX3_init_46 : decode cX3_init 46 = .ok (.aload_n 0, 1) := by decide +kernel
theorem dX3_init_47 : decode cX3_init 47 = .ok (.bipush 8, 2) := by decide +kernel
theorem dX3_init_49 : decode cX3_init 49 = .ok (.newarray .int, 2) := by decide +kernel
theorem dX3_init_51 : decode cX3_init 51 = .ok (.putfield 31, 3) := by decide +kernel
theorem dX3_init_54 : decode cX3_init 54 = .ok (.aload_n 0, 1) := by decide +kernel
theorem dX3_init_55 : decode cX3_init 55 = .ok (.aload_n 1, 1) := by decide +kernel
theorem dX3_init_56 : decode cX3_init 56 = .ok (.putfield 34, 3) := by decide +kernel
theorem dX3_init_59 : decode cX3_init 59 = .ok (.aload_n 0, 1) := by decide +kernel
theorem dX3_init_60 : decode cX3_init 60 = .ok (.aload_n 2, 1) := by decide +kernel
theorem dX3_init_61 : decode cX3_init 61 = .ok (.putfield 38, 3) := by decide +kernel
theorem dX3_init_64 : decode cX3_init 64 = .ok (.return_, 1) := by decide +kernel
set_option maxRecDepth 20000 in
theorem ggX3_startRow_X3_allWait : GoodIn wsX3_startRow wsX3_allWait := goodIn_r _ [13, 14, 15, 16, 17, 18, 19, 20, 21, 22, 23, 24, 25, 26, 27] (by decide +kernel) (by decide +kernel)
set_option maxRecDepth 20000 in
theorem gX3_startRow_X3_allWait : GoodIn wsX3_startRow (wsV RX3 53 RX3 yX3_allWait wsX3_allWait) := goodIn_app (goodIn_of _ (by decide +kernel)) ggX3_startRow_X3_allWait
theorem dX3_startRow_0 : decode cX3_startRow 0 = .ok (.aload_n 1, 1) := by decide +kernel
theorem dX3_startRow_1 : decode cX3_startRow 1 = .ok (.iconst 0, 1) := by decide +kernel
theorem dX3_startRow_2 : decode cX3_startRow 2 = .ok (.aload_n 0, 1) := by decide +kernel
theorem dX3_startRow_3 : decode cX3_startRow 3 = .ok (.getfield 9, 3) := by decide +kernel
theorem dX3_startRow_6 : decode cX3_startRow 6 = .ok (.iconst 0, 1) := by decide +kernel
theorem dX3_startRow_7 : decode cX3_startRow 7 = .ok (.bipush 8, 2) := by decide +kernel
theorem dX3_startRow_9 : decode cX3_startRow 9 = .ok (.invokestatic 42, 3) := by decide +kernel
theorem dX3_startRow_12 : decode cX3_startRow 12 = .ok (.aload_n 0, 1) := by decide +kernel
theorem dX3_startRow_13 : decode cX3_startRow 13 = .ok (.aload_n 0, 1) := by decide +kernel
theorem dX3_startRow_14 : decode cX3_startRow 14 = .ok (.getfield 34, 3) := by decide +kernel
theorem dX3_startRow_17 : decode cX3_startRow 17 = .ok (.getfield 48, 3) := by decide +kernel
theorem dX3_startRow_20 : decode cX3_startRow 20 = .ok (.putfield 15, 3) := by decide +kernel
theorem dX3_startRow_23 : decode cX3_startRow 23 = .ok (.aload_n 0, 1) := by decide +kernel
theorem dX3_startRow_24 : decode cX3_startRow 24 = .ok (.invokevirtual 53, 3) := by decide +kernel
theorem dX3_startRow_27 : decode cX3_startRow 27 = .ok (.return_, 1) := by decide +kernel
set_option maxRecDepth 20000 in
theorem ggX3_startAlone_X3_allWait : GoodIn wsX3_startAlone wsX3_allWait := goodIn_r _ [7, 8, 9, 10, 11, 12, 13, 14, 15, 16, 17, 18, 19, 20, 21] (by decide +kernel) (by decide +kernel)
set_option maxRecDepth 20000 in
theorem gX3_startAlone_X3_allWait : GoodIn wsX3_startAlone (wsV RX3 53 RX3 yX3_allWait wsX3_allWait) := goodIn_app (goodIn_of _ (by decide +kernel)) ggX3_startAlone_X3_allWait
theorem dX3_startAlone_0 : decode cX3_startAlone 0 = .ok (.aload_n 0, 1) := by decide +kernel
theorem dX3_startAlone_1 : decode cX3_startAlone 1 = .ok (.getfield 9, 3) := by decide +kernel
theorem dX3_startAlone_4 : decode cX3_startAlone 4 = .ok (.iconst 0, 1) := by decide +kernel
theorem dX3_startAlone_5 : decode cX3_startAlone 5 = .ok (.iload_n 1, 1) := by decide +kernel
theorem dX3_startAlone_6 : decode cX3_startAlone 6 = .ok (.iastore, 1) := by decide +kernel
theorem dX3_startAlone_7 : decode cX3_startAlone 7 = .ok (.aload_n 0, 1) := by decide +kernel
theorem dX3_startAlone_8 : decode cX3_startAlone 8 = .ok (.iconst 1, 1) := by decide +kernel
theorem dX3_startAlone_9 : decode cX3_startAlone 9 = .ok (.putfield 15, 3) := by decide +kernel
theorem dX3_startAlone_12 : decode cX3_startAlone 12 = .ok (.aload_n 0, 1) := by decide +kernel
theorem dX3_startAlone_13 : decode cX3_startAlone 13 = .ok (.invokevirtual 53, 3) := by decide +kernel
theorem dX3_startAlone_16 : decode cX3_startAlone 16 = .ok (.return_, 1) := by decide +kernel
theorem dX3_allWait_0 : decode cX3_allWait 0 = .ok (.aload_n 0, 1) := by decide +kernel
theorem dX3_allWait_1 : decode cX3_allWait 1 = .ok (.iconst 0, 1) := by decide +kernel
theorem dX3_allWait_2 : decode cX3_allWait 2 = .ok (.putfield 19, 3) := by decide +kernel
theorem dX3_allWait_5 : decode cX3_allWait 5 = .ok (.iconst 0, 1) := by decide +kernel
theorem dX3_allWait_6 : decode cX3_allWait 6 = .ok (.istore_n 1, 1) := by decide +kernel
theorem dX3_allWait_7 : decode cX3_allWait 7 = .ok (.iload_n 1, 1) := by decide +kernel
theorem dX3_allWait_8 : decode cX3_allWait 8 = .ok (.bipush 8, 2) := by decide +kernel
theorem dX3_allWait_10 : decode cX3_allWait 10 = .ok (.if_icmp .ge 37, 3) := by decide +kernel
theorem dX3_allWait_13 : decode cX3_allWait 13 = .ok (.aload_n 0, 1) := by decide +kernel
theorem dX3_allWait_14 : decode cX3_allWait 14 = .ok (.getfield 22, 3) := by decide +kernel
theorem dX3_allWait_17 : decode cX3_allWait 17 = .ok (.iload_n 1, 1) := by decide +kernel
theorem dX3_allWait_18 : decode cX3_allWait 18 = .ok (.iconst (-1), 1) := by decide +kernel
theorem dX3_allWait_19 : decode cX3_allWait 19 = .ok (.iastore, 1) := by decide +kernel
theorem dX3_allWait_20 : decode cX3_allWait 20 = .ok (.aload_n 0, 1) := by decide +kernel
theorem dX3_allWait_21 : decode cX3_allWait 21 = .ok (.getfield 25, 3) := by decide +kernel
theorem dX3_allWait_24 : decode cX3_allWait 24 = .ok (.iload_n 1, 1) := by decide +kernel
theorem dX3_allWait_25 : decode cX3_allWait 25 = .ok (.iconst 0, 1) := by decide +kernel
theorem dX3_allWait_26 : decode cX3_allWait 26 = .ok (.iastore, 1) := by decide +kernel
theorem dX3_allWait_27 : decode cX3_allWait 27 = .ok (.aload_n 0, 1) := by decide +kernel
theorem dX3_allWait_28 : decode cX3_allWait 28 = .ok (.getfield 28, 3) := by decide +kernel
theorem dX3_allWait_31 : decode cX3_allWait 31 = .ok (.iload_n 1, 1) := by decide +kernel
theorem dX3_allWait_32 : decode cX3_allWait 32 = .ok (.iconst (-1), 1) := by decide +kernel
theorem dX3_allWait_33 : decode cX3_allWait 33 = .ok (.iastore, 1) := by decide +kernel
theorem dX3_allWait_34 : decode cX3_allWait 34 = .ok (.aload_n 0, 1) := by decide +kernel
theorem dX3_allWait_35 : decode cX3_allWait 35 = .ok (.getfield 31, 3) := by decide +kernel
theorem dX3_allWait_38 : decode cX3_allWait 38 = .ok (.iload_n 1, 1) := by decide +kernel
theorem dX3_allWait_39 : decode cX3_allWait 39 = .ok (.iconst (-1), 1) := by decide +kernel
theorem dX3_allWait_40 : decode cX3_allWait 40 = .ok (.iastore, 1) := by decide +kernel
theorem dX3_allWait_41 : decode cX3_allWait 41 = .ok (.iinc 1 1, 3) := by decide +kernel
theorem dX3_allWait_44 : decode cX3_allWait 44 = .ok (.goto (-37), 3) := by decide +kernel
theorem dX3_allWait_47 : decode cX3_allWait 47 = .ok (.return_, 1) := by decide +kernel
theorem dX3_copyOf_0 : decode cX3_copyOf 0 = .ok (.aload_n 1, 1) := by decide +kernel
theorem dX3_copyOf_1 : decode cX3_copyOf 1 = .ok (.getfield 9, 3) := by decide +kernel
theorem dX3_copyOf_4 : decode cX3_copyOf 4 = .ok (.iconst 0, 1) := by decide +kernel
theorem dX3_copyOf_5 : decode cX3_copyOf 5 = .ok (.aload_n 0, 1) := by decide +kernel
theorem dX3_copyOf_6 : decode cX3_copyOf 6 = .ok (.getfield 9, 3) := by decide +kernel
theorem dX3_copyOf_9 : decode cX3_copyOf 9 = .ok (.iconst 0, 1) := by decide +kernel
theorem dX3_copyOf_10 : decode cX3_copyOf 10 = .ok (.bipush 8, 2) := by decide +kernel
theorem dX3_copyOf_12 : decode cX3_copyOf 12 = .ok (.invokestatic 42, 3) := by decide +kernel
theorem dX3_copyOf_15 : decode cX3_copyOf 15 = .ok (.aload_n 1, 1) := by decide +kernel
theorem dX3_copyOf_16 : decode cX3_copyOf 16 = .ok (.getfield 22, 3) := by decide +kernel
theorem dX3_copyOf_19 : decode cX3_copyOf 19 = .ok (.iconst 0, 1) := by decide +kernel
theorem dX3_copyOf_20 : decode cX3_copyOf 20 = .ok (.aload_n 0, 1) := by decide +kernel
theorem dX3_copyOf_21 : decode cX3_copyOf 21 = .ok (.getfield 22, 3) := by decide +kernel
theorem dX3_copyOf_24 : decode cX3_copyOf 24 = .ok (.iconst 0, 1) := by decide +kernel
theorem dX3_copyOf_25 : decode cX3_copyOf 25 = .ok (.bipush 8, 2) := by decide +kernel
theorem dX3_copyOf_27 : decode cX3_copyOf 27 = .ok (.invokestatic 42, 3) := by decide +kernel
theorem dX3_copyOf_30 : decode cX3_copyOf 30 = .ok (.aload_n 1, 1) := by decide +kernel
theorem dX3_copyOf_31 : decode cX3_copyOf 31 = .ok (.getfield 25, 3) := by decide +kernel
theorem dX3_copyOf_34 : decode cX3_copyOf 34 = .ok (.iconst 0, 1) := by decide +kernel
theorem dX3_copyOf_35 : decode cX3_copyOf 35 = .ok (.aload_n 0, 1) := by decide +kernel
theorem dX3_copyOf_36 : decode cX3_copyOf 36 = .ok (.getfield 25, 3) := by decide +kernel
theorem dX3_copyOf_39 : decode cX3_copyOf 39 = .ok (.iconst 0, 1) := by decide +kernel
theorem dX3_copyOf_40 : decode cX3_copyOf 40 = .ok (.bipush 8, 2) := by decide +kernel
theorem dX3_copyOf_42 : decode cX3_copyOf 42 = .ok (.invokestatic 42, 3) := by decide +kernel
theorem dX3_copyOf_45 : decode cX3_copyOf 45 = .ok (.aload_n 1, 1) := by decide +kernel
theorem dX3_copyOf_46 : decode cX3_copyOf 46 = .ok (.getfield 28, 3) := by decide +kernel
theorem dX3_copyOf_49 : decode cX3_copyOf 49 = .ok (.iconst 0, 1) := by decide +kernel
theorem dX3_copyOf_50 : decode cX3_copyOf 50 = .ok (.aload_n 0, 1) := by decide +kernel
theorem dX3_copyOf_51 : decode cX3_copyOf 51 = .ok (.getfield 28, 3) := by decide +kernel
theorem dX3_copyOf_54 : decode cX3_copyOf 54 = .ok (.iconst 0, 1) := by decide +kernel
theorem dX3_copyOf_55 : decode cX3_copyOf 55 = .ok (.bipush 8, 2) := by decide +kernel
theorem dX3_copyOf_57 : decode cX3_copyOf 57 = .ok (.invokestatic 42, 3) := by decide +kernel
theorem dX3_copyOf_60 : decode cX3_copyOf 60 = .ok (.aload_n 1, 1) := by decide +kernel
theorem dX3_copyOf_61 : decode cX3_copyOf 61 = .ok (.getfield 31, 3) := by decide +kernel
theorem dX3_copyOf_64 : decode cX3_copyOf 64 = .ok (.iconst 0, 1) := by decide +kernel
theorem dX3_copyOf_65 : decode cX3_copyOf 65 = .ok (.aload_n 0, 1) := by decide +kernel
theorem dX3_copyOf_66 : decode cX3_copyOf 66 = .ok (.getfield 31, 3) := by decide +kernel
theorem dX3_copyOf_69 : decode cX3_copyOf 69 = .ok (.iconst 0, 1) := by decide +kernel
theorem dX3_copyOf_70 : decode cX3_copyOf 70 = .ok (.bipush 8, 2) := by decide +kernel
theorem dX3_copyOf_72 : decode cX3_copyOf 72 = .ok (.invokestatic 42, 3) := by decide +kernel
theorem dX3_copyOf_75 : decode cX3_copyOf 75 = .ok (.aload_n 0, 1) := by decide +kernel
theorem dX3_copyOf_76 : decode cX3_copyOf 76 = .ok (.aload_n 1, 1) := by decide +kernel
theorem dX3_copyOf_77 : decode cX3_copyOf 77 = .ok (.getfield 15, 3) := by decide +kernel
theorem dX3_copyOf_80 : decode cX3_copyOf 80 = .ok (.putfield 15, 3) := by decide +kernel
theorem dX3_copyOf_83 : decode cX3_copyOf 83 = .ok (.aload_n 0, 1) := by decide +kernel
theorem dX3_copyOf_84 : decode cX3_copyOf 84 = .ok (.aload_n 1, 1) := by decide +kernel
theorem dX3_copyOf_85 : decode cX3_copyOf 85 = .ok (.getfield 19, 3) := by decide +kernel
theorem dX3_copyOf_88 : decode cX3_copyOf 88 = .ok (.putfield 19, 3) := by decide +kernel
theorem dX3_copyOf_91 : decode cX3_copyOf 91 = .ok (.return_, 1) := by decide +kernel
set_option maxRecDepth 20000 in
theorem ggX3_goToEnd_X3_allOut : GoodIn wsX3_goToEnd wsX3_allOut := goodIn_r _ [6, 7, 8, 9, 10, 11, 5, 12, 13, 55, 56, 57, 58, 59, 60, 61, 62, 63] (by decide +kernel) (by decide +kernel)
set_option maxRecDepth 20000 in
theorem gX3_goToEnd_X3_allOut : GoodIn wsX3_goToEnd (wsV RX3 57 RX3 yX3_allOut wsX3_allOut) := goodIn_app (goodIn_of _ (by decide +kernel)) ggX3_goToEnd_X3_allOut
set_option maxRecDepth 20000 in
theorem ggX3_goToEnd_X3_step : GoodIn wsX3_goToEnd wsX3_step := goodIn_r _ [17, 18, 7, 8, 9, 10, 11, 5, 12, 13, 19, 20, 21, 22, 23, 24, 25, 26, 27, 28, 29, 30, 31, 32, 33, 34, 35, 36, 37, 38, 39, 40, 41, 42, 43, 44, 45, 46, 47, 48, 49, 50, 51, 52, 53, 54, 55, 56, 57, 58, 59, 60, 61, 62, 63, 64, 65, 66, 67, 68, 69, 70, 71, 72, 73] (by decide +kernel) (by decide +kernel)
set_option maxRecDepth 20000 in
theorem gX3_goToEnd_X3_step : GoodIn wsX3_goToEnd (wsV RX3 61 RX3 yX3_step wsX3_step) := goodIn_app (goodIn_of _ (by decide +kernel)) ggX3_goToEnd_X3_step
theorem dX3_goToEnd_0 : decode cX3_goToEnd 0 = .ok (.iconst 0, 1) := by decide +kernel
theorem dX3_goToEnd_1 : decode cX3_goToEnd 1 = .ok (.istore_n 1, 1) := by decide +kernel
theorem dX3_goToEnd_2 : decode cX3_goToEnd 2 = .ok (.iload_n 1, 1) := by decide +kernel
theorem dX3_goToEnd_3 : decode cX3_goToEnd 3 = .ok (.ldc 56, 2) := by decide +kernel
theorem dX3_goToEnd_5 : decode cX3_goToEnd 5 = .ok (.if_icmp .ge 20, 3) := by decide +kernel
theorem dX3_goToEnd_8 : decode cX3_goToEnd 8 = .ok (.aload_n 0, 1) := by decide +kernel
theorem dX3_goToEnd_9 : decode cX3_goToEnd 9 = .ok (.invokevirtual 57, 3) := by decide +kernel
theorem dX3_goToEnd_12 : decode cX3_goToEnd 12 = .ok (.ifCond .ne 13, 3) := by decide +kernel
theorem dX3_goToEnd_15 : decode cX3_goToEnd 15 = .ok (.aload_n 0, 1) := by decide +kernel
theorem dX3_goToEnd_16 : decode cX3_goToEnd 16 = .ok (.invokevirtual 61, 3) := by decide +kernel
theorem dX3_goToEnd_19 : decode cX3_goToEnd 19 = .ok (.iinc 1 1, 3) := by decide +kernel
theorem dX3_goToEnd_22 : decode cX3_goToEnd 22 = .ok (.goto (-20), 3) := by decide +kernel
theorem dX3_goToEnd_25 : decode cX3_goToEnd 25 = .ok (.return_, 1) := by decide +kernel
set_option maxRecDepth 20000 in
theorem ggX3_step_X3_isOut : GoodIn wsX3_step wsX3_isOut := goodIn_r _ [8, 9, 46, 47, 48, 49, 50, 51, 52, 53, 54] (by decide +kernel) (by decide +kernel)
set_option maxRecDepth 20000 in
theorem gX3_step_X3_isOut : GoodIn wsX3_step (wsV RX3 64 RX3 yX3_isOut wsX3_isOut) := goodIn_app (goodIn_of _ (by decide +kernel)) ggX3_step_X3_isOut
set_option maxRecDepth 20000 in
theorem ggX3_step_X3_act : GoodIn wsX3_step wsX3_act := goodIn_r _ [13, 3, 14, 15, 16, 17, 18, 19, 20, 7, 21, 1, 22, 23, 24, 25, 26, 27, 4, 5, 6, 8, 9, 28, 29, 30, 31, 32, 33, 34, 35, 36, 37, 38, 39, 40, 41, 42, 43, 44, 45, 46, 47, 48, 49, 50, 51, 52, 53, 54, 55, 56, 57, 58, 59, 60, 61, 62, 63, 64] (by decide +kernel) (by decide +kernel)
set_option maxRecDepth 20000 in
theorem gX3_step_X3_act : GoodIn wsX3_step (wsV RX3 68 RX3 yX3_act wsX3_act) := goodIn_app (goodIn_of _ (by decide +kernel)) ggX3_step_X3_act
theorem dX3_step_0 : decode cX3_step 0 = .ok (.aload_n 0, 1) := by decide +kernel
theorem dX3_step_1 : decode cX3_step 1 = .ok (.dup, 1) := by decide +kernel
theorem dX3_step_2 : decode cX3_step 2 = .ok (.getfield 19, 3) := by decide +kernel
theorem dX3_step_5 : decode cX3_step 5 = .ok (.iconst 1, 1) := by decide +kernel
theorem dX3_step_6 : decode cX3_step 6 = .ok (.iadd, 1) := by decide +kernel
theorem dX3_step_7 : decode cX3_step 7 = .ok (.putfield 19, 3) := by decide +kernel
theorem dX3_step_10 : decode cX3_step 10 = .ok (.iconst 0, 1) := by decide +kernel
theorem dX3_step_11 : decode cX3_step 11 = .ok (.istore_n 1, 1) := by decide +kernel
theorem dX3_step_12 : decode cX3_step 12 = .ok (.iload_n 1, 1) := by decide +kernel
theorem dX3_step_13 : decode cX3_step 13 = .ok (.aload_n 0, 1) := by decide +kernel
theorem dX3_step_14 : decode cX3_step 14 = .ok (.getfield 15, 3) := by decide +kernel
theorem dX3_step_17 : decode cX3_step 17 = .ok (.if_icmp .ge 27, 3) := by decide +kernel
theorem dX3_step_20 : decode cX3_step 20 = .ok (.aload_n 0, 1) := by decide +kernel
theorem dX3_step_21 : decode cX3_step 21 = .ok (.aload_n 0, 1) := by decide +kernel
theorem dX3_step_22 : decode cX3_step 22 = .ok (.getfield 9, 3) := by decide +kernel
theorem dX3_step_25 : decode cX3_step 25 = .ok (.iload_n 1, 1) := by decide +kernel
theorem dX3_step_26 : decode cX3_step 26 = .ok (.iaload, 1) := by decide +kernel
theorem dX3_step_27 : decode cX3_step 27 = .ok (.invokevirtual 64, 3) := by decide +kernel
theorem dX3_step_30 : decode cX3_step 30 = .ok (.ifCond .ne 8, 3) := by decide +kernel
theorem dX3_step_33 : decode cX3_step 33 = .ok (.aload_n 0, 1) := by decide +kernel
theorem dX3_step_34 : decode cX3_step 34 = .ok (.iload_n 1, 1) := by decide +kernel
theorem dX3_step_35 : decode cX3_step 35 = .ok (.invokevirtual 68, 3) := by decide +kernel
theorem dX3_step_38 : decode cX3_step 38 = .ok (.iinc 1 1, 3) := by decide +kernel
theorem dX3_step_41 : decode cX3_step 41 = .ok (.goto (-29), 3) := by decide +kernel
theorem dX3_step_44 : decode cX3_step 44 = .ok (.return_, 1) := by decide +kernel
set_option maxRecDepth 20000 in
theorem ggX3_act_X3_goesNow : GoodIn wsX3_act wsX3_goesNow := goodIn_r _ [10, 11, 41, 42, 43, 44, 45, 46, 47, 48, 49] (by decide +kernel) (by decide +kernel)
set_option maxRecDepth 20000 in
theorem gX3_act_X3_goesNow : GoodIn wsX3_act (wsV RX3 75 RX3 yX3_goesNow wsX3_goesNow) := goodIn_app (goodIn_of _ (by decide +kernel)) ggX3_act_X3_goesNow
set_option maxRecDepth 20000 in
theorem ggX3_act_X3_hasRoom : GoodIn wsX3_act wsX3_hasRoom := goodIn_r _ [15, 5, 1, 16, 17, 18, 19, 20, 9, 21, 22, 23, 24, 25, 26, 3, 27, 41, 42, 43, 44, 45, 46, 47, 48, 49, 56, 57, 58, 59, 50, 51, 52, 53, 54, 55] (by decide +kernel) (by decide +kernel)
set_option maxRecDepth 20000 in
theorem gX3_act_X3_hasRoom : GoodIn wsX3_act (wsV RX3 78 RX3 yX3_hasRoom wsX3_hasRoom) := goodIn_app (goodIn_of _ (by decide +kernel)) ggX3_act_X3_hasRoom
set_option maxRecDepth 20000 in
theorem ggX3_act_X3_arrive : GoodIn wsX3_act wsX3_arrive := goodIn_r _ [31, 5, 32, 11, 16, 33, 22, 3, 4, 2, 23, 24, 25, 9, 26, 27, 34, 35, 36, 37, 38, 39, 40, 41, 42, 43, 44, 45, 46, 47, 48, 49, 56, 57, 58, 59, 50, 51, 52, 53, 54, 55] (by decide +kernel) (by decide +kernel)
set_option maxRecDepth 20000 in
theorem gX3_act_X3_arrive : GoodIn wsX3_act (wsV RX3 81 RX3 yX3_arrive wsX3_arrive) := goodIn_app (goodIn_of _ (by decide +kernel)) ggX3_act_X3_arrive
theorem dX3_act_0 : decode cX3_act 0 = .ok (.aload_n 0, 1) := by decide +kernel
theorem dX3_act_1 : decode cX3_act 1 = .ok (.getfield 9, 3) := by decide +kernel
theorem dX3_act_4 : decode cX3_act 4 = .ok (.iload_n 1, 1) := by decide +kernel
theorem dX3_act_5 : decode cX3_act 5 = .ok (.iaload, 1) := by decide +kernel
theorem dX3_act_6 : decode cX3_act 6 = .ok (.istore_n 2, 1) := by decide +kernel
theorem dX3_act_7 : decode cX3_act 7 = .ok (.aload_n 0, 1) := by decide +kernel
theorem dX3_act_8 : decode cX3_act 8 = .ok (.getfield 25, 3) := by decide +kernel
theorem dX3_act_11 : decode cX3_act 11 = .ok (.iload_n 2, 1) := by decide +kernel
theorem dX3_act_12 : decode cX3_act 12 = .ok (.iaload, 1) := by decide +kernel
theorem dX3_act_13 : decode cX3_act 13 = .ok (.ifCond .le 16, 3) := by decide +kernel
theorem dX3_act_16 : decode cX3_act 16 = .ok (.aload_n 0, 1) := by decide +kernel
theorem dX3_act_17 : decode cX3_act 17 = .ok (.getfield 25, 3) := by decide +kernel
theorem dX3_act_20 : decode cX3_act 20 = .ok (.iload_n 2, 1) := by decide +kernel
theorem dX3_act_21 : decode cX3_act 21 = .ok (.dup2, 1) := by decide +kernel
theorem dX3_act_22 : decode cX3_act 22 = .ok (.iaload, 1) := by decide +kernel
theorem dX3_act_23 : decode cX3_act 23 = .ok (.iconst 1, 1) := by decide +kernel
theorem dX3_act_24 : decode cX3_act 24 = .ok (.isub, 1) := by decide +kernel
theorem dX3_act_25 : decode cX3_act 25 = .ok (.iastore, 1) := by decide +kernel
theorem dX3_act_26 : decode cX3_act 26 = .ok (.goto 42, 3) := by decide +kernel
theorem dX3_act_29 : decode cX3_act 29 = .ok (.aload_n 0, 1) := by decide +kernel
theorem dX3_act_30 : decode cX3_act 30 = .ok (.aload_n 0, 1) := by decide +kernel
theorem dX3_act_31 : decode cX3_act 31 = .ok (.getfield 34, 3) := by decide +kernel
theorem dX3_act_34 : decode cX3_act 34 = .ok (.getfield 72, 3) := by decide +kernel
theorem dX3_act_37 : decode cX3_act 37 = .ok (.iload_n 2, 1) := by decide +kernel
theorem dX3_act_38 : decode cX3_act 38 = .ok (.iaload, 1) := by decide +kernel
theorem dX3_act_39 : decode cX3_act 39 = .ok (.invokevirtual 75, 3) := by decide +kernel
theorem dX3_act_42 : decode cX3_act 42 = .ok (.ifCond .eq 26, 3) := by decide +kernel
theorem dX3_act_45 : decode cX3_act 45 = .ok (.aload_n 0, 1) := by decide +kernel
theorem dX3_act_46 : decode cX3_act 46 = .ok (.iload_n 1, 1) := by decide +kernel
theorem dX3_act_47 : decode cX3_act 47 = .ok (.invokevirtual 78, 3) := by decide +kernel
theorem dX3_act_50 : decode cX3_act 50 = .ok (.ifCond .eq 18, 3) := by decide +kernel
theorem dX3_act_53 : decode cX3_act 53 = .ok (.aload_n 0, 1) := by decide +kernel
theorem dX3_act_54 : decode cX3_act 54 = .ok (.getfield 22, 3) := by decide +kernel
theorem dX3_act_57 : decode cX3_act 57 = .ok (.iload_n 2, 1) := by decide +kernel
theorem dX3_act_58 : decode cX3_act 58 = .ok (.dup2, 1) := by decide +kernel
theorem dX3_act_59 : decode cX3_act 59 = .ok (.iaload, 1) := by decide +kernel
theorem dX3_act_60 : decode cX3_act 60 = .ok (.iconst 1, 1) := by decide +kernel
theorem dX3_act_61 : decode cX3_act 61 = .ok (.iadd, 1) := by decide +kernel
theorem dX3_act_62 : decode cX3_act 62 = .ok (.iastore, 1) := by decide +kernel
theorem dX3_act_63 : decode cX3_act 63 = .ok (.aload_n 0, 1) := by decide +kernel
theorem dX3_act_64 : decode cX3_act 64 = .ok (.iload_n 2, 1) := by decide +kernel
theorem dX3_act_65 : decode cX3_act 65 = .ok (.invokevirtual 81, 3) := by decide +kernel
theorem dX3_act_68 : decode cX3_act 68 = .ok (.return_, 1) := by decide +kernel
theorem dX3_goesNow_0 : decode cX3_goesNow 0 = .ok (.aload_n 0, 1) := by decide +kernel
theorem dX3_goesNow_1 : decode cX3_goesNow 1 = .ok (.getfield 19, 3) := by decide +kernel
theorem dX3_goesNow_4 : decode cX3_goesNow 4 = .ok (.iconst 2, 1) := by decide +kernel
theorem dX3_goesNow_5 : decode cX3_goesNow 5 = .ok (.irem, 1) := by decide +kernel
theorem dX3_goesNow_6 : decode cX3_goesNow 6 = .ok (.ifCond .eq 13, 3) := by decide +kernel
theorem dX3_goesNow_9 : decode cX3_goesNow 9 = .ok (.iload_n 1, 1) := by decide +kernel
theorem dX3_goesNow_10 : decode cX3_goesNow 10 = .ok (.iconst 3, 1) := by decide +kernel
theorem dX3_goesNow_11 : decode cX3_goesNow 11 = .ok (.if_icmp .eq 12, 3) := by decide +kernel
theorem dX3_goesNow_14 : decode cX3_goesNow 14 = .ok (.iload_n 1, 1) := by decide +kernel
theorem dX3_goesNow_15 : decode cX3_goesNow 15 = .ok (.iconst 4, 1) := by decide +kernel
theorem dX3_goesNow_16 : decode cX3_goesNow 16 = .ok (.if_icmp .eq 7, 3) := by decide +kernel
theorem dX3_goesNow_19 : decode cX3_goesNow 19 = .ok (.iconst 1, 1) := by decide +kernel
theorem dX3_goesNow_20 : decode cX3_goesNow 20 = .ok (.goto 4, 3) := by decide +kernel
theorem dX3_goesNow_23 : decode cX3_goesNow 23 = .ok (.iconst 0, 1) := by decide +kernel
theorem dX3_goesNow_24 : decode cX3_goesNow 24 = .ok (.ireturn, 1) := by decide +kernel
set_option maxRecDepth 20000 in
theorem ggX3_hasRoom_X3_isOut : GoodIn wsX3_hasRoom wsX3_isOut := goodIn_r _ [9, 10, 17, 18, 19, 20, 21, 22, 23, 24, 25] (by decide +kernel) (by decide +kernel)
set_option maxRecDepth 20000 in
theorem gX3_hasRoom_X3_isOut : GoodIn wsX3_hasRoom (wsV RX3 64 RX3 yX3_isOut wsX3_isOut) := goodIn_app (goodIn_of _ (by decide +kernel)) ggX3_hasRoom_X3_isOut
set_option maxRecDepth 20000 in
theorem ggX3_hasRoom_X3_tailOf : GoodIn wsX3_hasRoom wsX3_tailOf := goodIn_r _ [14, 1, 15, 16, 17, 18, 19, 20, 21, 22, 23, 24, 25, 30, 31, 32, 33, 34, 35] (by decide +kernel) (by decide +kernel)
set_option maxRecDepth 20000 in
theorem gX3_hasRoom_X3_tailOf : GoodIn wsX3_hasRoom (wsV RX3 84 RX3 yX3_tailOf wsX3_tailOf) := goodIn_app (goodIn_of _ (by decide +kernel)) ggX3_hasRoom_X3_tailOf
theorem dX3_hasRoom_0 : decode cX3_hasRoom 0 = .ok (.aload_n 0, 1) := by decide +kernel
theorem dX3_hasRoom_1 : decode cX3_hasRoom 1 = .ok (.getfield 22, 3) := by decide +kernel
theorem dX3_hasRoom_4 : decode cX3_hasRoom 4 = .ok (.aload_n 0, 1) := by decide +kernel
theorem dX3_hasRoom_5 : decode cX3_hasRoom 5 = .ok (.getfield 9, 3) := by decide +kernel
theorem dX3_hasRoom_8 : decode cX3_hasRoom 8 = .ok (.iload_n 1, 1) := by decide +kernel
theorem dX3_hasRoom_9 : decode cX3_hasRoom 9 = .ok (.iaload, 1) := by decide +kernel
theorem dX3_hasRoom_10 : decode cX3_hasRoom 10 = .ok (.iaload, 1) := by decide +kernel
theorem dX3_hasRoom_11 : decode cX3_hasRoom 11 = .ok (.iconst 1, 1) := by decide +kernel
theorem dX3_hasRoom_12 : decode cX3_hasRoom 12 = .ok (.iadd, 1) := by decide +kernel
theorem dX3_hasRoom_13 : decode cX3_hasRoom 13 = .ok (.istore_n 2, 1) := by decide +kernel
theorem dX3_hasRoom_14 : decode cX3_hasRoom 14 = .ok (.iload_n 1, 1) := by decide +kernel
theorem dX3_hasRoom_15 : decode cX3_hasRoom 15 = .ok (.iconst 1, 1) := by decide +kernel
theorem dX3_hasRoom_16 : decode cX3_hasRoom 16 = .ok (.isub, 1) := by decide +kernel
theorem dX3_hasRoom_17 : decode cX3_hasRoom 17 = .ok (.istore_n 3, 1) := by decide +kernel
theorem dX3_hasRoom_18 : decode cX3_hasRoom 18 = .ok (.iload_n 3, 1) := by decide +kernel
theorem dX3_hasRoom_19 : decode cX3_hasRoom 19 = .ok (.ifCond .lt 50, 3) := by decide +kernel
theorem dX3_hasRoom_22 : decode cX3_hasRoom 22 = .ok (.aload_n 0, 1) := by decide +kernel
theorem dX3_hasRoom_23 : decode cX3_hasRoom 23 = .ok (.aload_n 0, 1) := by decide +kernel
theorem dX3_hasRoom_24 : decode cX3_hasRoom 24 = .ok (.getfield 9, 3) := by decide +kernel
theorem dX3_hasRoom_27 : decode cX3_hasRoom 27 = .ok (.iload_n 3, 1) := by decide +kernel
theorem dX3_hasRoom_28 : decode cX3_hasRoom 28 = .ok (.iaload, 1) := by decide +kernel
theorem dX3_hasRoom_29 : decode cX3_hasRoom 29 = .ok (.invokevirtual 64, 3) := by decide +kernel
theorem dX3_hasRoom_32 : decode cX3_hasRoom 32 = .ok (.ifCond .ne 31, 3) := by decide +kernel
theorem dX3_hasRoom_35 : decode cX3_hasRoom 35 = .ok (.aload_n 0, 1) := by decide +kernel
theorem dX3_hasRoom_36 : decode cX3_hasRoom 36 = .ok (.aload_n 0, 1) := by decide +kernel
theorem dX3_hasRoom_37 : decode cX3_hasRoom 37 = .ok (.getfield 9, 3) := by decide +kernel
theorem dX3_hasRoom_40 : decode cX3_hasRoom 40 = .ok (.iload_n 3, 1) := by decide +kernel
theorem dX3_hasRoom_41 : decode cX3_hasRoom 41 = .ok (.iaload, 1) := by decide +kernel
theorem dX3_hasRoom_42 : decode cX3_hasRoom 42 = .ok (.invokevirtual 84, 3) := by decide +kernel
theorem dX3_hasRoom_45 : decode cX3_hasRoom 45 = .ok (.iload_n 2, 1) := by decide +kernel
theorem dX3_hasRoom_46 : decode cX3_hasRoom 46 = .ok (.isub, 1) := by decide +kernel
theorem dX3_hasRoom_47 : decode cX3_hasRoom 47 = .ok (.aload_n 0, 1) := by decide +kernel
theorem dX3_hasRoom_48 : decode cX3_hasRoom 48 = .ok (.getfield 38, 3) := by decide +kernel
theorem dX3_hasRoom_51 : decode cX3_hasRoom 51 = .ok (.getfield 88, 3) := by decide +kernel
theorem dX3_hasRoom_54 : decode cX3_hasRoom 54 = .ok (.if_icmp .le 7, 3) := by decide +kernel
theorem dX3_hasRoom_57 : decode cX3_hasRoom 57 = .ok (.iconst 1, 1) := by decide +kernel
theorem dX3_hasRoom_58 : decode cX3_hasRoom 58 = .ok (.goto 4, 3) := by decide +kernel
theorem dX3_hasRoom_61 : decode cX3_hasRoom 61 = .ok (.iconst 0, 1) := by decide +kernel
theorem dX3_hasRoom_62 : decode cX3_hasRoom 62 = .ok (.ireturn, 1) := by decide +kernel
theorem dX3_hasRoom_63 : decode cX3_hasRoom 63 = .ok (.iinc 3 (-1), 3) := by decide +kernel
theorem dX3_hasRoom_66 : decode cX3_hasRoom 66 = .ok (.goto (-48), 3) := by decide +kernel
theorem dX3_hasRoom_69 : decode cX3_hasRoom 69 = .ok (.iconst 1, 1) := by decide +kernel
theorem dX3_hasRoom_70 : decode cX3_hasRoom 70 = .ok (.ireturn, 1) := by decide +kernel
set_option maxRecDepth 20000 in
theorem ggX3_arrive_X3_tailOf : GoodIn wsX3_arrive wsX3_tailOf := goodIn_r _ [14, 1, 7, 15, 23, 24, 25, 26, 27, 28, 29, 30, 31, 36, 37, 38, 39, 40, 41] (by decide +kernel) (by decide +kernel)
set_option maxRecDepth 20000 in
theorem gX3_arrive_X3_tailOf : GoodIn wsX3_arrive (wsV RX3 84 RX3 yX3_tailOf wsX3_tailOf) := goodIn_app (goodIn_of _ (by decide +kernel)) ggX3_arrive_X3_tailOf
set_option maxRecDepth 20000 in
theorem ggX3_arrive_X6_minutesAt : GoodIn wsX3_arrive wsX6_minutesAt := goodIn_r _ [20, 21, 22, 32, 33, 34, 35] (by decide +kernel) (by decide +kernel)
set_option maxRecDepth 20000 in
theorem gX3_arrive_X6_minutesAt : GoodIn wsX3_arrive (wsV RX3 96 RX6 yX6_minutesAt wsX6_minutesAt) := goodIn_app (goodIn_of _ (by decide +kernel)) ggX3_arrive_X6_minutesAt
theorem dX3_arrive_0 : decode cX3_arrive 0 = .ok (.aload_n 0, 1) := by decide +kernel
theorem dX3_arrive_1 : decode cX3_arrive 1 = .ok (.getfield 22, 3) := by decide +kernel
theorem dX3_arrive_4 : decode cX3_arrive 4 = .ok (.iload_n 1, 1) := by decide +kernel
theorem dX3_arrive_5 : decode cX3_arrive 5 = .ok (.iaload, 1) := by decide +kernel
theorem dX3_arrive_6 : decode cX3_arrive 6 = .ok (.ifCond .ne 13, 3) := by decide +kernel
theorem dX3_arrive_9 : decode cX3_arrive 9 = .ok (.aload_n 0, 1) := by decide +kernel
theorem dX3_arrive_10 : decode cX3_arrive 10 = .ok (.getfield 28, 3) := by decide +kernel
theorem dX3_arrive_13 : decode cX3_arrive 13 = .ok (.iload_n 1, 1) := by decide +kernel
theorem dX3_arrive_14 : decode cX3_arrive 14 = .ok (.aload_n 0, 1) := by decide +kernel
theorem dX3_arrive_15 : decode cX3_arrive 15 = .ok (.getfield 19, 3) := by decide +kernel
theorem dX3_arrive_18 : decode cX3_arrive 18 = .ok (.iastore, 1) := by decide +kernel
theorem dX3_arrive_19 : decode cX3_arrive 19 = .ok (.aload_n 0, 1) := by decide +kernel
theorem dX3_arrive_20 : decode cX3_arrive 20 = .ok (.iload_n 1, 1) := by decide +kernel
theorem dX3_arrive_21 : decode cX3_arrive 21 = .ok (.invokevirtual 84, 3) := by decide +kernel
theorem dX3_arrive_24 : decode cX3_arrive 24 = .ok (.aload_n 0, 1) := by decide +kernel
theorem dX3_arrive_25 : decode cX3_arrive 25 = .ok (.getfield 38, 3) := by decide +kernel
theorem dX3_arrive_28 : decode cX3_arrive 28 = .ok (.getfield 93, 3) := by decide +kernel
theorem dX3_arrive_31 : decode cX3_arrive 31 = .ok (.if_icmp .lt 13, 3) := by decide +kernel
theorem dX3_arrive_34 : decode cX3_arrive 34 = .ok (.aload_n 0, 1) := by decide +kernel
theorem dX3_arrive_35 : decode cX3_arrive 35 = .ok (.getfield 31, 3) := by decide +kernel
theorem dX3_arrive_38 : decode cX3_arrive 38 = .ok (.iload_n 1, 1) := by decide +kernel
theorem dX3_arrive_39 : decode cX3_arrive 39 = .ok (.aload_n 0, 1) := by decide +kernel
theorem dX3_arrive_40 : decode cX3_arrive 40 = .ok (.getfield 19, 3) := by decide +kernel
theorem dX3_arrive_43 : decode cX3_arrive 43 = .ok (.iastore, 1) := by decide +kernel
theorem dX3_arrive_44 : decode cX3_arrive 44 = .ok (.aload_n 0, 1) := by decide +kernel
theorem dX3_arrive_45 : decode cX3_arrive 45 = .ok (.getfield 38, 3) := by decide +kernel
theorem dX3_arrive_48 : decode cX3_arrive 48 = .ok (.aload_n 0, 1) := by decide +kernel
theorem dX3_arrive_49 : decode cX3_arrive 49 = .ok (.getfield 22, 3) := by decide +kernel
theorem dX3_arrive_52 : decode cX3_arrive 52 = .ok (.iload_n 1, 1) := by decide +kernel
theorem dX3_arrive_53 : decode cX3_arrive 53 = .ok (.iaload, 1) := by decide +kernel
theorem dX3_arrive_54 : decode cX3_arrive 54 = .ok (.invokevirtual 96, 3) := by decide +kernel
theorem dX3_arrive_57 : decode cX3_arrive 57 = .ok (.istore_n 2, 1) := by decide +kernel
theorem dX3_arrive_58 : decode cX3_arrive 58 = .ok (.aload_n 0, 1) := by decide +kernel
theorem dX3_arrive_59 : decode cX3_arrive 59 = .ok (.getfield 34, 3) := by decide +kernel
theorem dX3_arrive_62 : decode cX3_arrive 62 = .ok (.getfield 72, 3) := by decide +kernel
theorem dX3_arrive_65 : decode cX3_arrive 65 = .ok (.iload_n 1, 1) := by decide +kernel
theorem dX3_arrive_66 : decode cX3_arrive 66 = .ok (.iaload, 1) := by decide +kernel
theorem dX3_arrive_67 : decode cX3_arrive 67 = .ok (.iconst 4, 1) := by decide +kernel
theorem dX3_arrive_68 : decode cX3_arrive 68 = .ok (.if_icmp .ne 21, 3) := by decide +kernel
theorem dX3_arrive_71 : decode cX3_arrive 71 = .ok (.aload_n 0, 1) := by decide +kernel
theorem dX3_arrive_72 : decode cX3_arrive 72 = .ok (.getfield 22, 3) := by decide +kernel
theorem dX3_arrive_75 : decode cX3_arrive 75 = .ok (.iload_n 1, 1) := by decide +kernel
theorem dX3_arrive_76 : decode cX3_arrive 76 = .ok (.iaload, 1) := by decide +kernel
theorem dX3_arrive_77 : decode cX3_arrive 77 = .ok (.iconst 1, 1) := by decide +kernel
theorem dX3_arrive_78 : decode cX3_arrive 78 = .ok (.iadd, 1) := by decide +kernel
theorem dX3_arrive_79 : decode cX3_arrive 79 = .ok (.bipush 10, 2) := by decide +kernel
theorem dX3_arrive_81 : decode cX3_arrive 81 = .ok (.irem, 1) := by decide +kernel
theorem dX3_arrive_82 : decode cX3_arrive 82 = .ok (.ifCond .ne 7, 3) := by decide +kernel
theorem dX3_arrive_85 : decode cX3_arrive 85 = .ok (.iconst 3, 1) := by decide +kernel
theorem dX3_arrive_86 : decode cX3_arrive 86 = .ok (.goto 4, 3) := by decide +kernel
theorem dX3_arrive_89 : decode cX3_arrive 89 = .ok (.iconst 0, 1) := by decide +kernel
theorem dX3_arrive_90 : decode cX3_arrive 90 = .ok (.istore_n 3, 1) := by decide +kernel
theorem dX3_arrive_91 : decode cX3_arrive 91 = .ok (.aload_n 0, 1) := by decide +kernel
theorem dX3_arrive_92 : decode cX3_arrive 92 = .ok (.getfield 25, 3) := by decide +kernel
theorem dX3_arrive_95 : decode cX3_arrive 95 = .ok (.iload_n 1, 1) := by decide +kernel
theorem dX3_arrive_96 : decode cX3_arrive 96 = .ok (.aload_n 0, 1) := by decide +kernel
theorem dX3_arrive_97 : decode cX3_arrive 97 = .ok (.getfield 34, 3) := by decide +kernel
theorem dX3_arrive_100 : decode cX3_arrive 100 = .ok (.getfield 72, 3) := by decide +kernel
theorem dX3_arrive_103 : decode cX3_arrive 103 = .ok (.iload_n 1, 1) := by decide +kernel
theorem dX3_arrive_104 : decode cX3_arrive 104 = .ok (.iaload, 1) := by decide +kernel
theorem dX3_arrive_105 : decode cX3_arrive 105 = .ok (.iconst 1, 1) := by decide +kernel
theorem dX3_arrive_106 : decode cX3_arrive 106 = .ok (.if_icmp .ne 9, 3) := by decide +kernel
theorem dX3_arrive_109 : decode cX3_arrive 109 = .ok (.iconst 2, 1) := by decide +kernel
theorem dX3_arrive_110 : decode cX3_arrive 110 = .ok (.iload_n 2, 1) := by decide +kernel
theorem dX3_arrive_111 : decode cX3_arrive 111 = .ok (.imul, 1) := by decide +kernel
theorem dX3_arrive_112 : decode cX3_arrive 112 = .ok (.goto 4, 3) := by decide +kernel
theorem dX3_arrive_115 : decode cX3_arrive 115 = .ok (.iload_n 2, 1) := by decide +kernel
theorem dX3_arrive_116 : decode cX3_arrive 116 = .ok (.iload_n 3, 1) := by decide +kernel
theorem dX3_arrive_117 : decode cX3_arrive 117 = .ok (.iadd, 1) := by decide +kernel
theorem dX3_arrive_118 : decode cX3_arrive 118 = .ok (.iastore, 1) := by decide +kernel
theorem dX3_arrive_119 : decode cX3_arrive 119 = .ok (.return_, 1) := by decide +kernel
theorem dX3_isOut_0 : decode cX3_isOut 0 = .ok (.aload_n 0, 1) := by decide +kernel
theorem dX3_isOut_1 : decode cX3_isOut 1 = .ok (.getfield 31, 3) := by decide +kernel
theorem dX3_isOut_4 : decode cX3_isOut 4 = .ok (.iload_n 1, 1) := by decide +kernel
theorem dX3_isOut_5 : decode cX3_isOut 5 = .ok (.iaload, 1) := by decide +kernel
theorem dX3_isOut_6 : decode cX3_isOut 6 = .ok (.iconst (-1), 1) := by decide +kernel
theorem dX3_isOut_7 : decode cX3_isOut 7 = .ok (.if_icmp .eq 7, 3) := by decide +kernel
theorem dX3_isOut_10 : decode cX3_isOut 10 = .ok (.iconst 1, 1) := by decide +kernel
theorem dX3_isOut_11 : decode cX3_isOut 11 = .ok (.goto 4, 3) := by decide +kernel
theorem dX3_isOut_14 : decode cX3_isOut 14 = .ok (.iconst 0, 1) := by decide +kernel
theorem dX3_isOut_15 : decode cX3_isOut 15 = .ok (.ireturn, 1) := by decide +kernel
set_option maxRecDepth 20000 in
theorem ggX3_allOut_X3_isOut : GoodIn wsX3_allOut wsX3_isOut := goodIn_r _ [7, 8, 9, 10, 11, 12, 13, 14, 15, 16, 17] (by decide +kernel) (by decide +kernel)
set_option maxRecDepth 20000 in
theorem gX3_allOut_X3_isOut : GoodIn wsX3_allOut (wsV RX3 64 RX3 yX3_isOut wsX3_isOut) := goodIn_app (goodIn_of _ (by decide +kernel)) ggX3_allOut_X3_isOut
theorem dX3_allOut_0 : decode cX3_allOut 0 = .ok (.iconst 0, 1) := by decide +kernel
theorem dX3_allOut_1 : decode cX3_allOut 1 = .ok (.istore_n 1, 1) := by decide +kernel
theorem dX3_allOut_2 : decode cX3_allOut 2 = .ok (.iload_n 1, 1) := by decide +kernel
theorem dX3_allOut_3 : decode cX3_allOut 3 = .ok (.aload_n 0, 1) := by decide +kernel
theorem dX3_allOut_4 : decode cX3_allOut 4 = .ok (.getfield 15, 3) := by decide +kernel
theorem dX3_allOut_7 : decode cX3_allOut 7 = .ok (.if_icmp .ge 24, 3) := by decide +kernel
theorem dX3_allOut_10 : decode cX3_allOut 10 = .ok (.aload_n 0, 1) := by decide +kernel
theorem dX3_allOut_11 : decode cX3_allOut 11 = .ok (.aload_n 0, 1) := by decide +kernel
theorem dX3_allOut_12 : decode cX3_allOut 12 = .ok (.getfield 9, 3) := by decide +kernel
theorem dX3_allOut_15 : decode cX3_allOut 15 = .ok (.iload_n 1, 1) := by decide +kernel
theorem dX3_allOut_16 : decode cX3_allOut 16 = .ok (.iaload, 1) := by decide +kernel
theorem dX3_allOut_17 : decode cX3_allOut 17 = .ok (.invokevirtual 64, 3) := by decide +kernel
theorem dX3_allOut_20 : decode cX3_allOut 20 = .ok (.ifCond .ne 5, 3) := by decide +kernel
theorem dX3_allOut_23 : decode cX3_allOut 23 = .ok (.iconst 0, 1) := by decide +kernel
theorem dX3_allOut_24 : decode cX3_allOut 24 = .ok (.ireturn, 1) := by decide +kernel
theorem dX3_allOut_25 : decode cX3_allOut 25 = .ok (.iinc 1 1, 3) := by decide +kernel
theorem dX3_allOut_28 : decode cX3_allOut 28 = .ok (.goto (-26), 3) := by decide +kernel
theorem dX3_allOut_31 : decode cX3_allOut 31 = .ok (.iconst 1, 1) := by decide +kernel
theorem dX3_allOut_32 : decode cX3_allOut 32 = .ok (.ireturn, 1) := by decide +kernel
set_option maxRecDepth 20000 in
theorem ggX3_isOnRoad_X3_isOut : GoodIn wsX3_isOnRoad wsX3_isOut := goodIn_r _ [6, 7, 8, 9, 10, 11, 12, 13, 14, 15, 16] (by decide +kernel) (by decide +kernel)
set_option maxRecDepth 20000 in
theorem gX3_isOnRoad_X3_isOut : GoodIn wsX3_isOnRoad (wsV RX3 64 RX3 yX3_isOut wsX3_isOut) := goodIn_app (goodIn_of _ (by decide +kernel)) ggX3_isOnRoad_X3_isOut
theorem dX3_isOnRoad_0 : decode cX3_isOnRoad 0 = .ok (.aload_n 0, 1) := by decide +kernel
theorem dX3_isOnRoad_1 : decode cX3_isOnRoad 1 = .ok (.getfield 22, 3) := by decide +kernel
theorem dX3_isOnRoad_4 : decode cX3_isOnRoad 4 = .ok (.iload_n 1, 1) := by decide +kernel
theorem dX3_isOnRoad_5 : decode cX3_isOnRoad 5 = .ok (.iaload, 1) := by decide +kernel
theorem dX3_isOnRoad_6 : decode cX3_isOnRoad 6 = .ok (.ifCond .lt 15, 3) := by decide +kernel
theorem dX3_isOnRoad_9 : decode cX3_isOnRoad 9 = .ok (.aload_n 0, 1) := by decide +kernel
theorem dX3_isOnRoad_10 : decode cX3_isOnRoad 10 = .ok (.iload_n 1, 1) := by decide +kernel
theorem dX3_isOnRoad_11 : decode cX3_isOnRoad 11 = .ok (.invokevirtual 64, 3) := by decide +kernel
theorem dX3_isOnRoad_14 : decode cX3_isOnRoad 14 = .ok (.ifCond .ne 7, 3) := by decide +kernel
theorem dX3_isOnRoad_17 : decode cX3_isOnRoad 17 = .ok (.iconst 1, 1) := by decide +kernel
theorem dX3_isOnRoad_18 : decode cX3_isOnRoad 18 = .ok (.goto 4, 3) := by decide +kernel
theorem dX3_isOnRoad_21 : decode cX3_isOnRoad 21 = .ok (.iconst 0, 1) := by decide +kernel
theorem dX3_isOnRoad_22 : decode cX3_isOnRoad 22 = .ok (.ireturn, 1) := by decide +kernel
theorem dX3_tailOf_0 : decode cX3_tailOf 0 = .ok (.aload_n 0, 1) := by decide +kernel
theorem dX3_tailOf_1 : decode cX3_tailOf 1 = .ok (.getfield 22, 3) := by decide +kernel
theorem dX3_tailOf_4 : decode cX3_tailOf 4 = .ok (.iload_n 1, 1) := by decide +kernel
theorem dX3_tailOf_5 : decode cX3_tailOf 5 = .ok (.iaload, 1) := by decide +kernel
theorem dX3_tailOf_6 : decode cX3_tailOf 6 = .ok (.aload_n 0, 1) := by decide +kernel
theorem dX3_tailOf_7 : decode cX3_tailOf 7 = .ok (.getfield 34, 3) := by decide +kernel
theorem dX3_tailOf_10 : decode cX3_tailOf 10 = .ok (.getfield 99, 3) := by decide +kernel
theorem dX3_tailOf_13 : decode cX3_tailOf 13 = .ok (.iload_n 1, 1) := by decide +kernel
theorem dX3_tailOf_14 : decode cX3_tailOf 14 = .ok (.iaload, 1) := by decide +kernel
theorem dX3_tailOf_15 : decode cX3_tailOf 15 = .ok (.isub, 1) := by decide +kernel
theorem dX3_tailOf_16 : decode cX3_tailOf 16 = .ok (.iconst 1, 1) := by decide +kernel
