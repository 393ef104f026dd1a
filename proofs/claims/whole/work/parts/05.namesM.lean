theorem dX3_init_0 : decode cX3_init 0 = .ok (.aload_n 0, 1) := by decide +kernel
theorem dX3_init_1 : decode cX3_init 1 = .ok (.invokespecial 1, 3) := by decide +kernel
theorem dX3_init_4 : decode cX3_init 4 = .ok (.aload_n 0, 1) := by decide +kernel
theorem dX3_init_5 : decode cX3_init 5 = .ok (.bipush 56, 2) := by decide +kernel
theorem dX3_init_7 : decode cX3_init 7 = .ok (.newarray .int, 2) := by decide +kernel
theorem dX3_init_9 : decode cX3_init 9 = .ok (.putfield 7, 3) := by decide +kernel
theorem dX3_init_12 : decode cX3_init 12 = .ok (.aload_n 0, 1) := by decide +kernel
theorem dX3_init_13 : decode cX3_init 13 = .ok (.bipush 8, 2) := by decide +kernel
theorem dX3_init_15 : decode cX3_init 15 = .ok (.newarray .int, 2) := by decide +kernel
theorem dX3_init_17 : decode cX3_init 17 = .ok (.putfield 13, 3) := by decide +kernel
theorem dX3_init_20 : decode cX3_init 20 = .ok (.aload_n 0, 1) := by decide +kernel
theorem dX3_init_21 : decode cX3_init 21 = .ok (.bipush 8, 2) := by decide +kernel
theorem dX3_init_23 : decode cX3_init 23 = .ok (.newarray .int, 2) := by decide +kernel
theorem dX3_init_25 : decode cX3_init 25 = .ok (.putfield 16, 3) := by decide +kernel
theorem dX3_init_28 : decode cX3_init 28 = .ok (.aload_n 0, 1) := by decide +kernel
theorem dX3_init_29 : decode cX3_init 29 = .ok (.iconst 1, 1) := by decide +kernel
theorem dX3_init_30 : decode cX3_init 30 = .ok (.putfield 19, 3) := by decide +kernel
theorem dX3_init_33 : decode cX3_init 33 = .ok (.aload_n 0, 1) := by decide +kernel
theorem dX3_init_34 : decode cX3_init 34 = .ok (.iconst 1, 1) := by decide +kernel
theorem dX3_init_35 : decode cX3_init 35 = .ok (.putfield 23, 3) := by decide +kernel
theorem dX3_init_38 : decode cX3_init 38 = .ok (.aload_n 0, 1) := by decide +kernel
theorem dX3_init_39 : decode cX3_init 39 = .ok (.bipush 48, 2) := by decide +kernel
theorem dX3_init_41 : decode cX3_init 41 = .ok (.newarray .int, 2) := by decide +kernel
theorem dX3_init_43 : decode cX3_init 43 = .ok (.putfield 26, 3) := by decide +kernel
theorem dX3_init_46 : decode cX3_init 46 = .ok (.aload_n 0, 1) := by decide +kernel
theorem dX3_init_47 : decode cX3_init 47 = .ok (.bipush 12, 2) := by decide +kernel
theorem dX3_init_49 : decode cX3_init 49 = .ok (.newarray .int, 2) := by decide +kernel
theorem dX3_init_51 : decode cX3_init 51 = .ok (.putfield 29, 3) := by decide +kernel
theorem dX3_init_54 : decode cX3_init 54 = .ok (.aload_n 0, 1) := by decide +kernel
theorem dX3_init_55 : decode cX3_init 55 = .ok (.bipush 12, 2) := by decide +kernel
theorem dX3_init_57 : decode cX3_init 57 = .ok (.newarray .int, 2) := by decide +kernel
theorem dX3_init_59 : decode cX3_init 59 = .ok (.putfield 32, 3) := by decide +kernel
theorem dX3_init_62 : decode cX3_init 62 = .ok (.aload_n 0, 1) := by decide +kernel
theorem dX3_init_63 : decode cX3_init 63 = .ok (.sipush 576, 3) := by decide +kernel
theorem dX3_init_66 : decode cX3_init 66 = .ok (.newarray .int, 2) := by decide +kernel
theorem dX3_init_68 : decode cX3_init 68 = .ok (.putfield 35, 3) := by decide +kernel
theorem dX3_init_71 : decode cX3_init 71 = .ok (.aload_n 0, 1) := by decide +kernel
theorem dX3_init_72 : decode cX3_init 72 = .ok (.bipush 12, 2) := by decide +kernel
theorem dX3_init_74 : decode cX3_init 74 = .ok (.newarray .int, 2) := by decide +kernel
theorem dX3_init_76 : decode cX3_init 76 = .ok (.putfield 38, 3) := by decide +kernel
theorem dX3_init_79 : decode cX3_init 79 = .ok (.aload_n 0, 1) := by decide +kernel
theorem dX3_init_80 : decode cX3_init 80 = .ok (.bipush 12, 2) := by decide +kernel
theorem dX3_init_82 : decode cX3_init 82 = .ok (.newarray .int, 2) := by decide +kernel
theorem dX3_init_84 : decode cX3_init 84 = .ok (.putfield 41, 3) := by decide +kernel
theorem dX3_init_87 : decode cX3_init 87 = .ok (.aload_n 0, 1) := by decide +kernel
theorem dX3_init_88 : decode cX3_init 88 = .ok (.bipush 20, 2) := by decide +kernel
theorem dX3_init_90 : decode cX3_init 90 = .ok (.newarray .int, 2) := by decide +kernel
theorem dX3_init_92 : decode cX3_init 92 = .ok (.putfield 44, 3) := by decide +kernel
theorem dX3_init_95 : decode cX3_init 95 = .ok (.aload_n 0, 1) := by decide +kernel
theorem dX3_init_96 : decode cX3_init 96 = .ok (.bipush 20, 2) := by decide +kernel
theorem dX3_init_98 : decode cX3_init 98 = .ok (.newarray .int, 2) := by decide +kernel
theorem dX3_init_100 : decode cX3_init 100 = .ok (.putfield 47, 3) := by decide +kernel
theorem dX3_init_103 : decode cX3_init 103 = .ok (.aload_n 0, 1) := by decide +kernel
theorem dX3_init_104 : decode cX3_init 104 = .ok (.bipush 7, 2) := by decide +kernel
theorem dX3_init_106 : decode cX3_init 106 = .ok (.newarray .int, 2) := by decide +kernel
theorem dX3_init_108 : decode cX3_init 108 = .ok (.putfield 50, 3) := by decide +kernel
theorem dX3_init_111 : decode cX3_init 111 = .ok (.aload_n 0, 1) := by decide +kernel
theorem dX3_init_112 : decode cX3_init 112 = .ok (.bipush 7, 2) := by decide +kernel
theorem dX3_init_114 : decode cX3_init 114 = .ok (.newarray .int, 2) := by decide +kernel
theorem dX3_init_116 : decode cX3_init 116 = .ok (.putfield 53, 3) := by decide +kernel
theorem dX3_init_119 : decode cX3_init 119 = .ok (.aload_n 0, 1) := by decide +kernel
theorem dX3_init_120 : decode cX3_init 120 = .ok (.bipush 7, 2) := by decide +kernel
theorem dX3_init_122 : decode cX3_init 122 = .ok (.newarray .int, 2) := by decide +kernel
theorem dX3_init_124 : decode cX3_init 124 = .ok (.putfield 56, 3) := by decide +kernel
theorem dX3_init_127 : decode cX3_init 127 = .ok (.aload_n 0, 1) := by decide +kernel
theorem dX3_init_128 : decode cX3_init 128 = .ok (.bipush 7, 2) := by decide +kernel
theorem dX3_init_130 : decode cX3_init 130 = .ok (.newarray .int, 2) := by decide +kernel
theorem dX3_init_132 : decode cX3_init 132 = .ok (.putfield 59, 3) := by decide +kernel
theorem dX3_init_135 : decode cX3_init 135 = .ok (.aload_n 0, 1) := by decide +kernel
theorem dX3_init_136 : decode cX3_init 136 = .ok (.bipush 7, 2) := by decide +kernel
theorem dX3_init_138 : decode cX3_init 138 = .ok (.newarray .int, 2) := by decide +kernel
theorem dX3_init_140 : decode cX3_init 140 = .ok (.putfield 62, 3) := by decide +kernel
theorem dX3_init_143 : decode cX3_init 143 = .ok (.aload_n 0, 1) := by decide +kernel
theorem dX3_init_144 : decode cX3_init 144 = .ok (.bipush 8, 2) := by decide +kernel
theorem dX3_init_146 : decode cX3_init 146 = .ok (.newarray .int, 2) := by decide +kernel
theorem dX3_init_148 : decode cX3_init 148 = .ok (.putfield 65, 3) := by decide +kernel
theorem dX3_init_151 : decode cX3_init 151 = .ok (.aload_n 0, 1) := by decide +kernel
theorem dX3_init_152 : decode cX3_init 152 = .ok (.bipush 8, 2) := by decide +kernel
theorem dX3_init_154 : decode cX3_init 154 = .ok (.newarray .int, 2) := by decide +kernel
theorem dX3_init_156 : decode cX3_init 156 = .ok (.putfield 68, 3) := by decide +kernel
theorem dX3_init_159 : decode cX3_init 159 = .ok (.aload_n 0, 1) := by decide +kernel
theorem dX3_init_160 : decode cX3_init 160 = .ok (.bipush 72, 2) := by decide +kernel
theorem dX3_init_162 : decode cX3_init 162 = .ok (.newarray .int, 2) := by decide +kernel
theorem dX3_init_164 : decode cX3_init 164 = .ok (.putfield 71, 3) := by decide +kernel
theorem dX3_init_167 : decode cX3_init 167 = .ok (.aload_n 0, 1) := by decide +kernel
theorem dX3_init_168 : decode cX3_init 168 = .ok (.bipush 8, 2) := by decide +kernel
theorem dX3_init_170 : decode cX3_init 170 = .ok (.newarray .int, 2) := by decide +kernel
theorem dX3_init_172 : decode cX3_init 172 = .ok (.putfield 74, 3) := by decide +kernel
theorem dX3_init_175 : decode cX3_init 175 = .ok (.aload_n 0, 1) := by decide +kernel
theorem dX3_init_176 : decode cX3_init 176 = .ok (.bipush 7, 2) := by decide +kernel
theorem dX3_init_178 : decode cX3_init 178 = .ok (.newarray .long, 2) := by decide +kernel
theorem dX3_init_180 : decode cX3_init 180 = .ok (.putfield 77, 3) := by decide +kernel
theorem dX3_init_183 : decode cX3_init 183 = .ok (.iconst 0, 1) := by decide +kernel
theorem dX3_init_184 : decode cX3_init 184 = .ok (.istore_n 1, 1) := by decide +kernel
theorem dX3_init_185 : decode cX3_init 185 = .ok (.iload_n 1, 1) := by decide +kernel
theorem dX3_init_186 : decode cX3_init 186 = .ok (.bipush 20, 2) := by decide +kernel
theorem dX3_init_188 : decode cX3_init 188 = .ok (.if_icmp .ge 16, 3) := by decide +kernel
theorem dX3_init_191 : decode cX3_init 191 = .ok (.aload_n 0, 1) := by decide +kernel
theorem dX3_init_192 : decode cX3_init 192 = .ok (.getfield 44, 3) := by decide +kernel
theorem dX3_init_195 : decode cX3_init 195 = .ok (.iload_n 1, 1) := by decide +kernel
theorem dX3_init_196 : decode cX3_init 196 = .ok (.iconst (-1), 1) := by decide +kernel
theorem dX3_init_197 : decode cX3_init 197 = .ok (.iastore, 1) := by decide +kernel
theorem dX3_init_198 : decode cX3_init 198 = .ok (.iinc 1 1, 3) := by decide +kernel
theorem dX3_init_201 : decode cX3_init 201 = .ok (.goto (-16), 3) := by decide +kernel
theorem dX3_init_204 : decode cX3_init 204 = .ok (.iconst 0, 1) := by decide +kernel
theorem dX3_init_205 : decode cX3_init 205 = .ok (.istore_n 1, 1) := by decide +kernel
theorem dX3_init_206 : decode cX3_init 206 = .ok (.iload_n 1, 1) := by decide +kernel
theorem dX3_init_207 : decode cX3_init 207 = .ok (.bipush 7, 2) := by decide +kernel
theorem dX3_init_209 : decode cX3_init 209 = .ok (.if_icmp .ge 16, 3) := by decide +kernel
theorem dX3_init_212 : decode cX3_init 212 = .ok (.aload_n 0, 1) := by decide +kernel
theorem dX3_init_213 : decode cX3_init 213 = .ok (.getfield 53, 3) := by decide +kernel
theorem dX3_init_216 : decode cX3_init 216 = .ok (.iload_n 1, 1) := by decide +kernel
theorem dX3_init_217 : decode cX3_init 217 = .ok (.iconst (-1), 1) := by decide +kernel
theorem dX3_init_218 : decode cX3_init 218 = .ok (.iastore, 1) := by decide +kernel
theorem dX3_init_219 : decode cX3_init 219 = .ok (.iinc 1 1, 3) := by decide +kernel
theorem dX3_init_222 : decode cX3_init 222 = .ok (.goto (-16), 3) := by decide +kernel
theorem dX3_init_225 : decode cX3_init 225 = .ok (.return_, 1) := by decide +kernel
theorem dX3_thrown_0 : decode cX3_thrown 0 = .ok (.aload_n 0, 1) := by decide +kernel
theorem dX3_thrown_1 : decode cX3_thrown 1 = .ok (.getfield 81, 3) := by decide +kernel
theorem dX3_thrown_4 : decode cX3_thrown 4 = .ok (.ireturn, 1) := by decide +kernel
theorem dX3_isIn_0 : decode cX3_isIn 0 = .ok (.iload_n 0, 1) := by decide +kernel
theorem dX3_isIn_1 : decode cX3_isIn 1 = .ok (.iload_n 1, 1) := by decide +kernel
theorem dX3_isIn_2 : decode cX3_isIn 2 = .ok (.if_icmp .lt 12, 3) := by decide +kernel
theorem dX3_isIn_5 : decode cX3_isIn 5 = .ok (.iload_n 0, 1) := by decide +kernel
theorem dX3_isIn_6 : decode cX3_isIn 6 = .ok (.iload_n 2, 1) := by decide +kernel
theorem dX3_isIn_7 : decode cX3_isIn 7 = .ok (.if_icmp .gt 7, 3) := by decide +kernel
theorem dX3_isIn_10 : decode cX3_isIn 10 = .ok (.iconst 1, 1) := by decide +kernel
theorem dX3_isIn_11 : decode cX3_isIn 11 = .ok (.goto 4, 3) := by decide +kernel
theorem dX3_isIn_14 : decode cX3_isIn 14 = .ok (.iconst 0, 1) := by decide +kernel
theorem dX3_isIn_15 : decode cX3_isIn 15 = .ok (.ireturn, 1) := by decide +kernel
set_option maxRecDepth 20000 in
theorem ggX3_isPerson_X3_isIn : GoodIn wsX3_isPerson wsX3_isIn := goodIn_r _ [4] (by decide +kernel) (by decide +kernel)
set_option maxRecDepth 20000 in
theorem gX3_isPerson_X3_isIn : GoodIn wsX3_isPerson (va_wsS RX3 84 yX3_isIn wsX3_isIn) := goodIn_app (goodIn_of _ (by decide +kernel)) ggX3_isPerson_X3_isIn
theorem dX3_isPerson_0 : decode cX3_isPerson 0 = .ok (.iload_n 0, 1) := by decide +kernel
theorem dX3_isPerson_1 : decode cX3_isPerson 1 = .ok (.iconst 0, 1) := by decide +kernel
theorem dX3_isPerson_2 : decode cX3_isPerson 2 = .ok (.bipush 6, 2) := by decide +kernel
theorem dX3_isPerson_4 : decode cX3_isPerson 4 = .ok (.invokestatic 84, 3) := by decide +kernel
theorem dX3_isPerson_7 : decode cX3_isPerson 7 = .ok (.ireturn, 1) := by decide +kernel
set_option maxRecDepth 20000 in
theorem ggX3_isColour_X3_isIn : GoodIn wsX3_isColour wsX3_isIn := goodIn_r _ [4] (by decide +kernel) (by decide +kernel)
set_option maxRecDepth 20000 in
theorem gX3_isColour_X3_isIn : GoodIn wsX3_isColour (va_wsS RX3 84 yX3_isIn wsX3_isIn) := goodIn_app (goodIn_of _ (by decide +kernel)) ggX3_isColour_X3_isIn
theorem dX3_isColour_0 : decode cX3_isColour 0 = .ok (.iload_n 0, 1) := by decide +kernel
theorem dX3_isColour_1 : decode cX3_isColour 1 = .ok (.iconst 0, 1) := by decide +kernel
theorem dX3_isColour_2 : decode cX3_isColour 2 = .ok (.bipush 7, 2) := by decide +kernel
theorem dX3_isColour_4 : decode cX3_isColour 4 = .ok (.invokestatic 84, 3) := by decide +kernel
theorem dX3_isColour_7 : decode cX3_isColour 7 = .ok (.ireturn, 1) := by decide +kernel
set_option maxRecDepth 20000 in
theorem ggX3_isPattern_X3_isIn : GoodIn wsX3_isPattern wsX3_isIn := goodIn_r _ [5] (by decide +kernel) (by decide +kernel)
set_option maxRecDepth 20000 in
theorem gX3_isPattern_X3_isIn : GoodIn wsX3_isPattern (va_wsS RX3 84 yX3_isIn wsX3_isIn) := goodIn_app (goodIn_of _ (by decide +kernel)) ggX3_isPattern_X3_isIn
theorem dX3_isPattern_0 : decode cX3_isPattern 0 = .ok (.iload_n 1, 1) := by decide +kernel
theorem dX3_isPattern_1 : decode cX3_isPattern 1 = .ok (.iconst 0, 1) := by decide +kernel
theorem dX3_isPattern_2 : decode cX3_isPattern 2 = .ok (.aload_n 0, 1) := by decide +kernel
theorem dX3_isPattern_3 : decode cX3_isPattern 3 = .ok (.getfield 88, 3) := by decide +kernel
theorem dX3_isPattern_6 : decode cX3_isPattern 6 = .ok (.iconst 1, 1) := by decide +kernel
theorem dX3_isPattern_7 : decode cX3_isPattern 7 = .ok (.isub, 1) := by decide +kernel
theorem dX3_isPattern_8 : decode cX3_isPattern 8 = .ok (.invokestatic 84, 3) := by decide +kernel
theorem dX3_isPattern_11 : decode cX3_isPattern 11 = .ok (.ireturn, 1) := by decide +kernel
set_option maxRecDepth 20000 in
theorem ggX3_isBelt_X3_isIn : GoodIn wsX3_isBelt wsX3_isIn := goodIn_r _ [5] (by decide +kernel) (by decide +kernel)
set_option maxRecDepth 20000 in
theorem gX3_isBelt_X3_isIn : GoodIn wsX3_isBelt (va_wsS RX3 84 yX3_isIn wsX3_isIn) := goodIn_app (goodIn_of _ (by decide +kernel)) ggX3_isBelt_X3_isIn
theorem dX3_isBelt_0 : decode cX3_isBelt 0 = .ok (.iload_n 1, 1) := by decide +kernel
theorem dX3_isBelt_1 : decode cX3_isBelt 1 = .ok (.iconst 0, 1) := by decide +kernel
theorem dX3_isBelt_2 : decode cX3_isBelt 2 = .ok (.bipush 19, 2) := by decide +kernel
theorem dX3_isBelt_4 : decode cX3_isBelt 4 = .ok (.invokestatic 84, 3) := by decide +kernel
theorem dX3_isBelt_7 : decode cX3_isBelt 7 = .ok (.ifCond .eq 17, 3) := by decide +kernel
theorem dX3_isBelt_10 : decode cX3_isBelt 10 = .ok (.aload_n 0, 1) := by decide +kernel
theorem dX3_isBelt_11 : decode cX3_isBelt 11 = .ok (.getfield 44, 3) := by decide +kernel
theorem dX3_isBelt_14 : decode cX3_isBelt 14 = .ok (.iload_n 1, 1) := by decide +kernel
theorem dX3_isBelt_15 : decode cX3_isBelt 15 = .ok (.iaload, 1) := by decide +kernel
theorem dX3_isBelt_16 : decode cX3_isBelt 16 = .ok (.iconst (-1), 1) := by decide +kernel
theorem dX3_isBelt_17 : decode cX3_isBelt 17 = .ok (.if_icmp .eq 7, 3) := by decide +kernel
theorem dX3_isBelt_20 : decode cX3_isBelt 20 = .ok (.iconst 1, 1) := by decide +kernel
theorem dX3_isBelt_21 : decode cX3_isBelt 21 = .ok (.goto 4, 3) := by decide +kernel
theorem dX3_isBelt_24 : decode cX3_isBelt 24 = .ok (.iconst 0, 1) := by decide +kernel
theorem dX3_isBelt_25 : decode cX3_isBelt 25 = .ok (.ireturn, 1) := by decide +kernel
set_option maxRecDepth 20000 in
theorem ggX3_bring_X3_isPerson : GoodIn wsX3_bring wsX3_isPerson := goodIn_r _ [8, 9, 10, 7, 11] (by decide +kernel) (by decide +kernel)
set_option maxRecDepth 20000 in
theorem gX3_bring_X3_isPerson : GoodIn wsX3_bring (va_wsS RX3 91 yX3_isPerson wsX3_isPerson) := goodIn_app (goodIn_of _ (by decide +kernel)) ggX3_bring_X3_isPerson
set_option maxRecDepth 20000 in
theorem ggX3_bring_X3_isColour : GoodIn wsX3_bring wsX3_isColour := goodIn_r _ [14, 9, 10, 7, 11] (by decide +kernel) (by decide +kernel)
set_option maxRecDepth 20000 in
theorem gX3_bring_X3_isColour : GoodIn wsX3_bring (va_wsS RX3 95 yX3_isColour wsX3_isColour) := goodIn_app (goodIn_of _ (by decide +kernel)) ggX3_bring_X3_isColour
set_option maxRecDepth 20000 in
theorem ggX3_bring_X3_isIn : GoodIn wsX3_bring wsX3_isIn := goodIn_r _ [11] (by decide +kernel) (by decide +kernel)
set_option maxRecDepth 20000 in
theorem gX3_bring_X3_isIn : GoodIn wsX3_bring (va_wsS RX3 84 yX3_isIn wsX3_isIn) := goodIn_app (goodIn_of _ (by decide +kernel)) ggX3_bring_X3_isIn
theorem dX3_bring_0 : decode cX3_bring 0 = .ok (.iload_n 1, 1) := by decide +kernel
theorem dX3_bring_1 : decode cX3_bring 1 = .ok (.invokestatic 91, 3) := by decide +kernel
theorem dX3_bring_4 : decode cX3_bring 4 = .ok (.ifCond .eq 14, 3) := by decide +kernel
theorem dX3_bring_7 : decode cX3_bring 7 = .ok (.iload_n 2, 1) := by decide +kernel
theorem dX3_bring_8 : decode cX3_bring 8 = .ok (.invokestatic 95, 3) := by decide +kernel
theorem dX3_bring_11 : decode cX3_bring 11 = .ok (.ifCond .eq 7, 3) := by decide +kernel
theorem dX3_bring_14 : decode cX3_bring 14 = .ok (.iconst 1, 1) := by decide +kernel
theorem dX3_bring_15 : decode cX3_bring 15 = .ok (.goto 4, 3) := by decide +kernel
theorem dX3_bring_18 : decode cX3_bring 18 = .ok (.iconst 0, 1) := by decide +kernel
theorem dX3_bring_19 : decode cX3_bring 19 = .ok (.istore 4, 2) := by decide +kernel
theorem dX3_bring_21 : decode cX3_bring 21 = .ok (.aload_n 0, 1) := by decide +kernel
theorem dX3_bring_22 : decode cX3_bring 22 = .ok (.iload 4, 2) := by decide +kernel
theorem dX3_bring_24 : decode cX3_bring 24 = .ok (.ifCond .ne 7, 3) := by decide +kernel
theorem dX3_bring_27 : decode cX3_bring 27 = .ok (.iconst 1, 1) := by decide +kernel
theorem dX3_bring_28 : decode cX3_bring 28 = .ok (.goto 41, 3) := by decide +kernel
theorem dX3_bring_31 : decode cX3_bring 31 = .ok (.iload_n 3, 1) := by decide +kernel
theorem dX3_bring_32 : decode cX3_bring 32 = .ok (.iconst 1, 1) := by decide +kernel
theorem dX3_bring_33 : decode cX3_bring 33 = .ok (.sipush 1000, 3) := by decide +kernel
theorem dX3_bring_36 : decode cX3_bring 36 = .ok (.invokestatic 84, 3) := by decide +kernel
theorem dX3_bring_39 : decode cX3_bring 39 = .ok (.ifCond .ne 7, 3) := by decide +kernel
theorem dX3_bring_42 : decode cX3_bring 42 = .ok (.iconst 2, 1) := by decide +kernel
theorem dX3_bring_43 : decode cX3_bring 43 = .ok (.goto 26, 3) := by decide +kernel
theorem dX3_bring_46 : decode cX3_bring 46 = .ok (.aload_n 0, 1) := by decide +kernel
theorem dX3_bring_47 : decode cX3_bring 47 = .ok (.getfield 7, 3) := by decide +kernel
theorem dX3_bring_50 : decode cX3_bring 50 = .ok (.bipush 8, 2) := by decide +kernel
theorem dX3_bring_52 : decode cX3_bring 52 = .ok (.iload_n 1, 1) := by decide +kernel
theorem dX3_bring_53 : decode cX3_bring 53 = .ok (.imul, 1) := by decide +kernel
theorem dX3_bring_54 : decode cX3_bring 54 = .ok (.iload_n 2, 1) := by decide +kernel
theorem dX3_bring_55 : decode cX3_bring 55 = .ok (.iadd, 1) := by decide +kernel
theorem dX3_bring_56 : decode cX3_bring 56 = .ok (.iaload, 1) := by decide +kernel
theorem dX3_bring_57 : decode cX3_bring 57 = .ok (.iload_n 3, 1) := by decide +kernel
theorem dX3_bring_58 : decode cX3_bring 58 = .ok (.iadd, 1) := by decide +kernel
theorem dX3_bring_59 : decode cX3_bring 59 = .ok (.ldc 98, 2) := by decide +kernel
theorem dX3_bring_61 : decode cX3_bring 61 = .ok (.if_icmp .le 7, 3) := by decide +kernel
theorem dX3_bring_64 : decode cX3_bring 64 = .ok (.iconst 3, 1) := by decide +kernel
theorem dX3_bring_65 : decode cX3_bring 65 = .ok (.goto 4, 3) := by decide +kernel
theorem dX3_bring_68 : decode cX3_bring 68 = .ok (.iconst 0, 1) := by decide +kernel
theorem dX3_bring_69 : decode cX3_bring 69 = .ok (.putfield 81, 3) := by decide +kernel
theorem dX3_bring_72 : decode cX3_bring 72 = .ok (.aload_n 0, 1) := by decide +kernel
theorem dX3_bring_73 : decode cX3_bring 73 = .ok (.getfield 81, 3) := by decide +kernel
theorem dX3_bring_76 : decode cX3_bring 76 = .ok (.ifCond .le 5, 3) := by decide +kernel
theorem dX3_bring_79 : decode cX3_bring 79 = .ok (.iconst 0, 1) := by decide +kernel
theorem dX3_bring_80 : decode cX3_bring 80 = .ok (.ireturn, 1) := by decide +kernel
theorem dX3_bring_81 : decode cX3_bring 81 = .ok (.aload_n 0, 1) := by decide +kernel
theorem dX3_bring_82 : decode cX3_bring 82 = .ok (.getfield 7, 3) := by decide +kernel
theorem dX3_bring_85 : decode cX3_bring 85 = .ok (.bipush 8, 2) := by decide +kernel
theorem dX3_bring_87 : decode cX3_bring 87 = .ok (.iload_n 1, 1) := by decide +kernel
theorem dX3_bring_88 : decode cX3_bring 88 = .ok (.imul, 1) := by decide +kernel
theorem dX3_bring_89 : decode cX3_bring 89 = .ok (.iload_n 2, 1) := by decide +kernel
theorem dX3_bring_90 : decode cX3_bring 90 = .ok (.iadd, 1) := by decide +kernel
theorem dX3_bring_91 : decode cX3_bring 91 = .ok (.dup2, 1) := by decide +kernel
theorem dX3_bring_92 : decode cX3_bring 92 = .ok (.iaload, 1) := by decide +kernel
theorem dX3_bring_93 : decode cX3_bring 93 = .ok (.iload_n 3, 1) := by decide +kernel
theorem dX3_bring_94 : decode cX3_bring 94 = .ok (.iadd, 1) := by decide +kernel
theorem dX3_bring_95 : decode cX3_bring 95 = .ok (.iastore, 1) := by decide +kernel
theorem dX3_bring_96 : decode cX3_bring 96 = .ok (.aload_n 0, 1) := by decide +kernel
theorem dX3_bring_97 : decode cX3_bring 97 = .ok (.getfield 16, 3) := by decide +kernel
theorem dX3_bring_100 : decode cX3_bring 100 = .ok (.iload_n 2, 1) := by decide +kernel
theorem dX3_bring_101 : decode cX3_bring 101 = .ok (.dup2, 1) := by decide +kernel
theorem dX3_bring_102 : decode cX3_bring 102 = .ok (.iaload, 1) := by decide +kernel
theorem dX3_bring_103 : decode cX3_bring 103 = .ok (.iload_n 3, 1) := by decide +kernel
theorem dX3_bring_104 : decode cX3_bring 104 = .ok (.iadd, 1) := by decide +kernel
theorem dX3_bring_105 : decode cX3_bring 105 = .ok (.iastore, 1) := by decide +kernel
theorem dX3_bring_106 : decode cX3_bring 106 = .ok (.aload_n 0, 1) := by decide +kernel
theorem dX3_bring_107 : decode cX3_bring 107 = .ok (.getfield 7, 3) := by decide +kernel
theorem dX3_bring_110 : decode cX3_bring 110 = .ok (.bipush 8, 2) := by decide +kernel
theorem dX3_bring_112 : decode cX3_bring 112 = .ok (.iload_n 1, 1) := by decide +kernel
theorem dX3_bring_113 : decode cX3_bring 113 = .ok (.imul, 1) := by decide +kernel
theorem dX3_bring_114 : decode cX3_bring 114 = .ok (.iload_n 2, 1) := by decide +kernel
theorem dX3_bring_115 : decode cX3_bring 115 = .ok (.iadd, 1) := by decide +kernel
theorem dX3_bring_116 : decode cX3_bring 116 = .ok (.iaload, 1) := by decide +kernel
theorem dX3_bring_117 : decode cX3_bring 117 = .ok (.ireturn, 1) := by decide +kernel
set_option maxRecDepth 20000 in
theorem ggX3_lay_X3_isPerson : GoodIn wsX3_lay wsX3_isPerson := goodIn_r _ [8, 9, 10, 7, 11] (by decide +kernel) (by decide +kernel)
set_option maxRecDepth 20000 in
theorem gX3_lay_X3_isPerson : GoodIn wsX3_lay (va_wsS RX3 91 yX3_isPerson wsX3_isPerson) := goodIn_app (goodIn_of _ (by decide +kernel)) ggX3_lay_X3_isPerson
set_option maxRecDepth 20000 in
theorem ggX3_lay_X3_isColour : GoodIn wsX3_lay wsX3_isColour := goodIn_r _ [14, 9, 10, 7, 11] (by decide +kernel) (by decide +kernel)
set_option maxRecDepth 20000 in
theorem gX3_lay_X3_isColour : GoodIn wsX3_lay (va_wsS RX3 95 yX3_isColour wsX3_isColour) := goodIn_app (goodIn_of _ (by decide +kernel)) ggX3_lay_X3_isColour
set_option maxRecDepth 20000 in
theorem ggX3_lay_X3_isIn : GoodIn wsX3_lay wsX3_isIn := goodIn_r _ [11] (by decide +kernel) (by decide +kernel)
set_option maxRecDepth 20000 in
theorem gX3_lay_X3_isIn : GoodIn wsX3_lay (va_wsS RX3 84 yX3_isIn wsX3_isIn) := goodIn_app (goodIn_of _ (by decide +kernel)) ggX3_lay_X3_isIn
theorem dX3_lay_0 : decode cX3_lay 0 = .ok (.aload_n 0, 1) := by decide +kernel
theorem dX3_lay_1 : decode cX3_lay 1 = .ok (.iload_n 1, 1) := by decide +kernel
theorem dX3_lay_2 : decode cX3_lay 2 = .ok (.invokestatic 91, 3) := by decide +kernel
theorem dX3_lay_5 : decode cX3_lay 5 = .ok (.ifCond .eq 10, 3) := by decide +kernel
theorem dX3_lay_8 : decode cX3_lay 8 = .ok (.iload_n 2, 1) := by decide +kernel
theorem dX3_lay_9 : decode cX3_lay 9 = .ok (.invokestatic 95, 3) := by decide +kernel
theorem dX3_lay_12 : decode cX3_lay 12 = .ok (.ifCond .ne 7, 3) := by decide +kernel
theorem dX3_lay_15 : decode cX3_lay 15 = .ok (.iconst 1, 1) := by decide +kernel
theorem dX3_lay_16 : decode cX3_lay 16 = .ok (.goto 21, 3) := by decide +kernel
theorem dX3_lay_19 : decode cX3_lay 19 = .ok (.iload_n 3, 1) := by decide +kernel
theorem dX3_lay_20 : decode cX3_lay 20 = .ok (.sipush (-1000), 3) := by decide +kernel
theorem dX3_lay_23 : decode cX3_lay 23 = .ok (.sipush 1000, 3) := by decide +kernel
theorem dX3_lay_26 : decode cX3_lay 26 = .ok (.invokestatic 84, 3) := by decide +kernel
theorem dX3_lay_29 : decode cX3_lay 29 = .ok (.ifCond .eq 7, 3) := by decide +kernel
theorem dX3_lay_32 : decode cX3_lay 32 = .ok (.iconst 0, 1) := by decide +kernel
theorem dX3_lay_33 : decode cX3_lay 33 = .ok (.goto 4, 3) := by decide +kernel
theorem dX3_lay_36 : decode cX3_lay 36 = .ok (.iconst 2, 1) := by decide +kernel
theorem dX3_lay_37 : decode cX3_lay 37 = .ok (.putfield 81, 3) := by decide +kernel
theorem dX3_lay_40 : decode cX3_lay 40 = .ok (.aload_n 0, 1) := by decide +kernel
theorem dX3_lay_41 : decode cX3_lay 41 = .ok (.getfield 81, 3) := by decide +kernel
theorem dX3_lay_44 : decode cX3_lay 44 = .ok (.ifCond .le 5, 3) := by decide +kernel
theorem dX3_lay_47 : decode cX3_lay 47 = .ok (.iconst 0, 1) := by decide +kernel
theorem dX3_lay_48 : decode cX3_lay 48 = .ok (.ireturn, 1) := by decide +kernel
theorem dX3_lay_49 : decode cX3_lay 49 = .ok (.aload_n 0, 1) := by decide +kernel
theorem dX3_lay_50 : decode cX3_lay 50 = .ok (.getfield 7, 3) := by decide +kernel
theorem dX3_lay_53 : decode cX3_lay 53 = .ok (.bipush 8, 2) := by decide +kernel
theorem dX3_lay_55 : decode cX3_lay 55 = .ok (.iload_n 1, 1) := by decide +kernel
theorem dX3_lay_56 : decode cX3_lay 56 = .ok (.imul, 1) := by decide +kernel
theorem dX3_lay_57 : decode cX3_lay 57 = .ok (.iload_n 2, 1) := by decide +kernel
theorem dX3_lay_58 : decode cX3_lay 58 = .ok (.iadd, 1) := by decide +kernel
theorem dX3_lay_59 : decode cX3_lay 59 = .ok (.iaload, 1) := by decide +kernel
theorem dX3_lay_60 : decode cX3_lay 60 = .ok (.iload_n 3, 1) := by decide +kernel
theorem dX3_lay_61 : decode cX3_lay 61 = .ok (.isub, 1) := by decide +kernel
theorem dX3_lay_62 : decode cX3_lay 62 = .ok (.istore 4, 2) := by decide +kernel
theorem dX3_lay_64 : decode cX3_lay 64 = .ok (.aload_n 0, 1) := by decide +kernel
theorem dX3_lay_65 : decode cX3_lay 65 = .ok (.iload 4, 2) := by decide +kernel
theorem dX3_lay_67 : decode cX3_lay 67 = .ok (.ifCond .lt 21, 3) := by decide +kernel
theorem dX3_lay_70 : decode cX3_lay 70 = .ok (.iload 4, 2) := by decide +kernel
theorem dX3_lay_72 : decode cX3_lay 72 = .ok (.ldc 98, 2) := by decide +kernel
theorem dX3_lay_74 : decode cX3_lay 74 = .ok (.if_icmp .gt 14, 3) := by decide +kernel
theorem dX3_lay_77 : decode cX3_lay 77 = .ok (.aload_n 0, 1) := by decide +kernel
theorem dX3_lay_78 : decode cX3_lay 78 = .ok (.getfield 13, 3) := by decide +kernel
theorem dX3_lay_81 : decode cX3_lay 81 = .ok (.iload_n 2, 1) := by decide +kernel
theorem dX3_lay_82 : decode cX3_lay 82 = .ok (.iaload, 1) := by decide +kernel
theorem dX3_lay_83 : decode cX3_lay 83 = .ok (.iload_n 3, 1) := by decide +kernel
theorem dX3_lay_84 : decode cX3_lay 84 = .ok (.iadd, 1) := by decide +kernel
theorem dX3_lay_85 : decode cX3_lay 85 = .ok (.ifCond .ge 7, 3) := by decide +kernel
theorem dX3_lay_88 : decode cX3_lay 88 = .ok (.iconst 3, 1) := by decide +kernel
theorem dX3_lay_89 : decode cX3_lay 89 = .ok (.goto 4, 3) := by decide +kernel
theorem dX3_lay_92 : decode cX3_lay 92 = .ok (.iconst 0, 1) := by decide +kernel
theorem dX3_lay_93 : decode cX3_lay 93 = .ok (.putfield 81, 3) := by decide +kernel
theorem dX3_lay_96 : decode cX3_lay 96 = .ok (.aload_n 0, 1) := by decide +kernel
theorem dX3_lay_97 : decode cX3_lay 97 = .ok (.getfield 81, 3) := by decide +kernel
theorem dX3_lay_100 : decode cX3_lay 100 = .ok (.ifCond .le 5, 3) := by decide +kernel
theorem dX3_lay_103 : decode cX3_lay 103 = .ok (.iconst 0, 1) := by decide +kernel
theorem dX3_lay_104 : decode cX3_lay 104 = .ok (.ireturn, 1) := by decide +kernel
theorem dX3_lay_105 : decode cX3_lay 105 = .ok (.aload_n 0, 1) := by decide +kernel
theorem dX3_lay_106 : decode cX3_lay 106 = .ok (.getfield 7, 3) := by decide +kernel
theorem dX3_lay_109 : decode cX3_lay 109 = .ok (.bipush 8, 2) := by decide +kernel
theorem dX3_lay_111 : decode cX3_lay 111 = .ok (.iload_n 1, 1) := by decide +kernel
theorem dX3_lay_112 : decode cX3_lay 112 = .ok (.imul, 1) := by decide +kernel
theorem dX3_lay_113 : decode cX3_lay 113 = .ok (.iload_n 2, 1) := by decide +kernel
theorem dX3_lay_114 : decode cX3_lay 114 = .ok (.iadd, 1) := by decide +kernel
theorem dX3_lay_115 : decode cX3_lay 115 = .ok (.iload 4, 2) := by decide +kernel
theorem dX3_lay_117 : decode cX3_lay 117 = .ok (.iastore, 1) := by decide +kernel
theorem dX3_lay_118 : decode cX3_lay 118 = .ok (.aload_n 0, 1) := by decide +kernel
theorem dX3_lay_119 : decode cX3_lay 119 = .ok (.getfield 13, 3) := by decide +kernel
theorem dX3_lay_122 : decode cX3_lay 122 = .ok (.iload_n 2, 1) := by decide +kernel
theorem dX3_lay_123 : decode cX3_lay 123 = .ok (.dup2, 1) := by decide +kernel
theorem dX3_lay_124 : decode cX3_lay 124 = .ok (.iaload, 1) := by decide +kernel
theorem dX3_lay_125 : decode cX3_lay 125 = .ok (.iload_n 3, 1) := by decide +kernel
theorem dX3_lay_126 : decode cX3_lay 126 = .ok (.iadd, 1) := by decide +kernel
theorem dX3_lay_127 : decode cX3_lay 127 = .ok (.iastore, 1) := by decide +kernel
theorem dX3_lay_128 : decode cX3_lay 128 = .ok (.aload_n 0, 1) := by decide +kernel
theorem dX3_lay_129 : decode cX3_lay 129 = .ok (.getfield 13, 3) := by decide +kernel
theorem dX3_lay_132 : decode cX3_lay 132 = .ok (.iload_n 2, 1) := by decide +kernel
theorem dX3_lay_133 : decode cX3_lay 133 = .ok (.iaload, 1) := by decide +kernel
theorem dX3_lay_134 : decode cX3_lay 134 = .ok (.ireturn, 1) := by decide +kernel
set_option maxRecDepth 20000 in
theorem ggX3_hand_X3_isPerson : GoodIn wsX3_hand wsX3_isPerson := goodIn_r _ [6, 7, 8, 5, 9] (by decide +kernel) (by decide +kernel)
set_option maxRecDepth 20000 in
theorem gX3_hand_X3_isPerson : GoodIn wsX3_hand (va_wsS RX3 91 yX3_isPerson wsX3_isPerson) := goodIn_app (goodIn_of _ (by decide +kernel)) ggX3_hand_X3_isPerson
set_option maxRecDepth 20000 in
theorem ggX3_hand_X3_isColour : GoodIn wsX3_hand wsX3_isColour := goodIn_r _ [12, 7, 8, 5, 9] (by decide +kernel) (by decide +kernel)
set_option maxRecDepth 20000 in
theorem gX3_hand_X3_isColour : GoodIn wsX3_hand (va_wsS RX3 95 yX3_isColour wsX3_isColour) := goodIn_app (goodIn_of _ (by decide +kernel)) ggX3_hand_X3_isColour
theorem dX3_hand_0 : decode cX3_hand 0 = .ok (.aload_n 0, 1) := by decide +kernel
theorem dX3_hand_1 : decode cX3_hand 1 = .ok (.iload_n 1, 1) := by decide +kernel
theorem dX3_hand_2 : decode cX3_hand 2 = .ok (.invokestatic 91, 3) := by decide +kernel
theorem dX3_hand_5 : decode cX3_hand 5 = .ok (.ifCond .eq 14, 3) := by decide +kernel
theorem dX3_hand_8 : decode cX3_hand 8 = .ok (.iload_n 2, 1) := by decide +kernel
theorem dX3_hand_9 : decode cX3_hand 9 = .ok (.invokestatic 95, 3) := by decide +kernel
theorem dX3_hand_12 : decode cX3_hand 12 = .ok (.ifCond .eq 7, 3) := by decide +kernel
theorem dX3_hand_15 : decode cX3_hand 15 = .ok (.iconst 0, 1) := by decide +kernel
theorem dX3_hand_16 : decode cX3_hand 16 = .ok (.goto 4, 3) := by decide +kernel
theorem dX3_hand_19 : decode cX3_hand 19 = .ok (.iconst 1, 1) := by decide +kernel
theorem dX3_hand_20 : decode cX3_hand 20 = .ok (.putfield 81, 3) := by decide +kernel
theorem dX3_hand_23 : decode cX3_hand 23 = .ok (.aload_n 0, 1) := by decide +kernel
theorem dX3_hand_24 : decode cX3_hand 24 = .ok (.getfield 81, 3) := by decide +kernel
theorem dX3_hand_27 : decode cX3_hand 27 = .ok (.ifCond .le 7, 3) := by decide +kernel
theorem dX3_hand_30 : decode cX3_hand 30 = .ok (.iconst 0, 1) := by decide +kernel
theorem dX3_hand_31 : decode cX3_hand 31 = .ok (.goto 14, 3) := by decide +kernel
theorem dX3_hand_34 : decode cX3_hand 34 = .ok (.aload_n 0, 1) := by decide +kernel
theorem dX3_hand_35 : decode cX3_hand 35 = .ok (.getfield 7, 3) := by decide +kernel
theorem dX3_hand_38 : decode cX3_hand 38 = .ok (.bipush 8, 2) := by decide +kernel
theorem dX3_hand_40 : decode cX3_hand 40 = .ok (.iload_n 1, 1) := by decide +kernel
theorem dX3_hand_41 : decode cX3_hand 41 = .ok (.imul, 1) := by decide +kernel
theorem dX3_hand_42 : decode cX3_hand 42 = .ok (.iload_n 2, 1) := by decide +kernel
theorem dX3_hand_43 : decode cX3_hand 43 = .ok (.iadd, 1) := by decide +kernel
theorem dX3_hand_44 : decode cX3_hand 44 = .ok (.iaload, 1) := by decide +kernel
theorem dX3_hand_45 : decode cX3_hand 45 = .ok (.ireturn, 1) := by decide +kernel
set_option maxRecDepth 20000 in
theorem ggX3_needsOf_X3_at : GoodIn wsX3_needsOf wsX3_at := goodIn_r _ [7, 8, 9, 10, 11, 12, 13, 14, 15, 16, 17, 18, 19, 20, 21, 22, 23, 24, 25, 26, 27, 28, 29, 30, 31, 32, 33, 34] (by decide +kernel) (by decide +kernel)
set_option maxRecDepth 20000 in
theorem gX3_needsOf_X3_at : GoodIn wsX3_needsOf (wsV RX3 99 RX3 yX3_at wsX3_at) := goodIn_app (goodIn_of _ (by decide +kernel)) ggX3_needsOf_X3_at
theorem dX3_needsOf_0 : decode cX3_needsOf 0 = .ok (.iconst 0, 1) := by decide +kernel
theorem dX3_needsOf_1 : decode cX3_needsOf 1 = .ok (.istore_n 3, 1) := by decide +kernel
theorem dX3_needsOf_2 : decode cX3_needsOf 2 = .ok (.iconst 0, 1) := by decide +kernel
theorem dX3_needsOf_3 : decode cX3_needsOf 3 = .ok (.istore 4, 2) := by decide +kernel
theorem dX3_needsOf_5 : decode cX3_needsOf 5 = .ok (.iload 4, 2) := by decide +kernel
theorem dX3_needsOf_7 : decode cX3_needsOf 7 = .ok (.aload_n 0, 1) := by decide +kernel
theorem dX3_needsOf_8 : decode cX3_needsOf 8 = .ok (.getfield 29, 3) := by decide +kernel
theorem dX3_needsOf_11 : decode cX3_needsOf 11 = .ok (.iload_n 1, 1) := by decide +kernel
theorem dX3_needsOf_12 : decode cX3_needsOf 12 = .ok (.iaload, 1) := by decide +kernel
theorem dX3_needsOf_13 : decode cX3_needsOf 13 = .ok (.aload_n 0, 1) := by decide +kernel
theorem dX3_needsOf_14 : decode cX3_needsOf 14 = .ok (.getfield 32, 3) := by decide +kernel
theorem dX3_needsOf_17 : decode cX3_needsOf 17 = .ok (.iload_n 1, 1) := by decide +kernel
theorem dX3_needsOf_18 : decode cX3_needsOf 18 = .ok (.iaload, 1) := by decide +kernel
theorem dX3_needsOf_19 : decode cX3_needsOf 19 = .ok (.imul, 1) := by decide +kernel
theorem dX3_needsOf_20 : decode cX3_needsOf 20 = .ok (.if_icmp .ge 44, 3) := by decide +kernel
theorem dX3_needsOf_23 : decode cX3_needsOf 23 = .ok (.iload_n 3, 1) := by decide +kernel
theorem dX3_needsOf_24 : decode cX3_needsOf 24 = .ok (.aload_n 0, 1) := by decide +kernel
theorem dX3_needsOf_25 : decode cX3_needsOf 25 = .ok (.iload_n 1, 1) := by decide +kernel
theorem dX3_needsOf_26 : decode cX3_needsOf 26 = .ok (.iload 4, 2) := by decide +kernel
theorem dX3_needsOf_28 : decode cX3_needsOf 28 = .ok (.aload_n 0, 1) := by decide +kernel
theorem dX3_needsOf_29 : decode cX3_needsOf 29 = .ok (.getfield 29, 3) := by decide +kernel
theorem dX3_needsOf_32 : decode cX3_needsOf 32 = .ok (.iload_n 1, 1) := by decide +kernel
theorem dX3_needsOf_33 : decode cX3_needsOf 33 = .ok (.iaload, 1) := by decide +kernel
theorem dX3_needsOf_34 : decode cX3_needsOf 34 = .ok (.irem, 1) := by decide +kernel
theorem dX3_needsOf_35 : decode cX3_needsOf 35 = .ok (.iload 4, 2) := by decide +kernel
theorem dX3_needsOf_37 : decode cX3_needsOf 37 = .ok (.aload_n 0, 1) := by decide +kernel
theorem dX3_needsOf_38 : decode cX3_needsOf 38 = .ok (.getfield 29, 3) := by decide +kernel
theorem dX3_needsOf_41 : decode cX3_needsOf 41 = .ok (.iload_n 1, 1) := by decide +kernel
theorem dX3_needsOf_42 : decode cX3_needsOf 42 = .ok (.iaload, 1) := by decide +kernel
theorem dX3_needsOf_43 : decode cX3_needsOf 43 = .ok (.idiv, 1) := by decide +kernel
theorem dX3_needsOf_44 : decode cX3_needsOf 44 = .ok (.invokevirtual 99, 3) := by decide +kernel
theorem dX3_needsOf_47 : decode cX3_needsOf 47 = .ok (.iload_n 2, 1) := by decide +kernel
theorem dX3_needsOf_48 : decode cX3_needsOf 48 = .ok (.if_icmp .ne 7, 3) := by decide +kernel
theorem dX3_needsOf_51 : decode cX3_needsOf 51 = .ok (.iconst 1, 1) := by decide +kernel
theorem dX3_needsOf_52 : decode cX3_needsOf 52 = .ok (.goto 4, 3) := by decide +kernel
theorem dX3_needsOf_55 : decode cX3_needsOf 55 = .ok (.iconst 0, 1) := by decide +kernel
theorem dX3_needsOf_56 : decode cX3_needsOf 56 = .ok (.iadd, 1) := by decide +kernel
theorem dX3_needsOf_57 : decode cX3_needsOf 57 = .ok (.istore_n 3, 1) := by decide +kernel
theorem dX3_needsOf_58 : decode cX3_needsOf 58 = .ok (.iinc 4 1, 3) := by decide +kernel
theorem dX3_needsOf_61 : decode cX3_needsOf 61 = .ok (.goto (-56), 3) := by decide +kernel
theorem dX3_needsOf_64 : decode cX3_needsOf 64 = .ok (.iload_n 3, 1) := by decide +kernel
theorem dX3_needsOf_65 : decode cX3_needsOf 65 = .ok (.ireturn, 1) := by decide +kernel
theorem dX3_at_0 : decode cX3_at 0 = .ok (.aload_n 0, 1) := by decide +kernel
theorem dX3_at_1 : decode cX3_at 1 = .ok (.getfield 35, 3) := by decide +kernel
theorem dX3_at_4 : decode cX3_at 4 = .ok (.bipush 48, 2) := by decide +kernel
theorem dX3_at_6 : decode cX3_at 6 = .ok (.iload_n 1, 1) := by decide +kernel
theorem dX3_at_7 : decode cX3_at 7 = .ok (.imul, 1) := by decide +kernel
theorem dX3_at_8 : decode cX3_at 8 = .ok (.bipush 8, 2) := by decide +kernel
theorem dX3_at_10 : decode cX3_at 10 = .ok (.iload_n 3, 1) := by decide +kernel
theorem dX3_at_11 : decode cX3_at 11 = .ok (.imul, 1) := by decide +kernel
theorem dX3_at_12 : decode cX3_at 12 = .ok (.iadd, 1) := by decide +kernel
theorem dX3_at_13 : decode cX3_at 13 = .ok (.iload_n 2, 1) := by decide +kernel
theorem dX3_at_14 : decode cX3_at 14 = .ok (.iadd, 1) := by decide +kernel
theorem dX3_at_15 : decode cX3_at 15 = .ok (.iaload, 1) := by decide +kernel
theorem dX3_at_16 : decode cX3_at 16 = .ok (.ireturn, 1) := by decide +kernel
set_option maxRecDepth 20000 in
theorem ggX3_beads_X3_isColour : GoodIn wsX3_beads wsX3_isColour := goodIn_r _ [8, 9, 10, 7, 11] (by decide +kernel) (by decide +kernel)
set_option maxRecDepth 20000 in
theorem gX3_beads_X3_isColour : GoodIn wsX3_beads (va_wsS RX3 95 yX3_isColour wsX3_isColour) := goodIn_app (goodIn_of _ (by decide +kernel)) ggX3_beads_X3_isColour
set_option maxRecDepth 20000 in
theorem ggX3_beads_X3_isBelt : GoodIn wsX3_beads wsX3_isBelt := goodIn_r _ [15, 4, 9, 10, 7, 11, 27, 28, 29, 30, 31, 32, 33, 34, 35, 36, 37, 38, 39, 40, 41, 42, 43, 44, 45, 46, 47, 48, 49, 50, 51, 52] (by decide +kernel) (by decide +kernel)
set_option maxRecDepth 20000 in
theorem gX3_beads_X3_isBelt : GoodIn wsX3_beads (wsV RX3 103 RX3 yX3_isBelt wsX3_isBelt) := goodIn_app (goodIn_of _ (by decide +kernel)) ggX3_beads_X3_isBelt
set_option maxRecDepth 20000 in
theorem ggX3_beads_X3_needsOf : GoodIn wsX3_beads wsX3_needsOf := goodIn_r _ [19, 20, 21, 22, 23, 24, 7, 25, 26, 27, 28, 29, 30, 31, 32, 33, 34, 35, 36, 37, 38, 39, 40, 41, 42, 43, 44, 45, 46, 47, 48, 49, 50, 51, 52] (by decide +kernel) (by decide +kernel)
set_option maxRecDepth 20000 in
theorem gX3_beads_X3_needsOf : GoodIn wsX3_beads (wsV RX3 106 RX3 yX3_needsOf wsX3_needsOf) := goodIn_app (goodIn_of _ (by decide +kernel)) ggX3_beads_X3_needsOf
theorem dX3_beads_0 : decode cX3_beads 0 = .ok (.aload_n 0, 1) := by decide +kernel
theorem dX3_beads_1 : decode cX3_beads 1 = .ok (.iload_n 1, 1) := by decide +kernel
theorem dX3_beads_2 : decode cX3_beads 2 = .ok (.invokestatic 95, 3) := by decide +kernel
theorem dX3_beads_5 : decode cX3_beads 5 = .ok (.ifCond .eq 7, 3) := by decide +kernel
theorem dX3_beads_8 : decode cX3_beads 8 = .ok (.iconst 0, 1) := by decide +kernel
theorem dX3_beads_9 : decode cX3_beads 9 = .ok (.goto 4, 3) := by decide +kernel
theorem dX3_beads_12 : decode cX3_beads 12 = .ok (.iconst 1, 1) := by decide +kernel
theorem dX3_beads_13 : decode cX3_beads 13 = .ok (.putfield 81, 3) := by decide +kernel
theorem dX3_beads_16 : decode cX3_beads 16 = .ok (.aload_n 0, 1) := by decide +kernel
theorem dX3_beads_17 : decode cX3_beads 17 = .ok (.getfield 81, 3) := by decide +kernel
theorem dX3_beads_20 : decode cX3_beads 20 = .ok (.ifCond .le 5, 3) := by decide +kernel
theorem dX3_beads_23 : decode cX3_beads 23 = .ok (.iconst 0, 1) := by decide +kernel
theorem dX3_beads_24 : decode cX3_beads 24 = .ok (.ireturn, 1) := by decide +kernel
theorem dX3_beads_25 : decode cX3_beads 25 = .ok (.aload_n 0, 1) := by decide +kernel
theorem dX3_beads_26 : decode cX3_beads 26 = .ok (.getfield 13, 3) := by decide +kernel
theorem dX3_beads_29 : decode cX3_beads 29 = .ok (.iload_n 1, 1) := by decide +kernel
theorem dX3_beads_30 : decode cX3_beads 30 = .ok (.iaload, 1) := by decide +kernel
theorem dX3_beads_31 : decode cX3_beads 31 = .ok (.istore_n 2, 1) := by decide +kernel
theorem dX3_beads_32 : decode cX3_beads 32 = .ok (.iconst 0, 1) := by decide +kernel
theorem dX3_beads_33 : decode cX3_beads 33 = .ok (.istore_n 3, 1) := by decide +kernel
theorem dX3_beads_34 : decode cX3_beads 34 = .ok (.iload_n 3, 1) := by decide +kernel
theorem dX3_beads_35 : decode cX3_beads 35 = .ok (.bipush 7, 2) := by decide +kernel
theorem dX3_beads_37 : decode cX3_beads 37 = .ok (.if_icmp .ge 23, 3) := by decide +kernel
theorem dX3_beads_40 : decode cX3_beads 40 = .ok (.iload_n 2, 1) := by decide +kernel
theorem dX3_beads_41 : decode cX3_beads 41 = .ok (.aload_n 0, 1) := by decide +kernel
theorem dX3_beads_42 : decode cX3_beads 42 = .ok (.getfield 7, 3) := by decide +kernel
theorem dX3_beads_45 : decode cX3_beads 45 = .ok (.bipush 8, 2) := by decide +kernel
theorem dX3_beads_47 : decode cX3_beads 47 = .ok (.iload_n 3, 1) := by decide +kernel
theorem dX3_beads_48 : decode cX3_beads 48 = .ok (.imul, 1) := by decide +kernel
theorem dX3_beads_49 : decode cX3_beads 49 = .ok (.iload_n 1, 1) := by decide +kernel
theorem dX3_beads_50 : decode cX3_beads 50 = .ok (.iadd, 1) := by decide +kernel
theorem dX3_beads_51 : decode cX3_beads 51 = .ok (.iaload, 1) := by decide +kernel
theorem dX3_beads_52 : decode cX3_beads 52 = .ok (.iadd, 1) := by decide +kernel
theorem dX3_beads_53 : decode cX3_beads 53 = .ok (.istore_n 2, 1) := by decide +kernel
theorem dX3_beads_54 : decode cX3_beads 54 = .ok (.iinc 3 1, 3) := by decide +kernel
theorem dX3_beads_57 : decode cX3_beads 57 = .ok (.goto (-23), 3) := by decide +kernel
theorem dX3_beads_60 : decode cX3_beads 60 = .ok (.iconst 0, 1) := by decide +kernel
theorem dX3_beads_61 : decode cX3_beads 61 = .ok (.istore_n 3, 1) := by decide +kernel
theorem dX3_beads_62 : decode cX3_beads 62 = .ok (.iload_n 3, 1) := by decide +kernel
theorem dX3_beads_63 : decode cX3_beads 63 = .ok (.bipush 20, 2) := by decide +kernel
theorem dX3_beads_65 : decode cX3_beads 65 = .ok (.if_icmp .ge 35, 3) := by decide +kernel
theorem dX3_beads_68 : decode cX3_beads 68 = .ok (.iload_n 2, 1) := by decide +kernel
theorem dX3_beads_69 : decode cX3_beads 69 = .ok (.aload_n 0, 1) := by decide +kernel
theorem dX3_beads_70 : decode cX3_beads 70 = .ok (.iload_n 3, 1) := by decide +kernel
theorem dX3_beads_71 : decode cX3_beads 71 = .ok (.invokevirtual 103, 3) := by decide +kernel
theorem dX3_beads_74 : decode cX3_beads 74 = .ok (.ifCond .eq 17, 3) := by decide +kernel
theorem dX3_beads_77 : decode cX3_beads 77 = .ok (.aload_n 0, 1) := by decide +kernel
theorem dX3_beads_78 : decode cX3_beads 78 = .ok (.aload_n 0, 1) := by decide +kernel
theorem dX3_beads_79 : decode cX3_beads 79 = .ok (.getfield 44, 3) := by decide +kernel
theorem dX3_beads_82 : decode cX3_beads 82 = .ok (.iload_n 3, 1) := by decide +kernel
theorem dX3_beads_83 : decode cX3_beads 83 = .ok (.iaload, 1) := by decide +kernel
theorem dX3_beads_84 : decode cX3_beads 84 = .ok (.iload_n 1, 1) := by decide +kernel
theorem dX3_beads_85 : decode cX3_beads 85 = .ok (.invokevirtual 106, 3) := by decide +kernel
theorem dX3_beads_88 : decode cX3_beads 88 = .ok (.goto 4, 3) := by decide +kernel
theorem dX3_beads_91 : decode cX3_beads 91 = .ok (.iconst 0, 1) := by decide +kernel
theorem dX3_beads_92 : decode cX3_beads 92 = .ok (.iadd, 1) := by decide +kernel
theorem dX3_beads_93 : decode cX3_beads 93 = .ok (.istore_n 2, 1) := by decide +kernel
theorem dX3_beads_94 : decode cX3_beads 94 = .ok (.iinc 3 1, 3) := by decide +kernel
theorem dX3_beads_97 : decode cX3_beads 97 = .ok (.goto (-35), 3) := by decide +kernel
theorem dX3_beads_100 : decode cX3_beads 100 = .ok (.iload_n 2, 1) := by decide +kernel
theorem dX3_beads_101 : decode cX3_beads 101 = .ok (.ireturn, 1) := by decide +kernel
set_option maxRecDepth 20000 in
theorem ggX3_brought_X3_isColour : GoodIn wsX3_brought wsX3_isColour := goodIn_r _ [6, 7, 8, 5, 9] (by decide +kernel) (by decide +kernel)
set_option maxRecDepth 20000 in
theorem gX3_brought_X3_isColour : GoodIn wsX3_brought (va_wsS RX3 95 yX3_isColour wsX3_isColour) := goodIn_app (goodIn_of _ (by decide +kernel)) ggX3_brought_X3_isColour
theorem dX3_brought_0 : decode cX3_brought 0 = .ok (.aload_n 0, 1) := by decide +kernel
theorem dX3_brought_1 : decode cX3_brought 1 = .ok (.iload_n 1, 1) := by decide +kernel
theorem dX3_brought_2 : decode cX3_brought 2 = .ok (.invokestatic 95, 3) := by decide +kernel
theorem dX3_brought_5 : decode cX3_brought 5 = .ok (.ifCond .eq 7, 3) := by decide +kernel
theorem dX3_brought_8 : decode cX3_brought 8 = .ok (.iconst 0, 1) := by decide +kernel
theorem dX3_brought_9 : decode cX3_brought 9 = .ok (.goto 4, 3) := by decide +kernel
theorem dX3_brought_12 : decode cX3_brought 12 = .ok (.iconst 1, 1) := by decide +kernel
theorem dX3_brought_13 : decode cX3_brought 13 = .ok (.putfield 81, 3) := by decide +kernel
theorem dX3_brought_16 : decode cX3_brought 16 = .ok (.aload_n 0, 1) := by decide +kernel
theorem dX3_brought_17 : decode cX3_brought 17 = .ok (.getfield 81, 3) := by decide +kernel
theorem dX3_brought_20 : decode cX3_brought 20 = .ok (.ifCond .le 7, 3) := by decide +kernel
theorem dX3_brought_23 : decode cX3_brought 23 = .ok (.iconst 0, 1) := by decide +kernel
theorem dX3_brought_24 : decode cX3_brought 24 = .ok (.goto 9, 3) := by decide +kernel
theorem dX3_brought_27 : decode cX3_brought 27 = .ok (.aload_n 0, 1) := by decide +kernel
theorem dX3_brought_28 : decode cX3_brought 28 = .ok (.getfield 16, 3) := by decide +kernel
theorem dX3_brought_31 : decode cX3_brought 31 = .ok (.iload_n 1, 1) := by decide +kernel
theorem dX3_brought_32 : decode cX3_brought 32 = .ok (.iaload, 1) := by decide +kernel
theorem dX3_brought_33 : decode cX3_brought 33 = .ok (.ireturn, 1) := by decide +kernel
set_option maxRecDepth 20000 in
theorem ggX3_draft_X3_isIn : GoodIn wsX3_draft wsX3_isIn := goodIn_r _ [8] (by decide +kernel) (by decide +kernel)
set_option maxRecDepth 20000 in
theorem gX3_draft_X3_isIn : GoodIn wsX3_draft (va_wsS RX3 84 yX3_isIn wsX3_isIn) := goodIn_app (goodIn_of _ (by decide +kernel)) ggX3_draft_X3_isIn
theorem dX3_draft_0 : decode cX3_draft 0 = .ok (.aload_n 0, 1) := by decide +kernel
theorem dX3_draft_1 : decode cX3_draft 1 = .ok (.iload_n 1, 1) := by decide +kernel
theorem dX3_draft_2 : decode cX3_draft 2 = .ok (.iconst 1, 1) := by decide +kernel
theorem dX3_draft_3 : decode cX3_draft 3 = .ok (.bipush 8, 2) := by decide +kernel
theorem dX3_draft_5 : decode cX3_draft 5 = .ok (.invokestatic 84, 3) := by decide +kernel
theorem dX3_draft_8 : decode cX3_draft 8 = .ok (.ifCond .eq 17, 3) := by decide +kernel
theorem dX3_draft_11 : decode cX3_draft 11 = .ok (.iload_n 2, 1) := by decide +kernel
theorem dX3_draft_12 : decode cX3_draft 12 = .ok (.iconst 1, 1) := by decide +kernel
theorem dX3_draft_13 : decode cX3_draft 13 = .ok (.bipush 6, 2) := by decide +kernel
theorem dX3_draft_15 : decode cX3_draft 15 = .ok (.invokestatic 84, 3) := by decide +kernel
theorem dX3_draft_18 : decode cX3_draft 18 = .ok (.ifCond .eq 7, 3) := by decide +kernel
theorem dX3_draft_21 : decode cX3_draft 21 = .ok (.iconst 0, 1) := by decide +kernel
theorem dX3_draft_22 : decode cX3_draft 22 = .ok (.goto 4, 3) := by decide +kernel
theorem dX3_draft_25 : decode cX3_draft 25 = .ok (.iconst 1, 1) := by decide +kernel
theorem dX3_draft_26 : decode cX3_draft 26 = .ok (.putfield 81, 3) := by decide +kernel
theorem dX3_draft_29 : decode cX3_draft 29 = .ok (.aload_n 0, 1) := by decide +kernel
theorem dX3_draft_30 : decode cX3_draft 30 = .ok (.getfield 81, 3) := by decide +kernel
theorem dX3_draft_33 : decode cX3_draft 33 = .ok (.ifCond .le 5, 3) := by decide +kernel
theorem dX3_draft_36 : decode cX3_draft 36 = .ok (.iconst 0, 1) := by decide +kernel
theorem dX3_draft_37 : decode cX3_draft 37 = .ok (.ireturn, 1) := by decide +kernel
theorem dX3_draft_38 : decode cX3_draft 38 = .ok (.aload_n 0, 1) := by decide +kernel
theorem dX3_draft_39 : decode cX3_draft 39 = .ok (.iload_n 1, 1) := by decide +kernel
theorem dX3_draft_40 : decode cX3_draft 40 = .ok (.putfield 19, 3) := by decide +kernel
theorem dX3_draft_43 : decode cX3_draft 43 = .ok (.aload_n 0, 1) := by decide +kernel
theorem dX3_draft_44 : decode cX3_draft 44 = .ok (.iload_n 2, 1) := by decide +kernel
theorem dX3_draft_45 : decode cX3_draft 45 = .ok (.putfield 23, 3) := by decide +kernel
theorem dX3_draft_48 : decode cX3_draft 48 = .ok (.iconst 0, 1) := by decide +kernel
theorem dX3_draft_49 : decode cX3_draft 49 = .ok (.istore_n 3, 1) := by decide +kernel
theorem dX3_draft_50 : decode cX3_draft 50 = .ok (.iload_n 3, 1) := by decide +kernel
theorem dX3_draft_51 : decode cX3_draft 51 = .ok (.bipush 48, 2) := by decide +kernel
theorem dX3_draft_53 : decode cX3_draft 53 = .ok (.if_icmp .ge 16, 3) := by decide +kernel
theorem dX3_draft_56 : decode cX3_draft 56 = .ok (.aload_n 0, 1) := by decide +kernel
theorem dX3_draft_57 : decode cX3_draft 57 = .ok (.getfield 26, 3) := by decide +kernel
theorem dX3_draft_60 : decode cX3_draft 60 = .ok (.iload_n 3, 1) := by decide +kernel
theorem dX3_draft_61 : decode cX3_draft 61 = .ok (.iconst 0, 1) := by decide +kernel
theorem dX3_draft_62 : decode cX3_draft 62 = .ok (.iastore, 1) := by decide +kernel
theorem dX3_draft_63 : decode cX3_draft 63 = .ok (.iinc 3 1, 3) := by decide +kernel
theorem dX3_draft_66 : decode cX3_draft 66 = .ok (.goto (-16), 3) := by decide +kernel
theorem dX3_draft_69 : decode cX3_draft 69 = .ok (.iload_n 1, 1) := by decide +kernel
theorem dX3_draft_70 : decode cX3_draft 70 = .ok (.iload_n 2, 1) := by decide +kernel
theorem dX3_draft_71 : decode cX3_draft 71 = .ok (.imul, 1) := by decide +kernel
theorem dX3_draft_72 : decode cX3_draft 72 = .ok (.ireturn, 1) := by decide +kernel
set_option maxRecDepth 20000 in
theorem ggX3_bead_X3_isIn : GoodIn wsX3_bead wsX3_isIn := goodIn_r _ [8] (by decide +kernel) (by decide +kernel)
set_option maxRecDepth 20000 in
theorem gX3_bead_X3_isIn : GoodIn wsX3_bead (va_wsS RX3 84 yX3_isIn wsX3_isIn) := goodIn_app (goodIn_of _ (by decide +kernel)) ggX3_bead_X3_isIn
set_option maxRecDepth 20000 in
theorem ggX3_bead_X3_isColour : GoodIn wsX3_bead wsX3_isColour := goodIn_r _ [11, 5, 6, 7, 8] (by decide +kernel) (by decide +kernel)
set_option maxRecDepth 20000 in
theorem gX3_bead_X3_isColour : GoodIn wsX3_bead (va_wsS RX3 95 yX3_isColour wsX3_isColour) := goodIn_app (goodIn_of _ (by decide +kernel)) ggX3_bead_X3_isColour
theorem dX3_bead_0 : decode cX3_bead 0 = .ok (.iload_n 1, 1) := by decide +kernel
theorem dX3_bead_1 : decode cX3_bead 1 = .ok (.iconst 0, 1) := by decide +kernel
theorem dX3_bead_2 : decode cX3_bead 2 = .ok (.aload_n 0, 1) := by decide +kernel
theorem dX3_bead_3 : decode cX3_bead 3 = .ok (.getfield 19, 3) := by decide +kernel
theorem dX3_bead_6 : decode cX3_bead 6 = .ok (.iconst 1, 1) := by decide +kernel
theorem dX3_bead_7 : decode cX3_bead 7 = .ok (.isub, 1) := by decide +kernel
theorem dX3_bead_8 : decode cX3_bead 8 = .ok (.invokestatic 84, 3) := by decide +kernel
theorem dX3_bead_11 : decode cX3_bead 11 = .ok (.ifCond .eq 28, 3) := by decide +kernel
theorem dX3_bead_14 : decode cX3_bead 14 = .ok (.iload_n 2, 1) := by decide +kernel
theorem dX3_bead_15 : decode cX3_bead 15 = .ok (.iconst 0, 1) := by decide +kernel
theorem dX3_bead_16 : decode cX3_bead 16 = .ok (.aload_n 0, 1) := by decide +kernel
theorem dX3_bead_17 : decode cX3_bead 17 = .ok (.getfield 23, 3) := by decide +kernel
theorem dX3_bead_20 : decode cX3_bead 20 = .ok (.iconst 1, 1) := by decide +kernel
theorem dX3_bead_21 : decode cX3_bead 21 = .ok (.isub, 1) := by decide +kernel
theorem dX3_bead_22 : decode cX3_bead 22 = .ok (.invokestatic 84, 3) := by decide +kernel
theorem dX3_bead_25 : decode cX3_bead 25 = .ok (.ifCond .eq 14, 3) := by decide +kernel
theorem dX3_bead_28 : decode cX3_bead 28 = .ok (.iload_n 3, 1) := by decide +kernel
theorem dX3_bead_29 : decode cX3_bead 29 = .ok (.invokestatic 95, 3) := by decide +kernel
theorem dX3_bead_32 : decode cX3_bead 32 = .ok (.ifCond .eq 7, 3) := by decide +kernel
theorem dX3_bead_35 : decode cX3_bead 35 = .ok (.iconst 1, 1) := by decide +kernel
theorem dX3_bead_36 : decode cX3_bead 36 = .ok (.goto 4, 3) := by decide +kernel
theorem dX3_bead_39 : decode cX3_bead 39 = .ok (.iconst 0, 1) := by decide +kernel
theorem dX3_bead_40 : decode cX3_bead 40 = .ok (.istore 4, 2) := by decide +kernel
theorem dX3_bead_42 : decode cX3_bead 42 = .ok (.aload_n 0, 1) := by decide +kernel
theorem dX3_bead_43 : decode cX3_bead 43 = .ok (.iload 4, 2) := by decide +kernel
theorem dX3_bead_45 : decode cX3_bead 45 = .ok (.ifCond .eq 7, 3) := by decide +kernel
theorem dX3_bead_48 : decode cX3_bead 48 = .ok (.iconst 0, 1) := by decide +kernel
theorem dX3_bead_49 : decode cX3_bead 49 = .ok (.goto 4, 3) := by decide +kernel
theorem dX3_bead_52 : decode cX3_bead 52 = .ok (.iconst 1, 1) := by decide +kernel
theorem dX3_bead_53 : decode cX3_bead 53 = .ok (.putfield 81, 3) := by decide +kernel
theorem dX3_bead_56 : decode cX3_bead 56 = .ok (.aload_n 0, 1) := by decide +kernel
theorem dX3_bead_57 : decode cX3_bead 57 = .ok (.getfield 81, 3) := by decide +kernel
theorem dX3_bead_60 : decode cX3_bead 60 = .ok (.ifCond .le 5, 3) := by decide +kernel
theorem dX3_bead_63 : decode cX3_bead 63 = .ok (.iconst 0, 1) := by decide +kernel
theorem dX3_bead_64 : decode cX3_bead 64 = .ok (.ireturn, 1) := by decide +kernel
theorem dX3_bead_65 : decode cX3_bead 65 = .ok (.aload_n 0, 1) := by decide +kernel
theorem dX3_bead_66 : decode cX3_bead 66 = .ok (.getfield 26, 3) := by decide +kernel
theorem dX3_bead_69 : decode cX3_bead 69 = .ok (.bipush 8, 2) := by decide +kernel
theorem dX3_bead_71 : decode cX3_bead 71 = .ok (.iload_n 2, 1) := by decide +kernel
theorem dX3_bead_72 : decode cX3_bead 72 = .ok (.imul, 1) := by decide +kernel
theorem dX3_bead_73 : decode cX3_bead 73 = .ok (.iload_n 1, 1) := by decide +kernel
theorem dX3_bead_74 : decode cX3_bead 74 = .ok (.iadd, 1) := by decide +kernel
theorem dX3_bead_75 : decode cX3_bead 75 = .ok (.iaload, 1) := by decide +kernel
theorem dX3_bead_76 : decode cX3_bead 76 = .ok (.istore 5, 2) := by decide +kernel
theorem dX3_bead_78 : decode cX3_bead 78 = .ok (.aload_n 0, 1) := by decide +kernel
theorem dX3_bead_79 : decode cX3_bead 79 = .ok (.getfield 26, 3) := by decide +kernel
theorem dX3_bead_82 : decode cX3_bead 82 = .ok (.bipush 8, 2) := by decide +kernel
theorem dX3_bead_84 : decode cX3_bead 84 = .ok (.iload_n 2, 1) := by decide +kernel
theorem dX3_bead_85 : decode cX3_bead 85 = .ok (.imul, 1) := by decide +kernel
theorem dX3_bead_86 : decode cX3_bead 86 = .ok (.iload_n 1, 1) := by decide +kernel
theorem dX3_bead_87 : decode cX3_bead 87 = .ok (.iadd, 1) := by decide +kernel
theorem dX3_bead_88 : decode cX3_bead 88 = .ok (.iload_n 3, 1) := by decide +kernel
theorem dX3_bead_89 : decode cX3_bead 89 = .ok (.iastore, 1) := by decide +kernel
theorem dX3_bead_90 : decode cX3_bead 90 = .ok (.iload 5, 2) := by decide +kernel
theorem dX3_bead_92 : decode cX3_bead 92 = .ok (.ireturn, 1) := by decide +kernel
set_option maxRecDepth 20000 in
theorem ggX3_image_X3_at : GoodIn wsX3_image wsX3_at := goodIn_r _ [7, 8, 9, 10, 11, 12, 13, 14, 15, 16, 17, 18, 19, 20, 21, 22, 23, 24, 25, 26, 27, 28, 29, 30, 31, 32, 33, 34] (by decide +kernel) (by decide +kernel)
set_option maxRecDepth 20000 in
theorem gX3_image_X3_at : GoodIn wsX3_image (wsV RX3 99 RX3 yX3_at wsX3_at) := goodIn_app (goodIn_of _ (by decide +kernel)) ggX3_image_X3_at
theorem dX3_image_0 : decode cX3_image 0 = .ok (.aload_n 0, 1) := by decide +kernel
theorem dX3_image_1 : decode cX3_image 1 = .ok (.getfield 29, 3) := by decide +kernel
theorem dX3_image_4 : decode cX3_image 4 = .ok (.iload_n 1, 1) := by decide +kernel
theorem dX3_image_5 : decode cX3_image 5 = .ok (.iaload, 1) := by decide +kernel
theorem dX3_image_6 : decode cX3_image 6 = .ok (.istore 6, 2) := by decide +kernel
theorem dX3_image_8 : decode cX3_image 8 = .ok (.aload_n 0, 1) := by decide +kernel
theorem dX3_image_9 : decode cX3_image 9 = .ok (.getfield 32, 3) := by decide +kernel
theorem dX3_image_12 : decode cX3_image 12 = .ok (.iload_n 1, 1) := by decide +kernel
theorem dX3_image_13 : decode cX3_image 13 = .ok (.iaload, 1) := by decide +kernel
theorem dX3_image_14 : decode cX3_image 14 = .ok (.istore 7, 2) := by decide +kernel
theorem dX3_image_16 : decode cX3_image 16 = .ok (.iload_n 2, 1) := by decide +kernel
theorem dX3_image_17 : decode cX3_image 17 = .ok (.istore 8, 2) := by decide +kernel
theorem dX3_image_19 : decode cX3_image 19 = .ok (.iload_n 3, 1) := by decide +kernel
theorem dX3_image_20 : decode cX3_image 20 = .ok (.istore 9, 2) := by decide +kernel
theorem dX3_image_22 : decode cX3_image 22 = .ok (.iload 4, 2) := by decide +kernel
theorem dX3_image_24 : decode cX3_image 24 = .ok (.iconst 1, 1) := by decide +kernel
theorem dX3_image_25 : decode cX3_image 25 = .ok (.if_icmp .ne 17, 3) := by decide +kernel
theorem dX3_image_28 : decode cX3_image 28 = .ok (.iload_n 3, 1) := by decide +kernel
theorem dX3_image_29 : decode cX3_image 29 = .ok (.istore 8, 2) := by decide +kernel
theorem dX3_image_31 : decode cX3_image 31 = .ok (.iload 7, 2) := by decide +kernel
theorem dX3_image_33 : decode cX3_image 33 = .ok (.iconst 1, 1) := by decide +kernel
theorem dX3_image_34 : decode cX3_image 34 = .ok (.isub, 1) := by decide +kernel
theorem dX3_image_35 : decode cX3_image 35 = .ok (.iload_n 2, 1) := by decide +kernel
theorem dX3_image_36 : decode cX3_image 36 = .ok (.isub, 1) := by decide +kernel
theorem dX3_image_37 : decode cX3_image 37 = .ok (.istore 9, 2) := by decide +kernel
theorem dX3_image_39 : decode cX3_image 39 = .ok (.goto 45, 3) := by decide +kernel
theorem dX3_image_42 : decode cX3_image 42 = .ok (.iload 4, 2) := by decide +kernel
theorem dX3_image_44 : decode cX3_image 44 = .ok (.iconst 2, 1) := by decide +kernel
theorem dX3_image_45 : decode cX3_image 45 = .ok (.if_icmp .ne 22, 3) := by decide +kernel
theorem dX3_image_48 : decode cX3_image 48 = .ok (.iload 6, 2) := by decide +kernel
theorem dX3_image_50 : decode cX3_image 50 = .ok (.iconst 1, 1) := by decide +kernel
theorem dX3_image_51 : decode cX3_image 51 = .ok (.isub, 1) := by decide +kernel
theorem dX3_image_52 : decode cX3_image 52 = .ok (.iload_n 2, 1) := by decide +kernel
theorem dX3_image_53 : decode cX3_image 53 = .ok (.isub, 1) := by decide +kernel
theorem dX3_image_54 : decode cX3_image 54 = .ok (.istore 8, 2) := by decide +kernel
theorem dX3_image_56 : decode cX3_image 56 = .ok (.iload 7, 2) := by decide +kernel
theorem dX3_image_58 : decode cX3_image 58 = .ok (.iconst 1, 1) := by decide +kernel
theorem dX3_image_59 : decode cX3_image 59 = .ok (.isub, 1) := by decide +kernel
theorem dX3_image_60 : decode cX3_image 60 = .ok (.iload_n 3, 1) := by decide +kernel
theorem dX3_image_61 : decode cX3_image 61 = .ok (.isub, 1) := by decide +kernel
theorem dX3_image_62 : decode cX3_image 62 = .ok (.istore 9, 2) := by decide +kernel
theorem dX3_image_64 : decode cX3_image 64 = .ok (.goto 20, 3) := by decide +kernel
theorem dX3_image_67 : decode cX3_image 67 = .ok (.iload 4, 2) := by decide +kernel
theorem dX3_image_69 : decode cX3_image 69 = .ok (.iconst 3, 1) := by decide +kernel
theorem dX3_image_70 : decode cX3_image 70 = .ok (.if_icmp .ne 14, 3) := by decide +kernel
theorem dX3_image_73 : decode cX3_image 73 = .ok (.iload 6, 2) := by decide +kernel
theorem dX3_image_75 : decode cX3_image 75 = .ok (.iconst 1, 1) := by decide +kernel
theorem dX3_image_76 : decode cX3_image 76 = .ok (.isub, 1) := by decide +kernel
theorem dX3_image_77 : decode cX3_image 77 = .ok (.iload_n 3, 1) := by decide +kernel
theorem dX3_image_78 : decode cX3_image 78 = .ok (.isub, 1) := by decide +kernel
theorem dX3_image_79 : decode cX3_image 79 = .ok (.istore 8, 2) := by decide +kernel
theorem dX3_image_81 : decode cX3_image 81 = .ok (.iload_n 2, 1) := by decide +kernel
theorem dX3_image_82 : decode cX3_image 82 = .ok (.istore 9, 2) := by decide +kernel
theorem dX3_image_84 : decode cX3_image 84 = .ok (.aload_n 0, 1) := by decide +kernel
theorem dX3_image_85 : decode cX3_image 85 = .ok (.iload_n 1, 1) := by decide +kernel
theorem dX3_image_86 : decode cX3_image 86 = .ok (.iload 5, 2) := by decide +kernel
theorem dX3_image_88 : decode cX3_image 88 = .ok (.ifCond .eq 13, 3) := by decide +kernel
theorem dX3_image_91 : decode cX3_image 91 = .ok (.iload 6, 2) := by decide +kernel
theorem dX3_image_93 : decode cX3_image 93 = .ok (.iconst 1, 1) := by decide +kernel
theorem dX3_image_94 : decode cX3_image 94 = .ok (.isub, 1) := by decide +kernel
theorem dX3_image_95 : decode cX3_image 95 = .ok (.iload 8, 2) := by decide +kernel
theorem dX3_image_97 : decode cX3_image 97 = .ok (.isub, 1) := by decide +kernel
theorem dX3_image_98 : decode cX3_image 98 = .ok (.goto 5, 3) := by decide +kernel
theorem dX3_image_101 : decode cX3_image 101 = .ok (.iload 8, 2) := by decide +kernel
theorem dX3_image_103 : decode cX3_image 103 = .ok (.iload 9, 2) := by decide +kernel
theorem dX3_image_105 : decode cX3_image 105 = .ok (.invokevirtual 99, 3) := by decide +kernel
theorem dX3_image_108 : decode cX3_image 108 = .ok (.ireturn, 1) := by decide +kernel
set_option maxRecDepth 20000 in
theorem ggX3_isImage_X3_at : GoodIn wsX3_isImage wsX3_at := goodIn_r _ [7, 8, 13, 14, 15, 16, 17, 18, 19, 20, 21, 22, 23, 24, 25, 26, 27, 28, 29, 30, 31, 32, 33, 34, 35, 36, 37, 38] (by decide +kernel) (by decide +kernel)
set_option maxRecDepth 20000 in
theorem gX3_isImage_X3_at : GoodIn wsX3_isImage (wsV RX3 99 RX3 yX3_at wsX3_at) := goodIn_app (goodIn_of _ (by decide +kernel)) ggX3_isImage_X3_at
set_option maxRecDepth 20000 in
theorem ggX3_isImage_X3_image : GoodIn wsX3_isImage wsX3_image := goodIn_r _ [12, 1, 2, 3, 4, 5, 6, 7, 8, 13, 14, 15, 16, 17, 18, 19, 20, 21, 22, 23, 24, 25, 26, 27, 28, 29, 30, 31, 32, 33, 34, 35, 36, 37, 38] (by decide +kernel) (by decide +kernel)
set_option maxRecDepth 20000 in
theorem gX3_isImage_X3_image : GoodIn wsX3_isImage (wsV RX3 110 RX3 yX3_image wsX3_image) := goodIn_app (goodIn_of _ (by decide +kernel)) ggX3_isImage_X3_image
theorem dX3_isImage_0 : decode cX3_isImage 0 = .ok (.iload_n 3, 1) := by decide +kernel
theorem dX3_isImage_1 : decode cX3_isImage 1 = .ok (.iconst 2, 1) := by decide +kernel
theorem dX3_isImage_2 : decode cX3_isImage 2 = .ok (.irem, 1) := by decide +kernel
theorem dX3_isImage_3 : decode cX3_isImage 3 = .ok (.ifCond .ne 12, 3) := by decide +kernel
theorem dX3_isImage_6 : decode cX3_isImage 6 = .ok (.aload_n 0, 1) := by decide +kernel
theorem dX3_isImage_7 : decode cX3_isImage 7 = .ok (.getfield 29, 3) := by decide +kernel
theorem dX3_isImage_10 : decode cX3_isImage 10 = .ok (.iload_n 2, 1) := by decide +kernel
theorem dX3_isImage_11 : decode cX3_isImage 11 = .ok (.iaload, 1) := by decide +kernel
theorem dX3_isImage_12 : decode cX3_isImage 12 = .ok (.goto 9, 3) := by decide +kernel
theorem dX3_isImage_15 : decode cX3_isImage 15 = .ok (.aload_n 0, 1) := by decide +kernel
theorem dX3_isImage_16 : decode cX3_isImage 16 = .ok (.getfield 32, 3) := by decide +kernel
theorem dX3_isImage_19 : decode cX3_isImage 19 = .ok (.iload_n 2, 1) := by decide +kernel
theorem dX3_isImage_20 : decode cX3_isImage 20 = .ok (.iaload, 1) := by decide +kernel
theorem dX3_isImage_21 : decode cX3_isImage 21 = .ok (.istore 5, 2) := by decide +kernel
theorem dX3_isImage_23 : decode cX3_isImage 23 = .ok (.iload_n 3, 1) := by decide +kernel
theorem dX3_isImage_24 : decode cX3_isImage 24 = .ok (.iconst 2, 1) := by decide +kernel
theorem dX3_isImage_25 : decode cX3_isImage 25 = .ok (.irem, 1) := by decide +kernel
theorem dX3_isImage_26 : decode cX3_isImage 26 = .ok (.ifCond .ne 12, 3) := by decide +kernel
theorem dX3_isImage_29 : decode cX3_isImage 29 = .ok (.aload_n 0, 1) := by decide +kernel
theorem dX3_isImage_30 : decode cX3_isImage 30 = .ok (.getfield 32, 3) := by decide +kernel
theorem dX3_isImage_33 : decode cX3_isImage 33 = .ok (.iload_n 2, 1) := by decide +kernel
theorem dX3_isImage_34 : decode cX3_isImage 34 = .ok (.iaload, 1) := by decide +kernel
theorem dX3_isImage_35 : decode cX3_isImage 35 = .ok (.goto 9, 3) := by decide +kernel
theorem dX3_isImage_38 : decode cX3_isImage 38 = .ok (.aload_n 0, 1) := by decide +kernel
theorem dX3_isImage_39 : decode cX3_isImage 39 = .ok (.getfield 29, 3) := by decide +kernel
theorem dX3_isImage_42 : decode cX3_isImage 42 = .ok (.iload_n 2, 1) := by decide +kernel
theorem dX3_isImage_43 : decode cX3_isImage 43 = .ok (.iaload, 1) := by decide +kernel
theorem dX3_isImage_44 : decode cX3_isImage 44 = .ok (.istore 6, 2) := by decide +kernel
theorem dX3_isImage_46 : decode cX3_isImage 46 = .ok (.aload_n 0, 1) := by decide +kernel
theorem dX3_isImage_47 : decode cX3_isImage 47 = .ok (.getfield 29, 3) := by decide +kernel
theorem dX3_isImage_50 : decode cX3_isImage 50 = .ok (.iload_n 1, 1) := by decide +kernel
theorem dX3_isImage_51 : decode cX3_isImage 51 = .ok (.iaload, 1) := by decide +kernel
theorem dX3_isImage_52 : decode cX3_isImage 52 = .ok (.iload 5, 2) := by decide +kernel
theorem dX3_isImage_54 : decode cX3_isImage 54 = .ok (.if_icmp .ne 18, 3) := by decide +kernel
theorem dX3_isImage_57 : decode cX3_isImage 57 = .ok (.aload_n 0, 1) := by decide +kernel
theorem dX3_isImage_58 : decode cX3_isImage 58 = .ok (.getfield 32, 3) := by decide +kernel
theorem dX3_isImage_61 : decode cX3_isImage 61 = .ok (.iload_n 1, 1) := by decide +kernel
theorem dX3_isImage_62 : decode cX3_isImage 62 = .ok (.iaload, 1) := by decide +kernel
theorem dX3_isImage_63 : decode cX3_isImage 63 = .ok (.iload 6, 2) := by decide +kernel
theorem dX3_isImage_65 : decode cX3_isImage 65 = .ok (.if_icmp .ne 7, 3) := by decide +kernel
theorem dX3_isImage_68 : decode cX3_isImage 68 = .ok (.iconst 1, 1) := by decide +kernel
theorem dX3_isImage_69 : decode cX3_isImage 69 = .ok (.goto 4, 3) := by decide +kernel
theorem dX3_isImage_72 : decode cX3_isImage 72 = .ok (.iconst 0, 1) := by decide +kernel
theorem dX3_isImage_73 : decode cX3_isImage 73 = .ok (.istore 7, 2) := by decide +kernel
theorem dX3_isImage_75 : decode cX3_isImage 75 = .ok (.iconst 0, 1) := by decide +kernel
theorem dX3_isImage_76 : decode cX3_isImage 76 = .ok (.istore 8, 2) := by decide +kernel
theorem dX3_isImage_78 : decode cX3_isImage 78 = .ok (.iload 8, 2) := by decide +kernel
theorem dX3_isImage_80 : decode cX3_isImage 80 = .ok (.iload 5, 2) := by decide +kernel
theorem dX3_isImage_82 : decode cX3_isImage 82 = .ok (.iload 6, 2) := by decide +kernel
theorem dX3_isImage_84 : decode cX3_isImage 84 = .ok (.imul, 1) := by decide +kernel
theorem dX3_isImage_85 : decode cX3_isImage 85 = .ok (.if_icmp .ge 57, 3) := by decide +kernel
theorem dX3_isImage_88 : decode cX3_isImage 88 = .ok (.iload 7, 2) := by decide +kernel
theorem dX3_isImage_90 : decode cX3_isImage 90 = .ok (.ifCond .eq 52, 3) := by decide +kernel
theorem dX3_isImage_93 : decode cX3_isImage 93 = .ok (.aload_n 0, 1) := by decide +kernel
theorem dX3_isImage_94 : decode cX3_isImage 94 = .ok (.iload_n 1, 1) := by decide +kernel
theorem dX3_isImage_95 : decode cX3_isImage 95 = .ok (.iload 8, 2) := by decide +kernel
theorem dX3_isImage_97 : decode cX3_isImage 97 = .ok (.iload 5, 2) := by decide +kernel
theorem dX3_isImage_99 : decode cX3_isImage 99 = .ok (.irem, 1) := by decide +kernel
theorem dX3_isImage_100 : decode cX3_isImage 100 = .ok (.iload 8, 2) := by decide +kernel
theorem dX3_isImage_102 : decode cX3_isImage 102 = .ok (.iload 5, 2) := by decide +kernel
theorem dX3_isImage_104 : decode cX3_isImage 104 = .ok (.idiv, 1) := by decide +kernel
theorem dX3_isImage_105 : decode cX3_isImage 105 = .ok (.invokevirtual 99, 3) := by decide +kernel
theorem dX3_isImage_108 : decode cX3_isImage 108 = .ok (.aload_n 0, 1) := by decide +kernel
theorem dX3_isImage_109 : decode cX3_isImage 109 = .ok (.iload_n 2, 1) := by decide +kernel
theorem dX3_isImage_110 : decode cX3_isImage 110 = .ok (.iload 8, 2) := by decide +kernel
theorem dX3_isImage_112 : decode cX3_isImage 112 = .ok (.iload 5, 2) := by decide +kernel
theorem dX3_isImage_114 : decode cX3_isImage 114 = .ok (.irem, 1) := by decide +kernel
theorem dX3_isImage_115 : decode cX3_isImage 115 = .ok (.iload 8, 2) := by decide +kernel
theorem dX3_isImage_117 : decode cX3_isImage 117 = .ok (.iload 5, 2) := by decide +kernel
theorem dX3_isImage_119 : decode cX3_isImage 119 = .ok (.idiv, 1) := by decide +kernel
theorem dX3_isImage_120 : decode cX3_isImage 120 = .ok (.iload_n 3, 1) := by decide +kernel
theorem dX3_isImage_121 : decode cX3_isImage 121 = .ok (.iload 4, 2) := by decide +kernel
theorem dX3_isImage_123 : decode cX3_isImage 123 = .ok (.invokevirtual 110, 3) := by decide +kernel
theorem dX3_isImage_126 : decode cX3_isImage 126 = .ok (.if_icmp .ne 7, 3) := by decide +kernel
theorem dX3_isImage_129 : decode cX3_isImage 129 = .ok (.iconst 1, 1) := by decide +kernel
theorem dX3_isImage_130 : decode cX3_isImage 130 = .ok (.goto 4, 3) := by decide +kernel
theorem dX3_isImage_133 : decode cX3_isImage 133 = .ok (.iconst 0, 1) := by decide +kernel
theorem dX3_isImage_134 : decode cX3_isImage 134 = .ok (.istore 7, 2) := by decide +kernel
theorem dX3_isImage_136 : decode cX3_isImage 136 = .ok (.iinc 8 1, 3) := by decide +kernel
theorem dX3_isImage_139 : decode cX3_isImage 139 = .ok (.goto (-61), 3) := by decide +kernel
theorem dX3_isImage_142 : decode cX3_isImage 142 = .ok (.iload 7, 2) := by decide +kernel
theorem dX3_isImage_144 : decode cX3_isImage 144 = .ok (.ireturn, 1) := by decide +kernel
set_option maxRecDepth 20000 in
theorem ggX3_pattern_X3_isPerson : GoodIn wsX3_pattern wsX3_isPerson := goodIn_r _ [14, 15, 16, 13, 17] (by decide +kernel) (by decide +kernel)
set_option maxRecDepth 20000 in
theorem gX3_pattern_X3_isPerson : GoodIn wsX3_pattern (va_wsS RX3 91 yX3_isPerson wsX3_isPerson) := goodIn_app (goodIn_of _ (by decide +kernel)) ggX3_pattern_X3_isPerson
set_option maxRecDepth 20000 in
theorem ggX3_pattern_X3_isImage : GoodIn wsX3_pattern wsX3_isImage := goodIn_r _ [21, 3, 5, 22, 23, 24, 13, 25, 8, 26, 27, 28, 29, 30, 31, 32, 33, 34, 35, 36, 37, 38, 39, 40, 41, 42, 43, 44, 45, 46, 47, 48, 49, 50, 51, 52, 53, 54, 55] (by decide +kernel) (by decide +kernel)
set_option maxRecDepth 20000 in
theorem gX3_pattern_X3_isImage : GoodIn wsX3_pattern (wsV RX3 114 RX3 yX3_isImage wsX3_isImage) := goodIn_app (goodIn_of _ (by decide +kernel)) ggX3_pattern_X3_isImage
theorem dX3_pattern_0 : decode cX3_pattern 0 = .ok (.aload_n 0, 1) := by decide +kernel
theorem dX3_pattern_1 : decode cX3_pattern 1 = .ok (.iload_n 1, 1) := by decide +kernel
theorem dX3_pattern_2 : decode cX3_pattern 2 = .ok (.invokestatic 91, 3) := by decide +kernel
theorem dX3_pattern_5 : decode cX3_pattern 5 = .ok (.ifCond .ne 7, 3) := by decide +kernel
theorem dX3_pattern_8 : decode cX3_pattern 8 = .ok (.iconst 1, 1) := by decide +kernel
theorem dX3_pattern_9 : decode cX3_pattern 9 = .ok (.goto 17, 3) := by decide +kernel
theorem dX3_pattern_12 : decode cX3_pattern 12 = .ok (.aload_n 0, 1) := by decide +kernel
theorem dX3_pattern_13 : decode cX3_pattern 13 = .ok (.getfield 88, 3) := by decide +kernel
theorem dX3_pattern_16 : decode cX3_pattern 16 = .ok (.bipush 12, 2) := by decide +kernel
theorem dX3_pattern_18 : decode cX3_pattern 18 = .ok (.if_icmp .ne 7, 3) := by decide +kernel
theorem dX3_pattern_21 : decode cX3_pattern 21 = .ok (.iconst 2, 1) := by decide +kernel
theorem dX3_pattern_22 : decode cX3_pattern 22 = .ok (.goto 4, 3) := by decide +kernel
theorem dX3_pattern_25 : decode cX3_pattern 25 = .ok (.iconst 0, 1) := by decide +kernel
theorem dX3_pattern_26 : decode cX3_pattern 26 = .ok (.putfield 81, 3) := by decide +kernel
theorem dX3_pattern_29 : decode cX3_pattern 29 = .ok (.aload_n 0, 1) := by decide +kernel
theorem dX3_pattern_30 : decode cX3_pattern 30 = .ok (.getfield 81, 3) := by decide +kernel
theorem dX3_pattern_33 : decode cX3_pattern 33 = .ok (.ifCond .le 5, 3) := by decide +kernel
theorem dX3_pattern_36 : decode cX3_pattern 36 = .ok (.iconst 0, 1) := by decide +kernel
theorem dX3_pattern_37 : decode cX3_pattern 37 = .ok (.ireturn, 1) := by decide +kernel
theorem dX3_pattern_38 : decode cX3_pattern 38 = .ok (.aload_n 0, 1) := by decide +kernel
theorem dX3_pattern_39 : decode cX3_pattern 39 = .ok (.getfield 88, 3) := by decide +kernel
theorem dX3_pattern_42 : decode cX3_pattern 42 = .ok (.istore_n 2, 1) := by decide +kernel
theorem dX3_pattern_43 : decode cX3_pattern 43 = .ok (.aload_n 0, 1) := by decide +kernel
theorem dX3_pattern_44 : decode cX3_pattern 44 = .ok (.getfield 29, 3) := by decide +kernel
theorem dX3_pattern_47 : decode cX3_pattern 47 = .ok (.iload_n 2, 1) := by decide +kernel
theorem dX3_pattern_48 : decode cX3_pattern 48 = .ok (.aload_n 0, 1) := by decide +kernel
theorem dX3_pattern_49 : decode cX3_pattern 49 = .ok (.getfield 19, 3) := by decide +kernel
theorem dX3_pattern_52 : decode cX3_pattern 52 = .ok (.iastore, 1) := by decide +kernel
theorem dX3_pattern_53 : decode cX3_pattern 53 = .ok (.aload_n 0, 1) := by decide +kernel
theorem dX3_pattern_54 : decode cX3_pattern 54 = .ok (.getfield 32, 3) := by decide +kernel
theorem dX3_pattern_57 : decode cX3_pattern 57 = .ok (.iload_n 2, 1) := by decide +kernel
theorem dX3_pattern_58 : decode cX3_pattern 58 = .ok (.aload_n 0, 1) := by decide +kernel
theorem dX3_pattern_59 : decode cX3_pattern 59 = .ok (.getfield 23, 3) := by decide +kernel
theorem dX3_pattern_62 : decode cX3_pattern 62 = .ok (.iastore, 1) := by decide +kernel
theorem dX3_pattern_63 : decode cX3_pattern 63 = .ok (.aload_n 0, 1) := by decide +kernel
theorem dX3_pattern_64 : decode cX3_pattern 64 = .ok (.getfield 38, 3) := by decide +kernel
theorem dX3_pattern_67 : decode cX3_pattern 67 = .ok (.iload_n 2, 1) := by decide +kernel
theorem dX3_pattern_68 : decode cX3_pattern 68 = .ok (.iload_n 1, 1) := by decide +kernel
theorem dX3_pattern_69 : decode cX3_pattern 69 = .ok (.iastore, 1) := by decide +kernel
theorem dX3_pattern_70 : decode cX3_pattern 70 = .ok (.iconst 0, 1) := by decide +kernel
theorem dX3_pattern_71 : decode cX3_pattern 71 = .ok (.istore_n 3, 1) := by decide +kernel
theorem dX3_pattern_72 : decode cX3_pattern 72 = .ok (.iload_n 3, 1) := by decide +kernel
theorem dX3_pattern_73 : decode cX3_pattern 73 = .ok (.bipush 48, 2) := by decide +kernel
theorem dX3_pattern_75 : decode cX3_pattern 75 = .ok (.if_icmp .ge 26, 3) := by decide +kernel
theorem dX3_pattern_78 : decode cX3_pattern 78 = .ok (.aload_n 0, 1) := by decide +kernel
theorem dX3_pattern_79 : decode cX3_pattern 79 = .ok (.getfield 35, 3) := by decide +kernel
theorem dX3_pattern_82 : decode cX3_pattern 82 = .ok (.bipush 48, 2) := by decide +kernel
theorem dX3_pattern_84 : decode cX3_pattern 84 = .ok (.iload_n 2, 1) := by decide +kernel
theorem dX3_pattern_85 : decode cX3_pattern 85 = .ok (.imul, 1) := by decide +kernel
theorem dX3_pattern_86 : decode cX3_pattern 86 = .ok (.iload_n 3, 1) := by decide +kernel
theorem dX3_pattern_87 : decode cX3_pattern 87 = .ok (.iadd, 1) := by decide +kernel
theorem dX3_pattern_88 : decode cX3_pattern 88 = .ok (.aload_n 0, 1) := by decide +kernel
theorem dX3_pattern_89 : decode cX3_pattern 89 = .ok (.getfield 26, 3) := by decide +kernel
theorem dX3_pattern_92 : decode cX3_pattern 92 = .ok (.iload_n 3, 1) := by decide +kernel
theorem dX3_pattern_93 : decode cX3_pattern 93 = .ok (.iaload, 1) := by decide +kernel
theorem dX3_pattern_94 : decode cX3_pattern 94 = .ok (.iastore, 1) := by decide +kernel
theorem dX3_pattern_95 : decode cX3_pattern 95 = .ok (.iinc 3 1, 3) := by decide +kernel
theorem dX3_pattern_98 : decode cX3_pattern 98 = .ok (.goto (-26), 3) := by decide +kernel
theorem dX3_pattern_101 : decode cX3_pattern 101 = .ok (.aload_n 0, 1) := by decide +kernel
theorem dX3_pattern_102 : decode cX3_pattern 102 = .ok (.dup, 1) := by decide +kernel
theorem dX3_pattern_103 : decode cX3_pattern 103 = .ok (.getfield 88, 3) := by decide +kernel
theorem dX3_pattern_106 : decode cX3_pattern 106 = .ok (.iconst 1, 1) := by decide +kernel
theorem dX3_pattern_107 : decode cX3_pattern 107 = .ok (.iadd, 1) := by decide +kernel
theorem dX3_pattern_108 : decode cX3_pattern 108 = .ok (.putfield 88, 3) := by decide +kernel
theorem dX3_pattern_111 : decode cX3_pattern 111 = .ok (.aload_n 0, 1) := by decide +kernel
theorem dX3_pattern_112 : decode cX3_pattern 112 = .ok (.getfield 41, 3) := by decide +kernel
theorem dX3_pattern_115 : decode cX3_pattern 115 = .ok (.iload_n 2, 1) := by decide +kernel
theorem dX3_pattern_116 : decode cX3_pattern 116 = .ok (.iload_n 2, 1) := by decide +kernel
theorem dX3_pattern_117 : decode cX3_pattern 117 = .ok (.iastore, 1) := by decide +kernel
theorem dX3_pattern_118 : decode cX3_pattern 118 = .ok (.iload_n 2, 1) := by decide +kernel
theorem dX3_pattern_119 : decode cX3_pattern 119 = .ok (.iconst 1, 1) := by decide +kernel
theorem dX3_pattern_120 : decode cX3_pattern 120 = .ok (.isub, 1) := by decide +kernel
theorem dX3_pattern_121 : decode cX3_pattern 121 = .ok (.istore_n 3, 1) := by decide +kernel
theorem dX3_pattern_122 : decode cX3_pattern 122 = .ok (.iload_n 3, 1) := by decide +kernel
theorem dX3_pattern_123 : decode cX3_pattern 123 = .ok (.ifCond .lt 65, 3) := by decide +kernel
theorem dX3_pattern_126 : decode cX3_pattern 126 = .ok (.iconst 0, 1) := by decide +kernel
theorem dX3_pattern_127 : decode cX3_pattern 127 = .ok (.istore 4, 2) := by decide +kernel
theorem dX3_pattern_129 : decode cX3_pattern 129 = .ok (.iload 4, 2) := by decide +kernel
theorem dX3_pattern_131 : decode cX3_pattern 131 = .ok (.bipush 8, 2) := by decide +kernel
theorem dX3_pattern_133 : decode cX3_pattern 133 = .ok (.if_icmp .ge 49, 3) := by decide +kernel
theorem dX3_pattern_136 : decode cX3_pattern 136 = .ok (.aload_n 0, 1) := by decide +kernel
theorem dX3_pattern_137 : decode cX3_pattern 137 = .ok (.getfield 41, 3) := by decide +kernel
theorem dX3_pattern_140 : decode cX3_pattern 140 = .ok (.iload_n 2, 1) := by decide +kernel
theorem dX3_pattern_141 : decode cX3_pattern 141 = .ok (.aload_n 0, 1) := by decide +kernel
theorem dX3_pattern_142 : decode cX3_pattern 142 = .ok (.iload_n 3, 1) := by decide +kernel
theorem dX3_pattern_143 : decode cX3_pattern 143 = .ok (.iload_n 2, 1) := by decide +kernel
theorem dX3_pattern_144 : decode cX3_pattern 144 = .ok (.iload 4, 2) := by decide +kernel
theorem dX3_pattern_146 : decode cX3_pattern 146 = .ok (.iconst 4, 1) := by decide +kernel
theorem dX3_pattern_147 : decode cX3_pattern 147 = .ok (.irem, 1) := by decide +kernel
theorem dX3_pattern_148 : decode cX3_pattern 148 = .ok (.iload 4, 2) := by decide +kernel
theorem dX3_pattern_150 : decode cX3_pattern 150 = .ok (.iconst 3, 1) := by decide +kernel
theorem dX3_pattern_151 : decode cX3_pattern 151 = .ok (.if_icmp .le 7, 3) := by decide +kernel
theorem dX3_pattern_154 : decode cX3_pattern 154 = .ok (.iconst 1, 1) := by decide +kernel
theorem dX3_pattern_155 : decode cX3_pattern 155 = .ok (.goto 4, 3) := by decide +kernel
theorem dX3_pattern_158 : decode cX3_pattern 158 = .ok (.iconst 0, 1) := by decide +kernel
theorem dX3_pattern_159 : decode cX3_pattern 159 = .ok (.invokevirtual 114, 3) := by decide +kernel
theorem dX3_pattern_162 : decode cX3_pattern 162 = .ok (.ifCond .eq 7, 3) := by decide +kernel
theorem dX3_pattern_165 : decode cX3_pattern 165 = .ok (.iload_n 3, 1) := by decide +kernel
theorem dX3_pattern_166 : decode cX3_pattern 166 = .ok (.goto 9, 3) := by decide +kernel
theorem dX3_pattern_169 : decode cX3_pattern 169 = .ok (.aload_n 0, 1) := by decide +kernel
theorem dX3_pattern_170 : decode cX3_pattern 170 = .ok (.getfield 41, 3) := by decide +kernel
theorem dX3_pattern_173 : decode cX3_pattern 173 = .ok (.iload_n 2, 1) := by decide +kernel
theorem dX3_pattern_174 : decode cX3_pattern 174 = .ok (.iaload, 1) := by decide +kernel
theorem dX3_pattern_175 : decode cX3_pattern 175 = .ok (.iastore, 1) := by decide +kernel
theorem dX3_pattern_176 : decode cX3_pattern 176 = .ok (.iinc 4 1, 3) := by decide +kernel
theorem dX3_pattern_179 : decode cX3_pattern 179 = .ok (.goto (-50), 3) := by decide +kernel
theorem dX3_pattern_182 : decode cX3_pattern 182 = .ok (.iinc 3 (-1), 3) := by decide +kernel
theorem dX3_pattern_185 : decode cX3_pattern 185 = .ok (.goto (-63), 3) := by decide +kernel
theorem dX3_pattern_188 : decode cX3_pattern 188 = .ok (.iload_n 2, 1) := by decide +kernel
theorem dX3_pattern_189 : decode cX3_pattern 189 = .ok (.ireturn, 1) := by decide +kernel
theorem dX3_patterns_0 : decode cX3_patterns 0 = .ok (.aload_n 0, 1) := by decide +kernel
theorem dX3_patterns_1 : decode cX3_patterns 1 = .ok (.iconst 0, 1) := by decide +kernel
theorem dX3_patterns_2 : decode cX3_patterns 2 = .ok (.putfield 81, 3) := by decide +kernel
theorem dX3_patterns_5 : decode cX3_patterns 5 = .ok (.aload_n 0, 1) := by decide +kernel
theorem dX3_patterns_6 : decode cX3_patterns 6 = .ok (.getfield 88, 3) := by decide +kernel
theorem dX3_patterns_9 : decode cX3_patterns 9 = .ok (.ireturn, 1) := by decide +kernel
set_option maxRecDepth 20000 in
theorem ggX3_asks_X3_isPattern : GoodIn wsX3_asks wsX3_isPattern := goodIn_r _ [6, 7, 8, 9, 5, 10, 11, 12, 13, 14, 15, 16, 17, 18, 19, 20, 21, 22, 23, 24, 25, 26, 27, 28, 29, 30, 31, 32, 33, 34, 35, 36] (by decide +kernel) (by decide +kernel)
set_option maxRecDepth 20000 in
theorem gX3_asks_X3_isPattern : GoodIn wsX3_asks (wsV RX3 118 RX3 yX3_isPattern wsX3_isPattern) := goodIn_app (goodIn_of _ (by decide +kernel)) ggX3_asks_X3_isPattern
theorem dX3_asks_0 : decode cX3_asks 0 = .ok (.aload_n 0, 1) := by decide +kernel
theorem dX3_asks_1 : decode cX3_asks 1 = .ok (.aload_n 0, 1) := by decide +kernel
theorem dX3_asks_2 : decode cX3_asks 2 = .ok (.iload_n 1, 1) := by decide +kernel
theorem dX3_asks_3 : decode cX3_asks 3 = .ok (.invokevirtual 118, 3) := by decide +kernel
theorem dX3_asks_6 : decode cX3_asks 6 = .ok (.ifCond .eq 7, 3) := by decide +kernel
theorem dX3_asks_9 : decode cX3_asks 9 = .ok (.iconst 0, 1) := by decide +kernel
theorem dX3_asks_10 : decode cX3_asks 10 = .ok (.goto 4, 3) := by decide +kernel
theorem dX3_asks_13 : decode cX3_asks 13 = .ok (.iconst 1, 1) := by decide +kernel
theorem dX3_asks_14 : decode cX3_asks 14 = .ok (.putfield 81, 3) := by decide +kernel
theorem dX3_asks_17 : decode cX3_asks 17 = .ok (.aload_n 0, 1) := by decide +kernel
theorem dX3_asks_18 : decode cX3_asks 18 = .ok (.getfield 81, 3) := by decide +kernel
theorem dX3_asks_21 : decode cX3_asks 21 = .ok (.ifCond .ne 7, 3) := by decide +kernel
theorem dX3_asks_24 : decode cX3_asks 24 = .ok (.iconst 1, 1) := by decide +kernel
theorem dX3_asks_25 : decode cX3_asks 25 = .ok (.goto 4, 3) := by decide +kernel
theorem dX3_asks_28 : decode cX3_asks 28 = .ok (.iconst 0, 1) := by decide +kernel
theorem dX3_asks_29 : decode cX3_asks 29 = .ok (.ireturn, 1) := by decide +kernel
set_option maxRecDepth 20000 in
theorem ggX3_symmetries_X3_asks : GoodIn wsX3_symmetries wsX3_asks := goodIn_r _ [5, 6, 7, 8, 9, 4, 10, 11, 12, 13, 14, 30, 31, 32, 33, 34, 35, 36, 37, 38, 39, 40, 41, 42, 43, 44, 45, 46, 47, 48, 49, 50, 51, 52, 53, 54, 55] (by decide +kernel) (by decide +kernel)
set_option maxRecDepth 20000 in
theorem gX3_symmetries_X3_asks : GoodIn wsX3_symmetries (wsV RX3 121 RX3 yX3_asks wsX3_asks) := goodIn_app (goodIn_of _ (by decide +kernel)) ggX3_symmetries_X3_asks
set_option maxRecDepth 20000 in
theorem ggX3_symmetries_X3_isImage : GoodIn wsX3_symmetries wsX3_isImage := goodIn_r _ [18, 19, 20, 21, 22, 23, 4, 24, 25, 26, 27, 28, 29, 30, 31, 32, 33, 34, 35, 36, 37, 38, 39, 40, 41, 42, 43, 44, 45, 46, 47, 48, 49, 50, 51, 52, 53, 54, 55] (by decide +kernel) (by decide +kernel)
set_option maxRecDepth 20000 in
theorem gX3_symmetries_X3_isImage : GoodIn wsX3_symmetries (wsV RX3 114 RX3 yX3_isImage wsX3_isImage) := goodIn_app (goodIn_of _ (by decide +kernel)) ggX3_symmetries_X3_isImage
theorem dX3_symmetries_0 : decode cX3_symmetries 0 = .ok (.aload_n 0, 1) := by decide +kernel
theorem dX3_symmetries_1 : decode cX3_symmetries 1 = .ok (.iload_n 1, 1) := by decide +kernel
theorem dX3_symmetries_2 : decode cX3_symmetries 2 = .ok (.invokevirtual 121, 3) := by decide +kernel
theorem dX3_symmetries_5 : decode cX3_symmetries 5 = .ok (.ifCond .ne 5, 3) := by decide +kernel
theorem dX3_symmetries_8 : decode cX3_symmetries 8 = .ok (.iconst 0, 1) := by decide +kernel
theorem dX3_symmetries_9 : decode cX3_symmetries 9 = .ok (.ireturn, 1) := by decide +kernel
theorem dX3_symmetries_10 : decode cX3_symmetries 10 = .ok (.aload_n 0, 1) := by decide +kernel
theorem dX3_symmetries_11 : decode cX3_symmetries 11 = .ok (.iload_n 1, 1) := by decide +kernel
theorem dX3_symmetries_12 : decode cX3_symmetries 12 = .ok (.iload_n 1, 1) := by decide +kernel
theorem dX3_symmetries_13 : decode cX3_symmetries 13 = .ok (.iconst 0, 1) := by decide +kernel
theorem dX3_symmetries_14 : decode cX3_symmetries 14 = .ok (.iconst 1, 1) := by decide +kernel
theorem dX3_symmetries_15 : decode cX3_symmetries 15 = .ok (.invokevirtual 114, 3) := by decide +kernel
theorem dX3_symmetries_18 : decode cX3_symmetries 18 = .ok (.ifCond .eq 7, 3) := by decide +kernel
theorem dX3_symmetries_21 : decode cX3_symmetries 21 = .ok (.iconst 1, 1) := by decide +kernel
theorem dX3_symmetries_22 : decode cX3_symmetries 22 = .ok (.goto 4, 3) := by decide +kernel
theorem dX3_symmetries_25 : decode cX3_symmetries 25 = .ok (.iconst 0, 1) := by decide +kernel
theorem dX3_symmetries_26 : decode cX3_symmetries 26 = .ok (.istore_n 2, 1) := by decide +kernel
theorem dX3_symmetries_27 : decode cX3_symmetries 27 = .ok (.iload_n 2, 1) := by decide +kernel
theorem dX3_symmetries_28 : decode cX3_symmetries 28 = .ok (.aload_n 0, 1) := by decide +kernel
theorem dX3_symmetries_29 : decode cX3_symmetries 29 = .ok (.iload_n 1, 1) := by decide +kernel
theorem dX3_symmetries_30 : decode cX3_symmetries 30 = .ok (.iload_n 1, 1) := by decide +kernel
theorem dX3_symmetries_31 : decode cX3_symmetries 31 = .ok (.iconst 2, 1) := by decide +kernel
theorem dX3_symmetries_32 : decode cX3_symmetries 32 = .ok (.iconst 1, 1) := by decide +kernel
theorem dX3_symmetries_33 : decode cX3_symmetries 33 = .ok (.invokevirtual 114, 3) := by decide +kernel
theorem dX3_symmetries_36 : decode cX3_symmetries 36 = .ok (.ifCond .eq 7, 3) := by decide +kernel
theorem dX3_symmetries_39 : decode cX3_symmetries 39 = .ok (.iconst 2, 1) := by decide +kernel
theorem dX3_symmetries_40 : decode cX3_symmetries 40 = .ok (.goto 4, 3) := by decide +kernel
theorem dX3_symmetries_43 : decode cX3_symmetries 43 = .ok (.iconst 0, 1) := by decide +kernel
theorem dX3_symmetries_44 : decode cX3_symmetries 44 = .ok (.iadd, 1) := by decide +kernel
theorem dX3_symmetries_45 : decode cX3_symmetries 45 = .ok (.istore_n 2, 1) := by decide +kernel
theorem dX3_symmetries_46 : decode cX3_symmetries 46 = .ok (.iload_n 2, 1) := by decide +kernel
theorem dX3_symmetries_47 : decode cX3_symmetries 47 = .ok (.aload_n 0, 1) := by decide +kernel
theorem dX3_symmetries_48 : decode cX3_symmetries 48 = .ok (.iload_n 1, 1) := by decide +kernel
theorem dX3_symmetries_49 : decode cX3_symmetries 49 = .ok (.iload_n 1, 1) := by decide +kernel
theorem dX3_symmetries_50 : decode cX3_symmetries 50 = .ok (.iconst 2, 1) := by decide +kernel
theorem dX3_symmetries_51 : decode cX3_symmetries 51 = .ok (.iconst 0, 1) := by decide +kernel
theorem dX3_symmetries_52 : decode cX3_symmetries 52 = .ok (.invokevirtual 114, 3) := by decide +kernel
theorem dX3_symmetries_55 : decode cX3_symmetries 55 = .ok (.ifCond .eq 7, 3) := by decide +kernel
theorem dX3_symmetries_58 : decode cX3_symmetries 58 = .ok (.iconst 4, 1) := by decide +kernel
theorem dX3_symmetries_59 : decode cX3_symmetries 59 = .ok (.goto 4, 3) := by decide +kernel
theorem dX3_symmetries_62 : decode cX3_symmetries 62 = .ok (.iconst 0, 1) := by decide +kernel
theorem dX3_symmetries_63 : decode cX3_symmetries 63 = .ok (.iadd, 1) := by decide +kernel
theorem dX3_symmetries_64 : decode cX3_symmetries 64 = .ok (.istore_n 2, 1) := by decide +kernel
theorem dX3_symmetries_65 : decode cX3_symmetries 65 = .ok (.iload_n 2, 1) := by decide +kernel
theorem dX3_symmetries_66 : decode cX3_symmetries 66 = .ok (.aload_n 0, 1) := by decide +kernel
theorem dX3_symmetries_67 : decode cX3_symmetries 67 = .ok (.iload_n 1, 1) := by decide +kernel
theorem dX3_symmetries_68 : decode cX3_symmetries 68 = .ok (.iload_n 1, 1) := by decide +kernel
theorem dX3_symmetries_69 : decode cX3_symmetries 69 = .ok (.iconst 1, 1) := by decide +kernel
theorem dX3_symmetries_70 : decode cX3_symmetries 70 = .ok (.iconst 0, 1) := by decide +kernel
theorem dX3_symmetries_71 : decode cX3_symmetries 71 = .ok (.invokevirtual 114, 3) := by decide +kernel
theorem dX3_symmetries_74 : decode cX3_symmetries 74 = .ok (.ifCond .eq 8, 3) := by decide +kernel
theorem dX3_symmetries_77 : decode cX3_symmetries 77 = .ok (.bipush 8, 2) := by decide +kernel
theorem dX3_symmetries_79 : decode cX3_symmetries 79 = .ok (.goto 4, 3) := by decide +kernel
theorem dX3_symmetries_82 : decode cX3_symmetries 82 = .ok (.iconst 0, 1) := by decide +kernel
theorem dX3_symmetries_83 : decode cX3_symmetries 83 = .ok (.iadd, 1) := by decide +kernel
theorem dX3_symmetries_84 : decode cX3_symmetries 84 = .ok (.ireturn, 1) := by decide +kernel
set_option maxRecDepth 20000 in
theorem ggX3_origin_X3_asks : GoodIn wsX3_origin wsX3_asks := goodIn_r _ [6, 7, 8, 9, 10, 5, 11, 12, 13, 14, 15, 16, 17, 18, 19, 20, 21, 22, 23, 24, 25, 26, 27, 28, 29, 30, 31, 32, 33, 34, 35, 36, 37, 38, 39, 40, 41] (by decide +kernel) (by decide +kernel)
set_option maxRecDepth 20000 in
theorem gX3_origin_X3_asks : GoodIn wsX3_origin (wsV RX3 121 RX3 yX3_asks wsX3_asks) := goodIn_app (goodIn_of _ (by decide +kernel)) ggX3_origin_X3_asks
theorem dX3_origin_0 : decode cX3_origin 0 = .ok (.aload_n 0, 1) := by decide +kernel
theorem dX3_origin_1 : decode cX3_origin 1 = .ok (.iload_n 1, 1) := by decide +kernel
theorem dX3_origin_2 : decode cX3_origin 2 = .ok (.invokevirtual 121, 3) := by decide +kernel
theorem dX3_origin_5 : decode cX3_origin 5 = .ok (.ifCond .eq 12, 3) := by decide +kernel
theorem dX3_origin_8 : decode cX3_origin 8 = .ok (.aload_n 0, 1) := by decide +kernel
theorem dX3_origin_9 : decode cX3_origin 9 = .ok (.getfield 41, 3) := by decide +kernel
theorem dX3_origin_12 : decode cX3_origin 12 = .ok (.iload_n 1, 1) := by decide +kernel
theorem dX3_origin_13 : decode cX3_origin 13 = .ok (.iaload, 1) := by decide +kernel
theorem dX3_origin_14 : decode cX3_origin 14 = .ok (.goto 4, 3) := by decide +kernel
theorem dX3_origin_17 : decode cX3_origin 17 = .ok (.iconst 0, 1) := by decide +kernel
theorem dX3_origin_18 : decode cX3_origin 18 = .ok (.ireturn, 1) := by decide +kernel
set_option maxRecDepth 20000 in
theorem ggX3_needs_X3_isPattern : GoodIn wsX3_needs wsX3_isPattern := goodIn_r _ [6, 7, 8, 9, 5, 10, 25, 26, 27, 28, 29, 30, 31, 32, 33, 34, 35, 36, 37, 38, 39, 40, 41, 42, 43, 44, 45, 46, 47, 48, 49, 50] (by decide +kernel) (by decide +kernel)
set_option maxRecDepth 20000 in
theorem gX3_needs_X3_isPattern : GoodIn wsX3_needs (wsV RX3 118 RX3 yX3_isPattern wsX3_isPattern) := goodIn_app (goodIn_of _ (by decide +kernel)) ggX3_needs_X3_isPattern
set_option maxRecDepth 20000 in
theorem ggX3_needs_X3_isColour : GoodIn wsX3_needs wsX3_isColour := goodIn_r _ [13, 8, 9, 5, 10] (by decide +kernel) (by decide +kernel)
set_option maxRecDepth 20000 in
theorem gX3_needs_X3_isColour : GoodIn wsX3_needs (va_wsS RX3 95 yX3_isColour wsX3_isColour) := goodIn_app (goodIn_of _ (by decide +kernel)) ggX3_needs_X3_isColour
set_option maxRecDepth 20000 in
theorem ggX3_needs_X3_needsOf : GoodIn wsX3_needs wsX3_needsOf := goodIn_r _ [17, 18, 19, 20, 21, 22, 5, 23, 24, 25, 26, 27, 28, 29, 30, 31, 32, 33, 34, 35, 36, 37, 38, 39, 40, 41, 42, 43, 44, 45, 46, 47, 48, 49, 50] (by decide +kernel) (by decide +kernel)
set_option maxRecDepth 20000 in
theorem gX3_needs_X3_needsOf : GoodIn wsX3_needs (wsV RX3 106 RX3 yX3_needsOf wsX3_needsOf) := goodIn_app (goodIn_of _ (by decide +kernel)) ggX3_needs_X3_needsOf
theorem dX3_needs_0 : decode cX3_needs 0 = .ok (.aload_n 0, 1) := by decide +kernel
theorem dX3_needs_1 : decode cX3_needs 1 = .ok (.aload_n 0, 1) := by decide +kernel
theorem dX3_needs_2 : decode cX3_needs 2 = .ok (.iload_n 1, 1) := by decide +kernel
theorem dX3_needs_3 : decode cX3_needs 3 = .ok (.invokevirtual 118, 3) := by decide +kernel
theorem dX3_needs_6 : decode cX3_needs 6 = .ok (.ifCond .eq 14, 3) := by decide +kernel
theorem dX3_needs_9 : decode cX3_needs 9 = .ok (.iload_n 2, 1) := by decide +kernel
theorem dX3_needs_10 : decode cX3_needs 10 = .ok (.invokestatic 95, 3) := by decide +kernel
theorem dX3_needs_13 : decode cX3_needs 13 = .ok (.ifCond .eq 7, 3) := by decide +kernel
theorem dX3_needs_16 : decode cX3_needs 16 = .ok (.iconst 0, 1) := by decide +kernel
theorem dX3_needs_17 : decode cX3_needs 17 = .ok (.goto 4, 3) := by decide +kernel
theorem dX3_needs_20 : decode cX3_needs 20 = .ok (.iconst 1, 1) := by decide +kernel
theorem dX3_needs_21 : decode cX3_needs 21 = .ok (.putfield 81, 3) := by decide +kernel
theorem dX3_needs_24 : decode cX3_needs 24 = .ok (.aload_n 0, 1) := by decide +kernel
theorem dX3_needs_25 : decode cX3_needs 25 = .ok (.getfield 81, 3) := by decide +kernel
theorem dX3_needs_28 : decode cX3_needs 28 = .ok (.ifCond .le 7, 3) := by decide +kernel
theorem dX3_needs_31 : decode cX3_needs 31 = .ok (.iconst 0, 1) := by decide +kernel
theorem dX3_needs_32 : decode cX3_needs 32 = .ok (.goto 9, 3) := by decide +kernel
theorem dX3_needs_35 : decode cX3_needs 35 = .ok (.aload_n 0, 1) := by decide +kernel
theorem dX3_needs_36 : decode cX3_needs 36 = .ok (.iload_n 1, 1) := by decide +kernel
theorem dX3_needs_37 : decode cX3_needs 37 = .ok (.iload_n 2, 1) := by decide +kernel
theorem dX3_needs_38 : decode cX3_needs 38 = .ok (.invokevirtual 106, 3) := by decide +kernel
theorem dX3_needs_41 : decode cX3_needs 41 = .ok (.ireturn, 1) := by decide +kernel
theorem dX3_freeBelt_0 : decode cX3_freeBelt 0 = .ok (.iconst 0, 1) := by decide +kernel
theorem dX3_freeBelt_1 : decode cX3_freeBelt 1 = .ok (.istore_n 1, 1) := by decide +kernel
theorem dX3_freeBelt_2 : decode cX3_freeBelt 2 = .ok (.iload_n 1, 1) := by decide +kernel
theorem dX3_freeBelt_3 : decode cX3_freeBelt 3 = .ok (.bipush 20, 2) := by decide +kernel
theorem dX3_freeBelt_5 : decode cX3_freeBelt 5 = .ok (.if_icmp .ge 19, 3) := by decide +kernel
theorem dX3_freeBelt_8 : decode cX3_freeBelt 8 = .ok (.aload_n 0, 1) := by decide +kernel
theorem dX3_freeBelt_9 : decode cX3_freeBelt 9 = .ok (.getfield 44, 3) := by decide +kernel
theorem dX3_freeBelt_12 : decode cX3_freeBelt 12 = .ok (.iload_n 1, 1) := by decide +kernel
theorem dX3_freeBelt_13 : decode cX3_freeBelt 13 = .ok (.iaload, 1) := by decide +kernel
theorem dX3_freeBelt_14 : decode cX3_freeBelt 14 = .ok (.iconst (-1), 1) := by decide +kernel
theorem dX3_freeBelt_15 : decode cX3_freeBelt 15 = .ok (.if_icmp .eq 9, 3) := by decide +kernel
theorem dX3_freeBelt_18 : decode cX3_freeBelt 18 = .ok (.iinc 1 1, 3) := by decide +kernel
theorem dX3_freeBelt_21 : decode cX3_freeBelt 21 = .ok (.goto (-19), 3) := by decide +kernel
theorem dX3_freeBelt_24 : decode cX3_freeBelt 24 = .ok (.iload_n 1, 1) := by decide +kernel
theorem dX3_freeBelt_25 : decode cX3_freeBelt 25 = .ok (.ireturn, 1) := by decide +kernel
set_option maxRecDepth 20000 in
theorem ggX3_weave_X3_isPerson : GoodIn wsX3_weave wsX3_isPerson := goodIn_r _ [11, 12, 13, 10, 14] (by decide +kernel) (by decide +kernel)
set_option maxRecDepth 20000 in
theorem gX3_weave_X3_isPerson : GoodIn wsX3_weave (va_wsS RX3 91 yX3_isPerson wsX3_isPerson) := goodIn_app (goodIn_of _ (by decide +kernel)) ggX3_weave_X3_isPerson
set_option maxRecDepth 20000 in
theorem ggX3_weave_X3_isPattern : GoodIn wsX3_weave wsX3_isPattern := goodIn_r _ [18, 19, 12, 13, 10, 14, 35, 36, 37, 38, 39, 40, 41, 42, 43, 44, 45, 46, 47, 48, 49, 50, 51, 52, 53, 54, 55, 56, 57, 58, 59, 60] (by decide +kernel) (by decide +kernel)
set_option maxRecDepth 20000 in
theorem gX3_weave_X3_isPattern : GoodIn wsX3_weave (wsV RX3 118 RX3 yX3_isPattern wsX3_isPattern) := goodIn_app (goodIn_of _ (by decide +kernel)) ggX3_weave_X3_isPattern
set_option maxRecDepth 20000 in
theorem ggX3_weave_X3_freeBelt : GoodIn wsX3_weave wsX3_freeBelt := goodIn_r _ [23, 3, 35, 36, 37, 38, 39, 40, 41, 42, 43, 44, 45, 46, 47, 48, 49, 50, 51, 52, 53, 54, 55, 56, 57, 58, 59, 60] (by decide +kernel) (by decide +kernel)
set_option maxRecDepth 20000 in
theorem gX3_weave_X3_freeBelt : GoodIn wsX3_weave (wsV RX3 124 RX3 yX3_freeBelt wsX3_freeBelt) := goodIn_app (goodIn_of _ (by decide +kernel)) ggX3_weave_X3_freeBelt
set_option maxRecDepth 20000 in
theorem ggX3_weave_X3_needsOf : GoodIn wsX3_weave wsX3_needsOf := goodIn_r _ [27, 28, 29, 30, 31, 32, 10, 33, 34, 35, 36, 37, 38, 39, 40, 41, 42, 43, 44, 45, 46, 47, 48, 49, 50, 51, 52, 53, 54, 55, 56, 57, 58, 59, 60] (by decide +kernel) (by decide +kernel)
set_option maxRecDepth 20000 in
theorem gX3_weave_X3_needsOf : GoodIn wsX3_weave (wsV RX3 106 RX3 yX3_needsOf wsX3_needsOf) := goodIn_app (goodIn_of _ (by decide +kernel)) ggX3_weave_X3_needsOf
theorem dX3_weave_0 : decode cX3_weave 0 = .ok (.aload_n 0, 1) := by decide +kernel
theorem dX3_weave_1 : decode cX3_weave 1 = .ok (.iload_n 1, 1) := by decide +kernel
theorem dX3_weave_2 : decode cX3_weave 2 = .ok (.invokestatic 91, 3) := by decide +kernel
theorem dX3_weave_5 : decode cX3_weave 5 = .ok (.ifCond .eq 15, 3) := by decide +kernel
theorem dX3_weave_8 : decode cX3_weave 8 = .ok (.aload_n 0, 1) := by decide +kernel
theorem dX3_weave_9 : decode cX3_weave 9 = .ok (.iload_n 2, 1) := by decide +kernel
theorem dX3_weave_10 : decode cX3_weave 10 = .ok (.invokevirtual 118, 3) := by decide +kernel
theorem dX3_weave_13 : decode cX3_weave 13 = .ok (.ifCond .eq 7, 3) := by decide +kernel
theorem dX3_weave_16 : decode cX3_weave 16 = .ok (.iconst 0, 1) := by decide +kernel
theorem dX3_weave_17 : decode cX3_weave 17 = .ok (.goto 4, 3) := by decide +kernel
theorem dX3_weave_20 : decode cX3_weave 20 = .ok (.iconst 1, 1) := by decide +kernel
theorem dX3_weave_21 : decode cX3_weave 21 = .ok (.putfield 81, 3) := by decide +kernel
theorem dX3_weave_24 : decode cX3_weave 24 = .ok (.aload_n 0, 1) := by decide +kernel
theorem dX3_weave_25 : decode cX3_weave 25 = .ok (.getfield 81, 3) := by decide +kernel
theorem dX3_weave_28 : decode cX3_weave 28 = .ok (.ifCond .le 5, 3) := by decide +kernel
theorem dX3_weave_31 : decode cX3_weave 31 = .ok (.iconst 0, 1) := by decide +kernel
theorem dX3_weave_32 : decode cX3_weave 32 = .ok (.ireturn, 1) := by decide +kernel
theorem dX3_weave_33 : decode cX3_weave 33 = .ok (.aload_n 0, 1) := by decide +kernel
theorem dX3_weave_34 : decode cX3_weave 34 = .ok (.invokevirtual 124, 3) := by decide +kernel
theorem dX3_weave_37 : decode cX3_weave 37 = .ok (.bipush 20, 2) := by decide +kernel
theorem dX3_weave_39 : decode cX3_weave 39 = .ok (.if_icmp .ge 7, 3) := by decide +kernel
theorem dX3_weave_42 : decode cX3_weave 42 = .ok (.iconst 1, 1) := by decide +kernel
theorem dX3_weave_43 : decode cX3_weave 43 = .ok (.goto 4, 3) := by decide +kernel
theorem dX3_weave_46 : decode cX3_weave 46 = .ok (.iconst 0, 1) := by decide +kernel
theorem dX3_weave_47 : decode cX3_weave 47 = .ok (.istore_n 3, 1) := by decide +kernel
theorem dX3_weave_48 : decode cX3_weave 48 = .ok (.iconst 0, 1) := by decide +kernel
theorem dX3_weave_49 : decode cX3_weave 49 = .ok (.istore 4, 2) := by decide +kernel
theorem dX3_weave_51 : decode cX3_weave 51 = .ok (.iload 4, 2) := by decide +kernel
theorem dX3_weave_53 : decode cX3_weave 53 = .ok (.bipush 8, 2) := by decide +kernel
theorem dX3_weave_55 : decode cX3_weave 55 = .ok (.if_icmp .ge 41, 3) := by decide +kernel
theorem dX3_weave_58 : decode cX3_weave 58 = .ok (.iload_n 3, 1) := by decide +kernel
theorem dX3_weave_59 : decode cX3_weave 59 = .ok (.ifCond .eq 29, 3) := by decide +kernel
theorem dX3_weave_62 : decode cX3_weave 62 = .ok (.aload_n 0, 1) := by decide +kernel
theorem dX3_weave_63 : decode cX3_weave 63 = .ok (.getfield 7, 3) := by decide +kernel
theorem dX3_weave_66 : decode cX3_weave 66 = .ok (.bipush 8, 2) := by decide +kernel
theorem dX3_weave_68 : decode cX3_weave 68 = .ok (.iload_n 1, 1) := by decide +kernel
theorem dX3_weave_69 : decode cX3_weave 69 = .ok (.imul, 1) := by decide +kernel
theorem dX3_weave_70 : decode cX3_weave 70 = .ok (.iload 4, 2) := by decide +kernel
theorem dX3_weave_72 : decode cX3_weave 72 = .ok (.iadd, 1) := by decide +kernel
theorem dX3_weave_73 : decode cX3_weave 73 = .ok (.iaload, 1) := by decide +kernel
theorem dX3_weave_74 : decode cX3_weave 74 = .ok (.aload_n 0, 1) := by decide +kernel
theorem dX3_weave_75 : decode cX3_weave 75 = .ok (.iload_n 2, 1) := by decide +kernel
theorem dX3_weave_76 : decode cX3_weave 76 = .ok (.iload 4, 2) := by decide +kernel
theorem dX3_weave_78 : decode cX3_weave 78 = .ok (.invokevirtual 106, 3) := by decide +kernel
theorem dX3_weave_81 : decode cX3_weave 81 = .ok (.if_icmp .lt 7, 3) := by decide +kernel
theorem dX3_weave_84 : decode cX3_weave 84 = .ok (.iconst 1, 1) := by decide +kernel
theorem dX3_weave_85 : decode cX3_weave 85 = .ok (.goto 4, 3) := by decide +kernel
theorem dX3_weave_88 : decode cX3_weave 88 = .ok (.iconst 0, 1) := by decide +kernel
theorem dX3_weave_89 : decode cX3_weave 89 = .ok (.istore_n 3, 1) := by decide +kernel
theorem dX3_weave_90 : decode cX3_weave 90 = .ok (.iinc 4 1, 3) := by decide +kernel
theorem dX3_weave_93 : decode cX3_weave 93 = .ok (.goto (-42), 3) := by decide +kernel
theorem dX3_weave_96 : decode cX3_weave 96 = .ok (.aload_n 0, 1) := by decide +kernel
theorem dX3_weave_97 : decode cX3_weave 97 = .ok (.iload_n 3, 1) := by decide +kernel
theorem dX3_weave_98 : decode cX3_weave 98 = .ok (.ifCond .eq 7, 3) := by decide +kernel
theorem dX3_weave_101 : decode cX3_weave 101 = .ok (.iconst 0, 1) := by decide +kernel
theorem dX3_weave_102 : decode cX3_weave 102 = .ok (.goto 4, 3) := by decide +kernel
theorem dX3_weave_105 : decode cX3_weave 105 = .ok (.iconst 2, 1) := by decide +kernel
theorem dX3_weave_106 : decode cX3_weave 106 = .ok (.putfield 81, 3) := by decide +kernel
theorem dX3_weave_109 : decode cX3_weave 109 = .ok (.aload_n 0, 1) := by decide +kernel
theorem dX3_weave_110 : decode cX3_weave 110 = .ok (.getfield 81, 3) := by decide +kernel
theorem dX3_weave_113 : decode cX3_weave 113 = .ok (.ifCond .le 5, 3) := by decide +kernel
theorem dX3_weave_116 : decode cX3_weave 116 = .ok (.iconst 0, 1) := by decide +kernel
theorem dX3_weave_117 : decode cX3_weave 117 = .ok (.ireturn, 1) := by decide +kernel
theorem dX3_weave_118 : decode cX3_weave 118 = .ok (.aload_n 0, 1) := by decide +kernel
theorem dX3_weave_119 : decode cX3_weave 119 = .ok (.invokevirtual 124, 3) := by decide +kernel
theorem dX3_weave_122 : decode cX3_weave 122 = .ok (.istore 4, 2) := by decide +kernel
theorem dX3_weave_124 : decode cX3_weave 124 = .ok (.aload_n 0, 1) := by decide +kernel
theorem dX3_weave_125 : decode cX3_weave 125 = .ok (.getfield 44, 3) := by decide +kernel
theorem dX3_weave_128 : decode cX3_weave 128 = .ok (.iload 4, 2) := by decide +kernel
theorem dX3_weave_130 : decode cX3_weave 130 = .ok (.iload_n 2, 1) := by decide +kernel
theorem dX3_weave_131 : decode cX3_weave 131 = .ok (.iastore, 1) := by decide +kernel
theorem dX3_weave_132 : decode cX3_weave 132 = .ok (.aload_n 0, 1) := by decide +kernel
theorem dX3_weave_133 : decode cX3_weave 133 = .ok (.getfield 47, 3) := by decide +kernel
theorem dX3_weave_136 : decode cX3_weave 136 = .ok (.iload 4, 2) := by decide +kernel
theorem dX3_weave_138 : decode cX3_weave 138 = .ok (.iload_n 1, 1) := by decide +kernel
theorem dX3_weave_139 : decode cX3_weave 139 = .ok (.iastore, 1) := by decide +kernel
theorem dX3_weave_140 : decode cX3_weave 140 = .ok (.iconst 0, 1) := by decide +kernel
theorem dX3_weave_141 : decode cX3_weave 141 = .ok (.istore 5, 2) := by decide +kernel
theorem dX3_weave_143 : decode cX3_weave 143 = .ok (.iload 5, 2) := by decide +kernel
theorem dX3_weave_145 : decode cX3_weave 145 = .ok (.bipush 8, 2) := by decide +kernel
theorem dX3_weave_147 : decode cX3_weave 147 = .ok (.if_icmp .ge 31, 3) := by decide +kernel
theorem dX3_weave_150 : decode cX3_weave 150 = .ok (.aload_n 0, 1) := by decide +kernel
theorem dX3_weave_151 : decode cX3_weave 151 = .ok (.getfield 7, 3) := by decide +kernel
theorem dX3_weave_154 : decode cX3_weave 154 = .ok (.bipush 8, 2) := by decide +kernel
theorem dX3_weave_156 : decode cX3_weave 156 = .ok (.iload_n 1, 1) := by decide +kernel
theorem dX3_weave_157 : decode cX3_weave 157 = .ok (.imul, 1) := by decide +kernel
theorem dX3_weave_158 : decode cX3_weave 158 = .ok (.iload 5, 2) := by decide +kernel
theorem dX3_weave_160 : decode cX3_weave 160 = .ok (.iadd, 1) := by decide +kernel
theorem dX3_weave_161 : decode cX3_weave 161 = .ok (.dup2, 1) := by decide +kernel
theorem dX3_weave_162 : decode cX3_weave 162 = .ok (.iaload, 1) := by decide +kernel
theorem dX3_weave_163 : decode cX3_weave 163 = .ok (.aload_n 0, 1) := by decide +kernel
theorem dX3_weave_164 : decode cX3_weave 164 = .ok (.iload_n 2, 1) := by decide +kernel
theorem dX3_weave_165 : decode cX3_weave 165 = .ok (.iload 5, 2) := by decide +kernel
theorem dX3_weave_167 : decode cX3_weave 167 = .ok (.invokevirtual 106, 3) := by decide +kernel
theorem dX3_weave_170 : decode cX3_weave 170 = .ok (.isub, 1) := by decide +kernel
theorem dX3_weave_171 : decode cX3_weave 171 = .ok (.iastore, 1) := by decide +kernel
theorem dX3_weave_172 : decode cX3_weave 172 = .ok (.iinc 5 1, 3) := by decide +kernel
theorem dX3_weave_175 : decode cX3_weave 175 = .ok (.goto (-32), 3) := by decide +kernel
theorem dX3_weave_178 : decode cX3_weave 178 = .ok (.aload_n 0, 1) := by decide +kernel
theorem dX3_weave_179 : decode cX3_weave 179 = .ok (.getfield 50, 3) := by decide +kernel
theorem dX3_weave_182 : decode cX3_weave 182 = .ok (.aload_n 0, 1) := by decide +kernel
theorem dX3_weave_183 : decode cX3_weave 183 = .ok (.getfield 38, 3) := by decide +kernel
theorem dX3_weave_186 : decode cX3_weave 186 = .ok (.aload_n 0, 1) := by decide +kernel
theorem dX3_weave_187 : decode cX3_weave 187 = .ok (.getfield 41, 3) := by decide +kernel
theorem dX3_weave_190 : decode cX3_weave 190 = .ok (.iload_n 2, 1) := by decide +kernel
theorem dX3_weave_191 : decode cX3_weave 191 = .ok (.iaload, 1) := by decide +kernel
theorem dX3_weave_192 : decode cX3_weave 192 = .ok (.iaload, 1) := by decide +kernel
theorem dX3_weave_193 : decode cX3_weave 193 = .ok (.dup2, 1) := by decide +kernel
theorem dX3_weave_194 : decode cX3_weave 194 = .ok (.iaload, 1) := by decide +kernel
theorem dX3_weave_195 : decode cX3_weave 195 = .ok (.iconst 1, 1) := by decide +kernel
theorem dX3_weave_196 : decode cX3_weave 196 = .ok (.iadd, 1) := by decide +kernel
theorem dX3_weave_197 : decode cX3_weave 197 = .ok (.iastore, 1) := by decide +kernel
theorem dX3_weave_198 : decode cX3_weave 198 = .ok (.iload 4, 2) := by decide +kernel
theorem dX3_weave_200 : decode cX3_weave 200 = .ok (.ireturn, 1) := by decide +kernel
set_option maxRecDepth 20000 in
theorem ggX3_apart_X3_isBelt : GoodIn wsX3_apart wsX3_isBelt := goodIn_r _ [12, 2, 13, 14, 11, 15, 25, 26, 27, 28, 29, 30, 31, 32, 33, 34, 35, 36, 37, 38, 39, 40, 41, 42, 43, 44, 45, 46, 47, 48, 49, 50] (by decide +kernel) (by decide +kernel)
set_option maxRecDepth 20000 in
theorem gX3_apart_X3_isBelt : GoodIn wsX3_apart (wsV RX3 103 RX3 yX3_isBelt wsX3_isBelt) := goodIn_app (goodIn_of _ (by decide +kernel)) ggX3_apart_X3_isBelt
set_option maxRecDepth 20000 in
theorem ggX3_apart_X3_needsOf : GoodIn wsX3_apart wsX3_needsOf := goodIn_r _ [19, 6, 7, 20, 21, 22, 11, 23, 24, 25, 26, 27, 28, 29, 30, 31, 32, 33, 34, 35, 36, 37, 38, 39, 40, 41, 42, 43, 44, 45, 46, 47, 48, 49, 50] (by decide +kernel) (by decide +kernel)
set_option maxRecDepth 20000 in
theorem gX3_apart_X3_needsOf : GoodIn wsX3_apart (wsV RX3 106 RX3 yX3_needsOf wsX3_needsOf) := goodIn_app (goodIn_of _ (by decide +kernel)) ggX3_apart_X3_needsOf
theorem dX3_apart_0 : decode cX3_apart 0 = .ok (.aload_n 0, 1) := by decide +kernel
theorem dX3_apart_1 : decode cX3_apart 1 = .ok (.aload_n 0, 1) := by decide +kernel
theorem dX3_apart_2 : decode cX3_apart 2 = .ok (.iload_n 1, 1) := by decide +kernel
theorem dX3_apart_3 : decode cX3_apart 3 = .ok (.invokevirtual 103, 3) := by decide +kernel
theorem dX3_apart_6 : decode cX3_apart 6 = .ok (.ifCond .eq 7, 3) := by decide +kernel
theorem dX3_apart_9 : decode cX3_apart 9 = .ok (.iconst 0, 1) := by decide +kernel
theorem dX3_apart_10 : decode cX3_apart 10 = .ok (.goto 4, 3) := by decide +kernel
theorem dX3_apart_13 : decode cX3_apart 13 = .ok (.iconst 1, 1) := by decide +kernel
theorem dX3_apart_14 : decode cX3_apart 14 = .ok (.putfield 81, 3) := by decide +kernel
theorem dX3_apart_17 : decode cX3_apart 17 = .ok (.aload_n 0, 1) := by decide +kernel
theorem dX3_apart_18 : decode cX3_apart 18 = .ok (.getfield 81, 3) := by decide +kernel
theorem dX3_apart_21 : decode cX3_apart 21 = .ok (.ifCond .le 5, 3) := by decide +kernel
theorem dX3_apart_24 : decode cX3_apart 24 = .ok (.iconst 0, 1) := by decide +kernel
theorem dX3_apart_25 : decode cX3_apart 25 = .ok (.ireturn, 1) := by decide +kernel
theorem dX3_apart_26 : decode cX3_apart 26 = .ok (.aload_n 0, 1) := by decide +kernel
theorem dX3_apart_27 : decode cX3_apart 27 = .ok (.getfield 44, 3) := by decide +kernel
theorem dX3_apart_30 : decode cX3_apart 30 = .ok (.iload_n 1, 1) := by decide +kernel
theorem dX3_apart_31 : decode cX3_apart 31 = .ok (.iaload, 1) := by decide +kernel
theorem dX3_apart_32 : decode cX3_apart 32 = .ok (.istore_n 2, 1) := by decide +kernel
theorem dX3_apart_33 : decode cX3_apart 33 = .ok (.iconst 1, 1) := by decide +kernel
theorem dX3_apart_34 : decode cX3_apart 34 = .ok (.istore_n 3, 1) := by decide +kernel
theorem dX3_apart_35 : decode cX3_apart 35 = .ok (.iconst 0, 1) := by decide +kernel
theorem dX3_apart_36 : decode cX3_apart 36 = .ok (.istore 4, 2) := by decide +kernel
theorem dX3_apart_38 : decode cX3_apart 38 = .ok (.iload 4, 2) := by decide +kernel
theorem dX3_apart_40 : decode cX3_apart 40 = .ok (.bipush 8, 2) := by decide +kernel
theorem dX3_apart_42 : decode cX3_apart 42 = .ok (.if_icmp .ge 49, 3) := by decide +kernel
theorem dX3_apart_45 : decode cX3_apart 45 = .ok (.iload_n 3, 1) := by decide +kernel
theorem dX3_apart_46 : decode cX3_apart 46 = .ok (.ifCond .eq 37, 3) := by decide +kernel
theorem dX3_apart_49 : decode cX3_apart 49 = .ok (.aload_n 0, 1) := by decide +kernel
theorem dX3_apart_50 : decode cX3_apart 50 = .ok (.getfield 7, 3) := by decide +kernel
theorem dX3_apart_53 : decode cX3_apart 53 = .ok (.bipush 8, 2) := by decide +kernel
theorem dX3_apart_55 : decode cX3_apart 55 = .ok (.aload_n 0, 1) := by decide +kernel
theorem dX3_apart_56 : decode cX3_apart 56 = .ok (.getfield 47, 3) := by decide +kernel
theorem dX3_apart_59 : decode cX3_apart 59 = .ok (.iload_n 1, 1) := by decide +kernel
theorem dX3_apart_60 : decode cX3_apart 60 = .ok (.iaload, 1) := by decide +kernel
theorem dX3_apart_61 : decode cX3_apart 61 = .ok (.imul, 1) := by decide +kernel
theorem dX3_apart_62 : decode cX3_apart 62 = .ok (.iload 4, 2) := by decide +kernel
theorem dX3_apart_64 : decode cX3_apart 64 = .ok (.iadd, 1) := by decide +kernel
theorem dX3_apart_65 : decode cX3_apart 65 = .ok (.iaload, 1) := by decide +kernel
theorem dX3_apart_66 : decode cX3_apart 66 = .ok (.aload_n 0, 1) := by decide +kernel
theorem dX3_apart_67 : decode cX3_apart 67 = .ok (.iload_n 2, 1) := by decide +kernel
theorem dX3_apart_68 : decode cX3_apart 68 = .ok (.iload 4, 2) := by decide +kernel
theorem dX3_apart_70 : decode cX3_apart 70 = .ok (.invokevirtual 106, 3) := by decide +kernel
theorem dX3_apart_73 : decode cX3_apart 73 = .ok (.iadd, 1) := by decide +kernel
theorem dX3_apart_74 : decode cX3_apart 74 = .ok (.ldc 98, 2) := by decide +kernel
theorem dX3_apart_76 : decode cX3_apart 76 = .ok (.if_icmp .gt 7, 3) := by decide +kernel
theorem dX3_apart_79 : decode cX3_apart 79 = .ok (.iconst 1, 1) := by decide +kernel
theorem dX3_apart_80 : decode cX3_apart 80 = .ok (.goto 4, 3) := by decide +kernel
theorem dX3_apart_83 : decode cX3_apart 83 = .ok (.iconst 0, 1) := by decide +kernel
theorem dX3_apart_84 : decode cX3_apart 84 = .ok (.istore_n 3, 1) := by decide +kernel
theorem dX3_apart_85 : decode cX3_apart 85 = .ok (.iinc 4 1, 3) := by decide +kernel
theorem dX3_apart_88 : decode cX3_apart 88 = .ok (.goto (-50), 3) := by decide +kernel
theorem dX3_apart_91 : decode cX3_apart 91 = .ok (.aload_n 0, 1) := by decide +kernel
theorem dX3_apart_92 : decode cX3_apart 92 = .ok (.iload_n 3, 1) := by decide +kernel
theorem dX3_apart_93 : decode cX3_apart 93 = .ok (.ifCond .eq 7, 3) := by decide +kernel
theorem dX3_apart_96 : decode cX3_apart 96 = .ok (.iconst 0, 1) := by decide +kernel
theorem dX3_apart_97 : decode cX3_apart 97 = .ok (.goto 4, 3) := by decide +kernel
theorem dX3_apart_100 : decode cX3_apart 100 = .ok (.iconst 2, 1) := by decide +kernel
theorem dX3_apart_101 : decode cX3_apart 101 = .ok (.putfield 81, 3) := by decide +kernel
theorem dX3_apart_104 : decode cX3_apart 104 = .ok (.aload_n 0, 1) := by decide +kernel
theorem dX3_apart_105 : decode cX3_apart 105 = .ok (.getfield 81, 3) := by decide +kernel
theorem dX3_apart_108 : decode cX3_apart 108 = .ok (.ifCond .le 5, 3) := by decide +kernel
theorem dX3_apart_111 : decode cX3_apart 111 = .ok (.iconst 0, 1) := by decide +kernel
theorem dX3_apart_112 : decode cX3_apart 112 = .ok (.ireturn, 1) := by decide +kernel
theorem dX3_apart_113 : decode cX3_apart 113 = .ok (.iconst 0, 1) := by decide +kernel
theorem dX3_apart_114 : decode cX3_apart 114 = .ok (.istore 4, 2) := by decide +kernel
theorem dX3_apart_116 : decode cX3_apart 116 = .ok (.iload 4, 2) := by decide +kernel
theorem dX3_apart_118 : decode cX3_apart 118 = .ok (.bipush 8, 2) := by decide +kernel
theorem dX3_apart_120 : decode cX3_apart 120 = .ok (.if_icmp .ge 36, 3) := by decide +kernel
theorem dX3_apart_123 : decode cX3_apart 123 = .ok (.aload_n 0, 1) := by decide +kernel
theorem dX3_apart_124 : decode cX3_apart 124 = .ok (.getfield 7, 3) := by decide +kernel
theorem dX3_apart_127 : decode cX3_apart 127 = .ok (.bipush 8, 2) := by decide +kernel
theorem dX3_apart_129 : decode cX3_apart 129 = .ok (.aload_n 0, 1) := by decide +kernel
theorem dX3_apart_130 : decode cX3_apart 130 = .ok (.getfield 47, 3) := by decide +kernel
theorem dX3_apart_133 : decode cX3_apart 133 = .ok (.iload_n 1, 1) := by decide +kernel
theorem dX3_apart_134 : decode cX3_apart 134 = .ok (.iaload, 1) := by decide +kernel
theorem dX3_apart_135 : decode cX3_apart 135 = .ok (.imul, 1) := by decide +kernel
theorem dX3_apart_136 : decode cX3_apart 136 = .ok (.iload 4, 2) := by decide +kernel
theorem dX3_apart_138 : decode cX3_apart 138 = .ok (.iadd, 1) := by decide +kernel
theorem dX3_apart_139 : decode cX3_apart 139 = .ok (.dup2, 1) := by decide +kernel
theorem dX3_apart_140 : decode cX3_apart 140 = .ok (.iaload, 1) := by decide +kernel
theorem dX3_apart_141 : decode cX3_apart 141 = .ok (.aload_n 0, 1) := by decide +kernel
theorem dX3_apart_142 : decode cX3_apart 142 = .ok (.iload_n 2, 1) := by decide +kernel
theorem dX3_apart_143 : decode cX3_apart 143 = .ok (.iload 4, 2) := by decide +kernel
theorem dX3_apart_145 : decode cX3_apart 145 = .ok (.invokevirtual 106, 3) := by decide +kernel
theorem dX3_apart_148 : decode cX3_apart 148 = .ok (.iadd, 1) := by decide +kernel
theorem dX3_apart_149 : decode cX3_apart 149 = .ok (.iastore, 1) := by decide +kernel
theorem dX3_apart_150 : decode cX3_apart 150 = .ok (.iinc 4 1, 3) := by decide +kernel
theorem dX3_apart_153 : decode cX3_apart 153 = .ok (.goto (-37), 3) := by decide +kernel
theorem dX3_apart_156 : decode cX3_apart 156 = .ok (.aload_n 0, 1) := by decide +kernel
theorem dX3_apart_157 : decode cX3_apart 157 = .ok (.getfield 44, 3) := by decide +kernel
theorem dX3_apart_160 : decode cX3_apart 160 = .ok (.iload_n 1, 1) := by decide +kernel
theorem dX3_apart_161 : decode cX3_apart 161 = .ok (.iconst (-1), 1) := by decide +kernel
theorem dX3_apart_162 : decode cX3_apart 162 = .ok (.iastore, 1) := by decide +kernel
theorem dX3_apart_163 : decode cX3_apart 163 = .ok (.aload_n 0, 1) := by decide +kernel
theorem dX3_apart_164 : decode cX3_apart 164 = .ok (.getfield 29, 3) := by decide +kernel
theorem dX3_apart_167 : decode cX3_apart 167 = .ok (.iload_n 2, 1) := by decide +kernel
theorem dX3_apart_168 : decode cX3_apart 168 = .ok (.iaload, 1) := by decide +kernel
theorem dX3_apart_169 : decode cX3_apart 169 = .ok (.aload_n 0, 1) := by decide +kernel
theorem dX3_apart_170 : decode cX3_apart 170 = .ok (.getfield 32, 3) := by decide +kernel
theorem dX3_apart_173 : decode cX3_apart 173 = .ok (.iload_n 2, 1) := by decide +kernel
theorem dX3_apart_174 : decode cX3_apart 174 = .ok (.iaload, 1) := by decide +kernel
theorem dX3_apart_175 : decode cX3_apart 175 = .ok (.imul, 1) := by decide +kernel
theorem dX3_apart_176 : decode cX3_apart 176 = .ok (.ireturn, 1) := by decide +kernel
set_option maxRecDepth 20000 in
theorem ggX3_give_X3_isBelt : GoodIn wsX3_give wsX3_isBelt := goodIn_r _ [7, 8, 9, 10, 6, 11, 15, 16, 17, 18, 19, 20, 21, 22, 23, 24, 25, 26, 27, 28, 29, 30, 31, 32, 33, 34, 35, 36, 37, 38, 39, 40] (by decide +kernel) (by decide +kernel)
set_option maxRecDepth 20000 in
theorem gX3_give_X3_isBelt : GoodIn wsX3_give (wsV RX3 103 RX3 yX3_isBelt wsX3_isBelt) := goodIn_app (goodIn_of _ (by decide +kernel)) ggX3_give_X3_isBelt
set_option maxRecDepth 20000 in
theorem ggX3_give_X3_isPerson : GoodIn wsX3_give wsX3_isPerson := goodIn_r _ [14, 9, 10, 6, 11] (by decide +kernel) (by decide +kernel)
set_option maxRecDepth 20000 in
theorem gX3_give_X3_isPerson : GoodIn wsX3_give (va_wsS RX3 91 yX3_isPerson wsX3_isPerson) := goodIn_app (goodIn_of _ (by decide +kernel)) ggX3_give_X3_isPerson
theorem dX3_give_0 : decode cX3_give 0 = .ok (.aload_n 0, 1) := by decide +kernel
theorem dX3_give_1 : decode cX3_give 1 = .ok (.aload_n 0, 1) := by decide +kernel
theorem dX3_give_2 : decode cX3_give 2 = .ok (.iload_n 1, 1) := by decide +kernel
theorem dX3_give_3 : decode cX3_give 3 = .ok (.invokevirtual 103, 3) := by decide +kernel
theorem dX3_give_6 : decode cX3_give 6 = .ok (.ifCond .eq 14, 3) := by decide +kernel
theorem dX3_give_9 : decode cX3_give 9 = .ok (.iload_n 2, 1) := by decide +kernel
theorem dX3_give_10 : decode cX3_give 10 = .ok (.invokestatic 91, 3) := by decide +kernel
theorem dX3_give_13 : decode cX3_give 13 = .ok (.ifCond .eq 7, 3) := by decide +kernel
theorem dX3_give_16 : decode cX3_give 16 = .ok (.iconst 0, 1) := by decide +kernel
theorem dX3_give_17 : decode cX3_give 17 = .ok (.goto 4, 3) := by decide +kernel
theorem dX3_give_20 : decode cX3_give 20 = .ok (.iconst 1, 1) := by decide +kernel
theorem dX3_give_21 : decode cX3_give 21 = .ok (.putfield 81, 3) := by decide +kernel
theorem dX3_give_24 : decode cX3_give 24 = .ok (.aload_n 0, 1) := by decide +kernel
theorem dX3_give_25 : decode cX3_give 25 = .ok (.getfield 81, 3) := by decide +kernel
theorem dX3_give_28 : decode cX3_give 28 = .ok (.ifCond .le 5, 3) := by decide +kernel
theorem dX3_give_31 : decode cX3_give 31 = .ok (.iconst 0, 1) := by decide +kernel
theorem dX3_give_32 : decode cX3_give 32 = .ok (.ireturn, 1) := by decide +kernel
theorem dX3_give_33 : decode cX3_give 33 = .ok (.aload_n 0, 1) := by decide +kernel
theorem dX3_give_34 : decode cX3_give 34 = .ok (.getfield 47, 3) := by decide +kernel
theorem dX3_give_37 : decode cX3_give 37 = .ok (.iload_n 1, 1) := by decide +kernel
theorem dX3_give_38 : decode cX3_give 38 = .ok (.iaload, 1) := by decide +kernel
theorem dX3_give_39 : decode cX3_give 39 = .ok (.istore_n 3, 1) := by decide +kernel
theorem dX3_give_40 : decode cX3_give 40 = .ok (.aload_n 0, 1) := by decide +kernel
theorem dX3_give_41 : decode cX3_give 41 = .ok (.getfield 47, 3) := by decide +kernel
theorem dX3_give_44 : decode cX3_give 44 = .ok (.iload_n 1, 1) := by decide +kernel
theorem dX3_give_45 : decode cX3_give 45 = .ok (.iload_n 2, 1) := by decide +kernel
theorem dX3_give_46 : decode cX3_give 46 = .ok (.iastore, 1) := by decide +kernel
theorem dX3_give_47 : decode cX3_give 47 = .ok (.iload_n 3, 1) := by decide +kernel
theorem dX3_give_48 : decode cX3_give 48 = .ok (.ireturn, 1) := by decide +kernel
set_option maxRecDepth 20000 in
theorem ggX3_owner_X3_isBelt : GoodIn wsX3_owner wsX3_isBelt := goodIn_r _ [7, 8, 9, 10, 6, 11, 12, 13, 14, 15, 16, 17, 18, 19, 20, 21, 22, 23, 24, 25, 26, 27, 28, 29, 30, 31, 32, 33, 34, 35, 36, 37] (by decide +kernel) (by decide +kernel)
set_option maxRecDepth 20000 in
theorem gX3_owner_X3_isBelt : GoodIn wsX3_owner (wsV RX3 103 RX3 yX3_isBelt wsX3_isBelt) := goodIn_app (goodIn_of _ (by decide +kernel)) ggX3_owner_X3_isBelt
theorem dX3_owner_0 : decode cX3_owner 0 = .ok (.aload_n 0, 1) := by decide +kernel
theorem dX3_owner_1 : decode cX3_owner 1 = .ok (.aload_n 0, 1) := by decide +kernel
theorem dX3_owner_2 : decode cX3_owner 2 = .ok (.iload_n 1, 1) := by decide +kernel
theorem dX3_owner_3 : decode cX3_owner 3 = .ok (.invokevirtual 103, 3) := by decide +kernel
theorem dX3_owner_6 : decode cX3_owner 6 = .ok (.ifCond .eq 7, 3) := by decide +kernel
theorem dX3_owner_9 : decode cX3_owner 9 = .ok (.iconst 0, 1) := by decide +kernel
theorem dX3_owner_10 : decode cX3_owner 10 = .ok (.goto 4, 3) := by decide +kernel
theorem dX3_owner_13 : decode cX3_owner 13 = .ok (.iconst 1, 1) := by decide +kernel
theorem dX3_owner_14 : decode cX3_owner 14 = .ok (.putfield 81, 3) := by decide +kernel
theorem dX3_owner_17 : decode cX3_owner 17 = .ok (.aload_n 0, 1) := by decide +kernel
theorem dX3_owner_18 : decode cX3_owner 18 = .ok (.getfield 81, 3) := by decide +kernel
theorem dX3_owner_21 : decode cX3_owner 21 = .ok (.ifCond .le 7, 3) := by decide +kernel
theorem dX3_owner_24 : decode cX3_owner 24 = .ok (.iconst 0, 1) := by decide +kernel
theorem dX3_owner_25 : decode cX3_owner 25 = .ok (.goto 9, 3) := by decide +kernel
theorem dX3_owner_28 : decode cX3_owner 28 = .ok (.aload_n 0, 1) := by decide +kernel
theorem dX3_owner_29 : decode cX3_owner 29 = .ok (.getfield 47, 3) := by decide +kernel
theorem dX3_owner_32 : decode cX3_owner 32 = .ok (.iload_n 1, 1) := by decide +kernel
theorem dX3_owner_33 : decode cX3_owner 33 = .ok (.iaload, 1) := by decide +kernel
theorem dX3_owner_34 : decode cX3_owner 34 = .ok (.ireturn, 1) := by decide +kernel
set_option maxRecDepth 20000 in
theorem ggX3_credits_X3_isPerson : GoodIn wsX3_credits wsX3_isPerson := goodIn_r _ [6, 7, 8, 5, 9] (by decide +kernel) (by decide +kernel)
set_option maxRecDepth 20000 in
theorem gX3_credits_X3_isPerson : GoodIn wsX3_credits (va_wsS RX3 91 yX3_isPerson wsX3_isPerson) := goodIn_app (goodIn_of _ (by decide +kernel)) ggX3_credits_X3_isPerson
theorem dX3_credits_0 : decode cX3_credits 0 = .ok (.aload_n 0, 1) := by decide +kernel
theorem dX3_credits_1 : decode cX3_credits 1 = .ok (.iload_n 1, 1) := by decide +kernel
theorem dX3_credits_2 : decode cX3_credits 2 = .ok (.invokestatic 91, 3) := by decide +kernel
theorem dX3_credits_5 : decode cX3_credits 5 = .ok (.ifCond .eq 7, 3) := by decide +kernel
theorem dX3_credits_8 : decode cX3_credits 8 = .ok (.iconst 0, 1) := by decide +kernel
theorem dX3_credits_9 : decode cX3_credits 9 = .ok (.goto 4, 3) := by decide +kernel
theorem dX3_credits_12 : decode cX3_credits 12 = .ok (.iconst 1, 1) := by decide +kernel
theorem dX3_credits_13 : decode cX3_credits 13 = .ok (.putfield 81, 3) := by decide +kernel
theorem dX3_credits_16 : decode cX3_credits 16 = .ok (.aload_n 0, 1) := by decide +kernel
theorem dX3_credits_17 : decode cX3_credits 17 = .ok (.getfield 81, 3) := by decide +kernel
theorem dX3_credits_20 : decode cX3_credits 20 = .ok (.ifCond .le 7, 3) := by decide +kernel
theorem dX3_credits_23 : decode cX3_credits 23 = .ok (.iconst 0, 1) := by decide +kernel
theorem dX3_credits_24 : decode cX3_credits 24 = .ok (.goto 9, 3) := by decide +kernel
theorem dX3_credits_27 : decode cX3_credits 27 = .ok (.aload_n 0, 1) := by decide +kernel
theorem dX3_credits_28 : decode cX3_credits 28 = .ok (.getfield 50, 3) := by decide +kernel
theorem dX3_credits_31 : decode cX3_credits 31 = .ok (.iload_n 1, 1) := by decide +kernel
theorem dX3_credits_32 : decode cX3_credits 32 = .ok (.iaload, 1) := by decide +kernel
theorem dX3_credits_33 : decode cX3_credits 33 = .ok (.ireturn, 1) := by decide +kernel
set_option maxRecDepth 20000 in
theorem ggX3_wish_X3_isPerson : GoodIn wsX3_wish wsX3_isPerson := goodIn_r _ [7, 8, 9, 6, 10] (by decide +kernel) (by decide +kernel)
set_option maxRecDepth 20000 in
theorem gX3_wish_X3_isPerson : GoodIn wsX3_wish (va_wsS RX3 91 yX3_isPerson wsX3_isPerson) := goodIn_app (goodIn_of _ (by decide +kernel)) ggX3_wish_X3_isPerson
set_option maxRecDepth 20000 in
theorem ggX3_wish_X3_isColour : GoodIn wsX3_wish wsX3_isColour := goodIn_r _ [13, 8, 9, 6, 10] (by decide +kernel) (by decide +kernel)
set_option maxRecDepth 20000 in
theorem gX3_wish_X3_isColour : GoodIn wsX3_wish (va_wsS RX3 95 yX3_isColour wsX3_isColour) := goodIn_app (goodIn_of _ (by decide +kernel)) ggX3_wish_X3_isColour
theorem dX3_wish_0 : decode cX3_wish 0 = .ok (.aload_n 0, 1) := by decide +kernel
theorem dX3_wish_1 : decode cX3_wish 1 = .ok (.iload_n 1, 1) := by decide +kernel
theorem dX3_wish_2 : decode cX3_wish 2 = .ok (.invokestatic 91, 3) := by decide +kernel
theorem dX3_wish_5 : decode cX3_wish 5 = .ok (.ifCond .eq 17, 3) := by decide +kernel
theorem dX3_wish_8 : decode cX3_wish 8 = .ok (.iload_n 2, 1) := by decide +kernel
theorem dX3_wish_9 : decode cX3_wish 9 = .ok (.invokestatic 95, 3) := by decide +kernel
theorem dX3_wish_12 : decode cX3_wish 12 = .ok (.ifCond .eq 10, 3) := by decide +kernel
theorem dX3_wish_15 : decode cX3_wish 15 = .ok (.iload_n 3, 1) := by decide +kernel
theorem dX3_wish_16 : decode cX3_wish 16 = .ok (.invokestatic 95, 3) := by decide +kernel
theorem dX3_wish_19 : decode cX3_wish 19 = .ok (.ifCond .ne 7, 3) := by decide +kernel
theorem dX3_wish_22 : decode cX3_wish 22 = .ok (.iconst 1, 1) := by decide +kernel
theorem dX3_wish_23 : decode cX3_wish 23 = .ok (.goto 13, 3) := by decide +kernel
theorem dX3_wish_26 : decode cX3_wish 26 = .ok (.iload_n 2, 1) := by decide +kernel
theorem dX3_wish_27 : decode cX3_wish 27 = .ok (.iload_n 3, 1) := by decide +kernel
theorem dX3_wish_28 : decode cX3_wish 28 = .ok (.if_icmp .ne 7, 3) := by decide +kernel
theorem dX3_wish_31 : decode cX3_wish 31 = .ok (.iconst 2, 1) := by decide +kernel
theorem dX3_wish_32 : decode cX3_wish 32 = .ok (.goto 4, 3) := by decide +kernel
theorem dX3_wish_35 : decode cX3_wish 35 = .ok (.iconst 0, 1) := by decide +kernel
theorem dX3_wish_36 : decode cX3_wish 36 = .ok (.putfield 81, 3) := by decide +kernel
theorem dX3_wish_39 : decode cX3_wish 39 = .ok (.aload_n 0, 1) := by decide +kernel
theorem dX3_wish_40 : decode cX3_wish 40 = .ok (.getfield 81, 3) := by decide +kernel
theorem dX3_wish_43 : decode cX3_wish 43 = .ok (.ifCond .le 5, 3) := by decide +kernel
theorem dX3_wish_46 : decode cX3_wish 46 = .ok (.iconst 0, 1) := by decide +kernel
theorem dX3_wish_47 : decode cX3_wish 47 = .ok (.ireturn, 1) := by decide +kernel
theorem dX3_wish_48 : decode cX3_wish 48 = .ok (.aload_n 0, 1) := by decide +kernel
theorem dX3_wish_49 : decode cX3_wish 49 = .ok (.getfield 53, 3) := by decide +kernel
theorem dX3_wish_52 : decode cX3_wish 52 = .ok (.iload_n 1, 1) := by decide +kernel
theorem dX3_wish_53 : decode cX3_wish 53 = .ok (.iaload, 1) := by decide +kernel
theorem dX3_wish_54 : decode cX3_wish 54 = .ok (.iconst (-1), 1) := by decide +kernel
theorem dX3_wish_55 : decode cX3_wish 55 = .ok (.if_icmp .eq 7, 3) := by decide +kernel
theorem dX3_wish_58 : decode cX3_wish 58 = .ok (.iconst 1, 1) := by decide +kernel
theorem dX3_wish_59 : decode cX3_wish 59 = .ok (.goto 4, 3) := by decide +kernel
theorem dX3_wish_62 : decode cX3_wish 62 = .ok (.iconst 0, 1) := by decide +kernel
theorem dX3_wish_63 : decode cX3_wish 63 = .ok (.istore 4, 2) := by decide +kernel
theorem dX3_wish_65 : decode cX3_wish 65 = .ok (.aload_n 0, 1) := by decide +kernel
theorem dX3_wish_66 : decode cX3_wish 66 = .ok (.getfield 53, 3) := by decide +kernel
theorem dX3_wish_69 : decode cX3_wish 69 = .ok (.iload_n 1, 1) := by decide +kernel
theorem dX3_wish_70 : decode cX3_wish 70 = .ok (.iload_n 2, 1) := by decide +kernel
theorem dX3_wish_71 : decode cX3_wish 71 = .ok (.iastore, 1) := by decide +kernel
theorem dX3_wish_72 : decode cX3_wish 72 = .ok (.aload_n 0, 1) := by decide +kernel
theorem dX3_wish_73 : decode cX3_wish 73 = .ok (.getfield 56, 3) := by decide +kernel
theorem dX3_wish_76 : decode cX3_wish 76 = .ok (.iload_n 1, 1) := by decide +kernel
theorem dX3_wish_77 : decode cX3_wish 77 = .ok (.iload_n 3, 1) := by decide +kernel
theorem dX3_wish_78 : decode cX3_wish 78 = .ok (.iastore, 1) := by decide +kernel
theorem dX3_wish_79 : decode cX3_wish 79 = .ok (.iload 4, 2) := by decide +kernel
theorem dX3_wish_81 : decode cX3_wish 81 = .ok (.ireturn, 1) := by decide +kernel
set_option maxRecDepth 20000 in
theorem ggX3_unwish_X3_isPerson : GoodIn wsX3_unwish wsX3_isPerson := goodIn_r _ [6, 7, 8, 5, 9] (by decide +kernel) (by decide +kernel)
set_option maxRecDepth 20000 in
theorem gX3_unwish_X3_isPerson : GoodIn wsX3_unwish (va_wsS RX3 91 yX3_isPerson wsX3_isPerson) := goodIn_app (goodIn_of _ (by decide +kernel)) ggX3_unwish_X3_isPerson
theorem dX3_unwish_0 : decode cX3_unwish 0 = .ok (.aload_n 0, 1) := by decide +kernel
theorem dX3_unwish_1 : decode cX3_unwish 1 = .ok (.iload_n 1, 1) := by decide +kernel
theorem dX3_unwish_2 : decode cX3_unwish 2 = .ok (.invokestatic 91, 3) := by decide +kernel
theorem dX3_unwish_5 : decode cX3_unwish 5 = .ok (.ifCond .eq 7, 3) := by decide +kernel
theorem dX3_unwish_8 : decode cX3_unwish 8 = .ok (.iconst 0, 1) := by decide +kernel
theorem dX3_unwish_9 : decode cX3_unwish 9 = .ok (.goto 4, 3) := by decide +kernel
theorem dX3_unwish_12 : decode cX3_unwish 12 = .ok (.iconst 1, 1) := by decide +kernel
theorem dX3_unwish_13 : decode cX3_unwish 13 = .ok (.putfield 81, 3) := by decide +kernel
theorem dX3_unwish_16 : decode cX3_unwish 16 = .ok (.aload_n 0, 1) := by decide +kernel
theorem dX3_unwish_17 : decode cX3_unwish 17 = .ok (.getfield 81, 3) := by decide +kernel
theorem dX3_unwish_20 : decode cX3_unwish 20 = .ok (.ifCond .ne 17, 3) := by decide +kernel
theorem dX3_unwish_23 : decode cX3_unwish 23 = .ok (.aload_n 0, 1) := by decide +kernel
theorem dX3_unwish_24 : decode cX3_unwish 24 = .ok (.getfield 53, 3) := by decide +kernel
theorem dX3_unwish_27 : decode cX3_unwish 27 = .ok (.iload_n 1, 1) := by decide +kernel
theorem dX3_unwish_28 : decode cX3_unwish 28 = .ok (.iaload, 1) := by decide +kernel
theorem dX3_unwish_29 : decode cX3_unwish 29 = .ok (.iconst (-1), 1) := by decide +kernel
theorem dX3_unwish_30 : decode cX3_unwish 30 = .ok (.if_icmp .eq 7, 3) := by decide +kernel
theorem dX3_unwish_33 : decode cX3_unwish 33 = .ok (.iconst 1, 1) := by decide +kernel
theorem dX3_unwish_34 : decode cX3_unwish 34 = .ok (.goto 4, 3) := by decide +kernel
theorem dX3_unwish_37 : decode cX3_unwish 37 = .ok (.iconst 0, 1) := by decide +kernel
theorem dX3_unwish_38 : decode cX3_unwish 38 = .ok (.istore_n 2, 1) := by decide +kernel
theorem dX3_unwish_39 : decode cX3_unwish 39 = .ok (.iload_n 2, 1) := by decide +kernel
theorem dX3_unwish_40 : decode cX3_unwish 40 = .ok (.ifCond .eq 10, 3) := by decide +kernel
theorem dX3_unwish_43 : decode cX3_unwish 43 = .ok (.aload_n 0, 1) := by decide +kernel
theorem dX3_unwish_44 : decode cX3_unwish 44 = .ok (.getfield 53, 3) := by decide +kernel
theorem dX3_unwish_47 : decode cX3_unwish 47 = .ok (.iload_n 1, 1) := by decide +kernel
theorem dX3_unwish_48 : decode cX3_unwish 48 = .ok (.iconst (-1), 1) := by decide +kernel
theorem dX3_unwish_49 : decode cX3_unwish 49 = .ok (.iastore, 1) := by decide +kernel
theorem dX3_unwish_50 : decode cX3_unwish 50 = .ok (.iload_n 2, 1) := by decide +kernel
theorem dX3_unwish_51 : decode cX3_unwish 51 = .ok (.ireturn, 1) := by decide +kernel
theorem dX3_canGive_0 : decode cX3_canGive 0 = .ok (.aload_n 0, 1) := by decide +kernel
theorem dX3_canGive_1 : decode cX3_canGive 1 = .ok (.getfield 53, 3) := by decide +kernel
theorem dX3_canGive_4 : decode cX3_canGive 4 = .ok (.iload_n 1, 1) := by decide +kernel
theorem dX3_canGive_5 : decode cX3_canGive 5 = .ok (.iaload, 1) := by decide +kernel
theorem dX3_canGive_6 : decode cX3_canGive 6 = .ok (.iconst (-1), 1) := by decide +kernel
theorem dX3_canGive_7 : decode cX3_canGive 7 = .ok (.if_icmp .eq 26, 3) := by decide +kernel
theorem dX3_canGive_10 : decode cX3_canGive 10 = .ok (.aload_n 0, 1) := by decide +kernel
theorem dX3_canGive_11 : decode cX3_canGive 11 = .ok (.getfield 7, 3) := by decide +kernel
theorem dX3_canGive_14 : decode cX3_canGive 14 = .ok (.bipush 8, 2) := by decide +kernel
theorem dX3_canGive_16 : decode cX3_canGive 16 = .ok (.iload_n 1, 1) := by decide +kernel
theorem dX3_canGive_17 : decode cX3_canGive 17 = .ok (.imul, 1) := by decide +kernel
theorem dX3_canGive_18 : decode cX3_canGive 18 = .ok (.aload_n 0, 1) := by decide +kernel
theorem dX3_canGive_19 : decode cX3_canGive 19 = .ok (.getfield 53, 3) := by decide +kernel
theorem dX3_canGive_22 : decode cX3_canGive 22 = .ok (.iload_n 1, 1) := by decide +kernel
theorem dX3_canGive_23 : decode cX3_canGive 23 = .ok (.iaload, 1) := by decide +kernel
theorem dX3_canGive_24 : decode cX3_canGive 24 = .ok (.iadd, 1) := by decide +kernel
theorem dX3_canGive_25 : decode cX3_canGive 25 = .ok (.iaload, 1) := by decide +kernel
theorem dX3_canGive_26 : decode cX3_canGive 26 = .ok (.ifCond .le 7, 3) := by decide +kernel
theorem dX3_canGive_29 : decode cX3_canGive 29 = .ok (.iconst 1, 1) := by decide +kernel
theorem dX3_canGive_30 : decode cX3_canGive 30 = .ok (.goto 4, 3) := by decide +kernel
theorem dX3_canGive_33 : decode cX3_canGive 33 = .ok (.iconst 0, 1) := by decide +kernel
theorem dX3_canGive_34 : decode cX3_canGive 34 = .ok (.ireturn, 1) := by decide +kernel
set_option maxRecDepth 20000 in
theorem ggX3_isRow_X3_canGive : GoodIn wsX3_isRow wsX3_canGive := goodIn_r _ [8, 3, 9, 10, 11, 12, 13, 14, 15, 16, 17, 18, 19, 20, 21, 22, 23, 24, 25, 26, 27, 28, 29, 30, 31, 32, 33, 34, 35] (by decide +kernel) (by decide +kernel)
set_option maxRecDepth 20000 in
theorem gX3_isRow_X3_canGive : GoodIn wsX3_isRow (wsV RX3 128 RX3 yX3_canGive wsX3_canGive) := goodIn_app (goodIn_of _ (by decide +kernel)) ggX3_isRow_X3_canGive
theorem dX3_isRow_0 : decode cX3_isRow 0 = .ok (.aload_n 0, 1) := by decide +kernel
theorem dX3_isRow_1 : decode cX3_isRow 1 = .ok (.getfield 62, 3) := by decide +kernel
theorem dX3_isRow_4 : decode cX3_isRow 4 = .ok (.iload_n 1, 1) := by decide +kernel
theorem dX3_isRow_5 : decode cX3_isRow 5 = .ok (.iconst 1, 1) := by decide +kernel
theorem dX3_isRow_6 : decode cX3_isRow 6 = .ok (.isub, 1) := by decide +kernel
theorem dX3_isRow_7 : decode cX3_isRow 7 = .ok (.iaload, 1) := by decide +kernel
theorem dX3_isRow_8 : decode cX3_isRow 8 = .ok (.istore_n 2, 1) := by decide +kernel
theorem dX3_isRow_9 : decode cX3_isRow 9 = .ok (.aload_n 0, 1) := by decide +kernel
theorem dX3_isRow_10 : decode cX3_isRow 10 = .ok (.iload_n 2, 1) := by decide +kernel
theorem dX3_isRow_11 : decode cX3_isRow 11 = .ok (.invokevirtual 128, 3) := by decide +kernel
theorem dX3_isRow_14 : decode cX3_isRow 14 = .ok (.ifCond .eq 17, 3) := by decide +kernel
theorem dX3_isRow_17 : decode cX3_isRow 17 = .ok (.iload_n 2, 1) := by decide +kernel
theorem dX3_isRow_18 : decode cX3_isRow 18 = .ok (.aload_n 0, 1) := by decide +kernel
theorem dX3_isRow_19 : decode cX3_isRow 19 = .ok (.getfield 62, 3) := by decide +kernel
theorem dX3_isRow_22 : decode cX3_isRow 22 = .ok (.iconst 0, 1) := by decide +kernel
theorem dX3_isRow_23 : decode cX3_isRow 23 = .ok (.iaload, 1) := by decide +kernel
theorem dX3_isRow_24 : decode cX3_isRow 24 = .ok (.if_icmp .lt 7, 3) := by decide +kernel
theorem dX3_isRow_27 : decode cX3_isRow 27 = .ok (.iconst 1, 1) := by decide +kernel
theorem dX3_isRow_28 : decode cX3_isRow 28 = .ok (.goto 4, 3) := by decide +kernel
theorem dX3_isRow_31 : decode cX3_isRow 31 = .ok (.iconst 0, 1) := by decide +kernel
theorem dX3_isRow_32 : decode cX3_isRow 32 = .ok (.istore_n 3, 1) := by decide +kernel
theorem dX3_isRow_33 : decode cX3_isRow 33 = .ok (.iconst 0, 1) := by decide +kernel
theorem dX3_isRow_34 : decode cX3_isRow 34 = .ok (.istore 4, 2) := by decide +kernel
theorem dX3_isRow_36 : decode cX3_isRow 36 = .ok (.iload 4, 2) := by decide +kernel
theorem dX3_isRow_38 : decode cX3_isRow 38 = .ok (.iload_n 1, 1) := by decide +kernel
theorem dX3_isRow_39 : decode cX3_isRow 39 = .ok (.iconst 1, 1) := by decide +kernel
theorem dX3_isRow_40 : decode cX3_isRow 40 = .ok (.isub, 1) := by decide +kernel
theorem dX3_isRow_41 : decode cX3_isRow 41 = .ok (.if_icmp .ge 30, 3) := by decide +kernel
theorem dX3_isRow_44 : decode cX3_isRow 44 = .ok (.iload_n 3, 1) := by decide +kernel
theorem dX3_isRow_45 : decode cX3_isRow 45 = .ok (.ifCond .eq 18, 3) := by decide +kernel
theorem dX3_isRow_48 : decode cX3_isRow 48 = .ok (.aload_n 0, 1) := by decide +kernel
theorem dX3_isRow_49 : decode cX3_isRow 49 = .ok (.getfield 62, 3) := by decide +kernel
theorem dX3_isRow_52 : decode cX3_isRow 52 = .ok (.iload 4, 2) := by decide +kernel
theorem dX3_isRow_54 : decode cX3_isRow 54 = .ok (.iaload, 1) := by decide +kernel
theorem dX3_isRow_55 : decode cX3_isRow 55 = .ok (.iload_n 2, 1) := by decide +kernel
theorem dX3_isRow_56 : decode cX3_isRow 56 = .ok (.if_icmp .eq 7, 3) := by decide +kernel
theorem dX3_isRow_59 : decode cX3_isRow 59 = .ok (.iconst 1, 1) := by decide +kernel
theorem dX3_isRow_60 : decode cX3_isRow 60 = .ok (.goto 4, 3) := by decide +kernel
theorem dX3_isRow_63 : decode cX3_isRow 63 = .ok (.iconst 0, 1) := by decide +kernel
theorem dX3_isRow_64 : decode cX3_isRow 64 = .ok (.istore_n 3, 1) := by decide +kernel
theorem dX3_isRow_65 : decode cX3_isRow 65 = .ok (.iinc 4 1, 3) := by decide +kernel
theorem dX3_isRow_68 : decode cX3_isRow 68 = .ok (.goto (-32), 3) := by decide +kernel
theorem dX3_isRow_71 : decode cX3_isRow 71 = .ok (.iload_n 3, 1) := by decide +kernel
theorem dX3_isRow_72 : decode cX3_isRow 72 = .ok (.ifCond .eq 34, 3) := by decide +kernel
theorem dX3_isRow_75 : decode cX3_isRow 75 = .ok (.iload_n 1, 1) := by decide +kernel
theorem dX3_isRow_76 : decode cX3_isRow 76 = .ok (.iconst 1, 1) := by decide +kernel
theorem dX3_isRow_77 : decode cX3_isRow 77 = .ok (.if_icmp .eq 25, 3) := by decide +kernel
theorem dX3_isRow_80 : decode cX3_isRow 80 = .ok (.aload_n 0, 1) := by decide +kernel
theorem dX3_isRow_81 : decode cX3_isRow 81 = .ok (.getfield 56, 3) := by decide +kernel
theorem dX3_isRow_84 : decode cX3_isRow 84 = .ok (.aload_n 0, 1) := by decide +kernel
theorem dX3_isRow_85 : decode cX3_isRow 85 = .ok (.getfield 62, 3) := by decide +kernel
theorem dX3_isRow_88 : decode cX3_isRow 88 = .ok (.iload_n 1, 1) := by decide +kernel
theorem dX3_isRow_89 : decode cX3_isRow 89 = .ok (.iconst 2, 1) := by decide +kernel
theorem dX3_isRow_90 : decode cX3_isRow 90 = .ok (.isub, 1) := by decide +kernel
theorem dX3_isRow_91 : decode cX3_isRow 91 = .ok (.iaload, 1) := by decide +kernel
theorem dX3_isRow_92 : decode cX3_isRow 92 = .ok (.iaload, 1) := by decide +kernel
theorem dX3_isRow_93 : decode cX3_isRow 93 = .ok (.aload_n 0, 1) := by decide +kernel
theorem dX3_isRow_94 : decode cX3_isRow 94 = .ok (.getfield 53, 3) := by decide +kernel
theorem dX3_isRow_97 : decode cX3_isRow 97 = .ok (.iload_n 2, 1) := by decide +kernel
theorem dX3_isRow_98 : decode cX3_isRow 98 = .ok (.iaload, 1) := by decide +kernel
theorem dX3_isRow_99 : decode cX3_isRow 99 = .ok (.if_icmp .ne 7, 3) := by decide +kernel
theorem dX3_isRow_102 : decode cX3_isRow 102 = .ok (.iconst 1, 1) := by decide +kernel
theorem dX3_isRow_103 : decode cX3_isRow 103 = .ok (.goto 4, 3) := by decide +kernel
theorem dX3_isRow_106 : decode cX3_isRow 106 = .ok (.iconst 0, 1) := by decide +kernel
theorem dX3_isRow_107 : decode cX3_isRow 107 = .ok (.ireturn, 1) := by decide +kernel
set_option maxRecDepth 20000 in
theorem ggX3_finds_X3_isRow : GoodIn wsX3_finds wsX3_isRow := goodIn_r _ [9, 1, 2, 3, 10, 11, 12, 8, 13, 14, 15, 16, 17, 18, 19, 20, 21, 22, 23, 24, 25, 26, 27, 28, 29, 30, 31, 32, 33, 34, 35, 36, 37, 38, 39, 40] (by decide +kernel) (by decide +kernel)
set_option maxRecDepth 20000 in
theorem gX3_finds_X3_isRow : GoodIn wsX3_finds (wsV RX3 131 RX3 yX3_isRow wsX3_isRow) := goodIn_app (goodIn_of _ (by decide +kernel)) ggX3_finds_X3_isRow
theorem dX3_finds_0 : decode cX3_finds 0 = .ok (.iconst 0, 1) := by decide +kernel
theorem dX3_finds_1 : decode cX3_finds 1 = .ok (.istore_n 1, 1) := by decide +kernel
theorem dX3_finds_2 : decode cX3_finds 2 = .ok (.iconst 1, 1) := by decide +kernel
theorem dX3_finds_3 : decode cX3_finds 3 = .ok (.istore_n 2, 1) := by decide +kernel
theorem dX3_finds_4 : decode cX3_finds 4 = .ok (.aload_n 0, 1) := by decide +kernel
theorem dX3_finds_5 : decode cX3_finds 5 = .ok (.getfield 62, 3) := by decide +kernel
theorem dX3_finds_8 : decode cX3_finds 8 = .ok (.iconst 0, 1) := by decide +kernel
theorem dX3_finds_9 : decode cX3_finds 9 = .ok (.iconst (-1), 1) := by decide +kernel
theorem dX3_finds_10 : decode cX3_finds 10 = .ok (.iastore, 1) := by decide +kernel
theorem dX3_finds_11 : decode cX3_finds 11 = .ok (.iload_n 2, 1) := by decide +kernel
theorem dX3_finds_12 : decode cX3_finds 12 = .ok (.ifCond .le 128, 3) := by decide +kernel
theorem dX3_finds_15 : decode cX3_finds 15 = .ok (.aload_n 0, 1) := by decide +kernel
theorem dX3_finds_16 : decode cX3_finds 16 = .ok (.getfield 62, 3) := by decide +kernel
theorem dX3_finds_19 : decode cX3_finds 19 = .ok (.iload_n 2, 1) := by decide +kernel
theorem dX3_finds_20 : decode cX3_finds 20 = .ok (.iconst 1, 1) := by decide +kernel
theorem dX3_finds_21 : decode cX3_finds 21 = .ok (.isub, 1) := by decide +kernel
theorem dX3_finds_22 : decode cX3_finds 22 = .ok (.dup2, 1) := by decide +kernel
theorem dX3_finds_23 : decode cX3_finds 23 = .ok (.iaload, 1) := by decide +kernel
theorem dX3_finds_24 : decode cX3_finds 24 = .ok (.iconst 1, 1) := by decide +kernel
theorem dX3_finds_25 : decode cX3_finds 25 = .ok (.iadd, 1) := by decide +kernel
theorem dX3_finds_26 : decode cX3_finds 26 = .ok (.iastore, 1) := by decide +kernel
theorem dX3_finds_27 : decode cX3_finds 27 = .ok (.aload_n 0, 1) := by decide +kernel
theorem dX3_finds_28 : decode cX3_finds 28 = .ok (.getfield 62, 3) := by decide +kernel
theorem dX3_finds_31 : decode cX3_finds 31 = .ok (.iload_n 2, 1) := by decide +kernel
theorem dX3_finds_32 : decode cX3_finds 32 = .ok (.iconst 1, 1) := by decide +kernel
theorem dX3_finds_33 : decode cX3_finds 33 = .ok (.isub, 1) := by decide +kernel
theorem dX3_finds_34 : decode cX3_finds 34 = .ok (.iaload, 1) := by decide +kernel
theorem dX3_finds_35 : decode cX3_finds 35 = .ok (.bipush 7, 2) := by decide +kernel
theorem dX3_finds_37 : decode cX3_finds 37 = .ok (.if_icmp .ne 9, 3) := by decide +kernel
theorem dX3_finds_40 : decode cX3_finds 40 = .ok (.iinc 2 (-1), 3) := by decide +kernel
theorem dX3_finds_43 : decode cX3_finds 43 = .ok (.goto (-32), 3) := by decide +kernel
theorem dX3_finds_46 : decode cX3_finds 46 = .ok (.aload_n 0, 1) := by decide +kernel
theorem dX3_finds_47 : decode cX3_finds 47 = .ok (.iload_n 2, 1) := by decide +kernel
theorem dX3_finds_48 : decode cX3_finds 48 = .ok (.invokevirtual 131, 3) := by decide +kernel
theorem dX3_finds_51 : decode cX3_finds 51 = .ok (.ifCond .ne 6, 3) := by decide +kernel
theorem dX3_finds_54 : decode cX3_finds 54 = .ok (.goto (-43), 3) := by decide +kernel
theorem dX3_finds_57 : decode cX3_finds 57 = .ok (.iload_n 2, 1) := by decide +kernel
theorem dX3_finds_58 : decode cX3_finds 58 = .ok (.iload_n 1, 1) := by decide +kernel
theorem dX3_finds_59 : decode cX3_finds 59 = .ok (.if_icmp .le 62, 3) := by decide +kernel
theorem dX3_finds_62 : decode cX3_finds 62 = .ok (.iload_n 2, 1) := by decide +kernel
theorem dX3_finds_63 : decode cX3_finds 63 = .ok (.iconst 1, 1) := by decide +kernel
theorem dX3_finds_64 : decode cX3_finds 64 = .ok (.if_icmp .le 57, 3) := by decide +kernel
theorem dX3_finds_67 : decode cX3_finds 67 = .ok (.aload_n 0, 1) := by decide +kernel
theorem dX3_finds_68 : decode cX3_finds 68 = .ok (.getfield 56, 3) := by decide +kernel
theorem dX3_finds_71 : decode cX3_finds 71 = .ok (.aload_n 0, 1) := by decide +kernel
theorem dX3_finds_72 : decode cX3_finds 72 = .ok (.getfield 62, 3) := by decide +kernel
theorem dX3_finds_75 : decode cX3_finds 75 = .ok (.iload_n 2, 1) := by decide +kernel
theorem dX3_finds_76 : decode cX3_finds 76 = .ok (.iconst 1, 1) := by decide +kernel
theorem dX3_finds_77 : decode cX3_finds 77 = .ok (.isub, 1) := by decide +kernel
theorem dX3_finds_78 : decode cX3_finds 78 = .ok (.iaload, 1) := by decide +kernel
theorem dX3_finds_79 : decode cX3_finds 79 = .ok (.iaload, 1) := by decide +kernel
theorem dX3_finds_80 : decode cX3_finds 80 = .ok (.aload_n 0, 1) := by decide +kernel
theorem dX3_finds_81 : decode cX3_finds 81 = .ok (.getfield 53, 3) := by decide +kernel
theorem dX3_finds_84 : decode cX3_finds 84 = .ok (.aload_n 0, 1) := by decide +kernel
theorem dX3_finds_85 : decode cX3_finds 85 = .ok (.getfield 62, 3) := by decide +kernel
theorem dX3_finds_88 : decode cX3_finds 88 = .ok (.iconst 0, 1) := by decide +kernel
theorem dX3_finds_89 : decode cX3_finds 89 = .ok (.iaload, 1) := by decide +kernel
theorem dX3_finds_90 : decode cX3_finds 90 = .ok (.iaload, 1) := by decide +kernel
theorem dX3_finds_91 : decode cX3_finds 91 = .ok (.if_icmp .ne 30, 3) := by decide +kernel
theorem dX3_finds_94 : decode cX3_finds 94 = .ok (.iload_n 2, 1) := by decide +kernel
theorem dX3_finds_95 : decode cX3_finds 95 = .ok (.istore_n 1, 1) := by decide +kernel
theorem dX3_finds_96 : decode cX3_finds 96 = .ok (.iconst 0, 1) := by decide +kernel
theorem dX3_finds_97 : decode cX3_finds 97 = .ok (.istore_n 3, 1) := by decide +kernel
theorem dX3_finds_98 : decode cX3_finds 98 = .ok (.iload_n 3, 1) := by decide +kernel
theorem dX3_finds_99 : decode cX3_finds 99 = .ok (.iload_n 2, 1) := by decide +kernel
theorem dX3_finds_100 : decode cX3_finds 100 = .ok (.if_icmp .ge 21, 3) := by decide +kernel
theorem dX3_finds_103 : decode cX3_finds 103 = .ok (.aload_n 0, 1) := by decide +kernel
theorem dX3_finds_104 : decode cX3_finds 104 = .ok (.getfield 59, 3) := by decide +kernel
theorem dX3_finds_107 : decode cX3_finds 107 = .ok (.iload_n 3, 1) := by decide +kernel
theorem dX3_finds_108 : decode cX3_finds 108 = .ok (.aload_n 0, 1) := by decide +kernel
theorem dX3_finds_109 : decode cX3_finds 109 = .ok (.getfield 62, 3) := by decide +kernel
theorem dX3_finds_112 : decode cX3_finds 112 = .ok (.iload_n 3, 1) := by decide +kernel
theorem dX3_finds_113 : decode cX3_finds 113 = .ok (.iaload, 1) := by decide +kernel
theorem dX3_finds_114 : decode cX3_finds 114 = .ok (.iastore, 1) := by decide +kernel
theorem dX3_finds_115 : decode cX3_finds 115 = .ok (.iinc 3 1, 3) := by decide +kernel
theorem dX3_finds_118 : decode cX3_finds 118 = .ok (.goto (-20), 3) := by decide +kernel
theorem dX3_finds_121 : decode cX3_finds 121 = .ok (.iload_n 2, 1) := by decide +kernel
theorem dX3_finds_122 : decode cX3_finds 122 = .ok (.bipush 7, 2) := by decide +kernel
theorem dX3_finds_124 : decode cX3_finds 124 = .ok (.if_icmp .ge (-113), 3) := by decide +kernel
theorem dX3_finds_127 : decode cX3_finds 127 = .ok (.aload_n 0, 1) := by decide +kernel
theorem dX3_finds_128 : decode cX3_finds 128 = .ok (.getfield 62, 3) := by decide +kernel
theorem dX3_finds_131 : decode cX3_finds 131 = .ok (.iload_n 2, 1) := by decide +kernel
theorem dX3_finds_132 : decode cX3_finds 132 = .ok (.iconst (-1), 1) := by decide +kernel
theorem dX3_finds_133 : decode cX3_finds 133 = .ok (.iastore, 1) := by decide +kernel
theorem dX3_finds_134 : decode cX3_finds 134 = .ok (.iinc 2 1, 3) := by decide +kernel
theorem dX3_finds_137 : decode cX3_finds 137 = .ok (.goto (-126), 3) := by decide +kernel
theorem dX3_finds_140 : decode cX3_finds 140 = .ok (.iload_n 1, 1) := by decide +kernel
theorem dX3_finds_141 : decode cX3_finds 141 = .ok (.ireturn, 1) := by decide +kernel
set_option maxRecDepth 20000 in
theorem ggX3_chain_X3_finds : GoodIn wsX3_chain wsX3_finds := goodIn_r _ [6, 7, 8, 9, 10, 11, 12, 13, 5, 14, 15, 16, 17, 18, 19, 20, 21, 22, 23, 24, 25, 26, 27, 28, 29, 30, 31, 32, 33, 34, 35, 36, 37, 38, 39, 40, 41, 42, 43, 44, 45] (by decide +kernel) (by decide +kernel)
set_option maxRecDepth 20000 in
theorem gX3_chain_X3_finds : GoodIn wsX3_chain (wsV RX3 134 RX3 yX3_finds wsX3_finds) := goodIn_app (goodIn_of _ (by decide +kernel)) ggX3_chain_X3_finds
theorem dX3_chain_0 : decode cX3_chain 0 = .ok (.aload_n 0, 1) := by decide +kernel
theorem dX3_chain_1 : decode cX3_chain 1 = .ok (.iconst 0, 1) := by decide +kernel
theorem dX3_chain_2 : decode cX3_chain 2 = .ok (.putfield 81, 3) := by decide +kernel
theorem dX3_chain_5 : decode cX3_chain 5 = .ok (.aload_n 0, 1) := by decide +kernel
theorem dX3_chain_6 : decode cX3_chain 6 = .ok (.invokevirtual 134, 3) := by decide +kernel
theorem dX3_chain_9 : decode cX3_chain 9 = .ok (.ireturn, 1) := by decide +kernel
set_option maxRecDepth 20000 in
theorem ggX3_chainByOrders_X3_finds : GoodIn wsX3_chainByOrders wsX3_finds := goodIn_r _ [6, 7, 8, 9, 10, 11, 12, 13, 5, 14, 15, 16, 17, 18, 19, 20, 21, 22, 23, 24, 25, 26, 27, 28, 29, 30, 31, 32, 33, 34, 35, 36, 37, 38, 39, 40, 41, 42, 43, 44, 45] (by decide +kernel) (by decide +kernel)
set_option maxRecDepth 20000 in
theorem gX3_chainByOrders_X3_finds : GoodIn wsX3_chainByOrders (wsV RX3 134 RX3 yX3_finds wsX3_finds) := goodIn_app (goodIn_of _ (by decide +kernel)) ggX3_chainByOrders_X3_finds
theorem dX3_chainByOrders_0 : decode cX3_chainByOrders 0 = .ok (.aload_n 0, 1) := by decide +kernel
theorem dX3_chainByOrders_1 : decode cX3_chainByOrders 1 = .ok (.iconst 0, 1) := by decide +kernel
theorem dX3_chainByOrders_2 : decode cX3_chainByOrders 2 = .ok (.putfield 81, 3) := by decide +kernel
theorem dX3_chainByOrders_5 : decode cX3_chainByOrders 5 = .ok (.aload_n 0, 1) := by decide +kernel
theorem dX3_chainByOrders_6 : decode cX3_chainByOrders 6 = .ok (.invokevirtual 134, 3) := by decide +kernel
theorem dX3_chainByOrders_9 : decode cX3_chainByOrders 9 = .ok (.ireturn, 1) := by decide +kernel
set_option maxRecDepth 20000 in
theorem ggX3_chainAt_X3_finds : GoodIn wsX3_chainAt wsX3_finds := goodIn_r _ [7, 8, 9, 10, 2, 11, 12, 13, 6, 14, 15, 16, 17, 18, 19, 23, 24, 25, 26, 27, 28, 29, 30, 31, 32, 33, 34, 35, 36, 37, 38, 39, 40, 41, 42, 43, 44, 45, 46, 47, 48] (by decide +kernel) (by decide +kernel)
set_option maxRecDepth 20000 in
theorem gX3_chainAt_X3_finds : GoodIn wsX3_chainAt (wsV RX3 134 RX3 yX3_finds wsX3_finds) := goodIn_app (goodIn_of _ (by decide +kernel)) ggX3_chainAt_X3_finds
set_option maxRecDepth 20000 in
theorem ggX3_chainAt_X3_isIn : GoodIn wsX3_chainAt wsX3_isIn := goodIn_r _ [22] (by decide +kernel) (by decide +kernel)
set_option maxRecDepth 20000 in
theorem gX3_chainAt_X3_isIn : GoodIn wsX3_chainAt (va_wsS RX3 84 yX3_isIn wsX3_isIn) := goodIn_app (goodIn_of _ (by decide +kernel)) ggX3_chainAt_X3_isIn
theorem dX3_chainAt_0 : decode cX3_chainAt 0 = .ok (.aload_n 0, 1) := by decide +kernel
theorem dX3_chainAt_1 : decode cX3_chainAt 1 = .ok (.iload_n 1, 1) := by decide +kernel
theorem dX3_chainAt_2 : decode cX3_chainAt 2 = .ok (.iconst 0, 1) := by decide +kernel
theorem dX3_chainAt_3 : decode cX3_chainAt 3 = .ok (.aload_n 0, 1) := by decide +kernel
theorem dX3_chainAt_4 : decode cX3_chainAt 4 = .ok (.invokevirtual 134, 3) := by decide +kernel
theorem dX3_chainAt_7 : decode cX3_chainAt 7 = .ok (.iconst 1, 1) := by decide +kernel
theorem dX3_chainAt_8 : decode cX3_chainAt 8 = .ok (.isub, 1) := by decide +kernel
theorem dX3_chainAt_9 : decode cX3_chainAt 9 = .ok (.invokestatic 84, 3) := by decide +kernel
theorem dX3_chainAt_12 : decode cX3_chainAt 12 = .ok (.ifCond .eq 7, 3) := by decide +kernel
theorem dX3_chainAt_15 : decode cX3_chainAt 15 = .ok (.iconst 0, 1) := by decide +kernel
theorem dX3_chainAt_16 : decode cX3_chainAt 16 = .ok (.goto 4, 3) := by decide +kernel
theorem dX3_chainAt_19 : decode cX3_chainAt 19 = .ok (.iconst 1, 1) := by decide +kernel
theorem dX3_chainAt_20 : decode cX3_chainAt 20 = .ok (.putfield 81, 3) := by decide +kernel
theorem dX3_chainAt_23 : decode cX3_chainAt 23 = .ok (.aload_n 0, 1) := by decide +kernel
theorem dX3_chainAt_24 : decode cX3_chainAt 24 = .ok (.getfield 81, 3) := by decide +kernel
theorem dX3_chainAt_27 : decode cX3_chainAt 27 = .ok (.ifCond .le 7, 3) := by decide +kernel
theorem dX3_chainAt_30 : decode cX3_chainAt 30 = .ok (.iconst 0, 1) := by decide +kernel
theorem dX3_chainAt_31 : decode cX3_chainAt 31 = .ok (.goto 9, 3) := by decide +kernel
theorem dX3_chainAt_34 : decode cX3_chainAt 34 = .ok (.aload_n 0, 1) := by decide +kernel
theorem dX3_chainAt_35 : decode cX3_chainAt 35 = .ok (.getfield 59, 3) := by decide +kernel
theorem dX3_chainAt_38 : decode cX3_chainAt 38 = .ok (.iload_n 1, 1) := by decide +kernel
theorem dX3_chainAt_39 : decode cX3_chainAt 39 = .ok (.iaload, 1) := by decide +kernel
theorem dX3_chainAt_40 : decode cX3_chainAt 40 = .ok (.ireturn, 1) := by decide +kernel
set_option maxRecDepth 20000 in
theorem ggX3_fair_X3_finds : GoodIn wsX3_fair wsX3_finds := goodIn_r _ [10, 11, 5, 4, 2, 12, 13, 14, 9, 15, 16, 17, 18, 19, 3, 20, 21, 22, 23, 24, 25, 26, 27, 28, 29, 30, 31, 32, 33, 34, 35, 36, 37, 38, 39, 40, 41, 42, 43, 44, 45] (by decide +kernel) (by decide +kernel)
set_option maxRecDepth 20000 in
theorem gX3_fair_X3_finds : GoodIn wsX3_fair (wsV RX3 134 RX3 yX3_finds wsX3_finds) := goodIn_app (goodIn_of _ (by decide +kernel)) ggX3_fair_X3_finds
theorem dX3_fair_0 : decode cX3_fair 0 = .ok (.aload_n 0, 1) := by decide +kernel
theorem dX3_fair_1 : decode cX3_fair 1 = .ok (.iconst 0, 1) := by decide +kernel
theorem dX3_fair_2 : decode cX3_fair 2 = .ok (.putfield 81, 3) := by decide +kernel
theorem dX3_fair_5 : decode cX3_fair 5 = .ok (.aload_n 0, 1) := by decide +kernel
theorem dX3_fair_6 : decode cX3_fair 6 = .ok (.invokevirtual 134, 3) := by decide +kernel
theorem dX3_fair_9 : decode cX3_fair 9 = .ok (.istore_n 1, 1) := by decide +kernel
theorem dX3_fair_10 : decode cX3_fair 10 = .ok (.iconst 0, 1) := by decide +kernel
theorem dX3_fair_11 : decode cX3_fair 11 = .ok (.istore_n 2, 1) := by decide +kernel
theorem dX3_fair_12 : decode cX3_fair 12 = .ok (.iload_n 2, 1) := by decide +kernel
theorem dX3_fair_13 : decode cX3_fair 13 = .ok (.iload_n 1, 1) := by decide +kernel
theorem dX3_fair_14 : decode cX3_fair 14 = .ok (.if_icmp .ge 56, 3) := by decide +kernel
theorem dX3_fair_17 : decode cX3_fair 17 = .ok (.aload_n 0, 1) := by decide +kernel
theorem dX3_fair_18 : decode cX3_fair 18 = .ok (.getfield 59, 3) := by decide +kernel
theorem dX3_fair_21 : decode cX3_fair 21 = .ok (.iload_n 2, 1) := by decide +kernel
theorem dX3_fair_22 : decode cX3_fair 22 = .ok (.iaload, 1) := by decide +kernel
theorem dX3_fair_23 : decode cX3_fair 23 = .ok (.istore_n 3, 1) := by decide +kernel
theorem dX3_fair_24 : decode cX3_fair 24 = .ok (.aload_n 0, 1) := by decide +kernel
theorem dX3_fair_25 : decode cX3_fair 25 = .ok (.getfield 7, 3) := by decide +kernel
theorem dX3_fair_28 : decode cX3_fair 28 = .ok (.bipush 8, 2) := by decide +kernel
theorem dX3_fair_30 : decode cX3_fair 30 = .ok (.iload_n 3, 1) := by decide +kernel
theorem dX3_fair_31 : decode cX3_fair 31 = .ok (.imul, 1) := by decide +kernel
theorem dX3_fair_32 : decode cX3_fair 32 = .ok (.aload_n 0, 1) := by decide +kernel
theorem dX3_fair_33 : decode cX3_fair 33 = .ok (.getfield 53, 3) := by decide +kernel
theorem dX3_fair_36 : decode cX3_fair 36 = .ok (.iload_n 3, 1) := by decide +kernel
theorem dX3_fair_37 : decode cX3_fair 37 = .ok (.iaload, 1) := by decide +kernel
theorem dX3_fair_38 : decode cX3_fair 38 = .ok (.iadd, 1) := by decide +kernel
theorem dX3_fair_39 : decode cX3_fair 39 = .ok (.dup2, 1) := by decide +kernel
theorem dX3_fair_40 : decode cX3_fair 40 = .ok (.iaload, 1) := by decide +kernel
theorem dX3_fair_41 : decode cX3_fair 41 = .ok (.iconst 1, 1) := by decide +kernel
theorem dX3_fair_42 : decode cX3_fair 42 = .ok (.isub, 1) := by decide +kernel
theorem dX3_fair_43 : decode cX3_fair 43 = .ok (.iastore, 1) := by decide +kernel
theorem dX3_fair_44 : decode cX3_fair 44 = .ok (.aload_n 0, 1) := by decide +kernel
theorem dX3_fair_45 : decode cX3_fair 45 = .ok (.getfield 7, 3) := by decide +kernel
theorem dX3_fair_48 : decode cX3_fair 48 = .ok (.bipush 8, 2) := by decide +kernel
theorem dX3_fair_50 : decode cX3_fair 50 = .ok (.iload_n 3, 1) := by decide +kernel
theorem dX3_fair_51 : decode cX3_fair 51 = .ok (.imul, 1) := by decide +kernel
theorem dX3_fair_52 : decode cX3_fair 52 = .ok (.aload_n 0, 1) := by decide +kernel
theorem dX3_fair_53 : decode cX3_fair 53 = .ok (.getfield 56, 3) := by decide +kernel
theorem dX3_fair_56 : decode cX3_fair 56 = .ok (.iload_n 3, 1) := by decide +kernel
theorem dX3_fair_57 : decode cX3_fair 57 = .ok (.iaload, 1) := by decide +kernel
theorem dX3_fair_58 : decode cX3_fair 58 = .ok (.iadd, 1) := by decide +kernel
theorem dX3_fair_59 : decode cX3_fair 59 = .ok (.dup2, 1) := by decide +kernel
theorem dX3_fair_60 : decode cX3_fair 60 = .ok (.iaload, 1) := by decide +kernel
theorem dX3_fair_61 : decode cX3_fair 61 = .ok (.iconst 1, 1) := by decide +kernel
theorem dX3_fair_62 : decode cX3_fair 62 = .ok (.iadd, 1) := by decide +kernel
theorem dX3_fair_63 : decode cX3_fair 63 = .ok (.iastore, 1) := by decide +kernel
theorem dX3_fair_64 : decode cX3_fair 64 = .ok (.iinc 2 1, 3) := by decide +kernel
theorem dX3_fair_67 : decode cX3_fair 67 = .ok (.goto (-55), 3) := by decide +kernel
theorem dX3_fair_70 : decode cX3_fair 70 = .ok (.iload_n 1, 1) := by decide +kernel
theorem dX3_fair_71 : decode cX3_fair 71 = .ok (.ireturn, 1) := by decide +kernel
set_option maxRecDepth 20000 in
theorem ggX3_sign_X3_isIn : GoodIn wsX3_sign wsX3_isIn := goodIn_r _ [13] (by decide +kernel) (by decide +kernel)
set_option maxRecDepth 20000 in
theorem gX3_sign_X3_isIn : GoodIn wsX3_sign (va_wsS RX3 84 yX3_isIn wsX3_isIn) := goodIn_app (goodIn_of _ (by decide +kernel)) ggX3_sign_X3_isIn
theorem dX3_sign_0 : decode cX3_sign 0 = .ok (.aload_n 0, 1) := by decide +kernel
theorem dX3_sign_1 : decode cX3_sign 1 = .ok (.iload_n 1, 1) := by decide +kernel
theorem dX3_sign_2 : decode cX3_sign 2 = .ok (.iconst 1, 1) := by decide +kernel
theorem dX3_sign_3 : decode cX3_sign 3 = .ok (.bipush 100, 2) := by decide +kernel
theorem dX3_sign_5 : decode cX3_sign 5 = .ok (.invokestatic 84, 3) := by decide +kernel
theorem dX3_sign_8 : decode cX3_sign 8 = .ok (.ifCond .ne 7, 3) := by decide +kernel
theorem dX3_sign_11 : decode cX3_sign 11 = .ok (.iconst 1, 1) := by decide +kernel
theorem dX3_sign_12 : decode cX3_sign 12 = .ok (.goto 33, 3) := by decide +kernel
theorem dX3_sign_15 : decode cX3_sign 15 = .ok (.aload_n 0, 1) := by decide +kernel
theorem dX3_sign_16 : decode cX3_sign 16 = .ok (.getfield 19, 3) := by decide +kernel
theorem dX3_sign_19 : decode cX3_sign 19 = .ok (.iconst 3, 1) := by decide +kernel
theorem dX3_sign_20 : decode cX3_sign 20 = .ok (.if_icmp .gt 20, 3) := by decide +kernel
theorem dX3_sign_23 : decode cX3_sign 23 = .ok (.aload_n 0, 1) := by decide +kernel
theorem dX3_sign_24 : decode cX3_sign 24 = .ok (.getfield 23, 3) := by decide +kernel
theorem dX3_sign_27 : decode cX3_sign 27 = .ok (.iconst 3, 1) := by decide +kernel
theorem dX3_sign_28 : decode cX3_sign 28 = .ok (.if_icmp .gt 12, 3) := by decide +kernel
theorem dX3_sign_31 : decode cX3_sign 31 = .ok (.aload_n 0, 1) := by decide +kernel
theorem dX3_sign_32 : decode cX3_sign 32 = .ok (.getfield 137, 3) := by decide +kernel
theorem dX3_sign_35 : decode cX3_sign 35 = .ok (.bipush 8, 2) := by decide +kernel
theorem dX3_sign_37 : decode cX3_sign 37 = .ok (.if_icmp .ne 7, 3) := by decide +kernel
theorem dX3_sign_40 : decode cX3_sign 40 = .ok (.iconst 2, 1) := by decide +kernel
theorem dX3_sign_41 : decode cX3_sign 41 = .ok (.goto 4, 3) := by decide +kernel
theorem dX3_sign_44 : decode cX3_sign 44 = .ok (.iconst 0, 1) := by decide +kernel
theorem dX3_sign_45 : decode cX3_sign 45 = .ok (.putfield 81, 3) := by decide +kernel
theorem dX3_sign_48 : decode cX3_sign 48 = .ok (.aload_n 0, 1) := by decide +kernel
theorem dX3_sign_49 : decode cX3_sign 49 = .ok (.getfield 81, 3) := by decide +kernel
theorem dX3_sign_52 : decode cX3_sign 52 = .ok (.ifCond .le 5, 3) := by decide +kernel
theorem dX3_sign_55 : decode cX3_sign 55 = .ok (.iconst 0, 1) := by decide +kernel
theorem dX3_sign_56 : decode cX3_sign 56 = .ok (.ireturn, 1) := by decide +kernel
theorem dX3_sign_57 : decode cX3_sign 57 = .ok (.aload_n 0, 1) := by decide +kernel
theorem dX3_sign_58 : decode cX3_sign 58 = .ok (.getfield 65, 3) := by decide +kernel
theorem dX3_sign_61 : decode cX3_sign 61 = .ok (.aload_n 0, 1) := by decide +kernel
theorem dX3_sign_62 : decode cX3_sign 62 = .ok (.getfield 137, 3) := by decide +kernel
theorem dX3_sign_65 : decode cX3_sign 65 = .ok (.aload_n 0, 1) := by decide +kernel
theorem dX3_sign_66 : decode cX3_sign 66 = .ok (.getfield 19, 3) := by decide +kernel
theorem dX3_sign_69 : decode cX3_sign 69 = .ok (.iastore, 1) := by decide +kernel
theorem dX3_sign_70 : decode cX3_sign 70 = .ok (.aload_n 0, 1) := by decide +kernel
theorem dX3_sign_71 : decode cX3_sign 71 = .ok (.getfield 68, 3) := by decide +kernel
theorem dX3_sign_74 : decode cX3_sign 74 = .ok (.aload_n 0, 1) := by decide +kernel
theorem dX3_sign_75 : decode cX3_sign 75 = .ok (.getfield 137, 3) := by decide +kernel
theorem dX3_sign_78 : decode cX3_sign 78 = .ok (.aload_n 0, 1) := by decide +kernel
theorem dX3_sign_79 : decode cX3_sign 79 = .ok (.getfield 23, 3) := by decide +kernel
theorem dX3_sign_82 : decode cX3_sign 82 = .ok (.iastore, 1) := by decide +kernel
theorem dX3_sign_83 : decode cX3_sign 83 = .ok (.aload_n 0, 1) := by decide +kernel
theorem dX3_sign_84 : decode cX3_sign 84 = .ok (.getfield 74, 3) := by decide +kernel
theorem dX3_sign_87 : decode cX3_sign 87 = .ok (.aload_n 0, 1) := by decide +kernel
theorem dX3_sign_88 : decode cX3_sign 88 = .ok (.getfield 137, 3) := by decide +kernel
theorem dX3_sign_91 : decode cX3_sign 91 = .ok (.iload_n 1, 1) := by decide +kernel
theorem dX3_sign_92 : decode cX3_sign 92 = .ok (.iastore, 1) := by decide +kernel
theorem dX3_sign_93 : decode cX3_sign 93 = .ok (.iconst 0, 1) := by decide +kernel
theorem dX3_sign_94 : decode cX3_sign 94 = .ok (.istore_n 2, 1) := by decide +kernel
theorem dX3_sign_95 : decode cX3_sign 95 = .ok (.iload_n 2, 1) := by decide +kernel
theorem dX3_sign_96 : decode cX3_sign 96 = .ok (.aload_n 0, 1) := by decide +kernel
theorem dX3_sign_97 : decode cX3_sign 97 = .ok (.getfield 19, 3) := by decide +kernel
theorem dX3_sign_100 : decode cX3_sign 100 = .ok (.aload_n 0, 1) := by decide +kernel
theorem dX3_sign_101 : decode cX3_sign 101 = .ok (.getfield 23, 3) := by decide +kernel
theorem dX3_sign_104 : decode cX3_sign 104 = .ok (.imul, 1) := by decide +kernel
theorem dX3_sign_105 : decode cX3_sign 105 = .ok (.if_icmp .ge 44, 3) := by decide +kernel
theorem dX3_sign_108 : decode cX3_sign 108 = .ok (.aload_n 0, 1) := by decide +kernel
theorem dX3_sign_109 : decode cX3_sign 109 = .ok (.getfield 71, 3) := by decide +kernel
theorem dX3_sign_112 : decode cX3_sign 112 = .ok (.bipush 9, 2) := by decide +kernel
theorem dX3_sign_114 : decode cX3_sign 114 = .ok (.aload_n 0, 1) := by decide +kernel
theorem dX3_sign_115 : decode cX3_sign 115 = .ok (.getfield 137, 3) := by decide +kernel
theorem dX3_sign_118 : decode cX3_sign 118 = .ok (.imul, 1) := by decide +kernel
theorem dX3_sign_119 : decode cX3_sign 119 = .ok (.iload_n 2, 1) := by decide +kernel
theorem dX3_sign_120 : decode cX3_sign 120 = .ok (.iadd, 1) := by decide +kernel
theorem dX3_sign_121 : decode cX3_sign 121 = .ok (.aload_n 0, 1) := by decide +kernel
theorem dX3_sign_122 : decode cX3_sign 122 = .ok (.getfield 26, 3) := by decide +kernel
theorem dX3_sign_125 : decode cX3_sign 125 = .ok (.bipush 8, 2) := by decide +kernel
theorem dX3_sign_127 : decode cX3_sign 127 = .ok (.iload_n 2, 1) := by decide +kernel
theorem dX3_sign_128 : decode cX3_sign 128 = .ok (.aload_n 0, 1) := by decide +kernel
theorem dX3_sign_129 : decode cX3_sign 129 = .ok (.getfield 19, 3) := by decide +kernel
theorem dX3_sign_132 : decode cX3_sign 132 = .ok (.idiv, 1) := by decide +kernel
theorem dX3_sign_133 : decode cX3_sign 133 = .ok (.imul, 1) := by decide +kernel
theorem dX3_sign_134 : decode cX3_sign 134 = .ok (.iload_n 2, 1) := by decide +kernel
theorem dX3_sign_135 : decode cX3_sign 135 = .ok (.aload_n 0, 1) := by decide +kernel
theorem dX3_sign_136 : decode cX3_sign 136 = .ok (.getfield 19, 3) := by decide +kernel
theorem dX3_sign_139 : decode cX3_sign 139 = .ok (.irem, 1) := by decide +kernel
theorem dX3_sign_140 : decode cX3_sign 140 = .ok (.iadd, 1) := by decide +kernel
theorem dX3_sign_141 : decode cX3_sign 141 = .ok (.iaload, 1) := by decide +kernel
theorem dX3_sign_142 : decode cX3_sign 142 = .ok (.iastore, 1) := by decide +kernel
theorem dX3_sign_143 : decode cX3_sign 143 = .ok (.iinc 2 1, 3) := by decide +kernel
theorem dX3_sign_146 : decode cX3_sign 146 = .ok (.goto (-51), 3) := by decide +kernel
theorem dX3_sign_149 : decode cX3_sign 149 = .ok (.aload_n 0, 1) := by decide +kernel
theorem dX3_sign_150 : decode cX3_sign 150 = .ok (.dup, 1) := by decide +kernel
theorem dX3_sign_151 : decode cX3_sign 151 = .ok (.getfield 137, 3) := by decide +kernel
theorem dX3_sign_154 : decode cX3_sign 154 = .ok (.iconst 1, 1) := by decide +kernel
theorem dX3_sign_155 : decode cX3_sign 155 = .ok (.iadd, 1) := by decide +kernel
theorem dX3_sign_156 : decode cX3_sign 156 = .ok (.putfield 137, 3) := by decide +kernel
theorem dX3_sign_159 : decode cX3_sign 159 = .ok (.aload_n 0, 1) := by decide +kernel
theorem dX3_sign_160 : decode cX3_sign 160 = .ok (.getfield 137, 3) := by decide +kernel
theorem dX3_sign_163 : decode cX3_sign 163 = .ok (.iconst 1, 1) := by decide +kernel
theorem dX3_sign_164 : decode cX3_sign 164 = .ok (.isub, 1) := by decide +kernel
theorem dX3_sign_165 : decode cX3_sign 165 = .ok (.ireturn, 1) := by decide +kernel
set_option maxRecDepth 20000 in
theorem ggX3_standsAt_X3_at : GoodIn wsX3_standsAt wsX3_at := goodIn_r _ [10, 11, 12, 13, 14, 15, 16, 17, 18, 19, 20, 21, 22, 23, 24, 25, 26, 27, 28, 29, 30, 31, 32, 33, 34, 35, 36, 37] (by decide +kernel) (by decide +kernel)
set_option maxRecDepth 20000 in
theorem gX3_standsAt_X3_at : GoodIn wsX3_standsAt (wsV RX3 99 RX3 yX3_at wsX3_at) := goodIn_app (goodIn_of _ (by decide +kernel)) ggX3_standsAt_X3_at
theorem dX3_standsAt_0 : decode cX3_standsAt 0 = .ok (.aload_n 0, 1) := by decide +kernel
theorem dX3_standsAt_1 : decode cX3_standsAt 1 = .ok (.getfield 65, 3) := by decide +kernel
theorem dX3_standsAt_4 : decode cX3_standsAt 4 = .ok (.iload_n 1, 1) := by decide +kernel
theorem dX3_standsAt_5 : decode cX3_standsAt 5 = .ok (.iaload, 1) := by decide +kernel
theorem dX3_standsAt_6 : decode cX3_standsAt 6 = .ok (.istore 5, 2) := by decide +kernel
theorem dX3_standsAt_8 : decode cX3_standsAt 8 = .ok (.iload_n 3, 1) := by decide +kernel
theorem dX3_standsAt_9 : decode cX3_standsAt 9 = .ok (.iload 5, 2) := by decide +kernel
theorem dX3_standsAt_11 : decode cX3_standsAt 11 = .ok (.iadd, 1) := by decide +kernel
theorem dX3_standsAt_12 : decode cX3_standsAt 12 = .ok (.aload_n 0, 1) := by decide +kernel
theorem dX3_standsAt_13 : decode cX3_standsAt 13 = .ok (.getfield 29, 3) := by decide +kernel
theorem dX3_standsAt_16 : decode cX3_standsAt 16 = .ok (.iload_n 2, 1) := by decide +kernel
theorem dX3_standsAt_17 : decode cX3_standsAt 17 = .ok (.iaload, 1) := by decide +kernel
theorem dX3_standsAt_18 : decode cX3_standsAt 18 = .ok (.if_icmp .gt 25, 3) := by decide +kernel
theorem dX3_standsAt_21 : decode cX3_standsAt 21 = .ok (.iload 4, 2) := by decide +kernel
theorem dX3_standsAt_23 : decode cX3_standsAt 23 = .ok (.aload_n 0, 1) := by decide +kernel
theorem dX3_standsAt_24 : decode cX3_standsAt 24 = .ok (.getfield 68, 3) := by decide +kernel
theorem dX3_standsAt_27 : decode cX3_standsAt 27 = .ok (.iload_n 1, 1) := by decide +kernel
theorem dX3_standsAt_28 : decode cX3_standsAt 28 = .ok (.iaload, 1) := by decide +kernel
theorem dX3_standsAt_29 : decode cX3_standsAt 29 = .ok (.iadd, 1) := by decide +kernel
theorem dX3_standsAt_30 : decode cX3_standsAt 30 = .ok (.aload_n 0, 1) := by decide +kernel
theorem dX3_standsAt_31 : decode cX3_standsAt 31 = .ok (.getfield 32, 3) := by decide +kernel
theorem dX3_standsAt_34 : decode cX3_standsAt 34 = .ok (.iload_n 2, 1) := by decide +kernel
theorem dX3_standsAt_35 : decode cX3_standsAt 35 = .ok (.iaload, 1) := by decide +kernel
theorem dX3_standsAt_36 : decode cX3_standsAt 36 = .ok (.if_icmp .gt 7, 3) := by decide +kernel
theorem dX3_standsAt_39 : decode cX3_standsAt 39 = .ok (.iconst 1, 1) := by decide +kernel
theorem dX3_standsAt_40 : decode cX3_standsAt 40 = .ok (.goto 4, 3) := by decide +kernel
theorem dX3_standsAt_43 : decode cX3_standsAt 43 = .ok (.iconst 0, 1) := by decide +kernel
theorem dX3_standsAt_44 : decode cX3_standsAt 44 = .ok (.istore 6, 2) := by decide +kernel
theorem dX3_standsAt_46 : decode cX3_standsAt 46 = .ok (.iconst 0, 1) := by decide +kernel
theorem dX3_standsAt_47 : decode cX3_standsAt 47 = .ok (.istore 7, 2) := by decide +kernel
theorem dX3_standsAt_49 : decode cX3_standsAt 49 = .ok (.iload 7, 2) := by decide +kernel
theorem dX3_standsAt_51 : decode cX3_standsAt 51 = .ok (.iload 5, 2) := by decide +kernel
theorem dX3_standsAt_53 : decode cX3_standsAt 53 = .ok (.aload_n 0, 1) := by decide +kernel
theorem dX3_standsAt_54 : decode cX3_standsAt 54 = .ok (.getfield 68, 3) := by decide +kernel
theorem dX3_standsAt_57 : decode cX3_standsAt 57 = .ok (.iload_n 1, 1) := by decide +kernel
theorem dX3_standsAt_58 : decode cX3_standsAt 58 = .ok (.iaload, 1) := by decide +kernel
theorem dX3_standsAt_59 : decode cX3_standsAt 59 = .ok (.imul, 1) := by decide +kernel
theorem dX3_standsAt_60 : decode cX3_standsAt 60 = .ok (.if_icmp .ge 56, 3) := by decide +kernel
theorem dX3_standsAt_63 : decode cX3_standsAt 63 = .ok (.iload 6, 2) := by decide +kernel
theorem dX3_standsAt_65 : decode cX3_standsAt 65 = .ok (.ifCond .eq 51, 3) := by decide +kernel
theorem dX3_standsAt_68 : decode cX3_standsAt 68 = .ok (.aload_n 0, 1) := by decide +kernel
theorem dX3_standsAt_69 : decode cX3_standsAt 69 = .ok (.getfield 71, 3) := by decide +kernel
theorem dX3_standsAt_72 : decode cX3_standsAt 72 = .ok (.bipush 9, 2) := by decide +kernel
theorem dX3_standsAt_74 : decode cX3_standsAt 74 = .ok (.iload_n 1, 1) := by decide +kernel
theorem dX3_standsAt_75 : decode cX3_standsAt 75 = .ok (.imul, 1) := by decide +kernel
theorem dX3_standsAt_76 : decode cX3_standsAt 76 = .ok (.iload 7, 2) := by decide +kernel
theorem dX3_standsAt_78 : decode cX3_standsAt 78 = .ok (.iadd, 1) := by decide +kernel
theorem dX3_standsAt_79 : decode cX3_standsAt 79 = .ok (.iaload, 1) := by decide +kernel
theorem dX3_standsAt_80 : decode cX3_standsAt 80 = .ok (.aload_n 0, 1) := by decide +kernel
theorem dX3_standsAt_81 : decode cX3_standsAt 81 = .ok (.iload_n 2, 1) := by decide +kernel
theorem dX3_standsAt_82 : decode cX3_standsAt 82 = .ok (.iload_n 3, 1) := by decide +kernel
theorem dX3_standsAt_83 : decode cX3_standsAt 83 = .ok (.iload 7, 2) := by decide +kernel
theorem dX3_standsAt_85 : decode cX3_standsAt 85 = .ok (.iload 5, 2) := by decide +kernel
theorem dX3_standsAt_87 : decode cX3_standsAt 87 = .ok (.irem, 1) := by decide +kernel
theorem dX3_standsAt_88 : decode cX3_standsAt 88 = .ok (.iadd, 1) := by decide +kernel
theorem dX3_standsAt_89 : decode cX3_standsAt 89 = .ok (.iload 4, 2) := by decide +kernel
theorem dX3_standsAt_91 : decode cX3_standsAt 91 = .ok (.iload 7, 2) := by decide +kernel
theorem dX3_standsAt_93 : decode cX3_standsAt 93 = .ok (.iload 5, 2) := by decide +kernel
theorem dX3_standsAt_95 : decode cX3_standsAt 95 = .ok (.idiv, 1) := by decide +kernel
theorem dX3_standsAt_96 : decode cX3_standsAt 96 = .ok (.iadd, 1) := by decide +kernel
theorem dX3_standsAt_97 : decode cX3_standsAt 97 = .ok (.invokevirtual 99, 3) := by decide +kernel
theorem dX3_standsAt_100 : decode cX3_standsAt 100 = .ok (.if_icmp .ne 7, 3) := by decide +kernel
theorem dX3_standsAt_103 : decode cX3_standsAt 103 = .ok (.iconst 1, 1) := by decide +kernel
theorem dX3_standsAt_104 : decode cX3_standsAt 104 = .ok (.goto 4, 3) := by decide +kernel
theorem dX3_standsAt_107 : decode cX3_standsAt 107 = .ok (.iconst 0, 1) := by decide +kernel
theorem dX3_standsAt_108 : decode cX3_standsAt 108 = .ok (.istore 6, 2) := by decide +kernel
theorem dX3_standsAt_110 : decode cX3_standsAt 110 = .ok (.iinc 7 1, 3) := by decide +kernel
theorem dX3_standsAt_113 : decode cX3_standsAt 113 = .ok (.goto (-64), 3) := by decide +kernel
theorem dX3_standsAt_116 : decode cX3_standsAt 116 = .ok (.iload 6, 2) := by decide +kernel
theorem dX3_standsAt_118 : decode cX3_standsAt 118 = .ok (.ireturn, 1) := by decide +kernel
set_option maxRecDepth 20000 in
theorem ggX3_standsIn_X3_standsAt : GoodIn wsX3_standsIn wsX3_standsAt := goodIn_r _ [5, 6, 7, 8, 9, 10, 11, 12, 13, 4, 14, 15, 16, 17, 18, 19, 20, 21, 22, 23, 24, 25, 26, 27, 28, 29, 30, 31, 32, 33, 34, 35, 36, 37, 38, 39, 40, 41] (by decide +kernel) (by decide +kernel)
set_option maxRecDepth 20000 in
theorem gX3_standsIn_X3_standsAt : GoodIn wsX3_standsIn (wsV RX3 140 RX3 yX3_standsAt wsX3_standsAt) := goodIn_app (goodIn_of _ (by decide +kernel)) ggX3_standsIn_X3_standsAt
theorem dX3_standsIn_0 : decode cX3_standsIn 0 = .ok (.iconst 0, 1) := by decide +kernel
theorem dX3_standsIn_1 : decode cX3_standsIn 1 = .ok (.istore_n 3, 1) := by decide +kernel
theorem dX3_standsIn_2 : decode cX3_standsIn 2 = .ok (.iconst 0, 1) := by decide +kernel
theorem dX3_standsIn_3 : decode cX3_standsIn 3 = .ok (.istore 4, 2) := by decide +kernel
theorem dX3_standsIn_5 : decode cX3_standsIn 5 = .ok (.iload 4, 2) := by decide +kernel
theorem dX3_standsIn_7 : decode cX3_standsIn 7 = .ok (.bipush 48, 2) := by decide +kernel
theorem dX3_standsIn_9 : decode cX3_standsIn 9 = .ok (.if_icmp .ge 36, 3) := by decide +kernel
theorem dX3_standsIn_12 : decode cX3_standsIn 12 = .ok (.iload_n 3, 1) := by decide +kernel
theorem dX3_standsIn_13 : decode cX3_standsIn 13 = .ok (.aload_n 0, 1) := by decide +kernel
theorem dX3_standsIn_14 : decode cX3_standsIn 14 = .ok (.iload_n 1, 1) := by decide +kernel
theorem dX3_standsIn_15 : decode cX3_standsIn 15 = .ok (.iload_n 2, 1) := by decide +kernel
theorem dX3_standsIn_16 : decode cX3_standsIn 16 = .ok (.iload 4, 2) := by decide +kernel
theorem dX3_standsIn_18 : decode cX3_standsIn 18 = .ok (.bipush 8, 2) := by decide +kernel
theorem dX3_standsIn_20 : decode cX3_standsIn 20 = .ok (.irem, 1) := by decide +kernel
theorem dX3_standsIn_21 : decode cX3_standsIn 21 = .ok (.iload 4, 2) := by decide +kernel
theorem dX3_standsIn_23 : decode cX3_standsIn 23 = .ok (.bipush 8, 2) := by decide +kernel
theorem dX3_standsIn_25 : decode cX3_standsIn 25 = .ok (.idiv, 1) := by decide +kernel
theorem dX3_standsIn_26 : decode cX3_standsIn 26 = .ok (.invokevirtual 140, 3) := by decide +kernel
theorem dX3_standsIn_29 : decode cX3_standsIn 29 = .ok (.ifCond .eq 7, 3) := by decide +kernel
theorem dX3_standsIn_32 : decode cX3_standsIn 32 = .ok (.iconst 1, 1) := by decide +kernel
theorem dX3_standsIn_33 : decode cX3_standsIn 33 = .ok (.goto 4, 3) := by decide +kernel
theorem dX3_standsIn_36 : decode cX3_standsIn 36 = .ok (.iconst 0, 1) := by decide +kernel
theorem dX3_standsIn_37 : decode cX3_standsIn 37 = .ok (.iadd, 1) := by decide +kernel
theorem dX3_standsIn_38 : decode cX3_standsIn 38 = .ok (.istore_n 3, 1) := by decide +kernel
theorem dX3_standsIn_39 : decode cX3_standsIn 39 = .ok (.iinc 4 1, 3) := by decide +kernel
theorem dX3_standsIn_42 : decode cX3_standsIn 42 = .ok (.goto (-37), 3) := by decide +kernel
theorem dX3_standsIn_45 : decode cX3_standsIn 45 = .ok (.iload_n 3, 1) := by decide +kernel
theorem dX3_standsIn_46 : decode cX3_standsIn 46 = .ok (.ireturn, 1) := by decide +kernel
set_option maxRecDepth 20000 in
theorem ggX3_stands_X3_isIn : GoodIn wsX3_stands wsX3_isIn := goodIn_r _ [6] (by decide +kernel) (by decide +kernel)
set_option maxRecDepth 20000 in
theorem gX3_stands_X3_isIn : GoodIn wsX3_stands (va_wsS RX3 84 yX3_isIn wsX3_isIn) := goodIn_app (goodIn_of _ (by decide +kernel)) ggX3_stands_X3_isIn
set_option maxRecDepth 20000 in
theorem ggX3_stands_X3_isPattern : GoodIn wsX3_stands wsX3_isPattern := goodIn_r _ [10, 11, 3, 4, 5, 6, 30, 31, 32, 33, 34, 35, 36, 37, 38, 39, 40, 41, 42, 43, 44, 45, 46, 47, 48, 49, 50, 51, 52, 53, 54, 55] (by decide +kernel) (by decide +kernel)
set_option maxRecDepth 20000 in
theorem gX3_stands_X3_isPattern : GoodIn wsX3_stands (wsV RX3 118 RX3 yX3_isPattern wsX3_isPattern) := goodIn_app (goodIn_of _ (by decide +kernel)) ggX3_stands_X3_isPattern
set_option maxRecDepth 20000 in
theorem ggX3_stands_X3_standsIn : GoodIn wsX3_stands wsX3_standsIn := goodIn_r _ [15, 16, 17, 18, 5, 19, 20, 21, 22, 23, 24, 25, 26, 27, 28, 29, 30, 31, 32, 33, 34, 35, 36, 37, 38, 39, 40, 41, 42, 43, 44, 45, 46, 47, 48, 49, 50, 51, 52, 53, 54, 55] (by decide +kernel) (by decide +kernel)
set_option maxRecDepth 20000 in
theorem gX3_stands_X3_standsIn : GoodIn wsX3_stands (wsV RX3 144 RX3 yX3_standsIn wsX3_standsIn) := goodIn_app (goodIn_of _ (by decide +kernel)) ggX3_stands_X3_standsIn
theorem dX3_stands_0 : decode cX3_stands 0 = .ok (.aload_n 0, 1) := by decide +kernel
theorem dX3_stands_1 : decode cX3_stands 1 = .ok (.iload_n 1, 1) := by decide +kernel
theorem dX3_stands_2 : decode cX3_stands 2 = .ok (.iconst 0, 1) := by decide +kernel
theorem dX3_stands_3 : decode cX3_stands 3 = .ok (.aload_n 0, 1) := by decide +kernel
theorem dX3_stands_4 : decode cX3_stands 4 = .ok (.getfield 137, 3) := by decide +kernel
theorem dX3_stands_7 : decode cX3_stands 7 = .ok (.iconst 1, 1) := by decide +kernel
theorem dX3_stands_8 : decode cX3_stands 8 = .ok (.isub, 1) := by decide +kernel
theorem dX3_stands_9 : decode cX3_stands 9 = .ok (.invokestatic 84, 3) := by decide +kernel
theorem dX3_stands_12 : decode cX3_stands 12 = .ok (.ifCond .eq 15, 3) := by decide +kernel
theorem dX3_stands_15 : decode cX3_stands 15 = .ok (.aload_n 0, 1) := by decide +kernel
theorem dX3_stands_16 : decode cX3_stands 16 = .ok (.iload_n 2, 1) := by decide +kernel
theorem dX3_stands_17 : decode cX3_stands 17 = .ok (.invokevirtual 118, 3) := by decide +kernel
theorem dX3_stands_20 : decode cX3_stands 20 = .ok (.ifCond .eq 7, 3) := by decide +kernel
theorem dX3_stands_23 : decode cX3_stands 23 = .ok (.iconst 0, 1) := by decide +kernel
theorem dX3_stands_24 : decode cX3_stands 24 = .ok (.goto 4, 3) := by decide +kernel
theorem dX3_stands_27 : decode cX3_stands 27 = .ok (.iconst 1, 1) := by decide +kernel
theorem dX3_stands_28 : decode cX3_stands 28 = .ok (.putfield 81, 3) := by decide +kernel
theorem dX3_stands_31 : decode cX3_stands 31 = .ok (.aload_n 0, 1) := by decide +kernel
theorem dX3_stands_32 : decode cX3_stands 32 = .ok (.getfield 81, 3) := by decide +kernel
theorem dX3_stands_35 : decode cX3_stands 35 = .ok (.ifCond .le 7, 3) := by decide +kernel
theorem dX3_stands_38 : decode cX3_stands 38 = .ok (.iconst 0, 1) := by decide +kernel
theorem dX3_stands_39 : decode cX3_stands 39 = .ok (.goto 9, 3) := by decide +kernel
theorem dX3_stands_42 : decode cX3_stands 42 = .ok (.aload_n 0, 1) := by decide +kernel
theorem dX3_stands_43 : decode cX3_stands 43 = .ok (.iload_n 1, 1) := by decide +kernel
theorem dX3_stands_44 : decode cX3_stands 44 = .ok (.iload_n 2, 1) := by decide +kernel
theorem dX3_stands_45 : decode cX3_stands 45 = .ok (.invokevirtual 144, 3) := by decide +kernel
theorem dX3_stands_48 : decode cX3_stands 48 = .ok (.ireturn, 1) := by decide +kernel
set_option maxRecDepth 20000 in
theorem ggX3_storyOf_X3_standsIn : GoodIn wsX3_storyOf wsX3_standsIn := goodIn_r _ [7, 8, 9, 10, 6, 11, 12, 13, 14, 15, 16, 17, 18, 19, 20, 21, 22, 23, 24, 25, 26, 27, 28, 29, 30, 31, 32, 33, 34, 35, 36, 37, 38, 39, 40, 41, 42, 43, 44, 45, 46, 47] (by decide +kernel) (by decide +kernel)
set_option maxRecDepth 20000 in
theorem gX3_storyOf_X3_standsIn : GoodIn wsX3_storyOf (wsV RX3 144 RX3 yX3_standsIn wsX3_standsIn) := goodIn_app (goodIn_of _ (by decide +kernel)) ggX3_storyOf_X3_standsIn
theorem dX3_storyOf_0 : decode cX3_storyOf 0 = .ok (.iconst 0, 1) := by decide +kernel
theorem dX3_storyOf_1 : decode cX3_storyOf 1 = .ok (.istore_n 2, 1) := by decide +kernel
theorem dX3_storyOf_2 : decode cX3_storyOf 2 = .ok (.iconst 0, 1) := by decide +kernel
theorem dX3_storyOf_3 : decode cX3_storyOf 3 = .ok (.istore_n 3, 1) := by decide +kernel
theorem dX3_storyOf_4 : decode cX3_storyOf 4 = .ok (.iload_n 3, 1) := by decide +kernel
theorem dX3_storyOf_5 : decode cX3_storyOf 5 = .ok (.aload_n 0, 1) := by decide +kernel
theorem dX3_storyOf_6 : decode cX3_storyOf 6 = .ok (.getfield 137, 3) := by decide +kernel
theorem dX3_storyOf_9 : decode cX3_storyOf 9 = .ok (.if_icmp .ge 25, 3) := by decide +kernel
theorem dX3_storyOf_12 : decode cX3_storyOf 12 = .ok (.iload_n 2, 1) := by decide +kernel
theorem dX3_storyOf_13 : decode cX3_storyOf 13 = .ok (.aload_n 0, 1) := by decide +kernel
theorem dX3_storyOf_14 : decode cX3_storyOf 14 = .ok (.getfield 74, 3) := by decide +kernel
theorem dX3_storyOf_17 : decode cX3_storyOf 17 = .ok (.iload_n 3, 1) := by decide +kernel
theorem dX3_storyOf_18 : decode cX3_storyOf 18 = .ok (.iaload, 1) := by decide +kernel
theorem dX3_storyOf_19 : decode cX3_storyOf 19 = .ok (.aload_n 0, 1) := by decide +kernel
theorem dX3_storyOf_20 : decode cX3_storyOf 20 = .ok (.iload_n 3, 1) := by decide +kernel
theorem dX3_storyOf_21 : decode cX3_storyOf 21 = .ok (.iload_n 1, 1) := by decide +kernel
theorem dX3_storyOf_22 : decode cX3_storyOf 22 = .ok (.invokevirtual 144, 3) := by decide +kernel
theorem dX3_storyOf_25 : decode cX3_storyOf 25 = .ok (.imul, 1) := by decide +kernel
theorem dX3_storyOf_26 : decode cX3_storyOf 26 = .ok (.iadd, 1) := by decide +kernel
theorem dX3_storyOf_27 : decode cX3_storyOf 27 = .ok (.istore_n 2, 1) := by decide +kernel
theorem dX3_storyOf_28 : decode cX3_storyOf 28 = .ok (.iinc 3 1, 3) := by decide +kernel
theorem dX3_storyOf_31 : decode cX3_storyOf 31 = .ok (.goto (-27), 3) := by decide +kernel
theorem dX3_storyOf_34 : decode cX3_storyOf 34 = .ok (.iload_n 2, 1) := by decide +kernel
theorem dX3_storyOf_35 : decode cX3_storyOf 35 = .ok (.ireturn, 1) := by decide +kernel
set_option maxRecDepth 20000 in
theorem ggX3_story_X3_asks : GoodIn wsX3_story wsX3_asks := goodIn_r _ [5, 6, 7, 8, 9, 4, 10, 11, 12, 13, 14, 39, 40, 41, 42, 43, 44, 45, 46, 47, 48, 49, 50, 51, 52, 53, 54, 55, 56, 57, 58, 59, 60, 61, 62, 63, 64] (by decide +kernel) (by decide +kernel)
set_option maxRecDepth 20000 in
theorem gX3_story_X3_asks : GoodIn wsX3_story (wsV RX3 121 RX3 yX3_asks wsX3_asks) := goodIn_app (goodIn_of _ (by decide +kernel)) ggX3_story_X3_asks
set_option maxRecDepth 20000 in
theorem ggX3_story_X3_storyOf : GoodIn wsX3_story wsX3_storyOf := goodIn_r _ [18, 19, 20, 21, 22, 23, 4, 24, 25, 26, 27, 28, 29, 30, 31, 32, 33, 34, 35, 36, 37, 38, 39, 40, 41, 42, 43, 44, 45, 46, 47, 48, 49, 50, 51, 52, 53, 54, 55, 56, 57, 58, 59, 60, 61, 62, 63, 64] (by decide +kernel) (by decide +kernel)
set_option maxRecDepth 20000 in
theorem gX3_story_X3_storyOf : GoodIn wsX3_story (wsV RX3 147 RX3 yX3_storyOf wsX3_storyOf) := goodIn_app (goodIn_of _ (by decide +kernel)) ggX3_story_X3_storyOf
theorem dX3_story_0 : decode cX3_story 0 = .ok (.aload_n 0, 1) := by decide +kernel
theorem dX3_story_1 : decode cX3_story 1 = .ok (.iload_n 1, 1) := by decide +kernel
theorem dX3_story_2 : decode cX3_story 2 = .ok (.invokevirtual 121, 3) := by decide +kernel
theorem dX3_story_5 : decode cX3_story 5 = .ok (.ifCond .eq 11, 3) := by decide +kernel
theorem dX3_story_8 : decode cX3_story 8 = .ok (.aload_n 0, 1) := by decide +kernel
theorem dX3_story_9 : decode cX3_story 9 = .ok (.iload_n 1, 1) := by decide +kernel
theorem dX3_story_10 : decode cX3_story 10 = .ok (.invokevirtual 147, 3) := by decide +kernel
theorem dX3_story_13 : decode cX3_story 13 = .ok (.goto 4, 3) := by decide +kernel
theorem dX3_story_16 : decode cX3_story 16 = .ok (.iconst 0, 1) := by decide +kernel
theorem dX3_story_17 : decode cX3_story 17 = .ok (.ireturn, 1) := by decide +kernel
set_option maxRecDepth 20000 in
theorem ggX3_hear_X3_isBelt : GoodIn wsX3_hear wsX3_isBelt := goodIn_r _ [8, 3, 9, 10, 7, 11, 39, 40, 41, 42, 43, 44, 45, 46, 47, 48, 49, 50, 51, 52, 53, 54, 55, 56, 57, 58, 59, 60, 61, 62, 63, 64] (by decide +kernel) (by decide +kernel)
set_option maxRecDepth 20000 in
theorem gX3_hear_X3_isBelt : GoodIn wsX3_hear (wsV RX3 103 RX3 yX3_isBelt wsX3_isBelt) := goodIn_app (goodIn_of _ (by decide +kernel)) ggX3_hear_X3_isBelt
set_option maxRecDepth 20000 in
theorem ggX3_hear_X3_isPerson : GoodIn wsX3_hear wsX3_isPerson := goodIn_r _ [14, 9, 10, 7, 11] (by decide +kernel) (by decide +kernel)
set_option maxRecDepth 20000 in
theorem gX3_hear_X3_isPerson : GoodIn wsX3_hear (va_wsS RX3 91 yX3_isPerson wsX3_isPerson) := goodIn_app (goodIn_of _ (by decide +kernel)) ggX3_hear_X3_isPerson
set_option maxRecDepth 20000 in
theorem ggX3_hear_X3_storyOf : GoodIn wsX3_hear wsX3_storyOf := goodIn_r _ [18, 19, 20, 21, 22, 23, 7, 24, 25, 26, 27, 28, 29, 30, 31, 32, 33, 34, 35, 36, 37, 38, 39, 40, 41, 42, 43, 44, 45, 46, 47, 48, 49, 50, 51, 52, 53, 54, 55, 56, 57, 58, 59, 60, 61, 62, 63, 64] (by decide +kernel) (by decide +kernel)
set_option maxRecDepth 20000 in
theorem gX3_hear_X3_storyOf : GoodIn wsX3_hear (wsV RX3 147 RX3 yX3_storyOf wsX3_storyOf) := goodIn_app (goodIn_of _ (by decide +kernel)) ggX3_hear_X3_storyOf
theorem dX3_hear_0 : decode cX3_hear 0 = .ok (.aload_n 0, 1) := by decide +kernel
theorem dX3_hear_1 : decode cX3_hear 1 = .ok (.aload_n 0, 1) := by decide +kernel
theorem dX3_hear_2 : decode cX3_hear 2 = .ok (.iload_n 1, 1) := by decide +kernel
theorem dX3_hear_3 : decode cX3_hear 3 = .ok (.invokevirtual 103, 3) := by decide +kernel
theorem dX3_hear_6 : decode cX3_hear 6 = .ok (.ifCond .eq 14, 3) := by decide +kernel
theorem dX3_hear_9 : decode cX3_hear 9 = .ok (.iload_n 2, 1) := by decide +kernel
theorem dX3_hear_10 : decode cX3_hear 10 = .ok (.invokestatic 91, 3) := by decide +kernel
theorem dX3_hear_13 : decode cX3_hear 13 = .ok (.ifCond .eq 7, 3) := by decide +kernel
theorem dX3_hear_16 : decode cX3_hear 16 = .ok (.iconst 0, 1) := by decide +kernel
theorem dX3_hear_17 : decode cX3_hear 17 = .ok (.goto 4, 3) := by decide +kernel
theorem dX3_hear_20 : decode cX3_hear 20 = .ok (.iconst 1, 1) := by decide +kernel
theorem dX3_hear_21 : decode cX3_hear 21 = .ok (.putfield 81, 3) := by decide +kernel
theorem dX3_hear_24 : decode cX3_hear 24 = .ok (.aload_n 0, 1) := by decide +kernel
theorem dX3_hear_25 : decode cX3_hear 25 = .ok (.getfield 81, 3) := by decide +kernel
theorem dX3_hear_28 : decode cX3_hear 28 = .ok (.ifCond .le 5, 3) := by decide +kernel
theorem dX3_hear_31 : decode cX3_hear 31 = .ok (.lconst 0, 1) := by decide +kernel
theorem dX3_hear_32 : decode cX3_hear 32 = .ok (.lreturn, 1) := by decide +kernel
theorem dX3_hear_33 : decode cX3_hear 33 = .ok (.aload_n 0, 1) := by decide +kernel
theorem dX3_hear_34 : decode cX3_hear 34 = .ok (.getfield 77, 3) := by decide +kernel
theorem dX3_hear_37 : decode cX3_hear 37 = .ok (.iload_n 2, 1) := by decide +kernel
theorem dX3_hear_38 : decode cX3_hear 38 = .ok (.dup2, 1) := by decide +kernel
theorem dX3_hear_39 : decode cX3_hear 39 = .ok (.laload, 1) := by decide +kernel
theorem dX3_hear_40 : decode cX3_hear 40 = .ok (.aload_n 0, 1) := by decide +kernel
theorem dX3_hear_41 : decode cX3_hear 41 = .ok (.aload_n 0, 1) := by decide +kernel
theorem dX3_hear_42 : decode cX3_hear 42 = .ok (.getfield 44, 3) := by decide +kernel
theorem dX3_hear_45 : decode cX3_hear 45 = .ok (.iload_n 1, 1) := by decide +kernel
theorem dX3_hear_46 : decode cX3_hear 46 = .ok (.iaload, 1) := by decide +kernel
theorem dX3_hear_47 : decode cX3_hear 47 = .ok (.invokevirtual 147, 3) := by decide +kernel
theorem dX3_hear_50 : decode cX3_hear 50 = .ok (.i2l, 1) := by decide +kernel
theorem dX3_hear_51 : decode cX3_hear 51 = .ok (.ladd, 1) := by decide +kernel
theorem dX3_hear_52 : decode cX3_hear 52 = .ok (.lastore, 1) := by decide +kernel
theorem dX3_hear_53 : decode cX3_hear 53 = .ok (.aload_n 0, 1) := by decide +kernel
theorem dX3_hear_54 : decode cX3_hear 54 = .ok (.getfield 77, 3) := by decide +kernel
theorem dX3_hear_57 : decode cX3_hear 57 = .ok (.iload_n 2, 1) := by decide +kernel
theorem dX3_hear_58 : decode cX3_hear 58 = .ok (.laload, 1) := by decide +kernel
theorem dX3_hear_59 : decode cX3_hear 59 = .ok (.lreturn, 1) := by decide +kernel
set_option maxRecDepth 20000 in
theorem ggX3_ranked_X3_isIn : GoodIn wsX3_ranked wsX3_isIn := goodIn_r _ [6] (by decide +kernel) (by decide +kernel)
set_option maxRecDepth 20000 in
theorem gX3_ranked_X3_isIn : GoodIn wsX3_ranked (va_wsS RX3 84 yX3_isIn wsX3_isIn) := goodIn_app (goodIn_of _ (by decide +kernel)) ggX3_ranked_X3_isIn
theorem dX3_ranked_0 : decode cX3_ranked 0 = .ok (.aload_n 0, 1) := by decide +kernel
theorem dX3_ranked_1 : decode cX3_ranked 1 = .ok (.iload_n 1, 1) := by decide +kernel
theorem dX3_ranked_2 : decode cX3_ranked 2 = .ok (.iconst 0, 1) := by decide +kernel
theorem dX3_ranked_3 : decode cX3_ranked 3 = .ok (.bipush 6, 2) := by decide +kernel
theorem dX3_ranked_5 : decode cX3_ranked 5 = .ok (.invokestatic 84, 3) := by decide +kernel
theorem dX3_ranked_8 : decode cX3_ranked 8 = .ok (.ifCond .eq 7, 3) := by decide +kernel
theorem dX3_ranked_11 : decode cX3_ranked 11 = .ok (.iconst 0, 1) := by decide +kernel
theorem dX3_ranked_12 : decode cX3_ranked 12 = .ok (.goto 4, 3) := by decide +kernel
theorem dX3_ranked_15 : decode cX3_ranked 15 = .ok (.iconst 1, 1) := by decide +kernel
theorem dX3_ranked_16 : decode cX3_ranked 16 = .ok (.putfield 81, 3) := by decide +kernel
theorem dX3_ranked_19 : decode cX3_ranked 19 = .ok (.iconst 0, 1) := by decide +kernel
theorem dX3_ranked_20 : decode cX3_ranked 20 = .ok (.istore_n 2, 1) := by decide +kernel
theorem dX3_ranked_21 : decode cX3_ranked 21 = .ok (.iconst 0, 1) := by decide +kernel
theorem dX3_ranked_22 : decode cX3_ranked 22 = .ok (.istore_n 3, 1) := by decide +kernel
theorem dX3_ranked_23 : decode cX3_ranked 23 = .ok (.iload_n 3, 1) := by decide +kernel
theorem dX3_ranked_24 : decode cX3_ranked 24 = .ok (.bipush 7, 2) := by decide +kernel
theorem dX3_ranked_26 : decode cX3_ranked 26 = .ok (.if_icmp .ge 90, 3) := by decide +kernel
theorem dX3_ranked_29 : decode cX3_ranked 29 = .ok (.iconst 0, 1) := by decide +kernel
theorem dX3_ranked_30 : decode cX3_ranked 30 = .ok (.istore 4, 2) := by decide +kernel
theorem dX3_ranked_32 : decode cX3_ranked 32 = .ok (.iconst 0, 1) := by decide +kernel
theorem dX3_ranked_33 : decode cX3_ranked 33 = .ok (.istore 5, 2) := by decide +kernel
theorem dX3_ranked_35 : decode cX3_ranked 35 = .ok (.iload 5, 2) := by decide +kernel
theorem dX3_ranked_37 : decode cX3_ranked 37 = .ok (.bipush 7, 2) := by decide +kernel
theorem dX3_ranked_39 : decode cX3_ranked 39 = .ok (.if_icmp .ge 59, 3) := by decide +kernel
theorem dX3_ranked_42 : decode cX3_ranked 42 = .ok (.iload 4, 2) := by decide +kernel
theorem dX3_ranked_44 : decode cX3_ranked 44 = .ok (.aload_n 0, 1) := by decide +kernel
theorem dX3_ranked_45 : decode cX3_ranked 45 = .ok (.getfield 77, 3) := by decide +kernel
theorem dX3_ranked_48 : decode cX3_ranked 48 = .ok (.iload 5, 2) := by decide +kernel
theorem dX3_ranked_50 : decode cX3_ranked 50 = .ok (.laload, 1) := by decide +kernel
theorem dX3_ranked_51 : decode cX3_ranked 51 = .ok (.aload_n 0, 1) := by decide +kernel
theorem dX3_ranked_52 : decode cX3_ranked 52 = .ok (.getfield 77, 3) := by decide +kernel
theorem dX3_ranked_55 : decode cX3_ranked 55 = .ok (.iload_n 3, 1) := by decide +kernel
theorem dX3_ranked_56 : decode cX3_ranked 56 = .ok (.laload, 1) := by decide +kernel
theorem dX3_ranked_57 : decode cX3_ranked 57 = .ok (.lcmp, 1) := by decide +kernel
theorem dX3_ranked_58 : decode cX3_ranked 58 = .ok (.ifCond .gt 26, 3) := by decide +kernel
theorem dX3_ranked_61 : decode cX3_ranked 61 = .ok (.aload_n 0, 1) := by decide +kernel
theorem dX3_ranked_62 : decode cX3_ranked 62 = .ok (.getfield 77, 3) := by decide +kernel
theorem dX3_ranked_65 : decode cX3_ranked 65 = .ok (.iload 5, 2) := by decide +kernel
theorem dX3_ranked_67 : decode cX3_ranked 67 = .ok (.laload, 1) := by decide +kernel
theorem dX3_ranked_68 : decode cX3_ranked 68 = .ok (.aload_n 0, 1) := by decide +kernel
theorem dX3_ranked_69 : decode cX3_ranked 69 = .ok (.getfield 77, 3) := by decide +kernel
theorem dX3_ranked_72 : decode cX3_ranked 72 = .ok (.iload_n 3, 1) := by decide +kernel
theorem dX3_ranked_73 : decode cX3_ranked 73 = .ok (.laload, 1) := by decide +kernel
theorem dX3_ranked_74 : decode cX3_ranked 74 = .ok (.lcmp, 1) := by decide +kernel
theorem dX3_ranked_75 : decode cX3_ranked 75 = .ok (.ifCond .ne 13, 3) := by decide +kernel
theorem dX3_ranked_78 : decode cX3_ranked 78 = .ok (.iload 5, 2) := by decide +kernel
theorem dX3_ranked_80 : decode cX3_ranked 80 = .ok (.iload_n 3, 1) := by decide +kernel
theorem dX3_ranked_81 : decode cX3_ranked 81 = .ok (.if_icmp .ge 7, 3) := by decide +kernel
theorem dX3_ranked_84 : decode cX3_ranked 84 = .ok (.iconst 1, 1) := by decide +kernel
theorem dX3_ranked_85 : decode cX3_ranked 85 = .ok (.goto 4, 3) := by decide +kernel
theorem dX3_ranked_88 : decode cX3_ranked 88 = .ok (.iconst 0, 1) := by decide +kernel
theorem dX3_ranked_89 : decode cX3_ranked 89 = .ok (.iadd, 1) := by decide +kernel
theorem dX3_ranked_90 : decode cX3_ranked 90 = .ok (.istore 4, 2) := by decide +kernel
theorem dX3_ranked_92 : decode cX3_ranked 92 = .ok (.iinc 5 1, 3) := by decide +kernel
theorem dX3_ranked_95 : decode cX3_ranked 95 = .ok (.goto (-60), 3) := by decide +kernel
theorem dX3_ranked_98 : decode cX3_ranked 98 = .ok (.iload 4, 2) := by decide +kernel
theorem dX3_ranked_100 : decode cX3_ranked 100 = .ok (.iload_n 1, 1) := by decide +kernel
theorem dX3_ranked_101 : decode cX3_ranked 101 = .ok (.if_icmp .ne 7, 3) := by decide +kernel
theorem dX3_ranked_104 : decode cX3_ranked 104 = .ok (.iload_n 3, 1) := by decide +kernel
theorem dX3_ranked_105 : decode cX3_ranked 105 = .ok (.goto 4, 3) := by decide +kernel
theorem dX3_ranked_108 : decode cX3_ranked 108 = .ok (.iload_n 2, 1) := by decide +kernel
theorem dX3_ranked_109 : decode cX3_ranked 109 = .ok (.istore_n 2, 1) := by decide +kernel
theorem dX3_ranked_110 : decode cX3_ranked 110 = .ok (.iinc 3 1, 3) := by decide +kernel
theorem dX3_ranked_113 : decode cX3_ranked 113 = .ok (.goto (-90), 3) := by decide +kernel
theorem dX3_ranked_116 : decode cX3_ranked 116 = .ok (.aload_n 0, 1) := by decide +kernel
theorem dX3_ranked_117 : decode cX3_ranked 117 = .ok (.getfield 81, 3) := by decide +kernel
theorem dX3_ranked_120 : decode cX3_ranked 120 = .ok (.ifCond .le 7, 3) := by decide +kernel
theorem dX3_ranked_123 : decode cX3_ranked 123 = .ok (.iconst 0, 1) := by decide +kernel
theorem dX3_ranked_124 : decode cX3_ranked 124 = .ok (.goto 4, 3) := by decide +kernel
theorem dX3_ranked_127 : decode cX3_ranked 127 = .ok (.iload_n 2, 1) := by decide +kernel
theorem dX3_ranked_128 : decode cX3_ranked 128 = .ok (.ireturn, 1) := by decide +kernel
