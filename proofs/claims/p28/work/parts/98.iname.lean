def wsL_isTurned : List Cond := .code yL_isTurned cL_isTurned 7 (some .boolean) :: ([.fieldLink RL 78 "TapCapLaw$Told" "zones" "[I", .fieldLink RL 85 "TapCapLaw$Told" "tariffs" "[[I", .fieldLink RL 93 "TapCapLaw$Told" "taps" "[[I", .fieldLink RL 14 "TapCapLaw$Told" "m" "LTapCap;", .classLink RL 23 RX8, .instantiable RX8 9, .initialized RX8, .methodLink RL 74 yX8_init, .instanceMethod yX8_init, .arrayClass .boolean] ++ wsX90 ++ wsX80 ++ (wsV RL 82 RX8 yX8_zone wsX8_zone) ++ (wsV RL 89 RX8 yX8_tariff wsX8_tariff) ++ (wsV RL 47 RX8 yX8_tap wsX8_tap) ++ (wsV RL 50 RX8 yX8_ofDay wsX8_ofDay) ++ (wsV RL 53 RX8 yX8_ofLeg wsX8_ofLeg) ++ (wsX8_init) ++ (wsV RL 75 RX8 yX8_card wsX8_card))
set_option maxRecDepth 20000 in
theorem gL_isTurned_X8_init : GoodIn wsL_isTurned (wsX8_init) := goodIn_sub (fun w h => List.mem_cons_of_mem _ (List.mem_append_left _ (List.mem_append_right _ h))) (by decide +kernel)
set_option maxRecDepth 20000 in
theorem gL_isTurned_X8_card : GoodIn wsL_isTurned (wsV RL 75 RX8 yX8_card wsX8_card) := goodIn_sub (fun w h => List.mem_cons_of_mem _ (List.mem_append_right _ h)) (by decide +kernel)
set_option maxRecDepth 20000 in
theorem gL_isTurned_X8_zone : GoodIn wsL_isTurned (wsV RL 82 RX8 yX8_zone wsX8_zone) := goodIn_sub (fun w h => List.mem_cons_of_mem _ (List.mem_append_left _ (List.mem_append_left _ (List.mem_append_left _ (List.mem_append_left _ (List.mem_append_left _ (List.mem_append_left _ (List.mem_append_right _ h)))))))) (by decide +kernel)
set_option maxRecDepth 20000 in
theorem gL_isTurned_X8_tariff : GoodIn wsL_isTurned (wsV RL 89 RX8 yX8_tariff wsX8_tariff) := goodIn_sub (fun w h => List.mem_cons_of_mem _ (List.mem_append_left _ (List.mem_append_left _ (List.mem_append_left _ (List.mem_append_left _ (List.mem_append_left _ (List.mem_append_right _ h))))))) (by decide +kernel)
set_option maxRecDepth 20000 in
theorem gL_isTurned_X8_tap : GoodIn wsL_isTurned (wsV RL 47 RX8 yX8_tap wsX8_tap) := goodIn_sub (fun w h => List.mem_cons_of_mem _ (List.mem_append_left _ (List.mem_append_left _ (List.mem_append_left _ (List.mem_append_left _ (List.mem_append_right _ h)))))) (by decide +kernel)
set_option maxRecDepth 20000 in
theorem gL_isTurned_X8_ofDay : GoodIn wsL_isTurned (wsV RL 50 RX8 yX8_ofDay wsX8_ofDay) := goodIn_sub (fun w h => List.mem_cons_of_mem _ (List.mem_append_left _ (List.mem_append_left _ (List.mem_append_left _ (List.mem_append_right _ h))))) (by decide +kernel)
set_option maxRecDepth 20000 in
theorem gL_isTurned_X8_ofLeg : GoodIn wsL_isTurned (wsV RL 53 RX8 yX8_ofLeg wsX8_ofLeg) := goodIn_sub (fun w h => List.mem_cons_of_mem _ (List.mem_append_left _ (List.mem_append_left _ (List.mem_append_right _ h)))) (by decide +kernel)
theorem dL_isTurned_0 : decode cL_isTurned 0 = .ok (.new 23, 3) := by decide +kernel
theorem dL_isTurned_3 : decode cL_isTurned 3 = .ok (.dup, 1) := by decide +kernel
theorem dL_isTurned_4 : decode cL_isTurned 4 = .ok (.invokespecial 74, 3) := by decide +kernel
theorem dL_isTurned_7 : decode cL_isTurned 7 = .ok (.astore_n 1, 1) := by decide +kernel
theorem dL_isTurned_8 : decode cL_isTurned 8 = .ok (.iconst 0, 1) := by decide +kernel
theorem dL_isTurned_9 : decode cL_isTurned 9 = .ok (.istore_n 2, 1) := by decide +kernel
theorem dL_isTurned_10 : decode cL_isTurned 10 = .ok (.iload_n 2, 1) := by decide +kernel
theorem dL_isTurned_11 : decode cL_isTurned 11 = .ok (.iconst 3, 1) := by decide +kernel
theorem dL_isTurned_12 : decode cL_isTurned 12 = .ok (.if_icmp .ge 14, 3) := by decide +kernel
theorem dL_isTurned_15 : decode cL_isTurned 15 = .ok (.aload_n 1, 1) := by decide +kernel
theorem dL_isTurned_16 : decode cL_isTurned 16 = .ok (.invokevirtual 75, 3) := by decide +kernel
theorem dL_isTurned_19 : decode cL_isTurned 19 = .ok (.pop, 1) := by decide +kernel
theorem dL_isTurned_20 : decode cL_isTurned 20 = .ok (.iinc 2 1, 3) := by decide +kernel
theorem dL_isTurned_23 : decode cL_isTurned 23 = .ok (.goto (-13), 3) := by decide +kernel
theorem dL_isTurned_26 : decode cL_isTurned 26 = .ok (.iconst 0, 1) := by decide +kernel
theorem dL_isTurned_27 : decode cL_isTurned 27 = .ok (.istore_n 2, 1) := by decide +kernel
theorem dL_isTurned_28 : decode cL_isTurned 28 = .ok (.iload_n 2, 1) := by decide +kernel
theorem dL_isTurned_29 : decode cL_isTurned 29 = .ok (.bipush 10, 2) := by decide +kernel
theorem dL_isTurned_31 : decode cL_isTurned 31 = .ok (.if_icmp .ge 21, 3) := by decide +kernel
theorem dL_isTurned_34 : decode cL_isTurned 34 = .ok (.aload_n 1, 1) := by decide +kernel
theorem dL_isTurned_35 : decode cL_isTurned 35 = .ok (.iload_n 2, 1) := by decide +kernel
theorem dL_isTurned_36 : decode cL_isTurned 36 = .ok (.aload_n 0, 1) := by decide +kernel
theorem dL_isTurned_37 : decode cL_isTurned 37 = .ok (.getfield 78, 3) := by decide +kernel
theorem dL_isTurned_40 : decode cL_isTurned 40 = .ok (.iload_n 2, 1) := by decide +kernel
theorem dL_isTurned_41 : decode cL_isTurned 41 = .ok (.iaload, 1) := by decide +kernel
theorem dL_isTurned_42 : decode cL_isTurned 42 = .ok (.invokevirtual 82, 3) := by decide +kernel
theorem dL_isTurned_45 : decode cL_isTurned 45 = .ok (.pop, 1) := by decide +kernel
theorem dL_isTurned_46 : decode cL_isTurned 46 = .ok (.iinc 2 1, 3) := by decide +kernel
theorem dL_isTurned_49 : decode cL_isTurned 49 = .ok (.goto (-21), 3) := by decide +kernel
theorem dL_isTurned_52 : decode cL_isTurned 52 = .ok (.iconst 1, 1) := by decide +kernel
theorem dL_isTurned_53 : decode cL_isTurned 53 = .ok (.istore_n 2, 1) := by decide +kernel
theorem dL_isTurned_54 : decode cL_isTurned 54 = .ok (.iload_n 2, 1) := by decide +kernel
theorem dL_isTurned_55 : decode cL_isTurned 55 = .ok (.aload_n 0, 1) := by decide +kernel
theorem dL_isTurned_56 : decode cL_isTurned 56 = .ok (.getfield 85, 3) := by decide +kernel
theorem dL_isTurned_59 : decode cL_isTurned 59 = .ok (.arraylength, 1) := by decide +kernel
theorem dL_isTurned_60 : decode cL_isTurned 60 = .ok (.if_icmp .ge 54, 3) := by decide +kernel
theorem dL_isTurned_63 : decode cL_isTurned 63 = .ok (.aload_n 1, 1) := by decide +kernel
theorem dL_isTurned_64 : decode cL_isTurned 64 = .ok (.aload_n 0, 1) := by decide +kernel
theorem dL_isTurned_65 : decode cL_isTurned 65 = .ok (.getfield 85, 3) := by decide +kernel
theorem dL_isTurned_68 : decode cL_isTurned 68 = .ok (.iload_n 2, 1) := by decide +kernel
theorem dL_isTurned_69 : decode cL_isTurned 69 = .ok (.aaload, 1) := by decide +kernel
theorem dL_isTurned_70 : decode cL_isTurned 70 = .ok (.iconst 0, 1) := by decide +kernel
theorem dL_isTurned_71 : decode cL_isTurned 71 = .ok (.iaload, 1) := by decide +kernel
theorem dL_isTurned_72 : decode cL_isTurned 72 = .ok (.aload_n 0, 1) := by decide +kernel
theorem dL_isTurned_73 : decode cL_isTurned 73 = .ok (.getfield 85, 3) := by decide +kernel
theorem dL_isTurned_76 : decode cL_isTurned 76 = .ok (.iload_n 2, 1) := by decide +kernel
theorem dL_isTurned_77 : decode cL_isTurned 77 = .ok (.aaload, 1) := by decide +kernel
theorem dL_isTurned_78 : decode cL_isTurned 78 = .ok (.iconst 1, 1) := by decide +kernel
theorem dL_isTurned_79 : decode cL_isTurned 79 = .ok (.iaload, 1) := by decide +kernel
theorem dL_isTurned_80 : decode cL_isTurned 80 = .ok (.aload_n 0, 1) := by decide +kernel
theorem dL_isTurned_81 : decode cL_isTurned 81 = .ok (.getfield 85, 3) := by decide +kernel
theorem dL_isTurned_84 : decode cL_isTurned 84 = .ok (.iload_n 2, 1) := by decide +kernel
theorem dL_isTurned_85 : decode cL_isTurned 85 = .ok (.aaload, 1) := by decide +kernel
theorem dL_isTurned_86 : decode cL_isTurned 86 = .ok (.iconst 2, 1) := by decide +kernel
theorem dL_isTurned_87 : decode cL_isTurned 87 = .ok (.iaload, 1) := by decide +kernel
theorem dL_isTurned_88 : decode cL_isTurned 88 = .ok (.aload_n 0, 1) := by decide +kernel
theorem dL_isTurned_89 : decode cL_isTurned 89 = .ok (.getfield 85, 3) := by decide +kernel
theorem dL_isTurned_92 : decode cL_isTurned 92 = .ok (.iload_n 2, 1) := by decide +kernel
theorem dL_isTurned_93 : decode cL_isTurned 93 = .ok (.aaload, 1) := by decide +kernel
theorem dL_isTurned_94 : decode cL_isTurned 94 = .ok (.iconst 3, 1) := by decide +kernel
theorem dL_isTurned_95 : decode cL_isTurned 95 = .ok (.iaload, 1) := by decide +kernel
theorem dL_isTurned_96 : decode cL_isTurned 96 = .ok (.aload_n 0, 1) := by decide +kernel
theorem dL_isTurned_97 : decode cL_isTurned 97 = .ok (.getfield 85, 3) := by decide +kernel
theorem dL_isTurned_100 : decode cL_isTurned 100 = .ok (.iload_n 2, 1) := by decide +kernel
theorem dL_isTurned_101 : decode cL_isTurned 101 = .ok (.aaload, 1) := by decide +kernel
theorem dL_isTurned_102 : decode cL_isTurned 102 = .ok (.iconst 4, 1) := by decide +kernel
theorem dL_isTurned_103 : decode cL_isTurned 103 = .ok (.iaload, 1) := by decide +kernel
theorem dL_isTurned_104 : decode cL_isTurned 104 = .ok (.invokevirtual 89, 3) := by decide +kernel
theorem dL_isTurned_107 : decode cL_isTurned 107 = .ok (.pop, 1) := by decide +kernel
theorem dL_isTurned_108 : decode cL_isTurned 108 = .ok (.iinc 2 1, 3) := by decide +kernel
theorem dL_isTurned_111 : decode cL_isTurned 111 = .ok (.goto (-57), 3) := by decide +kernel
theorem dL_isTurned_114 : decode cL_isTurned 114 = .ok (.iconst 3, 1) := by decide +kernel
theorem dL_isTurned_115 : decode cL_isTurned 115 = .ok (.newarray .boolean, 2) := by decide +kernel
theorem dL_isTurned_117 : decode cL_isTurned 117 = .ok (.astore_n 2, 1) := by decide +kernel
theorem dL_isTurned_118 : decode cL_isTurned 118 = .ok (.aload_n 0, 1) := by decide +kernel
theorem dL_isTurned_119 : decode cL_isTurned 119 = .ok (.getfield 93, 3) := by decide +kernel
theorem dL_isTurned_122 : decode cL_isTurned 122 = .ok (.arraylength, 1) := by decide +kernel
theorem dL_isTurned_123 : decode cL_isTurned 123 = .ok (.iconst 1, 1) := by decide +kernel
theorem dL_isTurned_124 : decode cL_isTurned 124 = .ok (.isub, 1) := by decide +kernel
theorem dL_isTurned_125 : decode cL_isTurned 125 = .ok (.istore_n 3, 1) := by decide +kernel
theorem dL_isTurned_126 : decode cL_isTurned 126 = .ok (.iload_n 3, 1) := by decide +kernel
theorem dL_isTurned_127 : decode cL_isTurned 127 = .ok (.ifCond .lt 125, 3) := by decide +kernel
theorem dL_isTurned_130 : decode cL_isTurned 130 = .ok (.aload_n 0, 1) := by decide +kernel
theorem dL_isTurned_131 : decode cL_isTurned 131 = .ok (.getfield 93, 3) := by decide +kernel
theorem dL_isTurned_134 : decode cL_isTurned 134 = .ok (.iload_n 3, 1) := by decide +kernel
theorem dL_isTurned_135 : decode cL_isTurned 135 = .ok (.aaload, 1) := by decide +kernel
theorem dL_isTurned_136 : decode cL_isTurned 136 = .ok (.astore 4, 2) := by decide +kernel
theorem dL_isTurned_138 : decode cL_isTurned 138 = .ok (.iconst 0, 1) := by decide +kernel
theorem dL_isTurned_139 : decode cL_isTurned 139 = .ok (.istore 5, 2) := by decide +kernel
theorem dL_isTurned_141 : decode cL_isTurned 141 = .ok (.iload 5, 2) := by decide +kernel
theorem dL_isTurned_143 : decode cL_isTurned 143 = .ok (.iload_n 3, 1) := by decide +kernel
theorem dL_isTurned_144 : decode cL_isTurned 144 = .ok (.if_icmp .ge 64, 3) := by decide +kernel
theorem dL_isTurned_147 : decode cL_isTurned 147 = .ok (.aload_n 0, 1) := by decide +kernel
theorem dL_isTurned_148 : decode cL_isTurned 148 = .ok (.getfield 93, 3) := by decide +kernel
theorem dL_isTurned_151 : decode cL_isTurned 151 = .ok (.iload 5, 2) := by decide +kernel
theorem dL_isTurned_153 : decode cL_isTurned 153 = .ok (.aaload, 1) := by decide +kernel
theorem dL_isTurned_154 : decode cL_isTurned 154 = .ok (.iconst 0, 1) := by decide +kernel
theorem dL_isTurned_155 : decode cL_isTurned 155 = .ok (.iaload, 1) := by decide +kernel
theorem dL_isTurned_156 : decode cL_isTurned 156 = .ok (.aload 4, 2) := by decide +kernel
theorem dL_isTurned_158 : decode cL_isTurned 158 = .ok (.iconst 0, 1) := by decide +kernel
theorem dL_isTurned_159 : decode cL_isTurned 159 = .ok (.iaload, 1) := by decide +kernel
theorem dL_isTurned_160 : decode cL_isTurned 160 = .ok (.if_icmp .ne 42, 3) := by decide +kernel
theorem dL_isTurned_163 : decode cL_isTurned 163 = .ok (.aload_n 0, 1) := by decide +kernel
theorem dL_isTurned_164 : decode cL_isTurned 164 = .ok (.getfield 93, 3) := by decide +kernel
theorem dL_isTurned_167 : decode cL_isTurned 167 = .ok (.iload 5, 2) := by decide +kernel
theorem dL_isTurned_169 : decode cL_isTurned 169 = .ok (.aaload, 1) := by decide +kernel
theorem dL_isTurned_170 : decode cL_isTurned 170 = .ok (.iconst 4, 1) := by decide +kernel
theorem dL_isTurned_171 : decode cL_isTurned 171 = .ok (.iaload, 1) := by decide +kernel
theorem dL_isTurned_172 : decode cL_isTurned 172 = .ok (.aload 4, 2) := by decide +kernel
theorem dL_isTurned_174 : decode cL_isTurned 174 = .ok (.iconst 4, 1) := by decide +kernel
theorem dL_isTurned_175 : decode cL_isTurned 175 = .ok (.iaload, 1) := by decide +kernel
theorem dL_isTurned_176 : decode cL_isTurned 176 = .ok (.if_icmp .ne 26, 3) := by decide +kernel
theorem dL_isTurned_179 : decode cL_isTurned 179 = .ok (.aload_n 0, 1) := by decide +kernel
theorem dL_isTurned_180 : decode cL_isTurned 180 = .ok (.getfield 93, 3) := by decide +kernel
theorem dL_isTurned_183 : decode cL_isTurned 183 = .ok (.iload 5, 2) := by decide +kernel
theorem dL_isTurned_185 : decode cL_isTurned 185 = .ok (.aaload, 1) := by decide +kernel
theorem dL_isTurned_186 : decode cL_isTurned 186 = .ok (.iconst 5, 1) := by decide +kernel
theorem dL_isTurned_187 : decode cL_isTurned 187 = .ok (.iaload, 1) := by decide +kernel
theorem dL_isTurned_188 : decode cL_isTurned 188 = .ok (.aload 4, 2) := by decide +kernel
theorem dL_isTurned_190 : decode cL_isTurned 190 = .ok (.iconst 5, 1) := by decide +kernel
theorem dL_isTurned_191 : decode cL_isTurned 191 = .ok (.iaload, 1) := by decide +kernel
theorem dL_isTurned_192 : decode cL_isTurned 192 = .ok (.if_icmp .ne 10, 3) := by decide +kernel
theorem dL_isTurned_195 : decode cL_isTurned 195 = .ok (.aload_n 2, 1) := by decide +kernel
theorem dL_isTurned_196 : decode cL_isTurned 196 = .ok (.aload 4, 2) := by decide +kernel
theorem dL_isTurned_198 : decode cL_isTurned 198 = .ok (.iconst 0, 1) := by decide +kernel
theorem dL_isTurned_199 : decode cL_isTurned 199 = .ok (.iaload, 1) := by decide +kernel
theorem dL_isTurned_200 : decode cL_isTurned 200 = .ok (.iconst 1, 1) := by decide +kernel
theorem dL_isTurned_201 : decode cL_isTurned 201 = .ok (.bastore, 1) := by decide +kernel
theorem dL_isTurned_202 : decode cL_isTurned 202 = .ok (.iinc 5 1, 3) := by decide +kernel
theorem dL_isTurned_205 : decode cL_isTurned 205 = .ok (.goto (-64), 3) := by decide +kernel
theorem dL_isTurned_208 : decode cL_isTurned 208 = .ok (.aload_n 1, 1) := by decide +kernel
theorem dL_isTurned_209 : decode cL_isTurned 209 = .ok (.aload 4, 2) := by decide +kernel
theorem dL_isTurned_211 : decode cL_isTurned 211 = .ok (.iconst 0, 1) := by decide +kernel
theorem dL_isTurned_212 : decode cL_isTurned 212 = .ok (.iaload, 1) := by decide +kernel
theorem dL_isTurned_213 : decode cL_isTurned 213 = .ok (.aload 4, 2) := by decide +kernel
theorem dL_isTurned_215 : decode cL_isTurned 215 = .ok (.iconst 1, 1) := by decide +kernel
theorem dL_isTurned_216 : decode cL_isTurned 216 = .ok (.iaload, 1) := by decide +kernel
theorem dL_isTurned_217 : decode cL_isTurned 217 = .ok (.aload 4, 2) := by decide +kernel
theorem dL_isTurned_219 : decode cL_isTurned 219 = .ok (.iconst 2, 1) := by decide +kernel
theorem dL_isTurned_220 : decode cL_isTurned 220 = .ok (.iaload, 1) := by decide +kernel
theorem dL_isTurned_221 : decode cL_isTurned 221 = .ok (.aload 4, 2) := by decide +kernel
theorem dL_isTurned_223 : decode cL_isTurned 223 = .ok (.iconst 3, 1) := by decide +kernel
theorem dL_isTurned_224 : decode cL_isTurned 224 = .ok (.iaload, 1) := by decide +kernel
theorem dL_isTurned_225 : decode cL_isTurned 225 = .ok (.iconst 1, 1) := by decide +kernel
theorem dL_isTurned_226 : decode cL_isTurned 226 = .ok (.if_icmp .ne 7, 3) := by decide +kernel
theorem dL_isTurned_229 : decode cL_isTurned 229 = .ok (.iconst 1, 1) := by decide +kernel
theorem dL_isTurned_230 : decode cL_isTurned 230 = .ok (.goto 4, 3) := by decide +kernel
theorem dL_isTurned_233 : decode cL_isTurned 233 = .ok (.iconst 0, 1) := by decide +kernel
theorem dL_isTurned_234 : decode cL_isTurned 234 = .ok (.aload 4, 2) := by decide +kernel
theorem dL_isTurned_236 : decode cL_isTurned 236 = .ok (.iconst 4, 1) := by decide +kernel
theorem dL_isTurned_237 : decode cL_isTurned 237 = .ok (.iaload, 1) := by decide +kernel
theorem dL_isTurned_238 : decode cL_isTurned 238 = .ok (.aload 4, 2) := by decide +kernel
theorem dL_isTurned_240 : decode cL_isTurned 240 = .ok (.iconst 5, 1) := by decide +kernel
theorem dL_isTurned_241 : decode cL_isTurned 241 = .ok (.iaload, 1) := by decide +kernel
theorem dL_isTurned_242 : decode cL_isTurned 242 = .ok (.invokevirtual 47, 3) := by decide +kernel
theorem dL_isTurned_245 : decode cL_isTurned 245 = .ok (.pop, 1) := by decide +kernel
theorem dL_isTurned_246 : decode cL_isTurned 246 = .ok (.iinc 3 (-1), 3) := by decide +kernel
theorem dL_isTurned_249 : decode cL_isTurned 249 = .ok (.goto (-123), 3) := by decide +kernel
theorem dL_isTurned_252 : decode cL_isTurned 252 = .ok (.iconst 0, 1) := by decide +kernel
theorem dL_isTurned_253 : decode cL_isTurned 253 = .ok (.istore_n 3, 1) := by decide +kernel
theorem dL_isTurned_254 : decode cL_isTurned 254 = .ok (.iload_n 3, 1) := by decide +kernel
theorem dL_isTurned_255 : decode cL_isTurned 255 = .ok (.iconst 3, 1) := by decide +kernel
theorem dL_isTurned_256 : decode cL_isTurned 256 = .ok (.if_icmp .ge 141, 3) := by decide +kernel
theorem dL_isTurned_259 : decode cL_isTurned 259 = .ok (.iconst 0, 1) := by decide +kernel
theorem dL_isTurned_260 : decode cL_isTurned 260 = .ok (.istore 4, 2) := by decide +kernel
theorem dL_isTurned_262 : decode cL_isTurned 262 = .ok (.iload 4, 2) := by decide +kernel
theorem dL_isTurned_264 : decode cL_isTurned 264 = .ok (.bipush 10, 2) := by decide +kernel
theorem dL_isTurned_266 : decode cL_isTurned 266 = .ok (.if_icmp .ge 125, 3) := by decide +kernel
theorem dL_isTurned_269 : decode cL_isTurned 269 = .ok (.aload_n 2, 1) := by decide +kernel
theorem dL_isTurned_270 : decode cL_isTurned 270 = .ok (.iload_n 3, 1) := by decide +kernel
theorem dL_isTurned_271 : decode cL_isTurned 271 = .ok (.baload, 1) := by decide +kernel
theorem dL_isTurned_272 : decode cL_isTurned 272 = .ok (.ifCond .ne 119, 3) := by decide +kernel
theorem dL_isTurned_275 : decode cL_isTurned 275 = .ok (.iconst 0, 1) := by decide +kernel
theorem dL_isTurned_276 : decode cL_isTurned 276 = .ok (.istore 5, 2) := by decide +kernel
theorem dL_isTurned_278 : decode cL_isTurned 278 = .ok (.iload 5, 2) := by decide +kernel
theorem dL_isTurned_280 : decode cL_isTurned 280 = .ok (.bipush 7, 2) := by decide +kernel
theorem dL_isTurned_282 : decode cL_isTurned 282 = .ok (.if_icmp .ge 35, 3) := by decide +kernel
theorem dL_isTurned_285 : decode cL_isTurned 285 = .ok (.aload_n 1, 1) := by decide +kernel
theorem dL_isTurned_286 : decode cL_isTurned 286 = .ok (.iload_n 3, 1) := by decide +kernel
theorem dL_isTurned_287 : decode cL_isTurned 287 = .ok (.iload 4, 2) := by decide +kernel
theorem dL_isTurned_289 : decode cL_isTurned 289 = .ok (.iload 5, 2) := by decide +kernel
theorem dL_isTurned_291 : decode cL_isTurned 291 = .ok (.invokevirtual 50, 3) := by decide +kernel
theorem dL_isTurned_294 : decode cL_isTurned 294 = .ok (.aload_n 0, 1) := by decide +kernel
theorem dL_isTurned_295 : decode cL_isTurned 295 = .ok (.getfield 14, 3) := by decide +kernel
theorem dL_isTurned_298 : decode cL_isTurned 298 = .ok (.iload_n 3, 1) := by decide +kernel
theorem dL_isTurned_299 : decode cL_isTurned 299 = .ok (.iload 4, 2) := by decide +kernel
theorem dL_isTurned_301 : decode cL_isTurned 301 = .ok (.iload 5, 2) := by decide +kernel
theorem dL_isTurned_303 : decode cL_isTurned 303 = .ok (.invokevirtual 50, 3) := by decide +kernel
theorem dL_isTurned_306 : decode cL_isTurned 306 = .ok (.if_icmp .eq 5, 3) := by decide +kernel
theorem dL_isTurned_309 : decode cL_isTurned 309 = .ok (.iconst 0, 1) := by decide +kernel
theorem dL_isTurned_310 : decode cL_isTurned 310 = .ok (.ireturn, 1) := by decide +kernel
theorem dL_isTurned_311 : decode cL_isTurned 311 = .ok (.iinc 5 1, 3) := by decide +kernel
theorem dL_isTurned_314 : decode cL_isTurned 314 = .ok (.goto (-36), 3) := by decide +kernel
theorem dL_isTurned_317 : decode cL_isTurned 317 = .ok (.iconst 0, 1) := by decide +kernel
theorem dL_isTurned_318 : decode cL_isTurned 318 = .ok (.istore 5, 2) := by decide +kernel
theorem dL_isTurned_320 : decode cL_isTurned 320 = .ok (.iload 5, 2) := by decide +kernel
theorem dL_isTurned_322 : decode cL_isTurned 322 = .ok (.aload_n 1, 1) := by decide +kernel
theorem dL_isTurned_323 : decode cL_isTurned 323 = .ok (.iload_n 3, 1) := by decide +kernel
theorem dL_isTurned_324 : decode cL_isTurned 324 = .ok (.iload 4, 2) := by decide +kernel
theorem dL_isTurned_326 : decode cL_isTurned 326 = .ok (.iconst 1, 1) := by decide +kernel
theorem dL_isTurned_327 : decode cL_isTurned 327 = .ok (.invokevirtual 50, 3) := by decide +kernel
theorem dL_isTurned_330 : decode cL_isTurned 330 = .ok (.if_icmp .ge 55, 3) := by decide +kernel
theorem dL_isTurned_333 : decode cL_isTurned 333 = .ok (.iconst 0, 1) := by decide +kernel
theorem dL_isTurned_334 : decode cL_isTurned 334 = .ok (.istore 6, 2) := by decide +kernel
theorem dL_isTurned_336 : decode cL_isTurned 336 = .ok (.iload 6, 2) := by decide +kernel
theorem dL_isTurned_338 : decode cL_isTurned 338 = .ok (.bipush 7, 2) := by decide +kernel
theorem dL_isTurned_340 : decode cL_isTurned 340 = .ok (.if_icmp .ge 39, 3) := by decide +kernel
theorem dL_isTurned_343 : decode cL_isTurned 343 = .ok (.aload_n 1, 1) := by decide +kernel
theorem dL_isTurned_344 : decode cL_isTurned 344 = .ok (.iload_n 3, 1) := by decide +kernel
theorem dL_isTurned_345 : decode cL_isTurned 345 = .ok (.iload 4, 2) := by decide +kernel
theorem dL_isTurned_347 : decode cL_isTurned 347 = .ok (.iload 5, 2) := by decide +kernel
theorem dL_isTurned_349 : decode cL_isTurned 349 = .ok (.iload 6, 2) := by decide +kernel
theorem dL_isTurned_351 : decode cL_isTurned 351 = .ok (.invokevirtual 53, 3) := by decide +kernel
theorem dL_isTurned_354 : decode cL_isTurned 354 = .ok (.aload_n 0, 1) := by decide +kernel
theorem dL_isTurned_355 : decode cL_isTurned 355 = .ok (.getfield 14, 3) := by decide +kernel
theorem dL_isTurned_358 : decode cL_isTurned 358 = .ok (.iload_n 3, 1) := by decide +kernel
theorem dL_isTurned_359 : decode cL_isTurned 359 = .ok (.iload 4, 2) := by decide +kernel
theorem dL_isTurned_361 : decode cL_isTurned 361 = .ok (.iload 5, 2) := by decide +kernel
theorem dL_isTurned_363 : decode cL_isTurned 363 = .ok (.iload 6, 2) := by decide +kernel
theorem dL_isTurned_365 : decode cL_isTurned 365 = .ok (.invokevirtual 53, 3) := by decide +kernel
theorem dL_isTurned_368 : decode cL_isTurned 368 = .ok (.if_icmp .eq 5, 3) := by decide +kernel
theorem dL_isTurned_371 : decode cL_isTurned 371 = .ok (.iconst 0, 1) := by decide +kernel
theorem dL_isTurned_372 : decode cL_isTurned 372 = .ok (.ireturn, 1) := by decide +kernel
theorem dL_isTurned_373 : decode cL_isTurned 373 = .ok (.iinc 6 1, 3) := by decide +kernel
theorem dL_isTurned_376 : decode cL_isTurned 376 = .ok (.goto (-40), 3) := by decide +kernel
theorem dL_isTurned_379 : decode cL_isTurned 379 = .ok (.iinc 5 1, 3) := by decide +kernel
theorem dL_isTurned_382 : decode cL_isTurned 382 = .ok (.goto (-62), 3) := by decide +kernel
theorem dL_isTurned_385 : decode cL_isTurned 385 = .ok (.iinc 4 1, 3) := by decide +kernel
theorem dL_isTurned_388 : decode cL_isTurned 388 = .ok (.goto (-126), 3) := by decide +kernel
theorem dL_isTurned_391 : decode cL_isTurned 391 = .ok (.iinc 3 1, 3) := by decide +kernel
theorem dL_isTurned_394 : decode cL_isTurned 394 = .ok (.goto (-140), 3) := by decide +kernel
theorem dL_isTurned_397 : decode cL_isTurned 397 = .ok (.iconst 1, 1) := by decide +kernel
theorem dL_isTurned_398 : decode cL_isTurned 398 = .ok (.ireturn, 1) := by decide +kernel
