theorem mem_ix {Ts ws : List Cond} (is : List Nat) (h : is.map (fun i => Ts[i]?) = ws.map some) : ∀ w ∈ ws, w ∈ Ts := by
  intro w hw
  have h1 : some w ∈ is.map (fun i => Ts[i]?) := by rw [h]; exact List.mem_map.mpr ⟨w, hw, rfl⟩
  obtain ⟨i, -, hi⟩ := List.mem_map.mp h1
  exact List.mem_of_getElem? hi
theorem inX0 : ∀ w ∈ wsX00, w ∈ lw_tbl := mem_ix [169, 171, 173, 175, 177, 179] (by decide +kernel)
theorem inX1 : ∀ w ∈ wsX10, w ∈ lw_tbl := mem_ix [357, 359, 361, 363] (by decide +kernel)
theorem inX2 : ∀ w ∈ wsX20, w ∈ lw_tbl := mem_ix [322, 324, 326, 328, 330, 332, 334, 336, 338, 340] (by decide +kernel)
theorem inX3 : ∀ w ∈ wsX30, w ∈ lw_tbl := mem_ix [266, 268, 270, 272, 274, 276, 278, 280, 282, 284, 286, 288, 290, 292, 294] (by decide +kernel)
theorem inX4 : ∀ w ∈ wsX40, w ∈ lw_tbl := mem_ix [105, 107, 109] (by decide +kernel)
theorem inX5 : ∀ w ∈ wsX50, w ∈ lw_tbl := mem_ix [89] (by decide +kernel)
theorem inX6 : ∀ w ∈ wsX60, w ∈ lw_tbl := mem_ix [208, 210, 212, 214, 216, 218, 220, 222, 224] (by decide +kernel)
theorem inX7 : ∀ w ∈ wsX70, w ∈ lw_tbl := mem_ix [135, 137, 139, 141, 143, 145] (by decide +kernel)
theorem inX8 : ∀ w ∈ wsX80, w ∈ lw_tbl := mem_ix [375, 377, 379, 381, 383, 385, 387, 389, 391] (by decide +kernel)
theorem inX9 : ∀ w ∈ wsX90, w ∈ lw_tbl := mem_ix [983, 985, 987, 989, 991, 993, 995, 997, 999, 1001, 1003, 1005, 1007, 1009, 1011, 1013] (by decide +kernel)
theorem lx_72 : Cond.code yX8_init cX8_init 1 none ∈ lw_tbl := List.mem_of_getElem? (i := 72) (by decide +kernel)
theorem lx_297 : Cond.classLink RX8 44 RX2 ∈ lw_tbl := List.mem_of_getElem? (i := 297) (by decide +kernel)
theorem lx_370 : Cond.fieldLink RX8 40 "TapCap" "legs" "LTapCap$Legs;" ∈ lw_tbl := List.mem_of_getElem? (i := 370) (by decide +kernel)
theorem lx_56 : Cond.initialized RX3 ∈ lw_tbl := List.mem_of_getElem? (i := 56) (by decide +kernel)
theorem lx_228 : Cond.instantiable RX3 15 ∈ lw_tbl := List.mem_of_getElem? (i := 228) (by decide +kernel)
theorem lx_227 : Cond.classLink RX8 37 RX3 ∈ lw_tbl := List.mem_of_getElem? (i := 227) (by decide +kernel)
theorem lx_369 : Cond.fieldLink RX8 33 "TapCap" "taps" "LTapCap$Taps;" ∈ lw_tbl := List.mem_of_getElem? (i := 369) (by decide +kernel)
theorem lx_55 : Cond.initialized RX6 ∈ lw_tbl := List.mem_of_getElem? (i := 55) (by decide +kernel)
theorem lx_183 : Cond.instantiable RX6 9 ∈ lw_tbl := List.mem_of_getElem? (i := 183) (by decide +kernel)
theorem lx_182 : Cond.classLink RX8 30 RX6 ∈ lw_tbl := List.mem_of_getElem? (i := 182) (by decide +kernel)
theorem lx_368 : Cond.fieldLink RX8 26 "TapCap" "cards" "LTapCap$Cards;" ∈ lw_tbl := List.mem_of_getElem? (i := 368) (by decide +kernel)
theorem lx_54 : Cond.initialized RX0 ∈ lw_tbl := List.mem_of_getElem? (i := 54) (by decide +kernel)
theorem lx_149 : Cond.instantiable RX0 6 ∈ lw_tbl := List.mem_of_getElem? (i := 149) (by decide +kernel)
theorem lx_148 : Cond.classLink RX8 23 RX0 ∈ lw_tbl := List.mem_of_getElem? (i := 148) (by decide +kernel)
theorem lx_367 : Cond.fieldLink RX8 19 "TapCap" "tariffs" "LTapCap$Tariffs;" ∈ lw_tbl := List.mem_of_getElem? (i := 367) (by decide +kernel)
theorem lx_53 : Cond.initialized RX7 ∈ lw_tbl := List.mem_of_getElem? (i := 53) (by decide +kernel)
theorem lx_113 : Cond.instantiable RX7 6 ∈ lw_tbl := List.mem_of_getElem? (i := 113) (by decide +kernel)
theorem lx_112 : Cond.classLink RX8 16 RX7 ∈ lw_tbl := List.mem_of_getElem? (i := 112) (by decide +kernel)
theorem lx_366 : Cond.fieldLink RX8 12 "TapCap" "region" "LTapCap$Region;" ∈ lw_tbl := List.mem_of_getElem? (i := 366) (by decide +kernel)
theorem lx_51 : Cond.initialized RX4 ∈ lw_tbl := List.mem_of_getElem? (i := 51) (by decide +kernel)
theorem lx_77 : Cond.instantiable RX4 3 ∈ lw_tbl := List.mem_of_getElem? (i := 77) (by decide +kernel)
theorem lx_76 : Cond.classLink RX8 9 RX4 ∈ lw_tbl := List.mem_of_getElem? (i := 76) (by decide +kernel)
theorem lx_75 : Cond.code objectInit ⟨#[0xb1]⟩ 1 none ∈ lw_tbl := List.mem_of_getElem? (i := 75) (by decide +kernel)
theorem lx_74 : Cond.instanceMethod objectInit ∈ lw_tbl := List.mem_of_getElem? (i := 74) (by decide +kernel)
theorem lx_73 : Cond.methodLink RX8 3 objectInit ∈ lw_tbl := List.mem_of_getElem? (i := 73) (by decide +kernel)
theorem im_wsX8_init_r1 : ∀ w ∈ wsX8_init_r1, w ∈ lw_tbl := List.forall_mem_cons.mpr ⟨lx_73, List.forall_mem_cons.mpr ⟨lx_74, List.forall_mem_cons.mpr ⟨lx_75, List.forall_mem_cons.mpr ⟨lx_76, List.forall_mem_cons.mpr ⟨lx_77, List.forall_mem_cons.mpr ⟨lx_51, List.forall_mem_cons.mpr ⟨lx_366, List.forall_mem_cons.mpr ⟨lx_112, List.forall_mem_cons.mpr ⟨lx_113, List.forall_mem_cons.mpr ⟨lx_53, List.forall_mem_cons.mpr ⟨lx_367, List.forall_mem_cons.mpr ⟨lx_148, List.forall_mem_cons.mpr ⟨lx_149, List.forall_mem_cons.mpr ⟨lx_54, List.forall_mem_cons.mpr ⟨lx_368, List.forall_mem_cons.mpr ⟨lx_182, List.forall_mem_cons.mpr ⟨lx_183, List.forall_mem_cons.mpr ⟨lx_55, List.forall_mem_cons.mpr ⟨lx_369, List.forall_mem_cons.mpr ⟨lx_227, List.forall_mem_cons.mpr ⟨lx_228, List.forall_mem_cons.mpr ⟨lx_56, List.forall_mem_cons.mpr ⟨lx_370, List.forall_mem_cons.mpr ⟨lx_297, fun _ h => absurd h List.not_mem_nil⟩⟩⟩⟩⟩⟩⟩⟩⟩⟩⟩⟩⟩⟩⟩⟩⟩⟩⟩⟩⟩⟩⟩⟩
theorem lx_92 : Cond.arrayClass .int ∈ lw_tbl := List.mem_of_getElem? (i := 92) (by decide +kernel)
theorem lx_87 : Cond.methodLink RX5 1 objectInit ∈ lw_tbl := List.mem_of_getElem? (i := 87) (by decide +kernel)
theorem lx_86 : Cond.code yX5_init cX5_init 2 none ∈ lw_tbl := List.mem_of_getElem? (i := 86) (by decide +kernel)
theorem lx_85 : Cond.instanceMethod yX5_init ∈ lw_tbl := List.mem_of_getElem? (i := 85) (by decide +kernel)
theorem lx_84 : Cond.methodLink RX4 11 yX5_init ∈ lw_tbl := List.mem_of_getElem? (i := 84) (by decide +kernel)
theorem lx_103 : Cond.fieldLink RX4 23 "TapCap$Region" "lateBy" "LTapCap$Row;" ∈ lw_tbl := List.mem_of_getElem? (i := 103) (by decide +kernel)
theorem lx_100 : Cond.fieldLink RX4 20 "TapCap$Region" "carrierOf" "LTapCap$Row;" ∈ lw_tbl := List.mem_of_getElem? (i := 100) (by decide +kernel)
theorem lx_97 : Cond.fieldLink RX4 14 "TapCap$Region" "zoneOf" "LTapCap$Row;" ∈ lw_tbl := List.mem_of_getElem? (i := 97) (by decide +kernel)
theorem lx_52 : Cond.initialized RX5 ∈ lw_tbl := List.mem_of_getElem? (i := 52) (by decide +kernel)
theorem lx_83 : Cond.instantiable RX5 1 ∈ lw_tbl := List.mem_of_getElem? (i := 83) (by decide +kernel)
theorem lx_82 : Cond.classLink RX4 9 RX5 ∈ lw_tbl := List.mem_of_getElem? (i := 82) (by decide +kernel)
theorem lx_81 : Cond.methodLink RX4 3 objectInit ∈ lw_tbl := List.mem_of_getElem? (i := 81) (by decide +kernel)
theorem lx_80 : Cond.code yX4_init cX4_init 1 none ∈ lw_tbl := List.mem_of_getElem? (i := 80) (by decide +kernel)
theorem lx_79 : Cond.instanceMethod yX4_init ∈ lw_tbl := List.mem_of_getElem? (i := 79) (by decide +kernel)
theorem lx_78 : Cond.methodLink RX8 11 yX4_init ∈ lw_tbl := List.mem_of_getElem? (i := 78) (by decide +kernel)
theorem lx_374 : Cond.fieldLink RX8 62 "TapCap" "refunded" "I" ∈ lw_tbl := List.mem_of_getElem? (i := 374) (by decide +kernel)
theorem lx_373 : Cond.fieldLink RX8 58 "TapCap" "closedDays" "I" ∈ lw_tbl := List.mem_of_getElem? (i := 373) (by decide +kernel)
theorem lx_372 : Cond.fieldLink RX8 54 "TapCap" "costs" "LTapCap$Costs;" ∈ lw_tbl := List.mem_of_getElem? (i := 372) (by decide +kernel)
theorem lx_58 : Cond.initialized RX1 ∈ lw_tbl := List.mem_of_getElem? (i := 58) (by decide +kernel)
theorem lx_344 : Cond.instantiable RX1 4 ∈ lw_tbl := List.mem_of_getElem? (i := 344) (by decide +kernel)
theorem lx_343 : Cond.classLink RX8 51 RX1 ∈ lw_tbl := List.mem_of_getElem? (i := 343) (by decide +kernel)
theorem lx_371 : Cond.fieldLink RX8 47 "TapCap" "journeys" "LTapCap$Journeys;" ∈ lw_tbl := List.mem_of_getElem? (i := 371) (by decide +kernel)
theorem lx_57 : Cond.initialized RX2 ∈ lw_tbl := List.mem_of_getElem? (i := 57) (by decide +kernel)
theorem lx_298 : Cond.instantiable RX2 10 ∈ lw_tbl := List.mem_of_getElem? (i := 298) (by decide +kernel)
theorem im_wsX8_init_r2 : ∀ w ∈ wsX8_init_r2, w ∈ lw_tbl := List.forall_mem_cons.mpr ⟨lx_298, List.forall_mem_cons.mpr ⟨lx_57, List.forall_mem_cons.mpr ⟨lx_371, List.forall_mem_cons.mpr ⟨lx_343, List.forall_mem_cons.mpr ⟨lx_344, List.forall_mem_cons.mpr ⟨lx_58, List.forall_mem_cons.mpr ⟨lx_372, List.forall_mem_cons.mpr ⟨lx_373, List.forall_mem_cons.mpr ⟨lx_374, List.forall_mem_cons.mpr ⟨lx_78, List.forall_mem_cons.mpr ⟨lx_79, List.forall_mem_cons.mpr ⟨lx_80, List.forall_mem_cons.mpr ⟨lx_81, List.forall_mem_cons.mpr ⟨lx_82, List.forall_mem_cons.mpr ⟨lx_83, List.forall_mem_cons.mpr ⟨lx_52, List.forall_mem_cons.mpr ⟨lx_97, List.forall_mem_cons.mpr ⟨lx_100, List.forall_mem_cons.mpr ⟨lx_103, List.forall_mem_cons.mpr ⟨lx_84, List.forall_mem_cons.mpr ⟨lx_85, List.forall_mem_cons.mpr ⟨lx_86, List.forall_mem_cons.mpr ⟨lx_87, List.forall_mem_cons.mpr ⟨lx_92, fun _ h => absurd h List.not_mem_nil⟩⟩⟩⟩⟩⟩⟩⟩⟩⟩⟩⟩⟩⟩⟩⟩⟩⟩⟩⟩⟩⟩⟩⟩
theorem lx_126 : Cond.selects RX5 yX5_put yX5_put ∈ lw_tbl := List.mem_of_getElem? (i := 126) (by decide +kernel)
theorem lx_125 : Cond.instanceMethod yX5_put ∈ lw_tbl := List.mem_of_getElem? (i := 125) (by decide +kernel)
theorem lx_124 : Cond.methodLink RX7 40 yX5_put ∈ lw_tbl := List.mem_of_getElem? (i := 124) (by decide +kernel)
theorem lx_123 : Cond.code yX7_add cX7_add 6 none ∈ lw_tbl := List.mem_of_getElem? (i := 123) (by decide +kernel)
theorem lx_122 : Cond.selects RX7 yX7_add yX7_add ∈ lw_tbl := List.mem_of_getElem? (i := 122) (by decide +kernel)
theorem lx_121 : Cond.instanceMethod yX7_add ∈ lw_tbl := List.mem_of_getElem? (i := 121) (by decide +kernel)
theorem lx_120 : Cond.methodLink RX7 36 yX7_add ∈ lw_tbl := List.mem_of_getElem? (i := 120) (by decide +kernel)
theorem lx_119 : Cond.methodLink RX7 11 yX5_init ∈ lw_tbl := List.mem_of_getElem? (i := 119) (by decide +kernel)
theorem lx_133 : Cond.fieldLink RX7 32 "TapCap$Tariffs" "count" "I" ∈ lw_tbl := List.mem_of_getElem? (i := 133) (by decide +kernel)
theorem lx_132 : Cond.fieldLink RX7 29 "TapCap$Tariffs" "weekly" "LTapCap$Row;" ∈ lw_tbl := List.mem_of_getElem? (i := 132) (by decide +kernel)
theorem lx_131 : Cond.fieldLink RX7 26 "TapCap$Tariffs" "ticket" "LTapCap$Row;" ∈ lw_tbl := List.mem_of_getElem? (i := 131) (by decide +kernel)
theorem lx_130 : Cond.fieldLink RX7 23 "TapCap$Tariffs" "step" "LTapCap$Row;" ∈ lw_tbl := List.mem_of_getElem? (i := 130) (by decide +kernel)
theorem lx_129 : Cond.fieldLink RX7 20 "TapCap$Tariffs" "base" "LTapCap$Row;" ∈ lw_tbl := List.mem_of_getElem? (i := 129) (by decide +kernel)
theorem lx_128 : Cond.fieldLink RX7 14 "TapCap$Tariffs" "since" "LTapCap$Row;" ∈ lw_tbl := List.mem_of_getElem? (i := 128) (by decide +kernel)
theorem lx_118 : Cond.classLink RX7 9 RX5 ∈ lw_tbl := List.mem_of_getElem? (i := 118) (by decide +kernel)
theorem lx_117 : Cond.methodLink RX7 3 objectInit ∈ lw_tbl := List.mem_of_getElem? (i := 117) (by decide +kernel)
theorem lx_116 : Cond.code yX7_init cX7_init 1 none ∈ lw_tbl := List.mem_of_getElem? (i := 116) (by decide +kernel)
theorem lx_115 : Cond.instanceMethod yX7_init ∈ lw_tbl := List.mem_of_getElem? (i := 115) (by decide +kernel)
theorem lx_114 : Cond.methodLink RX8 18 yX7_init ∈ lw_tbl := List.mem_of_getElem? (i := 114) (by decide +kernel)
theorem lx_96 : Cond.code yX5_fill cX5_fill 3 none ∈ lw_tbl := List.mem_of_getElem? (i := 96) (by decide +kernel)
theorem lx_95 : Cond.selects RX5 yX5_fill yX5_fill ∈ lw_tbl := List.mem_of_getElem? (i := 95) (by decide +kernel)
theorem lx_94 : Cond.instanceMethod yX5_fill ∈ lw_tbl := List.mem_of_getElem? (i := 94) (by decide +kernel)
theorem lx_93 : Cond.methodLink RX4 26 yX5_fill ∈ lw_tbl := List.mem_of_getElem? (i := 93) (by decide +kernel)
theorem lx_88 : Cond.fieldLink RX5 7 "TapCap$Row" "cells" "[I" ∈ lw_tbl := List.mem_of_getElem? (i := 88) (by decide +kernel)
theorem im_wsX8_init_r3 : ∀ w ∈ wsX8_init_r3, w ∈ lw_tbl := List.forall_mem_cons.mpr ⟨lx_88, List.forall_mem_cons.mpr ⟨lx_93, List.forall_mem_cons.mpr ⟨lx_94, List.forall_mem_cons.mpr ⟨lx_95, List.forall_mem_cons.mpr ⟨lx_96, List.forall_mem_cons.mpr ⟨lx_114, List.forall_mem_cons.mpr ⟨lx_115, List.forall_mem_cons.mpr ⟨lx_116, List.forall_mem_cons.mpr ⟨lx_117, List.forall_mem_cons.mpr ⟨lx_118, List.forall_mem_cons.mpr ⟨lx_128, List.forall_mem_cons.mpr ⟨lx_129, List.forall_mem_cons.mpr ⟨lx_130, List.forall_mem_cons.mpr ⟨lx_131, List.forall_mem_cons.mpr ⟨lx_132, List.forall_mem_cons.mpr ⟨lx_133, List.forall_mem_cons.mpr ⟨lx_119, List.forall_mem_cons.mpr ⟨lx_120, List.forall_mem_cons.mpr ⟨lx_121, List.forall_mem_cons.mpr ⟨lx_122, List.forall_mem_cons.mpr ⟨lx_123, List.forall_mem_cons.mpr ⟨lx_124, List.forall_mem_cons.mpr ⟨lx_125, List.forall_mem_cons.mpr ⟨lx_126, fun _ h => absurd h List.not_mem_nil⟩⟩⟩⟩⟩⟩⟩⟩⟩⟩⟩⟩⟩⟩⟩⟩⟩⟩⟩⟩⟩⟩⟩⟩
theorem lx_204 : Cond.fieldLink RX6 39 "TapCap$Taps" "denied" "I" ∈ lw_tbl := List.mem_of_getElem? (i := 204) (by decide +kernel)
theorem lx_202 : Cond.fieldLink RX6 35 "TapCap$Taps" "count" "I" ∈ lw_tbl := List.mem_of_getElem? (i := 202) (by decide +kernel)
theorem lx_200 : Cond.fieldLink RX6 32 "TapCap$Taps" "minute" "LTapCap$Row;" ∈ lw_tbl := List.mem_of_getElem? (i := 200) (by decide +kernel)
theorem lx_198 : Cond.fieldLink RX6 29 "TapCap$Taps" "day" "LTapCap$Row;" ∈ lw_tbl := List.mem_of_getElem? (i := 198) (by decide +kernel)
theorem lx_196 : Cond.fieldLink RX6 26 "TapCap$Taps" "in" "LTapCap$Row;" ∈ lw_tbl := List.mem_of_getElem? (i := 196) (by decide +kernel)
theorem lx_194 : Cond.fieldLink RX6 23 "TapCap$Taps" "line" "LTapCap$Row;" ∈ lw_tbl := List.mem_of_getElem? (i := 194) (by decide +kernel)
theorem lx_192 : Cond.fieldLink RX6 20 "TapCap$Taps" "stop" "LTapCap$Row;" ∈ lw_tbl := List.mem_of_getElem? (i := 192) (by decide +kernel)
theorem lx_190 : Cond.fieldLink RX6 14 "TapCap$Taps" "card" "LTapCap$Row;" ∈ lw_tbl := List.mem_of_getElem? (i := 190) (by decide +kernel)
theorem lx_188 : Cond.classLink RX6 9 RX5 ∈ lw_tbl := List.mem_of_getElem? (i := 188) (by decide +kernel)
theorem lx_187 : Cond.methodLink RX6 3 objectInit ∈ lw_tbl := List.mem_of_getElem? (i := 187) (by decide +kernel)
theorem lx_186 : Cond.code yX6_init cX6_init 1 none ∈ lw_tbl := List.mem_of_getElem? (i := 186) (by decide +kernel)
theorem lx_185 : Cond.instanceMethod yX6_init ∈ lw_tbl := List.mem_of_getElem? (i := 185) (by decide +kernel)
theorem lx_155 : Cond.methodLink RX0 11 yX5_init ∈ lw_tbl := List.mem_of_getElem? (i := 155) (by decide +kernel)
theorem lx_167 : Cond.fieldLink RX0 32 "TapCap$Cards" "count" "I" ∈ lw_tbl := List.mem_of_getElem? (i := 167) (by decide +kernel)
theorem lx_165 : Cond.fieldLink RX0 29 "TapCap$Cards" "asked" "LTapCap$Row;" ∈ lw_tbl := List.mem_of_getElem? (i := 165) (by decide +kernel)
theorem lx_163 : Cond.fieldLink RX0 26 "TapCap$Cards" "charged" "LTapCap$Row;" ∈ lw_tbl := List.mem_of_getElem? (i := 163) (by decide +kernel)
theorem lx_161 : Cond.fieldLink RX0 23 "TapCap$Cards" "lost" "LTapCap$Row;" ∈ lw_tbl := List.mem_of_getElem? (i := 161) (by decide +kernel)
theorem lx_158 : Cond.fieldLink RX0 20 "TapCap$Cards" "personOf" "LTapCap$Row;" ∈ lw_tbl := List.mem_of_getElem? (i := 158) (by decide +kernel)
theorem lx_156 : Cond.fieldLink RX0 14 "TapCap$Cards" "purse" "LTapCap$Row;" ∈ lw_tbl := List.mem_of_getElem? (i := 156) (by decide +kernel)
theorem lx_154 : Cond.classLink RX0 9 RX5 ∈ lw_tbl := List.mem_of_getElem? (i := 154) (by decide +kernel)
theorem lx_153 : Cond.methodLink RX0 3 objectInit ∈ lw_tbl := List.mem_of_getElem? (i := 153) (by decide +kernel)
theorem lx_152 : Cond.code yX0_init cX0_init 1 none ∈ lw_tbl := List.mem_of_getElem? (i := 152) (by decide +kernel)
theorem lx_151 : Cond.instanceMethod yX0_init ∈ lw_tbl := List.mem_of_getElem? (i := 151) (by decide +kernel)
theorem lx_127 : Cond.code yX5_put cX5_put 3 none ∈ lw_tbl := List.mem_of_getElem? (i := 127) (by decide +kernel)
theorem im_wsX8_init_r4 : ∀ w ∈ wsX8_init_r4, w ∈ lw_tbl := List.forall_mem_cons.mpr ⟨lx_127, List.forall_mem_cons.mpr ⟨lx_151, List.forall_mem_cons.mpr ⟨lx_152, List.forall_mem_cons.mpr ⟨lx_153, List.forall_mem_cons.mpr ⟨lx_154, List.forall_mem_cons.mpr ⟨lx_156, List.forall_mem_cons.mpr ⟨lx_158, List.forall_mem_cons.mpr ⟨lx_161, List.forall_mem_cons.mpr ⟨lx_163, List.forall_mem_cons.mpr ⟨lx_165, List.forall_mem_cons.mpr ⟨lx_167, List.forall_mem_cons.mpr ⟨lx_155, List.forall_mem_cons.mpr ⟨lx_185, List.forall_mem_cons.mpr ⟨lx_186, List.forall_mem_cons.mpr ⟨lx_187, List.forall_mem_cons.mpr ⟨lx_188, List.forall_mem_cons.mpr ⟨lx_190, List.forall_mem_cons.mpr ⟨lx_192, List.forall_mem_cons.mpr ⟨lx_194, List.forall_mem_cons.mpr ⟨lx_196, List.forall_mem_cons.mpr ⟨lx_198, List.forall_mem_cons.mpr ⟨lx_200, List.forall_mem_cons.mpr ⟨lx_202, List.forall_mem_cons.mpr ⟨lx_204, fun _ h => absurd h List.not_mem_nil⟩⟩⟩⟩⟩⟩⟩⟩⟩⟩⟩⟩⟩⟩⟩⟩⟩⟩⟩⟩⟩⟩⟩⟩
theorem lx_301 : Cond.code yX2_init cX2_init 1 none ∈ lw_tbl := List.mem_of_getElem? (i := 301) (by decide +kernel)
theorem lx_300 : Cond.instanceMethod yX2_init ∈ lw_tbl := List.mem_of_getElem? (i := 300) (by decide +kernel)
theorem lx_234 : Cond.methodLink RX3 11 yX5_init ∈ lw_tbl := List.mem_of_getElem? (i := 234) (by decide +kernel)
theorem lx_265 : Cond.fieldLink RX3 60 "TapCap$Legs" "ordered" "I" ∈ lw_tbl := List.mem_of_getElem? (i := 265) (by decide +kernel)
theorem lx_264 : Cond.fieldLink RX3 57 "TapCap$Legs" "votes" "LTapCap$Row;" ∈ lw_tbl := List.mem_of_getElem? (i := 264) (by decide +kernel)
theorem lx_263 : Cond.fieldLink RX3 54 "TapCap$Legs" "moments" "LTapCap$Row;" ∈ lw_tbl := List.mem_of_getElem? (i := 263) (by decide +kernel)
theorem lx_262 : Cond.fieldLink RX3 51 "TapCap$Legs" "order" "LTapCap$Row;" ∈ lw_tbl := List.mem_of_getElem? (i := 262) (by decide +kernel)
theorem lx_260 : Cond.fieldLink RX3 47 "TapCap$Legs" "count" "I" ∈ lw_tbl := List.mem_of_getElem? (i := 260) (by decide +kernel)
theorem lx_258 : Cond.fieldLink RX3 44 "TapCap$Legs" "tapsOn" "LTapCap$Row;" ∈ lw_tbl := List.mem_of_getElem? (i := 258) (by decide +kernel)
theorem lx_256 : Cond.fieldLink RX3 41 "TapCap$Legs" "countOn" "LTapCap$Row;" ∈ lw_tbl := List.mem_of_getElem? (i := 256) (by decide +kernel)
theorem lx_254 : Cond.fieldLink RX3 38 "TapCap$Legs" "firstOn" "LTapCap$Row;" ∈ lw_tbl := List.mem_of_getElem? (i := 254) (by decide +kernel)
theorem lx_252 : Cond.fieldLink RX3 35 "TapCap$Legs" "guessed" "LTapCap$Row;" ∈ lw_tbl := List.mem_of_getElem? (i := 252) (by decide +kernel)
theorem lx_249 : Cond.fieldLink RX3 32 "TapCap$Legs" "lineOf" "LTapCap$Row;" ∈ lw_tbl := List.mem_of_getElem? (i := 249) (by decide +kernel)
theorem lx_246 : Cond.fieldLink RX3 29 "TapCap$Legs" "end" "LTapCap$Row;" ∈ lw_tbl := List.mem_of_getElem? (i := 246) (by decide +kernel)
theorem lx_243 : Cond.fieldLink RX3 26 "TapCap$Legs" "begin" "LTapCap$Row;" ∈ lw_tbl := List.mem_of_getElem? (i := 243) (by decide +kernel)
theorem lx_240 : Cond.fieldLink RX3 23 "TapCap$Legs" "to" "LTapCap$Row;" ∈ lw_tbl := List.mem_of_getElem? (i := 240) (by decide +kernel)
theorem lx_237 : Cond.fieldLink RX3 20 "TapCap$Legs" "from" "LTapCap$Row;" ∈ lw_tbl := List.mem_of_getElem? (i := 237) (by decide +kernel)
theorem lx_235 : Cond.fieldLink RX3 14 "TapCap$Legs" "dayOf" "LTapCap$Row;" ∈ lw_tbl := List.mem_of_getElem? (i := 235) (by decide +kernel)
theorem lx_233 : Cond.classLink RX3 9 RX5 ∈ lw_tbl := List.mem_of_getElem? (i := 233) (by decide +kernel)
theorem lx_232 : Cond.methodLink RX3 3 objectInit ∈ lw_tbl := List.mem_of_getElem? (i := 232) (by decide +kernel)
theorem lx_231 : Cond.code yX3_init cX3_init 1 none ∈ lw_tbl := List.mem_of_getElem? (i := 231) (by decide +kernel)
theorem lx_230 : Cond.instanceMethod yX3_init ∈ lw_tbl := List.mem_of_getElem? (i := 230) (by decide +kernel)
theorem lx_189 : Cond.methodLink RX6 11 yX5_init ∈ lw_tbl := List.mem_of_getElem? (i := 189) (by decide +kernel)
theorem lx_206 : Cond.fieldLink RX6 42 "TapCap$Taps" "doubled" "I" ∈ lw_tbl := List.mem_of_getElem? (i := 206) (by decide +kernel)
theorem im_wsX8_init_r5 : ∀ w ∈ wsX8_init_r5, w ∈ lw_tbl := List.forall_mem_cons.mpr ⟨lx_206, List.forall_mem_cons.mpr ⟨lx_189, List.forall_mem_cons.mpr ⟨lx_230, List.forall_mem_cons.mpr ⟨lx_231, List.forall_mem_cons.mpr ⟨lx_232, List.forall_mem_cons.mpr ⟨lx_233, List.forall_mem_cons.mpr ⟨lx_235, List.forall_mem_cons.mpr ⟨lx_237, List.forall_mem_cons.mpr ⟨lx_240, List.forall_mem_cons.mpr ⟨lx_243, List.forall_mem_cons.mpr ⟨lx_246, List.forall_mem_cons.mpr ⟨lx_249, List.forall_mem_cons.mpr ⟨lx_252, List.forall_mem_cons.mpr ⟨lx_254, List.forall_mem_cons.mpr ⟨lx_256, List.forall_mem_cons.mpr ⟨lx_258, List.forall_mem_cons.mpr ⟨lx_260, List.forall_mem_cons.mpr ⟨lx_262, List.forall_mem_cons.mpr ⟨lx_263, List.forall_mem_cons.mpr ⟨lx_264, List.forall_mem_cons.mpr ⟨lx_265, List.forall_mem_cons.mpr ⟨lx_234, List.forall_mem_cons.mpr ⟨lx_300, List.forall_mem_cons.mpr ⟨lx_301, fun _ h => absurd h List.not_mem_nil⟩⟩⟩⟩⟩⟩⟩⟩⟩⟩⟩⟩⟩⟩⟩⟩⟩⟩⟩⟩⟩⟩⟩⟩
theorem lx_350 : Cond.methodLink RX1 11 yX5_init ∈ lw_tbl := List.mem_of_getElem? (i := 350) (by decide +kernel)
theorem lx_356 : Cond.fieldLink RX1 26 "TapCap$Costs" "weekTickets" "LTapCap$Row;" ∈ lw_tbl := List.mem_of_getElem? (i := 356) (by decide +kernel)
theorem lx_355 : Cond.fieldLink RX1 23 "TapCap$Costs" "beside" "LTapCap$Row;" ∈ lw_tbl := List.mem_of_getElem? (i := 355) (by decide +kernel)
theorem lx_353 : Cond.fieldLink RX1 20 "TapCap$Costs" "weekChoice" "LTapCap$Row;" ∈ lw_tbl := List.mem_of_getElem? (i := 353) (by decide +kernel)
theorem lx_351 : Cond.fieldLink RX1 14 "TapCap$Costs" "dayChoice" "LTapCap$Row;" ∈ lw_tbl := List.mem_of_getElem? (i := 351) (by decide +kernel)
theorem lx_349 : Cond.classLink RX1 9 RX5 ∈ lw_tbl := List.mem_of_getElem? (i := 349) (by decide +kernel)
theorem lx_348 : Cond.methodLink RX1 3 objectInit ∈ lw_tbl := List.mem_of_getElem? (i := 348) (by decide +kernel)
theorem lx_347 : Cond.code yX1_init cX1_init 1 none ∈ lw_tbl := List.mem_of_getElem? (i := 347) (by decide +kernel)
theorem lx_346 : Cond.instanceMethod yX1_init ∈ lw_tbl := List.mem_of_getElem? (i := 346) (by decide +kernel)
theorem lx_304 : Cond.methodLink RX2 11 yX5_init ∈ lw_tbl := List.mem_of_getElem? (i := 304) (by decide +kernel)
theorem lx_321 : Cond.fieldLink RX2 44 "TapCap$Journeys" "count" "I" ∈ lw_tbl := List.mem_of_getElem? (i := 321) (by decide +kernel)
theorem lx_320 : Cond.fieldLink RX2 41 "TapCap$Journeys" "bottom" "LTapCap$Row;" ∈ lw_tbl := List.mem_of_getElem? (i := 320) (by decide +kernel)
theorem lx_319 : Cond.fieldLink RX2 38 "TapCap$Journeys" "firstLeg" "LTapCap$Row;" ∈ lw_tbl := List.mem_of_getElem? (i := 319) (by decide +kernel)
theorem lx_318 : Cond.fieldLink RX2 35 "TapCap$Journeys" "dayOf" "LTapCap$Row;" ∈ lw_tbl := List.mem_of_getElem? (i := 318) (by decide +kernel)
theorem lx_315 : Cond.fieldLink RX2 32 "TapCap$Journeys" "countOn" "LTapCap$Row;" ∈ lw_tbl := List.mem_of_getElem? (i := 315) (by decide +kernel)
theorem lx_313 : Cond.fieldLink RX2 29 "TapCap$Journeys" "firstOn" "LTapCap$Row;" ∈ lw_tbl := List.mem_of_getElem? (i := 313) (by decide +kernel)
theorem lx_311 : Cond.fieldLink RX2 26 "TapCap$Journeys" "indexOfLeg" "LTapCap$Row;" ∈ lw_tbl := List.mem_of_getElem? (i := 311) (by decide +kernel)
theorem lx_309 : Cond.fieldLink RX2 23 "TapCap$Journeys" "fare" "LTapCap$Row;" ∈ lw_tbl := List.mem_of_getElem? (i := 309) (by decide +kernel)
theorem lx_307 : Cond.fieldLink RX2 20 "TapCap$Journeys" "top" "LTapCap$Row;" ∈ lw_tbl := List.mem_of_getElem? (i := 307) (by decide +kernel)
theorem lx_305 : Cond.fieldLink RX2 14 "TapCap$Journeys" "legCount" "LTapCap$Row;" ∈ lw_tbl := List.mem_of_getElem? (i := 305) (by decide +kernel)
theorem lx_303 : Cond.classLink RX2 9 RX5 ∈ lw_tbl := List.mem_of_getElem? (i := 303) (by decide +kernel)
theorem lx_302 : Cond.methodLink RX2 3 objectInit ∈ lw_tbl := List.mem_of_getElem? (i := 302) (by decide +kernel)
theorem im_wsX8_init_r6 : ∀ w ∈ wsX8_init_r6, w ∈ lw_tbl := List.forall_mem_cons.mpr ⟨lx_302, List.forall_mem_cons.mpr ⟨lx_303, List.forall_mem_cons.mpr ⟨lx_305, List.forall_mem_cons.mpr ⟨lx_307, List.forall_mem_cons.mpr ⟨lx_309, List.forall_mem_cons.mpr ⟨lx_311, List.forall_mem_cons.mpr ⟨lx_313, List.forall_mem_cons.mpr ⟨lx_315, List.forall_mem_cons.mpr ⟨lx_318, List.forall_mem_cons.mpr ⟨lx_319, List.forall_mem_cons.mpr ⟨lx_320, List.forall_mem_cons.mpr ⟨lx_321, List.forall_mem_cons.mpr ⟨lx_304, List.forall_mem_cons.mpr ⟨lx_346, List.forall_mem_cons.mpr ⟨lx_347, List.forall_mem_cons.mpr ⟨lx_348, List.forall_mem_cons.mpr ⟨lx_349, List.forall_mem_cons.mpr ⟨lx_351, List.forall_mem_cons.mpr ⟨lx_353, List.forall_mem_cons.mpr ⟨lx_355, List.forall_mem_cons.mpr ⟨lx_356, List.forall_mem_cons.mpr ⟨lx_350, fun _ h => absurd h List.not_mem_nil⟩⟩⟩⟩⟩⟩⟩⟩⟩⟩⟩⟩⟩⟩⟩⟩⟩⟩⟩⟩⟩⟩
theorem im_wsX8_init : ∀ w ∈ wsX8_init, w ∈ lw_tbl := List.forall_mem_cons.mpr ⟨lx_72, List.forall_mem_append.mpr ⟨List.forall_mem_append.mpr ⟨List.forall_mem_append.mpr ⟨List.forall_mem_append.mpr ⟨List.forall_mem_append.mpr ⟨List.forall_mem_append.mpr ⟨List.forall_mem_append.mpr ⟨List.forall_mem_append.mpr ⟨List.forall_mem_append.mpr ⟨List.forall_mem_append.mpr ⟨im_wsX8_init_r1, List.forall_mem_append.mpr ⟨im_wsX8_init_r2, List.forall_mem_append.mpr ⟨im_wsX8_init_r3, List.forall_mem_append.mpr ⟨im_wsX8_init_r4, List.forall_mem_append.mpr ⟨im_wsX8_init_r5, im_wsX8_init_r6⟩⟩⟩⟩⟩, inX4⟩, inX8⟩, inX7⟩, inX0⟩, inX6⟩, inX3⟩, inX2⟩, inX1⟩, inX5⟩⟩
set_option maxRecDepth 20000 in
theorem gl_X8_init : GoodIn lw_tbl (wsX8_init) := goodIn_sub (im_wsX8_init) (by decide +kernel)
theorem lx_962 : Cond.code yX9_init cX9_init 1 none ∈ lw_tbl := List.mem_of_getElem? (i := 962) (by decide +kernel)
theorem lx_977 : Cond.fieldLink RX9 35 "TapCapModel" "asked" "[Z" ∈ lw_tbl := List.mem_of_getElem? (i := 977) (by decide +kernel)
theorem lx_1016 : Cond.arrayClass .boolean ∈ lw_tbl := List.mem_of_getElem? (i := 1016) (by decide +kernel)
theorem lx_976 : Cond.fieldLink RX9 32 "TapCapModel" "lateness" "[[I" ∈ lw_tbl := List.mem_of_getElem? (i := 976) (by decide +kernel)
theorem lx_974 : Cond.fieldLink RX9 29 "TapCapModel" "taps" "[[I" ∈ lw_tbl := List.mem_of_getElem? (i := 974) (by decide +kernel)
theorem lx_972 : Cond.fieldLink RX9 26 "TapCapModel" "cards" "[[I" ∈ lw_tbl := List.mem_of_getElem? (i := 972) (by decide +kernel)
theorem lx_966 : Cond.classLink RX9 25 "[[I" ∈ lw_tbl := List.mem_of_getElem? (i := 966) (by decide +kernel)
theorem lx_971 : Cond.fieldLink RX9 21 "TapCapModel" "tariffCount" "I" ∈ lw_tbl := List.mem_of_getElem? (i := 971) (by decide +kernel)
theorem lx_970 : Cond.fieldLink RX9 17 "TapCapModel" "tariffs" "[[I" ∈ lw_tbl := List.mem_of_getElem? (i := 970) (by decide +kernel)
theorem lx_964 : Cond.classLink RX9 16 "[I" ∈ lw_tbl := List.mem_of_getElem? (i := 964) (by decide +kernel)
theorem lx_969 : Cond.fieldLink RX9 13 "TapCapModel" "carriers" "[I" ∈ lw_tbl := List.mem_of_getElem? (i := 969) (by decide +kernel)
theorem lx_968 : Cond.fieldLink RX9 7 "TapCapModel" "zones" "[I" ∈ lw_tbl := List.mem_of_getElem? (i := 968) (by decide +kernel)
theorem lx_963 : Cond.methodLink RX9 1 objectInit ∈ lw_tbl := List.mem_of_getElem? (i := 963) (by decide +kernel)
theorem im_wsX9_init : ∀ w ∈ wsX9_init, w ∈ lw_tbl := List.forall_mem_cons.mpr ⟨lx_962, List.forall_mem_append.mpr ⟨List.forall_mem_cons.mpr ⟨lx_963, List.forall_mem_cons.mpr ⟨lx_74, List.forall_mem_cons.mpr ⟨lx_75, List.forall_mem_cons.mpr ⟨lx_92, List.forall_mem_cons.mpr ⟨lx_968, List.forall_mem_cons.mpr ⟨lx_969, List.forall_mem_cons.mpr ⟨lx_964, List.forall_mem_cons.mpr ⟨lx_970, List.forall_mem_cons.mpr ⟨lx_971, List.forall_mem_cons.mpr ⟨lx_966, List.forall_mem_cons.mpr ⟨lx_972, List.forall_mem_cons.mpr ⟨lx_974, List.forall_mem_cons.mpr ⟨lx_976, List.forall_mem_cons.mpr ⟨lx_1016, List.forall_mem_cons.mpr ⟨lx_977, fun _ h => absurd h List.not_mem_nil⟩⟩⟩⟩⟩⟩⟩⟩⟩⟩⟩⟩⟩⟩⟩, inX9⟩⟩
set_option maxRecDepth 20000 in
theorem gl_X9_init : GoodIn lw_tbl (wsX9_init) := goodIn_sub (im_wsX9_init) (by decide +kernel)
theorem lx_49 : Cond.initialized RL ∈ lw_tbl := List.mem_of_getElem? (i := 49) (by decide +kernel)
theorem lx_598 : Cond.static yL_zone ∈ lw_tbl := List.mem_of_getElem? (i := 598) (by decide +kernel)
theorem lx_597 : Cond.methodLink RL 101 yL_zone ∈ lw_tbl := List.mem_of_getElem? (i := 597) (by decide +kernel)
theorem lx_599 : Cond.codeWith yL_zone cL_zone 5 (some .int) [(0, 10, 13, 13), (0, 10, 17, 15)] ∈ lw_tbl := List.mem_of_getElem? (i := 599) (by decide +kernel)
theorem lx_601 : Cond.classLink RL 15 "java/lang/IllegalArgumentException" ∈ lw_tbl := List.mem_of_getElem? (i := 601) (by decide +kernel)
theorem lx_600 : Cond.classLink RL 13 "java/lang/IndexOutOfBoundsException" ∈ lw_tbl := List.mem_of_getElem? (i := 600) (by decide +kernel)
theorem lx_50 : Cond.initialized RX8 ∈ lw_tbl := List.mem_of_getElem? (i := 50) (by decide +kernel)
theorem lx_604 : Cond.selects RX8 yX8_zone yX8_zone ∈ lw_tbl := List.mem_of_getElem? (i := 604) (by decide +kernel)
theorem lx_603 : Cond.instanceMethod yX8_zone ∈ lw_tbl := List.mem_of_getElem? (i := 603) (by decide +kernel)
theorem lx_602 : Cond.methodLink RL 7 yX8_zone ∈ lw_tbl := List.mem_of_getElem? (i := 602) (by decide +kernel)
theorem lx_605 : Cond.code yX8_zone cX8_zone 4 (some .int) ∈ lw_tbl := List.mem_of_getElem? (i := 605) (by decide +kernel)
theorem lx_98 : Cond.fieldLink RX8 73 "TapCap$Region" "zoneOf" "LTapCap$Row;" ∈ lw_tbl := List.mem_of_getElem? (i := 98) (by decide +kernel)
theorem lx_607 : Cond.static yX8_needNumber ∈ lw_tbl := List.mem_of_getElem? (i := 607) (by decide +kernel)
theorem lx_606 : Cond.methodLink RX8 65 yX8_needNumber ∈ lw_tbl := List.mem_of_getElem? (i := 606) (by decide +kernel)
theorem lx_608 : Cond.code yX8_needNumber cX8_needNumber 2 none ∈ lw_tbl := List.mem_of_getElem? (i := 608) (by decide +kernel)
theorem lx_63 : Cond.initialized "java/lang/IndexOutOfBoundsException" ∈ lw_tbl := List.mem_of_getElem? (i := 63) (by decide +kernel)
theorem lx_609 : Cond.classLink RX8 246 "java/lang/IndexOutOfBoundsException" ∈ lw_tbl := List.mem_of_getElem? (i := 609) (by decide +kernel)
theorem im_wsX8_needNumber : ∀ w ∈ wsX8_needNumber, w ∈ lw_tbl := List.forall_mem_cons.mpr ⟨lx_608, List.forall_mem_append.mpr ⟨List.forall_mem_cons.mpr ⟨lx_609, List.forall_mem_cons.mpr ⟨lx_63, fun _ h => absurd h List.not_mem_nil⟩⟩, wsL_law_x0⟩⟩
theorem lx_678 : Cond.static yX8_needRange ∈ lw_tbl := List.mem_of_getElem? (i := 678) (by decide +kernel)
theorem lx_677 : Cond.methodLink RX8 69 yX8_needRange ∈ lw_tbl := List.mem_of_getElem? (i := 677) (by decide +kernel)
theorem lx_679 : Cond.code yX8_needRange cX8_needRange 3 none ∈ lw_tbl := List.mem_of_getElem? (i := 679) (by decide +kernel)
theorem lx_64 : Cond.initialized "java/lang/IllegalArgumentException" ∈ lw_tbl := List.mem_of_getElem? (i := 64) (by decide +kernel)
theorem lx_680 : Cond.classLink RX8 117 "java/lang/IllegalArgumentException" ∈ lw_tbl := List.mem_of_getElem? (i := 680) (by decide +kernel)
theorem im_wsX8_needRange : ∀ w ∈ wsX8_needRange, w ∈ lw_tbl := List.forall_mem_cons.mpr ⟨lx_679, List.forall_mem_append.mpr ⟨List.forall_mem_cons.mpr ⟨lx_680, List.forall_mem_cons.mpr ⟨lx_64, fun _ h => absurd h List.not_mem_nil⟩⟩, wsL_law_x1⟩⟩
theorem lx_414 : Cond.selects RX5 yX5_at yX5_at ∈ lw_tbl := List.mem_of_getElem? (i := 414) (by decide +kernel)
theorem lx_413 : Cond.instanceMethod yX5_at ∈ lw_tbl := List.mem_of_getElem? (i := 413) (by decide +kernel)
theorem lx_412 : Cond.methodLink RX8 77 yX5_at ∈ lw_tbl := List.mem_of_getElem? (i := 412) (by decide +kernel)
theorem lx_415 : Cond.code yX5_at cX5_at 2 (some .int) ∈ lw_tbl := List.mem_of_getElem? (i := 415) (by decide +kernel)
theorem im_wsX5_at : ∀ w ∈ wsX5_at, w ∈ lw_tbl := List.forall_mem_cons.mpr ⟨lx_415, List.forall_mem_append.mpr ⟨List.forall_mem_cons.mpr ⟨lx_88, fun _ h => absurd h List.not_mem_nil⟩, inX5⟩⟩
theorem lx_696 : Cond.methodLink RX8 83 yX5_put ∈ lw_tbl := List.mem_of_getElem? (i := 696) (by decide +kernel)
theorem im_wsX5_put : ∀ w ∈ wsX5_put, w ∈ lw_tbl := List.forall_mem_cons.mpr ⟨lx_127, List.forall_mem_append.mpr ⟨List.forall_mem_cons.mpr ⟨lx_88, fun _ h => absurd h List.not_mem_nil⟩, inX5⟩⟩
theorem im_wsX8_zone : ∀ w ∈ wsX8_zone, w ∈ lw_tbl := List.forall_mem_cons.mpr ⟨lx_605, List.forall_mem_append.mpr ⟨List.forall_mem_append.mpr ⟨List.forall_mem_append.mpr ⟨List.forall_mem_append.mpr ⟨List.forall_mem_append.mpr ⟨List.forall_mem_append.mpr ⟨List.forall_mem_append.mpr ⟨List.forall_mem_cons.mpr ⟨lx_366, List.forall_mem_cons.mpr ⟨lx_98, fun _ h => absurd h List.not_mem_nil⟩⟩, inX4⟩, inX5⟩, inX8⟩, List.forall_mem_append.mpr ⟨List.forall_mem_cons.mpr ⟨lx_606, List.forall_mem_cons.mpr ⟨lx_607, List.forall_mem_cons.mpr ⟨lx_50, fun _ h => absurd h List.not_mem_nil⟩⟩⟩, im_wsX8_needNumber⟩⟩, List.forall_mem_append.mpr ⟨List.forall_mem_cons.mpr ⟨lx_677, List.forall_mem_cons.mpr ⟨lx_678, List.forall_mem_cons.mpr ⟨lx_50, fun _ h => absurd h List.not_mem_nil⟩⟩⟩, im_wsX8_needRange⟩⟩, List.forall_mem_append.mpr ⟨List.forall_mem_cons.mpr ⟨lx_412, List.forall_mem_cons.mpr ⟨lx_413, List.forall_mem_cons.mpr ⟨lx_414, List.forall_mem_cons.mpr ⟨lx_52, fun _ h => absurd h List.not_mem_nil⟩⟩⟩⟩, im_wsX5_at⟩⟩, List.forall_mem_append.mpr ⟨List.forall_mem_cons.mpr ⟨lx_696, List.forall_mem_cons.mpr ⟨lx_125, List.forall_mem_cons.mpr ⟨lx_126, List.forall_mem_cons.mpr ⟨lx_52, fun _ h => absurd h List.not_mem_nil⟩⟩⟩⟩, im_wsX5_put⟩⟩⟩
theorem im_wsL_zone : ∀ w ∈ wsL_zone, w ∈ lw_tbl := List.forall_mem_cons.mpr ⟨lx_599, List.forall_mem_append.mpr ⟨List.forall_mem_cons.mpr ⟨lx_600, List.forall_mem_cons.mpr ⟨lx_601, fun _ h => absurd h List.not_mem_nil⟩⟩, List.forall_mem_append.mpr ⟨List.forall_mem_cons.mpr ⟨lx_602, List.forall_mem_cons.mpr ⟨lx_603, List.forall_mem_cons.mpr ⟨lx_604, List.forall_mem_cons.mpr ⟨lx_50, fun _ h => absurd h List.not_mem_nil⟩⟩⟩⟩, im_wsX8_zone⟩⟩⟩
set_option maxRecDepth 20000 in
theorem gl_L_zone : GoodIn lw_tbl (va_wsS RL 101 yL_zone wsL_zone) := goodIn_sub (List.forall_mem_append.mpr ⟨List.forall_mem_cons.mpr ⟨lx_597, List.forall_mem_cons.mpr ⟨lx_598, List.forall_mem_cons.mpr ⟨lx_49, fun _ h => absurd h List.not_mem_nil⟩⟩⟩, im_wsL_zone⟩) (by decide +kernel)
theorem lx_59 : Cond.initialized RX9 ∈ lw_tbl := List.mem_of_getElem? (i := 59) (by decide +kernel)
theorem lx_1023 : Cond.selects RX9 yX9_zone yX9_zone ∈ lw_tbl := List.mem_of_getElem? (i := 1023) (by decide +kernel)
theorem lx_1022 : Cond.instanceMethod yX9_zone ∈ lw_tbl := List.mem_of_getElem? (i := 1022) (by decide +kernel)
theorem lx_1021 : Cond.methodLink RL 106 yX9_zone ∈ lw_tbl := List.mem_of_getElem? (i := 1021) (by decide +kernel)
theorem lx_1024 : Cond.code yX9_zone cX9_zone 4 (some .int) ∈ lw_tbl := List.mem_of_getElem? (i := 1024) (by decide +kernel)
theorem lx_1031 : Cond.code yX9_no cX9_no 2 (some .int) ∈ lw_tbl := List.mem_of_getElem? (i := 1031) (by decide +kernel)
theorem lx_30 : Cond.selects RX9 yX9_no yX9_no ∈ lw_tbl := List.mem_of_getElem? (i := 30) (by decide +kernel)
theorem lx_1030 : Cond.instanceMethod yX9_no ∈ lw_tbl := List.mem_of_getElem? (i := 1030) (by decide +kernel)
theorem lx_1028 : Cond.methodLink RX9 108 yX9_no ∈ lw_tbl := List.mem_of_getElem? (i := 1028) (by decide +kernel)
theorem lx_1027 : Cond.code yX9_in cX9_in 3 (some .boolean) ∈ lw_tbl := List.mem_of_getElem? (i := 1027) (by decide +kernel)
theorem lx_1026 : Cond.static yX9_in ∈ lw_tbl := List.mem_of_getElem? (i := 1026) (by decide +kernel)
theorem lx_1025 : Cond.methodLink RX9 45 yX9_in ∈ lw_tbl := List.mem_of_getElem? (i := 1025) (by decide +kernel)
theorem lx_967 : Cond.fieldLink RX9 39 "TapCapModel" "thrown" "I" ∈ lw_tbl := List.mem_of_getElem? (i := 967) (by decide +kernel)
theorem im_wsX9_zone : ∀ w ∈ wsX9_zone, w ∈ lw_tbl := List.forall_mem_cons.mpr ⟨lx_1024, List.forall_mem_append.mpr ⟨List.forall_mem_cons.mpr ⟨lx_967, List.forall_mem_cons.mpr ⟨lx_968, List.forall_mem_cons.mpr ⟨lx_1025, List.forall_mem_cons.mpr ⟨lx_1026, List.forall_mem_cons.mpr ⟨lx_59, List.forall_mem_cons.mpr ⟨lx_1027, List.forall_mem_cons.mpr ⟨lx_1028, List.forall_mem_cons.mpr ⟨lx_1030, List.forall_mem_cons.mpr ⟨lx_30, List.forall_mem_cons.mpr ⟨lx_1031, fun _ h => absurd h List.not_mem_nil⟩⟩⟩⟩⟩⟩⟩⟩⟩⟩, inX9⟩⟩
set_option maxRecDepth 20000 in
theorem gl_X9_zone : GoodIn lw_tbl (wsV RL 106 RX9 yX9_zone wsX9_zone) := goodIn_sub (List.forall_mem_append.mpr ⟨List.forall_mem_cons.mpr ⟨lx_1021, List.forall_mem_cons.mpr ⟨lx_1022, List.forall_mem_cons.mpr ⟨lx_1023, List.forall_mem_cons.mpr ⟨lx_59, fun _ h => absurd h List.not_mem_nil⟩⟩⟩⟩, im_wsX9_zone⟩) (by decide +kernel)
theorem lx_698 : Cond.static yL_carrier ∈ lw_tbl := List.mem_of_getElem? (i := 698) (by decide +kernel)
theorem lx_697 : Cond.methodLink RL 110 yL_carrier ∈ lw_tbl := List.mem_of_getElem? (i := 697) (by decide +kernel)
theorem lx_699 : Cond.codeWith yL_carrier cL_carrier 5 (some .int) [(0, 10, 13, 13)] ∈ lw_tbl := List.mem_of_getElem? (i := 699) (by decide +kernel)
theorem lx_702 : Cond.selects RX8 yX8_carrier yX8_carrier ∈ lw_tbl := List.mem_of_getElem? (i := 702) (by decide +kernel)
theorem lx_701 : Cond.instanceMethod yX8_carrier ∈ lw_tbl := List.mem_of_getElem? (i := 701) (by decide +kernel)
theorem lx_700 : Cond.methodLink RL 17 yX8_carrier ∈ lw_tbl := List.mem_of_getElem? (i := 700) (by decide +kernel)
theorem lx_703 : Cond.code yX8_carrier cX8_carrier 4 (some .int) ∈ lw_tbl := List.mem_of_getElem? (i := 703) (by decide +kernel)
theorem lx_101 : Cond.fieldLink RX8 86 "TapCap$Region" "carrierOf" "LTapCap$Row;" ∈ lw_tbl := List.mem_of_getElem? (i := 101) (by decide +kernel)
theorem im_wsX8_carrier : ∀ w ∈ wsX8_carrier, w ∈ lw_tbl := List.forall_mem_cons.mpr ⟨lx_703, List.forall_mem_append.mpr ⟨List.forall_mem_append.mpr ⟨List.forall_mem_append.mpr ⟨List.forall_mem_append.mpr ⟨List.forall_mem_append.mpr ⟨List.forall_mem_append.mpr ⟨List.forall_mem_cons.mpr ⟨lx_366, List.forall_mem_cons.mpr ⟨lx_101, fun _ h => absurd h List.not_mem_nil⟩⟩, inX4⟩, inX5⟩, inX8⟩, List.forall_mem_append.mpr ⟨List.forall_mem_cons.mpr ⟨lx_606, List.forall_mem_cons.mpr ⟨lx_607, List.forall_mem_cons.mpr ⟨lx_50, fun _ h => absurd h List.not_mem_nil⟩⟩⟩, im_wsX8_needNumber⟩⟩, List.forall_mem_append.mpr ⟨List.forall_mem_cons.mpr ⟨lx_412, List.forall_mem_cons.mpr ⟨lx_413, List.forall_mem_cons.mpr ⟨lx_414, List.forall_mem_cons.mpr ⟨lx_52, fun _ h => absurd h List.not_mem_nil⟩⟩⟩⟩, im_wsX5_at⟩⟩, List.forall_mem_append.mpr ⟨List.forall_mem_cons.mpr ⟨lx_696, List.forall_mem_cons.mpr ⟨lx_125, List.forall_mem_cons.mpr ⟨lx_126, List.forall_mem_cons.mpr ⟨lx_52, fun _ h => absurd h List.not_mem_nil⟩⟩⟩⟩, im_wsX5_put⟩⟩⟩
theorem im_wsL_carrier : ∀ w ∈ wsL_carrier, w ∈ lw_tbl := List.forall_mem_cons.mpr ⟨lx_699, List.forall_mem_append.mpr ⟨List.forall_mem_cons.mpr ⟨lx_600, fun _ h => absurd h List.not_mem_nil⟩, List.forall_mem_append.mpr ⟨List.forall_mem_cons.mpr ⟨lx_700, List.forall_mem_cons.mpr ⟨lx_701, List.forall_mem_cons.mpr ⟨lx_702, List.forall_mem_cons.mpr ⟨lx_50, fun _ h => absurd h List.not_mem_nil⟩⟩⟩⟩, im_wsX8_carrier⟩⟩⟩
set_option maxRecDepth 20000 in
theorem gl_L_carrier : GoodIn lw_tbl (va_wsS RL 110 yL_carrier wsL_carrier) := goodIn_sub (List.forall_mem_append.mpr ⟨List.forall_mem_cons.mpr ⟨lx_697, List.forall_mem_cons.mpr ⟨lx_698, List.forall_mem_cons.mpr ⟨lx_49, fun _ h => absurd h List.not_mem_nil⟩⟩⟩, im_wsL_carrier⟩) (by decide +kernel)
theorem lx_1034 : Cond.selects RX9 yX9_carrier yX9_carrier ∈ lw_tbl := List.mem_of_getElem? (i := 1034) (by decide +kernel)
theorem lx_1033 : Cond.instanceMethod yX9_carrier ∈ lw_tbl := List.mem_of_getElem? (i := 1033) (by decide +kernel)
theorem lx_1032 : Cond.methodLink RL 112 yX9_carrier ∈ lw_tbl := List.mem_of_getElem? (i := 1032) (by decide +kernel)
theorem lx_1035 : Cond.code yX9_carrier cX9_carrier 4 (some .int) ∈ lw_tbl := List.mem_of_getElem? (i := 1035) (by decide +kernel)
theorem im_wsX9_carrier : ∀ w ∈ wsX9_carrier, w ∈ lw_tbl := List.forall_mem_cons.mpr ⟨lx_1035, List.forall_mem_append.mpr ⟨List.forall_mem_cons.mpr ⟨lx_967, List.forall_mem_cons.mpr ⟨lx_969, List.forall_mem_cons.mpr ⟨lx_1025, List.forall_mem_cons.mpr ⟨lx_1026, List.forall_mem_cons.mpr ⟨lx_59, List.forall_mem_cons.mpr ⟨lx_1027, List.forall_mem_cons.mpr ⟨lx_1028, List.forall_mem_cons.mpr ⟨lx_1030, List.forall_mem_cons.mpr ⟨lx_30, List.forall_mem_cons.mpr ⟨lx_1031, fun _ h => absurd h List.not_mem_nil⟩⟩⟩⟩⟩⟩⟩⟩⟩⟩, inX9⟩⟩
set_option maxRecDepth 20000 in
theorem gl_X9_carrier : GoodIn lw_tbl (wsV RL 112 RX9 yX9_carrier wsX9_carrier) := goodIn_sub (List.forall_mem_append.mpr ⟨List.forall_mem_cons.mpr ⟨lx_1032, List.forall_mem_cons.mpr ⟨lx_1033, List.forall_mem_cons.mpr ⟨lx_1034, List.forall_mem_cons.mpr ⟨lx_59, fun _ h => absurd h List.not_mem_nil⟩⟩⟩⟩, im_wsX9_carrier⟩) (by decide +kernel)
theorem lx_705 : Cond.static yL_tariff ∈ lw_tbl := List.mem_of_getElem? (i := 705) (by decide +kernel)
theorem lx_704 : Cond.methodLink RL 113 yL_tariff ∈ lw_tbl := List.mem_of_getElem? (i := 704) (by decide +kernel)
theorem lx_706 : Cond.codeWith yL_tariff cL_tariff 8 (some .int) [(0, 16, 19, 15), (0, 16, 23, 24)] ∈ lw_tbl := List.mem_of_getElem? (i := 706) (by decide +kernel)
theorem lx_707 : Cond.classLink RL 24 "java/lang/IllegalStateException" ∈ lw_tbl := List.mem_of_getElem? (i := 707) (by decide +kernel)
theorem lx_710 : Cond.selects RX8 yX8_tariff yX8_tariff ∈ lw_tbl := List.mem_of_getElem? (i := 710) (by decide +kernel)
theorem lx_709 : Cond.instanceMethod yX8_tariff ∈ lw_tbl := List.mem_of_getElem? (i := 709) (by decide +kernel)
theorem lx_708 : Cond.methodLink RL 20 yX8_tariff ∈ lw_tbl := List.mem_of_getElem? (i := 708) (by decide +kernel)
theorem lx_711 : Cond.code yX8_tariff cX8_tariff 6 (some .int) ∈ lw_tbl := List.mem_of_getElem? (i := 711) (by decide +kernel)
theorem lx_134 : Cond.fieldLink RX8 89 "TapCap$Tariffs" "count" "I" ∈ lw_tbl := List.mem_of_getElem? (i := 134) (by decide +kernel)
theorem lx_728 : Cond.methodLink RX8 99 yX7_add ∈ lw_tbl := List.mem_of_getElem? (i := 728) (by decide +kernel)
theorem im_wsX7_add : ∀ w ∈ wsX7_add, w ∈ lw_tbl := List.forall_mem_cons.mpr ⟨lx_123, List.forall_mem_append.mpr ⟨List.forall_mem_append.mpr ⟨List.forall_mem_cons.mpr ⟨lx_128, List.forall_mem_cons.mpr ⟨lx_133, List.forall_mem_cons.mpr ⟨lx_129, List.forall_mem_cons.mpr ⟨lx_130, List.forall_mem_cons.mpr ⟨lx_131, List.forall_mem_cons.mpr ⟨lx_132, List.forall_mem_cons.mpr ⟨lx_124, List.forall_mem_cons.mpr ⟨lx_125, List.forall_mem_cons.mpr ⟨lx_126, List.forall_mem_cons.mpr ⟨lx_52, List.forall_mem_cons.mpr ⟨lx_127, List.forall_mem_cons.mpr ⟨lx_88, fun _ h => absurd h List.not_mem_nil⟩⟩⟩⟩⟩⟩⟩⟩⟩⟩⟩⟩, inX7⟩, inX5⟩⟩
theorem im_wsX8_tariff : ∀ w ∈ wsX8_tariff, w ∈ lw_tbl := List.forall_mem_cons.mpr ⟨lx_711, List.forall_mem_append.mpr ⟨List.forall_mem_append.mpr ⟨List.forall_mem_append.mpr ⟨List.forall_mem_append.mpr ⟨List.forall_mem_append.mpr ⟨List.forall_mem_cons.mpr ⟨lx_367, List.forall_mem_cons.mpr ⟨lx_134, List.forall_mem_cons.mpr ⟨lx_373, fun _ h => absurd h List.not_mem_nil⟩⟩⟩, inX5⟩, inX7⟩, inX8⟩, List.forall_mem_append.mpr ⟨List.forall_mem_cons.mpr ⟨lx_677, List.forall_mem_cons.mpr ⟨lx_678, List.forall_mem_cons.mpr ⟨lx_50, fun _ h => absurd h List.not_mem_nil⟩⟩⟩, im_wsX8_needRange⟩⟩, List.forall_mem_append.mpr ⟨List.forall_mem_cons.mpr ⟨lx_728, List.forall_mem_cons.mpr ⟨lx_121, List.forall_mem_cons.mpr ⟨lx_122, List.forall_mem_cons.mpr ⟨lx_53, fun _ h => absurd h List.not_mem_nil⟩⟩⟩⟩, im_wsX7_add⟩⟩⟩
theorem im_wsL_tariff : ∀ w ∈ wsL_tariff, w ∈ lw_tbl := List.forall_mem_cons.mpr ⟨lx_706, List.forall_mem_append.mpr ⟨List.forall_mem_cons.mpr ⟨lx_601, List.forall_mem_cons.mpr ⟨lx_707, fun _ h => absurd h List.not_mem_nil⟩⟩, List.forall_mem_append.mpr ⟨List.forall_mem_cons.mpr ⟨lx_708, List.forall_mem_cons.mpr ⟨lx_709, List.forall_mem_cons.mpr ⟨lx_710, List.forall_mem_cons.mpr ⟨lx_50, fun _ h => absurd h List.not_mem_nil⟩⟩⟩⟩, im_wsX8_tariff⟩⟩⟩
set_option maxRecDepth 20000 in
theorem gl_L_tariff : GoodIn lw_tbl (va_wsS RL 113 yL_tariff wsL_tariff) := goodIn_sub (List.forall_mem_append.mpr ⟨List.forall_mem_cons.mpr ⟨lx_704, List.forall_mem_cons.mpr ⟨lx_705, List.forall_mem_cons.mpr ⟨lx_49, fun _ h => absurd h List.not_mem_nil⟩⟩⟩, im_wsL_tariff⟩) (by decide +kernel)
theorem lx_1038 : Cond.selects RX9 yX9_tariff_ yX9_tariff_ ∈ lw_tbl := List.mem_of_getElem? (i := 1038) (by decide +kernel)
theorem lx_1037 : Cond.instanceMethod yX9_tariff_ ∈ lw_tbl := List.mem_of_getElem? (i := 1037) (by decide +kernel)
theorem lx_1036 : Cond.methodLink RL 116 yX9_tariff_ ∈ lw_tbl := List.mem_of_getElem? (i := 1036) (by decide +kernel)
theorem lx_1039 : Cond.code yX9_tariff_ cX9_tariff_ 7 (some .int) ∈ lw_tbl := List.mem_of_getElem? (i := 1039) (by decide +kernel)
theorem lx_1042 : Cond.code yX9_isDay cX9_isDay 1 (some .boolean) ∈ lw_tbl := List.mem_of_getElem? (i := 1042) (by decide +kernel)
theorem lx_1041 : Cond.static yX9_isDay ∈ lw_tbl := List.mem_of_getElem? (i := 1041) (by decide +kernel)
theorem lx_1040 : Cond.methodLink RX9 112 yX9_isDay ∈ lw_tbl := List.mem_of_getElem? (i := 1040) (by decide +kernel)
theorem lx_66 : Cond.initialized "java/lang/System" ∈ lw_tbl := List.mem_of_getElem? (i := 66) (by decide +kernel)
theorem lx_1044 : Cond.static arraycopyName ∈ lw_tbl := List.mem_of_getElem? (i := 1044) (by decide +kernel)
theorem lx_1045 : Cond.native arraycopyName ∈ lw_tbl := List.mem_of_getElem? (i := 1045) (by decide +kernel)
theorem lx_1043 : Cond.methodLink RX9 73 arraycopyName ∈ lw_tbl := List.mem_of_getElem? (i := 1043) (by decide +kernel)
theorem lx_980 : Cond.fieldLink RX9 115 "TapCapModel" "closed" "I" ∈ lw_tbl := List.mem_of_getElem? (i := 980) (by decide +kernel)
theorem im_wsX9_tariff_ : ∀ w ∈ wsX9_tariff_, w ∈ lw_tbl := List.forall_mem_cons.mpr ⟨lx_1039, List.forall_mem_append.mpr ⟨List.forall_mem_cons.mpr ⟨lx_967, List.forall_mem_cons.mpr ⟨lx_971, List.forall_mem_cons.mpr ⟨lx_980, List.forall_mem_cons.mpr ⟨lx_92, List.forall_mem_cons.mpr ⟨lx_970, List.forall_mem_cons.mpr ⟨lx_1043, List.forall_mem_cons.mpr ⟨lx_1045, List.forall_mem_cons.mpr ⟨lx_1044, List.forall_mem_cons.mpr ⟨lx_66, List.forall_mem_cons.mpr ⟨lx_1040, List.forall_mem_cons.mpr ⟨lx_1041, List.forall_mem_cons.mpr ⟨lx_59, List.forall_mem_cons.mpr ⟨lx_1042, List.forall_mem_cons.mpr ⟨lx_1025, List.forall_mem_cons.mpr ⟨lx_1026, List.forall_mem_cons.mpr ⟨lx_1027, List.forall_mem_cons.mpr ⟨lx_1028, List.forall_mem_cons.mpr ⟨lx_1030, List.forall_mem_cons.mpr ⟨lx_30, List.forall_mem_cons.mpr ⟨lx_1031, fun _ h => absurd h List.not_mem_nil⟩⟩⟩⟩⟩⟩⟩⟩⟩⟩⟩⟩⟩⟩⟩⟩⟩⟩⟩⟩, inX9⟩⟩
set_option maxRecDepth 20000 in
theorem gl_X9_tariff_ : GoodIn lw_tbl (wsV RL 116 RX9 yX9_tariff_ wsX9_tariff_) := goodIn_sub (List.forall_mem_append.mpr ⟨List.forall_mem_cons.mpr ⟨lx_1036, List.forall_mem_cons.mpr ⟨lx_1037, List.forall_mem_cons.mpr ⟨lx_1038, List.forall_mem_cons.mpr ⟨lx_59, fun _ h => absurd h List.not_mem_nil⟩⟩⟩⟩, im_wsX9_tariff_⟩) (by decide +kernel)
theorem lx_730 : Cond.static yL_card ∈ lw_tbl := List.mem_of_getElem? (i := 730) (by decide +kernel)
theorem lx_729 : Cond.methodLink RL 117 yL_card ∈ lw_tbl := List.mem_of_getElem? (i := 729) (by decide +kernel)
theorem lx_731 : Cond.codeWith yL_card cL_card 3 (some .int) [(0, 8, 11, 24)] ∈ lw_tbl := List.mem_of_getElem? (i := 731) (by decide +kernel)
theorem lx_734 : Cond.selects RX8 yX8_card yX8_card ∈ lw_tbl := List.mem_of_getElem? (i := 734) (by decide +kernel)
theorem lx_733 : Cond.instanceMethod yX8_card ∈ lw_tbl := List.mem_of_getElem? (i := 733) (by decide +kernel)
theorem lx_732 : Cond.methodLink RL 26 yX8_card ∈ lw_tbl := List.mem_of_getElem? (i := 732) (by decide +kernel)
theorem lx_735 : Cond.code yX8_card cX8_card 1 (some .int) ∈ lw_tbl := List.mem_of_getElem? (i := 735) (by decide +kernel)
theorem lx_168 : Cond.fieldLink RX8 103 "TapCap$Cards" "count" "I" ∈ lw_tbl := List.mem_of_getElem? (i := 168) (by decide +kernel)
theorem lx_739 : Cond.selects RX0 yX0_give yX0_give ∈ lw_tbl := List.mem_of_getElem? (i := 739) (by decide +kernel)
theorem lx_738 : Cond.instanceMethod yX0_give ∈ lw_tbl := List.mem_of_getElem? (i := 738) (by decide +kernel)
theorem lx_737 : Cond.methodLink RX8 106 yX0_give ∈ lw_tbl := List.mem_of_getElem? (i := 737) (by decide +kernel)
theorem lx_740 : Cond.code yX0_give cX0_give 2 (some .int) ∈ lw_tbl := List.mem_of_getElem? (i := 740) (by decide +kernel)
theorem lx_741 : Cond.methodLink RX0 36 yX5_put ∈ lw_tbl := List.mem_of_getElem? (i := 741) (by decide +kernel)
theorem im_wsX0_give : ∀ w ∈ wsX0_give, w ∈ lw_tbl := List.forall_mem_cons.mpr ⟨lx_740, List.forall_mem_append.mpr ⟨List.forall_mem_append.mpr ⟨List.forall_mem_cons.mpr ⟨lx_167, List.forall_mem_cons.mpr ⟨lx_158, List.forall_mem_cons.mpr ⟨lx_741, List.forall_mem_cons.mpr ⟨lx_125, List.forall_mem_cons.mpr ⟨lx_126, List.forall_mem_cons.mpr ⟨lx_52, List.forall_mem_cons.mpr ⟨lx_127, List.forall_mem_cons.mpr ⟨lx_88, fun _ h => absurd h List.not_mem_nil⟩⟩⟩⟩⟩⟩⟩⟩, inX0⟩, inX5⟩⟩
theorem im_wsX8_card : ∀ w ∈ wsX8_card, w ∈ lw_tbl := List.forall_mem_cons.mpr ⟨lx_735, List.forall_mem_append.mpr ⟨List.forall_mem_append.mpr ⟨List.forall_mem_append.mpr ⟨List.forall_mem_append.mpr ⟨List.forall_mem_cons.mpr ⟨lx_368, List.forall_mem_cons.mpr ⟨lx_168, fun _ h => absurd h List.not_mem_nil⟩⟩, inX0⟩, inX5⟩, inX8⟩, List.forall_mem_append.mpr ⟨List.forall_mem_cons.mpr ⟨lx_737, List.forall_mem_cons.mpr ⟨lx_738, List.forall_mem_cons.mpr ⟨lx_739, List.forall_mem_cons.mpr ⟨lx_54, fun _ h => absurd h List.not_mem_nil⟩⟩⟩⟩, im_wsX0_give⟩⟩⟩
theorem im_wsL_card : ∀ w ∈ wsL_card, w ∈ lw_tbl := List.forall_mem_cons.mpr ⟨lx_731, List.forall_mem_append.mpr ⟨List.forall_mem_cons.mpr ⟨lx_707, fun _ h => absurd h List.not_mem_nil⟩, List.forall_mem_append.mpr ⟨List.forall_mem_cons.mpr ⟨lx_732, List.forall_mem_cons.mpr ⟨lx_733, List.forall_mem_cons.mpr ⟨lx_734, List.forall_mem_cons.mpr ⟨lx_50, fun _ h => absurd h List.not_mem_nil⟩⟩⟩⟩, im_wsX8_card⟩⟩⟩
set_option maxRecDepth 20000 in
theorem gl_L_card : GoodIn lw_tbl (va_wsS RL 117 yL_card wsL_card) := goodIn_sub (List.forall_mem_append.mpr ⟨List.forall_mem_cons.mpr ⟨lx_729, List.forall_mem_cons.mpr ⟨lx_730, List.forall_mem_cons.mpr ⟨lx_49, fun _ h => absurd h List.not_mem_nil⟩⟩⟩, im_wsL_card⟩) (by decide +kernel)
theorem lx_1048 : Cond.selects RX9 yX9_card yX9_card ∈ lw_tbl := List.mem_of_getElem? (i := 1048) (by decide +kernel)
theorem lx_1047 : Cond.instanceMethod yX9_card ∈ lw_tbl := List.mem_of_getElem? (i := 1047) (by decide +kernel)
theorem lx_1046 : Cond.methodLink RL 120 yX9_card ∈ lw_tbl := List.mem_of_getElem? (i := 1046) (by decide +kernel)
theorem lx_1049 : Cond.code yX9_card cX9_card 1 (some .int) ∈ lw_tbl := List.mem_of_getElem? (i := 1049) (by decide +kernel)
theorem lx_973 : Cond.fieldLink RX9 42 "TapCapModel" "cardCount" "I" ∈ lw_tbl := List.mem_of_getElem? (i := 973) (by decide +kernel)
theorem im_wsX9_card : ∀ w ∈ wsX9_card, w ∈ lw_tbl := List.forall_mem_cons.mpr ⟨lx_1049, List.forall_mem_append.mpr ⟨List.forall_mem_cons.mpr ⟨lx_967, List.forall_mem_cons.mpr ⟨lx_973, List.forall_mem_cons.mpr ⟨lx_972, List.forall_mem_cons.mpr ⟨lx_1028, List.forall_mem_cons.mpr ⟨lx_1030, List.forall_mem_cons.mpr ⟨lx_30, List.forall_mem_cons.mpr ⟨lx_59, List.forall_mem_cons.mpr ⟨lx_1031, fun _ h => absurd h List.not_mem_nil⟩⟩⟩⟩⟩⟩⟩⟩, inX9⟩⟩
set_option maxRecDepth 20000 in
theorem gl_X9_card : GoodIn lw_tbl (wsV RL 120 RX9 yX9_card wsX9_card) := goodIn_sub (List.forall_mem_append.mpr ⟨List.forall_mem_cons.mpr ⟨lx_1046, List.forall_mem_cons.mpr ⟨lx_1047, List.forall_mem_cons.mpr ⟨lx_1048, List.forall_mem_cons.mpr ⟨lx_59, fun _ h => absurd h List.not_mem_nil⟩⟩⟩⟩, im_wsX9_card⟩) (by decide +kernel)
theorem lx_743 : Cond.static yL_tie ∈ lw_tbl := List.mem_of_getElem? (i := 743) (by decide +kernel)
theorem lx_742 : Cond.methodLink RL 121 yL_tie ∈ lw_tbl := List.mem_of_getElem? (i := 742) (by decide +kernel)
theorem lx_744 : Cond.codeWith yL_tie cL_tie 5 (some .int) [(0, 10, 13, 13), (0, 10, 17, 15), (0, 10, 21, 24)] ∈ lw_tbl := List.mem_of_getElem? (i := 744) (by decide +kernel)
theorem lx_747 : Cond.selects RX8 yX8_tie yX8_tie ∈ lw_tbl := List.mem_of_getElem? (i := 747) (by decide +kernel)
theorem lx_746 : Cond.instanceMethod yX8_tie ∈ lw_tbl := List.mem_of_getElem? (i := 746) (by decide +kernel)
theorem lx_745 : Cond.methodLink RL 30 yX8_tie ∈ lw_tbl := List.mem_of_getElem? (i := 745) (by decide +kernel)
theorem lx_748 : Cond.code yX8_tie cX8_tie 4 (some .int) ∈ lw_tbl := List.mem_of_getElem? (i := 748) (by decide +kernel)
theorem lx_22 : Cond.selects RX8 yX8_needCard yX8_needCard ∈ lw_tbl := List.mem_of_getElem? (i := 22) (by decide +kernel)
theorem lx_751 : Cond.instanceMethod yX8_needCard ∈ lw_tbl := List.mem_of_getElem? (i := 751) (by decide +kernel)
theorem lx_749 : Cond.methodLink RX8 110 yX8_needCard ∈ lw_tbl := List.mem_of_getElem? (i := 749) (by decide +kernel)
theorem lx_752 : Cond.code yX8_needCard cX8_needCard 2 none ∈ lw_tbl := List.mem_of_getElem? (i := 752) (by decide +kernel)
theorem im_wsX8_needCard : ∀ w ∈ wsX8_needCard, w ∈ lw_tbl := List.forall_mem_cons.mpr ⟨lx_752, List.forall_mem_append.mpr ⟨List.forall_mem_append.mpr ⟨List.forall_mem_append.mpr ⟨List.forall_mem_cons.mpr ⟨lx_368, List.forall_mem_cons.mpr ⟨lx_168, List.forall_mem_cons.mpr ⟨lx_606, List.forall_mem_cons.mpr ⟨lx_607, List.forall_mem_cons.mpr ⟨lx_50, List.forall_mem_cons.mpr ⟨lx_608, List.forall_mem_cons.mpr ⟨lx_609, List.forall_mem_cons.mpr ⟨lx_63, fun _ h => absurd h List.not_mem_nil⟩⟩⟩⟩⟩⟩⟩⟩, inX8⟩, inX0⟩, wsL_law_x0⟩⟩
theorem im_wsX8_tie : ∀ w ∈ wsX8_tie, w ∈ lw_tbl := List.forall_mem_cons.mpr ⟨lx_748, List.forall_mem_append.mpr ⟨List.forall_mem_append.mpr ⟨List.forall_mem_append.mpr ⟨List.forall_mem_append.mpr ⟨fun _ h => absurd h List.not_mem_nil, inX0⟩, inX5⟩, inX8⟩, List.forall_mem_append.mpr ⟨List.forall_mem_cons.mpr ⟨lx_749, List.forall_mem_cons.mpr ⟨lx_751, List.forall_mem_cons.mpr ⟨lx_22, List.forall_mem_cons.mpr ⟨lx_50, fun _ h => absurd h List.not_mem_nil⟩⟩⟩⟩, im_wsX8_needCard⟩⟩⟩
theorem im_wsL_tie : ∀ w ∈ wsL_tie, w ∈ lw_tbl := List.forall_mem_cons.mpr ⟨lx_744, List.forall_mem_append.mpr ⟨List.forall_mem_cons.mpr ⟨lx_600, List.forall_mem_cons.mpr ⟨lx_601, List.forall_mem_cons.mpr ⟨lx_707, fun _ h => absurd h List.not_mem_nil⟩⟩⟩, List.forall_mem_append.mpr ⟨List.forall_mem_cons.mpr ⟨lx_745, List.forall_mem_cons.mpr ⟨lx_746, List.forall_mem_cons.mpr ⟨lx_747, List.forall_mem_cons.mpr ⟨lx_50, fun _ h => absurd h List.not_mem_nil⟩⟩⟩⟩, im_wsX8_tie⟩⟩⟩
set_option maxRecDepth 20000 in
theorem gl_L_tie : GoodIn lw_tbl (va_wsS RL 121 yL_tie wsL_tie) := goodIn_sub (List.forall_mem_append.mpr ⟨List.forall_mem_cons.mpr ⟨lx_742, List.forall_mem_cons.mpr ⟨lx_743, List.forall_mem_cons.mpr ⟨lx_49, fun _ h => absurd h List.not_mem_nil⟩⟩⟩, im_wsL_tie⟩) (by decide +kernel)
theorem lx_1052 : Cond.selects RX9 yX9_tie yX9_tie ∈ lw_tbl := List.mem_of_getElem? (i := 1052) (by decide +kernel)
theorem lx_1051 : Cond.instanceMethod yX9_tie ∈ lw_tbl := List.mem_of_getElem? (i := 1051) (by decide +kernel)
theorem lx_1050 : Cond.methodLink RL 123 yX9_tie ∈ lw_tbl := List.mem_of_getElem? (i := 1050) (by decide +kernel)
theorem lx_1053 : Cond.code yX9_tie cX9_tie 4 (some .int) ∈ lw_tbl := List.mem_of_getElem? (i := 1053) (by decide +kernel)
theorem lx_1061 : Cond.code yX9_isPerson cX9_isPerson 2 (some .boolean) ∈ lw_tbl := List.mem_of_getElem? (i := 1061) (by decide +kernel)
theorem lx_32 : Cond.selects RX9 yX9_isPerson yX9_isPerson ∈ lw_tbl := List.mem_of_getElem? (i := 32) (by decide +kernel)
theorem lx_1060 : Cond.instanceMethod yX9_isPerson ∈ lw_tbl := List.mem_of_getElem? (i := 1060) (by decide +kernel)
theorem lx_1058 : Cond.methodLink RX9 118 yX9_isPerson ∈ lw_tbl := List.mem_of_getElem? (i := 1058) (by decide +kernel)
theorem lx_1057 : Cond.code yX9_isCard cX9_isCard 2 (some .boolean) ∈ lw_tbl := List.mem_of_getElem? (i := 1057) (by decide +kernel)
theorem lx_31 : Cond.selects RX9 yX9_isCard yX9_isCard ∈ lw_tbl := List.mem_of_getElem? (i := 31) (by decide +kernel)
theorem lx_1056 : Cond.instanceMethod yX9_isCard ∈ lw_tbl := List.mem_of_getElem? (i := 1056) (by decide +kernel)
theorem lx_1054 : Cond.methodLink RX9 49 yX9_isCard ∈ lw_tbl := List.mem_of_getElem? (i := 1054) (by decide +kernel)
theorem im_wsX9_tie : ∀ w ∈ wsX9_tie, w ∈ lw_tbl := List.forall_mem_cons.mpr ⟨lx_1053, List.forall_mem_append.mpr ⟨List.forall_mem_cons.mpr ⟨lx_967, List.forall_mem_cons.mpr ⟨lx_973, List.forall_mem_cons.mpr ⟨lx_972, List.forall_mem_cons.mpr ⟨lx_1054, List.forall_mem_cons.mpr ⟨lx_1056, List.forall_mem_cons.mpr ⟨lx_31, List.forall_mem_cons.mpr ⟨lx_59, List.forall_mem_cons.mpr ⟨lx_1057, List.forall_mem_cons.mpr ⟨lx_1025, List.forall_mem_cons.mpr ⟨lx_1026, List.forall_mem_cons.mpr ⟨lx_1027, List.forall_mem_cons.mpr ⟨lx_1058, List.forall_mem_cons.mpr ⟨lx_1060, List.forall_mem_cons.mpr ⟨lx_32, List.forall_mem_cons.mpr ⟨lx_1061, List.forall_mem_cons.mpr ⟨lx_1028, List.forall_mem_cons.mpr ⟨lx_1030, List.forall_mem_cons.mpr ⟨lx_30, List.forall_mem_cons.mpr ⟨lx_1031, fun _ h => absurd h List.not_mem_nil⟩⟩⟩⟩⟩⟩⟩⟩⟩⟩⟩⟩⟩⟩⟩⟩⟩⟩⟩, inX9⟩⟩
set_option maxRecDepth 20000 in
theorem gl_X9_tie : GoodIn lw_tbl (wsV RL 123 RX9 yX9_tie wsX9_tie) := goodIn_sub (List.forall_mem_append.mpr ⟨List.forall_mem_cons.mpr ⟨lx_1050, List.forall_mem_cons.mpr ⟨lx_1051, List.forall_mem_cons.mpr ⟨lx_1052, List.forall_mem_cons.mpr ⟨lx_59, fun _ h => absurd h List.not_mem_nil⟩⟩⟩⟩, im_wsX9_tie⟩) (by decide +kernel)
theorem lx_765 : Cond.static yL_lose ∈ lw_tbl := List.mem_of_getElem? (i := 765) (by decide +kernel)
theorem lx_764 : Cond.methodLink RL 124 yL_lose ∈ lw_tbl := List.mem_of_getElem? (i := 764) (by decide +kernel)
theorem lx_766 : Cond.codeWith yL_lose cL_lose 5 (some .int) [(0, 17, 20, 13)] ∈ lw_tbl := List.mem_of_getElem? (i := 766) (by decide +kernel)
theorem lx_769 : Cond.selects RX8 yX8_lose yX8_lose ∈ lw_tbl := List.mem_of_getElem? (i := 769) (by decide +kernel)
theorem lx_768 : Cond.instanceMethod yX8_lose ∈ lw_tbl := List.mem_of_getElem? (i := 768) (by decide +kernel)
theorem lx_767 : Cond.methodLink RL 33 yX8_lose ∈ lw_tbl := List.mem_of_getElem? (i := 767) (by decide +kernel)
theorem lx_770 : Cond.code yX8_lose cX8_lose 4 (some .boolean) ∈ lw_tbl := List.mem_of_getElem? (i := 770) (by decide +kernel)
theorem im_wsX8_lose : ∀ w ∈ wsX8_lose, w ∈ lw_tbl := List.forall_mem_cons.mpr ⟨lx_770, List.forall_mem_append.mpr ⟨List.forall_mem_append.mpr ⟨List.forall_mem_append.mpr ⟨List.forall_mem_append.mpr ⟨fun _ h => absurd h List.not_mem_nil, inX0⟩, inX5⟩, inX8⟩, List.forall_mem_append.mpr ⟨List.forall_mem_cons.mpr ⟨lx_749, List.forall_mem_cons.mpr ⟨lx_751, List.forall_mem_cons.mpr ⟨lx_22, List.forall_mem_cons.mpr ⟨lx_50, fun _ h => absurd h List.not_mem_nil⟩⟩⟩⟩, im_wsX8_needCard⟩⟩⟩
theorem im_wsL_lose : ∀ w ∈ wsL_lose, w ∈ lw_tbl := List.forall_mem_cons.mpr ⟨lx_766, List.forall_mem_append.mpr ⟨List.forall_mem_cons.mpr ⟨lx_600, fun _ h => absurd h List.not_mem_nil⟩, List.forall_mem_append.mpr ⟨List.forall_mem_cons.mpr ⟨lx_767, List.forall_mem_cons.mpr ⟨lx_768, List.forall_mem_cons.mpr ⟨lx_769, List.forall_mem_cons.mpr ⟨lx_50, fun _ h => absurd h List.not_mem_nil⟩⟩⟩⟩, im_wsX8_lose⟩⟩⟩
set_option maxRecDepth 20000 in
theorem gl_L_lose : GoodIn lw_tbl (va_wsS RL 124 yL_lose wsL_lose) := goodIn_sub (List.forall_mem_append.mpr ⟨List.forall_mem_cons.mpr ⟨lx_764, List.forall_mem_cons.mpr ⟨lx_765, List.forall_mem_cons.mpr ⟨lx_49, fun _ h => absurd h List.not_mem_nil⟩⟩⟩, im_wsL_lose⟩) (by decide +kernel)
theorem lx_1064 : Cond.selects RX9 yX9_lose yX9_lose ∈ lw_tbl := List.mem_of_getElem? (i := 1064) (by decide +kernel)
theorem lx_1063 : Cond.instanceMethod yX9_lose ∈ lw_tbl := List.mem_of_getElem? (i := 1063) (by decide +kernel)
theorem lx_1062 : Cond.methodLink RL 127 yX9_lose ∈ lw_tbl := List.mem_of_getElem? (i := 1062) (by decide +kernel)
theorem lx_1065 : Cond.code yX9_lose cX9_lose 4 (some .boolean) ∈ lw_tbl := List.mem_of_getElem? (i := 1065) (by decide +kernel)
theorem im_wsX9_lose : ∀ w ∈ wsX9_lose, w ∈ lw_tbl := List.forall_mem_cons.mpr ⟨lx_1065, List.forall_mem_append.mpr ⟨List.forall_mem_cons.mpr ⟨lx_967, List.forall_mem_cons.mpr ⟨lx_972, List.forall_mem_cons.mpr ⟨lx_1054, List.forall_mem_cons.mpr ⟨lx_1056, List.forall_mem_cons.mpr ⟨lx_31, List.forall_mem_cons.mpr ⟨lx_59, List.forall_mem_cons.mpr ⟨lx_1057, List.forall_mem_cons.mpr ⟨lx_973, List.forall_mem_cons.mpr ⟨lx_1025, List.forall_mem_cons.mpr ⟨lx_1026, List.forall_mem_cons.mpr ⟨lx_1027, List.forall_mem_cons.mpr ⟨lx_1028, List.forall_mem_cons.mpr ⟨lx_1030, List.forall_mem_cons.mpr ⟨lx_30, List.forall_mem_cons.mpr ⟨lx_1031, fun _ h => absurd h List.not_mem_nil⟩⟩⟩⟩⟩⟩⟩⟩⟩⟩⟩⟩⟩⟩⟩, inX9⟩⟩
set_option maxRecDepth 20000 in
theorem gl_X9_lose : GoodIn lw_tbl (wsV RL 127 RX9 yX9_lose wsX9_lose) := goodIn_sub (List.forall_mem_append.mpr ⟨List.forall_mem_cons.mpr ⟨lx_1062, List.forall_mem_cons.mpr ⟨lx_1063, List.forall_mem_cons.mpr ⟨lx_1064, List.forall_mem_cons.mpr ⟨lx_59, fun _ h => absurd h List.not_mem_nil⟩⟩⟩⟩, im_wsX9_lose⟩) (by decide +kernel)
theorem lx_776 : Cond.static yL_pay ∈ lw_tbl := List.mem_of_getElem? (i := 776) (by decide +kernel)
theorem lx_775 : Cond.methodLink RL 128 yL_pay ∈ lw_tbl := List.mem_of_getElem? (i := 775) (by decide +kernel)
theorem lx_777 : Cond.codeWith yL_pay cL_pay 5 (some .int) [(0, 10, 13, 13), (0, 10, 17, 15)] ∈ lw_tbl := List.mem_of_getElem? (i := 777) (by decide +kernel)
theorem lx_780 : Cond.selects RX8 yX8_pay yX8_pay ∈ lw_tbl := List.mem_of_getElem? (i := 780) (by decide +kernel)
theorem lx_779 : Cond.instanceMethod yX8_pay ∈ lw_tbl := List.mem_of_getElem? (i := 779) (by decide +kernel)
theorem lx_778 : Cond.methodLink RL 37 yX8_pay ∈ lw_tbl := List.mem_of_getElem? (i := 778) (by decide +kernel)
theorem lx_781 : Cond.code yX8_pay cX8_pay 3 (some .int) ∈ lw_tbl := List.mem_of_getElem? (i := 781) (by decide +kernel)
theorem im_wsX8_pay : ∀ w ∈ wsX8_pay, w ∈ lw_tbl := List.forall_mem_cons.mpr ⟨lx_781, List.forall_mem_append.mpr ⟨List.forall_mem_append.mpr ⟨List.forall_mem_append.mpr ⟨List.forall_mem_append.mpr ⟨fun _ h => absurd h List.not_mem_nil, inX0⟩, inX5⟩, inX8⟩, List.forall_mem_append.mpr ⟨List.forall_mem_cons.mpr ⟨lx_749, List.forall_mem_cons.mpr ⟨lx_751, List.forall_mem_cons.mpr ⟨lx_22, List.forall_mem_cons.mpr ⟨lx_50, fun _ h => absurd h List.not_mem_nil⟩⟩⟩⟩, im_wsX8_needCard⟩⟩⟩
theorem im_wsL_pay : ∀ w ∈ wsL_pay, w ∈ lw_tbl := List.forall_mem_cons.mpr ⟨lx_777, List.forall_mem_append.mpr ⟨List.forall_mem_cons.mpr ⟨lx_600, List.forall_mem_cons.mpr ⟨lx_601, fun _ h => absurd h List.not_mem_nil⟩⟩, List.forall_mem_append.mpr ⟨List.forall_mem_cons.mpr ⟨lx_778, List.forall_mem_cons.mpr ⟨lx_779, List.forall_mem_cons.mpr ⟨lx_780, List.forall_mem_cons.mpr ⟨lx_50, fun _ h => absurd h List.not_mem_nil⟩⟩⟩⟩, im_wsX8_pay⟩⟩⟩
set_option maxRecDepth 20000 in
theorem gl_L_pay : GoodIn lw_tbl (va_wsS RL 128 yL_pay wsL_pay) := goodIn_sub (List.forall_mem_append.mpr ⟨List.forall_mem_cons.mpr ⟨lx_775, List.forall_mem_cons.mpr ⟨lx_776, List.forall_mem_cons.mpr ⟨lx_49, fun _ h => absurd h List.not_mem_nil⟩⟩⟩, im_wsL_pay⟩) (by decide +kernel)
theorem lx_1068 : Cond.selects RX9 yX9_pay yX9_pay ∈ lw_tbl := List.mem_of_getElem? (i := 1068) (by decide +kernel)
theorem lx_1067 : Cond.instanceMethod yX9_pay ∈ lw_tbl := List.mem_of_getElem? (i := 1067) (by decide +kernel)
theorem lx_1066 : Cond.methodLink RL 130 yX9_pay ∈ lw_tbl := List.mem_of_getElem? (i := 1066) (by decide +kernel)
theorem lx_1069 : Cond.code yX9_pay cX9_pay 3 (some .int) ∈ lw_tbl := List.mem_of_getElem? (i := 1069) (by decide +kernel)
theorem im_wsX9_pay : ∀ w ∈ wsX9_pay, w ∈ lw_tbl := List.forall_mem_cons.mpr ⟨lx_1069, List.forall_mem_append.mpr ⟨List.forall_mem_cons.mpr ⟨lx_967, List.forall_mem_cons.mpr ⟨lx_972, List.forall_mem_cons.mpr ⟨lx_1054, List.forall_mem_cons.mpr ⟨lx_1056, List.forall_mem_cons.mpr ⟨lx_31, List.forall_mem_cons.mpr ⟨lx_59, List.forall_mem_cons.mpr ⟨lx_1057, List.forall_mem_cons.mpr ⟨lx_973, List.forall_mem_cons.mpr ⟨lx_1025, List.forall_mem_cons.mpr ⟨lx_1026, List.forall_mem_cons.mpr ⟨lx_1027, List.forall_mem_cons.mpr ⟨lx_1028, List.forall_mem_cons.mpr ⟨lx_1030, List.forall_mem_cons.mpr ⟨lx_30, List.forall_mem_cons.mpr ⟨lx_1031, fun _ h => absurd h List.not_mem_nil⟩⟩⟩⟩⟩⟩⟩⟩⟩⟩⟩⟩⟩⟩⟩, inX9⟩⟩
set_option maxRecDepth 20000 in
theorem gl_X9_pay : GoodIn lw_tbl (wsV RL 130 RX9 yX9_pay wsX9_pay) := goodIn_sub (List.forall_mem_append.mpr ⟨List.forall_mem_cons.mpr ⟨lx_1066, List.forall_mem_cons.mpr ⟨lx_1067, List.forall_mem_cons.mpr ⟨lx_1068, List.forall_mem_cons.mpr ⟨lx_59, fun _ h => absurd h List.not_mem_nil⟩⟩⟩⟩, im_wsX9_pay⟩) (by decide +kernel)
theorem lx_784 : Cond.static yL_late ∈ lw_tbl := List.mem_of_getElem? (i := 784) (by decide +kernel)
theorem lx_783 : Cond.methodLink RL 131 yL_late ∈ lw_tbl := List.mem_of_getElem? (i := 783) (by decide +kernel)
theorem lx_785 : Cond.codeWith yL_late cL_late 6 (some .int) [(0, 12, 15, 13), (0, 12, 19, 15)] ∈ lw_tbl := List.mem_of_getElem? (i := 785) (by decide +kernel)
theorem lx_788 : Cond.selects RX8 yX8_late yX8_late ∈ lw_tbl := List.mem_of_getElem? (i := 788) (by decide +kernel)
theorem lx_787 : Cond.instanceMethod yX8_late ∈ lw_tbl := List.mem_of_getElem? (i := 787) (by decide +kernel)
theorem lx_786 : Cond.methodLink RL 40 yX8_late ∈ lw_tbl := List.mem_of_getElem? (i := 786) (by decide +kernel)
theorem lx_789 : Cond.code yX8_late cX8_late 6 (some .int) ∈ lw_tbl := List.mem_of_getElem? (i := 789) (by decide +kernel)
theorem lx_104 : Cond.fieldLink RX8 142 "TapCap$Region" "lateBy" "LTapCap$Row;" ∈ lw_tbl := List.mem_of_getElem? (i := 104) (by decide +kernel)
theorem im_wsX8_late : ∀ w ∈ wsX8_late, w ∈ lw_tbl := List.forall_mem_cons.mpr ⟨lx_789, List.forall_mem_append.mpr ⟨List.forall_mem_append.mpr ⟨List.forall_mem_append.mpr ⟨List.forall_mem_append.mpr ⟨List.forall_mem_append.mpr ⟨List.forall_mem_append.mpr ⟨List.forall_mem_append.mpr ⟨List.forall_mem_cons.mpr ⟨lx_366, List.forall_mem_cons.mpr ⟨lx_104, fun _ h => absurd h List.not_mem_nil⟩⟩, inX4⟩, inX5⟩, inX8⟩, List.forall_mem_append.mpr ⟨List.forall_mem_cons.mpr ⟨lx_606, List.forall_mem_cons.mpr ⟨lx_607, List.forall_mem_cons.mpr ⟨lx_50, fun _ h => absurd h List.not_mem_nil⟩⟩⟩, im_wsX8_needNumber⟩⟩, List.forall_mem_append.mpr ⟨List.forall_mem_cons.mpr ⟨lx_677, List.forall_mem_cons.mpr ⟨lx_678, List.forall_mem_cons.mpr ⟨lx_50, fun _ h => absurd h List.not_mem_nil⟩⟩⟩, im_wsX8_needRange⟩⟩, List.forall_mem_append.mpr ⟨List.forall_mem_cons.mpr ⟨lx_412, List.forall_mem_cons.mpr ⟨lx_413, List.forall_mem_cons.mpr ⟨lx_414, List.forall_mem_cons.mpr ⟨lx_52, fun _ h => absurd h List.not_mem_nil⟩⟩⟩⟩, im_wsX5_at⟩⟩, List.forall_mem_append.mpr ⟨List.forall_mem_cons.mpr ⟨lx_696, List.forall_mem_cons.mpr ⟨lx_125, List.forall_mem_cons.mpr ⟨lx_126, List.forall_mem_cons.mpr ⟨lx_52, fun _ h => absurd h List.not_mem_nil⟩⟩⟩⟩, im_wsX5_put⟩⟩⟩
theorem im_wsL_late : ∀ w ∈ wsL_late, w ∈ lw_tbl := List.forall_mem_cons.mpr ⟨lx_785, List.forall_mem_append.mpr ⟨List.forall_mem_cons.mpr ⟨lx_600, List.forall_mem_cons.mpr ⟨lx_601, fun _ h => absurd h List.not_mem_nil⟩⟩, List.forall_mem_append.mpr ⟨List.forall_mem_cons.mpr ⟨lx_786, List.forall_mem_cons.mpr ⟨lx_787, List.forall_mem_cons.mpr ⟨lx_788, List.forall_mem_cons.mpr ⟨lx_50, fun _ h => absurd h List.not_mem_nil⟩⟩⟩⟩, im_wsX8_late⟩⟩⟩
set_option maxRecDepth 20000 in
theorem gl_L_late : GoodIn lw_tbl (va_wsS RL 131 yL_late wsL_late) := goodIn_sub (List.forall_mem_append.mpr ⟨List.forall_mem_cons.mpr ⟨lx_783, List.forall_mem_cons.mpr ⟨lx_784, List.forall_mem_cons.mpr ⟨lx_49, fun _ h => absurd h List.not_mem_nil⟩⟩⟩, im_wsL_late⟩) (by decide +kernel)
theorem lx_1072 : Cond.selects RX9 yX9_late yX9_late ∈ lw_tbl := List.mem_of_getElem? (i := 1072) (by decide +kernel)
theorem lx_1071 : Cond.instanceMethod yX9_late ∈ lw_tbl := List.mem_of_getElem? (i := 1071) (by decide +kernel)
theorem lx_1070 : Cond.methodLink RL 134 yX9_late ∈ lw_tbl := List.mem_of_getElem? (i := 1070) (by decide +kernel)
theorem lx_1073 : Cond.code yX9_late cX9_late 5 (some .int) ∈ lw_tbl := List.mem_of_getElem? (i := 1073) (by decide +kernel)
theorem im_wsX9_late : ∀ w ∈ wsX9_late, w ∈ lw_tbl := List.forall_mem_cons.mpr ⟨lx_1073, List.forall_mem_append.mpr ⟨List.forall_mem_cons.mpr ⟨lx_967, List.forall_mem_cons.mpr ⟨lx_976, List.forall_mem_cons.mpr ⟨lx_1025, List.forall_mem_cons.mpr ⟨lx_1026, List.forall_mem_cons.mpr ⟨lx_59, List.forall_mem_cons.mpr ⟨lx_1027, List.forall_mem_cons.mpr ⟨lx_1040, List.forall_mem_cons.mpr ⟨lx_1041, List.forall_mem_cons.mpr ⟨lx_1042, List.forall_mem_cons.mpr ⟨lx_1028, List.forall_mem_cons.mpr ⟨lx_1030, List.forall_mem_cons.mpr ⟨lx_30, List.forall_mem_cons.mpr ⟨lx_1031, fun _ h => absurd h List.not_mem_nil⟩⟩⟩⟩⟩⟩⟩⟩⟩⟩⟩⟩⟩, inX9⟩⟩
set_option maxRecDepth 20000 in
theorem gl_X9_late : GoodIn lw_tbl (wsV RL 134 RX9 yX9_late wsX9_late) := goodIn_sub (List.forall_mem_append.mpr ⟨List.forall_mem_cons.mpr ⟨lx_1070, List.forall_mem_cons.mpr ⟨lx_1071, List.forall_mem_cons.mpr ⟨lx_1072, List.forall_mem_cons.mpr ⟨lx_59, fun _ h => absurd h List.not_mem_nil⟩⟩⟩⟩, im_wsX9_late⟩) (by decide +kernel)
theorem lx_791 : Cond.static yL_tap ∈ lw_tbl := List.mem_of_getElem? (i := 791) (by decide +kernel)
theorem lx_790 : Cond.methodLink RL 135 yL_tap ∈ lw_tbl := List.mem_of_getElem? (i := 790) (by decide +kernel)
theorem lx_792 : Cond.codeWith yL_tap cL_tap 9 (some .int) [(0, 18, 21, 13), (0, 18, 25, 15), (0, 18, 29, 24)] ∈ lw_tbl := List.mem_of_getElem? (i := 792) (by decide +kernel)
theorem lx_795 : Cond.selects RX8 yX8_tap yX8_tap ∈ lw_tbl := List.mem_of_getElem? (i := 795) (by decide +kernel)
theorem lx_794 : Cond.instanceMethod yX8_tap ∈ lw_tbl := List.mem_of_getElem? (i := 794) (by decide +kernel)
theorem lx_793 : Cond.methodLink RL 44 yX8_tap ∈ lw_tbl := List.mem_of_getElem? (i := 793) (by decide +kernel)
theorem lx_796 : Cond.code yX8_tap cX8_tap 7 (some .int) ∈ lw_tbl := List.mem_of_getElem? (i := 796) (by decide +kernel)
theorem lx_24 : Cond.selects RX8 yX8_needTap yX8_needTap ∈ lw_tbl := List.mem_of_getElem? (i := 24) (by decide +kernel)
theorem lx_799 : Cond.instanceMethod yX8_needTap ∈ lw_tbl := List.mem_of_getElem? (i := 799) (by decide +kernel)
theorem lx_797 : Cond.methodLink RX8 145 yX8_needTap ∈ lw_tbl := List.mem_of_getElem? (i := 797) (by decide +kernel)
theorem lx_800 : Cond.code yX8_needTap cX8_needTap 6 none ∈ lw_tbl := List.mem_of_getElem? (i := 800) (by decide +kernel)
theorem im_wsX8_needTap : ∀ w ∈ wsX8_needTap, w ∈ lw_tbl := List.forall_mem_cons.mpr ⟨lx_800, List.forall_mem_append.mpr ⟨List.forall_mem_append.mpr ⟨List.forall_mem_append.mpr ⟨List.forall_mem_append.mpr ⟨List.forall_mem_cons.mpr ⟨lx_749, List.forall_mem_cons.mpr ⟨lx_751, List.forall_mem_cons.mpr ⟨lx_22, List.forall_mem_cons.mpr ⟨lx_50, List.forall_mem_cons.mpr ⟨lx_752, List.forall_mem_cons.mpr ⟨lx_368, List.forall_mem_cons.mpr ⟨lx_168, List.forall_mem_cons.mpr ⟨lx_606, List.forall_mem_cons.mpr ⟨lx_607, List.forall_mem_cons.mpr ⟨lx_608, List.forall_mem_cons.mpr ⟨lx_609, List.forall_mem_cons.mpr ⟨lx_63, List.forall_mem_cons.mpr ⟨lx_677, List.forall_mem_cons.mpr ⟨lx_678, List.forall_mem_cons.mpr ⟨lx_679, List.forall_mem_cons.mpr ⟨lx_680, List.forall_mem_cons.mpr ⟨lx_64, fun _ h => absurd h List.not_mem_nil⟩⟩⟩⟩⟩⟩⟩⟩⟩⟩⟩⟩⟩⟩⟩⟩⟩, inX8⟩, inX0⟩, wsL_law_x0⟩, wsL_law_x1⟩⟩
theorem im_wsX8_tap : ∀ w ∈ wsX8_tap, w ∈ lw_tbl := List.forall_mem_cons.mpr ⟨lx_796, List.forall_mem_append.mpr ⟨List.forall_mem_append.mpr ⟨List.forall_mem_append.mpr ⟨List.forall_mem_append.mpr ⟨List.forall_mem_append.mpr ⟨fun _ h => absurd h List.not_mem_nil, inX0⟩, inX5⟩, inX6⟩, inX8⟩, List.forall_mem_append.mpr ⟨List.forall_mem_cons.mpr ⟨lx_797, List.forall_mem_cons.mpr ⟨lx_799, List.forall_mem_cons.mpr ⟨lx_24, List.forall_mem_cons.mpr ⟨lx_50, fun _ h => absurd h List.not_mem_nil⟩⟩⟩⟩, im_wsX8_needTap⟩⟩⟩
theorem im_wsL_tap : ∀ w ∈ wsL_tap, w ∈ lw_tbl := List.forall_mem_cons.mpr ⟨lx_792, List.forall_mem_append.mpr ⟨List.forall_mem_cons.mpr ⟨lx_600, List.forall_mem_cons.mpr ⟨lx_601, List.forall_mem_cons.mpr ⟨lx_707, fun _ h => absurd h List.not_mem_nil⟩⟩⟩, List.forall_mem_append.mpr ⟨List.forall_mem_cons.mpr ⟨lx_793, List.forall_mem_cons.mpr ⟨lx_794, List.forall_mem_cons.mpr ⟨lx_795, List.forall_mem_cons.mpr ⟨lx_50, fun _ h => absurd h List.not_mem_nil⟩⟩⟩⟩, im_wsX8_tap⟩⟩⟩
set_option maxRecDepth 20000 in
theorem gl_L_tap : GoodIn lw_tbl (va_wsS RL 135 yL_tap wsL_tap) := goodIn_sub (List.forall_mem_append.mpr ⟨List.forall_mem_cons.mpr ⟨lx_790, List.forall_mem_cons.mpr ⟨lx_791, List.forall_mem_cons.mpr ⟨lx_49, fun _ h => absurd h List.not_mem_nil⟩⟩⟩, im_wsL_tap⟩) (by decide +kernel)
theorem lx_1076 : Cond.selects RX9 yX9_tap yX9_tap ∈ lw_tbl := List.mem_of_getElem? (i := 1076) (by decide +kernel)
theorem lx_1075 : Cond.instanceMethod yX9_tap ∈ lw_tbl := List.mem_of_getElem? (i := 1075) (by decide +kernel)
theorem lx_1074 : Cond.methodLink RL 138 yX9_tap ∈ lw_tbl := List.mem_of_getElem? (i := 1074) (by decide +kernel)
theorem lx_1077 : Cond.code yX9_tap cX9_tap 10 (some .int) ∈ lw_tbl := List.mem_of_getElem? (i := 1077) (by decide +kernel)
theorem lx_33 : Cond.selects RX9 yX9_isPlace yX9_isPlace ∈ lw_tbl := List.mem_of_getElem? (i := 33) (by decide +kernel)
theorem lx_1080 : Cond.instanceMethod yX9_isPlace ∈ lw_tbl := List.mem_of_getElem? (i := 1080) (by decide +kernel)
theorem lx_1078 : Cond.methodLink RX9 121 yX9_isPlace ∈ lw_tbl := List.mem_of_getElem? (i := 1078) (by decide +kernel)
theorem lx_1081 : Cond.code yX9_isPlace cX9_isPlace 5 (some .boolean) ∈ lw_tbl := List.mem_of_getElem? (i := 1081) (by decide +kernel)
theorem im_wsX9_isPlace : ∀ w ∈ wsX9_isPlace, w ∈ lw_tbl := List.forall_mem_cons.mpr ⟨lx_1081, List.forall_mem_append.mpr ⟨List.forall_mem_cons.mpr ⟨lx_1054, List.forall_mem_cons.mpr ⟨lx_1056, List.forall_mem_cons.mpr ⟨lx_31, List.forall_mem_cons.mpr ⟨lx_59, List.forall_mem_cons.mpr ⟨lx_1057, List.forall_mem_cons.mpr ⟨lx_973, List.forall_mem_cons.mpr ⟨lx_1025, List.forall_mem_cons.mpr ⟨lx_1026, List.forall_mem_cons.mpr ⟨lx_1027, List.forall_mem_cons.mpr ⟨lx_1040, List.forall_mem_cons.mpr ⟨lx_1041, List.forall_mem_cons.mpr ⟨lx_1042, fun _ h => absurd h List.not_mem_nil⟩⟩⟩⟩⟩⟩⟩⟩⟩⟩⟩⟩, inX9⟩⟩
theorem im_wsX9_no : ∀ w ∈ wsX9_no, w ∈ lw_tbl := List.forall_mem_cons.mpr ⟨lx_1031, List.forall_mem_append.mpr ⟨List.forall_mem_cons.mpr ⟨lx_967, fun _ h => absurd h List.not_mem_nil⟩, inX9⟩⟩
theorem im_wsX9_tap : ∀ w ∈ wsX9_tap, w ∈ lw_tbl := List.forall_mem_cons.mpr ⟨lx_1077, List.forall_mem_append.mpr ⟨List.forall_mem_append.mpr ⟨List.forall_mem_append.mpr ⟨List.forall_mem_cons.mpr ⟨lx_967, fun _ h => absurd h List.not_mem_nil⟩, inX9⟩, List.forall_mem_append.mpr ⟨List.forall_mem_cons.mpr ⟨lx_1078, List.forall_mem_cons.mpr ⟨lx_1080, List.forall_mem_cons.mpr ⟨lx_33, List.forall_mem_cons.mpr ⟨lx_59, fun _ h => absurd h List.not_mem_nil⟩⟩⟩⟩, im_wsX9_isPlace⟩⟩, List.forall_mem_append.mpr ⟨List.forall_mem_cons.mpr ⟨lx_1028, List.forall_mem_cons.mpr ⟨lx_1030, List.forall_mem_cons.mpr ⟨lx_30, List.forall_mem_cons.mpr ⟨lx_59, fun _ h => absurd h List.not_mem_nil⟩⟩⟩⟩, im_wsX9_no⟩⟩⟩
set_option maxRecDepth 20000 in
theorem gl_X9_tap : GoodIn lw_tbl (wsV RL 138 RX9 yX9_tap wsX9_tap) := goodIn_sub (List.forall_mem_append.mpr ⟨List.forall_mem_cons.mpr ⟨lx_1074, List.forall_mem_cons.mpr ⟨lx_1075, List.forall_mem_cons.mpr ⟨lx_1076, List.forall_mem_cons.mpr ⟨lx_59, fun _ h => absurd h List.not_mem_nil⟩⟩⟩⟩, im_wsX9_tap⟩) (by decide +kernel)
theorem lx_816 : Cond.static yL_close ∈ lw_tbl := List.mem_of_getElem? (i := 816) (by decide +kernel)
theorem lx_815 : Cond.methodLink RL 139 yL_close ∈ lw_tbl := List.mem_of_getElem? (i := 815) (by decide +kernel)
theorem lx_817 : Cond.codeWith yL_close cL_close 3 (some .int) [(0, 8, 11, 24)] ∈ lw_tbl := List.mem_of_getElem? (i := 817) (by decide +kernel)
theorem lx_820 : Cond.selects RX8 yX8_close yX8_close ∈ lw_tbl := List.mem_of_getElem? (i := 820) (by decide +kernel)
theorem lx_819 : Cond.instanceMethod yX8_close ∈ lw_tbl := List.mem_of_getElem? (i := 819) (by decide +kernel)
theorem lx_818 : Cond.methodLink RL 48 yX8_close ∈ lw_tbl := List.mem_of_getElem? (i := 818) (by decide +kernel)
theorem lx_821 : Cond.code yX8_close cX8_close 4 (some .int) ∈ lw_tbl := List.mem_of_getElem? (i := 821) (by decide +kernel)
theorem im_wsX8_close : ∀ w ∈ wsX8_close, w ∈ lw_tbl := List.forall_mem_cons.mpr ⟨lx_821, List.forall_mem_append.mpr ⟨List.forall_mem_append.mpr ⟨List.forall_mem_append.mpr ⟨List.forall_mem_append.mpr ⟨List.forall_mem_append.mpr ⟨List.forall_mem_append.mpr ⟨List.forall_mem_append.mpr ⟨List.forall_mem_append.mpr ⟨List.forall_mem_append.mpr ⟨List.forall_mem_cons.mpr ⟨lx_373, List.forall_mem_cons.mpr ⟨lx_368, List.forall_mem_cons.mpr ⟨lx_168, fun _ h => absurd h List.not_mem_nil⟩⟩⟩, inX0⟩, inX1⟩, inX2⟩, inX3⟩, inX4⟩, inX5⟩, inX6⟩, inX7⟩, inX8⟩⟩
theorem im_wsL_close : ∀ w ∈ wsL_close, w ∈ lw_tbl := List.forall_mem_cons.mpr ⟨lx_817, List.forall_mem_append.mpr ⟨List.forall_mem_cons.mpr ⟨lx_707, fun _ h => absurd h List.not_mem_nil⟩, List.forall_mem_append.mpr ⟨List.forall_mem_cons.mpr ⟨lx_818, List.forall_mem_cons.mpr ⟨lx_819, List.forall_mem_cons.mpr ⟨lx_820, List.forall_mem_cons.mpr ⟨lx_50, fun _ h => absurd h List.not_mem_nil⟩⟩⟩⟩, im_wsX8_close⟩⟩⟩
set_option maxRecDepth 20000 in
theorem gl_L_close : GoodIn lw_tbl (va_wsS RL 139 yL_close wsL_close) := goodIn_sub (List.forall_mem_append.mpr ⟨List.forall_mem_cons.mpr ⟨lx_815, List.forall_mem_cons.mpr ⟨lx_816, List.forall_mem_cons.mpr ⟨lx_49, fun _ h => absurd h List.not_mem_nil⟩⟩⟩, im_wsL_close⟩) (by decide +kernel)
theorem lx_1088 : Cond.selects RX9 yX9_close yX9_close ∈ lw_tbl := List.mem_of_getElem? (i := 1088) (by decide +kernel)
theorem lx_1087 : Cond.instanceMethod yX9_close ∈ lw_tbl := List.mem_of_getElem? (i := 1087) (by decide +kernel)
theorem lx_1086 : Cond.methodLink RL 141 yX9_close ∈ lw_tbl := List.mem_of_getElem? (i := 1086) (by decide +kernel)
theorem lx_1089 : Cond.code yX9_close cX9_close 3 (some .int) ∈ lw_tbl := List.mem_of_getElem? (i := 1089) (by decide +kernel)
theorem im_wsX9_close : ∀ w ∈ wsX9_close, w ∈ lw_tbl := List.forall_mem_cons.mpr ⟨lx_1089, List.forall_mem_append.mpr ⟨List.forall_mem_cons.mpr ⟨lx_967, List.forall_mem_cons.mpr ⟨lx_980, List.forall_mem_cons.mpr ⟨lx_973, fun _ h => absurd h List.not_mem_nil⟩⟩⟩, inX9⟩⟩
set_option maxRecDepth 20000 in
theorem gl_X9_close : GoodIn lw_tbl (wsV RL 141 RX9 yX9_close wsX9_close) := goodIn_sub (List.forall_mem_append.mpr ⟨List.forall_mem_cons.mpr ⟨lx_1086, List.forall_mem_cons.mpr ⟨lx_1087, List.forall_mem_cons.mpr ⟨lx_1088, List.forall_mem_cons.mpr ⟨lx_59, fun _ h => absurd h List.not_mem_nil⟩⟩⟩⟩, im_wsX9_close⟩) (by decide +kernel)
theorem lx_837 : Cond.static yL_settle ∈ lw_tbl := List.mem_of_getElem? (i := 837) (by decide +kernel)
theorem lx_836 : Cond.methodLink RL 142 yL_settle ∈ lw_tbl := List.mem_of_getElem? (i := 836) (by decide +kernel)
theorem lx_838 : Cond.codeWith yL_settle cL_settle 5 (some .int) [(0, 10, 13, 13), (0, 10, 17, 24)] ∈ lw_tbl := List.mem_of_getElem? (i := 838) (by decide +kernel)
theorem lx_841 : Cond.selects RX8 yX8_settle yX8_settle ∈ lw_tbl := List.mem_of_getElem? (i := 841) (by decide +kernel)
theorem lx_840 : Cond.instanceMethod yX8_settle ∈ lw_tbl := List.mem_of_getElem? (i := 840) (by decide +kernel)
theorem lx_839 : Cond.methodLink RL 51 yX8_settle ∈ lw_tbl := List.mem_of_getElem? (i := 839) (by decide +kernel)
theorem lx_842 : Cond.code yX8_settle cX8_settle 5 (some .int) ∈ lw_tbl := List.mem_of_getElem? (i := 842) (by decide +kernel)
theorem lx_23 : Cond.selects RX8 yX8_needPerson yX8_needPerson ∈ lw_tbl := List.mem_of_getElem? (i := 23) (by decide +kernel)
theorem lx_755 : Cond.instanceMethod yX8_needPerson ∈ lw_tbl := List.mem_of_getElem? (i := 755) (by decide +kernel)
theorem lx_753 : Cond.methodLink RX8 114 yX8_needPerson ∈ lw_tbl := List.mem_of_getElem? (i := 753) (by decide +kernel)
theorem lx_756 : Cond.code yX8_needPerson cX8_needPerson 2 none ∈ lw_tbl := List.mem_of_getElem? (i := 756) (by decide +kernel)
theorem lx_425 : Cond.methodLink RX0 40 yX5_at ∈ lw_tbl := List.mem_of_getElem? (i := 425) (by decide +kernel)
theorem lx_424 : Cond.code yX0_isPerson cX0_isPerson 2 (some .boolean) ∈ lw_tbl := List.mem_of_getElem? (i := 424) (by decide +kernel)
theorem lx_423 : Cond.selects RX0 yX0_isPerson yX0_isPerson ∈ lw_tbl := List.mem_of_getElem? (i := 423) (by decide +kernel)
theorem lx_422 : Cond.instanceMethod yX0_isPerson ∈ lw_tbl := List.mem_of_getElem? (i := 422) (by decide +kernel)
theorem lx_421 : Cond.methodLink RX8 166 yX0_isPerson ∈ lw_tbl := List.mem_of_getElem? (i := 421) (by decide +kernel)
theorem im_wsX8_needPerson : ∀ w ∈ wsX8_needPerson, w ∈ lw_tbl := List.forall_mem_cons.mpr ⟨lx_756, List.forall_mem_append.mpr ⟨List.forall_mem_append.mpr ⟨List.forall_mem_append.mpr ⟨List.forall_mem_append.mpr ⟨List.forall_mem_cons.mpr ⟨lx_609, List.forall_mem_cons.mpr ⟨lx_63, List.forall_mem_cons.mpr ⟨lx_368, List.forall_mem_cons.mpr ⟨lx_421, List.forall_mem_cons.mpr ⟨lx_422, List.forall_mem_cons.mpr ⟨lx_423, List.forall_mem_cons.mpr ⟨lx_54, List.forall_mem_cons.mpr ⟨lx_424, List.forall_mem_cons.mpr ⟨lx_167, List.forall_mem_cons.mpr ⟨lx_158, List.forall_mem_cons.mpr ⟨lx_425, List.forall_mem_cons.mpr ⟨lx_413, List.forall_mem_cons.mpr ⟨lx_414, List.forall_mem_cons.mpr ⟨lx_52, List.forall_mem_cons.mpr ⟨lx_415, List.forall_mem_cons.mpr ⟨lx_88, fun _ h => absurd h List.not_mem_nil⟩⟩⟩⟩⟩⟩⟩⟩⟩⟩⟩⟩⟩⟩⟩⟩, inX8⟩, inX0⟩, inX5⟩, wsL_law_x0⟩⟩
theorem im_wsX8_settle : ∀ w ∈ wsX8_settle, w ∈ lw_tbl := List.forall_mem_cons.mpr ⟨lx_842, List.forall_mem_append.mpr ⟨List.forall_mem_append.mpr ⟨List.forall_mem_append.mpr ⟨List.forall_mem_append.mpr ⟨List.forall_mem_append.mpr ⟨List.forall_mem_append.mpr ⟨List.forall_mem_append.mpr ⟨List.forall_mem_append.mpr ⟨List.forall_mem_append.mpr ⟨List.forall_mem_append.mpr ⟨fun _ h => absurd h List.not_mem_nil, inX0⟩, inX1⟩, inX2⟩, inX3⟩, inX4⟩, inX5⟩, inX6⟩, inX7⟩, inX8⟩, List.forall_mem_append.mpr ⟨List.forall_mem_cons.mpr ⟨lx_753, List.forall_mem_cons.mpr ⟨lx_755, List.forall_mem_cons.mpr ⟨lx_23, List.forall_mem_cons.mpr ⟨lx_50, fun _ h => absurd h List.not_mem_nil⟩⟩⟩⟩, im_wsX8_needPerson⟩⟩⟩
theorem im_wsL_settle : ∀ w ∈ wsL_settle, w ∈ lw_tbl := List.forall_mem_cons.mpr ⟨lx_838, List.forall_mem_append.mpr ⟨List.forall_mem_cons.mpr ⟨lx_600, List.forall_mem_cons.mpr ⟨lx_707, fun _ h => absurd h List.not_mem_nil⟩⟩, List.forall_mem_append.mpr ⟨List.forall_mem_cons.mpr ⟨lx_839, List.forall_mem_cons.mpr ⟨lx_840, List.forall_mem_cons.mpr ⟨lx_841, List.forall_mem_cons.mpr ⟨lx_50, fun _ h => absurd h List.not_mem_nil⟩⟩⟩⟩, im_wsX8_settle⟩⟩⟩
set_option maxRecDepth 20000 in
theorem gl_L_settle : GoodIn lw_tbl (va_wsS RL 142 yL_settle wsL_settle) := goodIn_sub (List.forall_mem_append.mpr ⟨List.forall_mem_cons.mpr ⟨lx_836, List.forall_mem_cons.mpr ⟨lx_837, List.forall_mem_cons.mpr ⟨lx_49, fun _ h => absurd h List.not_mem_nil⟩⟩⟩, im_wsL_settle⟩) (by decide +kernel)
theorem lx_1141 : Cond.selects RX9 yX9_settle yX9_settle ∈ lw_tbl := List.mem_of_getElem? (i := 1141) (by decide +kernel)
theorem lx_1140 : Cond.instanceMethod yX9_settle ∈ lw_tbl := List.mem_of_getElem? (i := 1140) (by decide +kernel)
theorem lx_1139 : Cond.methodLink RL 144 yX9_settle ∈ lw_tbl := List.mem_of_getElem? (i := 1139) (by decide +kernel)
theorem lx_1142 : Cond.code yX9_settle cX9_settle 3 (some .int) ∈ lw_tbl := List.mem_of_getElem? (i := 1142) (by decide +kernel)
theorem im_wsX9_isPerson : ∀ w ∈ wsX9_isPerson, w ∈ lw_tbl := List.forall_mem_cons.mpr ⟨lx_1061, List.forall_mem_append.mpr ⟨List.forall_mem_cons.mpr ⟨lx_972, List.forall_mem_cons.mpr ⟨lx_1054, List.forall_mem_cons.mpr ⟨lx_1056, List.forall_mem_cons.mpr ⟨lx_31, List.forall_mem_cons.mpr ⟨lx_59, List.forall_mem_cons.mpr ⟨lx_1057, List.forall_mem_cons.mpr ⟨lx_973, List.forall_mem_cons.mpr ⟨lx_1025, List.forall_mem_cons.mpr ⟨lx_1026, List.forall_mem_cons.mpr ⟨lx_1027, fun _ h => absurd h List.not_mem_nil⟩⟩⟩⟩⟩⟩⟩⟩⟩⟩, inX9⟩⟩
theorem im_wsX9_settle : ∀ w ∈ wsX9_settle, w ∈ lw_tbl := List.forall_mem_cons.mpr ⟨lx_1142, List.forall_mem_append.mpr ⟨List.forall_mem_append.mpr ⟨List.forall_mem_append.mpr ⟨List.forall_mem_cons.mpr ⟨lx_967, fun _ h => absurd h List.not_mem_nil⟩, inX9⟩, List.forall_mem_append.mpr ⟨List.forall_mem_cons.mpr ⟨lx_1058, List.forall_mem_cons.mpr ⟨lx_1060, List.forall_mem_cons.mpr ⟨lx_32, List.forall_mem_cons.mpr ⟨lx_59, fun _ h => absurd h List.not_mem_nil⟩⟩⟩⟩, im_wsX9_isPerson⟩⟩, List.forall_mem_append.mpr ⟨List.forall_mem_cons.mpr ⟨lx_1028, List.forall_mem_cons.mpr ⟨lx_1030, List.forall_mem_cons.mpr ⟨lx_30, List.forall_mem_cons.mpr ⟨lx_59, fun _ h => absurd h List.not_mem_nil⟩⟩⟩⟩, im_wsX9_no⟩⟩⟩
set_option maxRecDepth 20000 in
theorem gl_X9_settle : GoodIn lw_tbl (wsV RL 144 RX9 yX9_settle wsX9_settle) := goodIn_sub (List.forall_mem_append.mpr ⟨List.forall_mem_cons.mpr ⟨lx_1139, List.forall_mem_cons.mpr ⟨lx_1140, List.forall_mem_cons.mpr ⟨lx_1141, List.forall_mem_cons.mpr ⟨lx_59, fun _ h => absurd h List.not_mem_nil⟩⟩⟩⟩, im_wsX9_settle⟩) (by decide +kernel)
theorem lx_846 : Cond.static yL_refund ∈ lw_tbl := List.mem_of_getElem? (i := 846) (by decide +kernel)
theorem lx_845 : Cond.methodLink RL 145 yL_refund ∈ lw_tbl := List.mem_of_getElem? (i := 845) (by decide +kernel)
theorem lx_847 : Cond.codeWith yL_refund cL_refund 6 (some .int) [(0, 12, 15, 13), (0, 12, 19, 24)] ∈ lw_tbl := List.mem_of_getElem? (i := 847) (by decide +kernel)
theorem lx_850 : Cond.selects RX8 yX8_refund yX8_refund ∈ lw_tbl := List.mem_of_getElem? (i := 850) (by decide +kernel)
theorem lx_849 : Cond.instanceMethod yX8_refund ∈ lw_tbl := List.mem_of_getElem? (i := 849) (by decide +kernel)
theorem lx_848 : Cond.methodLink RL 54 yX8_refund ∈ lw_tbl := List.mem_of_getElem? (i := 848) (by decide +kernel)
theorem lx_851 : Cond.code yX8_refund cX8_refund 7 (some .int) ∈ lw_tbl := List.mem_of_getElem? (i := 851) (by decide +kernel)
theorem im_wsX8_refund : ∀ w ∈ wsX8_refund, w ∈ lw_tbl := List.forall_mem_cons.mpr ⟨lx_851, List.forall_mem_append.mpr ⟨List.forall_mem_append.mpr ⟨List.forall_mem_append.mpr ⟨List.forall_mem_append.mpr ⟨List.forall_mem_append.mpr ⟨List.forall_mem_append.mpr ⟨List.forall_mem_append.mpr ⟨List.forall_mem_append.mpr ⟨List.forall_mem_append.mpr ⟨List.forall_mem_append.mpr ⟨fun _ h => absurd h List.not_mem_nil, inX0⟩, inX1⟩, inX2⟩, inX3⟩, inX4⟩, inX5⟩, inX6⟩, inX7⟩, inX8⟩, List.forall_mem_append.mpr ⟨List.forall_mem_cons.mpr ⟨lx_753, List.forall_mem_cons.mpr ⟨lx_755, List.forall_mem_cons.mpr ⟨lx_23, List.forall_mem_cons.mpr ⟨lx_50, fun _ h => absurd h List.not_mem_nil⟩⟩⟩⟩, im_wsX8_needPerson⟩⟩⟩
theorem im_wsL_refund : ∀ w ∈ wsL_refund, w ∈ lw_tbl := List.forall_mem_cons.mpr ⟨lx_847, List.forall_mem_append.mpr ⟨List.forall_mem_cons.mpr ⟨lx_600, List.forall_mem_cons.mpr ⟨lx_707, fun _ h => absurd h List.not_mem_nil⟩⟩, List.forall_mem_append.mpr ⟨List.forall_mem_cons.mpr ⟨lx_848, List.forall_mem_cons.mpr ⟨lx_849, List.forall_mem_cons.mpr ⟨lx_850, List.forall_mem_cons.mpr ⟨lx_50, fun _ h => absurd h List.not_mem_nil⟩⟩⟩⟩, im_wsX8_refund⟩⟩⟩
set_option maxRecDepth 20000 in
theorem gl_L_refund : GoodIn lw_tbl (va_wsS RL 145 yL_refund wsL_refund) := goodIn_sub (List.forall_mem_append.mpr ⟨List.forall_mem_cons.mpr ⟨lx_845, List.forall_mem_cons.mpr ⟨lx_846, List.forall_mem_cons.mpr ⟨lx_49, fun _ h => absurd h List.not_mem_nil⟩⟩⟩, im_wsL_refund⟩) (by decide +kernel)
theorem lx_1146 : Cond.selects RX9 yX9_refund yX9_refund ∈ lw_tbl := List.mem_of_getElem? (i := 1146) (by decide +kernel)
theorem lx_1145 : Cond.instanceMethod yX9_refund ∈ lw_tbl := List.mem_of_getElem? (i := 1145) (by decide +kernel)
theorem lx_1144 : Cond.methodLink RL 147 yX9_refund ∈ lw_tbl := List.mem_of_getElem? (i := 1144) (by decide +kernel)
theorem lx_1147 : Cond.code yX9_refund cX9_refund 14 (some .int) ∈ lw_tbl := List.mem_of_getElem? (i := 1147) (by decide +kernel)
theorem im_wsX9_refund : ∀ w ∈ wsX9_refund, w ∈ lw_tbl := List.forall_mem_cons.mpr ⟨lx_1147, List.forall_mem_append.mpr ⟨List.forall_mem_append.mpr ⟨List.forall_mem_append.mpr ⟨List.forall_mem_cons.mpr ⟨lx_967, fun _ h => absurd h List.not_mem_nil⟩, inX9⟩, List.forall_mem_append.mpr ⟨List.forall_mem_cons.mpr ⟨lx_1058, List.forall_mem_cons.mpr ⟨lx_1060, List.forall_mem_cons.mpr ⟨lx_32, List.forall_mem_cons.mpr ⟨lx_59, fun _ h => absurd h List.not_mem_nil⟩⟩⟩⟩, im_wsX9_isPerson⟩⟩, List.forall_mem_append.mpr ⟨List.forall_mem_cons.mpr ⟨lx_1028, List.forall_mem_cons.mpr ⟨lx_1030, List.forall_mem_cons.mpr ⟨lx_30, List.forall_mem_cons.mpr ⟨lx_59, fun _ h => absurd h List.not_mem_nil⟩⟩⟩⟩, im_wsX9_no⟩⟩⟩
set_option maxRecDepth 20000 in
theorem gl_X9_refund : GoodIn lw_tbl (wsV RL 147 RX9 yX9_refund wsX9_refund) := goodIn_sub (List.forall_mem_append.mpr ⟨List.forall_mem_cons.mpr ⟨lx_1144, List.forall_mem_cons.mpr ⟨lx_1145, List.forall_mem_cons.mpr ⟨lx_1146, List.forall_mem_cons.mpr ⟨lx_59, fun _ h => absurd h List.not_mem_nil⟩⟩⟩⟩, im_wsX9_refund⟩) (by decide +kernel)
theorem lx_862 : Cond.static yL_ofCard ∈ lw_tbl := List.mem_of_getElem? (i := 862) (by decide +kernel)
theorem lx_861 : Cond.methodLink RL 148 yL_ofCard ∈ lw_tbl := List.mem_of_getElem? (i := 861) (by decide +kernel)
theorem lx_863 : Cond.codeWith yL_ofCard cL_ofCard 5 (some .int) [(0, 10, 13, 13), (0, 10, 17, 15)] ∈ lw_tbl := List.mem_of_getElem? (i := 863) (by decide +kernel)
theorem lx_866 : Cond.selects RX8 yX8_ofCard yX8_ofCard ∈ lw_tbl := List.mem_of_getElem? (i := 866) (by decide +kernel)
theorem lx_865 : Cond.instanceMethod yX8_ofCard ∈ lw_tbl := List.mem_of_getElem? (i := 865) (by decide +kernel)
theorem lx_864 : Cond.methodLink RL 57 yX8_ofCard ∈ lw_tbl := List.mem_of_getElem? (i := 864) (by decide +kernel)
theorem lx_867 : Cond.code yX8_ofCard cX8_ofCard 3 (some .int) ∈ lw_tbl := List.mem_of_getElem? (i := 867) (by decide +kernel)
theorem im_wsX8_ofCard : ∀ w ∈ wsX8_ofCard, w ∈ lw_tbl := List.forall_mem_cons.mpr ⟨lx_867, List.forall_mem_append.mpr ⟨List.forall_mem_append.mpr ⟨List.forall_mem_append.mpr ⟨List.forall_mem_append.mpr ⟨List.forall_mem_append.mpr ⟨fun _ h => absurd h List.not_mem_nil, inX0⟩, inX5⟩, inX6⟩, inX8⟩, List.forall_mem_append.mpr ⟨List.forall_mem_cons.mpr ⟨lx_749, List.forall_mem_cons.mpr ⟨lx_751, List.forall_mem_cons.mpr ⟨lx_22, List.forall_mem_cons.mpr ⟨lx_50, fun _ h => absurd h List.not_mem_nil⟩⟩⟩⟩, im_wsX8_needCard⟩⟩⟩
theorem im_wsL_ofCard : ∀ w ∈ wsL_ofCard, w ∈ lw_tbl := List.forall_mem_cons.mpr ⟨lx_863, List.forall_mem_append.mpr ⟨List.forall_mem_cons.mpr ⟨lx_600, List.forall_mem_cons.mpr ⟨lx_601, fun _ h => absurd h List.not_mem_nil⟩⟩, List.forall_mem_append.mpr ⟨List.forall_mem_cons.mpr ⟨lx_864, List.forall_mem_cons.mpr ⟨lx_865, List.forall_mem_cons.mpr ⟨lx_866, List.forall_mem_cons.mpr ⟨lx_50, fun _ h => absurd h List.not_mem_nil⟩⟩⟩⟩, im_wsX8_ofCard⟩⟩⟩
set_option maxRecDepth 20000 in
theorem gl_L_ofCard : GoodIn lw_tbl (va_wsS RL 148 yL_ofCard wsL_ofCard) := goodIn_sub (List.forall_mem_append.mpr ⟨List.forall_mem_cons.mpr ⟨lx_861, List.forall_mem_cons.mpr ⟨lx_862, List.forall_mem_cons.mpr ⟨lx_49, fun _ h => absurd h List.not_mem_nil⟩⟩⟩, im_wsL_ofCard⟩) (by decide +kernel)
theorem lx_1150 : Cond.selects RX9 yX9_ofCard yX9_ofCard ∈ lw_tbl := List.mem_of_getElem? (i := 1150) (by decide +kernel)
theorem lx_1149 : Cond.instanceMethod yX9_ofCard ∈ lw_tbl := List.mem_of_getElem? (i := 1149) (by decide +kernel)
theorem lx_1148 : Cond.methodLink RL 150 yX9_ofCard ∈ lw_tbl := List.mem_of_getElem? (i := 1148) (by decide +kernel)
theorem lx_1151 : Cond.code yX9_ofCard cX9_ofCard 3 (some .int) ∈ lw_tbl := List.mem_of_getElem? (i := 1151) (by decide +kernel)
theorem im_wsX9_ofCard : ∀ w ∈ wsX9_ofCard, w ∈ lw_tbl := List.forall_mem_cons.mpr ⟨lx_1151, List.forall_mem_append.mpr ⟨List.forall_mem_cons.mpr ⟨lx_967, List.forall_mem_cons.mpr ⟨lx_972, List.forall_mem_cons.mpr ⟨lx_1054, List.forall_mem_cons.mpr ⟨lx_1056, List.forall_mem_cons.mpr ⟨lx_31, List.forall_mem_cons.mpr ⟨lx_59, List.forall_mem_cons.mpr ⟨lx_1057, List.forall_mem_cons.mpr ⟨lx_973, List.forall_mem_cons.mpr ⟨lx_1025, List.forall_mem_cons.mpr ⟨lx_1026, List.forall_mem_cons.mpr ⟨lx_1027, List.forall_mem_cons.mpr ⟨lx_1028, List.forall_mem_cons.mpr ⟨lx_1030, List.forall_mem_cons.mpr ⟨lx_30, List.forall_mem_cons.mpr ⟨lx_1031, fun _ h => absurd h List.not_mem_nil⟩⟩⟩⟩⟩⟩⟩⟩⟩⟩⟩⟩⟩⟩⟩, inX9⟩⟩
set_option maxRecDepth 20000 in
theorem gl_X9_ofCard : GoodIn lw_tbl (wsV RL 150 RX9 yX9_ofCard wsX9_ofCard) := goodIn_sub (List.forall_mem_append.mpr ⟨List.forall_mem_cons.mpr ⟨lx_1148, List.forall_mem_cons.mpr ⟨lx_1149, List.forall_mem_cons.mpr ⟨lx_1150, List.forall_mem_cons.mpr ⟨lx_59, fun _ h => absurd h List.not_mem_nil⟩⟩⟩⟩, im_wsX9_ofCard⟩) (by decide +kernel)
theorem lx_869 : Cond.static yL_ofDay ∈ lw_tbl := List.mem_of_getElem? (i := 869) (by decide +kernel)
theorem lx_868 : Cond.methodLink RL 151 yL_ofDay ∈ lw_tbl := List.mem_of_getElem? (i := 868) (by decide +kernel)
theorem lx_870 : Cond.codeWith yL_ofDay cL_ofDay 6 (some .int) [(0, 12, 15, 13), (0, 12, 19, 15)] ∈ lw_tbl := List.mem_of_getElem? (i := 870) (by decide +kernel)
theorem lx_873 : Cond.selects RX8 yX8_ofDay yX8_ofDay ∈ lw_tbl := List.mem_of_getElem? (i := 873) (by decide +kernel)
theorem lx_872 : Cond.instanceMethod yX8_ofDay ∈ lw_tbl := List.mem_of_getElem? (i := 872) (by decide +kernel)
theorem lx_871 : Cond.methodLink RL 60 yX8_ofDay ∈ lw_tbl := List.mem_of_getElem? (i := 871) (by decide +kernel)
theorem lx_874 : Cond.code yX8_ofDay cX8_ofDay 4 (some .int) ∈ lw_tbl := List.mem_of_getElem? (i := 874) (by decide +kernel)
theorem im_wsX8_ofDay : ∀ w ∈ wsX8_ofDay, w ∈ lw_tbl := List.forall_mem_cons.mpr ⟨lx_874, List.forall_mem_append.mpr ⟨List.forall_mem_append.mpr ⟨List.forall_mem_append.mpr ⟨List.forall_mem_append.mpr ⟨List.forall_mem_append.mpr ⟨List.forall_mem_append.mpr ⟨List.forall_mem_append.mpr ⟨List.forall_mem_append.mpr ⟨List.forall_mem_append.mpr ⟨List.forall_mem_append.mpr ⟨fun _ h => absurd h List.not_mem_nil, inX0⟩, inX1⟩, inX2⟩, inX3⟩, inX4⟩, inX5⟩, inX6⟩, inX7⟩, inX8⟩, List.forall_mem_append.mpr ⟨List.forall_mem_cons.mpr ⟨lx_753, List.forall_mem_cons.mpr ⟨lx_755, List.forall_mem_cons.mpr ⟨lx_23, List.forall_mem_cons.mpr ⟨lx_50, fun _ h => absurd h List.not_mem_nil⟩⟩⟩⟩, im_wsX8_needPerson⟩⟩⟩
theorem im_wsL_ofDay : ∀ w ∈ wsL_ofDay, w ∈ lw_tbl := List.forall_mem_cons.mpr ⟨lx_870, List.forall_mem_append.mpr ⟨List.forall_mem_cons.mpr ⟨lx_600, List.forall_mem_cons.mpr ⟨lx_601, fun _ h => absurd h List.not_mem_nil⟩⟩, List.forall_mem_append.mpr ⟨List.forall_mem_cons.mpr ⟨lx_871, List.forall_mem_cons.mpr ⟨lx_872, List.forall_mem_cons.mpr ⟨lx_873, List.forall_mem_cons.mpr ⟨lx_50, fun _ h => absurd h List.not_mem_nil⟩⟩⟩⟩, im_wsX8_ofDay⟩⟩⟩
set_option maxRecDepth 20000 in
theorem gl_L_ofDay : GoodIn lw_tbl (va_wsS RL 151 yL_ofDay wsL_ofDay) := goodIn_sub (List.forall_mem_append.mpr ⟨List.forall_mem_cons.mpr ⟨lx_868, List.forall_mem_cons.mpr ⟨lx_869, List.forall_mem_cons.mpr ⟨lx_49, fun _ h => absurd h List.not_mem_nil⟩⟩⟩, im_wsL_ofDay⟩) (by decide +kernel)
theorem lx_1154 : Cond.selects RX9 yX9_ofDay yX9_ofDay ∈ lw_tbl := List.mem_of_getElem? (i := 1154) (by decide +kernel)
theorem lx_1153 : Cond.instanceMethod yX9_ofDay ∈ lw_tbl := List.mem_of_getElem? (i := 1153) (by decide +kernel)
theorem lx_1152 : Cond.methodLink RL 153 yX9_ofDay ∈ lw_tbl := List.mem_of_getElem? (i := 1152) (by decide +kernel)
theorem lx_1155 : Cond.code yX9_ofDay cX9_ofDay 4 (some .int) ∈ lw_tbl := List.mem_of_getElem? (i := 1155) (by decide +kernel)
theorem im_wsX9_ofDay : ∀ w ∈ wsX9_ofDay, w ∈ lw_tbl := List.forall_mem_cons.mpr ⟨lx_1155, List.forall_mem_append.mpr ⟨List.forall_mem_append.mpr ⟨List.forall_mem_append.mpr ⟨List.forall_mem_cons.mpr ⟨lx_967, fun _ h => absurd h List.not_mem_nil⟩, inX9⟩, List.forall_mem_append.mpr ⟨List.forall_mem_cons.mpr ⟨lx_1058, List.forall_mem_cons.mpr ⟨lx_1060, List.forall_mem_cons.mpr ⟨lx_32, List.forall_mem_cons.mpr ⟨lx_59, fun _ h => absurd h List.not_mem_nil⟩⟩⟩⟩, im_wsX9_isPerson⟩⟩, List.forall_mem_append.mpr ⟨List.forall_mem_cons.mpr ⟨lx_1028, List.forall_mem_cons.mpr ⟨lx_1030, List.forall_mem_cons.mpr ⟨lx_30, List.forall_mem_cons.mpr ⟨lx_59, fun _ h => absurd h List.not_mem_nil⟩⟩⟩⟩, im_wsX9_no⟩⟩⟩
set_option maxRecDepth 20000 in
theorem gl_X9_ofDay : GoodIn lw_tbl (wsV RL 153 RX9 yX9_ofDay wsX9_ofDay) := goodIn_sub (List.forall_mem_append.mpr ⟨List.forall_mem_cons.mpr ⟨lx_1152, List.forall_mem_cons.mpr ⟨lx_1153, List.forall_mem_cons.mpr ⟨lx_1154, List.forall_mem_cons.mpr ⟨lx_59, fun _ h => absurd h List.not_mem_nil⟩⟩⟩⟩, im_wsX9_ofDay⟩) (by decide +kernel)
theorem lx_876 : Cond.static yL_ofLeg ∈ lw_tbl := List.mem_of_getElem? (i := 876) (by decide +kernel)
theorem lx_875 : Cond.methodLink RL 154 yL_ofLeg ∈ lw_tbl := List.mem_of_getElem? (i := 875) (by decide +kernel)
theorem lx_877 : Cond.codeWith yL_ofLeg cL_ofLeg 7 (some .int) [(0, 14, 17, 13), (0, 14, 21, 15)] ∈ lw_tbl := List.mem_of_getElem? (i := 877) (by decide +kernel)
theorem lx_880 : Cond.selects RX8 yX8_ofLeg yX8_ofLeg ∈ lw_tbl := List.mem_of_getElem? (i := 880) (by decide +kernel)
theorem lx_879 : Cond.instanceMethod yX8_ofLeg ∈ lw_tbl := List.mem_of_getElem? (i := 879) (by decide +kernel)
theorem lx_878 : Cond.methodLink RL 63 yX8_ofLeg ∈ lw_tbl := List.mem_of_getElem? (i := 878) (by decide +kernel)
theorem lx_881 : Cond.code yX8_ofLeg cX8_ofLeg 5 (some .int) ∈ lw_tbl := List.mem_of_getElem? (i := 881) (by decide +kernel)
theorem im_wsX8_ofLeg : ∀ w ∈ wsX8_ofLeg, w ∈ lw_tbl := List.forall_mem_cons.mpr ⟨lx_881, List.forall_mem_append.mpr ⟨List.forall_mem_append.mpr ⟨List.forall_mem_append.mpr ⟨List.forall_mem_append.mpr ⟨List.forall_mem_append.mpr ⟨List.forall_mem_append.mpr ⟨List.forall_mem_append.mpr ⟨List.forall_mem_append.mpr ⟨List.forall_mem_append.mpr ⟨List.forall_mem_append.mpr ⟨fun _ h => absurd h List.not_mem_nil, inX0⟩, inX1⟩, inX2⟩, inX3⟩, inX4⟩, inX5⟩, inX6⟩, inX7⟩, inX8⟩, List.forall_mem_append.mpr ⟨List.forall_mem_cons.mpr ⟨lx_753, List.forall_mem_cons.mpr ⟨lx_755, List.forall_mem_cons.mpr ⟨lx_23, List.forall_mem_cons.mpr ⟨lx_50, fun _ h => absurd h List.not_mem_nil⟩⟩⟩⟩, im_wsX8_needPerson⟩⟩⟩
theorem im_wsL_ofLeg : ∀ w ∈ wsL_ofLeg, w ∈ lw_tbl := List.forall_mem_cons.mpr ⟨lx_877, List.forall_mem_append.mpr ⟨List.forall_mem_cons.mpr ⟨lx_600, List.forall_mem_cons.mpr ⟨lx_601, fun _ h => absurd h List.not_mem_nil⟩⟩, List.forall_mem_append.mpr ⟨List.forall_mem_cons.mpr ⟨lx_878, List.forall_mem_cons.mpr ⟨lx_879, List.forall_mem_cons.mpr ⟨lx_880, List.forall_mem_cons.mpr ⟨lx_50, fun _ h => absurd h List.not_mem_nil⟩⟩⟩⟩, im_wsX8_ofLeg⟩⟩⟩
set_option maxRecDepth 20000 in
theorem gl_L_ofLeg : GoodIn lw_tbl (va_wsS RL 154 yL_ofLeg wsL_ofLeg) := goodIn_sub (List.forall_mem_append.mpr ⟨List.forall_mem_cons.mpr ⟨lx_875, List.forall_mem_cons.mpr ⟨lx_876, List.forall_mem_cons.mpr ⟨lx_49, fun _ h => absurd h List.not_mem_nil⟩⟩⟩, im_wsL_ofLeg⟩) (by decide +kernel)
theorem lx_1162 : Cond.selects RX9 yX9_ofLeg yX9_ofLeg ∈ lw_tbl := List.mem_of_getElem? (i := 1162) (by decide +kernel)
theorem lx_1161 : Cond.instanceMethod yX9_ofLeg ∈ lw_tbl := List.mem_of_getElem? (i := 1161) (by decide +kernel)
theorem lx_1160 : Cond.methodLink RL 157 yX9_ofLeg ∈ lw_tbl := List.mem_of_getElem? (i := 1160) (by decide +kernel)
theorem lx_1163 : Cond.code yX9_ofLeg cX9_ofLeg 6 (some .int) ∈ lw_tbl := List.mem_of_getElem? (i := 1163) (by decide +kernel)
theorem im_wsX9_ofLeg : ∀ w ∈ wsX9_ofLeg, w ∈ lw_tbl := List.forall_mem_cons.mpr ⟨lx_1163, List.forall_mem_append.mpr ⟨List.forall_mem_append.mpr ⟨List.forall_mem_append.mpr ⟨List.forall_mem_cons.mpr ⟨lx_967, fun _ h => absurd h List.not_mem_nil⟩, inX9⟩, List.forall_mem_append.mpr ⟨List.forall_mem_cons.mpr ⟨lx_1058, List.forall_mem_cons.mpr ⟨lx_1060, List.forall_mem_cons.mpr ⟨lx_32, List.forall_mem_cons.mpr ⟨lx_59, fun _ h => absurd h List.not_mem_nil⟩⟩⟩⟩, im_wsX9_isPerson⟩⟩, List.forall_mem_append.mpr ⟨List.forall_mem_cons.mpr ⟨lx_1028, List.forall_mem_cons.mpr ⟨lx_1030, List.forall_mem_cons.mpr ⟨lx_30, List.forall_mem_cons.mpr ⟨lx_59, fun _ h => absurd h List.not_mem_nil⟩⟩⟩⟩, im_wsX9_no⟩⟩⟩
set_option maxRecDepth 20000 in
theorem gl_X9_ofLeg : GoodIn lw_tbl (wsV RL 157 RX9 yX9_ofLeg wsX9_ofLeg) := goodIn_sub (List.forall_mem_append.mpr ⟨List.forall_mem_cons.mpr ⟨lx_1160, List.forall_mem_cons.mpr ⟨lx_1161, List.forall_mem_cons.mpr ⟨lx_1162, List.forall_mem_cons.mpr ⟨lx_59, fun _ h => absurd h List.not_mem_nil⟩⟩⟩⟩, im_wsX9_ofLeg⟩) (by decide +kernel)
theorem lx_883 : Cond.static yL_ofJourney ∈ lw_tbl := List.mem_of_getElem? (i := 883) (by decide +kernel)
theorem lx_882 : Cond.methodLink RL 158 yL_ofJourney ∈ lw_tbl := List.mem_of_getElem? (i := 882) (by decide +kernel)
theorem lx_884 : Cond.codeWith yL_ofJourney cL_ofJourney 7 (some .int) [(0, 14, 17, 13), (0, 14, 21, 15)] ∈ lw_tbl := List.mem_of_getElem? (i := 884) (by decide +kernel)
theorem lx_887 : Cond.selects RX8 yX8_ofJourney yX8_ofJourney ∈ lw_tbl := List.mem_of_getElem? (i := 887) (by decide +kernel)
theorem lx_886 : Cond.instanceMethod yX8_ofJourney ∈ lw_tbl := List.mem_of_getElem? (i := 886) (by decide +kernel)
theorem lx_885 : Cond.methodLink RL 67 yX8_ofJourney ∈ lw_tbl := List.mem_of_getElem? (i := 885) (by decide +kernel)
theorem lx_888 : Cond.code yX8_ofJourney cX8_ofJourney 5 (some .int) ∈ lw_tbl := List.mem_of_getElem? (i := 888) (by decide +kernel)
theorem im_wsX8_ofJourney : ∀ w ∈ wsX8_ofJourney, w ∈ lw_tbl := List.forall_mem_cons.mpr ⟨lx_888, List.forall_mem_append.mpr ⟨List.forall_mem_append.mpr ⟨List.forall_mem_append.mpr ⟨List.forall_mem_append.mpr ⟨List.forall_mem_append.mpr ⟨List.forall_mem_append.mpr ⟨List.forall_mem_append.mpr ⟨List.forall_mem_append.mpr ⟨List.forall_mem_append.mpr ⟨List.forall_mem_append.mpr ⟨fun _ h => absurd h List.not_mem_nil, inX0⟩, inX1⟩, inX2⟩, inX3⟩, inX4⟩, inX5⟩, inX6⟩, inX7⟩, inX8⟩, List.forall_mem_append.mpr ⟨List.forall_mem_cons.mpr ⟨lx_753, List.forall_mem_cons.mpr ⟨lx_755, List.forall_mem_cons.mpr ⟨lx_23, List.forall_mem_cons.mpr ⟨lx_50, fun _ h => absurd h List.not_mem_nil⟩⟩⟩⟩, im_wsX8_needPerson⟩⟩⟩
theorem im_wsL_ofJourney : ∀ w ∈ wsL_ofJourney, w ∈ lw_tbl := List.forall_mem_cons.mpr ⟨lx_884, List.forall_mem_append.mpr ⟨List.forall_mem_cons.mpr ⟨lx_600, List.forall_mem_cons.mpr ⟨lx_601, fun _ h => absurd h List.not_mem_nil⟩⟩, List.forall_mem_append.mpr ⟨List.forall_mem_cons.mpr ⟨lx_885, List.forall_mem_cons.mpr ⟨lx_886, List.forall_mem_cons.mpr ⟨lx_887, List.forall_mem_cons.mpr ⟨lx_50, fun _ h => absurd h List.not_mem_nil⟩⟩⟩⟩, im_wsX8_ofJourney⟩⟩⟩
set_option maxRecDepth 20000 in
theorem gl_L_ofJourney : GoodIn lw_tbl (va_wsS RL 158 yL_ofJourney wsL_ofJourney) := goodIn_sub (List.forall_mem_append.mpr ⟨List.forall_mem_cons.mpr ⟨lx_882, List.forall_mem_cons.mpr ⟨lx_883, List.forall_mem_cons.mpr ⟨lx_49, fun _ h => absurd h List.not_mem_nil⟩⟩⟩, im_wsL_ofJourney⟩) (by decide +kernel)
theorem lx_1166 : Cond.selects RX9 yX9_ofJourney yX9_ofJourney ∈ lw_tbl := List.mem_of_getElem? (i := 1166) (by decide +kernel)
theorem lx_1165 : Cond.instanceMethod yX9_ofJourney ∈ lw_tbl := List.mem_of_getElem? (i := 1165) (by decide +kernel)
theorem lx_1164 : Cond.methodLink RL 160 yX9_ofJourney ∈ lw_tbl := List.mem_of_getElem? (i := 1164) (by decide +kernel)
theorem lx_1167 : Cond.code yX9_ofJourney cX9_ofJourney 6 (some .int) ∈ lw_tbl := List.mem_of_getElem? (i := 1167) (by decide +kernel)
theorem im_wsX9_ofJourney : ∀ w ∈ wsX9_ofJourney, w ∈ lw_tbl := List.forall_mem_cons.mpr ⟨lx_1167, List.forall_mem_append.mpr ⟨List.forall_mem_append.mpr ⟨List.forall_mem_append.mpr ⟨List.forall_mem_cons.mpr ⟨lx_967, fun _ h => absurd h List.not_mem_nil⟩, inX9⟩, List.forall_mem_append.mpr ⟨List.forall_mem_cons.mpr ⟨lx_1058, List.forall_mem_cons.mpr ⟨lx_1060, List.forall_mem_cons.mpr ⟨lx_32, List.forall_mem_cons.mpr ⟨lx_59, fun _ h => absurd h List.not_mem_nil⟩⟩⟩⟩, im_wsX9_isPerson⟩⟩, List.forall_mem_append.mpr ⟨List.forall_mem_cons.mpr ⟨lx_1028, List.forall_mem_cons.mpr ⟨lx_1030, List.forall_mem_cons.mpr ⟨lx_30, List.forall_mem_cons.mpr ⟨lx_59, fun _ h => absurd h List.not_mem_nil⟩⟩⟩⟩, im_wsX9_no⟩⟩⟩
set_option maxRecDepth 20000 in
theorem gl_X9_ofJourney : GoodIn lw_tbl (wsV RL 160 RX9 yX9_ofJourney wsX9_ofJourney) := goodIn_sub (List.forall_mem_append.mpr ⟨List.forall_mem_cons.mpr ⟨lx_1164, List.forall_mem_cons.mpr ⟨lx_1165, List.forall_mem_cons.mpr ⟨lx_1166, List.forall_mem_cons.mpr ⟨lx_59, fun _ h => absurd h List.not_mem_nil⟩⟩⟩⟩, im_wsX9_ofJourney⟩) (by decide +kernel)
theorem lx_895 : Cond.static yL_ofWeek ∈ lw_tbl := List.mem_of_getElem? (i := 895) (by decide +kernel)
theorem lx_894 : Cond.methodLink RL 161 yL_ofWeek ∈ lw_tbl := List.mem_of_getElem? (i := 894) (by decide +kernel)
theorem lx_896 : Cond.codeWith yL_ofWeek cL_ofWeek 6 (some .int) [(0, 12, 15, 13), (0, 12, 19, 15)] ∈ lw_tbl := List.mem_of_getElem? (i := 896) (by decide +kernel)
theorem lx_899 : Cond.selects RX8 yX8_ofWeek yX8_ofWeek ∈ lw_tbl := List.mem_of_getElem? (i := 899) (by decide +kernel)
theorem lx_898 : Cond.instanceMethod yX8_ofWeek ∈ lw_tbl := List.mem_of_getElem? (i := 898) (by decide +kernel)
theorem lx_897 : Cond.methodLink RL 70 yX8_ofWeek ∈ lw_tbl := List.mem_of_getElem? (i := 897) (by decide +kernel)
theorem lx_900 : Cond.code yX8_ofWeek cX8_ofWeek 4 (some .int) ∈ lw_tbl := List.mem_of_getElem? (i := 900) (by decide +kernel)
theorem im_wsX8_ofWeek : ∀ w ∈ wsX8_ofWeek, w ∈ lw_tbl := List.forall_mem_cons.mpr ⟨lx_900, List.forall_mem_append.mpr ⟨List.forall_mem_append.mpr ⟨List.forall_mem_append.mpr ⟨List.forall_mem_append.mpr ⟨List.forall_mem_append.mpr ⟨List.forall_mem_append.mpr ⟨List.forall_mem_append.mpr ⟨List.forall_mem_append.mpr ⟨List.forall_mem_append.mpr ⟨List.forall_mem_append.mpr ⟨fun _ h => absurd h List.not_mem_nil, inX0⟩, inX1⟩, inX2⟩, inX3⟩, inX4⟩, inX5⟩, inX6⟩, inX7⟩, inX8⟩, List.forall_mem_append.mpr ⟨List.forall_mem_cons.mpr ⟨lx_753, List.forall_mem_cons.mpr ⟨lx_755, List.forall_mem_cons.mpr ⟨lx_23, List.forall_mem_cons.mpr ⟨lx_50, fun _ h => absurd h List.not_mem_nil⟩⟩⟩⟩, im_wsX8_needPerson⟩⟩⟩
theorem im_wsL_ofWeek : ∀ w ∈ wsL_ofWeek, w ∈ lw_tbl := List.forall_mem_cons.mpr ⟨lx_896, List.forall_mem_append.mpr ⟨List.forall_mem_cons.mpr ⟨lx_600, List.forall_mem_cons.mpr ⟨lx_601, fun _ h => absurd h List.not_mem_nil⟩⟩, List.forall_mem_append.mpr ⟨List.forall_mem_cons.mpr ⟨lx_897, List.forall_mem_cons.mpr ⟨lx_898, List.forall_mem_cons.mpr ⟨lx_899, List.forall_mem_cons.mpr ⟨lx_50, fun _ h => absurd h List.not_mem_nil⟩⟩⟩⟩, im_wsX8_ofWeek⟩⟩⟩
set_option maxRecDepth 20000 in
theorem gl_L_ofWeek : GoodIn lw_tbl (va_wsS RL 161 yL_ofWeek wsL_ofWeek) := goodIn_sub (List.forall_mem_append.mpr ⟨List.forall_mem_cons.mpr ⟨lx_894, List.forall_mem_cons.mpr ⟨lx_895, List.forall_mem_cons.mpr ⟨lx_49, fun _ h => absurd h List.not_mem_nil⟩⟩⟩, im_wsL_ofWeek⟩) (by decide +kernel)
theorem lx_1170 : Cond.selects RX9 yX9_ofWeek yX9_ofWeek ∈ lw_tbl := List.mem_of_getElem? (i := 1170) (by decide +kernel)
theorem lx_1169 : Cond.instanceMethod yX9_ofWeek ∈ lw_tbl := List.mem_of_getElem? (i := 1169) (by decide +kernel)
theorem lx_1168 : Cond.methodLink RL 163 yX9_ofWeek ∈ lw_tbl := List.mem_of_getElem? (i := 1168) (by decide +kernel)
theorem lx_1171 : Cond.code yX9_ofWeek cX9_ofWeek 4 (some .int) ∈ lw_tbl := List.mem_of_getElem? (i := 1171) (by decide +kernel)
theorem im_wsX9_ofWeek : ∀ w ∈ wsX9_ofWeek, w ∈ lw_tbl := List.forall_mem_cons.mpr ⟨lx_1171, List.forall_mem_append.mpr ⟨List.forall_mem_append.mpr ⟨List.forall_mem_append.mpr ⟨List.forall_mem_cons.mpr ⟨lx_967, fun _ h => absurd h List.not_mem_nil⟩, inX9⟩, List.forall_mem_append.mpr ⟨List.forall_mem_cons.mpr ⟨lx_1058, List.forall_mem_cons.mpr ⟨lx_1060, List.forall_mem_cons.mpr ⟨lx_32, List.forall_mem_cons.mpr ⟨lx_59, fun _ h => absurd h List.not_mem_nil⟩⟩⟩⟩, im_wsX9_isPerson⟩⟩, List.forall_mem_append.mpr ⟨List.forall_mem_cons.mpr ⟨lx_1028, List.forall_mem_cons.mpr ⟨lx_1030, List.forall_mem_cons.mpr ⟨lx_30, List.forall_mem_cons.mpr ⟨lx_59, fun _ h => absurd h List.not_mem_nil⟩⟩⟩⟩, im_wsX9_no⟩⟩⟩
set_option maxRecDepth 20000 in
theorem gl_X9_ofWeek : GoodIn lw_tbl (wsV RL 163 RX9 yX9_ofWeek wsX9_ofWeek) := goodIn_sub (List.forall_mem_append.mpr ⟨List.forall_mem_cons.mpr ⟨lx_1168, List.forall_mem_cons.mpr ⟨lx_1169, List.forall_mem_cons.mpr ⟨lx_1170, List.forall_mem_cons.mpr ⟨lx_59, fun _ h => absurd h List.not_mem_nil⟩⟩⟩⟩, im_wsX9_ofWeek⟩) (by decide +kernel)
theorem lx_902 : Cond.static yL_share ∈ lw_tbl := List.mem_of_getElem? (i := 902) (by decide +kernel)
theorem lx_901 : Cond.methodLink RL 164 yL_share ∈ lw_tbl := List.mem_of_getElem? (i := 901) (by decide +kernel)
theorem lx_903 : Cond.codeWith yL_share cL_share 6 (some .int) [(0, 12, 15, 13)] ∈ lw_tbl := List.mem_of_getElem? (i := 903) (by decide +kernel)
theorem lx_906 : Cond.selects RX8 yX8_share yX8_share ∈ lw_tbl := List.mem_of_getElem? (i := 906) (by decide +kernel)
theorem lx_905 : Cond.instanceMethod yX8_share ∈ lw_tbl := List.mem_of_getElem? (i := 905) (by decide +kernel)
theorem lx_904 : Cond.methodLink RL 73 yX8_share ∈ lw_tbl := List.mem_of_getElem? (i := 904) (by decide +kernel)
theorem lx_907 : Cond.code yX8_share cX8_share 4 (some .int) ∈ lw_tbl := List.mem_of_getElem? (i := 907) (by decide +kernel)
theorem im_wsX8_share : ∀ w ∈ wsX8_share, w ∈ lw_tbl := List.forall_mem_cons.mpr ⟨lx_907, List.forall_mem_append.mpr ⟨List.forall_mem_append.mpr ⟨List.forall_mem_append.mpr ⟨List.forall_mem_append.mpr ⟨List.forall_mem_append.mpr ⟨List.forall_mem_append.mpr ⟨List.forall_mem_append.mpr ⟨List.forall_mem_append.mpr ⟨List.forall_mem_append.mpr ⟨List.forall_mem_append.mpr ⟨List.forall_mem_append.mpr ⟨fun _ h => absurd h List.not_mem_nil, inX0⟩, inX1⟩, inX2⟩, inX3⟩, inX4⟩, inX5⟩, inX6⟩, inX7⟩, inX8⟩, List.forall_mem_append.mpr ⟨List.forall_mem_cons.mpr ⟨lx_606, List.forall_mem_cons.mpr ⟨lx_607, List.forall_mem_cons.mpr ⟨lx_50, fun _ h => absurd h List.not_mem_nil⟩⟩⟩, im_wsX8_needNumber⟩⟩, List.forall_mem_append.mpr ⟨List.forall_mem_cons.mpr ⟨lx_753, List.forall_mem_cons.mpr ⟨lx_755, List.forall_mem_cons.mpr ⟨lx_23, List.forall_mem_cons.mpr ⟨lx_50, fun _ h => absurd h List.not_mem_nil⟩⟩⟩⟩, im_wsX8_needPerson⟩⟩⟩
theorem im_wsL_share : ∀ w ∈ wsL_share, w ∈ lw_tbl := List.forall_mem_cons.mpr ⟨lx_903, List.forall_mem_append.mpr ⟨List.forall_mem_cons.mpr ⟨lx_600, fun _ h => absurd h List.not_mem_nil⟩, List.forall_mem_append.mpr ⟨List.forall_mem_cons.mpr ⟨lx_904, List.forall_mem_cons.mpr ⟨lx_905, List.forall_mem_cons.mpr ⟨lx_906, List.forall_mem_cons.mpr ⟨lx_50, fun _ h => absurd h List.not_mem_nil⟩⟩⟩⟩, im_wsX8_share⟩⟩⟩
set_option maxRecDepth 20000 in
theorem gl_L_share : GoodIn lw_tbl (va_wsS RL 164 yL_share wsL_share) := goodIn_sub (List.forall_mem_append.mpr ⟨List.forall_mem_cons.mpr ⟨lx_901, List.forall_mem_cons.mpr ⟨lx_902, List.forall_mem_cons.mpr ⟨lx_49, fun _ h => absurd h List.not_mem_nil⟩⟩⟩, im_wsL_share⟩) (by decide +kernel)
theorem lx_1178 : Cond.selects RX9 yX9_share yX9_share ∈ lw_tbl := List.mem_of_getElem? (i := 1178) (by decide +kernel)
theorem lx_1177 : Cond.instanceMethod yX9_share ∈ lw_tbl := List.mem_of_getElem? (i := 1177) (by decide +kernel)
theorem lx_1176 : Cond.methodLink RL 166 yX9_share ∈ lw_tbl := List.mem_of_getElem? (i := 1176) (by decide +kernel)
theorem lx_1179 : Cond.code yX9_share cX9_share 4 (some .int) ∈ lw_tbl := List.mem_of_getElem? (i := 1179) (by decide +kernel)
theorem im_wsX9_in : ∀ w ∈ wsX9_in, w ∈ lw_tbl := List.forall_mem_cons.mpr ⟨lx_1027, fun _ h => absurd h List.not_mem_nil⟩
theorem im_wsX9_share : ∀ w ∈ wsX9_share, w ∈ lw_tbl := List.forall_mem_cons.mpr ⟨lx_1179, List.forall_mem_append.mpr ⟨List.forall_mem_append.mpr ⟨List.forall_mem_append.mpr ⟨List.forall_mem_append.mpr ⟨List.forall_mem_cons.mpr ⟨lx_967, fun _ h => absurd h List.not_mem_nil⟩, inX9⟩, List.forall_mem_append.mpr ⟨List.forall_mem_cons.mpr ⟨lx_1025, List.forall_mem_cons.mpr ⟨lx_1026, List.forall_mem_cons.mpr ⟨lx_59, fun _ h => absurd h List.not_mem_nil⟩⟩⟩, im_wsX9_in⟩⟩, List.forall_mem_append.mpr ⟨List.forall_mem_cons.mpr ⟨lx_1028, List.forall_mem_cons.mpr ⟨lx_1030, List.forall_mem_cons.mpr ⟨lx_30, List.forall_mem_cons.mpr ⟨lx_59, fun _ h => absurd h List.not_mem_nil⟩⟩⟩⟩, im_wsX9_no⟩⟩, List.forall_mem_append.mpr ⟨List.forall_mem_cons.mpr ⟨lx_1058, List.forall_mem_cons.mpr ⟨lx_1060, List.forall_mem_cons.mpr ⟨lx_32, List.forall_mem_cons.mpr ⟨lx_59, fun _ h => absurd h List.not_mem_nil⟩⟩⟩⟩, im_wsX9_isPerson⟩⟩⟩
set_option maxRecDepth 20000 in
theorem gl_X9_share : GoodIn lw_tbl (wsV RL 166 RX9 yX9_share wsX9_share) := goodIn_sub (List.forall_mem_append.mpr ⟨List.forall_mem_cons.mpr ⟨lx_1176, List.forall_mem_cons.mpr ⟨lx_1177, List.forall_mem_cons.mpr ⟨lx_1178, List.forall_mem_cons.mpr ⟨lx_59, fun _ h => absurd h List.not_mem_nil⟩⟩⟩⟩, im_wsX9_share⟩) (by decide +kernel)
theorem lx_909 : Cond.static yL_check ∈ lw_tbl := List.mem_of_getElem? (i := 909) (by decide +kernel)
theorem lx_908 : Cond.methodLink RL 167 yL_check ∈ lw_tbl := List.mem_of_getElem? (i := 908) (by decide +kernel)
theorem lx_910 : Cond.codeWith yL_check cL_check 6 (some .int) [(0, 12, 15, 13), (0, 12, 19, 15)] ∈ lw_tbl := List.mem_of_getElem? (i := 910) (by decide +kernel)
theorem lx_913 : Cond.selects RX8 yX8_check yX8_check ∈ lw_tbl := List.mem_of_getElem? (i := 913) (by decide +kernel)
theorem lx_912 : Cond.instanceMethod yX8_check ∈ lw_tbl := List.mem_of_getElem? (i := 912) (by decide +kernel)
theorem lx_911 : Cond.methodLink RL 76 yX8_check ∈ lw_tbl := List.mem_of_getElem? (i := 911) (by decide +kernel)
theorem lx_914 : Cond.code yX8_check cX8_check 4 (some .int) ∈ lw_tbl := List.mem_of_getElem? (i := 914) (by decide +kernel)
theorem im_wsX8_check : ∀ w ∈ wsX8_check, w ∈ lw_tbl := List.forall_mem_cons.mpr ⟨lx_914, List.forall_mem_append.mpr ⟨List.forall_mem_append.mpr ⟨List.forall_mem_append.mpr ⟨List.forall_mem_append.mpr ⟨List.forall_mem_append.mpr ⟨List.forall_mem_append.mpr ⟨List.forall_mem_append.mpr ⟨List.forall_mem_append.mpr ⟨List.forall_mem_append.mpr ⟨List.forall_mem_append.mpr ⟨fun _ h => absurd h List.not_mem_nil, inX0⟩, inX1⟩, inX2⟩, inX3⟩, inX4⟩, inX5⟩, inX6⟩, inX7⟩, inX8⟩, List.forall_mem_append.mpr ⟨List.forall_mem_cons.mpr ⟨lx_749, List.forall_mem_cons.mpr ⟨lx_751, List.forall_mem_cons.mpr ⟨lx_22, List.forall_mem_cons.mpr ⟨lx_50, fun _ h => absurd h List.not_mem_nil⟩⟩⟩⟩, im_wsX8_needCard⟩⟩⟩
theorem im_wsL_check : ∀ w ∈ wsL_check, w ∈ lw_tbl := List.forall_mem_cons.mpr ⟨lx_910, List.forall_mem_append.mpr ⟨List.forall_mem_cons.mpr ⟨lx_600, List.forall_mem_cons.mpr ⟨lx_601, fun _ h => absurd h List.not_mem_nil⟩⟩, List.forall_mem_append.mpr ⟨List.forall_mem_cons.mpr ⟨lx_911, List.forall_mem_cons.mpr ⟨lx_912, List.forall_mem_cons.mpr ⟨lx_913, List.forall_mem_cons.mpr ⟨lx_50, fun _ h => absurd h List.not_mem_nil⟩⟩⟩⟩, im_wsX8_check⟩⟩⟩
set_option maxRecDepth 20000 in
theorem gl_L_check : GoodIn lw_tbl (va_wsS RL 167 yL_check wsL_check) := goodIn_sub (List.forall_mem_append.mpr ⟨List.forall_mem_cons.mpr ⟨lx_908, List.forall_mem_cons.mpr ⟨lx_909, List.forall_mem_cons.mpr ⟨lx_49, fun _ h => absurd h List.not_mem_nil⟩⟩⟩, im_wsL_check⟩) (by decide +kernel)
theorem lx_1186 : Cond.selects RX9 yX9_check yX9_check ∈ lw_tbl := List.mem_of_getElem? (i := 1186) (by decide +kernel)
theorem lx_1185 : Cond.instanceMethod yX9_check ∈ lw_tbl := List.mem_of_getElem? (i := 1185) (by decide +kernel)
theorem lx_1184 : Cond.methodLink RL 169 yX9_check ∈ lw_tbl := List.mem_of_getElem? (i := 1184) (by decide +kernel)
theorem lx_1187 : Cond.code yX9_check cX9_check 8 (some .int) ∈ lw_tbl := List.mem_of_getElem? (i := 1187) (by decide +kernel)
theorem im_wsX9_isCard : ∀ w ∈ wsX9_isCard, w ∈ lw_tbl := List.forall_mem_cons.mpr ⟨lx_1057, List.forall_mem_append.mpr ⟨List.forall_mem_cons.mpr ⟨lx_973, List.forall_mem_cons.mpr ⟨lx_1025, List.forall_mem_cons.mpr ⟨lx_1026, List.forall_mem_cons.mpr ⟨lx_59, List.forall_mem_cons.mpr ⟨lx_1027, fun _ h => absurd h List.not_mem_nil⟩⟩⟩⟩⟩, inX9⟩⟩
theorem im_wsX9_check : ∀ w ∈ wsX9_check, w ∈ lw_tbl := List.forall_mem_cons.mpr ⟨lx_1187, List.forall_mem_append.mpr ⟨List.forall_mem_append.mpr ⟨List.forall_mem_append.mpr ⟨List.forall_mem_cons.mpr ⟨lx_967, fun _ h => absurd h List.not_mem_nil⟩, inX9⟩, List.forall_mem_append.mpr ⟨List.forall_mem_cons.mpr ⟨lx_1054, List.forall_mem_cons.mpr ⟨lx_1056, List.forall_mem_cons.mpr ⟨lx_31, List.forall_mem_cons.mpr ⟨lx_59, fun _ h => absurd h List.not_mem_nil⟩⟩⟩⟩, im_wsX9_isCard⟩⟩, List.forall_mem_append.mpr ⟨List.forall_mem_cons.mpr ⟨lx_1028, List.forall_mem_cons.mpr ⟨lx_1030, List.forall_mem_cons.mpr ⟨lx_30, List.forall_mem_cons.mpr ⟨lx_59, fun _ h => absurd h List.not_mem_nil⟩⟩⟩⟩, im_wsX9_no⟩⟩⟩
set_option maxRecDepth 20000 in
theorem gl_X9_check : GoodIn lw_tbl (wsV RL 169 RX9 yX9_check wsX9_check) := goodIn_sub (List.forall_mem_append.mpr ⟨List.forall_mem_cons.mpr ⟨lx_1184, List.forall_mem_cons.mpr ⟨lx_1185, List.forall_mem_cons.mpr ⟨lx_1186, List.forall_mem_cons.mpr ⟨lx_59, fun _ h => absurd h List.not_mem_nil⟩⟩⟩⟩, im_wsX9_check⟩) (by decide +kernel)
theorem lx_920 : Cond.static yL_many ∈ lw_tbl := List.mem_of_getElem? (i := 920) (by decide +kernel)
theorem lx_919 : Cond.methodLink RL 170 yL_many ∈ lw_tbl := List.mem_of_getElem? (i := 919) (by decide +kernel)
theorem lx_921 : Cond.codeWith yL_many cL_many 4 (some .int) [(0, 9, 12, 15)] ∈ lw_tbl := List.mem_of_getElem? (i := 921) (by decide +kernel)
theorem lx_924 : Cond.selects RX8 yX8_many yX8_many ∈ lw_tbl := List.mem_of_getElem? (i := 924) (by decide +kernel)
theorem lx_923 : Cond.instanceMethod yX8_many ∈ lw_tbl := List.mem_of_getElem? (i := 923) (by decide +kernel)
theorem lx_922 : Cond.methodLink RL 79 yX8_many ∈ lw_tbl := List.mem_of_getElem? (i := 922) (by decide +kernel)
theorem lx_925 : Cond.code yX8_many cX8_many 2 (some .int) ∈ lw_tbl := List.mem_of_getElem? (i := 925) (by decide +kernel)
theorem lx_0 : Cond.selects RX8 yX8_manyAnswer yX8_manyAnswer ∈ lw_tbl := List.mem_of_getElem? (i := 0) (by decide +kernel)
theorem lx_402 : Cond.instanceMethod yX8_manyAnswer ∈ lw_tbl := List.mem_of_getElem? (i := 402) (by decide +kernel)
theorem lx_400 : Cond.methodLink RX8 224 yX8_manyAnswer ∈ lw_tbl := List.mem_of_getElem? (i := 400) (by decide +kernel)
theorem lx_403 : Cond.code yX8_manyAnswer cX8_manyAnswer 2 (some .int) ∈ lw_tbl := List.mem_of_getElem? (i := 403) (by decide +kernel)
theorem lx_164 : Cond.fieldLink RX8 271 "TapCap$Cards" "charged" "LTapCap$Row;" ∈ lw_tbl := List.mem_of_getElem? (i := 164) (by decide +kernel)
theorem lx_157 : Cond.fieldLink RX8 137 "TapCap$Cards" "purse" "LTapCap$Row;" ∈ lw_tbl := List.mem_of_getElem? (i := 157) (by decide +kernel)
theorem lx_207 : Cond.fieldLink RX8 159 "TapCap$Taps" "doubled" "I" ∈ lw_tbl := List.mem_of_getElem? (i := 207) (by decide +kernel)
theorem lx_205 : Cond.fieldLink RX8 148 "TapCap$Taps" "denied" "I" ∈ lw_tbl := List.mem_of_getElem? (i := 205) (by decide +kernel)
theorem lx_203 : Cond.fieldLink RX8 151 "TapCap$Taps" "count" "I" ∈ lw_tbl := List.mem_of_getElem? (i := 203) (by decide +kernel)
theorem lx_406 : Cond.selects RX5 yX5_sum yX5_sum ∈ lw_tbl := List.mem_of_getElem? (i := 406) (by decide +kernel)
theorem lx_405 : Cond.instanceMethod yX5_sum ∈ lw_tbl := List.mem_of_getElem? (i := 405) (by decide +kernel)
theorem lx_404 : Cond.methodLink RX8 335 yX5_sum ∈ lw_tbl := List.mem_of_getElem? (i := 404) (by decide +kernel)
theorem lx_407 : Cond.code yX5_sum cX5_sum 3 (some .int) ∈ lw_tbl := List.mem_of_getElem? (i := 407) (by decide +kernel)
theorem im_wsX5_sum : ∀ w ∈ wsX5_sum, w ∈ lw_tbl := List.forall_mem_cons.mpr ⟨lx_407, List.forall_mem_append.mpr ⟨List.forall_mem_cons.mpr ⟨lx_88, fun _ h => absurd h List.not_mem_nil⟩, inX5⟩⟩
theorem im_wsX8_manyAnswer : ∀ w ∈ wsX8_manyAnswer, w ∈ lw_tbl := List.forall_mem_cons.mpr ⟨lx_403, List.forall_mem_append.mpr ⟨List.forall_mem_append.mpr ⟨List.forall_mem_append.mpr ⟨List.forall_mem_append.mpr ⟨List.forall_mem_append.mpr ⟨List.forall_mem_append.mpr ⟨List.forall_mem_cons.mpr ⟨lx_368, List.forall_mem_cons.mpr ⟨lx_168, List.forall_mem_cons.mpr ⟨lx_369, List.forall_mem_cons.mpr ⟨lx_203, List.forall_mem_cons.mpr ⟨lx_205, List.forall_mem_cons.mpr ⟨lx_207, List.forall_mem_cons.mpr ⟨lx_373, List.forall_mem_cons.mpr ⟨lx_367, List.forall_mem_cons.mpr ⟨lx_134, List.forall_mem_cons.mpr ⟨lx_157, List.forall_mem_cons.mpr ⟨lx_164, List.forall_mem_cons.mpr ⟨lx_374, fun _ h => absurd h List.not_mem_nil⟩⟩⟩⟩⟩⟩⟩⟩⟩⟩⟩⟩, inX0⟩, inX5⟩, inX6⟩, inX7⟩, inX8⟩, List.forall_mem_append.mpr ⟨List.forall_mem_cons.mpr ⟨lx_404, List.forall_mem_cons.mpr ⟨lx_405, List.forall_mem_cons.mpr ⟨lx_406, List.forall_mem_cons.mpr ⟨lx_52, fun _ h => absurd h List.not_mem_nil⟩⟩⟩⟩, im_wsX5_sum⟩⟩⟩
theorem im_wsX8_many : ∀ w ∈ wsX8_many, w ∈ lw_tbl := List.forall_mem_cons.mpr ⟨lx_925, List.forall_mem_append.mpr ⟨List.forall_mem_append.mpr ⟨List.forall_mem_append.mpr ⟨List.forall_mem_append.mpr ⟨List.forall_mem_append.mpr ⟨List.forall_mem_append.mpr ⟨List.forall_mem_append.mpr ⟨fun _ h => absurd h List.not_mem_nil, inX0⟩, inX5⟩, inX6⟩, inX7⟩, inX8⟩, List.forall_mem_append.mpr ⟨List.forall_mem_cons.mpr ⟨lx_677, List.forall_mem_cons.mpr ⟨lx_678, List.forall_mem_cons.mpr ⟨lx_50, fun _ h => absurd h List.not_mem_nil⟩⟩⟩, im_wsX8_needRange⟩⟩, List.forall_mem_append.mpr ⟨List.forall_mem_cons.mpr ⟨lx_400, List.forall_mem_cons.mpr ⟨lx_402, List.forall_mem_cons.mpr ⟨lx_0, List.forall_mem_cons.mpr ⟨lx_50, fun _ h => absurd h List.not_mem_nil⟩⟩⟩⟩, im_wsX8_manyAnswer⟩⟩⟩
theorem im_wsL_many : ∀ w ∈ wsL_many, w ∈ lw_tbl := List.forall_mem_cons.mpr ⟨lx_921, List.forall_mem_append.mpr ⟨List.forall_mem_cons.mpr ⟨lx_601, fun _ h => absurd h List.not_mem_nil⟩, List.forall_mem_append.mpr ⟨List.forall_mem_cons.mpr ⟨lx_922, List.forall_mem_cons.mpr ⟨lx_923, List.forall_mem_cons.mpr ⟨lx_924, List.forall_mem_cons.mpr ⟨lx_50, fun _ h => absurd h List.not_mem_nil⟩⟩⟩⟩, im_wsX8_many⟩⟩⟩
set_option maxRecDepth 20000 in
theorem gl_L_many : GoodIn lw_tbl (va_wsS RL 170 yL_many wsL_many) := goodIn_sub (List.forall_mem_append.mpr ⟨List.forall_mem_cons.mpr ⟨lx_919, List.forall_mem_cons.mpr ⟨lx_920, List.forall_mem_cons.mpr ⟨lx_49, fun _ h => absurd h List.not_mem_nil⟩⟩⟩, im_wsL_many⟩) (by decide +kernel)
theorem lx_1190 : Cond.selects RX9 yX9_many yX9_many ∈ lw_tbl := List.mem_of_getElem? (i := 1190) (by decide +kernel)
theorem lx_1189 : Cond.instanceMethod yX9_many ∈ lw_tbl := List.mem_of_getElem? (i := 1189) (by decide +kernel)
theorem lx_1188 : Cond.methodLink RL 173 yX9_many ∈ lw_tbl := List.mem_of_getElem? (i := 1188) (by decide +kernel)
theorem lx_1191 : Cond.code yX9_many cX9_many 2 (some .int) ∈ lw_tbl := List.mem_of_getElem? (i := 1191) (by decide +kernel)
theorem lx_982 : Cond.fieldLink RX9 152 "TapCapModel" "refunded" "I" ∈ lw_tbl := List.mem_of_getElem? (i := 982) (by decide +kernel)
theorem lx_981 : Cond.fieldLink RX9 142 "TapCapModel" "charged" "I" ∈ lw_tbl := List.mem_of_getElem? (i := 981) (by decide +kernel)
theorem lx_979 : Cond.fieldLink RX9 132 "TapCapModel" "doubled" "I" ∈ lw_tbl := List.mem_of_getElem? (i := 979) (by decide +kernel)
theorem lx_978 : Cond.fieldLink RX9 125 "TapCapModel" "denied" "I" ∈ lw_tbl := List.mem_of_getElem? (i := 978) (by decide +kernel)
theorem lx_975 : Cond.fieldLink RX9 59 "TapCapModel" "tapCount" "I" ∈ lw_tbl := List.mem_of_getElem? (i := 975) (by decide +kernel)
theorem lx_1195 : Cond.code yX9_manyNow cX9_manyNow 4 (some .int) ∈ lw_tbl := List.mem_of_getElem? (i := 1195) (by decide +kernel)
theorem lx_47 : Cond.selects RX9 yX9_manyNow yX9_manyNow ∈ lw_tbl := List.mem_of_getElem? (i := 47) (by decide +kernel)
theorem lx_1194 : Cond.instanceMethod yX9_manyNow ∈ lw_tbl := List.mem_of_getElem? (i := 1194) (by decide +kernel)
theorem lx_1192 : Cond.methodLink RX9 166 yX9_manyNow ∈ lw_tbl := List.mem_of_getElem? (i := 1192) (by decide +kernel)
theorem im_wsX9_many : ∀ w ∈ wsX9_many, w ∈ lw_tbl := List.forall_mem_cons.mpr ⟨lx_1191, List.forall_mem_append.mpr ⟨List.forall_mem_cons.mpr ⟨lx_967, List.forall_mem_cons.mpr ⟨lx_1025, List.forall_mem_cons.mpr ⟨lx_1026, List.forall_mem_cons.mpr ⟨lx_59, List.forall_mem_cons.mpr ⟨lx_1027, List.forall_mem_cons.mpr ⟨lx_1028, List.forall_mem_cons.mpr ⟨lx_1030, List.forall_mem_cons.mpr ⟨lx_30, List.forall_mem_cons.mpr ⟨lx_1031, List.forall_mem_cons.mpr ⟨lx_1192, List.forall_mem_cons.mpr ⟨lx_1194, List.forall_mem_cons.mpr ⟨lx_47, List.forall_mem_cons.mpr ⟨lx_1195, List.forall_mem_cons.mpr ⟨lx_973, List.forall_mem_cons.mpr ⟨lx_972, List.forall_mem_cons.mpr ⟨lx_92, List.forall_mem_cons.mpr ⟨lx_975, List.forall_mem_cons.mpr ⟨lx_978, List.forall_mem_cons.mpr ⟨lx_979, List.forall_mem_cons.mpr ⟨lx_980, List.forall_mem_cons.mpr ⟨lx_971, List.forall_mem_cons.mpr ⟨lx_981, List.forall_mem_cons.mpr ⟨lx_982, fun _ h => absurd h List.not_mem_nil⟩⟩⟩⟩⟩⟩⟩⟩⟩⟩⟩⟩⟩⟩⟩⟩⟩⟩⟩⟩⟩⟩⟩, inX9⟩⟩
set_option maxRecDepth 20000 in
theorem gl_X9_many : GoodIn lw_tbl (wsV RL 173 RX9 yX9_many wsX9_many) := goodIn_sub (List.forall_mem_append.mpr ⟨List.forall_mem_cons.mpr ⟨lx_1188, List.forall_mem_cons.mpr ⟨lx_1189, List.forall_mem_cons.mpr ⟨lx_1190, List.forall_mem_cons.mpr ⟨lx_59, fun _ h => absurd h List.not_mem_nil⟩⟩⟩⟩, im_wsX9_many⟩) (by decide +kernel)
theorem lx_927 : Cond.static yL_meanFare ∈ lw_tbl := List.mem_of_getElem? (i := 927) (by decide +kernel)
theorem lx_926 : Cond.methodLink RL 174 yL_meanFare ∈ lw_tbl := List.mem_of_getElem? (i := 926) (by decide +kernel)
theorem lx_928 : Cond.codeWith yL_meanFare cL_meanFare 4 (some .int) [(0, 8, 11, 13)] ∈ lw_tbl := List.mem_of_getElem? (i := 928) (by decide +kernel)
theorem lx_931 : Cond.selects RX8 yX8_meanFare yX8_meanFare ∈ lw_tbl := List.mem_of_getElem? (i := 931) (by decide +kernel)
theorem lx_930 : Cond.instanceMethod yX8_meanFare ∈ lw_tbl := List.mem_of_getElem? (i := 930) (by decide +kernel)
theorem lx_929 : Cond.methodLink RL 83 yX8_meanFare ∈ lw_tbl := List.mem_of_getElem? (i := 929) (by decide +kernel)
theorem lx_932 : Cond.code yX8_meanFare cX8_meanFare 5 (some .double) ∈ lw_tbl := List.mem_of_getElem? (i := 932) (by decide +kernel)
theorem im_wsX8_meanFare : ∀ w ∈ wsX8_meanFare, w ∈ lw_tbl := List.forall_mem_cons.mpr ⟨lx_932, List.forall_mem_append.mpr ⟨List.forall_mem_append.mpr ⟨List.forall_mem_append.mpr ⟨List.forall_mem_append.mpr ⟨List.forall_mem_append.mpr ⟨List.forall_mem_append.mpr ⟨List.forall_mem_append.mpr ⟨List.forall_mem_append.mpr ⟨List.forall_mem_append.mpr ⟨List.forall_mem_append.mpr ⟨List.forall_mem_cons.mpr ⟨lx_368, List.forall_mem_cons.mpr ⟨lx_168, fun _ h => absurd h List.not_mem_nil⟩⟩, inX0⟩, inX1⟩, inX2⟩, inX3⟩, inX4⟩, inX5⟩, inX6⟩, inX7⟩, inX8⟩, List.forall_mem_append.mpr ⟨List.forall_mem_cons.mpr ⟨lx_606, List.forall_mem_cons.mpr ⟨lx_607, List.forall_mem_cons.mpr ⟨lx_50, fun _ h => absurd h List.not_mem_nil⟩⟩⟩, im_wsX8_needNumber⟩⟩⟩
theorem im_wsL_meanFare : ∀ w ∈ wsL_meanFare, w ∈ lw_tbl := List.forall_mem_cons.mpr ⟨lx_928, List.forall_mem_append.mpr ⟨List.forall_mem_cons.mpr ⟨lx_600, fun _ h => absurd h List.not_mem_nil⟩, List.forall_mem_append.mpr ⟨List.forall_mem_cons.mpr ⟨lx_929, List.forall_mem_cons.mpr ⟨lx_930, List.forall_mem_cons.mpr ⟨lx_931, List.forall_mem_cons.mpr ⟨lx_50, fun _ h => absurd h List.not_mem_nil⟩⟩⟩⟩, im_wsX8_meanFare⟩⟩⟩
set_option maxRecDepth 20000 in
theorem gl_L_meanFare : GoodIn lw_tbl (va_wsS RL 174 yL_meanFare wsL_meanFare) := goodIn_sub (List.forall_mem_append.mpr ⟨List.forall_mem_cons.mpr ⟨lx_926, List.forall_mem_cons.mpr ⟨lx_927, List.forall_mem_cons.mpr ⟨lx_49, fun _ h => absurd h List.not_mem_nil⟩⟩⟩, im_wsL_meanFare⟩) (by decide +kernel)
theorem lx_1198 : Cond.selects RX9 yX9_meanFare yX9_meanFare ∈ lw_tbl := List.mem_of_getElem? (i := 1198) (by decide +kernel)
theorem lx_1197 : Cond.instanceMethod yX9_meanFare ∈ lw_tbl := List.mem_of_getElem? (i := 1197) (by decide +kernel)
theorem lx_1196 : Cond.methodLink RL 177 yX9_meanFare ∈ lw_tbl := List.mem_of_getElem? (i := 1196) (by decide +kernel)
theorem lx_1199 : Cond.code yX9_meanFare cX9_meanFare 6 (some .double) ∈ lw_tbl := List.mem_of_getElem? (i := 1199) (by decide +kernel)
theorem im_wsX9_isDay : ∀ w ∈ wsX9_isDay, w ∈ lw_tbl := List.forall_mem_cons.mpr ⟨lx_1042, List.forall_mem_cons.mpr ⟨lx_1025, List.forall_mem_cons.mpr ⟨lx_1026, List.forall_mem_cons.mpr ⟨lx_59, List.forall_mem_cons.mpr ⟨lx_1027, fun _ h => absurd h List.not_mem_nil⟩⟩⟩⟩⟩
theorem im_wsX9_meanFare : ∀ w ∈ wsX9_meanFare, w ∈ lw_tbl := List.forall_mem_cons.mpr ⟨lx_1199, List.forall_mem_append.mpr ⟨List.forall_mem_append.mpr ⟨List.forall_mem_append.mpr ⟨List.forall_mem_cons.mpr ⟨lx_967, List.forall_mem_cons.mpr ⟨lx_973, fun _ h => absurd h List.not_mem_nil⟩⟩, inX9⟩, List.forall_mem_append.mpr ⟨List.forall_mem_cons.mpr ⟨lx_1040, List.forall_mem_cons.mpr ⟨lx_1041, List.forall_mem_cons.mpr ⟨lx_59, fun _ h => absurd h List.not_mem_nil⟩⟩⟩, im_wsX9_isDay⟩⟩, List.forall_mem_append.mpr ⟨List.forall_mem_cons.mpr ⟨lx_1028, List.forall_mem_cons.mpr ⟨lx_1030, List.forall_mem_cons.mpr ⟨lx_30, List.forall_mem_cons.mpr ⟨lx_59, fun _ h => absurd h List.not_mem_nil⟩⟩⟩⟩, im_wsX9_no⟩⟩⟩
set_option maxRecDepth 20000 in
theorem gl_X9_meanFare : GoodIn lw_tbl (wsV RL 177 RX9 yX9_meanFare wsX9_meanFare) := goodIn_sub (List.forall_mem_append.mpr ⟨List.forall_mem_cons.mpr ⟨lx_1196, List.forall_mem_cons.mpr ⟨lx_1197, List.forall_mem_cons.mpr ⟨lx_1198, List.forall_mem_cons.mpr ⟨lx_59, fun _ h => absurd h List.not_mem_nil⟩⟩⟩⟩, im_wsX9_meanFare⟩) (by decide +kernel)
theorem lx_934 : Cond.static yL_wouldCost ∈ lw_tbl := List.mem_of_getElem? (i := 934) (by decide +kernel)
theorem lx_933 : Cond.methodLink RL 178 yL_wouldCost ∈ lw_tbl := List.mem_of_getElem? (i := 933) (by decide +kernel)
theorem lx_935 : Cond.codeWith yL_wouldCost cL_wouldCost 9 (some .int) [(0, 18, 21, 13), (0, 18, 25, 15)] ∈ lw_tbl := List.mem_of_getElem? (i := 935) (by decide +kernel)
theorem lx_938 : Cond.selects RX8 yX8_wouldCost yX8_wouldCost ∈ lw_tbl := List.mem_of_getElem? (i := 938) (by decide +kernel)
theorem lx_937 : Cond.instanceMethod yX8_wouldCost ∈ lw_tbl := List.mem_of_getElem? (i := 937) (by decide +kernel)
theorem lx_936 : Cond.methodLink RL 87 yX8_wouldCost ∈ lw_tbl := List.mem_of_getElem? (i := 936) (by decide +kernel)
theorem lx_939 : Cond.code yX8_wouldCost cX8_wouldCost 10 (some .int) ∈ lw_tbl := List.mem_of_getElem? (i := 939) (by decide +kernel)
theorem im_wsX8_wouldCost : ∀ w ∈ wsX8_wouldCost, w ∈ lw_tbl := List.forall_mem_cons.mpr ⟨lx_939, List.forall_mem_append.mpr ⟨List.forall_mem_append.mpr ⟨List.forall_mem_append.mpr ⟨List.forall_mem_append.mpr ⟨List.forall_mem_append.mpr ⟨List.forall_mem_append.mpr ⟨List.forall_mem_append.mpr ⟨List.forall_mem_append.mpr ⟨List.forall_mem_append.mpr ⟨List.forall_mem_append.mpr ⟨fun _ h => absurd h List.not_mem_nil, inX0⟩, inX1⟩, inX2⟩, inX3⟩, inX4⟩, inX5⟩, inX6⟩, inX7⟩, inX8⟩, List.forall_mem_append.mpr ⟨List.forall_mem_cons.mpr ⟨lx_797, List.forall_mem_cons.mpr ⟨lx_799, List.forall_mem_cons.mpr ⟨lx_24, List.forall_mem_cons.mpr ⟨lx_50, fun _ h => absurd h List.not_mem_nil⟩⟩⟩⟩, im_wsX8_needTap⟩⟩⟩
theorem im_wsL_wouldCost : ∀ w ∈ wsL_wouldCost, w ∈ lw_tbl := List.forall_mem_cons.mpr ⟨lx_935, List.forall_mem_append.mpr ⟨List.forall_mem_cons.mpr ⟨lx_600, List.forall_mem_cons.mpr ⟨lx_601, fun _ h => absurd h List.not_mem_nil⟩⟩, List.forall_mem_append.mpr ⟨List.forall_mem_cons.mpr ⟨lx_936, List.forall_mem_cons.mpr ⟨lx_937, List.forall_mem_cons.mpr ⟨lx_938, List.forall_mem_cons.mpr ⟨lx_50, fun _ h => absurd h List.not_mem_nil⟩⟩⟩⟩, im_wsX8_wouldCost⟩⟩⟩
set_option maxRecDepth 20000 in
theorem gl_L_wouldCost : GoodIn lw_tbl (va_wsS RL 178 yL_wouldCost wsL_wouldCost) := goodIn_sub (List.forall_mem_append.mpr ⟨List.forall_mem_cons.mpr ⟨lx_933, List.forall_mem_cons.mpr ⟨lx_934, List.forall_mem_cons.mpr ⟨lx_49, fun _ h => absurd h List.not_mem_nil⟩⟩⟩, im_wsL_wouldCost⟩) (by decide +kernel)
theorem lx_1202 : Cond.selects RX9 yX9_wouldCost yX9_wouldCost ∈ lw_tbl := List.mem_of_getElem? (i := 1202) (by decide +kernel)
theorem lx_1201 : Cond.instanceMethod yX9_wouldCost ∈ lw_tbl := List.mem_of_getElem? (i := 1201) (by decide +kernel)
theorem lx_1200 : Cond.methodLink RL 180 yX9_wouldCost ∈ lw_tbl := List.mem_of_getElem? (i := 1200) (by decide +kernel)
theorem lx_1203 : Cond.code yX9_wouldCost cX9_wouldCost 10 (some .int) ∈ lw_tbl := List.mem_of_getElem? (i := 1203) (by decide +kernel)
theorem im_wsX9_wouldCost : ∀ w ∈ wsX9_wouldCost, w ∈ lw_tbl := List.forall_mem_cons.mpr ⟨lx_1203, List.forall_mem_append.mpr ⟨List.forall_mem_append.mpr ⟨List.forall_mem_append.mpr ⟨List.forall_mem_cons.mpr ⟨lx_967, fun _ h => absurd h List.not_mem_nil⟩, inX9⟩, List.forall_mem_append.mpr ⟨List.forall_mem_cons.mpr ⟨lx_1078, List.forall_mem_cons.mpr ⟨lx_1080, List.forall_mem_cons.mpr ⟨lx_33, List.forall_mem_cons.mpr ⟨lx_59, fun _ h => absurd h List.not_mem_nil⟩⟩⟩⟩, im_wsX9_isPlace⟩⟩, List.forall_mem_append.mpr ⟨List.forall_mem_cons.mpr ⟨lx_1028, List.forall_mem_cons.mpr ⟨lx_1030, List.forall_mem_cons.mpr ⟨lx_30, List.forall_mem_cons.mpr ⟨lx_59, fun _ h => absurd h List.not_mem_nil⟩⟩⟩⟩, im_wsX9_no⟩⟩⟩
set_option maxRecDepth 20000 in
theorem gl_X9_wouldCost : GoodIn lw_tbl (wsV RL 180 RX9 yX9_wouldCost wsX9_wouldCost) := goodIn_sub (List.forall_mem_append.mpr ⟨List.forall_mem_cons.mpr ⟨lx_1200, List.forall_mem_cons.mpr ⟨lx_1201, List.forall_mem_cons.mpr ⟨lx_1202, List.forall_mem_cons.mpr ⟨lx_59, fun _ h => absurd h List.not_mem_nil⟩⟩⟩⟩, im_wsX9_wouldCost⟩) (by decide +kernel)
theorem lx_945 : Cond.static yL_guess ∈ lw_tbl := List.mem_of_getElem? (i := 945) (by decide +kernel)
theorem lx_944 : Cond.methodLink RL 181 yL_guess ∈ lw_tbl := List.mem_of_getElem? (i := 944) (by decide +kernel)
theorem lx_946 : Cond.codeWith yL_guess cL_guess 7 (some .int) [(0, 14, 17, 13)] ∈ lw_tbl := List.mem_of_getElem? (i := 946) (by decide +kernel)
theorem lx_949 : Cond.selects RX8 yX8_guess yX8_guess ∈ lw_tbl := List.mem_of_getElem? (i := 949) (by decide +kernel)
theorem lx_948 : Cond.instanceMethod yX8_guess ∈ lw_tbl := List.mem_of_getElem? (i := 948) (by decide +kernel)
theorem lx_947 : Cond.methodLink RL 90 yX8_guess ∈ lw_tbl := List.mem_of_getElem? (i := 947) (by decide +kernel)
theorem lx_950 : Cond.code yX8_guess cX8_guess 5 (some .int) ∈ lw_tbl := List.mem_of_getElem? (i := 950) (by decide +kernel)
theorem im_wsX8_guess : ∀ w ∈ wsX8_guess, w ∈ lw_tbl := List.forall_mem_cons.mpr ⟨lx_950, List.forall_mem_append.mpr ⟨List.forall_mem_append.mpr ⟨List.forall_mem_append.mpr ⟨List.forall_mem_append.mpr ⟨List.forall_mem_append.mpr ⟨List.forall_mem_append.mpr ⟨List.forall_mem_append.mpr ⟨List.forall_mem_append.mpr ⟨List.forall_mem_append.mpr ⟨List.forall_mem_append.mpr ⟨fun _ h => absurd h List.not_mem_nil, inX0⟩, inX1⟩, inX2⟩, inX3⟩, inX4⟩, inX5⟩, inX6⟩, inX7⟩, inX8⟩, List.forall_mem_append.mpr ⟨List.forall_mem_cons.mpr ⟨lx_753, List.forall_mem_cons.mpr ⟨lx_755, List.forall_mem_cons.mpr ⟨lx_23, List.forall_mem_cons.mpr ⟨lx_50, fun _ h => absurd h List.not_mem_nil⟩⟩⟩⟩, im_wsX8_needPerson⟩⟩⟩
theorem im_wsL_guess : ∀ w ∈ wsL_guess, w ∈ lw_tbl := List.forall_mem_cons.mpr ⟨lx_946, List.forall_mem_append.mpr ⟨List.forall_mem_cons.mpr ⟨lx_600, fun _ h => absurd h List.not_mem_nil⟩, List.forall_mem_append.mpr ⟨List.forall_mem_cons.mpr ⟨lx_947, List.forall_mem_cons.mpr ⟨lx_948, List.forall_mem_cons.mpr ⟨lx_949, List.forall_mem_cons.mpr ⟨lx_50, fun _ h => absurd h List.not_mem_nil⟩⟩⟩⟩, im_wsX8_guess⟩⟩⟩
set_option maxRecDepth 20000 in
theorem gl_L_guess : GoodIn lw_tbl (va_wsS RL 181 yL_guess wsL_guess) := goodIn_sub (List.forall_mem_append.mpr ⟨List.forall_mem_cons.mpr ⟨lx_944, List.forall_mem_cons.mpr ⟨lx_945, List.forall_mem_cons.mpr ⟨lx_49, fun _ h => absurd h List.not_mem_nil⟩⟩⟩, im_wsL_guess⟩) (by decide +kernel)
theorem lx_1206 : Cond.selects RX9 yX9_guess_ yX9_guess_ ∈ lw_tbl := List.mem_of_getElem? (i := 1206) (by decide +kernel)
theorem lx_1205 : Cond.instanceMethod yX9_guess_ ∈ lw_tbl := List.mem_of_getElem? (i := 1205) (by decide +kernel)
theorem lx_1204 : Cond.methodLink RL 184 yX9_guess_ ∈ lw_tbl := List.mem_of_getElem? (i := 1204) (by decide +kernel)
theorem lx_1207 : Cond.code yX9_guess_ cX9_guess_ 5 (some .int) ∈ lw_tbl := List.mem_of_getElem? (i := 1207) (by decide +kernel)
theorem im_wsX9_guess_ : ∀ w ∈ wsX9_guess_, w ∈ lw_tbl := List.forall_mem_cons.mpr ⟨lx_1207, List.forall_mem_append.mpr ⟨List.forall_mem_append.mpr ⟨List.forall_mem_append.mpr ⟨List.forall_mem_cons.mpr ⟨lx_967, fun _ h => absurd h List.not_mem_nil⟩, inX9⟩, List.forall_mem_append.mpr ⟨List.forall_mem_cons.mpr ⟨lx_1058, List.forall_mem_cons.mpr ⟨lx_1060, List.forall_mem_cons.mpr ⟨lx_32, List.forall_mem_cons.mpr ⟨lx_59, fun _ h => absurd h List.not_mem_nil⟩⟩⟩⟩, im_wsX9_isPerson⟩⟩, List.forall_mem_append.mpr ⟨List.forall_mem_cons.mpr ⟨lx_1028, List.forall_mem_cons.mpr ⟨lx_1030, List.forall_mem_cons.mpr ⟨lx_30, List.forall_mem_cons.mpr ⟨lx_59, fun _ h => absurd h List.not_mem_nil⟩⟩⟩⟩, im_wsX9_no⟩⟩⟩
set_option maxRecDepth 20000 in
theorem gl_X9_guess_ : GoodIn lw_tbl (wsV RL 184 RX9 yX9_guess_ wsX9_guess_) := goodIn_sub (List.forall_mem_append.mpr ⟨List.forall_mem_cons.mpr ⟨lx_1204, List.forall_mem_cons.mpr ⟨lx_1205, List.forall_mem_cons.mpr ⟨lx_1206, List.forall_mem_cons.mpr ⟨lx_59, fun _ h => absurd h List.not_mem_nil⟩⟩⟩⟩, im_wsX9_guess_⟩) (by decide +kernel)
theorem lx_952 : Cond.static yL_worth ∈ lw_tbl := List.mem_of_getElem? (i := 952) (by decide +kernel)
theorem lx_951 : Cond.methodLink RL 185 yL_worth ∈ lw_tbl := List.mem_of_getElem? (i := 951) (by decide +kernel)
theorem lx_953 : Cond.codeWith yL_worth cL_worth 6 (some .int) [(0, 12, 15, 13), (0, 12, 19, 15)] ∈ lw_tbl := List.mem_of_getElem? (i := 953) (by decide +kernel)
theorem lx_956 : Cond.selects RX8 yX8_worth yX8_worth ∈ lw_tbl := List.mem_of_getElem? (i := 956) (by decide +kernel)
theorem lx_955 : Cond.instanceMethod yX8_worth ∈ lw_tbl := List.mem_of_getElem? (i := 955) (by decide +kernel)
theorem lx_954 : Cond.methodLink RL 94 yX8_worth ∈ lw_tbl := List.mem_of_getElem? (i := 954) (by decide +kernel)
theorem lx_957 : Cond.code yX8_worth cX8_worth 4 (some .int) ∈ lw_tbl := List.mem_of_getElem? (i := 957) (by decide +kernel)
theorem im_wsX8_worth : ∀ w ∈ wsX8_worth, w ∈ lw_tbl := List.forall_mem_cons.mpr ⟨lx_957, List.forall_mem_append.mpr ⟨List.forall_mem_append.mpr ⟨List.forall_mem_append.mpr ⟨List.forall_mem_append.mpr ⟨List.forall_mem_append.mpr ⟨List.forall_mem_append.mpr ⟨List.forall_mem_append.mpr ⟨List.forall_mem_append.mpr ⟨List.forall_mem_append.mpr ⟨List.forall_mem_append.mpr ⟨fun _ h => absurd h List.not_mem_nil, inX0⟩, inX1⟩, inX2⟩, inX3⟩, inX4⟩, inX5⟩, inX6⟩, inX7⟩, inX8⟩, List.forall_mem_append.mpr ⟨List.forall_mem_cons.mpr ⟨lx_753, List.forall_mem_cons.mpr ⟨lx_755, List.forall_mem_cons.mpr ⟨lx_23, List.forall_mem_cons.mpr ⟨lx_50, fun _ h => absurd h List.not_mem_nil⟩⟩⟩⟩, im_wsX8_needPerson⟩⟩⟩
theorem im_wsL_worth : ∀ w ∈ wsL_worth, w ∈ lw_tbl := List.forall_mem_cons.mpr ⟨lx_953, List.forall_mem_append.mpr ⟨List.forall_mem_cons.mpr ⟨lx_600, List.forall_mem_cons.mpr ⟨lx_601, fun _ h => absurd h List.not_mem_nil⟩⟩, List.forall_mem_append.mpr ⟨List.forall_mem_cons.mpr ⟨lx_954, List.forall_mem_cons.mpr ⟨lx_955, List.forall_mem_cons.mpr ⟨lx_956, List.forall_mem_cons.mpr ⟨lx_50, fun _ h => absurd h List.not_mem_nil⟩⟩⟩⟩, im_wsX8_worth⟩⟩⟩
set_option maxRecDepth 20000 in
theorem gl_L_worth : GoodIn lw_tbl (va_wsS RL 185 yL_worth wsL_worth) := goodIn_sub (List.forall_mem_append.mpr ⟨List.forall_mem_cons.mpr ⟨lx_951, List.forall_mem_cons.mpr ⟨lx_952, List.forall_mem_cons.mpr ⟨lx_49, fun _ h => absurd h List.not_mem_nil⟩⟩⟩, im_wsL_worth⟩) (by decide +kernel)
theorem lx_1210 : Cond.selects RX9 yX9_worth yX9_worth ∈ lw_tbl := List.mem_of_getElem? (i := 1210) (by decide +kernel)
theorem lx_1209 : Cond.instanceMethod yX9_worth ∈ lw_tbl := List.mem_of_getElem? (i := 1209) (by decide +kernel)
theorem lx_1208 : Cond.methodLink RL 187 yX9_worth ∈ lw_tbl := List.mem_of_getElem? (i := 1208) (by decide +kernel)
theorem lx_1211 : Cond.code yX9_worth cX9_worth 4 (some .int) ∈ lw_tbl := List.mem_of_getElem? (i := 1211) (by decide +kernel)
theorem im_wsX9_worth : ∀ w ∈ wsX9_worth, w ∈ lw_tbl := List.forall_mem_cons.mpr ⟨lx_1211, List.forall_mem_append.mpr ⟨List.forall_mem_append.mpr ⟨List.forall_mem_append.mpr ⟨List.forall_mem_cons.mpr ⟨lx_967, fun _ h => absurd h List.not_mem_nil⟩, inX9⟩, List.forall_mem_append.mpr ⟨List.forall_mem_cons.mpr ⟨lx_1058, List.forall_mem_cons.mpr ⟨lx_1060, List.forall_mem_cons.mpr ⟨lx_32, List.forall_mem_cons.mpr ⟨lx_59, fun _ h => absurd h List.not_mem_nil⟩⟩⟩⟩, im_wsX9_isPerson⟩⟩, List.forall_mem_append.mpr ⟨List.forall_mem_cons.mpr ⟨lx_1028, List.forall_mem_cons.mpr ⟨lx_1030, List.forall_mem_cons.mpr ⟨lx_30, List.forall_mem_cons.mpr ⟨lx_59, fun _ h => absurd h List.not_mem_nil⟩⟩⟩⟩, im_wsX9_no⟩⟩⟩
set_option maxRecDepth 20000 in
theorem gl_X9_worth : GoodIn lw_tbl (wsV RL 187 RX9 yX9_worth wsX9_worth) := goodIn_sub (List.forall_mem_append.mpr ⟨List.forall_mem_cons.mpr ⟨lx_1208, List.forall_mem_cons.mpr ⟨lx_1209, List.forall_mem_cons.mpr ⟨lx_1210, List.forall_mem_cons.mpr ⟨lx_59, fun _ h => absurd h List.not_mem_nil⟩⟩⟩⟩, im_wsX9_worth⟩) (by decide +kernel)
theorem lx_1019 : Cond.selects RX9 yX9_thrown yX9_thrown ∈ lw_tbl := List.mem_of_getElem? (i := 1019) (by decide +kernel)
theorem lx_1018 : Cond.instanceMethod yX9_thrown ∈ lw_tbl := List.mem_of_getElem? (i := 1018) (by decide +kernel)
theorem lx_1017 : Cond.methodLink RL 107 yX9_thrown ∈ lw_tbl := List.mem_of_getElem? (i := 1017) (by decide +kernel)
theorem lx_1020 : Cond.code yX9_thrown cX9_thrown 1 (some .int) ∈ lw_tbl := List.mem_of_getElem? (i := 1020) (by decide +kernel)
theorem im_wsX9_thrown : ∀ w ∈ wsX9_thrown, w ∈ lw_tbl := List.forall_mem_cons.mpr ⟨lx_1020, List.forall_mem_append.mpr ⟨List.forall_mem_cons.mpr ⟨lx_967, fun _ h => absurd h List.not_mem_nil⟩, inX9⟩⟩
set_option maxRecDepth 20000 in
theorem gl_X9_thrown : GoodIn lw_tbl (wsV RL 107 RX9 yX9_thrown wsX9_thrown) := goodIn_sub (List.forall_mem_append.mpr ⟨List.forall_mem_cons.mpr ⟨lx_1017, List.forall_mem_cons.mpr ⟨lx_1018, List.forall_mem_cons.mpr ⟨lx_1019, List.forall_mem_cons.mpr ⟨lx_59, fun _ h => absurd h List.not_mem_nil⟩⟩⟩⟩, im_wsX9_thrown⟩) (by decide +kernel)
theorem lx_1214 : Cond.selects RX9 yX9_digest yX9_digest ∈ lw_tbl := List.mem_of_getElem? (i := 1214) (by decide +kernel)
theorem lx_1213 : Cond.instanceMethod yX9_digest ∈ lw_tbl := List.mem_of_getElem? (i := 1213) (by decide +kernel)
theorem lx_1212 : Cond.methodLink RL 192 yX9_digest ∈ lw_tbl := List.mem_of_getElem? (i := 1212) (by decide +kernel)
theorem lx_1215 : Cond.code yX9_digest cX9_digest 5 (some .long) ∈ lw_tbl := List.mem_of_getElem? (i := 1215) (by decide +kernel)
theorem lx_1217 : Cond.constantLong RX9 171 (31) ∈ lw_tbl := List.mem_of_getElem? (i := 1217) (by decide +kernel)
theorem lx_1216 : Cond.constantLong RX9 169 (4806) ∈ lw_tbl := List.mem_of_getElem? (i := 1216) (by decide +kernel)
theorem im_wsX9_manyNow : ∀ w ∈ wsX9_manyNow, w ∈ lw_tbl := List.forall_mem_cons.mpr ⟨lx_1195, List.forall_mem_append.mpr ⟨List.forall_mem_cons.mpr ⟨lx_973, List.forall_mem_cons.mpr ⟨lx_972, List.forall_mem_cons.mpr ⟨lx_92, List.forall_mem_cons.mpr ⟨lx_975, List.forall_mem_cons.mpr ⟨lx_978, List.forall_mem_cons.mpr ⟨lx_979, List.forall_mem_cons.mpr ⟨lx_980, List.forall_mem_cons.mpr ⟨lx_971, List.forall_mem_cons.mpr ⟨lx_981, List.forall_mem_cons.mpr ⟨lx_982, fun _ h => absurd h List.not_mem_nil⟩⟩⟩⟩⟩⟩⟩⟩⟩⟩, inX9⟩⟩
theorem im_wsX9_digest : ∀ w ∈ wsX9_digest, w ∈ lw_tbl := List.forall_mem_cons.mpr ⟨lx_1215, List.forall_mem_append.mpr ⟨List.forall_mem_append.mpr ⟨List.forall_mem_cons.mpr ⟨lx_967, List.forall_mem_cons.mpr ⟨lx_1216, List.forall_mem_cons.mpr ⟨lx_1217, List.forall_mem_cons.mpr ⟨lx_973, fun _ h => absurd h List.not_mem_nil⟩⟩⟩⟩, inX9⟩, List.forall_mem_append.mpr ⟨List.forall_mem_cons.mpr ⟨lx_1192, List.forall_mem_cons.mpr ⟨lx_1194, List.forall_mem_cons.mpr ⟨lx_47, List.forall_mem_cons.mpr ⟨lx_59, fun _ h => absurd h List.not_mem_nil⟩⟩⟩⟩, im_wsX9_manyNow⟩⟩⟩
set_option maxRecDepth 20000 in
theorem gl_X9_digest : GoodIn lw_tbl (wsV RL 192 RX9 yX9_digest wsX9_digest) := goodIn_sub (List.forall_mem_append.mpr ⟨List.forall_mem_cons.mpr ⟨lx_1212, List.forall_mem_cons.mpr ⟨lx_1213, List.forall_mem_cons.mpr ⟨lx_1214, List.forall_mem_cons.mpr ⟨lx_59, fun _ h => absurd h List.not_mem_nil⟩⟩⟩⟩, im_wsX9_digest⟩) (by decide +kernel)
theorem lx_396 : Cond.selects RX8 yX8_digest yX8_digest ∈ lw_tbl := List.mem_of_getElem? (i := 396) (by decide +kernel)
theorem lx_395 : Cond.instanceMethod yX8_digest ∈ lw_tbl := List.mem_of_getElem? (i := 395) (by decide +kernel)
theorem lx_394 : Cond.methodLink RL 188 yX8_digest ∈ lw_tbl := List.mem_of_getElem? (i := 394) (by decide +kernel)
theorem lx_397 : Cond.code yX8_digest cX8_digest 5 (some .long) ∈ lw_tbl := List.mem_of_getElem? (i := 397) (by decide +kernel)
theorem lx_399 : Cond.constantLong RX8 240 (31) ∈ lw_tbl := List.mem_of_getElem? (i := 399) (by decide +kernel)
theorem lx_398 : Cond.constantLong RX8 238 (4806) ∈ lw_tbl := List.mem_of_getElem? (i := 398) (by decide +kernel)
theorem im_wsX8_digest : ∀ w ∈ wsX8_digest, w ∈ lw_tbl := List.forall_mem_cons.mpr ⟨lx_397, List.forall_mem_append.mpr ⟨List.forall_mem_append.mpr ⟨List.forall_mem_append.mpr ⟨List.forall_mem_append.mpr ⟨List.forall_mem_append.mpr ⟨List.forall_mem_append.mpr ⟨List.forall_mem_append.mpr ⟨List.forall_mem_append.mpr ⟨List.forall_mem_append.mpr ⟨List.forall_mem_append.mpr ⟨List.forall_mem_cons.mpr ⟨lx_398, List.forall_mem_cons.mpr ⟨lx_399, List.forall_mem_cons.mpr ⟨lx_368, List.forall_mem_cons.mpr ⟨lx_168, fun _ h => absurd h List.not_mem_nil⟩⟩⟩⟩, inX0⟩, inX1⟩, inX2⟩, inX3⟩, inX4⟩, inX5⟩, inX6⟩, inX7⟩, inX8⟩, List.forall_mem_append.mpr ⟨List.forall_mem_cons.mpr ⟨lx_400, List.forall_mem_cons.mpr ⟨lx_402, List.forall_mem_cons.mpr ⟨lx_0, List.forall_mem_cons.mpr ⟨lx_50, fun _ h => absurd h List.not_mem_nil⟩⟩⟩⟩, im_wsX8_manyAnswer⟩⟩⟩
set_option maxRecDepth 20000 in
theorem gl_X8_digest : GoodIn lw_tbl (wsV RL 188 RX8 yX8_digest wsX8_digest) := goodIn_sub (List.forall_mem_append.mpr ⟨List.forall_mem_cons.mpr ⟨lx_394, List.forall_mem_cons.mpr ⟨lx_395, List.forall_mem_cons.mpr ⟨lx_396, List.forall_mem_cons.mpr ⟨lx_50, fun _ h => absurd h List.not_mem_nil⟩⟩⟩⟩, im_wsX8_digest⟩) (by decide +kernel)
