def wsX9_init : List Cond := .code yX9_init cX9_init 3 none :: ([.methodLink RX9 1 objectInit, .instanceMethod objectInit, .code objectInit ⟨#[0xb1]⟩ 1 none, .classLink RX9 7 RX8, .instantiable RX8 9, .initialized RX8, .methodLink RX9 9 yX8_init, .instanceMethod yX8_init, .fieldLink RX9 10 "TapCapLaw$Told" "m" "LTapCap;", .arrayClass .int, .fieldLink RX9 16 "TapCapLaw$Told" "zones" "[I", .fieldLink RX9 20 "TapCapLaw$Told" "carriers" "[I", .classLink RX9 23 "[I", .fieldLink RX9 24 "TapCapLaw$Told" "tariffs" "[[I", .fieldLink RX9 28 "TapCapLaw$Told" "person" "[I", .fieldLink RX9 31 "TapCapLaw$Told" "taps" "[[I", .fieldLink RX9 34 "TapCapLaw$Told" "s" "[I", .fieldLink RX9 37 "TapCapLaw$Told" "draws" "I"] ++ wsX80 ++ wsX90 ++ (wsX8_init))
def wsX9_found : List Cond := .code yX9_found cX9_found 3 (some .boolean) :: ([.fieldLink RX9 10 "TapCapLaw$Told" "m" "LTapCap;", .fieldLink RX9 87 "TapCapLaw$Told" "cards" "I"] ++ wsX90 ++ (wsV RX9 83 RX8 yX8_card wsX8_card) ++ (wsV RX9 76 RX9 yX9_draw wsX9_draw) ++ (wsV RX9 90 RX9 yX9_zone wsX9_zone) ++ (wsV RX9 93 RX9 yX9_tariff wsX9_tariff) ++ (wsV RX9 96 RX9 yX9_trip wsX9_trip))
set_option maxRecDepth 20000 in
theorem gX9_init_X8_init : GoodIn wsX9_init (wsX8_init) := goodIn_sub (fun w h => List.mem_cons_of_mem _ (List.mem_append_right _ h)) (by decide +kernel)
theorem dX9_init_0 : decode cX9_init 0 = .ok (.aload_n 0, 1) := by decide +kernel
theorem dX9_init_1 : decode cX9_init 1 = .ok (.invokespecial 1, 3) := by decide +kernel
theorem dX9_init_4 : decode cX9_init 4 = .ok (.aload_n 0, 1) := by decide +kernel
theorem dX9_init_5 : decode cX9_init 5 = .ok (.new 7, 3) := by decide +kernel
theorem dX9_init_8 : decode cX9_init 8 = .ok (.dup, 1) := by decide +kernel
theorem dX9_init_9 : decode cX9_init 9 = .ok (.invokespecial 9, 3) := by decide +kernel
theorem dX9_init_12 : decode cX9_init 12 = .ok (.putfield 10, 3) := by decide +kernel
theorem dX9_init_15 : decode cX9_init 15 = .ok (.aload_n 0, 1) := by decide +kernel
theorem dX9_init_16 : decode cX9_init 16 = .ok (.bipush 10, 2) := by decide +kernel
theorem dX9_init_18 : decode cX9_init 18 = .ok (.newarray .int, 2) := by decide +kernel
theorem dX9_init_20 : decode cX9_init 20 = .ok (.dup, 1) := by decide +kernel
theorem dX9_init_21 : decode cX9_init 21 = .ok (.iconst 0, 1) := by decide +kernel
theorem dX9_init_22 : decode cX9_init 22 = .ok (.iconst 1, 1) := by decide +kernel
theorem dX9_init_23 : decode cX9_init 23 = .ok (.iastore, 1) := by decide +kernel
theorem dX9_init_24 : decode cX9_init 24 = .ok (.dup, 1) := by decide +kernel
theorem dX9_init_25 : decode cX9_init 25 = .ok (.iconst 1, 1) := by decide +kernel
theorem dX9_init_26 : decode cX9_init 26 = .ok (.iconst 1, 1) := by decide +kernel
theorem dX9_init_27 : decode cX9_init 27 = .ok (.iastore, 1) := by decide +kernel
theorem dX9_init_28 : decode cX9_init 28 = .ok (.dup, 1) := by decide +kernel
theorem dX9_init_29 : decode cX9_init 29 = .ok (.iconst 2, 1) := by decide +kernel
theorem dX9_init_30 : decode cX9_init 30 = .ok (.iconst 1, 1) := by decide +kernel
theorem dX9_init_31 : decode cX9_init 31 = .ok (.iastore, 1) := by decide +kernel
theorem dX9_init_32 : decode cX9_init 32 = .ok (.dup, 1) := by decide +kernel
theorem dX9_init_33 : decode cX9_init 33 = .ok (.iconst 3, 1) := by decide +kernel
theorem dX9_init_34 : decode cX9_init 34 = .ok (.iconst 1, 1) := by decide +kernel
theorem dX9_init_35 : decode cX9_init 35 = .ok (.iastore, 1) := by decide +kernel
theorem dX9_init_36 : decode cX9_init 36 = .ok (.dup, 1) := by decide +kernel
theorem dX9_init_37 : decode cX9_init 37 = .ok (.iconst 4, 1) := by decide +kernel
theorem dX9_init_38 : decode cX9_init 38 = .ok (.iconst 1, 1) := by decide +kernel
theorem dX9_init_39 : decode cX9_init 39 = .ok (.iastore, 1) := by decide +kernel
theorem dX9_init_40 : decode cX9_init 40 = .ok (.dup, 1) := by decide +kernel
theorem dX9_init_41 : decode cX9_init 41 = .ok (.iconst 5, 1) := by decide +kernel
theorem dX9_init_42 : decode cX9_init 42 = .ok (.iconst 1, 1) := by decide +kernel
theorem dX9_init_43 : decode cX9_init 43 = .ok (.iastore, 1) := by decide +kernel
theorem dX9_init_44 : decode cX9_init 44 = .ok (.dup, 1) := by decide +kernel
theorem dX9_init_45 : decode cX9_init 45 = .ok (.bipush 6, 2) := by decide +kernel
theorem dX9_init_47 : decode cX9_init 47 = .ok (.iconst 1, 1) := by decide +kernel
theorem dX9_init_48 : decode cX9_init 48 = .ok (.iastore, 1) := by decide +kernel
theorem dX9_init_49 : decode cX9_init 49 = .ok (.dup, 1) := by decide +kernel
theorem dX9_init_50 : decode cX9_init 50 = .ok (.bipush 7, 2) := by decide +kernel
theorem dX9_init_52 : decode cX9_init 52 = .ok (.iconst 1, 1) := by decide +kernel
theorem dX9_init_53 : decode cX9_init 53 = .ok (.iastore, 1) := by decide +kernel
theorem dX9_init_54 : decode cX9_init 54 = .ok (.dup, 1) := by decide +kernel
theorem dX9_init_55 : decode cX9_init 55 = .ok (.bipush 8, 2) := by decide +kernel
theorem dX9_init_57 : decode cX9_init 57 = .ok (.iconst 1, 1) := by decide +kernel
theorem dX9_init_58 : decode cX9_init 58 = .ok (.iastore, 1) := by decide +kernel
theorem dX9_init_59 : decode cX9_init 59 = .ok (.dup, 1) := by decide +kernel
theorem dX9_init_60 : decode cX9_init 60 = .ok (.bipush 9, 2) := by decide +kernel
theorem dX9_init_62 : decode cX9_init 62 = .ok (.iconst 1, 1) := by decide +kernel
theorem dX9_init_63 : decode cX9_init 63 = .ok (.iastore, 1) := by decide +kernel
theorem dX9_init_64 : decode cX9_init 64 = .ok (.putfield 16, 3) := by decide +kernel
theorem dX9_init_67 : decode cX9_init 67 = .ok (.aload_n 0, 1) := by decide +kernel
theorem dX9_init_68 : decode cX9_init 68 = .ok (.bipush 6, 2) := by decide +kernel
theorem dX9_init_70 : decode cX9_init 70 = .ok (.newarray .int, 2) := by decide +kernel
theorem dX9_init_72 : decode cX9_init 72 = .ok (.putfield 20, 3) := by decide +kernel
theorem dX9_init_75 : decode cX9_init 75 = .ok (.aload_n 0, 1) := by decide +kernel
theorem dX9_init_76 : decode cX9_init 76 = .ok (.iconst 1, 1) := by decide +kernel
theorem dX9_init_77 : decode cX9_init 77 = .ok (.anewarray 23, 3) := by decide +kernel
theorem dX9_init_80 : decode cX9_init 80 = .ok (.dup, 1) := by decide +kernel
theorem dX9_init_81 : decode cX9_init 81 = .ok (.iconst 0, 1) := by decide +kernel
theorem dX9_init_82 : decode cX9_init 82 = .ok (.iconst 5, 1) := by decide +kernel
theorem dX9_init_83 : decode cX9_init 83 = .ok (.newarray .int, 2) := by decide +kernel
theorem dX9_init_85 : decode cX9_init 85 = .ok (.dup, 1) := by decide +kernel
theorem dX9_init_86 : decode cX9_init 86 = .ok (.iconst 0, 1) := by decide +kernel
theorem dX9_init_87 : decode cX9_init 87 = .ok (.iconst 0, 1) := by decide +kernel
theorem dX9_init_88 : decode cX9_init 88 = .ok (.iastore, 1) := by decide +kernel
theorem dX9_init_89 : decode cX9_init 89 = .ok (.dup, 1) := by decide +kernel
theorem dX9_init_90 : decode cX9_init 90 = .ok (.iconst 1, 1) := by decide +kernel
theorem dX9_init_91 : decode cX9_init 91 = .ok (.iconst 2, 1) := by decide +kernel
theorem dX9_init_92 : decode cX9_init 92 = .ok (.iastore, 1) := by decide +kernel
theorem dX9_init_93 : decode cX9_init 93 = .ok (.dup, 1) := by decide +kernel
theorem dX9_init_94 : decode cX9_init 94 = .ok (.iconst 2, 1) := by decide +kernel
theorem dX9_init_95 : decode cX9_init 95 = .ok (.iconst 1, 1) := by decide +kernel
theorem dX9_init_96 : decode cX9_init 96 = .ok (.iastore, 1) := by decide +kernel
theorem dX9_init_97 : decode cX9_init 97 = .ok (.dup, 1) := by decide +kernel
theorem dX9_init_98 : decode cX9_init 98 = .ok (.iconst 3, 1) := by decide +kernel
theorem dX9_init_99 : decode cX9_init 99 = .ok (.iconst 5, 1) := by decide +kernel
theorem dX9_init_100 : decode cX9_init 100 = .ok (.iastore, 1) := by decide +kernel
theorem dX9_init_101 : decode cX9_init 101 = .ok (.dup, 1) := by decide +kernel
theorem dX9_init_102 : decode cX9_init 102 = .ok (.iconst 4, 1) := by decide +kernel
theorem dX9_init_103 : decode cX9_init 103 = .ok (.bipush 20, 2) := by decide +kernel
theorem dX9_init_105 : decode cX9_init 105 = .ok (.iastore, 1) := by decide +kernel
theorem dX9_init_106 : decode cX9_init 106 = .ok (.aastore, 1) := by decide +kernel
theorem dX9_init_107 : decode cX9_init 107 = .ok (.putfield 24, 3) := by decide +kernel
theorem dX9_init_110 : decode cX9_init 110 = .ok (.aload_n 0, 1) := by decide +kernel
theorem dX9_init_111 : decode cX9_init 111 = .ok (.iconst 4, 1) := by decide +kernel
theorem dX9_init_112 : decode cX9_init 112 = .ok (.newarray .int, 2) := by decide +kernel
theorem dX9_init_114 : decode cX9_init 114 = .ok (.dup, 1) := by decide +kernel
theorem dX9_init_115 : decode cX9_init 115 = .ok (.iconst 0, 1) := by decide +kernel
theorem dX9_init_116 : decode cX9_init 116 = .ok (.iconst 0, 1) := by decide +kernel
theorem dX9_init_117 : decode cX9_init 117 = .ok (.iastore, 1) := by decide +kernel
theorem dX9_init_118 : decode cX9_init 118 = .ok (.dup, 1) := by decide +kernel
theorem dX9_init_119 : decode cX9_init 119 = .ok (.iconst 1, 1) := by decide +kernel
theorem dX9_init_120 : decode cX9_init 120 = .ok (.iconst 1, 1) := by decide +kernel
theorem dX9_init_121 : decode cX9_init 121 = .ok (.iastore, 1) := by decide +kernel
theorem dX9_init_122 : decode cX9_init 122 = .ok (.dup, 1) := by decide +kernel
theorem dX9_init_123 : decode cX9_init 123 = .ok (.iconst 2, 1) := by decide +kernel
theorem dX9_init_124 : decode cX9_init 124 = .ok (.iconst 2, 1) := by decide +kernel
theorem dX9_init_125 : decode cX9_init 125 = .ok (.iastore, 1) := by decide +kernel
theorem dX9_init_126 : decode cX9_init 126 = .ok (.dup, 1) := by decide +kernel
theorem dX9_init_127 : decode cX9_init 127 = .ok (.iconst 3, 1) := by decide +kernel
theorem dX9_init_128 : decode cX9_init 128 = .ok (.iconst 3, 1) := by decide +kernel
theorem dX9_init_129 : decode cX9_init 129 = .ok (.iastore, 1) := by decide +kernel
theorem dX9_init_130 : decode cX9_init 130 = .ok (.putfield 28, 3) := by decide +kernel
theorem dX9_init_133 : decode cX9_init 133 = .ok (.aload_n 0, 1) := by decide +kernel
theorem dX9_init_134 : decode cX9_init 134 = .ok (.iconst 0, 1) := by decide +kernel
theorem dX9_init_135 : decode cX9_init 135 = .ok (.anewarray 23, 3) := by decide +kernel
theorem dX9_init_138 : decode cX9_init 138 = .ok (.putfield 31, 3) := by decide +kernel
theorem dX9_init_141 : decode cX9_init 141 = .ok (.aload_n 0, 1) := by decide +kernel
theorem dX9_init_142 : decode cX9_init 142 = .ok (.aload_n 1, 1) := by decide +kernel
theorem dX9_init_143 : decode cX9_init 143 = .ok (.putfield 34, 3) := by decide +kernel
theorem dX9_init_146 : decode cX9_init 146 = .ok (.aload_n 0, 1) := by decide +kernel
theorem dX9_init_147 : decode cX9_init 147 = .ok (.iload_n 2, 1) := by decide +kernel
theorem dX9_init_148 : decode cX9_init 148 = .ok (.putfield 37, 3) := by decide +kernel
theorem dX9_init_151 : decode cX9_init 151 = .ok (.return_, 1) := by decide +kernel
set_option maxRecDepth 20000 in
theorem gX9_found_X8_card : GoodIn wsX9_found (wsV RX9 83 RX8 yX8_card wsX8_card) := goodIn_sub (fun w h => List.mem_cons_of_mem _ (List.mem_append_left _ (List.mem_append_left _ (List.mem_append_left _ (List.mem_append_left _ (List.mem_append_right _ h)))))) (by decide +kernel)
set_option maxRecDepth 20000 in
theorem gX9_found_X9_draw : GoodIn wsX9_found (wsV RX9 76 RX9 yX9_draw wsX9_draw) := goodIn_sub (fun w h => List.mem_cons_of_mem _ (List.mem_append_left _ (List.mem_append_left _ (List.mem_append_left _ (List.mem_append_right _ h))))) (by decide +kernel)
set_option maxRecDepth 20000 in
theorem gX9_found_X9_zone : GoodIn wsX9_found (wsV RX9 90 RX9 yX9_zone wsX9_zone) := goodIn_sub (fun w h => List.mem_cons_of_mem _ (List.mem_append_left _ (List.mem_append_left _ (List.mem_append_right _ h)))) (by decide +kernel)
set_option maxRecDepth 20000 in
theorem gX9_found_X9_tariff : GoodIn wsX9_found (wsV RX9 93 RX9 yX9_tariff wsX9_tariff) := goodIn_sub (fun w h => List.mem_cons_of_mem _ (List.mem_append_left _ (List.mem_append_right _ h))) (by decide +kernel)
set_option maxRecDepth 20000 in
theorem gX9_found_X9_trip : GoodIn wsX9_found (wsV RX9 96 RX9 yX9_trip wsX9_trip) := goodIn_sub (fun w h => List.mem_cons_of_mem _ (List.mem_append_right _ h)) (by decide +kernel)
theorem dX9_found_0 : decode cX9_found 0 = .ok (.iconst 0, 1) := by decide +kernel
theorem dX9_found_1 : decode cX9_found 1 = .ok (.istore_n 2, 1) := by decide +kernel
theorem dX9_found_2 : decode cX9_found 2 = .ok (.iload_n 2, 1) := by decide +kernel
theorem dX9_found_3 : decode cX9_found 3 = .ok (.iconst 3, 1) := by decide +kernel
theorem dX9_found_4 : decode cX9_found 4 = .ok (.if_icmp .ge 32, 3) := by decide +kernel
theorem dX9_found_7 : decode cX9_found 7 = .ok (.aload_n 0, 1) := by decide +kernel
theorem dX9_found_8 : decode cX9_found 8 = .ok (.getfield 10, 3) := by decide +kernel
theorem dX9_found_11 : decode cX9_found 11 = .ok (.invokevirtual 83, 3) := by decide +kernel
theorem dX9_found_14 : decode cX9_found 14 = .ok (.aload_n 0, 1) := by decide +kernel
theorem dX9_found_15 : decode cX9_found 15 = .ok (.dup, 1) := by decide +kernel
theorem dX9_found_16 : decode cX9_found 16 = .ok (.getfield 87, 3) := by decide +kernel
theorem dX9_found_19 : decode cX9_found 19 = .ok (.dup_x1, 1) := by decide +kernel
theorem dX9_found_20 : decode cX9_found 20 = .ok (.iconst 1, 1) := by decide +kernel
theorem dX9_found_21 : decode cX9_found 21 = .ok (.iadd, 1) := by decide +kernel
theorem dX9_found_22 : decode cX9_found 22 = .ok (.putfield 87, 3) := by decide +kernel
theorem dX9_found_25 : decode cX9_found 25 = .ok (.if_icmp .eq 5, 3) := by decide +kernel
theorem dX9_found_28 : decode cX9_found 28 = .ok (.iconst 0, 1) := by decide +kernel
theorem dX9_found_29 : decode cX9_found 29 = .ok (.ireturn, 1) := by decide +kernel
theorem dX9_found_30 : decode cX9_found 30 = .ok (.iinc 2 1, 3) := by decide +kernel
theorem dX9_found_33 : decode cX9_found 33 = .ok (.goto (-31), 3) := by decide +kernel
theorem dX9_found_36 : decode cX9_found 36 = .ok (.iconst 0, 1) := by decide +kernel
theorem dX9_found_37 : decode cX9_found 37 = .ok (.istore_n 2, 1) := by decide +kernel
theorem dX9_found_38 : decode cX9_found 38 = .ok (.iload_n 2, 1) := by decide +kernel
theorem dX9_found_39 : decode cX9_found 39 = .ok (.iconst 4, 1) := by decide +kernel
theorem dX9_found_40 : decode cX9_found 40 = .ok (.if_icmp .ge 30, 3) := by decide +kernel
theorem dX9_found_43 : decode cX9_found 43 = .ok (.aload_n 0, 1) := by decide +kernel
theorem dX9_found_44 : decode cX9_found 44 = .ok (.aload_n 0, 1) := by decide +kernel
theorem dX9_found_45 : decode cX9_found 45 = .ok (.iconst 5, 1) := by decide +kernel
theorem dX9_found_46 : decode cX9_found 46 = .ok (.invokevirtual 76, 3) := by decide +kernel
theorem dX9_found_49 : decode cX9_found 49 = .ok (.iconst 1, 1) := by decide +kernel
theorem dX9_found_50 : decode cX9_found 50 = .ok (.aload_n 0, 1) := by decide +kernel
theorem dX9_found_51 : decode cX9_found 51 = .ok (.iconst 4, 1) := by decide +kernel
theorem dX9_found_52 : decode cX9_found 52 = .ok (.invokevirtual 76, 3) := by decide +kernel
theorem dX9_found_55 : decode cX9_found 55 = .ok (.iadd, 1) := by decide +kernel
theorem dX9_found_56 : decode cX9_found 56 = .ok (.invokevirtual 90, 3) := by decide +kernel
theorem dX9_found_59 : decode cX9_found 59 = .ok (.ifCond .ne 5, 3) := by decide +kernel
theorem dX9_found_62 : decode cX9_found 62 = .ok (.iconst 0, 1) := by decide +kernel
theorem dX9_found_63 : decode cX9_found 63 = .ok (.ireturn, 1) := by decide +kernel
theorem dX9_found_64 : decode cX9_found 64 = .ok (.iinc 2 1, 3) := by decide +kernel
theorem dX9_found_67 : decode cX9_found 67 = .ok (.goto (-29), 3) := by decide +kernel
theorem dX9_found_70 : decode cX9_found 70 = .ok (.aload_n 0, 1) := by decide +kernel
theorem dX9_found_71 : decode cX9_found 71 = .ok (.aload_n 0, 1) := by decide +kernel
theorem dX9_found_72 : decode cX9_found 72 = .ok (.bipush 8, 2) := by decide +kernel
theorem dX9_found_74 : decode cX9_found 74 = .ok (.invokevirtual 76, 3) := by decide +kernel
theorem dX9_found_77 : decode cX9_found 77 = .ok (.iconst 1, 1) := by decide +kernel
theorem dX9_found_78 : decode cX9_found 78 = .ok (.aload_n 0, 1) := by decide +kernel
theorem dX9_found_79 : decode cX9_found 79 = .ok (.iconst 4, 1) := by decide +kernel
theorem dX9_found_80 : decode cX9_found 80 = .ok (.invokevirtual 76, 3) := by decide +kernel
theorem dX9_found_83 : decode cX9_found 83 = .ok (.iadd, 1) := by decide +kernel
theorem dX9_found_84 : decode cX9_found 84 = .ok (.aload_n 0, 1) := by decide +kernel
theorem dX9_found_85 : decode cX9_found 85 = .ok (.iconst 4, 1) := by decide +kernel
theorem dX9_found_86 : decode cX9_found 86 = .ok (.invokevirtual 76, 3) := by decide +kernel
theorem dX9_found_89 : decode cX9_found 89 = .ok (.iconst 3, 1) := by decide +kernel
theorem dX9_found_90 : decode cX9_found 90 = .ok (.aload_n 0, 1) := by decide +kernel
theorem dX9_found_91 : decode cX9_found 91 = .ok (.bipush 12, 2) := by decide +kernel
theorem dX9_found_93 : decode cX9_found 93 = .ok (.invokevirtual 76, 3) := by decide +kernel
theorem dX9_found_96 : decode cX9_found 96 = .ok (.iadd, 1) := by decide +kernel
theorem dX9_found_97 : decode cX9_found 97 = .ok (.bipush 10, 2) := by decide +kernel
theorem dX9_found_99 : decode cX9_found 99 = .ok (.aload_n 0, 1) := by decide +kernel
theorem dX9_found_100 : decode cX9_found 100 = .ok (.bipush 40, 2) := by decide +kernel
theorem dX9_found_102 : decode cX9_found 102 = .ok (.invokevirtual 76, 3) := by decide +kernel
theorem dX9_found_105 : decode cX9_found 105 = .ok (.iadd, 1) := by decide +kernel
theorem dX9_found_106 : decode cX9_found 106 = .ok (.invokevirtual 93, 3) := by decide +kernel
theorem dX9_found_109 : decode cX9_found 109 = .ok (.ifCond .eq 45, 3) := by decide +kernel
theorem dX9_found_112 : decode cX9_found 112 = .ok (.aload_n 0, 1) := by decide +kernel
theorem dX9_found_113 : decode cX9_found 113 = .ok (.aload_n 0, 1) := by decide +kernel
theorem dX9_found_114 : decode cX9_found 114 = .ok (.bipush 14, 2) := by decide +kernel
theorem dX9_found_116 : decode cX9_found 116 = .ok (.invokevirtual 76, 3) := by decide +kernel
theorem dX9_found_119 : decode cX9_found 119 = .ok (.iconst 1, 1) := by decide +kernel
theorem dX9_found_120 : decode cX9_found 120 = .ok (.aload_n 0, 1) := by decide +kernel
theorem dX9_found_121 : decode cX9_found 121 = .ok (.iconst 4, 1) := by decide +kernel
theorem dX9_found_122 : decode cX9_found 122 = .ok (.invokevirtual 76, 3) := by decide +kernel
theorem dX9_found_125 : decode cX9_found 125 = .ok (.iadd, 1) := by decide +kernel
theorem dX9_found_126 : decode cX9_found 126 = .ok (.aload_n 0, 1) := by decide +kernel
theorem dX9_found_127 : decode cX9_found 127 = .ok (.iconst 4, 1) := by decide +kernel
theorem dX9_found_128 : decode cX9_found 128 = .ok (.invokevirtual 76, 3) := by decide +kernel
theorem dX9_found_131 : decode cX9_found 131 = .ok (.iconst 3, 1) := by decide +kernel
theorem dX9_found_132 : decode cX9_found 132 = .ok (.aload_n 0, 1) := by decide +kernel
theorem dX9_found_133 : decode cX9_found 133 = .ok (.bipush 12, 2) := by decide +kernel
theorem dX9_found_135 : decode cX9_found 135 = .ok (.invokevirtual 76, 3) := by decide +kernel
theorem dX9_found_138 : decode cX9_found 138 = .ok (.iadd, 1) := by decide +kernel
theorem dX9_found_139 : decode cX9_found 139 = .ok (.bipush 10, 2) := by decide +kernel
theorem dX9_found_141 : decode cX9_found 141 = .ok (.aload_n 0, 1) := by decide +kernel
theorem dX9_found_142 : decode cX9_found 142 = .ok (.bipush 40, 2) := by decide +kernel
theorem dX9_found_144 : decode cX9_found 144 = .ok (.invokevirtual 76, 3) := by decide +kernel
theorem dX9_found_147 : decode cX9_found 147 = .ok (.iadd, 1) := by decide +kernel
theorem dX9_found_148 : decode cX9_found 148 = .ok (.invokevirtual 93, 3) := by decide +kernel
theorem dX9_found_151 : decode cX9_found 151 = .ok (.ifCond .ne 5, 3) := by decide +kernel
theorem dX9_found_154 : decode cX9_found 154 = .ok (.iconst 0, 1) := by decide +kernel
theorem dX9_found_155 : decode cX9_found 155 = .ok (.ireturn, 1) := by decide +kernel
theorem dX9_found_156 : decode cX9_found 156 = .ok (.iconst 0, 1) := by decide +kernel
theorem dX9_found_157 : decode cX9_found 157 = .ok (.istore_n 2, 1) := by decide +kernel
theorem dX9_found_158 : decode cX9_found 158 = .ok (.iload_n 2, 1) := by decide +kernel
theorem dX9_found_159 : decode cX9_found 159 = .ok (.iload_n 1, 1) := by decide +kernel
theorem dX9_found_160 : decode cX9_found 160 = .ok (.if_icmp .ge 29, 3) := by decide +kernel
theorem dX9_found_163 : decode cX9_found 163 = .ok (.aload_n 0, 1) := by decide +kernel
theorem dX9_found_164 : decode cX9_found 164 = .ok (.aload_n 0, 1) := by decide +kernel
theorem dX9_found_165 : decode cX9_found 165 = .ok (.iconst 3, 1) := by decide +kernel
theorem dX9_found_166 : decode cX9_found 166 = .ok (.invokevirtual 76, 3) := by decide +kernel
theorem dX9_found_169 : decode cX9_found 169 = .ok (.aload_n 0, 1) := by decide +kernel
theorem dX9_found_170 : decode cX9_found 170 = .ok (.bipush 10, 2) := by decide +kernel
theorem dX9_found_172 : decode cX9_found 172 = .ok (.invokevirtual 76, 3) := by decide +kernel
theorem dX9_found_175 : decode cX9_found 175 = .ok (.invokevirtual 96, 3) := by decide +kernel
theorem dX9_found_178 : decode cX9_found 178 = .ok (.ifCond .ne 5, 3) := by decide +kernel
theorem dX9_found_181 : decode cX9_found 181 = .ok (.iconst 0, 1) := by decide +kernel
theorem dX9_found_182 : decode cX9_found 182 = .ok (.ireturn, 1) := by decide +kernel
theorem dX9_found_183 : decode cX9_found 183 = .ok (.iinc 2 1, 3) := by decide +kernel
theorem dX9_found_186 : decode cX9_found 186 = .ok (.goto (-28), 3) := by decide +kernel
theorem dX9_found_189 : decode cX9_found 189 = .ok (.iconst 1, 1) := by decide +kernel
theorem dX9_found_190 : decode cX9_found 190 = .ok (.ireturn, 1) := by decide +kernel
