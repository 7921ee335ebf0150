def wsX9_tap : List Cond := .code yX9_tap cX9_tap 7 (some .boolean) :: ([.arrayClass .int, .fieldLink RX9 10 "TapCapLaw$Told" "m" "LTapCap;", .fieldLink RX9 31 "TapCapLaw$Told" "taps" "[[I"] ++ wsX90 ++ (wsV RX9 68 RX9 yX9_has wsX9_has) ++ (wsV RX9 72 RX8 yX8_tap wsX8_tap) ++ (va_wsS RX9 60 yX9_plus wsX9_plus))
def wsX9_trip : List Cond := .code yX9_trip cX9_trip 9 (some .boolean) :: ([] ++ wsX90 ++ (wsV RX9 76 RX9 yX9_draw wsX9_draw) ++ (wsV RX9 80 RX9 yX9_tap wsX9_tap))
set_option maxRecDepth 20000 in
theorem gX9_tap_X9_has : GoodIn wsX9_tap (wsV RX9 68 RX9 yX9_has wsX9_has) := goodIn_sub (fun w h => List.mem_cons_of_mem _ (List.mem_append_left _ (List.mem_append_left _ (List.mem_append_right _ h)))) (by decide +kernel)
set_option maxRecDepth 20000 in
theorem gX9_tap_X8_tap : GoodIn wsX9_tap (wsV RX9 72 RX8 yX8_tap wsX8_tap) := goodIn_sub (fun w h => List.mem_cons_of_mem _ (List.mem_append_left _ (List.mem_append_right _ h))) (by decide +kernel)
set_option maxRecDepth 20000 in
theorem gX9_tap_X9_plus : GoodIn wsX9_tap (va_wsS RX9 60 yX9_plus wsX9_plus) := goodIn_sub (fun w h => List.mem_cons_of_mem _ (List.mem_append_right _ h)) (by decide +kernel)
theorem dX9_tap_0 : decode cX9_tap 0 = .ok (.aload_n 0, 1) := by decide +kernel
theorem dX9_tap_1 : decode cX9_tap 1 = .ok (.bipush 6, 2) := by decide +kernel
theorem dX9_tap_3 : decode cX9_tap 3 = .ok (.newarray .int, 2) := by decide +kernel
theorem dX9_tap_5 : decode cX9_tap 5 = .ok (.dup, 1) := by decide +kernel
theorem dX9_tap_6 : decode cX9_tap 6 = .ok (.iconst 0, 1) := by decide +kernel
theorem dX9_tap_7 : decode cX9_tap 7 = .ok (.iload_n 1, 1) := by decide +kernel
theorem dX9_tap_8 : decode cX9_tap 8 = .ok (.iastore, 1) := by decide +kernel
theorem dX9_tap_9 : decode cX9_tap 9 = .ok (.dup, 1) := by decide +kernel
theorem dX9_tap_10 : decode cX9_tap 10 = .ok (.iconst 1, 1) := by decide +kernel
theorem dX9_tap_11 : decode cX9_tap 11 = .ok (.iload_n 2, 1) := by decide +kernel
theorem dX9_tap_12 : decode cX9_tap 12 = .ok (.iastore, 1) := by decide +kernel
theorem dX9_tap_13 : decode cX9_tap 13 = .ok (.dup, 1) := by decide +kernel
theorem dX9_tap_14 : decode cX9_tap 14 = .ok (.iconst 2, 1) := by decide +kernel
theorem dX9_tap_15 : decode cX9_tap 15 = .ok (.iload_n 3, 1) := by decide +kernel
theorem dX9_tap_16 : decode cX9_tap 16 = .ok (.iastore, 1) := by decide +kernel
theorem dX9_tap_17 : decode cX9_tap 17 = .ok (.dup, 1) := by decide +kernel
theorem dX9_tap_18 : decode cX9_tap 18 = .ok (.iconst 3, 1) := by decide +kernel
theorem dX9_tap_19 : decode cX9_tap 19 = .ok (.iload 4, 2) := by decide +kernel
theorem dX9_tap_21 : decode cX9_tap 21 = .ok (.iastore, 1) := by decide +kernel
theorem dX9_tap_22 : decode cX9_tap 22 = .ok (.dup, 1) := by decide +kernel
theorem dX9_tap_23 : decode cX9_tap 23 = .ok (.iconst 4, 1) := by decide +kernel
theorem dX9_tap_24 : decode cX9_tap 24 = .ok (.iload 5, 2) := by decide +kernel
theorem dX9_tap_26 : decode cX9_tap 26 = .ok (.iastore, 1) := by decide +kernel
theorem dX9_tap_27 : decode cX9_tap 27 = .ok (.dup, 1) := by decide +kernel
theorem dX9_tap_28 : decode cX9_tap 28 = .ok (.iconst 5, 1) := by decide +kernel
theorem dX9_tap_29 : decode cX9_tap 29 = .ok (.iload 6, 2) := by decide +kernel
theorem dX9_tap_31 : decode cX9_tap 31 = .ok (.iastore, 1) := by decide +kernel
theorem dX9_tap_32 : decode cX9_tap 32 = .ok (.invokevirtual 68, 3) := by decide +kernel
theorem dX9_tap_35 : decode cX9_tap 35 = .ok (.ifCond .lt 39, 3) := by decide +kernel
theorem dX9_tap_38 : decode cX9_tap 38 = .ok (.aload_n 0, 1) := by decide +kernel
theorem dX9_tap_39 : decode cX9_tap 39 = .ok (.getfield 10, 3) := by decide +kernel
theorem dX9_tap_42 : decode cX9_tap 42 = .ok (.iload_n 1, 1) := by decide +kernel
theorem dX9_tap_43 : decode cX9_tap 43 = .ok (.iload_n 2, 1) := by decide +kernel
theorem dX9_tap_44 : decode cX9_tap 44 = .ok (.iload_n 3, 1) := by decide +kernel
theorem dX9_tap_45 : decode cX9_tap 45 = .ok (.iload 4, 2) := by decide +kernel
theorem dX9_tap_47 : decode cX9_tap 47 = .ok (.iconst 1, 1) := by decide +kernel
theorem dX9_tap_48 : decode cX9_tap 48 = .ok (.if_icmp .ne 7, 3) := by decide +kernel
theorem dX9_tap_51 : decode cX9_tap 51 = .ok (.iconst 1, 1) := by decide +kernel
theorem dX9_tap_52 : decode cX9_tap 52 = .ok (.goto 4, 3) := by decide +kernel
theorem dX9_tap_55 : decode cX9_tap 55 = .ok (.iconst 0, 1) := by decide +kernel
theorem dX9_tap_56 : decode cX9_tap 56 = .ok (.iload 5, 2) := by decide +kernel
theorem dX9_tap_58 : decode cX9_tap 58 = .ok (.iload 6, 2) := by decide +kernel
theorem dX9_tap_60 : decode cX9_tap 60 = .ok (.invokevirtual 72, 3) := by decide +kernel
theorem dX9_tap_63 : decode cX9_tap 63 = .ok (.bipush (-3), 2) := by decide +kernel
theorem dX9_tap_65 : decode cX9_tap 65 = .ok (.if_icmp .ne 7, 3) := by decide +kernel
theorem dX9_tap_68 : decode cX9_tap 68 = .ok (.iconst 1, 1) := by decide +kernel
theorem dX9_tap_69 : decode cX9_tap 69 = .ok (.goto 4, 3) := by decide +kernel
theorem dX9_tap_72 : decode cX9_tap 72 = .ok (.iconst 0, 1) := by decide +kernel
theorem dX9_tap_73 : decode cX9_tap 73 = .ok (.ireturn, 1) := by decide +kernel
theorem dX9_tap_74 : decode cX9_tap 74 = .ok (.aload_n 0, 1) := by decide +kernel
theorem dX9_tap_75 : decode cX9_tap 75 = .ok (.getfield 31, 3) := by decide +kernel
theorem dX9_tap_78 : decode cX9_tap 78 = .ok (.arraylength, 1) := by decide +kernel
theorem dX9_tap_79 : decode cX9_tap 79 = .ok (.bipush 40, 2) := by decide +kernel
theorem dX9_tap_81 : decode cX9_tap 81 = .ok (.if_icmp .ne 5, 3) := by decide +kernel
theorem dX9_tap_84 : decode cX9_tap 84 = .ok (.iconst 1, 1) := by decide +kernel
theorem dX9_tap_85 : decode cX9_tap 85 = .ok (.ireturn, 1) := by decide +kernel
theorem dX9_tap_86 : decode cX9_tap 86 = .ok (.aload_n 0, 1) := by decide +kernel
theorem dX9_tap_87 : decode cX9_tap 87 = .ok (.aload_n 0, 1) := by decide +kernel
theorem dX9_tap_88 : decode cX9_tap 88 = .ok (.getfield 31, 3) := by decide +kernel
theorem dX9_tap_91 : decode cX9_tap 91 = .ok (.bipush 6, 2) := by decide +kernel
theorem dX9_tap_93 : decode cX9_tap 93 = .ok (.newarray .int, 2) := by decide +kernel
theorem dX9_tap_95 : decode cX9_tap 95 = .ok (.dup, 1) := by decide +kernel
theorem dX9_tap_96 : decode cX9_tap 96 = .ok (.iconst 0, 1) := by decide +kernel
theorem dX9_tap_97 : decode cX9_tap 97 = .ok (.iload_n 1, 1) := by decide +kernel
theorem dX9_tap_98 : decode cX9_tap 98 = .ok (.iastore, 1) := by decide +kernel
theorem dX9_tap_99 : decode cX9_tap 99 = .ok (.dup, 1) := by decide +kernel
theorem dX9_tap_100 : decode cX9_tap 100 = .ok (.iconst 1, 1) := by decide +kernel
theorem dX9_tap_101 : decode cX9_tap 101 = .ok (.iload_n 2, 1) := by decide +kernel
theorem dX9_tap_102 : decode cX9_tap 102 = .ok (.iastore, 1) := by decide +kernel
theorem dX9_tap_103 : decode cX9_tap 103 = .ok (.dup, 1) := by decide +kernel
theorem dX9_tap_104 : decode cX9_tap 104 = .ok (.iconst 2, 1) := by decide +kernel
theorem dX9_tap_105 : decode cX9_tap 105 = .ok (.iload_n 3, 1) := by decide +kernel
theorem dX9_tap_106 : decode cX9_tap 106 = .ok (.iastore, 1) := by decide +kernel
theorem dX9_tap_107 : decode cX9_tap 107 = .ok (.dup, 1) := by decide +kernel
theorem dX9_tap_108 : decode cX9_tap 108 = .ok (.iconst 3, 1) := by decide +kernel
theorem dX9_tap_109 : decode cX9_tap 109 = .ok (.iload 4, 2) := by decide +kernel
theorem dX9_tap_111 : decode cX9_tap 111 = .ok (.iastore, 1) := by decide +kernel
theorem dX9_tap_112 : decode cX9_tap 112 = .ok (.dup, 1) := by decide +kernel
theorem dX9_tap_113 : decode cX9_tap 113 = .ok (.iconst 4, 1) := by decide +kernel
theorem dX9_tap_114 : decode cX9_tap 114 = .ok (.iload 5, 2) := by decide +kernel
theorem dX9_tap_116 : decode cX9_tap 116 = .ok (.iastore, 1) := by decide +kernel
theorem dX9_tap_117 : decode cX9_tap 117 = .ok (.dup, 1) := by decide +kernel
theorem dX9_tap_118 : decode cX9_tap 118 = .ok (.iconst 5, 1) := by decide +kernel
theorem dX9_tap_119 : decode cX9_tap 119 = .ok (.iload 6, 2) := by decide +kernel
theorem dX9_tap_121 : decode cX9_tap 121 = .ok (.iastore, 1) := by decide +kernel
theorem dX9_tap_122 : decode cX9_tap 122 = .ok (.invokestatic 60, 3) := by decide +kernel
theorem dX9_tap_125 : decode cX9_tap 125 = .ok (.putfield 31, 3) := by decide +kernel
theorem dX9_tap_128 : decode cX9_tap 128 = .ok (.aload_n 0, 1) := by decide +kernel
theorem dX9_tap_129 : decode cX9_tap 129 = .ok (.getfield 10, 3) := by decide +kernel
theorem dX9_tap_132 : decode cX9_tap 132 = .ok (.iload_n 1, 1) := by decide +kernel
theorem dX9_tap_133 : decode cX9_tap 133 = .ok (.iload_n 2, 1) := by decide +kernel
theorem dX9_tap_134 : decode cX9_tap 134 = .ok (.iload_n 3, 1) := by decide +kernel
theorem dX9_tap_135 : decode cX9_tap 135 = .ok (.iload 4, 2) := by decide +kernel
theorem dX9_tap_137 : decode cX9_tap 137 = .ok (.iconst 1, 1) := by decide +kernel
theorem dX9_tap_138 : decode cX9_tap 138 = .ok (.if_icmp .ne 7, 3) := by decide +kernel
theorem dX9_tap_141 : decode cX9_tap 141 = .ok (.iconst 1, 1) := by decide +kernel
theorem dX9_tap_142 : decode cX9_tap 142 = .ok (.goto 4, 3) := by decide +kernel
theorem dX9_tap_145 : decode cX9_tap 145 = .ok (.iconst 0, 1) := by decide +kernel
theorem dX9_tap_146 : decode cX9_tap 146 = .ok (.iload 5, 2) := by decide +kernel
theorem dX9_tap_148 : decode cX9_tap 148 = .ok (.iload 6, 2) := by decide +kernel
theorem dX9_tap_150 : decode cX9_tap 150 = .ok (.invokevirtual 72, 3) := by decide +kernel
theorem dX9_tap_153 : decode cX9_tap 153 = .ok (.aload_n 0, 1) := by decide +kernel
theorem dX9_tap_154 : decode cX9_tap 154 = .ok (.getfield 31, 3) := by decide +kernel
theorem dX9_tap_157 : decode cX9_tap 157 = .ok (.arraylength, 1) := by decide +kernel
theorem dX9_tap_158 : decode cX9_tap 158 = .ok (.if_icmp .ne 7, 3) := by decide +kernel
theorem dX9_tap_161 : decode cX9_tap 161 = .ok (.iconst 1, 1) := by decide +kernel
theorem dX9_tap_162 : decode cX9_tap 162 = .ok (.goto 4, 3) := by decide +kernel
theorem dX9_tap_165 : decode cX9_tap 165 = .ok (.iconst 0, 1) := by decide +kernel
theorem dX9_tap_166 : decode cX9_tap 166 = .ok (.ireturn, 1) := by decide +kernel
set_option maxRecDepth 20000 in
theorem gX9_trip_X9_draw : GoodIn wsX9_trip (wsV RX9 76 RX9 yX9_draw wsX9_draw) := goodIn_sub (fun w h => List.mem_cons_of_mem _ (List.mem_append_left _ (List.mem_append_right _ h))) (by decide +kernel)
set_option maxRecDepth 20000 in
theorem gX9_trip_X9_tap : GoodIn wsX9_trip (wsV RX9 80 RX9 yX9_tap wsX9_tap) := goodIn_sub (fun w h => List.mem_cons_of_mem _ (List.mem_append_right _ h)) (by decide +kernel)
theorem dX9_trip_0 : decode cX9_trip 0 = .ok (.sipush 300, 3) := by decide +kernel
theorem dX9_trip_3 : decode cX9_trip 3 = .ok (.aload_n 0, 1) := by decide +kernel
theorem dX9_trip_4 : decode cX9_trip 4 = .ok (.sipush 600, 3) := by decide +kernel
theorem dX9_trip_7 : decode cX9_trip 7 = .ok (.invokevirtual 76, 3) := by decide +kernel
theorem dX9_trip_10 : decode cX9_trip 10 = .ok (.iadd, 1) := by decide +kernel
theorem dX9_trip_11 : decode cX9_trip 11 = .ok (.istore_n 3, 1) := by decide +kernel
theorem dX9_trip_12 : decode cX9_trip 12 = .ok (.aload_n 0, 1) := by decide +kernel
theorem dX9_trip_13 : decode cX9_trip 13 = .ok (.iconst 5, 1) := by decide +kernel
theorem dX9_trip_14 : decode cX9_trip 14 = .ok (.invokevirtual 76, 3) := by decide +kernel
theorem dX9_trip_17 : decode cX9_trip 17 = .ok (.istore 4, 2) := by decide +kernel
theorem dX9_trip_19 : decode cX9_trip 19 = .ok (.aload_n 0, 1) := by decide +kernel
theorem dX9_trip_20 : decode cX9_trip 20 = .ok (.iconst 4, 1) := by decide +kernel
theorem dX9_trip_21 : decode cX9_trip 21 = .ok (.invokevirtual 76, 3) := by decide +kernel
theorem dX9_trip_24 : decode cX9_trip 24 = .ok (.istore 5, 2) := by decide +kernel
theorem dX9_trip_26 : decode cX9_trip 26 = .ok (.iconst 1, 1) := by decide +kernel
theorem dX9_trip_27 : decode cX9_trip 27 = .ok (.aload_n 0, 1) := by decide +kernel
theorem dX9_trip_28 : decode cX9_trip 28 = .ok (.iconst 3, 1) := by decide +kernel
theorem dX9_trip_29 : decode cX9_trip 29 = .ok (.invokevirtual 76, 3) := by decide +kernel
theorem dX9_trip_32 : decode cX9_trip 32 = .ok (.iadd, 1) := by decide +kernel
theorem dX9_trip_33 : decode cX9_trip 33 = .ok (.istore 6, 2) := by decide +kernel
theorem dX9_trip_35 : decode cX9_trip 35 = .ok (.iload 6, 2) := by decide +kernel
theorem dX9_trip_37 : decode cX9_trip 37 = .ok (.ifCond .le 171, 3) := by decide +kernel
theorem dX9_trip_40 : decode cX9_trip 40 = .ok (.aload_n 0, 1) := by decide +kernel
theorem dX9_trip_41 : decode cX9_trip 41 = .ok (.iconst 5, 1) := by decide +kernel
theorem dX9_trip_42 : decode cX9_trip 42 = .ok (.invokevirtual 76, 3) := by decide +kernel
theorem dX9_trip_45 : decode cX9_trip 45 = .ok (.istore 7, 2) := by decide +kernel
theorem dX9_trip_47 : decode cX9_trip 47 = .ok (.iconst 5, 1) := by decide +kernel
theorem dX9_trip_48 : decode cX9_trip 48 = .ok (.aload_n 0, 1) := by decide +kernel
theorem dX9_trip_49 : decode cX9_trip 49 = .ok (.bipush 30, 2) := by decide +kernel
theorem dX9_trip_51 : decode cX9_trip 51 = .ok (.invokevirtual 76, 3) := by decide +kernel
theorem dX9_trip_54 : decode cX9_trip 54 = .ok (.iadd, 1) := by decide +kernel
theorem dX9_trip_55 : decode cX9_trip 55 = .ok (.istore 8, 2) := by decide +kernel
theorem dX9_trip_57 : decode cX9_trip 57 = .ok (.aload_n 0, 1) := by decide +kernel
theorem dX9_trip_58 : decode cX9_trip 58 = .ok (.bipush 8, 2) := by decide +kernel
theorem dX9_trip_60 : decode cX9_trip 60 = .ok (.invokevirtual 76, 3) := by decide +kernel
theorem dX9_trip_63 : decode cX9_trip 63 = .ok (.ifCond .le 20, 3) := by decide +kernel
theorem dX9_trip_66 : decode cX9_trip 66 = .ok (.aload_n 0, 1) := by decide +kernel
theorem dX9_trip_67 : decode cX9_trip 67 = .ok (.iload_n 1, 1) := by decide +kernel
theorem dX9_trip_68 : decode cX9_trip 68 = .ok (.iload 4, 2) := by decide +kernel
theorem dX9_trip_70 : decode cX9_trip 70 = .ok (.iload 5, 2) := by decide +kernel
theorem dX9_trip_72 : decode cX9_trip 72 = .ok (.iconst 1, 1) := by decide +kernel
theorem dX9_trip_73 : decode cX9_trip 73 = .ok (.iload_n 2, 1) := by decide +kernel
theorem dX9_trip_74 : decode cX9_trip 74 = .ok (.iload_n 3, 1) := by decide +kernel
theorem dX9_trip_75 : decode cX9_trip 75 = .ok (.invokevirtual 80, 3) := by decide +kernel
theorem dX9_trip_78 : decode cX9_trip 78 = .ok (.ifCond .ne 5, 3) := by decide +kernel
theorem dX9_trip_81 : decode cX9_trip 81 = .ok (.iconst 0, 1) := by decide +kernel
theorem dX9_trip_82 : decode cX9_trip 82 = .ok (.ireturn, 1) := by decide +kernel
theorem dX9_trip_83 : decode cX9_trip 83 = .ok (.aload_n 0, 1) := by decide +kernel
theorem dX9_trip_84 : decode cX9_trip 84 = .ok (.bipush 9, 2) := by decide +kernel
theorem dX9_trip_86 : decode cX9_trip 86 = .ok (.invokevirtual 76, 3) := by decide +kernel
theorem dX9_trip_89 : decode cX9_trip 89 = .ok (.ifCond .ne 26, 3) := by decide +kernel
theorem dX9_trip_92 : decode cX9_trip 92 = .ok (.aload_n 0, 1) := by decide +kernel
theorem dX9_trip_93 : decode cX9_trip 93 = .ok (.iload_n 1, 1) := by decide +kernel
theorem dX9_trip_94 : decode cX9_trip 94 = .ok (.iload 4, 2) := by decide +kernel
theorem dX9_trip_96 : decode cX9_trip 96 = .ok (.iload 5, 2) := by decide +kernel
theorem dX9_trip_98 : decode cX9_trip 98 = .ok (.iconst 1, 1) := by decide +kernel
theorem dX9_trip_99 : decode cX9_trip 99 = .ok (.iload_n 2, 1) := by decide +kernel
theorem dX9_trip_100 : decode cX9_trip 100 = .ok (.iload_n 3, 1) := by decide +kernel
theorem dX9_trip_101 : decode cX9_trip 101 = .ok (.aload_n 0, 1) := by decide +kernel
theorem dX9_trip_102 : decode cX9_trip 102 = .ok (.iconst 5, 1) := by decide +kernel
theorem dX9_trip_103 : decode cX9_trip 103 = .ok (.invokevirtual 76, 3) := by decide +kernel
theorem dX9_trip_106 : decode cX9_trip 106 = .ok (.iadd, 1) := by decide +kernel
theorem dX9_trip_107 : decode cX9_trip 107 = .ok (.invokevirtual 80, 3) := by decide +kernel
theorem dX9_trip_110 : decode cX9_trip 110 = .ok (.ifCond .ne 5, 3) := by decide +kernel
theorem dX9_trip_113 : decode cX9_trip 113 = .ok (.iconst 0, 1) := by decide +kernel
theorem dX9_trip_114 : decode cX9_trip 114 = .ok (.ireturn, 1) := by decide +kernel
theorem dX9_trip_115 : decode cX9_trip 115 = .ok (.aload_n 0, 1) := by decide +kernel
theorem dX9_trip_116 : decode cX9_trip 116 = .ok (.bipush 8, 2) := by decide +kernel
theorem dX9_trip_118 : decode cX9_trip 118 = .ok (.invokevirtual 76, 3) := by decide +kernel
theorem dX9_trip_121 : decode cX9_trip 121 = .ok (.ifCond .le 23, 3) := by decide +kernel
theorem dX9_trip_124 : decode cX9_trip 124 = .ok (.aload_n 0, 1) := by decide +kernel
theorem dX9_trip_125 : decode cX9_trip 125 = .ok (.iload_n 1, 1) := by decide +kernel
theorem dX9_trip_126 : decode cX9_trip 126 = .ok (.iload 7, 2) := by decide +kernel
theorem dX9_trip_128 : decode cX9_trip 128 = .ok (.iload 5, 2) := by decide +kernel
theorem dX9_trip_130 : decode cX9_trip 130 = .ok (.iconst 0, 1) := by decide +kernel
theorem dX9_trip_131 : decode cX9_trip 131 = .ok (.iload_n 2, 1) := by decide +kernel
theorem dX9_trip_132 : decode cX9_trip 132 = .ok (.iload_n 3, 1) := by decide +kernel
theorem dX9_trip_133 : decode cX9_trip 133 = .ok (.iload 8, 2) := by decide +kernel
theorem dX9_trip_135 : decode cX9_trip 135 = .ok (.iadd, 1) := by decide +kernel
theorem dX9_trip_136 : decode cX9_trip 136 = .ok (.invokevirtual 80, 3) := by decide +kernel
theorem dX9_trip_139 : decode cX9_trip 139 = .ok (.ifCond .ne 5, 3) := by decide +kernel
theorem dX9_trip_142 : decode cX9_trip 142 = .ok (.iconst 0, 1) := by decide +kernel
theorem dX9_trip_143 : decode cX9_trip 143 = .ok (.ireturn, 1) := by decide +kernel
theorem dX9_trip_144 : decode cX9_trip 144 = .ok (.aload_n 0, 1) := by decide +kernel
theorem dX9_trip_145 : decode cX9_trip 145 = .ok (.bipush 9, 2) := by decide +kernel
theorem dX9_trip_147 : decode cX9_trip 147 = .ok (.invokevirtual 76, 3) := by decide +kernel
theorem dX9_trip_150 : decode cX9_trip 150 = .ok (.ifCond .ne 29, 3) := by decide +kernel
theorem dX9_trip_153 : decode cX9_trip 153 = .ok (.aload_n 0, 1) := by decide +kernel
theorem dX9_trip_154 : decode cX9_trip 154 = .ok (.iload_n 1, 1) := by decide +kernel
theorem dX9_trip_155 : decode cX9_trip 155 = .ok (.iload 7, 2) := by decide +kernel
theorem dX9_trip_157 : decode cX9_trip 157 = .ok (.iload 5, 2) := by decide +kernel
theorem dX9_trip_159 : decode cX9_trip 159 = .ok (.iconst 0, 1) := by decide +kernel
theorem dX9_trip_160 : decode cX9_trip 160 = .ok (.iload_n 2, 1) := by decide +kernel
theorem dX9_trip_161 : decode cX9_trip 161 = .ok (.iload_n 3, 1) := by decide +kernel
theorem dX9_trip_162 : decode cX9_trip 162 = .ok (.iload 8, 2) := by decide +kernel
theorem dX9_trip_164 : decode cX9_trip 164 = .ok (.iadd, 1) := by decide +kernel
theorem dX9_trip_165 : decode cX9_trip 165 = .ok (.aload_n 0, 1) := by decide +kernel
theorem dX9_trip_166 : decode cX9_trip 166 = .ok (.iconst 5, 1) := by decide +kernel
theorem dX9_trip_167 : decode cX9_trip 167 = .ok (.invokevirtual 76, 3) := by decide +kernel
theorem dX9_trip_170 : decode cX9_trip 170 = .ok (.iadd, 1) := by decide +kernel
theorem dX9_trip_171 : decode cX9_trip 171 = .ok (.invokevirtual 80, 3) := by decide +kernel
theorem dX9_trip_174 : decode cX9_trip 174 = .ok (.ifCond .ne 5, 3) := by decide +kernel
theorem dX9_trip_177 : decode cX9_trip 177 = .ok (.iconst 0, 1) := by decide +kernel
theorem dX9_trip_178 : decode cX9_trip 178 = .ok (.ireturn, 1) := by decide +kernel
theorem dX9_trip_179 : decode cX9_trip 179 = .ok (.iload_n 3, 1) := by decide +kernel
theorem dX9_trip_180 : decode cX9_trip 180 = .ok (.iload 8, 2) := by decide +kernel
theorem dX9_trip_182 : decode cX9_trip 182 = .ok (.aload_n 0, 1) := by decide +kernel
theorem dX9_trip_183 : decode cX9_trip 183 = .ok (.bipush 30, 2) := by decide +kernel
theorem dX9_trip_185 : decode cX9_trip 185 = .ok (.invokevirtual 76, 3) := by decide +kernel
theorem dX9_trip_188 : decode cX9_trip 188 = .ok (.iadd, 1) := by decide +kernel
theorem dX9_trip_189 : decode cX9_trip 189 = .ok (.iadd, 1) := by decide +kernel
theorem dX9_trip_190 : decode cX9_trip 190 = .ok (.istore_n 3, 1) := by decide +kernel
theorem dX9_trip_191 : decode cX9_trip 191 = .ok (.iload 7, 2) := by decide +kernel
theorem dX9_trip_193 : decode cX9_trip 193 = .ok (.istore 4, 2) := by decide +kernel
theorem dX9_trip_195 : decode cX9_trip 195 = .ok (.aload_n 0, 1) := by decide +kernel
theorem dX9_trip_196 : decode cX9_trip 196 = .ok (.iconst 4, 1) := by decide +kernel
theorem dX9_trip_197 : decode cX9_trip 197 = .ok (.invokevirtual 76, 3) := by decide +kernel
theorem dX9_trip_200 : decode cX9_trip 200 = .ok (.istore 5, 2) := by decide +kernel
theorem dX9_trip_202 : decode cX9_trip 202 = .ok (.iinc 6 (-1), 3) := by decide +kernel
theorem dX9_trip_205 : decode cX9_trip 205 = .ok (.goto (-170), 3) := by decide +kernel
theorem dX9_trip_208 : decode cX9_trip 208 = .ok (.iconst 1, 1) := by decide +kernel
theorem dX9_trip_209 : decode cX9_trip 209 = .ok (.ireturn, 1) := by decide +kernel
