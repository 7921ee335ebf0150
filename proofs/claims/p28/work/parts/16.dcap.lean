set_option maxRecDepth 20000 in
theorem gX8_zone_X8_needNumber : GoodIn wsX8_zone (va_wsS RX8 65 yX8_needNumber wsX8_needNumber) := goodIn_sub (fun w h => List.mem_cons_of_mem _ (List.mem_append_left _ (List.mem_append_left _ (List.mem_append_left _ (List.mem_append_right _ h))))) (by decide +kernel)
set_option maxRecDepth 20000 in
theorem gX8_zone_X8_needRange : GoodIn wsX8_zone (va_wsS RX8 69 yX8_needRange wsX8_needRange) := goodIn_sub (fun w h => List.mem_cons_of_mem _ (List.mem_append_left _ (List.mem_append_left _ (List.mem_append_right _ h)))) (by decide +kernel)
set_option maxRecDepth 20000 in
theorem gX8_zone_X5_at : GoodIn wsX8_zone (wsV RX8 77 RX5 yX5_at wsX5_at) := goodIn_sub (fun w h => List.mem_cons_of_mem _ (List.mem_append_left _ (List.mem_append_right _ h))) (by decide +kernel)
set_option maxRecDepth 20000 in
theorem gX8_zone_X5_put : GoodIn wsX8_zone (wsV RX8 83 RX5 yX5_put wsX5_put) := goodIn_sub (fun w h => List.mem_cons_of_mem _ (List.mem_append_right _ h)) (by decide +kernel)
theorem dX8_zone_0 : decode cX8_zone 0 = .ok (.iload_n 1, 1) := by decide +kernel
theorem dX8_zone_1 : decode cX8_zone 1 = .ok (.bipush 10, 2) := by decide +kernel
theorem dX8_zone_3 : decode cX8_zone 3 = .ok (.invokestatic 65, 3) := by decide +kernel
theorem dX8_zone_6 : decode cX8_zone 6 = .ok (.iload_n 2, 1) := by decide +kernel
theorem dX8_zone_7 : decode cX8_zone 7 = .ok (.iconst 1, 1) := by decide +kernel
theorem dX8_zone_8 : decode cX8_zone 8 = .ok (.iconst 4, 1) := by decide +kernel
theorem dX8_zone_9 : decode cX8_zone 9 = .ok (.invokestatic 69, 3) := by decide +kernel
theorem dX8_zone_12 : decode cX8_zone 12 = .ok (.aload_n 0, 1) := by decide +kernel
theorem dX8_zone_13 : decode cX8_zone 13 = .ok (.getfield 12, 3) := by decide +kernel
theorem dX8_zone_16 : decode cX8_zone 16 = .ok (.getfield 73, 3) := by decide +kernel
theorem dX8_zone_19 : decode cX8_zone 19 = .ok (.iload_n 1, 1) := by decide +kernel
theorem dX8_zone_20 : decode cX8_zone 20 = .ok (.invokevirtual 77, 3) := by decide +kernel
theorem dX8_zone_23 : decode cX8_zone 23 = .ok (.istore_n 3, 1) := by decide +kernel
theorem dX8_zone_24 : decode cX8_zone 24 = .ok (.aload_n 0, 1) := by decide +kernel
theorem dX8_zone_25 : decode cX8_zone 25 = .ok (.getfield 12, 3) := by decide +kernel
theorem dX8_zone_28 : decode cX8_zone 28 = .ok (.getfield 73, 3) := by decide +kernel
theorem dX8_zone_31 : decode cX8_zone 31 = .ok (.iload_n 1, 1) := by decide +kernel
theorem dX8_zone_32 : decode cX8_zone 32 = .ok (.iload_n 2, 1) := by decide +kernel
theorem dX8_zone_33 : decode cX8_zone 33 = .ok (.invokevirtual 83, 3) := by decide +kernel
theorem dX8_zone_36 : decode cX8_zone 36 = .ok (.iload_n 3, 1) := by decide +kernel
theorem dX8_zone_37 : decode cX8_zone 37 = .ok (.ireturn, 1) := by decide +kernel
set_option maxRecDepth 20000 in
theorem gX8_tariff_X8_needRange : GoodIn wsX8_tariff (va_wsS RX8 69 yX8_needRange wsX8_needRange) := goodIn_sub (fun w h => List.mem_cons_of_mem _ (List.mem_append_left _ (List.mem_append_right _ h))) (by decide +kernel)
set_option maxRecDepth 20000 in
theorem gX8_tariff_X7_add : GoodIn wsX8_tariff (wsV RX8 99 RX7 yX7_add wsX7_add) := goodIn_sub (fun w h => List.mem_cons_of_mem _ (List.mem_append_right _ h)) (by decide +kernel)
theorem dX8_tariff_0 : decode cX8_tariff 0 = .ok (.iload_n 1, 1) := by decide +kernel
theorem dX8_tariff_1 : decode cX8_tariff 1 = .ok (.iconst 0, 1) := by decide +kernel
theorem dX8_tariff_2 : decode cX8_tariff 2 = .ok (.bipush 27, 2) := by decide +kernel
theorem dX8_tariff_4 : decode cX8_tariff 4 = .ok (.invokestatic 69, 3) := by decide +kernel
theorem dX8_tariff_7 : decode cX8_tariff 7 = .ok (.iload_n 2, 1) := by decide +kernel
theorem dX8_tariff_8 : decode cX8_tariff 8 = .ok (.iconst 1, 1) := by decide +kernel
theorem dX8_tariff_9 : decode cX8_tariff 9 = .ok (.bipush 9, 2) := by decide +kernel
theorem dX8_tariff_11 : decode cX8_tariff 11 = .ok (.invokestatic 69, 3) := by decide +kernel
theorem dX8_tariff_14 : decode cX8_tariff 14 = .ok (.iload_n 3, 1) := by decide +kernel
theorem dX8_tariff_15 : decode cX8_tariff 15 = .ok (.iconst 0, 1) := by decide +kernel
theorem dX8_tariff_16 : decode cX8_tariff 16 = .ok (.iconst 5, 1) := by decide +kernel
theorem dX8_tariff_17 : decode cX8_tariff 17 = .ok (.invokestatic 69, 3) := by decide +kernel
theorem dX8_tariff_20 : decode cX8_tariff 20 = .ok (.iload 4, 2) := by decide +kernel
theorem dX8_tariff_22 : decode cX8_tariff 22 = .ok (.iconst 1, 1) := by decide +kernel
theorem dX8_tariff_23 : decode cX8_tariff 23 = .ok (.bipush 50, 2) := by decide +kernel
theorem dX8_tariff_25 : decode cX8_tariff 25 = .ok (.invokestatic 69, 3) := by decide +kernel
theorem dX8_tariff_28 : decode cX8_tariff 28 = .ok (.iload 5, 2) := by decide +kernel
theorem dX8_tariff_30 : decode cX8_tariff 30 = .ok (.iconst 1, 1) := by decide +kernel
theorem dX8_tariff_31 : decode cX8_tariff 31 = .ok (.sipush 200, 3) := by decide +kernel
theorem dX8_tariff_34 : decode cX8_tariff 34 = .ok (.invokestatic 69, 3) := by decide +kernel
theorem dX8_tariff_37 : decode cX8_tariff 37 = .ok (.aload_n 0, 1) := by decide +kernel
theorem dX8_tariff_38 : decode cX8_tariff 38 = .ok (.getfield 19, 3) := by decide +kernel
theorem dX8_tariff_41 : decode cX8_tariff 41 = .ok (.getfield 89, 3) := by decide +kernel
theorem dX8_tariff_44 : decode cX8_tariff 44 = .ok (.bipush 6, 2) := by decide +kernel
theorem dX8_tariff_46 : decode cX8_tariff 46 = .ok (.if_icmp .ge 11, 3) := by decide +kernel
theorem dX8_tariff_49 : decode cX8_tariff 49 = .ok (.iload_n 1, 1) := by decide +kernel
theorem dX8_tariff_50 : decode cX8_tariff 50 = .ok (.aload_n 0, 1) := by decide +kernel
theorem dX8_tariff_51 : decode cX8_tariff 51 = .ok (.getfield 58, 3) := by decide +kernel
theorem dX8_tariff_54 : decode cX8_tariff 54 = .ok (.if_icmp .ge 13, 3) := by decide +kernel
theorem dX8_tariff_57 : decode cX8_tariff 57 = .ok (.new 92, 3) := by decide +kernel
theorem dX8_tariff_60 : decode cX8_tariff 60 = .ok (.dup, 1) := by decide +kernel
theorem dX8_tariff_61 : decode cX8_tariff 61 = .ok (.ldc 94, 2) := by decide +kernel
theorem dX8_tariff_63 : decode cX8_tariff 63 = .ok (.invokespecial 96, 3) := by decide +kernel
theorem dX8_tariff_66 : decode cX8_tariff 66 = .ok (.athrow, 1) := by decide +kernel
theorem dX8_tariff_67 : decode cX8_tariff 67 = .ok (.aload_n 0, 1) := by decide +kernel
theorem dX8_tariff_68 : decode cX8_tariff 68 = .ok (.getfield 19, 3) := by decide +kernel
theorem dX8_tariff_71 : decode cX8_tariff 71 = .ok (.iload_n 1, 1) := by decide +kernel
theorem dX8_tariff_72 : decode cX8_tariff 72 = .ok (.iload_n 2, 1) := by decide +kernel
theorem dX8_tariff_73 : decode cX8_tariff 73 = .ok (.iload_n 3, 1) := by decide +kernel
theorem dX8_tariff_74 : decode cX8_tariff 74 = .ok (.iload 4, 2) := by decide +kernel
theorem dX8_tariff_76 : decode cX8_tariff 76 = .ok (.iload 5, 2) := by decide +kernel
theorem dX8_tariff_78 : decode cX8_tariff 78 = .ok (.invokevirtual 99, 3) := by decide +kernel
theorem dX8_tariff_81 : decode cX8_tariff 81 = .ok (.aload_n 0, 1) := by decide +kernel
theorem dX8_tariff_82 : decode cX8_tariff 82 = .ok (.getfield 19, 3) := by decide +kernel
theorem dX8_tariff_85 : decode cX8_tariff 85 = .ok (.getfield 89, 3) := by decide +kernel
theorem dX8_tariff_88 : decode cX8_tariff 88 = .ok (.ireturn, 1) := by decide +kernel
set_option maxRecDepth 20000 in
theorem gX8_card_X0_give : GoodIn wsX8_card (wsV RX8 106 RX0 yX0_give wsX0_give) := goodIn_sub (fun w h => List.mem_cons_of_mem _ (List.mem_append_right _ h)) (by decide +kernel)
theorem dX8_card_0 : decode cX8_card 0 = .ok (.aload_n 0, 1) := by decide +kernel
theorem dX8_card_1 : decode cX8_card 1 = .ok (.getfield 26, 3) := by decide +kernel
theorem dX8_card_4 : decode cX8_card 4 = .ok (.getfield 103, 3) := by decide +kernel
theorem dX8_card_7 : decode cX8_card 7 = .ok (.iconst 4, 1) := by decide +kernel
theorem dX8_card_8 : decode cX8_card 8 = .ok (.if_icmp .lt 13, 3) := by decide +kernel
theorem dX8_card_11 : decode cX8_card 11 = .ok (.new 92, 3) := by decide +kernel
theorem dX8_card_14 : decode cX8_card 14 = .ok (.dup, 1) := by decide +kernel
theorem dX8_card_15 : decode cX8_card 15 = .ok (.ldc 104, 2) := by decide +kernel
theorem dX8_card_17 : decode cX8_card 17 = .ok (.invokespecial 96, 3) := by decide +kernel
theorem dX8_card_20 : decode cX8_card 20 = .ok (.athrow, 1) := by decide +kernel
theorem dX8_card_21 : decode cX8_card 21 = .ok (.aload_n 0, 1) := by decide +kernel
theorem dX8_card_22 : decode cX8_card 22 = .ok (.getfield 26, 3) := by decide +kernel
theorem dX8_card_25 : decode cX8_card 25 = .ok (.invokevirtual 106, 3) := by decide +kernel
theorem dX8_card_28 : decode cX8_card 28 = .ok (.ireturn, 1) := by decide +kernel
set_option maxRecDepth 20000 in
theorem gX8_tap_X8_needTap : GoodIn wsX8_tap (wsV RX8 145 RX8 yX8_needTap wsX8_needTap) := goodIn_sub (fun w h => List.mem_cons_of_mem _ (List.mem_append_left _ (List.mem_append_left _ (List.mem_append_left _ (List.mem_append_right _ h))))) (by decide +kernel)
set_option maxRecDepth 20000 in
theorem gX8_tap_X0_isLost : GoodIn wsX8_tap (wsV RX8 131 RX0 yX0_isLost wsX0_isLost) := goodIn_sub (fun w h => List.mem_cons_of_mem _ (List.mem_append_left _ (List.mem_append_left _ (List.mem_append_right _ h)))) (by decide +kernel)
set_option maxRecDepth 20000 in
theorem gX8_tap_X6_write : GoodIn wsX8_tap (wsV RX8 152 RX6 yX6_write wsX6_write) := goodIn_sub (fun w h => List.mem_cons_of_mem _ (List.mem_append_left _ (List.mem_append_right _ h))) (by decide +kernel)
set_option maxRecDepth 20000 in
theorem gX8_tap_X6_isRepeated : GoodIn wsX8_tap (wsV RX8 156 RX6 yX6_isRepeated wsX6_isRepeated) := goodIn_sub (fun w h => List.mem_cons_of_mem _ (List.mem_append_right _ h)) (by decide +kernel)
theorem dX8_tap_0 : decode cX8_tap 0 = .ok (.aload_n 0, 1) := by decide +kernel
theorem dX8_tap_1 : decode cX8_tap 1 = .ok (.iload_n 1, 1) := by decide +kernel
theorem dX8_tap_2 : decode cX8_tap 2 = .ok (.iload_n 2, 1) := by decide +kernel
theorem dX8_tap_3 : decode cX8_tap 3 = .ok (.iload_n 3, 1) := by decide +kernel
theorem dX8_tap_4 : decode cX8_tap 4 = .ok (.iload 5, 2) := by decide +kernel
theorem dX8_tap_6 : decode cX8_tap 6 = .ok (.iload 6, 2) := by decide +kernel
theorem dX8_tap_8 : decode cX8_tap 8 = .ok (.invokevirtual 145, 3) := by decide +kernel
theorem dX8_tap_11 : decode cX8_tap 11 = .ok (.aload_n 0, 1) := by decide +kernel
theorem dX8_tap_12 : decode cX8_tap 12 = .ok (.getfield 26, 3) := by decide +kernel
theorem dX8_tap_15 : decode cX8_tap 15 = .ok (.iload_n 1, 1) := by decide +kernel
theorem dX8_tap_16 : decode cX8_tap 16 = .ok (.invokevirtual 131, 3) := by decide +kernel
theorem dX8_tap_19 : decode cX8_tap 19 = .ok (.ifCond .eq 19, 3) := by decide +kernel
theorem dX8_tap_22 : decode cX8_tap 22 = .ok (.aload_n 0, 1) := by decide +kernel
theorem dX8_tap_23 : decode cX8_tap 23 = .ok (.getfield 33, 3) := by decide +kernel
theorem dX8_tap_26 : decode cX8_tap 26 = .ok (.dup, 1) := by decide +kernel
theorem dX8_tap_27 : decode cX8_tap 27 = .ok (.getfield 148, 3) := by decide +kernel
theorem dX8_tap_30 : decode cX8_tap 30 = .ok (.iconst 1, 1) := by decide +kernel
theorem dX8_tap_31 : decode cX8_tap 31 = .ok (.iadd, 1) := by decide +kernel
theorem dX8_tap_32 : decode cX8_tap 32 = .ok (.putfield 148, 3) := by decide +kernel
theorem dX8_tap_35 : decode cX8_tap 35 = .ok (.bipush (-2), 2) := by decide +kernel
theorem dX8_tap_37 : decode cX8_tap 37 = .ok (.ireturn, 1) := by decide +kernel
theorem dX8_tap_38 : decode cX8_tap 38 = .ok (.aload_n 0, 1) := by decide +kernel
theorem dX8_tap_39 : decode cX8_tap 39 = .ok (.getfield 33, 3) := by decide +kernel
theorem dX8_tap_42 : decode cX8_tap 42 = .ok (.aload_n 0, 1) := by decide +kernel
theorem dX8_tap_43 : decode cX8_tap 43 = .ok (.getfield 33, 3) := by decide +kernel
theorem dX8_tap_46 : decode cX8_tap 46 = .ok (.getfield 151, 3) := by decide +kernel
theorem dX8_tap_49 : decode cX8_tap 49 = .ok (.iload_n 1, 1) := by decide +kernel
theorem dX8_tap_50 : decode cX8_tap 50 = .ok (.iload_n 2, 1) := by decide +kernel
theorem dX8_tap_51 : decode cX8_tap 51 = .ok (.iload_n 3, 1) := by decide +kernel
theorem dX8_tap_52 : decode cX8_tap 52 = .ok (.iload 4, 2) := by decide +kernel
theorem dX8_tap_54 : decode cX8_tap 54 = .ok (.iload 5, 2) := by decide +kernel
theorem dX8_tap_56 : decode cX8_tap 56 = .ok (.iload 6, 2) := by decide +kernel
theorem dX8_tap_58 : decode cX8_tap 58 = .ok (.invokevirtual 152, 3) := by decide +kernel
theorem dX8_tap_61 : decode cX8_tap 61 = .ok (.aload_n 0, 1) := by decide +kernel
theorem dX8_tap_62 : decode cX8_tap 62 = .ok (.getfield 33, 3) := by decide +kernel
theorem dX8_tap_65 : decode cX8_tap 65 = .ok (.aload_n 0, 1) := by decide +kernel
theorem dX8_tap_66 : decode cX8_tap 66 = .ok (.getfield 33, 3) := by decide +kernel
theorem dX8_tap_69 : decode cX8_tap 69 = .ok (.getfield 151, 3) := by decide +kernel
theorem dX8_tap_72 : decode cX8_tap 72 = .ok (.invokevirtual 156, 3) := by decide +kernel
theorem dX8_tap_75 : decode cX8_tap 75 = .ok (.ifCond .eq 19, 3) := by decide +kernel
theorem dX8_tap_78 : decode cX8_tap 78 = .ok (.aload_n 0, 1) := by decide +kernel
theorem dX8_tap_79 : decode cX8_tap 79 = .ok (.getfield 33, 3) := by decide +kernel
theorem dX8_tap_82 : decode cX8_tap 82 = .ok (.dup, 1) := by decide +kernel
theorem dX8_tap_83 : decode cX8_tap 83 = .ok (.getfield 159, 3) := by decide +kernel
theorem dX8_tap_86 : decode cX8_tap 86 = .ok (.iconst 1, 1) := by decide +kernel
theorem dX8_tap_87 : decode cX8_tap 87 = .ok (.iadd, 1) := by decide +kernel
theorem dX8_tap_88 : decode cX8_tap 88 = .ok (.putfield 159, 3) := by decide +kernel
theorem dX8_tap_91 : decode cX8_tap 91 = .ok (.bipush (-3), 2) := by decide +kernel
theorem dX8_tap_93 : decode cX8_tap 93 = .ok (.ireturn, 1) := by decide +kernel
theorem dX8_tap_94 : decode cX8_tap 94 = .ok (.aload_n 0, 1) := by decide +kernel
theorem dX8_tap_95 : decode cX8_tap 95 = .ok (.getfield 33, 3) := by decide +kernel
theorem dX8_tap_98 : decode cX8_tap 98 = .ok (.getfield 151, 3) := by decide +kernel
theorem dX8_tap_101 : decode cX8_tap 101 = .ok (.bipush 40, 2) := by decide +kernel
theorem dX8_tap_103 : decode cX8_tap 103 = .ok (.if_icmp .lt 13, 3) := by decide +kernel
theorem dX8_tap_106 : decode cX8_tap 106 = .ok (.new 92, 3) := by decide +kernel
theorem dX8_tap_109 : decode cX8_tap 109 = .ok (.dup, 1) := by decide +kernel
theorem dX8_tap_110 : decode cX8_tap 110 = .ok (.ldc 162, 2) := by decide +kernel
theorem dX8_tap_112 : decode cX8_tap 112 = .ok (.invokespecial 96, 3) := by decide +kernel
theorem dX8_tap_115 : decode cX8_tap 115 = .ok (.athrow, 1) := by decide +kernel
theorem dX8_tap_116 : decode cX8_tap 116 = .ok (.aload_n 0, 1) := by decide +kernel
theorem dX8_tap_117 : decode cX8_tap 117 = .ok (.getfield 33, 3) := by decide +kernel
theorem dX8_tap_120 : decode cX8_tap 120 = .ok (.dup, 1) := by decide +kernel
theorem dX8_tap_121 : decode cX8_tap 121 = .ok (.getfield 151, 3) := by decide +kernel
theorem dX8_tap_124 : decode cX8_tap 124 = .ok (.iconst 1, 1) := by decide +kernel
theorem dX8_tap_125 : decode cX8_tap 125 = .ok (.iadd, 1) := by decide +kernel
theorem dX8_tap_126 : decode cX8_tap 126 = .ok (.putfield 151, 3) := by decide +kernel
theorem dX8_tap_129 : decode cX8_tap 129 = .ok (.aload_n 0, 1) := by decide +kernel
theorem dX8_tap_130 : decode cX8_tap 130 = .ok (.getfield 33, 3) := by decide +kernel
theorem dX8_tap_133 : decode cX8_tap 133 = .ok (.getfield 151, 3) := by decide +kernel
theorem dX8_tap_136 : decode cX8_tap 136 = .ok (.ireturn, 1) := by decide +kernel
set_option maxRecDepth 20000 in
theorem gX8_close_X0_isPerson : GoodIn wsX8_close (wsV RX8 166 RX0 yX0_isPerson wsX0_isPerson) := goodIn_sub (fun w h => List.mem_cons_of_mem _ (List.mem_append_left _ (List.mem_append_left _ (List.mem_append_right _ h)))) (by decide +kernel)
set_option maxRecDepth 20000 in
theorem gX8_close_X8_dueUpTo : GoodIn wsX8_close (wsV RX8 169 RX8 yX8_dueUpTo wsX8_dueUpTo) := goodIn_sub (fun w h => List.mem_cons_of_mem _ (List.mem_append_left _ (List.mem_append_right _ h))) (by decide +kernel)
set_option maxRecDepth 20000 in
theorem gX8_close_X0_charge : GoodIn wsX8_close (wsV RX8 173 RX0 yX0_charge wsX0_charge) := goodIn_sub (fun w h => List.mem_cons_of_mem _ (List.mem_append_right _ h)) (by decide +kernel)
theorem dX8_close_0 : decode cX8_close 0 = .ok (.aload_n 0, 1) := by decide +kernel
theorem dX8_close_1 : decode cX8_close 1 = .ok (.getfield 58, 3) := by decide +kernel
theorem dX8_close_4 : decode cX8_close 4 = .ok (.bipush 28, 2) := by decide +kernel
theorem dX8_close_6 : decode cX8_close 6 = .ok (.if_icmp .lt 13, 3) := by decide +kernel
theorem dX8_close_9 : decode cX8_close 9 = .ok (.new 92, 3) := by decide +kernel
theorem dX8_close_12 : decode cX8_close 12 = .ok (.dup, 1) := by decide +kernel
theorem dX8_close_13 : decode cX8_close 13 = .ok (.ldc 164, 2) := by decide +kernel
theorem dX8_close_15 : decode cX8_close 15 = .ok (.invokespecial 96, 3) := by decide +kernel
theorem dX8_close_18 : decode cX8_close 18 = .ok (.athrow, 1) := by decide +kernel
theorem dX8_close_19 : decode cX8_close 19 = .ok (.iconst 0, 1) := by decide +kernel
theorem dX8_close_20 : decode cX8_close 20 = .ok (.istore_n 1, 1) := by decide +kernel
theorem dX8_close_21 : decode cX8_close 21 = .ok (.iconst 0, 1) := by decide +kernel
theorem dX8_close_22 : decode cX8_close 22 = .ok (.istore_n 2, 1) := by decide +kernel
theorem dX8_close_23 : decode cX8_close 23 = .ok (.iload_n 2, 1) := by decide +kernel
theorem dX8_close_24 : decode cX8_close 24 = .ok (.aload_n 0, 1) := by decide +kernel
theorem dX8_close_25 : decode cX8_close 25 = .ok (.getfield 26, 3) := by decide +kernel
theorem dX8_close_28 : decode cX8_close 28 = .ok (.getfield 103, 3) := by decide +kernel
theorem dX8_close_31 : decode cX8_close 31 = .ok (.if_icmp .ge 54, 3) := by decide +kernel
theorem dX8_close_34 : decode cX8_close 34 = .ok (.aload_n 0, 1) := by decide +kernel
theorem dX8_close_35 : decode cX8_close 35 = .ok (.getfield 26, 3) := by decide +kernel
theorem dX8_close_38 : decode cX8_close 38 = .ok (.iload_n 2, 1) := by decide +kernel
theorem dX8_close_39 : decode cX8_close 39 = .ok (.invokevirtual 166, 3) := by decide +kernel
theorem dX8_close_42 : decode cX8_close 42 = .ok (.ifCond .eq 37, 3) := by decide +kernel
theorem dX8_close_45 : decode cX8_close 45 = .ok (.aload_n 0, 1) := by decide +kernel
theorem dX8_close_46 : decode cX8_close 46 = .ok (.iload_n 2, 1) := by decide +kernel
theorem dX8_close_47 : decode cX8_close 47 = .ok (.aload_n 0, 1) := by decide +kernel
theorem dX8_close_48 : decode cX8_close 48 = .ok (.getfield 58, 3) := by decide +kernel
theorem dX8_close_51 : decode cX8_close 51 = .ok (.invokevirtual 169, 3) := by decide +kernel
theorem dX8_close_54 : decode cX8_close 54 = .ok (.istore_n 3, 1) := by decide +kernel
theorem dX8_close_55 : decode cX8_close 55 = .ok (.iload_n 3, 1) := by decide +kernel
theorem dX8_close_56 : decode cX8_close 56 = .ok (.ifCond .le 23, 3) := by decide +kernel
theorem dX8_close_59 : decode cX8_close 59 = .ok (.aload_n 0, 1) := by decide +kernel
theorem dX8_close_60 : decode cX8_close 60 = .ok (.getfield 26, 3) := by decide +kernel
theorem dX8_close_63 : decode cX8_close 63 = .ok (.iload_n 2, 1) := by decide +kernel
theorem dX8_close_64 : decode cX8_close 64 = .ok (.aload_n 0, 1) := by decide +kernel
theorem dX8_close_65 : decode cX8_close 65 = .ok (.getfield 58, 3) := by decide +kernel
theorem dX8_close_68 : decode cX8_close 68 = .ok (.bipush 7, 2) := by decide +kernel
theorem dX8_close_70 : decode cX8_close 70 = .ok (.idiv, 1) := by decide +kernel
theorem dX8_close_71 : decode cX8_close 71 = .ok (.iload_n 3, 1) := by decide +kernel
theorem dX8_close_72 : decode cX8_close 72 = .ok (.invokevirtual 173, 3) := by decide +kernel
theorem dX8_close_75 : decode cX8_close 75 = .ok (.iload_n 1, 1) := by decide +kernel
theorem dX8_close_76 : decode cX8_close 76 = .ok (.iload_n 3, 1) := by decide +kernel
theorem dX8_close_77 : decode cX8_close 77 = .ok (.iadd, 1) := by decide +kernel
theorem dX8_close_78 : decode cX8_close 78 = .ok (.istore_n 1, 1) := by decide +kernel
theorem dX8_close_79 : decode cX8_close 79 = .ok (.iinc 2 1, 3) := by decide +kernel
theorem dX8_close_82 : decode cX8_close 82 = .ok (.goto (-59), 3) := by decide +kernel
theorem dX8_close_85 : decode cX8_close 85 = .ok (.aload_n 0, 1) := by decide +kernel
theorem dX8_close_86 : decode cX8_close 86 = .ok (.dup, 1) := by decide +kernel
theorem dX8_close_87 : decode cX8_close 87 = .ok (.getfield 58, 3) := by decide +kernel
theorem dX8_close_90 : decode cX8_close 90 = .ok (.iconst 1, 1) := by decide +kernel
theorem dX8_close_91 : decode cX8_close 91 = .ok (.iadd, 1) := by decide +kernel
theorem dX8_close_92 : decode cX8_close 92 = .ok (.putfield 58, 3) := by decide +kernel
theorem dX8_close_95 : decode cX8_close 95 = .ok (.iload_n 1, 1) := by decide +kernel
theorem dX8_close_96 : decode cX8_close 96 = .ok (.ireturn, 1) := by decide +kernel
set_option maxRecDepth 20000 in
theorem gX8_settle_X8_needPerson : GoodIn wsX8_settle (wsV RX8 114 RX8 yX8_needPerson wsX8_needPerson) := goodIn_sub (fun w h => List.mem_cons_of_mem _ (List.mem_append_left _ (List.mem_append_left _ (List.mem_append_left _ (List.mem_append_right _ h))))) (by decide +kernel)
set_option maxRecDepth 20000 in
theorem gX8_settle_X8_needNumber : GoodIn wsX8_settle (va_wsS RX8 65 yX8_needNumber wsX8_needNumber) := goodIn_sub (fun w h => List.mem_cons_of_mem _ (List.mem_append_left _ (List.mem_append_left _ (List.mem_append_right _ h)))) (by decide +kernel)
set_option maxRecDepth 20000 in
theorem gX8_settle_X8_dueUpTo : GoodIn wsX8_settle (wsV RX8 169 RX8 yX8_dueUpTo wsX8_dueUpTo) := goodIn_sub (fun w h => List.mem_cons_of_mem _ (List.mem_append_left _ (List.mem_append_right _ h))) (by decide +kernel)
set_option maxRecDepth 20000 in
theorem gX8_settle_X0_charge : GoodIn wsX8_settle (wsV RX8 173 RX0 yX0_charge wsX0_charge) := goodIn_sub (fun w h => List.mem_cons_of_mem _ (List.mem_append_right _ h)) (by decide +kernel)
theorem dX8_settle_0 : decode cX8_settle 0 = .ok (.aload_n 0, 1) := by decide +kernel
theorem dX8_settle_1 : decode cX8_settle 1 = .ok (.iload_n 1, 1) := by decide +kernel
theorem dX8_settle_2 : decode cX8_settle 2 = .ok (.invokevirtual 114, 3) := by decide +kernel
theorem dX8_settle_5 : decode cX8_settle 5 = .ok (.iload_n 2, 1) := by decide +kernel
theorem dX8_settle_6 : decode cX8_settle 6 = .ok (.iconst 4, 1) := by decide +kernel
theorem dX8_settle_7 : decode cX8_settle 7 = .ok (.invokestatic 65, 3) := by decide +kernel
theorem dX8_settle_10 : decode cX8_settle 10 = .ok (.iload_n 2, 1) := by decide +kernel
theorem dX8_settle_11 : decode cX8_settle 11 = .ok (.bipush 7, 2) := by decide +kernel
theorem dX8_settle_13 : decode cX8_settle 13 = .ok (.imul, 1) := by decide +kernel
theorem dX8_settle_14 : decode cX8_settle 14 = .ok (.istore_n 3, 1) := by decide +kernel
theorem dX8_settle_15 : decode cX8_settle 15 = .ok (.aload_n 0, 1) := by decide +kernel
theorem dX8_settle_16 : decode cX8_settle 16 = .ok (.getfield 58, 3) := by decide +kernel
theorem dX8_settle_19 : decode cX8_settle 19 = .ok (.iload_n 3, 1) := by decide +kernel
theorem dX8_settle_20 : decode cX8_settle 20 = .ok (.if_icmp .gt 13, 3) := by decide +kernel
theorem dX8_settle_23 : decode cX8_settle 23 = .ok (.new 92, 3) := by decide +kernel
theorem dX8_settle_26 : decode cX8_settle 26 = .ok (.dup, 1) := by decide +kernel
theorem dX8_settle_27 : decode cX8_settle 27 = .ok (.ldc 176, 2) := by decide +kernel
theorem dX8_settle_29 : decode cX8_settle 29 = .ok (.invokespecial 96, 3) := by decide +kernel
theorem dX8_settle_32 : decode cX8_settle 32 = .ok (.athrow, 1) := by decide +kernel
theorem dX8_settle_33 : decode cX8_settle 33 = .ok (.aload_n 0, 1) := by decide +kernel
theorem dX8_settle_34 : decode cX8_settle 34 = .ok (.iload_n 1, 1) := by decide +kernel
theorem dX8_settle_35 : decode cX8_settle 35 = .ok (.aload_n 0, 1) := by decide +kernel
theorem dX8_settle_36 : decode cX8_settle 36 = .ok (.getfield 58, 3) := by decide +kernel
theorem dX8_settle_39 : decode cX8_settle 39 = .ok (.iload_n 3, 1) := by decide +kernel
theorem dX8_settle_40 : decode cX8_settle 40 = .ok (.bipush 7, 2) := by decide +kernel
theorem dX8_settle_42 : decode cX8_settle 42 = .ok (.iadd, 1) := by decide +kernel
theorem dX8_settle_43 : decode cX8_settle 43 = .ok (.invokestatic 178, 3) := by decide +kernel
theorem dX8_settle_46 : decode cX8_settle 46 = .ok (.iconst 1, 1) := by decide +kernel
theorem dX8_settle_47 : decode cX8_settle 47 = .ok (.isub, 1) := by decide +kernel
theorem dX8_settle_48 : decode cX8_settle 48 = .ok (.invokevirtual 169, 3) := by decide +kernel
theorem dX8_settle_51 : decode cX8_settle 51 = .ok (.istore 4, 2) := by decide +kernel
theorem dX8_settle_53 : decode cX8_settle 53 = .ok (.aload_n 0, 1) := by decide +kernel
theorem dX8_settle_54 : decode cX8_settle 54 = .ok (.getfield 26, 3) := by decide +kernel
theorem dX8_settle_57 : decode cX8_settle 57 = .ok (.iload_n 1, 1) := by decide +kernel
theorem dX8_settle_58 : decode cX8_settle 58 = .ok (.iload_n 2, 1) := by decide +kernel
theorem dX8_settle_59 : decode cX8_settle 59 = .ok (.iload 4, 2) := by decide +kernel
theorem dX8_settle_61 : decode cX8_settle 61 = .ok (.invokevirtual 173, 3) := by decide +kernel
theorem dX8_settle_64 : decode cX8_settle 64 = .ok (.iload 4, 2) := by decide +kernel
theorem dX8_settle_66 : decode cX8_settle 66 = .ok (.ireturn, 1) := by decide +kernel
set_option maxRecDepth 20000 in
theorem gX8_ofCard_X8_needCard : GoodIn wsX8_ofCard (wsV RX8 110 RX8 yX8_needCard wsX8_needCard) := goodIn_sub (fun w h => List.mem_cons_of_mem _ (List.mem_append_left _ (List.mem_append_left _ (List.mem_append_right _ h)))) (by decide +kernel)
set_option maxRecDepth 20000 in
theorem gX8_ofCard_X8_needRange : GoodIn wsX8_ofCard (va_wsS RX8 69 yX8_needRange wsX8_needRange) := goodIn_sub (fun w h => List.mem_cons_of_mem _ (List.mem_append_left _ (List.mem_append_right _ h))) (by decide +kernel)
set_option maxRecDepth 20000 in
theorem gX8_ofCard_X8_cardAnswer : GoodIn wsX8_ofCard (wsV RX8 194 RX8 yX8_cardAnswer wsX8_cardAnswer) := goodIn_sub (fun w h => List.mem_cons_of_mem _ (List.mem_append_right _ h)) (by decide +kernel)
theorem dX8_ofCard_0 : decode cX8_ofCard 0 = .ok (.aload_n 0, 1) := by decide +kernel
theorem dX8_ofCard_1 : decode cX8_ofCard 1 = .ok (.iload_n 1, 1) := by decide +kernel
theorem dX8_ofCard_2 : decode cX8_ofCard 2 = .ok (.invokevirtual 110, 3) := by decide +kernel
theorem dX8_ofCard_5 : decode cX8_ofCard 5 = .ok (.iload_n 2, 1) := by decide +kernel
theorem dX8_ofCard_6 : decode cX8_ofCard 6 = .ok (.iconst 0, 1) := by decide +kernel
theorem dX8_ofCard_7 : decode cX8_ofCard 7 = .ok (.bipush 7, 2) := by decide +kernel
theorem dX8_ofCard_9 : decode cX8_ofCard 9 = .ok (.invokestatic 69, 3) := by decide +kernel
theorem dX8_ofCard_12 : decode cX8_ofCard 12 = .ok (.aload_n 0, 1) := by decide +kernel
theorem dX8_ofCard_13 : decode cX8_ofCard 13 = .ok (.iload_n 1, 1) := by decide +kernel
theorem dX8_ofCard_14 : decode cX8_ofCard 14 = .ok (.iload_n 2, 1) := by decide +kernel
theorem dX8_ofCard_15 : decode cX8_ofCard 15 = .ok (.invokevirtual 194, 3) := by decide +kernel
theorem dX8_ofCard_18 : decode cX8_ofCard 18 = .ok (.ireturn, 1) := by decide +kernel
set_option maxRecDepth 20000 in
theorem gX8_ofDay_X8_needPerson : GoodIn wsX8_ofDay (wsV RX8 114 RX8 yX8_needPerson wsX8_needPerson) := goodIn_sub (fun w h => List.mem_cons_of_mem _ (List.mem_append_left _ (List.mem_append_left _ (List.mem_append_left _ (List.mem_append_left _ (List.mem_append_right _ h)))))) (by decide +kernel)
set_option maxRecDepth 20000 in
theorem gX8_ofDay_X8_needNumber : GoodIn wsX8_ofDay (va_wsS RX8 65 yX8_needNumber wsX8_needNumber) := goodIn_sub (fun w h => List.mem_cons_of_mem _ (List.mem_append_left _ (List.mem_append_left _ (List.mem_append_left _ (List.mem_append_right _ h))))) (by decide +kernel)
set_option maxRecDepth 20000 in
theorem gX8_ofDay_X8_needRange : GoodIn wsX8_ofDay (va_wsS RX8 69 yX8_needRange wsX8_needRange) := goodIn_sub (fun w h => List.mem_cons_of_mem _ (List.mem_append_left _ (List.mem_append_left _ (List.mem_append_right _ h)))) (by decide +kernel)
set_option maxRecDepth 20000 in
theorem gX8_ofDay_X8_study : GoodIn wsX8_ofDay (wsV RX8 188 RX8 yX8_study wsX8_study) := goodIn_sub (fun w h => List.mem_cons_of_mem _ (List.mem_append_left _ (List.mem_append_right _ h))) (by decide +kernel)
set_option maxRecDepth 20000 in
theorem gX8_ofDay_X8_dayAnswer : GoodIn wsX8_ofDay (wsV RX8 197 RX8 yX8_dayAnswer wsX8_dayAnswer) := goodIn_sub (fun w h => List.mem_cons_of_mem _ (List.mem_append_right _ h)) (by decide +kernel)
theorem dX8_ofDay_0 : decode cX8_ofDay 0 = .ok (.aload_n 0, 1) := by decide +kernel
theorem dX8_ofDay_1 : decode cX8_ofDay 1 = .ok (.iload_n 1, 1) := by decide +kernel
theorem dX8_ofDay_2 : decode cX8_ofDay 2 = .ok (.invokevirtual 114, 3) := by decide +kernel
theorem dX8_ofDay_5 : decode cX8_ofDay 5 = .ok (.iload_n 2, 1) := by decide +kernel
theorem dX8_ofDay_6 : decode cX8_ofDay 6 = .ok (.bipush 28, 2) := by decide +kernel
theorem dX8_ofDay_8 : decode cX8_ofDay 8 = .ok (.invokestatic 65, 3) := by decide +kernel
theorem dX8_ofDay_11 : decode cX8_ofDay 11 = .ok (.iload_n 3, 1) := by decide +kernel
theorem dX8_ofDay_12 : decode cX8_ofDay 12 = .ok (.iconst 0, 1) := by decide +kernel
theorem dX8_ofDay_13 : decode cX8_ofDay 13 = .ok (.bipush 7, 2) := by decide +kernel
theorem dX8_ofDay_15 : decode cX8_ofDay 15 = .ok (.invokestatic 69, 3) := by decide +kernel
theorem dX8_ofDay_18 : decode cX8_ofDay 18 = .ok (.aload_n 0, 1) := by decide +kernel
theorem dX8_ofDay_19 : decode cX8_ofDay 19 = .ok (.iload_n 1, 1) := by decide +kernel
theorem dX8_ofDay_20 : decode cX8_ofDay 20 = .ok (.aload_n 0, 1) := by decide +kernel
theorem dX8_ofDay_21 : decode cX8_ofDay 21 = .ok (.getfield 33, 3) := by decide +kernel
theorem dX8_ofDay_24 : decode cX8_ofDay 24 = .ok (.getfield 151, 3) := by decide +kernel
theorem dX8_ofDay_27 : decode cX8_ofDay 27 = .ok (.iconst (-1), 1) := by decide +kernel
theorem dX8_ofDay_28 : decode cX8_ofDay 28 = .ok (.invokevirtual 188, 3) := by decide +kernel
theorem dX8_ofDay_31 : decode cX8_ofDay 31 = .ok (.aload_n 0, 1) := by decide +kernel
theorem dX8_ofDay_32 : decode cX8_ofDay 32 = .ok (.iload_n 2, 1) := by decide +kernel
theorem dX8_ofDay_33 : decode cX8_ofDay 33 = .ok (.iload_n 3, 1) := by decide +kernel
theorem dX8_ofDay_34 : decode cX8_ofDay 34 = .ok (.invokevirtual 197, 3) := by decide +kernel
theorem dX8_ofDay_37 : decode cX8_ofDay 37 = .ok (.ireturn, 1) := by decide +kernel
set_option maxRecDepth 20000 in
theorem gX8_ofLeg_X8_needPerson : GoodIn wsX8_ofLeg (wsV RX8 114 RX8 yX8_needPerson wsX8_needPerson) := goodIn_sub (fun w h => List.mem_cons_of_mem _ (List.mem_append_left _ (List.mem_append_left _ (List.mem_append_left _ (List.mem_append_left _ (List.mem_append_left _ (List.mem_append_right _ h))))))) (by decide +kernel)
set_option maxRecDepth 20000 in
theorem gX8_ofLeg_X8_needNumber : GoodIn wsX8_ofLeg (va_wsS RX8 65 yX8_needNumber wsX8_needNumber) := goodIn_sub (fun w h => List.mem_cons_of_mem _ (List.mem_append_left _ (List.mem_append_left _ (List.mem_append_left _ (List.mem_append_left _ (List.mem_append_right _ h)))))) (by decide +kernel)
set_option maxRecDepth 20000 in
theorem gX8_ofLeg_X8_study : GoodIn wsX8_ofLeg (wsV RX8 188 RX8 yX8_study wsX8_study) := goodIn_sub (fun w h => List.mem_cons_of_mem _ (List.mem_append_left _ (List.mem_append_left _ (List.mem_append_left _ (List.mem_append_right _ h))))) (by decide +kernel)
set_option maxRecDepth 20000 in
theorem gX8_ofLeg_X5_at : GoodIn wsX8_ofLeg (wsV RX8 77 RX5 yX5_at wsX5_at) := goodIn_sub (fun w h => List.mem_cons_of_mem _ (List.mem_append_left _ (List.mem_append_left _ (List.mem_append_right _ h)))) (by decide +kernel)
set_option maxRecDepth 20000 in
theorem gX8_ofLeg_X8_needRange : GoodIn wsX8_ofLeg (va_wsS RX8 69 yX8_needRange wsX8_needRange) := goodIn_sub (fun w h => List.mem_cons_of_mem _ (List.mem_append_left _ (List.mem_append_right _ h))) (by decide +kernel)
set_option maxRecDepth 20000 in
theorem gX8_ofLeg_X8_legAnswer : GoodIn wsX8_ofLeg (wsV RX8 206 RX8 yX8_legAnswer wsX8_legAnswer) := goodIn_sub (fun w h => List.mem_cons_of_mem _ (List.mem_append_right _ h)) (by decide +kernel)
theorem dX8_ofLeg_0 : decode cX8_ofLeg 0 = .ok (.aload_n 0, 1) := by decide +kernel
theorem dX8_ofLeg_1 : decode cX8_ofLeg 1 = .ok (.iload_n 1, 1) := by decide +kernel
theorem dX8_ofLeg_2 : decode cX8_ofLeg 2 = .ok (.invokevirtual 114, 3) := by decide +kernel
theorem dX8_ofLeg_5 : decode cX8_ofLeg 5 = .ok (.iload_n 2, 1) := by decide +kernel
theorem dX8_ofLeg_6 : decode cX8_ofLeg 6 = .ok (.bipush 28, 2) := by decide +kernel
theorem dX8_ofLeg_8 : decode cX8_ofLeg 8 = .ok (.invokestatic 65, 3) := by decide +kernel
theorem dX8_ofLeg_11 : decode cX8_ofLeg 11 = .ok (.aload_n 0, 1) := by decide +kernel
theorem dX8_ofLeg_12 : decode cX8_ofLeg 12 = .ok (.iload_n 1, 1) := by decide +kernel
theorem dX8_ofLeg_13 : decode cX8_ofLeg 13 = .ok (.aload_n 0, 1) := by decide +kernel
theorem dX8_ofLeg_14 : decode cX8_ofLeg 14 = .ok (.getfield 33, 3) := by decide +kernel
theorem dX8_ofLeg_17 : decode cX8_ofLeg 17 = .ok (.getfield 151, 3) := by decide +kernel
theorem dX8_ofLeg_20 : decode cX8_ofLeg 20 = .ok (.iconst (-1), 1) := by decide +kernel
theorem dX8_ofLeg_21 : decode cX8_ofLeg 21 = .ok (.invokevirtual 188, 3) := by decide +kernel
theorem dX8_ofLeg_24 : decode cX8_ofLeg 24 = .ok (.iload_n 3, 1) := by decide +kernel
theorem dX8_ofLeg_25 : decode cX8_ofLeg 25 = .ok (.aload_n 0, 1) := by decide +kernel
theorem dX8_ofLeg_26 : decode cX8_ofLeg 26 = .ok (.getfield 40, 3) := by decide +kernel
theorem dX8_ofLeg_29 : decode cX8_ofLeg 29 = .ok (.getfield 200, 3) := by decide +kernel
theorem dX8_ofLeg_32 : decode cX8_ofLeg 32 = .ok (.iload_n 2, 1) := by decide +kernel
theorem dX8_ofLeg_33 : decode cX8_ofLeg 33 = .ok (.invokevirtual 77, 3) := by decide +kernel
theorem dX8_ofLeg_36 : decode cX8_ofLeg 36 = .ok (.invokestatic 65, 3) := by decide +kernel
theorem dX8_ofLeg_39 : decode cX8_ofLeg 39 = .ok (.iload 4, 2) := by decide +kernel
theorem dX8_ofLeg_41 : decode cX8_ofLeg 41 = .ok (.iconst 0, 1) := by decide +kernel
theorem dX8_ofLeg_42 : decode cX8_ofLeg 42 = .ok (.bipush 6, 2) := by decide +kernel
theorem dX8_ofLeg_44 : decode cX8_ofLeg 44 = .ok (.invokestatic 69, 3) := by decide +kernel
theorem dX8_ofLeg_47 : decode cX8_ofLeg 47 = .ok (.aload_n 0, 1) := by decide +kernel
theorem dX8_ofLeg_48 : decode cX8_ofLeg 48 = .ok (.aload_n 0, 1) := by decide +kernel
theorem dX8_ofLeg_49 : decode cX8_ofLeg 49 = .ok (.getfield 40, 3) := by decide +kernel
theorem dX8_ofLeg_52 : decode cX8_ofLeg 52 = .ok (.getfield 203, 3) := by decide +kernel
theorem dX8_ofLeg_55 : decode cX8_ofLeg 55 = .ok (.iload_n 2, 1) := by decide +kernel
theorem dX8_ofLeg_56 : decode cX8_ofLeg 56 = .ok (.invokevirtual 77, 3) := by decide +kernel
theorem dX8_ofLeg_59 : decode cX8_ofLeg 59 = .ok (.iload_n 3, 1) := by decide +kernel
theorem dX8_ofLeg_60 : decode cX8_ofLeg 60 = .ok (.iadd, 1) := by decide +kernel
theorem dX8_ofLeg_61 : decode cX8_ofLeg 61 = .ok (.iload 4, 2) := by decide +kernel
theorem dX8_ofLeg_63 : decode cX8_ofLeg 63 = .ok (.invokevirtual 206, 3) := by decide +kernel
theorem dX8_ofLeg_66 : decode cX8_ofLeg 66 = .ok (.ireturn, 1) := by decide +kernel
set_option maxRecDepth 20000 in
theorem gX8_ofWeek_X8_needPerson : GoodIn wsX8_ofWeek (wsV RX8 114 RX8 yX8_needPerson wsX8_needPerson) := goodIn_sub (fun w h => List.mem_cons_of_mem _ (List.mem_append_left _ (List.mem_append_left _ (List.mem_append_left _ (List.mem_append_left _ (List.mem_append_right _ h)))))) (by decide +kernel)
set_option maxRecDepth 20000 in
theorem gX8_ofWeek_X8_needNumber : GoodIn wsX8_ofWeek (va_wsS RX8 65 yX8_needNumber wsX8_needNumber) := goodIn_sub (fun w h => List.mem_cons_of_mem _ (List.mem_append_left _ (List.mem_append_left _ (List.mem_append_left _ (List.mem_append_right _ h))))) (by decide +kernel)
set_option maxRecDepth 20000 in
theorem gX8_ofWeek_X8_needRange : GoodIn wsX8_ofWeek (va_wsS RX8 69 yX8_needRange wsX8_needRange) := goodIn_sub (fun w h => List.mem_cons_of_mem _ (List.mem_append_left _ (List.mem_append_left _ (List.mem_append_right _ h)))) (by decide +kernel)
set_option maxRecDepth 20000 in
theorem gX8_ofWeek_X8_study : GoodIn wsX8_ofWeek (wsV RX8 188 RX8 yX8_study wsX8_study) := goodIn_sub (fun w h => List.mem_cons_of_mem _ (List.mem_append_left _ (List.mem_append_right _ h))) (by decide +kernel)
set_option maxRecDepth 20000 in
theorem gX8_ofWeek_X8_weekAnswer : GoodIn wsX8_ofWeek (wsV RX8 214 RX8 yX8_weekAnswer wsX8_weekAnswer) := goodIn_sub (fun w h => List.mem_cons_of_mem _ (List.mem_append_right _ h)) (by decide +kernel)
theorem dX8_ofWeek_0 : decode cX8_ofWeek 0 = .ok (.aload_n 0, 1) := by decide +kernel
theorem dX8_ofWeek_1 : decode cX8_ofWeek 1 = .ok (.iload_n 1, 1) := by decide +kernel
theorem dX8_ofWeek_2 : decode cX8_ofWeek 2 = .ok (.invokevirtual 114, 3) := by decide +kernel
theorem dX8_ofWeek_5 : decode cX8_ofWeek 5 = .ok (.iload_n 2, 1) := by decide +kernel
theorem dX8_ofWeek_6 : decode cX8_ofWeek 6 = .ok (.iconst 4, 1) := by decide +kernel
theorem dX8_ofWeek_7 : decode cX8_ofWeek 7 = .ok (.invokestatic 65, 3) := by decide +kernel
theorem dX8_ofWeek_10 : decode cX8_ofWeek 10 = .ok (.iload_n 3, 1) := by decide +kernel
theorem dX8_ofWeek_11 : decode cX8_ofWeek 11 = .ok (.iconst 0, 1) := by decide +kernel
theorem dX8_ofWeek_12 : decode cX8_ofWeek 12 = .ok (.iconst 2, 1) := by decide +kernel
theorem dX8_ofWeek_13 : decode cX8_ofWeek 13 = .ok (.invokestatic 69, 3) := by decide +kernel
theorem dX8_ofWeek_16 : decode cX8_ofWeek 16 = .ok (.aload_n 0, 1) := by decide +kernel
theorem dX8_ofWeek_17 : decode cX8_ofWeek 17 = .ok (.iload_n 1, 1) := by decide +kernel
theorem dX8_ofWeek_18 : decode cX8_ofWeek 18 = .ok (.aload_n 0, 1) := by decide +kernel
theorem dX8_ofWeek_19 : decode cX8_ofWeek 19 = .ok (.getfield 33, 3) := by decide +kernel
theorem dX8_ofWeek_22 : decode cX8_ofWeek 22 = .ok (.getfield 151, 3) := by decide +kernel
theorem dX8_ofWeek_25 : decode cX8_ofWeek 25 = .ok (.iconst (-1), 1) := by decide +kernel
theorem dX8_ofWeek_26 : decode cX8_ofWeek 26 = .ok (.invokevirtual 188, 3) := by decide +kernel
theorem dX8_ofWeek_29 : decode cX8_ofWeek 29 = .ok (.aload_n 0, 1) := by decide +kernel
theorem dX8_ofWeek_30 : decode cX8_ofWeek 30 = .ok (.iload_n 2, 1) := by decide +kernel
theorem dX8_ofWeek_31 : decode cX8_ofWeek 31 = .ok (.iload_n 3, 1) := by decide +kernel
theorem dX8_ofWeek_32 : decode cX8_ofWeek 32 = .ok (.invokevirtual 214, 3) := by decide +kernel
theorem dX8_ofWeek_35 : decode cX8_ofWeek 35 = .ok (.ireturn, 1) := by decide +kernel
set_option maxRecDepth 20000 in
theorem gX8_many_X8_needRange : GoodIn wsX8_many (va_wsS RX8 69 yX8_needRange wsX8_needRange) := goodIn_sub (fun w h => List.mem_cons_of_mem _ (List.mem_append_left _ (List.mem_append_right _ h))) (by decide +kernel)
set_option maxRecDepth 20000 in
theorem gX8_many_X8_manyAnswer : GoodIn wsX8_many (wsV RX8 224 RX8 yX8_manyAnswer wsX8_manyAnswer) := goodIn_sub (fun w h => List.mem_cons_of_mem _ (List.mem_append_right _ h)) (by decide +kernel)
theorem dX8_many_0 : decode cX8_many 0 = .ok (.iload_n 1, 1) := by decide +kernel
theorem dX8_many_1 : decode cX8_many 1 = .ok (.iconst 0, 1) := by decide +kernel
theorem dX8_many_2 : decode cX8_many 2 = .ok (.bipush 8, 2) := by decide +kernel
theorem dX8_many_4 : decode cX8_many 4 = .ok (.invokestatic 69, 3) := by decide +kernel
theorem dX8_many_7 : decode cX8_many 7 = .ok (.aload_n 0, 1) := by decide +kernel
theorem dX8_many_8 : decode cX8_many 8 = .ok (.iload_n 1, 1) := by decide +kernel
theorem dX8_many_9 : decode cX8_many 9 = .ok (.invokevirtual 224, 3) := by decide +kernel
theorem dX8_many_12 : decode cX8_many 12 = .ok (.ireturn, 1) := by decide +kernel
set_option maxRecDepth 20000 in
theorem gX8_wouldCost_X8_needTap : GoodIn wsX8_wouldCost (wsV RX8 145 RX8 yX8_needTap wsX8_needTap) := goodIn_sub (fun w h => List.mem_cons_of_mem _ (List.mem_append_left _ (List.mem_append_left _ (List.mem_append_left _ (List.mem_append_right _ h))))) (by decide +kernel)
set_option maxRecDepth 20000 in
theorem gX8_wouldCost_X5_at : GoodIn wsX8_wouldCost (wsV RX8 77 RX5 yX5_at wsX5_at) := goodIn_sub (fun w h => List.mem_cons_of_mem _ (List.mem_append_left _ (List.mem_append_left _ (List.mem_append_right _ h)))) (by decide +kernel)
set_option maxRecDepth 20000 in
theorem gX8_wouldCost_X8_costOfWeek : GoodIn wsX8_wouldCost (wsV RX8 230 RX8 yX8_costOfWeek wsX8_costOfWeek) := goodIn_sub (fun w h => List.mem_cons_of_mem _ (List.mem_append_left _ (List.mem_append_right _ h))) (by decide +kernel)
set_option maxRecDepth 20000 in
theorem gX8_wouldCost_X6_write : GoodIn wsX8_wouldCost (wsV RX8 152 RX6 yX6_write wsX6_write) := goodIn_sub (fun w h => List.mem_cons_of_mem _ (List.mem_append_right _ h)) (by decide +kernel)
theorem dX8_wouldCost_0 : decode cX8_wouldCost 0 = .ok (.aload_n 0, 1) := by decide +kernel
theorem dX8_wouldCost_1 : decode cX8_wouldCost 1 = .ok (.iload_n 1, 1) := by decide +kernel
theorem dX8_wouldCost_2 : decode cX8_wouldCost 2 = .ok (.iload_n 2, 1) := by decide +kernel
theorem dX8_wouldCost_3 : decode cX8_wouldCost 3 = .ok (.iload_n 3, 1) := by decide +kernel
theorem dX8_wouldCost_4 : decode cX8_wouldCost 4 = .ok (.iload 5, 2) := by decide +kernel
theorem dX8_wouldCost_6 : decode cX8_wouldCost 6 = .ok (.iload 6, 2) := by decide +kernel
theorem dX8_wouldCost_8 : decode cX8_wouldCost 8 = .ok (.invokevirtual 145, 3) := by decide +kernel
theorem dX8_wouldCost_11 : decode cX8_wouldCost 11 = .ok (.aload_n 0, 1) := by decide +kernel
theorem dX8_wouldCost_12 : decode cX8_wouldCost 12 = .ok (.getfield 26, 3) := by decide +kernel
theorem dX8_wouldCost_15 : decode cX8_wouldCost 15 = .ok (.getfield 128, 3) := by decide +kernel
theorem dX8_wouldCost_18 : decode cX8_wouldCost 18 = .ok (.iload_n 1, 1) := by decide +kernel
theorem dX8_wouldCost_19 : decode cX8_wouldCost 19 = .ok (.invokevirtual 77, 3) := by decide +kernel
theorem dX8_wouldCost_22 : decode cX8_wouldCost 22 = .ok (.istore 7, 2) := by decide +kernel
theorem dX8_wouldCost_24 : decode cX8_wouldCost 24 = .ok (.iload 5, 2) := by decide +kernel
theorem dX8_wouldCost_26 : decode cX8_wouldCost 26 = .ok (.bipush 7, 2) := by decide +kernel
theorem dX8_wouldCost_28 : decode cX8_wouldCost 28 = .ok (.idiv, 1) := by decide +kernel
theorem dX8_wouldCost_29 : decode cX8_wouldCost 29 = .ok (.istore 8, 2) := by decide +kernel
theorem dX8_wouldCost_31 : decode cX8_wouldCost 31 = .ok (.aload_n 0, 1) := by decide +kernel
theorem dX8_wouldCost_32 : decode cX8_wouldCost 32 = .ok (.iload 7, 2) := by decide +kernel
theorem dX8_wouldCost_34 : decode cX8_wouldCost 34 = .ok (.iload 8, 2) := by decide +kernel
theorem dX8_wouldCost_36 : decode cX8_wouldCost 36 = .ok (.aload_n 0, 1) := by decide +kernel
theorem dX8_wouldCost_37 : decode cX8_wouldCost 37 = .ok (.getfield 33, 3) := by decide +kernel
theorem dX8_wouldCost_40 : decode cX8_wouldCost 40 = .ok (.getfield 151, 3) := by decide +kernel
theorem dX8_wouldCost_43 : decode cX8_wouldCost 43 = .ok (.iconst (-1), 1) := by decide +kernel
theorem dX8_wouldCost_44 : decode cX8_wouldCost 44 = .ok (.invokevirtual 230, 3) := by decide +kernel
theorem dX8_wouldCost_47 : decode cX8_wouldCost 47 = .ok (.istore 9, 2) := by decide +kernel
theorem dX8_wouldCost_49 : decode cX8_wouldCost 49 = .ok (.aload_n 0, 1) := by decide +kernel
theorem dX8_wouldCost_50 : decode cX8_wouldCost 50 = .ok (.getfield 33, 3) := by decide +kernel
theorem dX8_wouldCost_53 : decode cX8_wouldCost 53 = .ok (.aload_n 0, 1) := by decide +kernel
theorem dX8_wouldCost_54 : decode cX8_wouldCost 54 = .ok (.getfield 33, 3) := by decide +kernel
theorem dX8_wouldCost_57 : decode cX8_wouldCost 57 = .ok (.getfield 151, 3) := by decide +kernel
theorem dX8_wouldCost_60 : decode cX8_wouldCost 60 = .ok (.iload_n 1, 1) := by decide +kernel
theorem dX8_wouldCost_61 : decode cX8_wouldCost 61 = .ok (.iload_n 2, 1) := by decide +kernel
theorem dX8_wouldCost_62 : decode cX8_wouldCost 62 = .ok (.iload_n 3, 1) := by decide +kernel
theorem dX8_wouldCost_63 : decode cX8_wouldCost 63 = .ok (.iload 4, 2) := by decide +kernel
theorem dX8_wouldCost_65 : decode cX8_wouldCost 65 = .ok (.iload 5, 2) := by decide +kernel
theorem dX8_wouldCost_67 : decode cX8_wouldCost 67 = .ok (.iload 6, 2) := by decide +kernel
theorem dX8_wouldCost_69 : decode cX8_wouldCost 69 = .ok (.invokevirtual 152, 3) := by decide +kernel
theorem dX8_wouldCost_72 : decode cX8_wouldCost 72 = .ok (.aload_n 0, 1) := by decide +kernel
theorem dX8_wouldCost_73 : decode cX8_wouldCost 73 = .ok (.iload 7, 2) := by decide +kernel
theorem dX8_wouldCost_75 : decode cX8_wouldCost 75 = .ok (.iload 8, 2) := by decide +kernel
theorem dX8_wouldCost_77 : decode cX8_wouldCost 77 = .ok (.aload_n 0, 1) := by decide +kernel
theorem dX8_wouldCost_78 : decode cX8_wouldCost 78 = .ok (.getfield 33, 3) := by decide +kernel
theorem dX8_wouldCost_81 : decode cX8_wouldCost 81 = .ok (.getfield 151, 3) := by decide +kernel
theorem dX8_wouldCost_84 : decode cX8_wouldCost 84 = .ok (.iconst 1, 1) := by decide +kernel
theorem dX8_wouldCost_85 : decode cX8_wouldCost 85 = .ok (.iadd, 1) := by decide +kernel
theorem dX8_wouldCost_86 : decode cX8_wouldCost 86 = .ok (.iconst (-1), 1) := by decide +kernel
theorem dX8_wouldCost_87 : decode cX8_wouldCost 87 = .ok (.invokevirtual 230, 3) := by decide +kernel
theorem dX8_wouldCost_90 : decode cX8_wouldCost 90 = .ok (.iload 9, 2) := by decide +kernel
theorem dX8_wouldCost_92 : decode cX8_wouldCost 92 = .ok (.isub, 1) := by decide +kernel
theorem dX8_wouldCost_93 : decode cX8_wouldCost 93 = .ok (.ireturn, 1) := by decide +kernel
set_option maxRecDepth 20000 in
theorem gX8_guess_X8_needPerson : GoodIn wsX8_guess (wsV RX8 114 RX8 yX8_needPerson wsX8_needPerson) := goodIn_sub (fun w h => List.mem_cons_of_mem _ (List.mem_append_left _ (List.mem_append_left _ (List.mem_append_left _ (List.mem_append_right _ h))))) (by decide +kernel)
set_option maxRecDepth 20000 in
theorem gX8_guess_X8_needNumber : GoodIn wsX8_guess (va_wsS RX8 65 yX8_needNumber wsX8_needNumber) := goodIn_sub (fun w h => List.mem_cons_of_mem _ (List.mem_append_left _ (List.mem_append_left _ (List.mem_append_right _ h)))) (by decide +kernel)
set_option maxRecDepth 20000 in
theorem gX8_guess_X8_study : GoodIn wsX8_guess (wsV RX8 188 RX8 yX8_study wsX8_study) := goodIn_sub (fun w h => List.mem_cons_of_mem _ (List.mem_append_left _ (List.mem_append_right _ h))) (by decide +kernel)
set_option maxRecDepth 20000 in
theorem gX8_guess_X3_likeliest : GoodIn wsX8_guess (wsV RX8 234 RX3 yX3_likeliest wsX3_likeliest) := goodIn_sub (fun w h => List.mem_cons_of_mem _ (List.mem_append_right _ h)) (by decide +kernel)
theorem dX8_guess_0 : decode cX8_guess 0 = .ok (.aload_n 0, 1) := by decide +kernel
theorem dX8_guess_1 : decode cX8_guess 1 = .ok (.iload_n 1, 1) := by decide +kernel
theorem dX8_guess_2 : decode cX8_guess 2 = .ok (.invokevirtual 114, 3) := by decide +kernel
theorem dX8_guess_5 : decode cX8_guess 5 = .ok (.iload_n 2, 1) := by decide +kernel
theorem dX8_guess_6 : decode cX8_guess 6 = .ok (.bipush 28, 2) := by decide +kernel
theorem dX8_guess_8 : decode cX8_guess 8 = .ok (.invokestatic 65, 3) := by decide +kernel
theorem dX8_guess_11 : decode cX8_guess 11 = .ok (.iload_n 3, 1) := by decide +kernel
theorem dX8_guess_12 : decode cX8_guess 12 = .ok (.bipush 10, 2) := by decide +kernel
theorem dX8_guess_14 : decode cX8_guess 14 = .ok (.invokestatic 65, 3) := by decide +kernel
theorem dX8_guess_17 : decode cX8_guess 17 = .ok (.aload_n 0, 1) := by decide +kernel
theorem dX8_guess_18 : decode cX8_guess 18 = .ok (.iload_n 1, 1) := by decide +kernel
theorem dX8_guess_19 : decode cX8_guess 19 = .ok (.aload_n 0, 1) := by decide +kernel
theorem dX8_guess_20 : decode cX8_guess 20 = .ok (.getfield 33, 3) := by decide +kernel
theorem dX8_guess_23 : decode cX8_guess 23 = .ok (.getfield 151, 3) := by decide +kernel
theorem dX8_guess_26 : decode cX8_guess 26 = .ok (.iconst (-1), 1) := by decide +kernel
theorem dX8_guess_27 : decode cX8_guess 27 = .ok (.invokevirtual 188, 3) := by decide +kernel
theorem dX8_guess_30 : decode cX8_guess 30 = .ok (.aload_n 0, 1) := by decide +kernel
theorem dX8_guess_31 : decode cX8_guess 31 = .ok (.getfield 40, 3) := by decide +kernel
theorem dX8_guess_34 : decode cX8_guess 34 = .ok (.iload_n 2, 1) := by decide +kernel
theorem dX8_guess_35 : decode cX8_guess 35 = .ok (.iload_n 3, 1) := by decide +kernel
theorem dX8_guess_36 : decode cX8_guess 36 = .ok (.iload 4, 2) := by decide +kernel
theorem dX8_guess_38 : decode cX8_guess 38 = .ok (.invokevirtual 234, 3) := by decide +kernel
theorem dX8_guess_41 : decode cX8_guess 41 = .ok (.ireturn, 1) := by decide +kernel
theorem dX8_needNumber_0 : decode cX8_needNumber 0 = .ok (.iload_n 0, 1) := by decide +kernel
theorem dX8_needNumber_1 : decode cX8_needNumber 1 = .ok (.ifCond .lt 8, 3) := by decide +kernel
theorem dX8_needNumber_4 : decode cX8_needNumber 4 = .ok (.iload_n 0, 1) := by decide +kernel
theorem dX8_needNumber_5 : decode cX8_needNumber 5 = .ok (.iload_n 1, 1) := by decide +kernel
theorem dX8_needNumber_6 : decode cX8_needNumber 6 = .ok (.if_icmp .lt 13, 3) := by decide +kernel
theorem dX8_needNumber_9 : decode cX8_needNumber 9 = .ok (.new 246, 3) := by decide +kernel
theorem dX8_needNumber_12 : decode cX8_needNumber 12 = .ok (.dup, 1) := by decide +kernel
theorem dX8_needNumber_13 : decode cX8_needNumber 13 = .ok (.ldc 248, 2) := by decide +kernel
theorem dX8_needNumber_15 : decode cX8_needNumber 15 = .ok (.invokespecial 250, 3) := by decide +kernel
theorem dX8_needNumber_18 : decode cX8_needNumber 18 = .ok (.athrow, 1) := by decide +kernel
theorem dX8_needNumber_19 : decode cX8_needNumber 19 = .ok (.return_, 1) := by decide +kernel
theorem dX8_needRange_0 : decode cX8_needRange 0 = .ok (.iload_n 0, 1) := by decide +kernel
theorem dX8_needRange_1 : decode cX8_needRange 1 = .ok (.iload_n 1, 1) := by decide +kernel
theorem dX8_needRange_2 : decode cX8_needRange 2 = .ok (.if_icmp .lt 8, 3) := by decide +kernel
theorem dX8_needRange_5 : decode cX8_needRange 5 = .ok (.iload_n 0, 1) := by decide +kernel
theorem dX8_needRange_6 : decode cX8_needRange 6 = .ok (.iload_n 2, 1) := by decide +kernel
theorem dX8_needRange_7 : decode cX8_needRange 7 = .ok (.if_icmp .le 13, 3) := by decide +kernel
theorem dX8_needRange_10 : decode cX8_needRange 10 = .ok (.new 117, 3) := by decide +kernel
theorem dX8_needRange_13 : decode cX8_needRange 13 = .ok (.dup, 1) := by decide +kernel
theorem dX8_needRange_14 : decode cX8_needRange 14 = .ok (.ldc 251, 2) := by decide +kernel
theorem dX8_needRange_16 : decode cX8_needRange 16 = .ok (.invokespecial 121, 3) := by decide +kernel
theorem dX8_needRange_19 : decode cX8_needRange 19 = .ok (.athrow, 1) := by decide +kernel
theorem dX8_needRange_20 : decode cX8_needRange 20 = .ok (.return_, 1) := by decide +kernel
set_option maxRecDepth 20000 in
theorem gX8_needCard_X8_needNumber : GoodIn wsX8_needCard (va_wsS RX8 65 yX8_needNumber wsX8_needNumber) := goodIn_sub (fun w h => List.mem_cons_of_mem _ (List.mem_append_right _ h)) (by decide +kernel)
theorem dX8_needCard_0 : decode cX8_needCard 0 = .ok (.iload_n 1, 1) := by decide +kernel
theorem dX8_needCard_1 : decode cX8_needCard 1 = .ok (.aload_n 0, 1) := by decide +kernel
theorem dX8_needCard_2 : decode cX8_needCard 2 = .ok (.getfield 26, 3) := by decide +kernel
theorem dX8_needCard_5 : decode cX8_needCard 5 = .ok (.getfield 103, 3) := by decide +kernel
theorem dX8_needCard_8 : decode cX8_needCard 8 = .ok (.invokestatic 65, 3) := by decide +kernel
theorem dX8_needCard_11 : decode cX8_needCard 11 = .ok (.return_, 1) := by decide +kernel
set_option maxRecDepth 20000 in
theorem gX8_needPerson_X0_isPerson : GoodIn wsX8_needPerson (wsV RX8 166 RX0 yX0_isPerson wsX0_isPerson) := goodIn_sub (fun w h => List.mem_cons_of_mem _ (List.mem_append_right _ h)) (by decide +kernel)
theorem dX8_needPerson_0 : decode cX8_needPerson 0 = .ok (.aload_n 0, 1) := by decide +kernel
theorem dX8_needPerson_1 : decode cX8_needPerson 1 = .ok (.getfield 26, 3) := by decide +kernel
theorem dX8_needPerson_4 : decode cX8_needPerson 4 = .ok (.iload_n 1, 1) := by decide +kernel
theorem dX8_needPerson_5 : decode cX8_needPerson 5 = .ok (.invokevirtual 166, 3) := by decide +kernel
theorem dX8_needPerson_8 : decode cX8_needPerson 8 = .ok (.ifCond .ne 13, 3) := by decide +kernel
theorem dX8_needPerson_11 : decode cX8_needPerson 11 = .ok (.new 246, 3) := by decide +kernel
theorem dX8_needPerson_14 : decode cX8_needPerson 14 = .ok (.dup, 1) := by decide +kernel
theorem dX8_needPerson_15 : decode cX8_needPerson 15 = .ok (.ldc 253, 2) := by decide +kernel
theorem dX8_needPerson_17 : decode cX8_needPerson 17 = .ok (.invokespecial 250, 3) := by decide +kernel
theorem dX8_needPerson_20 : decode cX8_needPerson 20 = .ok (.athrow, 1) := by decide +kernel
theorem dX8_needPerson_21 : decode cX8_needPerson 21 = .ok (.return_, 1) := by decide +kernel
set_option maxRecDepth 20000 in
theorem gX8_needTap_X8_needCard : GoodIn wsX8_needTap (wsV RX8 110 RX8 yX8_needCard wsX8_needCard) := goodIn_sub (fun w h => List.mem_cons_of_mem _ (List.mem_append_left _ (List.mem_append_left _ (List.mem_append_right _ h)))) (by decide +kernel)
set_option maxRecDepth 20000 in
theorem gX8_needTap_X8_needNumber : GoodIn wsX8_needTap (va_wsS RX8 65 yX8_needNumber wsX8_needNumber) := goodIn_sub (fun w h => List.mem_cons_of_mem _ (List.mem_append_left _ (List.mem_append_right _ h))) (by decide +kernel)
set_option maxRecDepth 20000 in
theorem gX8_needTap_X8_needRange : GoodIn wsX8_needTap (va_wsS RX8 69 yX8_needRange wsX8_needRange) := goodIn_sub (fun w h => List.mem_cons_of_mem _ (List.mem_append_right _ h)) (by decide +kernel)
theorem dX8_needTap_0 : decode cX8_needTap 0 = .ok (.aload_n 0, 1) := by decide +kernel
theorem dX8_needTap_1 : decode cX8_needTap 1 = .ok (.iload_n 1, 1) := by decide +kernel
theorem dX8_needTap_2 : decode cX8_needTap 2 = .ok (.invokevirtual 110, 3) := by decide +kernel
theorem dX8_needTap_5 : decode cX8_needTap 5 = .ok (.iload_n 2, 1) := by decide +kernel
theorem dX8_needTap_6 : decode cX8_needTap 6 = .ok (.bipush 10, 2) := by decide +kernel
theorem dX8_needTap_8 : decode cX8_needTap 8 = .ok (.invokestatic 65, 3) := by decide +kernel
theorem dX8_needTap_11 : decode cX8_needTap 11 = .ok (.iload_n 3, 1) := by decide +kernel
theorem dX8_needTap_12 : decode cX8_needTap 12 = .ok (.bipush 6, 2) := by decide +kernel
theorem dX8_needTap_14 : decode cX8_needTap 14 = .ok (.invokestatic 65, 3) := by decide +kernel
theorem dX8_needTap_17 : decode cX8_needTap 17 = .ok (.iload 4, 2) := by decide +kernel
theorem dX8_needTap_19 : decode cX8_needTap 19 = .ok (.bipush 28, 2) := by decide +kernel
theorem dX8_needTap_21 : decode cX8_needTap 21 = .ok (.invokestatic 65, 3) := by decide +kernel
theorem dX8_needTap_24 : decode cX8_needTap 24 = .ok (.iload 5, 2) := by decide +kernel
theorem dX8_needTap_26 : decode cX8_needTap 26 = .ok (.iconst 0, 1) := by decide +kernel
theorem dX8_needTap_27 : decode cX8_needTap 27 = .ok (.sipush 1439, 3) := by decide +kernel
theorem dX8_needTap_30 : decode cX8_needTap 30 = .ok (.invokestatic 69, 3) := by decide +kernel
theorem dX8_needTap_33 : decode cX8_needTap 33 = .ok (.return_, 1) := by decide +kernel
set_option maxRecDepth 20000 in
theorem gX8_study_X3_read : GoodIn wsX8_study (wsV RX8 255 RX3 yX3_read wsX3_read) := goodIn_sub (fun w h => List.mem_cons_of_mem _ (List.mem_append_left _ (List.mem_append_left _ (List.mem_append_right _ h)))) (by decide +kernel)
set_option maxRecDepth 20000 in
theorem gX8_study_X2_read : GoodIn wsX8_study (wsV RX8 259 RX2 yX2_read wsX2_read) := goodIn_sub (fun w h => List.mem_cons_of_mem _ (List.mem_append_left _ (List.mem_append_right _ h))) (by decide +kernel)
set_option maxRecDepth 20000 in
theorem gX8_study_X1_read : GoodIn wsX8_study (wsV RX8 262 RX1 yX1_read wsX1_read) := goodIn_sub (fun w h => List.mem_cons_of_mem _ (List.mem_append_right _ h)) (by decide +kernel)
theorem dX8_study_0 : decode cX8_study 0 = .ok (.aload_n 0, 1) := by decide +kernel
theorem dX8_study_1 : decode cX8_study 1 = .ok (.getfield 40, 3) := by decide +kernel
theorem dX8_study_4 : decode cX8_study 4 = .ok (.aload_n 0, 1) := by decide +kernel
theorem dX8_study_5 : decode cX8_study 5 = .ok (.getfield 33, 3) := by decide +kernel
theorem dX8_study_8 : decode cX8_study 8 = .ok (.iload_n 2, 1) := by decide +kernel
theorem dX8_study_9 : decode cX8_study 9 = .ok (.aload_n 0, 1) := by decide +kernel
theorem dX8_study_10 : decode cX8_study 10 = .ok (.getfield 26, 3) := by decide +kernel
theorem dX8_study_13 : decode cX8_study 13 = .ok (.iload_n 1, 1) := by decide +kernel
theorem dX8_study_14 : decode cX8_study 14 = .ok (.iload_n 3, 1) := by decide +kernel
theorem dX8_study_15 : decode cX8_study 15 = .ok (.invokevirtual 255, 3) := by decide +kernel
theorem dX8_study_18 : decode cX8_study 18 = .ok (.aload_n 0, 1) := by decide +kernel
theorem dX8_study_19 : decode cX8_study 19 = .ok (.getfield 47, 3) := by decide +kernel
theorem dX8_study_22 : decode cX8_study 22 = .ok (.aload_n 0, 1) := by decide +kernel
theorem dX8_study_23 : decode cX8_study 23 = .ok (.getfield 40, 3) := by decide +kernel
theorem dX8_study_26 : decode cX8_study 26 = .ok (.aload_n 0, 1) := by decide +kernel
theorem dX8_study_27 : decode cX8_study 27 = .ok (.getfield 12, 3) := by decide +kernel
theorem dX8_study_30 : decode cX8_study 30 = .ok (.aload_n 0, 1) := by decide +kernel
theorem dX8_study_31 : decode cX8_study 31 = .ok (.getfield 19, 3) := by decide +kernel
theorem dX8_study_34 : decode cX8_study 34 = .ok (.invokevirtual 259, 3) := by decide +kernel
theorem dX8_study_37 : decode cX8_study 37 = .ok (.aload_n 0, 1) := by decide +kernel
theorem dX8_study_38 : decode cX8_study 38 = .ok (.getfield 54, 3) := by decide +kernel
theorem dX8_study_41 : decode cX8_study 41 = .ok (.aload_n 0, 1) := by decide +kernel
theorem dX8_study_42 : decode cX8_study 42 = .ok (.getfield 47, 3) := by decide +kernel
theorem dX8_study_45 : decode cX8_study 45 = .ok (.aload_n 0, 1) := by decide +kernel
theorem dX8_study_46 : decode cX8_study 46 = .ok (.getfield 19, 3) := by decide +kernel
theorem dX8_study_49 : decode cX8_study 49 = .ok (.invokevirtual 262, 3) := by decide +kernel
theorem dX8_study_52 : decode cX8_study 52 = .ok (.return_, 1) := by decide +kernel
set_option maxRecDepth 20000 in
theorem gX8_costOfWeek_X8_study : GoodIn wsX8_costOfWeek (wsV RX8 188 RX8 yX8_study wsX8_study) := goodIn_sub (fun w h => List.mem_cons_of_mem _ (List.mem_append_left _ (List.mem_append_right _ h))) (by decide +kernel)
set_option maxRecDepth 20000 in
theorem gX8_costOfWeek_X1_ofWholeWeek : GoodIn wsX8_costOfWeek (wsV RX8 265 RX1 yX1_ofWholeWeek wsX1_ofWholeWeek) := goodIn_sub (fun w h => List.mem_cons_of_mem _ (List.mem_append_right _ h)) (by decide +kernel)
theorem dX8_costOfWeek_0 : decode cX8_costOfWeek 0 = .ok (.aload_n 0, 1) := by decide +kernel
theorem dX8_costOfWeek_1 : decode cX8_costOfWeek 1 = .ok (.iload_n 1, 1) := by decide +kernel
theorem dX8_costOfWeek_2 : decode cX8_costOfWeek 2 = .ok (.iload_n 3, 1) := by decide +kernel
theorem dX8_costOfWeek_3 : decode cX8_costOfWeek 3 = .ok (.iload 4, 2) := by decide +kernel
theorem dX8_costOfWeek_5 : decode cX8_costOfWeek 5 = .ok (.invokevirtual 188, 3) := by decide +kernel
theorem dX8_costOfWeek_8 : decode cX8_costOfWeek 8 = .ok (.aload_n 0, 1) := by decide +kernel
theorem dX8_costOfWeek_9 : decode cX8_costOfWeek 9 = .ok (.getfield 54, 3) := by decide +kernel
theorem dX8_costOfWeek_12 : decode cX8_costOfWeek 12 = .ok (.iload_n 2, 1) := by decide +kernel
theorem dX8_costOfWeek_13 : decode cX8_costOfWeek 13 = .ok (.invokevirtual 265, 3) := by decide +kernel
theorem dX8_costOfWeek_16 : decode cX8_costOfWeek 16 = .ok (.ireturn, 1) := by decide +kernel
set_option maxRecDepth 20000 in
theorem gX8_dueUpTo_X8_study : GoodIn wsX8_dueUpTo (wsV RX8 188 RX8 yX8_study wsX8_study) := goodIn_sub (fun w h => List.mem_cons_of_mem _ (List.mem_append_left _ (List.mem_append_left _ (List.mem_append_right _ h)))) (by decide +kernel)
set_option maxRecDepth 20000 in
theorem gX8_dueUpTo_X1_leastUpTo : GoodIn wsX8_dueUpTo (wsV RX8 268 RX1 yX1_leastUpTo wsX1_leastUpTo) := goodIn_sub (fun w h => List.mem_cons_of_mem _ (List.mem_append_left _ (List.mem_append_right _ h))) (by decide +kernel)
set_option maxRecDepth 20000 in
theorem gX8_dueUpTo_X5_at : GoodIn wsX8_dueUpTo (wsV RX8 77 RX5 yX5_at wsX5_at) := goodIn_sub (fun w h => List.mem_cons_of_mem _ (List.mem_append_right _ h)) (by decide +kernel)
theorem dX8_dueUpTo_0 : decode cX8_dueUpTo 0 = .ok (.aload_n 0, 1) := by decide +kernel
theorem dX8_dueUpTo_1 : decode cX8_dueUpTo 1 = .ok (.iload_n 1, 1) := by decide +kernel
theorem dX8_dueUpTo_2 : decode cX8_dueUpTo 2 = .ok (.aload_n 0, 1) := by decide +kernel
theorem dX8_dueUpTo_3 : decode cX8_dueUpTo 3 = .ok (.getfield 33, 3) := by decide +kernel
theorem dX8_dueUpTo_6 : decode cX8_dueUpTo 6 = .ok (.getfield 151, 3) := by decide +kernel
theorem dX8_dueUpTo_9 : decode cX8_dueUpTo 9 = .ok (.iconst (-1), 1) := by decide +kernel
theorem dX8_dueUpTo_10 : decode cX8_dueUpTo 10 = .ok (.invokevirtual 188, 3) := by decide +kernel
theorem dX8_dueUpTo_13 : decode cX8_dueUpTo 13 = .ok (.iload_n 2, 1) := by decide +kernel
theorem dX8_dueUpTo_14 : decode cX8_dueUpTo 14 = .ok (.bipush 7, 2) := by decide +kernel
theorem dX8_dueUpTo_16 : decode cX8_dueUpTo 16 = .ok (.idiv, 1) := by decide +kernel
theorem dX8_dueUpTo_17 : decode cX8_dueUpTo 17 = .ok (.istore_n 3, 1) := by decide +kernel
theorem dX8_dueUpTo_18 : decode cX8_dueUpTo 18 = .ok (.aload_n 0, 1) := by decide +kernel
theorem dX8_dueUpTo_19 : decode cX8_dueUpTo 19 = .ok (.getfield 54, 3) := by decide +kernel
theorem dX8_dueUpTo_22 : decode cX8_dueUpTo 22 = .ok (.iload_n 3, 1) := by decide +kernel
theorem dX8_dueUpTo_23 : decode cX8_dueUpTo 23 = .ok (.iload_n 2, 1) := by decide +kernel
theorem dX8_dueUpTo_24 : decode cX8_dueUpTo 24 = .ok (.invokevirtual 268, 3) := by decide +kernel
theorem dX8_dueUpTo_27 : decode cX8_dueUpTo 27 = .ok (.aload_n 0, 1) := by decide +kernel
theorem dX8_dueUpTo_28 : decode cX8_dueUpTo 28 = .ok (.getfield 26, 3) := by decide +kernel
theorem dX8_dueUpTo_31 : decode cX8_dueUpTo 31 = .ok (.getfield 271, 3) := by decide +kernel
theorem dX8_dueUpTo_34 : decode cX8_dueUpTo 34 = .ok (.iload_n 1, 1) := by decide +kernel
theorem dX8_dueUpTo_35 : decode cX8_dueUpTo 35 = .ok (.iconst 4, 1) := by decide +kernel
theorem dX8_dueUpTo_36 : decode cX8_dueUpTo 36 = .ok (.imul, 1) := by decide +kernel
theorem dX8_dueUpTo_37 : decode cX8_dueUpTo 37 = .ok (.iload_n 3, 1) := by decide +kernel
theorem dX8_dueUpTo_38 : decode cX8_dueUpTo 38 = .ok (.iadd, 1) := by decide +kernel
theorem dX8_dueUpTo_39 : decode cX8_dueUpTo 39 = .ok (.invokevirtual 77, 3) := by decide +kernel
theorem dX8_dueUpTo_42 : decode cX8_dueUpTo 42 = .ok (.isub, 1) := by decide +kernel
theorem dX8_dueUpTo_43 : decode cX8_dueUpTo 43 = .ok (.ireturn, 1) := by decide +kernel
set_option maxRecDepth 20000 in
theorem gX8_cardAnswer_X5_at : GoodIn wsX8_cardAnswer (wsV RX8 77 RX5 yX5_at wsX5_at) := goodIn_sub (fun w h => List.mem_cons_of_mem _ (List.mem_append_left _ (List.mem_append_right _ h))) (by decide +kernel)
set_option maxRecDepth 20000 in
theorem gX8_cardAnswer_X6_countOf : GoodIn wsX8_cardAnswer (wsV RX8 281 RX6 yX6_countOf wsX6_countOf) := goodIn_sub (fun w h => List.mem_cons_of_mem _ (List.mem_append_right _ h)) (by decide +kernel)
theorem dX8_cardAnswer_0 : decode cX8_cardAnswer 0 = .ok (.iload_n 2, 1) := by decide +kernel
theorem dX8_cardAnswer_1 : decode cX8_cardAnswer 1 = .ok (.tableswitch 76 0 3 #[31, 43, 55, 67], 31) := by decide +kernel
theorem dX8_cardAnswer_32 : decode cX8_cardAnswer 32 = .ok (.aload_n 0, 1) := by decide +kernel
theorem dX8_cardAnswer_33 : decode cX8_cardAnswer 33 = .ok (.getfield 26, 3) := by decide +kernel
theorem dX8_cardAnswer_36 : decode cX8_cardAnswer 36 = .ok (.getfield 137, 3) := by decide +kernel
theorem dX8_cardAnswer_39 : decode cX8_cardAnswer 39 = .ok (.iload_n 1, 1) := by decide +kernel
theorem dX8_cardAnswer_40 : decode cX8_cardAnswer 40 = .ok (.invokevirtual 77, 3) := by decide +kernel
theorem dX8_cardAnswer_43 : decode cX8_cardAnswer 43 = .ok (.ireturn, 1) := by decide +kernel
theorem dX8_cardAnswer_44 : decode cX8_cardAnswer 44 = .ok (.aload_n 0, 1) := by decide +kernel
theorem dX8_cardAnswer_45 : decode cX8_cardAnswer 45 = .ok (.getfield 26, 3) := by decide +kernel
theorem dX8_cardAnswer_48 : decode cX8_cardAnswer 48 = .ok (.getfield 128, 3) := by decide +kernel
theorem dX8_cardAnswer_51 : decode cX8_cardAnswer 51 = .ok (.iload_n 1, 1) := by decide +kernel
theorem dX8_cardAnswer_52 : decode cX8_cardAnswer 52 = .ok (.invokevirtual 77, 3) := by decide +kernel
theorem dX8_cardAnswer_55 : decode cX8_cardAnswer 55 = .ok (.ireturn, 1) := by decide +kernel
theorem dX8_cardAnswer_56 : decode cX8_cardAnswer 56 = .ok (.aload_n 0, 1) := by decide +kernel
theorem dX8_cardAnswer_57 : decode cX8_cardAnswer 57 = .ok (.getfield 26, 3) := by decide +kernel
theorem dX8_cardAnswer_60 : decode cX8_cardAnswer 60 = .ok (.getfield 134, 3) := by decide +kernel
theorem dX8_cardAnswer_63 : decode cX8_cardAnswer 63 = .ok (.iload_n 1, 1) := by decide +kernel
theorem dX8_cardAnswer_64 : decode cX8_cardAnswer 64 = .ok (.invokevirtual 77, 3) := by decide +kernel
theorem dX8_cardAnswer_67 : decode cX8_cardAnswer 67 = .ok (.ireturn, 1) := by decide +kernel
theorem dX8_cardAnswer_68 : decode cX8_cardAnswer 68 = .ok (.aload_n 0, 1) := by decide +kernel
theorem dX8_cardAnswer_69 : decode cX8_cardAnswer 69 = .ok (.getfield 33, 3) := by decide +kernel
theorem dX8_cardAnswer_72 : decode cX8_cardAnswer 72 = .ok (.iload_n 1, 1) := by decide +kernel
theorem dX8_cardAnswer_73 : decode cX8_cardAnswer 73 = .ok (.invokevirtual 281, 3) := by decide +kernel
theorem dX8_cardAnswer_76 : decode cX8_cardAnswer 76 = .ok (.ireturn, 1) := by decide +kernel
theorem dX8_cardAnswer_77 : decode cX8_cardAnswer 77 = .ok (.aload_n 0, 1) := by decide +kernel
theorem dX8_cardAnswer_78 : decode cX8_cardAnswer 78 = .ok (.getfield 26, 3) := by decide +kernel
theorem dX8_cardAnswer_81 : decode cX8_cardAnswer 81 = .ok (.getfield 271, 3) := by decide +kernel
theorem dX8_cardAnswer_84 : decode cX8_cardAnswer 84 = .ok (.iload_n 1, 1) := by decide +kernel
theorem dX8_cardAnswer_85 : decode cX8_cardAnswer 85 = .ok (.iconst 4, 1) := by decide +kernel
theorem dX8_cardAnswer_86 : decode cX8_cardAnswer 86 = .ok (.imul, 1) := by decide +kernel
theorem dX8_cardAnswer_87 : decode cX8_cardAnswer 87 = .ok (.iload_n 2, 1) := by decide +kernel
theorem dX8_cardAnswer_88 : decode cX8_cardAnswer 88 = .ok (.iadd, 1) := by decide +kernel
theorem dX8_cardAnswer_89 : decode cX8_cardAnswer 89 = .ok (.iconst 4, 1) := by decide +kernel
theorem dX8_cardAnswer_90 : decode cX8_cardAnswer 90 = .ok (.isub, 1) := by decide +kernel
theorem dX8_cardAnswer_91 : decode cX8_cardAnswer 91 = .ok (.invokevirtual 77, 3) := by decide +kernel
theorem dX8_cardAnswer_94 : decode cX8_cardAnswer 94 = .ok (.ireturn, 1) := by decide +kernel
set_option maxRecDepth 20000 in
theorem gX8_dayAnswer_X5_at : GoodIn wsX8_dayAnswer (wsV RX8 77 RX5 yX5_at wsX5_at) := goodIn_sub (fun w h => List.mem_cons_of_mem _ (List.mem_append_left _ (List.mem_append_left _ (List.mem_append_left _ (List.mem_append_left _ (List.mem_append_right _ h)))))) (by decide +kernel)
set_option maxRecDepth 20000 in
theorem gX8_dayAnswer_X3_guessesOn : GoodIn wsX8_dayAnswer (wsV RX8 287 RX3 yX3_guessesOn wsX3_guessesOn) := goodIn_sub (fun w h => List.mem_cons_of_mem _ (List.mem_append_left _ (List.mem_append_left _ (List.mem_append_left _ (List.mem_append_right _ h))))) (by decide +kernel)
set_option maxRecDepth 20000 in
theorem gX8_dayAnswer_X2_fares : GoodIn wsX8_dayAnswer (wsV RX8 227 RX2 yX2_fares wsX2_fares) := goodIn_sub (fun w h => List.mem_cons_of_mem _ (List.mem_append_left _ (List.mem_append_left _ (List.mem_append_right _ h)))) (by decide +kernel)
set_option maxRecDepth 20000 in
theorem gX8_dayAnswer_X1_byItself : GoodIn wsX8_dayAnswer (wsV RX8 290 RX1 yX1_byItself wsX1_byItself) := goodIn_sub (fun w h => List.mem_cons_of_mem _ (List.mem_append_left _ (List.mem_append_right _ h))) (by decide +kernel)
set_option maxRecDepth 20000 in
theorem gX8_dayAnswer_X1_withinWeek : GoodIn wsX8_dayAnswer (wsV RX8 296 RX1 yX1_withinWeek wsX1_withinWeek) := goodIn_sub (fun w h => List.mem_cons_of_mem _ (List.mem_append_right _ h)) (by decide +kernel)
theorem dX8_dayAnswer_0 : decode cX8_dayAnswer 0 = .ok (.iload_n 2, 1) := by decide +kernel
theorem dX8_dayAnswer_1 : decode cX8_dayAnswer 1 = .ok (.tableswitch 119 0 6 #[43, 55, 67, 79, 88, 98, 107], 43) := by decide +kernel
theorem dX8_dayAnswer_44 : decode cX8_dayAnswer 44 = .ok (.aload_n 0, 1) := by decide +kernel
theorem dX8_dayAnswer_45 : decode cX8_dayAnswer 45 = .ok (.getfield 40, 3) := by decide +kernel
theorem dX8_dayAnswer_48 : decode cX8_dayAnswer 48 = .ok (.getfield 284, 3) := by decide +kernel
theorem dX8_dayAnswer_51 : decode cX8_dayAnswer 51 = .ok (.iload_n 1, 1) := by decide +kernel
theorem dX8_dayAnswer_52 : decode cX8_dayAnswer 52 = .ok (.invokevirtual 77, 3) := by decide +kernel
theorem dX8_dayAnswer_55 : decode cX8_dayAnswer 55 = .ok (.ireturn, 1) := by decide +kernel
theorem dX8_dayAnswer_56 : decode cX8_dayAnswer 56 = .ok (.aload_n 0, 1) := by decide +kernel
theorem dX8_dayAnswer_57 : decode cX8_dayAnswer 57 = .ok (.getfield 40, 3) := by decide +kernel
theorem dX8_dayAnswer_60 : decode cX8_dayAnswer 60 = .ok (.getfield 200, 3) := by decide +kernel
theorem dX8_dayAnswer_63 : decode cX8_dayAnswer 63 = .ok (.iload_n 1, 1) := by decide +kernel
theorem dX8_dayAnswer_64 : decode cX8_dayAnswer 64 = .ok (.invokevirtual 77, 3) := by decide +kernel
theorem dX8_dayAnswer_67 : decode cX8_dayAnswer 67 = .ok (.ireturn, 1) := by decide +kernel
theorem dX8_dayAnswer_68 : decode cX8_dayAnswer 68 = .ok (.aload_n 0, 1) := by decide +kernel
theorem dX8_dayAnswer_69 : decode cX8_dayAnswer 69 = .ok (.getfield 47, 3) := by decide +kernel
theorem dX8_dayAnswer_72 : decode cX8_dayAnswer 72 = .ok (.getfield 209, 3) := by decide +kernel
theorem dX8_dayAnswer_75 : decode cX8_dayAnswer 75 = .ok (.iload_n 1, 1) := by decide +kernel
theorem dX8_dayAnswer_76 : decode cX8_dayAnswer 76 = .ok (.invokevirtual 77, 3) := by decide +kernel
theorem dX8_dayAnswer_79 : decode cX8_dayAnswer 79 = .ok (.ireturn, 1) := by decide +kernel
theorem dX8_dayAnswer_80 : decode cX8_dayAnswer 80 = .ok (.aload_n 0, 1) := by decide +kernel
theorem dX8_dayAnswer_81 : decode cX8_dayAnswer 81 = .ok (.getfield 40, 3) := by decide +kernel
theorem dX8_dayAnswer_84 : decode cX8_dayAnswer 84 = .ok (.iload_n 1, 1) := by decide +kernel
theorem dX8_dayAnswer_85 : decode cX8_dayAnswer 85 = .ok (.invokevirtual 287, 3) := by decide +kernel
theorem dX8_dayAnswer_88 : decode cX8_dayAnswer 88 = .ok (.ireturn, 1) := by decide +kernel
theorem dX8_dayAnswer_89 : decode cX8_dayAnswer 89 = .ok (.aload_n 0, 1) := by decide +kernel
theorem dX8_dayAnswer_90 : decode cX8_dayAnswer 90 = .ok (.getfield 47, 3) := by decide +kernel
theorem dX8_dayAnswer_93 : decode cX8_dayAnswer 93 = .ok (.iload_n 1, 1) := by decide +kernel
theorem dX8_dayAnswer_94 : decode cX8_dayAnswer 94 = .ok (.iconst 0, 1) := by decide +kernel
theorem dX8_dayAnswer_95 : decode cX8_dayAnswer 95 = .ok (.invokevirtual 227, 3) := by decide +kernel
theorem dX8_dayAnswer_98 : decode cX8_dayAnswer 98 = .ok (.ireturn, 1) := by decide +kernel
theorem dX8_dayAnswer_99 : decode cX8_dayAnswer 99 = .ok (.aload_n 0, 1) := by decide +kernel
theorem dX8_dayAnswer_100 : decode cX8_dayAnswer 100 = .ok (.getfield 54, 3) := by decide +kernel
theorem dX8_dayAnswer_103 : decode cX8_dayAnswer 103 = .ok (.iload_n 1, 1) := by decide +kernel
theorem dX8_dayAnswer_104 : decode cX8_dayAnswer 104 = .ok (.invokevirtual 290, 3) := by decide +kernel
theorem dX8_dayAnswer_107 : decode cX8_dayAnswer 107 = .ok (.ireturn, 1) := by decide +kernel
theorem dX8_dayAnswer_108 : decode cX8_dayAnswer 108 = .ok (.aload_n 0, 1) := by decide +kernel
theorem dX8_dayAnswer_109 : decode cX8_dayAnswer 109 = .ok (.getfield 54, 3) := by decide +kernel
theorem dX8_dayAnswer_112 : decode cX8_dayAnswer 112 = .ok (.getfield 293, 3) := by decide +kernel
theorem dX8_dayAnswer_115 : decode cX8_dayAnswer 115 = .ok (.iload_n 1, 1) := by decide +kernel
theorem dX8_dayAnswer_116 : decode cX8_dayAnswer 116 = .ok (.invokevirtual 77, 3) := by decide +kernel
theorem dX8_dayAnswer_119 : decode cX8_dayAnswer 119 = .ok (.ireturn, 1) := by decide +kernel
theorem dX8_dayAnswer_120 : decode cX8_dayAnswer 120 = .ok (.aload_n 0, 1) := by decide +kernel
theorem dX8_dayAnswer_121 : decode cX8_dayAnswer 121 = .ok (.getfield 54, 3) := by decide +kernel
theorem dX8_dayAnswer_124 : decode cX8_dayAnswer 124 = .ok (.iload_n 1, 1) := by decide +kernel
theorem dX8_dayAnswer_125 : decode cX8_dayAnswer 125 = .ok (.invokevirtual 296, 3) := by decide +kernel
theorem dX8_dayAnswer_128 : decode cX8_dayAnswer 128 = .ok (.ireturn, 1) := by decide +kernel
set_option maxRecDepth 20000 in
theorem gX8_legAnswer_X5_at : GoodIn wsX8_legAnswer (wsV RX8 77 RX5 yX5_at wsX5_at) := goodIn_sub (fun w h => List.mem_cons_of_mem _ (List.mem_append_right _ h)) (by decide +kernel)
theorem dX8_legAnswer_0 : decode cX8_legAnswer 0 = .ok (.iload_n 2, 1) := by decide +kernel
theorem dX8_legAnswer_1 : decode cX8_legAnswer 1 = .ok (.tableswitch 111 0 5 #[39, 51, 63, 75, 87, 99], 39) := by decide +kernel
theorem dX8_legAnswer_40 : decode cX8_legAnswer 40 = .ok (.aload_n 0, 1) := by decide +kernel
theorem dX8_legAnswer_41 : decode cX8_legAnswer 41 = .ok (.getfield 40, 3) := by decide +kernel
theorem dX8_legAnswer_44 : decode cX8_legAnswer 44 = .ok (.getfield 299, 3) := by decide +kernel
theorem dX8_legAnswer_47 : decode cX8_legAnswer 47 = .ok (.iload_n 1, 1) := by decide +kernel
theorem dX8_legAnswer_48 : decode cX8_legAnswer 48 = .ok (.invokevirtual 77, 3) := by decide +kernel
theorem dX8_legAnswer_51 : decode cX8_legAnswer 51 = .ok (.ireturn, 1) := by decide +kernel
theorem dX8_legAnswer_52 : decode cX8_legAnswer 52 = .ok (.aload_n 0, 1) := by decide +kernel
theorem dX8_legAnswer_53 : decode cX8_legAnswer 53 = .ok (.getfield 40, 3) := by decide +kernel
theorem dX8_legAnswer_56 : decode cX8_legAnswer 56 = .ok (.getfield 302, 3) := by decide +kernel
theorem dX8_legAnswer_59 : decode cX8_legAnswer 59 = .ok (.iload_n 1, 1) := by decide +kernel
theorem dX8_legAnswer_60 : decode cX8_legAnswer 60 = .ok (.invokevirtual 77, 3) := by decide +kernel
theorem dX8_legAnswer_63 : decode cX8_legAnswer 63 = .ok (.ireturn, 1) := by decide +kernel
theorem dX8_legAnswer_64 : decode cX8_legAnswer 64 = .ok (.aload_n 0, 1) := by decide +kernel
theorem dX8_legAnswer_65 : decode cX8_legAnswer 65 = .ok (.getfield 40, 3) := by decide +kernel
theorem dX8_legAnswer_68 : decode cX8_legAnswer 68 = .ok (.getfield 305, 3) := by decide +kernel
theorem dX8_legAnswer_71 : decode cX8_legAnswer 71 = .ok (.iload_n 1, 1) := by decide +kernel
theorem dX8_legAnswer_72 : decode cX8_legAnswer 72 = .ok (.invokevirtual 77, 3) := by decide +kernel
theorem dX8_legAnswer_75 : decode cX8_legAnswer 75 = .ok (.ireturn, 1) := by decide +kernel
theorem dX8_legAnswer_76 : decode cX8_legAnswer 76 = .ok (.aload_n 0, 1) := by decide +kernel
theorem dX8_legAnswer_77 : decode cX8_legAnswer 77 = .ok (.getfield 40, 3) := by decide +kernel
theorem dX8_legAnswer_80 : decode cX8_legAnswer 80 = .ok (.getfield 308, 3) := by decide +kernel
theorem dX8_legAnswer_83 : decode cX8_legAnswer 83 = .ok (.iload_n 1, 1) := by decide +kernel
theorem dX8_legAnswer_84 : decode cX8_legAnswer 84 = .ok (.invokevirtual 77, 3) := by decide +kernel
theorem dX8_legAnswer_87 : decode cX8_legAnswer 87 = .ok (.ireturn, 1) := by decide +kernel
theorem dX8_legAnswer_88 : decode cX8_legAnswer 88 = .ok (.aload_n 0, 1) := by decide +kernel
theorem dX8_legAnswer_89 : decode cX8_legAnswer 89 = .ok (.getfield 40, 3) := by decide +kernel
theorem dX8_legAnswer_92 : decode cX8_legAnswer 92 = .ok (.getfield 311, 3) := by decide +kernel
theorem dX8_legAnswer_95 : decode cX8_legAnswer 95 = .ok (.iload_n 1, 1) := by decide +kernel
theorem dX8_legAnswer_96 : decode cX8_legAnswer 96 = .ok (.invokevirtual 77, 3) := by decide +kernel
theorem dX8_legAnswer_99 : decode cX8_legAnswer 99 = .ok (.ireturn, 1) := by decide +kernel
theorem dX8_legAnswer_100 : decode cX8_legAnswer 100 = .ok (.aload_n 0, 1) := by decide +kernel
theorem dX8_legAnswer_101 : decode cX8_legAnswer 101 = .ok (.getfield 40, 3) := by decide +kernel
theorem dX8_legAnswer_104 : decode cX8_legAnswer 104 = .ok (.getfield 314, 3) := by decide +kernel
theorem dX8_legAnswer_107 : decode cX8_legAnswer 107 = .ok (.iload_n 1, 1) := by decide +kernel
theorem dX8_legAnswer_108 : decode cX8_legAnswer 108 = .ok (.invokevirtual 77, 3) := by decide +kernel
theorem dX8_legAnswer_111 : decode cX8_legAnswer 111 = .ok (.ireturn, 1) := by decide +kernel
theorem dX8_legAnswer_112 : decode cX8_legAnswer 112 = .ok (.aload_n 0, 1) := by decide +kernel
theorem dX8_legAnswer_113 : decode cX8_legAnswer 113 = .ok (.getfield 47, 3) := by decide +kernel
theorem dX8_legAnswer_116 : decode cX8_legAnswer 116 = .ok (.getfield 317, 3) := by decide +kernel
theorem dX8_legAnswer_119 : decode cX8_legAnswer 119 = .ok (.iload_n 1, 1) := by decide +kernel
theorem dX8_legAnswer_120 : decode cX8_legAnswer 120 = .ok (.invokevirtual 77, 3) := by decide +kernel
theorem dX8_legAnswer_123 : decode cX8_legAnswer 123 = .ok (.ireturn, 1) := by decide +kernel
set_option maxRecDepth 20000 in
theorem ggX8_weekAnswer_X1_ofWholeWeek : GoodIn wsX8_weekAnswer wsX1_ofWholeWeek := goodIn_r _ [7, 8, 9, 10, 6, 11, 12, 13, 14, 15, 16, 17, 18, 19, 20, 21, 22, 23, 38, 39, 40, 41, 42] (by decide +kernel) (by decide +kernel)
set_option maxRecDepth 20000 in
theorem gX8_weekAnswer_X1_ofWholeWeek : GoodIn wsX8_weekAnswer (wsV RX8 265 RX1 yX1_ofWholeWeek wsX1_ofWholeWeek) := goodIn_app (goodIn_of _ (by decide +kernel)) ggX8_weekAnswer_X1_ofWholeWeek
set_option maxRecDepth 20000 in
theorem ggX8_weekAnswer_X5_at : GoodIn wsX8_weekAnswer wsX5_at := goodIn_r _ [16, 17, 42] (by decide +kernel) (by decide +kernel)
set_option maxRecDepth 20000 in
theorem gX8_weekAnswer_X5_at : GoodIn wsX8_weekAnswer (wsV RX8 77 RX5 yX5_at wsX5_at) := goodIn_app (goodIn_of _ (by decide +kernel)) ggX8_weekAnswer_X5_at
set_option maxRecDepth 20000 in
theorem ggX8_weekAnswer_X1_ofDaysByThemselves : GoodIn wsX8_weekAnswer wsX1_ofDaysByThemselves := goodIn_r _ [28, 9, 10, 6, 11, 18, 19, 20, 21, 22, 23, 12, 13, 14, 15, 16, 17, 38, 39, 40, 41, 42] (by decide +kernel) (by decide +kernel)
set_option maxRecDepth 20000 in
theorem gX8_weekAnswer_X1_ofDaysByThemselves : GoodIn wsX8_weekAnswer (wsV RX8 332 RX1 yX1_ofDaysByThemselves wsX1_ofDaysByThemselves) := goodIn_app (goodIn_of _ (by decide +kernel)) ggX8_weekAnswer_X1_ofDaysByThemselves
theorem dX8_weekAnswer_0 : decode cX8_weekAnswer 0 = .ok (.iload_n 2, 1) := by decide +kernel
theorem dX8_weekAnswer_1 : decode cX8_weekAnswer 1 = .ok (.lookupswitch 48 #[(0, 27), (1, 36)], 27) := by decide +kernel
theorem dX8_weekAnswer_28 : decode cX8_weekAnswer 28 = .ok (.aload_n 0, 1) := by decide +kernel
theorem dX8_weekAnswer_29 : decode cX8_weekAnswer 29 = .ok (.getfield 54, 3) := by decide +kernel
theorem dX8_weekAnswer_32 : decode cX8_weekAnswer 32 = .ok (.iload_n 1, 1) := by decide +kernel
theorem dX8_weekAnswer_33 : decode cX8_weekAnswer 33 = .ok (.invokevirtual 265, 3) := by decide +kernel
theorem dX8_weekAnswer_36 : decode cX8_weekAnswer 36 = .ok (.ireturn, 1) := by decide +kernel
theorem dX8_weekAnswer_37 : decode cX8_weekAnswer 37 = .ok (.aload_n 0, 1) := by decide +kernel
theorem dX8_weekAnswer_38 : decode cX8_weekAnswer 38 = .ok (.getfield 54, 3) := by decide +kernel
theorem dX8_weekAnswer_41 : decode cX8_weekAnswer 41 = .ok (.getfield 329, 3) := by decide +kernel
theorem dX8_weekAnswer_44 : decode cX8_weekAnswer 44 = .ok (.iload_n 1, 1) := by decide +kernel
theorem dX8_weekAnswer_45 : decode cX8_weekAnswer 45 = .ok (.invokevirtual 77, 3) := by decide +kernel
theorem dX8_weekAnswer_48 : decode cX8_weekAnswer 48 = .ok (.ireturn, 1) := by decide +kernel
theorem dX8_weekAnswer_49 : decode cX8_weekAnswer 49 = .ok (.aload_n 0, 1) := by decide +kernel
theorem dX8_weekAnswer_50 : decode cX8_weekAnswer 50 = .ok (.getfield 54, 3) := by decide +kernel
theorem dX8_weekAnswer_53 : decode cX8_weekAnswer 53 = .ok (.iload_n 1, 1) := by decide +kernel
theorem dX8_weekAnswer_54 : decode cX8_weekAnswer 54 = .ok (.invokevirtual 332, 3) := by decide +kernel
theorem dX8_weekAnswer_57 : decode cX8_weekAnswer 57 = .ok (.ireturn, 1) := by decide +kernel
set_option maxRecDepth 20000 in
theorem gX8_manyAnswer_X5_sum : GoodIn wsX8_manyAnswer (wsV RX8 335 RX5 yX5_sum wsX5_sum) := goodIn_sub (fun w h => List.mem_cons_of_mem _ (List.mem_append_right _ h)) (by decide +kernel)
theorem dX8_manyAnswer_0 : decode cX8_manyAnswer 0 = .ok (.iload_n 1, 1) := by decide +kernel
theorem dX8_manyAnswer_1 : decode cX8_manyAnswer 1 = .ok (.tableswitch 114 0 7 #[47, 55, 63, 71, 79, 84, 92, 103], 47) := by decide +kernel
theorem dX8_manyAnswer_48 : decode cX8_manyAnswer 48 = .ok (.aload_n 0, 1) := by decide +kernel
theorem dX8_manyAnswer_49 : decode cX8_manyAnswer 49 = .ok (.getfield 26, 3) := by decide +kernel
theorem dX8_manyAnswer_52 : decode cX8_manyAnswer 52 = .ok (.getfield 103, 3) := by decide +kernel
theorem dX8_manyAnswer_55 : decode cX8_manyAnswer 55 = .ok (.ireturn, 1) := by decide +kernel
theorem dX8_manyAnswer_56 : decode cX8_manyAnswer 56 = .ok (.aload_n 0, 1) := by decide +kernel
theorem dX8_manyAnswer_57 : decode cX8_manyAnswer 57 = .ok (.getfield 33, 3) := by decide +kernel
theorem dX8_manyAnswer_60 : decode cX8_manyAnswer 60 = .ok (.getfield 151, 3) := by decide +kernel
theorem dX8_manyAnswer_63 : decode cX8_manyAnswer 63 = .ok (.ireturn, 1) := by decide +kernel
theorem dX8_manyAnswer_64 : decode cX8_manyAnswer 64 = .ok (.aload_n 0, 1) := by decide +kernel
theorem dX8_manyAnswer_65 : decode cX8_manyAnswer 65 = .ok (.getfield 33, 3) := by decide +kernel
theorem dX8_manyAnswer_68 : decode cX8_manyAnswer 68 = .ok (.getfield 148, 3) := by decide +kernel
theorem dX8_manyAnswer_71 : decode cX8_manyAnswer 71 = .ok (.ireturn, 1) := by decide +kernel
theorem dX8_manyAnswer_72 : decode cX8_manyAnswer 72 = .ok (.aload_n 0, 1) := by decide +kernel
theorem dX8_manyAnswer_73 : decode cX8_manyAnswer 73 = .ok (.getfield 33, 3) := by decide +kernel
theorem dX8_manyAnswer_76 : decode cX8_manyAnswer 76 = .ok (.getfield 159, 3) := by decide +kernel
theorem dX8_manyAnswer_79 : decode cX8_manyAnswer 79 = .ok (.ireturn, 1) := by decide +kernel
theorem dX8_manyAnswer_80 : decode cX8_manyAnswer 80 = .ok (.aload_n 0, 1) := by decide +kernel
theorem dX8_manyAnswer_81 : decode cX8_manyAnswer 81 = .ok (.getfield 58, 3) := by decide +kernel
theorem dX8_manyAnswer_84 : decode cX8_manyAnswer 84 = .ok (.ireturn, 1) := by decide +kernel
theorem dX8_manyAnswer_85 : decode cX8_manyAnswer 85 = .ok (.aload_n 0, 1) := by decide +kernel
theorem dX8_manyAnswer_86 : decode cX8_manyAnswer 86 = .ok (.getfield 19, 3) := by decide +kernel
theorem dX8_manyAnswer_89 : decode cX8_manyAnswer 89 = .ok (.getfield 89, 3) := by decide +kernel
theorem dX8_manyAnswer_92 : decode cX8_manyAnswer 92 = .ok (.ireturn, 1) := by decide +kernel
theorem dX8_manyAnswer_93 : decode cX8_manyAnswer 93 = .ok (.aload_n 0, 1) := by decide +kernel
theorem dX8_manyAnswer_94 : decode cX8_manyAnswer 94 = .ok (.getfield 26, 3) := by decide +kernel
theorem dX8_manyAnswer_97 : decode cX8_manyAnswer 97 = .ok (.getfield 137, 3) := by decide +kernel
theorem dX8_manyAnswer_100 : decode cX8_manyAnswer 100 = .ok (.invokevirtual 335, 3) := by decide +kernel
theorem dX8_manyAnswer_103 : decode cX8_manyAnswer 103 = .ok (.ireturn, 1) := by decide +kernel
theorem dX8_manyAnswer_104 : decode cX8_manyAnswer 104 = .ok (.aload_n 0, 1) := by decide +kernel
theorem dX8_manyAnswer_105 : decode cX8_manyAnswer 105 = .ok (.getfield 26, 3) := by decide +kernel
theorem dX8_manyAnswer_108 : decode cX8_manyAnswer 108 = .ok (.getfield 271, 3) := by decide +kernel
theorem dX8_manyAnswer_111 : decode cX8_manyAnswer 111 = .ok (.invokevirtual 335, 3) := by decide +kernel
theorem dX8_manyAnswer_114 : decode cX8_manyAnswer 114 = .ok (.ireturn, 1) := by decide +kernel
theorem dX8_manyAnswer_115 : decode cX8_manyAnswer 115 = .ok (.aload_n 0, 1) := by decide +kernel
theorem dX8_manyAnswer_116 : decode cX8_manyAnswer 116 = .ok (.getfield 62, 3) := by decide +kernel
theorem dX8_manyAnswer_119 : decode cX8_manyAnswer 119 = .ok (.ireturn, 1) := by decide +kernel
set_option maxRecDepth 20000 in
theorem gX8_shareAnswer_X5_at : GoodIn wsX8_shareAnswer (wsV RX8 77 RX5 yX5_at wsX5_at) := goodIn_sub (fun w h => List.mem_cons_of_mem _ (List.mem_append_left _ (List.mem_append_left _ (List.mem_append_left _ (List.mem_append_right _ h))))) (by decide +kernel)
set_option maxRecDepth 20000 in
theorem gX8_shareAnswer_X1_byItself : GoodIn wsX8_shareAnswer (wsV RX8 290 RX1 yX1_byItself wsX1_byItself) := goodIn_sub (fun w h => List.mem_cons_of_mem _ (List.mem_append_left _ (List.mem_append_left _ (List.mem_append_right _ h)))) (by decide +kernel)
set_option maxRecDepth 20000 in
theorem gX8_shareAnswer_X8_weightOf : GoodIn wsX8_shareAnswer (wsV RX8 338 RX8 yX8_weightOf wsX8_weightOf) := goodIn_sub (fun w h => List.mem_cons_of_mem _ (List.mem_append_left _ (List.mem_append_right _ h))) (by decide +kernel)
set_option maxRecDepth 20000 in
theorem gX8_shareAnswer_X8_partOf : GoodIn wsX8_shareAnswer (va_wsS RX8 341 yX8_partOf wsX8_partOf) := goodIn_sub (fun w h => List.mem_cons_of_mem _ (List.mem_append_right _ h)) (by decide +kernel)
theorem dX8_shareAnswer_0 : decode cX8_shareAnswer 0 = .ok (.aload_n 0, 1) := by decide +kernel
theorem dX8_shareAnswer_1 : decode cX8_shareAnswer 1 = .ok (.getfield 40, 3) := by decide +kernel
theorem dX8_shareAnswer_4 : decode cX8_shareAnswer 4 = .ok (.getfield 200, 3) := by decide +kernel
theorem dX8_shareAnswer_7 : decode cX8_shareAnswer 7 = .ok (.iload_n 2, 1) := by decide +kernel
theorem dX8_shareAnswer_8 : decode cX8_shareAnswer 8 = .ok (.invokevirtual 77, 3) := by decide +kernel
theorem dX8_shareAnswer_11 : decode cX8_shareAnswer 11 = .ok (.ifCond .ne 5, 3) := by decide +kernel
theorem dX8_shareAnswer_14 : decode cX8_shareAnswer 14 = .ok (.iconst 0, 1) := by decide +kernel
theorem dX8_shareAnswer_15 : decode cX8_shareAnswer 15 = .ok (.ireturn, 1) := by decide +kernel
theorem dX8_shareAnswer_16 : decode cX8_shareAnswer 16 = .ok (.aload_n 0, 1) := by decide +kernel
theorem dX8_shareAnswer_17 : decode cX8_shareAnswer 17 = .ok (.getfield 54, 3) := by decide +kernel
theorem dX8_shareAnswer_20 : decode cX8_shareAnswer 20 = .ok (.iload_n 2, 1) := by decide +kernel
theorem dX8_shareAnswer_21 : decode cX8_shareAnswer 21 = .ok (.invokevirtual 290, 3) := by decide +kernel
theorem dX8_shareAnswer_24 : decode cX8_shareAnswer 24 = .ok (.istore_n 3, 1) := by decide +kernel
theorem dX8_shareAnswer_25 : decode cX8_shareAnswer 25 = .ok (.iconst 0, 1) := by decide +kernel
theorem dX8_shareAnswer_26 : decode cX8_shareAnswer 26 = .ok (.istore 4, 2) := by decide +kernel
theorem dX8_shareAnswer_28 : decode cX8_shareAnswer 28 = .ok (.iconst 0, 1) := by decide +kernel
theorem dX8_shareAnswer_29 : decode cX8_shareAnswer 29 = .ok (.istore 5, 2) := by decide +kernel
theorem dX8_shareAnswer_31 : decode cX8_shareAnswer 31 = .ok (.iload 5, 2) := by decide +kernel
theorem dX8_shareAnswer_33 : decode cX8_shareAnswer 33 = .ok (.iconst 3, 1) := by decide +kernel
theorem dX8_shareAnswer_34 : decode cX8_shareAnswer 34 = .ok (.if_icmp .ge 21, 3) := by decide +kernel
theorem dX8_shareAnswer_37 : decode cX8_shareAnswer 37 = .ok (.iload 4, 2) := by decide +kernel
theorem dX8_shareAnswer_39 : decode cX8_shareAnswer 39 = .ok (.aload_n 0, 1) := by decide +kernel
theorem dX8_shareAnswer_40 : decode cX8_shareAnswer 40 = .ok (.iload 5, 2) := by decide +kernel
theorem dX8_shareAnswer_42 : decode cX8_shareAnswer 42 = .ok (.iload_n 2, 1) := by decide +kernel
theorem dX8_shareAnswer_43 : decode cX8_shareAnswer 43 = .ok (.invokevirtual 338, 3) := by decide +kernel
theorem dX8_shareAnswer_46 : decode cX8_shareAnswer 46 = .ok (.iadd, 1) := by decide +kernel
theorem dX8_shareAnswer_47 : decode cX8_shareAnswer 47 = .ok (.istore 4, 2) := by decide +kernel
theorem dX8_shareAnswer_49 : decode cX8_shareAnswer 49 = .ok (.iinc 5 1, 3) := by decide +kernel
theorem dX8_shareAnswer_52 : decode cX8_shareAnswer 52 = .ok (.goto (-21), 3) := by decide +kernel
theorem dX8_shareAnswer_55 : decode cX8_shareAnswer 55 = .ok (.iload_n 1, 1) := by decide +kernel
theorem dX8_shareAnswer_56 : decode cX8_shareAnswer 56 = .ok (.aload_n 0, 1) := by decide +kernel
theorem dX8_shareAnswer_57 : decode cX8_shareAnswer 57 = .ok (.getfield 12, 3) := by decide +kernel
theorem dX8_shareAnswer_60 : decode cX8_shareAnswer 60 = .ok (.getfield 86, 3) := by decide +kernel
theorem dX8_shareAnswer_63 : decode cX8_shareAnswer 63 = .ok (.aload_n 0, 1) := by decide +kernel
theorem dX8_shareAnswer_64 : decode cX8_shareAnswer 64 = .ok (.getfield 40, 3) := by decide +kernel
theorem dX8_shareAnswer_67 : decode cX8_shareAnswer 67 = .ok (.getfield 311, 3) := by decide +kernel
theorem dX8_shareAnswer_70 : decode cX8_shareAnswer 70 = .ok (.aload_n 0, 1) := by decide +kernel
theorem dX8_shareAnswer_71 : decode cX8_shareAnswer 71 = .ok (.getfield 40, 3) := by decide +kernel
theorem dX8_shareAnswer_74 : decode cX8_shareAnswer 74 = .ok (.getfield 203, 3) := by decide +kernel
theorem dX8_shareAnswer_77 : decode cX8_shareAnswer 77 = .ok (.iload_n 2, 1) := by decide +kernel
theorem dX8_shareAnswer_78 : decode cX8_shareAnswer 78 = .ok (.invokevirtual 77, 3) := by decide +kernel
theorem dX8_shareAnswer_81 : decode cX8_shareAnswer 81 = .ok (.invokevirtual 77, 3) := by decide +kernel
theorem dX8_shareAnswer_84 : decode cX8_shareAnswer 84 = .ok (.invokevirtual 77, 3) := by decide +kernel
theorem dX8_shareAnswer_87 : decode cX8_shareAnswer 87 = .ok (.if_icmp .eq 16, 3) := by decide +kernel
theorem dX8_shareAnswer_90 : decode cX8_shareAnswer 90 = .ok (.iload_n 3, 1) := by decide +kernel
theorem dX8_shareAnswer_91 : decode cX8_shareAnswer 91 = .ok (.aload_n 0, 1) := by decide +kernel
theorem dX8_shareAnswer_92 : decode cX8_shareAnswer 92 = .ok (.iload_n 1, 1) := by decide +kernel
theorem dX8_shareAnswer_93 : decode cX8_shareAnswer 93 = .ok (.iload_n 2, 1) := by decide +kernel
theorem dX8_shareAnswer_94 : decode cX8_shareAnswer 94 = .ok (.invokevirtual 338, 3) := by decide +kernel
theorem dX8_shareAnswer_97 : decode cX8_shareAnswer 97 = .ok (.iload 4, 2) := by decide +kernel
theorem dX8_shareAnswer_99 : decode cX8_shareAnswer 99 = .ok (.invokestatic 341, 3) := by decide +kernel
theorem dX8_shareAnswer_102 : decode cX8_shareAnswer 102 = .ok (.ireturn, 1) := by decide +kernel
theorem dX8_shareAnswer_103 : decode cX8_shareAnswer 103 = .ok (.iload_n 3, 1) := by decide +kernel
theorem dX8_shareAnswer_104 : decode cX8_shareAnswer 104 = .ok (.istore 5, 2) := by decide +kernel
theorem dX8_shareAnswer_106 : decode cX8_shareAnswer 106 = .ok (.iconst 0, 1) := by decide +kernel
theorem dX8_shareAnswer_107 : decode cX8_shareAnswer 107 = .ok (.istore 6, 2) := by decide +kernel
theorem dX8_shareAnswer_109 : decode cX8_shareAnswer 109 = .ok (.iload 6, 2) := by decide +kernel
theorem dX8_shareAnswer_111 : decode cX8_shareAnswer 111 = .ok (.iconst 3, 1) := by decide +kernel
theorem dX8_shareAnswer_112 : decode cX8_shareAnswer 112 = .ok (.if_icmp .ge 33, 3) := by decide +kernel
theorem dX8_shareAnswer_115 : decode cX8_shareAnswer 115 = .ok (.iload 6, 2) := by decide +kernel
theorem dX8_shareAnswer_117 : decode cX8_shareAnswer 117 = .ok (.iload_n 1, 1) := by decide +kernel
theorem dX8_shareAnswer_118 : decode cX8_shareAnswer 118 = .ok (.if_icmp .eq 21, 3) := by decide +kernel
theorem dX8_shareAnswer_121 : decode cX8_shareAnswer 121 = .ok (.iload 5, 2) := by decide +kernel
theorem dX8_shareAnswer_123 : decode cX8_shareAnswer 123 = .ok (.iload_n 3, 1) := by decide +kernel
theorem dX8_shareAnswer_124 : decode cX8_shareAnswer 124 = .ok (.aload_n 0, 1) := by decide +kernel
theorem dX8_shareAnswer_125 : decode cX8_shareAnswer 125 = .ok (.iload 6, 2) := by decide +kernel
theorem dX8_shareAnswer_127 : decode cX8_shareAnswer 127 = .ok (.iload_n 2, 1) := by decide +kernel
theorem dX8_shareAnswer_128 : decode cX8_shareAnswer 128 = .ok (.invokevirtual 338, 3) := by decide +kernel
theorem dX8_shareAnswer_131 : decode cX8_shareAnswer 131 = .ok (.iload 4, 2) := by decide +kernel
theorem dX8_shareAnswer_133 : decode cX8_shareAnswer 133 = .ok (.invokestatic 341, 3) := by decide +kernel
theorem dX8_shareAnswer_136 : decode cX8_shareAnswer 136 = .ok (.isub, 1) := by decide +kernel
theorem dX8_shareAnswer_137 : decode cX8_shareAnswer 137 = .ok (.istore 5, 2) := by decide +kernel
theorem dX8_shareAnswer_139 : decode cX8_shareAnswer 139 = .ok (.iinc 6 1, 3) := by decide +kernel
theorem dX8_shareAnswer_142 : decode cX8_shareAnswer 142 = .ok (.goto (-33), 3) := by decide +kernel
theorem dX8_shareAnswer_145 : decode cX8_shareAnswer 145 = .ok (.iload 5, 2) := by decide +kernel
theorem dX8_shareAnswer_147 : decode cX8_shareAnswer 147 = .ok (.ireturn, 1) := by decide +kernel
theorem dX8_partOf_0 : decode cX8_partOf 0 = .ok (.iload_n 2, 1) := by decide +kernel
theorem dX8_partOf_1 : decode cX8_partOf 1 = .ok (.ifCond .le 11, 3) := by decide +kernel
theorem dX8_partOf_4 : decode cX8_partOf 4 = .ok (.iload_n 0, 1) := by decide +kernel
theorem dX8_partOf_5 : decode cX8_partOf 5 = .ok (.iload_n 1, 1) := by decide +kernel
theorem dX8_partOf_6 : decode cX8_partOf 6 = .ok (.imul, 1) := by decide +kernel
theorem dX8_partOf_7 : decode cX8_partOf 7 = .ok (.iload_n 2, 1) := by decide +kernel
theorem dX8_partOf_8 : decode cX8_partOf 8 = .ok (.idiv, 1) := by decide +kernel
theorem dX8_partOf_9 : decode cX8_partOf 9 = .ok (.goto 4, 3) := by decide +kernel
theorem dX8_partOf_12 : decode cX8_partOf 12 = .ok (.iconst 0, 1) := by decide +kernel
theorem dX8_partOf_13 : decode cX8_partOf 13 = .ok (.ireturn, 1) := by decide +kernel
set_option maxRecDepth 20000 in
theorem gX8_weightOf_X5_at : GoodIn wsX8_weightOf (wsV RX8 77 RX5 yX5_at wsX5_at) := goodIn_sub (fun w h => List.mem_cons_of_mem _ (List.mem_append_left _ (List.mem_append_left _ (List.mem_append_right _ h)))) (by decide +kernel)
set_option maxRecDepth 20000 in
theorem gX8_weightOf_X2_legsOfCarrier : GoodIn wsX8_weightOf (wsV RX8 345 RX2 yX2_legsOfCarrier wsX2_legsOfCarrier) := goodIn_sub (fun w h => List.mem_cons_of_mem _ (List.mem_append_left _ (List.mem_append_right _ h))) (by decide +kernel)
set_option maxRecDepth 20000 in
theorem gX8_weightOf_X8_partOf : GoodIn wsX8_weightOf (va_wsS RX8 341 yX8_partOf wsX8_partOf) := goodIn_sub (fun w h => List.mem_cons_of_mem _ (List.mem_append_right _ h)) (by decide +kernel)
theorem dX8_weightOf_0 : decode cX8_weightOf 0 = .ok (.iconst 0, 1) := by decide +kernel
theorem dX8_weightOf_1 : decode cX8_weightOf 1 = .ok (.istore_n 3, 1) := by decide +kernel
theorem dX8_weightOf_2 : decode cX8_weightOf 2 = .ok (.aload_n 0, 1) := by decide +kernel
theorem dX8_weightOf_3 : decode cX8_weightOf 3 = .ok (.getfield 47, 3) := by decide +kernel
theorem dX8_weightOf_6 : decode cX8_weightOf 6 = .ok (.getfield 210, 3) := by decide +kernel
theorem dX8_weightOf_9 : decode cX8_weightOf 9 = .ok (.iload_n 2, 1) := by decide +kernel
theorem dX8_weightOf_10 : decode cX8_weightOf 10 = .ok (.invokevirtual 77, 3) := by decide +kernel
theorem dX8_weightOf_13 : decode cX8_weightOf 13 = .ok (.istore 4, 2) := by decide +kernel
theorem dX8_weightOf_15 : decode cX8_weightOf 15 = .ok (.iconst 0, 1) := by decide +kernel
theorem dX8_weightOf_16 : decode cX8_weightOf 16 = .ok (.istore 5, 2) := by decide +kernel
theorem dX8_weightOf_18 : decode cX8_weightOf 18 = .ok (.iload 5, 2) := by decide +kernel
theorem dX8_weightOf_20 : decode cX8_weightOf 20 = .ok (.aload_n 0, 1) := by decide +kernel
theorem dX8_weightOf_21 : decode cX8_weightOf 21 = .ok (.getfield 47, 3) := by decide +kernel
theorem dX8_weightOf_24 : decode cX8_weightOf 24 = .ok (.getfield 209, 3) := by decide +kernel
theorem dX8_weightOf_27 : decode cX8_weightOf 27 = .ok (.iload_n 2, 1) := by decide +kernel
theorem dX8_weightOf_28 : decode cX8_weightOf 28 = .ok (.invokevirtual 77, 3) := by decide +kernel
theorem dX8_weightOf_31 : decode cX8_weightOf 31 = .ok (.if_icmp .ge 68, 3) := by decide +kernel
theorem dX8_weightOf_34 : decode cX8_weightOf 34 = .ok (.iload 4, 2) := by decide +kernel
theorem dX8_weightOf_36 : decode cX8_weightOf 36 = .ok (.iload 5, 2) := by decide +kernel
theorem dX8_weightOf_38 : decode cX8_weightOf 38 = .ok (.iadd, 1) := by decide +kernel
theorem dX8_weightOf_39 : decode cX8_weightOf 39 = .ok (.istore 6, 2) := by decide +kernel
theorem dX8_weightOf_41 : decode cX8_weightOf 41 = .ok (.aload_n 0, 1) := by decide +kernel
theorem dX8_weightOf_42 : decode cX8_weightOf 42 = .ok (.getfield 47, 3) := by decide +kernel
theorem dX8_weightOf_45 : decode cX8_weightOf 45 = .ok (.iload 6, 2) := by decide +kernel
theorem dX8_weightOf_47 : decode cX8_weightOf 47 = .ok (.aload_n 0, 1) := by decide +kernel
theorem dX8_weightOf_48 : decode cX8_weightOf 48 = .ok (.getfield 40, 3) := by decide +kernel
theorem dX8_weightOf_51 : decode cX8_weightOf 51 = .ok (.aload_n 0, 1) := by decide +kernel
theorem dX8_weightOf_52 : decode cX8_weightOf 52 = .ok (.getfield 12, 3) := by decide +kernel
theorem dX8_weightOf_55 : decode cX8_weightOf 55 = .ok (.iload_n 1, 1) := by decide +kernel
theorem dX8_weightOf_56 : decode cX8_weightOf 56 = .ok (.invokevirtual 345, 3) := by decide +kernel
theorem dX8_weightOf_59 : decode cX8_weightOf 59 = .ok (.istore 7, 2) := by decide +kernel
theorem dX8_weightOf_61 : decode cX8_weightOf 61 = .ok (.iload_n 3, 1) := by decide +kernel
theorem dX8_weightOf_62 : decode cX8_weightOf 62 = .ok (.aload_n 0, 1) := by decide +kernel
theorem dX8_weightOf_63 : decode cX8_weightOf 63 = .ok (.getfield 47, 3) := by decide +kernel
theorem dX8_weightOf_66 : decode cX8_weightOf 66 = .ok (.getfield 278, 3) := by decide +kernel
theorem dX8_weightOf_69 : decode cX8_weightOf 69 = .ok (.iload 6, 2) := by decide +kernel
theorem dX8_weightOf_71 : decode cX8_weightOf 71 = .ok (.invokevirtual 77, 3) := by decide +kernel
theorem dX8_weightOf_74 : decode cX8_weightOf 74 = .ok (.iload 7, 2) := by decide +kernel
theorem dX8_weightOf_76 : decode cX8_weightOf 76 = .ok (.aload_n 0, 1) := by decide +kernel
theorem dX8_weightOf_77 : decode cX8_weightOf 77 = .ok (.getfield 47, 3) := by decide +kernel
theorem dX8_weightOf_80 : decode cX8_weightOf 80 = .ok (.getfield 320, 3) := by decide +kernel
theorem dX8_weightOf_83 : decode cX8_weightOf 83 = .ok (.iload 6, 2) := by decide +kernel
theorem dX8_weightOf_85 : decode cX8_weightOf 85 = .ok (.invokevirtual 77, 3) := by decide +kernel
theorem dX8_weightOf_88 : decode cX8_weightOf 88 = .ok (.invokestatic 341, 3) := by decide +kernel
theorem dX8_weightOf_91 : decode cX8_weightOf 91 = .ok (.iadd, 1) := by decide +kernel
theorem dX8_weightOf_92 : decode cX8_weightOf 92 = .ok (.istore_n 3, 1) := by decide +kernel
theorem dX8_weightOf_93 : decode cX8_weightOf 93 = .ok (.iinc 5 1, 3) := by decide +kernel
theorem dX8_weightOf_96 : decode cX8_weightOf 96 = .ok (.goto (-78), 3) := by decide +kernel
theorem dX8_weightOf_99 : decode cX8_weightOf 99 = .ok (.iload_n 3, 1) := by decide +kernel
theorem dX8_weightOf_100 : decode cX8_weightOf 100 = .ok (.ireturn, 1) := by decide +kernel
