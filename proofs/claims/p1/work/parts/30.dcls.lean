set_option maxRecDepth 20000 in
theorem ggX0_give_X5_put : GoodIn wsX0_give wsX5_put := goodIn_r _ [7, 8, 15] (by decide +kernel) (by decide +kernel)
set_option maxRecDepth 20000 in
theorem gX0_give_X5_put : GoodIn wsX0_give (wsV RX0 36 RX5 yX5_put wsX5_put) := goodIn_app (goodIn_of _ (by decide +kernel)) ggX0_give_X5_put
theorem dX0_give_0 : decode cX0_give 0 = .ok (.aload_n 0, 1) := by decide +kernel
theorem dX0_give_1 : decode cX0_give 1 = .ok (.getfield 32, 3) := by decide +kernel
theorem dX0_give_4 : decode cX0_give 4 = .ok (.istore_n 1, 1) := by decide +kernel
theorem dX0_give_5 : decode cX0_give 5 = .ok (.aload_n 0, 1) := by decide +kernel
theorem dX0_give_6 : decode cX0_give 6 = .ok (.getfield 20, 3) := by decide +kernel
theorem dX0_give_9 : decode cX0_give 9 = .ok (.iload_n 1, 1) := by decide +kernel
theorem dX0_give_10 : decode cX0_give 10 = .ok (.iload_n 1, 1) := by decide +kernel
theorem dX0_give_11 : decode cX0_give 11 = .ok (.invokevirtual 36, 3) := by decide +kernel
theorem dX0_give_14 : decode cX0_give 14 = .ok (.aload_n 0, 1) := by decide +kernel
theorem dX0_give_15 : decode cX0_give 15 = .ok (.dup, 1) := by decide +kernel
theorem dX0_give_16 : decode cX0_give 16 = .ok (.getfield 32, 3) := by decide +kernel
theorem dX0_give_19 : decode cX0_give 19 = .ok (.iconst 1, 1) := by decide +kernel
theorem dX0_give_20 : decode cX0_give 20 = .ok (.iadd, 1) := by decide +kernel
theorem dX0_give_21 : decode cX0_give 21 = .ok (.putfield 32, 3) := by decide +kernel
theorem dX0_give_24 : decode cX0_give 24 = .ok (.iload_n 1, 1) := by decide +kernel
theorem dX0_give_25 : decode cX0_give 25 = .ok (.ireturn, 1) := by decide +kernel
set_option maxRecDepth 20000 in
theorem gX8_zone_X8_needNumber : GoodIn wsX8_zone (va_wsS RX8 65 yX8_needNumber wsX8_needNumber) := goodIn_sub (fun w h => List.mem_cons_of_mem _ (List.mem_append_left _ (List.mem_append_left _ (List.mem_append_left _ (List.mem_append_right _ h))))) (by decide +kernel)
set_option maxRecDepth 20000 in
theorem gX8_zone_X8_needRange : GoodIn wsX8_zone (va_wsS RX8 69 yX8_needRange wsX8_needRange) := goodIn_sub (fun w h => List.mem_cons_of_mem _ (List.mem_append_left _ (List.mem_append_left _ (List.mem_append_right _ h)))) (by decide +kernel)
set_option maxRecDepth 20000 in
theorem gX8_zone_X5_at : GoodIn wsX8_zone (wsV RX8 77 RX5 yX5_at wsX5_at) := goodIn_sub (fun w h => List.mem_cons_of_mem _ (List.mem_append_left _ (List.mem_append_right _ h))) (by decide +kernel)
set_option maxRecDepth 20000 in
theorem gX8_zone_X5_put : GoodIn wsX8_zone (wsV RX8 83 RX5 yX5_put wsX5_put) := goodIn_sub (fun w h => List.mem_cons_of_mem _ (List.mem_append_right _ h)) (by decide +kernel)
theorem dX8_zone_0 : decode cX8_zone 0 = .ok (.iload_n 1, 1) := by decide +kernel
theorem dX8_zone_1 : decode cX8_zone 1 = .ok (.bipush 10, 2) := by decide +kernel
theorem dX8_zone_3 : decode cX8_zone 3 = .ok (.invokestatic 65, 3) := by decide +kernel
theorem dX8_zone_6 : decode cX8_zone 6 = .ok (.iload_n 2, 1) := by decide +kernel
theorem dX8_zone_7 : decode cX8_zone 7 = .ok (.iconst 1, 1) := by decide +kernel
theorem dX8_zone_8 : decode cX8_zone 8 = .ok (.iconst 4, 1) := by decide +kernel
theorem dX8_zone_9 : decode cX8_zone 9 = .ok (.invokestatic 69, 3) := by decide +kernel
theorem dX8_zone_12 : decode cX8_zone 12 = .ok (.aload_n 0, 1) := by decide +kernel
theorem dX8_zone_13 : decode cX8_zone 13 = .ok (.getfield 12, 3) := by decide +kernel
theorem dX8_zone_16 : decode cX8_zone 16 = .ok (.getfield 73, 3) := by decide +kernel
theorem dX8_zone_19 : decode cX8_zone 19 = .ok (.iload_n 1, 1) := by decide +kernel
theorem dX8_zone_20 : decode cX8_zone 20 = .ok (.invokevirtual 77, 3) := by decide +kernel
theorem dX8_zone_23 : decode cX8_zone 23 = .ok (.istore_n 3, 1) := by decide +kernel
theorem dX8_zone_24 : decode cX8_zone 24 = .ok (.aload_n 0, 1) := by decide +kernel
theorem dX8_zone_25 : decode cX8_zone 25 = .ok (.getfield 12, 3) := by decide +kernel
theorem dX8_zone_28 : decode cX8_zone 28 = .ok (.getfield 73, 3) := by decide +kernel
theorem dX8_zone_31 : decode cX8_zone 31 = .ok (.iload_n 1, 1) := by decide +kernel
theorem dX8_zone_32 : decode cX8_zone 32 = .ok (.iload_n 2, 1) := by decide +kernel
theorem dX8_zone_33 : decode cX8_zone 33 = .ok (.invokevirtual 83, 3) := by decide +kernel
theorem dX8_zone_36 : decode cX8_zone 36 = .ok (.iload_n 3, 1) := by decide +kernel
theorem dX8_zone_37 : decode cX8_zone 37 = .ok (.ireturn, 1) := by decide +kernel
set_option maxRecDepth 20000 in
theorem gX8_carrier_X8_needNumber : GoodIn wsX8_carrier (va_wsS RX8 65 yX8_needNumber wsX8_needNumber) := goodIn_sub (fun w h => List.mem_cons_of_mem _ (List.mem_append_left _ (List.mem_append_left _ (List.mem_append_right _ h)))) (by decide +kernel)
set_option maxRecDepth 20000 in
theorem gX8_carrier_X5_at : GoodIn wsX8_carrier (wsV RX8 77 RX5 yX5_at wsX5_at) := goodIn_sub (fun w h => List.mem_cons_of_mem _ (List.mem_append_left _ (List.mem_append_right _ h))) (by decide +kernel)
set_option maxRecDepth 20000 in
theorem gX8_carrier_X5_put : GoodIn wsX8_carrier (wsV RX8 83 RX5 yX5_put wsX5_put) := goodIn_sub (fun w h => List.mem_cons_of_mem _ (List.mem_append_right _ h)) (by decide +kernel)
theorem dX8_carrier_0 : decode cX8_carrier 0 = .ok (.iload_n 1, 1) := by decide +kernel
theorem dX8_carrier_1 : decode cX8_carrier 1 = .ok (.bipush 6, 2) := by decide +kernel
theorem dX8_carrier_3 : decode cX8_carrier 3 = .ok (.invokestatic 65, 3) := by decide +kernel
theorem dX8_carrier_6 : decode cX8_carrier 6 = .ok (.iload_n 2, 1) := by decide +kernel
theorem dX8_carrier_7 : decode cX8_carrier 7 = .ok (.iconst 3, 1) := by decide +kernel
theorem dX8_carrier_8 : decode cX8_carrier 8 = .ok (.invokestatic 65, 3) := by decide +kernel
theorem dX8_carrier_11 : decode cX8_carrier 11 = .ok (.aload_n 0, 1) := by decide +kernel
theorem dX8_carrier_12 : decode cX8_carrier 12 = .ok (.getfield 12, 3) := by decide +kernel
theorem dX8_carrier_15 : decode cX8_carrier 15 = .ok (.getfield 86, 3) := by decide +kernel
theorem dX8_carrier_18 : decode cX8_carrier 18 = .ok (.iload_n 1, 1) := by decide +kernel
theorem dX8_carrier_19 : decode cX8_carrier 19 = .ok (.invokevirtual 77, 3) := by decide +kernel
theorem dX8_carrier_22 : decode cX8_carrier 22 = .ok (.istore_n 3, 1) := by decide +kernel
theorem dX8_carrier_23 : decode cX8_carrier 23 = .ok (.aload_n 0, 1) := by decide +kernel
theorem dX8_carrier_24 : decode cX8_carrier 24 = .ok (.getfield 12, 3) := by decide +kernel
theorem dX8_carrier_27 : decode cX8_carrier 27 = .ok (.getfield 86, 3) := by decide +kernel
theorem dX8_carrier_30 : decode cX8_carrier 30 = .ok (.iload_n 1, 1) := by decide +kernel
theorem dX8_carrier_31 : decode cX8_carrier 31 = .ok (.iload_n 2, 1) := by decide +kernel
theorem dX8_carrier_32 : decode cX8_carrier 32 = .ok (.invokevirtual 83, 3) := by decide +kernel
theorem dX8_carrier_35 : decode cX8_carrier 35 = .ok (.iload_n 3, 1) := by decide +kernel
theorem dX8_carrier_36 : decode cX8_carrier 36 = .ok (.ireturn, 1) := by decide +kernel
set_option maxRecDepth 20000 in
theorem gX8_tariff_X8_needRange : GoodIn wsX8_tariff (va_wsS RX8 69 yX8_needRange wsX8_needRange) := goodIn_sub (fun w h => List.mem_cons_of_mem _ (List.mem_append_left _ (List.mem_append_right _ h))) (by decide +kernel)
set_option maxRecDepth 20000 in
theorem gX8_tariff_X7_add : GoodIn wsX8_tariff (wsV RX8 99 RX7 yX7_add wsX7_add) := goodIn_sub (fun w h => List.mem_cons_of_mem _ (List.mem_append_right _ h)) (by decide +kernel)
theorem dX8_tariff_0 : decode cX8_tariff 0 = .ok (.iload_n 1, 1) := by decide +kernel
theorem dX8_tariff_1 : decode cX8_tariff 1 = .ok (.iconst 0, 1) := by decide +kernel
theorem dX8_tariff_2 : decode cX8_tariff 2 = .ok (.bipush 27, 2) := by decide +kernel
theorem dX8_tariff_4 : decode cX8_tariff 4 = .ok (.invokestatic 69, 3) := by decide +kernel
theorem dX8_tariff_7 : decode cX8_tariff 7 = .ok (.iload_n 2, 1) := by decide +kernel
theorem dX8_tariff_8 : decode cX8_tariff 8 = .ok (.iconst 1, 1) := by decide +kernel
theorem dX8_tariff_9 : decode cX8_tariff 9 = .ok (.bipush 9, 2) := by decide +kernel
theorem dX8_tariff_11 : decode cX8_tariff 11 = .ok (.invokestatic 69, 3) := by decide +kernel
theorem dX8_tariff_14 : decode cX8_tariff 14 = .ok (.iload_n 3, 1) := by decide +kernel
theorem dX8_tariff_15 : decode cX8_tariff 15 = .ok (.iconst 0, 1) := by decide +kernel
theorem dX8_tariff_16 : decode cX8_tariff 16 = .ok (.iconst 5, 1) := by decide +kernel
theorem dX8_tariff_17 : decode cX8_tariff 17 = .ok (.invokestatic 69, 3) := by decide +kernel
theorem dX8_tariff_20 : decode cX8_tariff 20 = .ok (.iload 4, 2) := by decide +kernel
theorem dX8_tariff_22 : decode cX8_tariff 22 = .ok (.iconst 1, 1) := by decide +kernel
theorem dX8_tariff_23 : decode cX8_tariff 23 = .ok (.bipush 50, 2) := by decide +kernel
theorem dX8_tariff_25 : decode cX8_tariff 25 = .ok (.invokestatic 69, 3) := by decide +kernel
theorem dX8_tariff_28 : decode cX8_tariff 28 = .ok (.iload 5, 2) := by decide +kernel
theorem dX8_tariff_30 : decode cX8_tariff 30 = .ok (.iconst 1, 1) := by decide +kernel
theorem dX8_tariff_31 : decode cX8_tariff 31 = .ok (.sipush 200, 3) := by decide +kernel
theorem dX8_tariff_34 : decode cX8_tariff 34 = .ok (.invokestatic 69, 3) := by decide +kernel
theorem dX8_tariff_37 : decode cX8_tariff 37 = .ok (.aload_n 0, 1) := by decide +kernel
theorem dX8_tariff_38 : decode cX8_tariff 38 = .ok (.getfield 19, 3) := by decide +kernel
theorem dX8_tariff_41 : decode cX8_tariff 41 = .ok (.getfield 89, 3) := by decide +kernel
theorem dX8_tariff_44 : decode cX8_tariff 44 = .ok (.bipush 6, 2) := by decide +kernel
theorem dX8_tariff_46 : decode cX8_tariff 46 = .ok (.if_icmp .ge 11, 3) := by decide +kernel
theorem dX8_tariff_49 : decode cX8_tariff 49 = .ok (.iload_n 1, 1) := by decide +kernel
theorem dX8_tariff_50 : decode cX8_tariff 50 = .ok (.aload_n 0, 1) := by decide +kernel
theorem dX8_tariff_51 : decode cX8_tariff 51 = .ok (.getfield 58, 3) := by decide +kernel
theorem dX8_tariff_54 : decode cX8_tariff 54 = .ok (.if_icmp .ge 13, 3) := by decide +kernel
theorem dX8_tariff_57 : decode cX8_tariff 57 = .ok (.new 92, 3) := by decide +kernel
theorem dX8_tariff_60 : decode cX8_tariff 60 = .ok (.dup, 1) := by decide +kernel
theorem dX8_tariff_61 : decode cX8_tariff 61 = .ok (.ldc 94, 2) := by decide +kernel
theorem dX8_tariff_63 : decode cX8_tariff 63 = .ok (.invokespecial 96, 3) := by decide +kernel
theorem dX8_tariff_66 : decode cX8_tariff 66 = .ok (.athrow, 1) := by decide +kernel
theorem dX8_tariff_67 : decode cX8_tariff 67 = .ok (.aload_n 0, 1) := by decide +kernel
theorem dX8_tariff_68 : decode cX8_tariff 68 = .ok (.getfield 19, 3) := by decide +kernel
theorem dX8_tariff_71 : decode cX8_tariff 71 = .ok (.iload_n 1, 1) := by decide +kernel
theorem dX8_tariff_72 : decode cX8_tariff 72 = .ok (.iload_n 2, 1) := by decide +kernel
theorem dX8_tariff_73 : decode cX8_tariff 73 = .ok (.iload_n 3, 1) := by decide +kernel
theorem dX8_tariff_74 : decode cX8_tariff 74 = .ok (.iload 4, 2) := by decide +kernel
theorem dX8_tariff_76 : decode cX8_tariff 76 = .ok (.iload 5, 2) := by decide +kernel
theorem dX8_tariff_78 : decode cX8_tariff 78 = .ok (.invokevirtual 99, 3) := by decide +kernel
theorem dX8_tariff_81 : decode cX8_tariff 81 = .ok (.aload_n 0, 1) := by decide +kernel
theorem dX8_tariff_82 : decode cX8_tariff 82 = .ok (.getfield 19, 3) := by decide +kernel
theorem dX8_tariff_85 : decode cX8_tariff 85 = .ok (.getfield 89, 3) := by decide +kernel
theorem dX8_tariff_88 : decode cX8_tariff 88 = .ok (.ireturn, 1) := by decide +kernel
set_option maxRecDepth 20000 in
theorem gX8_card_X0_give : GoodIn wsX8_card (wsV RX8 106 RX0 yX0_give wsX0_give) := goodIn_sub (fun w h => List.mem_cons_of_mem _ (List.mem_append_right _ h)) (by decide +kernel)
theorem dX8_card_0 : decode cX8_card 0 = .ok (.aload_n 0, 1) := by decide +kernel
theorem dX8_card_1 : decode cX8_card 1 = .ok (.getfield 26, 3) := by decide +kernel
theorem dX8_card_4 : decode cX8_card 4 = .ok (.getfield 103, 3) := by decide +kernel
theorem dX8_card_7 : decode cX8_card 7 = .ok (.iconst 4, 1) := by decide +kernel
theorem dX8_card_8 : decode cX8_card 8 = .ok (.if_icmp .lt 13, 3) := by decide +kernel
theorem dX8_card_11 : decode cX8_card 11 = .ok (.new 92, 3) := by decide +kernel
theorem dX8_card_14 : decode cX8_card 14 = .ok (.dup, 1) := by decide +kernel
theorem dX8_card_15 : decode cX8_card 15 = .ok (.ldc 104, 2) := by decide +kernel
theorem dX8_card_17 : decode cX8_card 17 = .ok (.invokespecial 96, 3) := by decide +kernel
theorem dX8_card_20 : decode cX8_card 20 = .ok (.athrow, 1) := by decide +kernel
theorem dX8_card_21 : decode cX8_card 21 = .ok (.aload_n 0, 1) := by decide +kernel
theorem dX8_card_22 : decode cX8_card 22 = .ok (.getfield 26, 3) := by decide +kernel
theorem dX8_card_25 : decode cX8_card 25 = .ok (.invokevirtual 106, 3) := by decide +kernel
theorem dX8_card_28 : decode cX8_card 28 = .ok (.ireturn, 1) := by decide +kernel
set_option maxRecDepth 20000 in
theorem gX8_tie_X8_needCard : GoodIn wsX8_tie (wsV RX8 110 RX8 yX8_needCard wsX8_needCard) := goodIn_sub (fun w h => List.mem_cons_of_mem _ (List.mem_append_right _ h)) (by decide +kernel)
theorem dX8_tie_0 : decode cX8_tie 0 = .ok (.aload_n 0, 1) := by decide +kernel
theorem dX8_tie_1 : decode cX8_tie 1 = .ok (.iload_n 1, 1) := by decide +kernel
theorem dX8_tie_2 : decode cX8_tie 2 = .ok (.invokevirtual 110, 3) := by decide +kernel
theorem dX8_tie_5 : decode cX8_tie 5 = .ok (.aload_n 0, 1) := by decide +kernel
theorem dX8_tie_6 : decode cX8_tie 6 = .ok (.iload_n 2, 1) := by decide +kernel
theorem dX8_tie_7 : decode cX8_tie 7 = .ok (.invokevirtual 114, 3) := by decide +kernel
theorem dX8_tie_10 : decode cX8_tie 10 = .ok (.iload_n 2, 1) := by decide +kernel
theorem dX8_tie_11 : decode cX8_tie 11 = .ok (.iload_n 1, 1) := by decide +kernel
theorem dX8_tie_12 : decode cX8_tie 12 = .ok (.if_icmp .lt 13, 3) := by decide +kernel
theorem dX8_tie_15 : decode cX8_tie 15 = .ok (.new 117, 3) := by decide +kernel
theorem dX8_tie_18 : decode cX8_tie 18 = .ok (.dup, 1) := by decide +kernel
theorem dX8_tie_19 : decode cX8_tie 19 = .ok (.ldc 119, 2) := by decide +kernel
theorem dX8_tie_21 : decode cX8_tie 21 = .ok (.invokespecial 121, 3) := by decide +kernel
theorem dX8_tie_24 : decode cX8_tie 24 = .ok (.athrow, 1) := by decide +kernel
theorem dX8_tie_25 : decode cX8_tie 25 = .ok (.aload_n 0, 1) := by decide +kernel
theorem dX8_tie_26 : decode cX8_tie 26 = .ok (.getfield 26, 3) := by decide +kernel
theorem dX8_tie_29 : decode cX8_tie 29 = .ok (.iload_n 1, 1) := by decide +kernel
theorem dX8_tie_30 : decode cX8_tie 30 = .ok (.invokevirtual 122, 3) := by decide +kernel
theorem dX8_tie_33 : decode cX8_tie 33 = .ok (.ifCond .eq 13, 3) := by decide +kernel
theorem dX8_tie_36 : decode cX8_tie 36 = .ok (.new 92, 3) := by decide +kernel
theorem dX8_tie_39 : decode cX8_tie 39 = .ok (.dup, 1) := by decide +kernel
theorem dX8_tie_40 : decode cX8_tie 40 = .ok (.ldc 126, 2) := by decide +kernel
theorem dX8_tie_42 : decode cX8_tie 42 = .ok (.invokespecial 96, 3) := by decide +kernel
theorem dX8_tie_45 : decode cX8_tie 45 = .ok (.athrow, 1) := by decide +kernel
theorem dX8_tie_46 : decode cX8_tie 46 = .ok (.aload_n 0, 1) := by decide +kernel
theorem dX8_tie_47 : decode cX8_tie 47 = .ok (.getfield 26, 3) := by decide +kernel
theorem dX8_tie_50 : decode cX8_tie 50 = .ok (.getfield 128, 3) := by decide +kernel
theorem dX8_tie_53 : decode cX8_tie 53 = .ok (.iload_n 1, 1) := by decide +kernel
theorem dX8_tie_54 : decode cX8_tie 54 = .ok (.invokevirtual 77, 3) := by decide +kernel
theorem dX8_tie_57 : decode cX8_tie 57 = .ok (.istore_n 3, 1) := by decide +kernel
theorem dX8_tie_58 : decode cX8_tie 58 = .ok (.aload_n 0, 1) := by decide +kernel
theorem dX8_tie_59 : decode cX8_tie 59 = .ok (.getfield 26, 3) := by decide +kernel
theorem dX8_tie_62 : decode cX8_tie 62 = .ok (.getfield 128, 3) := by decide +kernel
theorem dX8_tie_65 : decode cX8_tie 65 = .ok (.iload_n 1, 1) := by decide +kernel
theorem dX8_tie_66 : decode cX8_tie 66 = .ok (.iload_n 2, 1) := by decide +kernel
theorem dX8_tie_67 : decode cX8_tie 67 = .ok (.invokevirtual 83, 3) := by decide +kernel
theorem dX8_tie_70 : decode cX8_tie 70 = .ok (.iload_n 3, 1) := by decide +kernel
theorem dX8_tie_71 : decode cX8_tie 71 = .ok (.ireturn, 1) := by decide +kernel
set_option maxRecDepth 20000 in
theorem gX8_lose_X8_needCard : GoodIn wsX8_lose (wsV RX8 110 RX8 yX8_needCard wsX8_needCard) := goodIn_sub (fun w h => List.mem_cons_of_mem _ (List.mem_append_right _ h)) (by decide +kernel)
theorem dX8_lose_0 : decode cX8_lose 0 = .ok (.aload_n 0, 1) := by decide +kernel
theorem dX8_lose_1 : decode cX8_lose 1 = .ok (.iload_n 1, 1) := by decide +kernel
theorem dX8_lose_2 : decode cX8_lose 2 = .ok (.invokevirtual 110, 3) := by decide +kernel
theorem dX8_lose_5 : decode cX8_lose 5 = .ok (.aload_n 0, 1) := by decide +kernel
theorem dX8_lose_6 : decode cX8_lose 6 = .ok (.getfield 26, 3) := by decide +kernel
theorem dX8_lose_9 : decode cX8_lose 9 = .ok (.iload_n 1, 1) := by decide +kernel
theorem dX8_lose_10 : decode cX8_lose 10 = .ok (.invokevirtual 131, 3) := by decide +kernel
theorem dX8_lose_13 : decode cX8_lose 13 = .ok (.istore_n 3, 1) := by decide +kernel
theorem dX8_lose_14 : decode cX8_lose 14 = .ok (.aload_n 0, 1) := by decide +kernel
theorem dX8_lose_15 : decode cX8_lose 15 = .ok (.getfield 26, 3) := by decide +kernel
theorem dX8_lose_18 : decode cX8_lose 18 = .ok (.getfield 134, 3) := by decide +kernel
theorem dX8_lose_21 : decode cX8_lose 21 = .ok (.iload_n 1, 1) := by decide +kernel
theorem dX8_lose_22 : decode cX8_lose 22 = .ok (.iload_n 2, 1) := by decide +kernel
theorem dX8_lose_23 : decode cX8_lose 23 = .ok (.ifCond .eq 7, 3) := by decide +kernel
theorem dX8_lose_26 : decode cX8_lose 26 = .ok (.iconst 1, 1) := by decide +kernel
theorem dX8_lose_27 : decode cX8_lose 27 = .ok (.goto 4, 3) := by decide +kernel
theorem dX8_lose_30 : decode cX8_lose 30 = .ok (.iconst 0, 1) := by decide +kernel
theorem dX8_lose_31 : decode cX8_lose 31 = .ok (.invokevirtual 83, 3) := by decide +kernel
theorem dX8_lose_34 : decode cX8_lose 34 = .ok (.iload_n 3, 1) := by decide +kernel
theorem dX8_lose_35 : decode cX8_lose 35 = .ok (.ireturn, 1) := by decide +kernel
set_option maxRecDepth 20000 in
theorem gX8_pay_X8_needCard : GoodIn wsX8_pay (wsV RX8 110 RX8 yX8_needCard wsX8_needCard) := goodIn_sub (fun w h => List.mem_cons_of_mem _ (List.mem_append_right _ h)) (by decide +kernel)
theorem dX8_pay_0 : decode cX8_pay 0 = .ok (.aload_n 0, 1) := by decide +kernel
theorem dX8_pay_1 : decode cX8_pay 1 = .ok (.iload_n 1, 1) := by decide +kernel
theorem dX8_pay_2 : decode cX8_pay 2 = .ok (.invokevirtual 110, 3) := by decide +kernel
theorem dX8_pay_5 : decode cX8_pay 5 = .ok (.iload_n 2, 1) := by decide +kernel
theorem dX8_pay_6 : decode cX8_pay 6 = .ok (.iconst 1, 1) := by decide +kernel
theorem dX8_pay_7 : decode cX8_pay 7 = .ok (.sipush 999, 3) := by decide +kernel
theorem dX8_pay_10 : decode cX8_pay 10 = .ok (.invokestatic 69, 3) := by decide +kernel
theorem dX8_pay_13 : decode cX8_pay 13 = .ok (.aload_n 0, 1) := by decide +kernel
theorem dX8_pay_14 : decode cX8_pay 14 = .ok (.getfield 26, 3) := by decide +kernel
theorem dX8_pay_17 : decode cX8_pay 17 = .ok (.getfield 137, 3) := by decide +kernel
theorem dX8_pay_20 : decode cX8_pay 20 = .ok (.iload_n 1, 1) := by decide +kernel
theorem dX8_pay_21 : decode cX8_pay 21 = .ok (.iload_n 2, 1) := by decide +kernel
theorem dX8_pay_22 : decode cX8_pay 22 = .ok (.invokevirtual 140, 3) := by decide +kernel
theorem dX8_pay_25 : decode cX8_pay 25 = .ok (.aload_n 0, 1) := by decide +kernel
theorem dX8_pay_26 : decode cX8_pay 26 = .ok (.getfield 26, 3) := by decide +kernel
theorem dX8_pay_29 : decode cX8_pay 29 = .ok (.getfield 137, 3) := by decide +kernel
theorem dX8_pay_32 : decode cX8_pay 32 = .ok (.iload_n 1, 1) := by decide +kernel
theorem dX8_pay_33 : decode cX8_pay 33 = .ok (.invokevirtual 77, 3) := by decide +kernel
theorem dX8_pay_36 : decode cX8_pay 36 = .ok (.ireturn, 1) := by decide +kernel
set_option maxRecDepth 20000 in
theorem gX8_late_X8_needNumber : GoodIn wsX8_late (va_wsS RX8 65 yX8_needNumber wsX8_needNumber) := goodIn_sub (fun w h => List.mem_cons_of_mem _ (List.mem_append_left _ (List.mem_append_left _ (List.mem_append_left _ (List.mem_append_right _ h))))) (by decide +kernel)
set_option maxRecDepth 20000 in
theorem gX8_late_X8_needRange : GoodIn wsX8_late (va_wsS RX8 69 yX8_needRange wsX8_needRange) := goodIn_sub (fun w h => List.mem_cons_of_mem _ (List.mem_append_left _ (List.mem_append_left _ (List.mem_append_right _ h)))) (by decide +kernel)
set_option maxRecDepth 20000 in
theorem gX8_late_X5_at : GoodIn wsX8_late (wsV RX8 77 RX5 yX5_at wsX5_at) := goodIn_sub (fun w h => List.mem_cons_of_mem _ (List.mem_append_left _ (List.mem_append_right _ h))) (by decide +kernel)
set_option maxRecDepth 20000 in
theorem gX8_late_X5_put : GoodIn wsX8_late (wsV RX8 83 RX5 yX5_put wsX5_put) := goodIn_sub (fun w h => List.mem_cons_of_mem _ (List.mem_append_right _ h)) (by decide +kernel)
theorem dX8_late_0 : decode cX8_late 0 = .ok (.iload_n 1, 1) := by decide +kernel
theorem dX8_late_1 : decode cX8_late 1 = .ok (.bipush 6, 2) := by decide +kernel
theorem dX8_late_3 : decode cX8_late 3 = .ok (.invokestatic 65, 3) := by decide +kernel
theorem dX8_late_6 : decode cX8_late 6 = .ok (.iload_n 2, 1) := by decide +kernel
theorem dX8_late_7 : decode cX8_late 7 = .ok (.bipush 28, 2) := by decide +kernel
theorem dX8_late_9 : decode cX8_late 9 = .ok (.invokestatic 65, 3) := by decide +kernel
theorem dX8_late_12 : decode cX8_late 12 = .ok (.iload_n 3, 1) := by decide +kernel
theorem dX8_late_13 : decode cX8_late 13 = .ok (.iconst 0, 1) := by decide +kernel
theorem dX8_late_14 : decode cX8_late 14 = .ok (.sipush 200, 3) := by decide +kernel
theorem dX8_late_17 : decode cX8_late 17 = .ok (.invokestatic 69, 3) := by decide +kernel
theorem dX8_late_20 : decode cX8_late 20 = .ok (.iload_n 1, 1) := by decide +kernel
theorem dX8_late_21 : decode cX8_late 21 = .ok (.bipush 28, 2) := by decide +kernel
theorem dX8_late_23 : decode cX8_late 23 = .ok (.imul, 1) := by decide +kernel
theorem dX8_late_24 : decode cX8_late 24 = .ok (.iload_n 2, 1) := by decide +kernel
theorem dX8_late_25 : decode cX8_late 25 = .ok (.iadd, 1) := by decide +kernel
theorem dX8_late_26 : decode cX8_late 26 = .ok (.istore 4, 2) := by decide +kernel
theorem dX8_late_28 : decode cX8_late 28 = .ok (.aload_n 0, 1) := by decide +kernel
theorem dX8_late_29 : decode cX8_late 29 = .ok (.getfield 12, 3) := by decide +kernel
theorem dX8_late_32 : decode cX8_late 32 = .ok (.getfield 142, 3) := by decide +kernel
theorem dX8_late_35 : decode cX8_late 35 = .ok (.iload 4, 2) := by decide +kernel
theorem dX8_late_37 : decode cX8_late 37 = .ok (.invokevirtual 77, 3) := by decide +kernel
theorem dX8_late_40 : decode cX8_late 40 = .ok (.istore 5, 2) := by decide +kernel
theorem dX8_late_42 : decode cX8_late 42 = .ok (.aload_n 0, 1) := by decide +kernel
theorem dX8_late_43 : decode cX8_late 43 = .ok (.getfield 12, 3) := by decide +kernel
theorem dX8_late_46 : decode cX8_late 46 = .ok (.getfield 142, 3) := by decide +kernel
theorem dX8_late_49 : decode cX8_late 49 = .ok (.iload 4, 2) := by decide +kernel
theorem dX8_late_51 : decode cX8_late 51 = .ok (.iload_n 3, 1) := by decide +kernel
theorem dX8_late_52 : decode cX8_late 52 = .ok (.invokevirtual 83, 3) := by decide +kernel
theorem dX8_late_55 : decode cX8_late 55 = .ok (.iload 5, 2) := by decide +kernel
theorem dX8_late_57 : decode cX8_late 57 = .ok (.ireturn, 1) := by decide +kernel
set_option maxRecDepth 20000 in
theorem gX8_tap_X8_needTap : GoodIn wsX8_tap (wsV RX8 145 RX8 yX8_needTap wsX8_needTap) := goodIn_sub (fun w h => List.mem_cons_of_mem _ (List.mem_append_right _ h)) (by decide +kernel)
theorem dX8_tap_0 : decode cX8_tap 0 = .ok (.aload_n 0, 1) := by decide +kernel
theorem dX8_tap_1 : decode cX8_tap 1 = .ok (.iload_n 1, 1) := by decide +kernel
theorem dX8_tap_2 : decode cX8_tap 2 = .ok (.iload_n 2, 1) := by decide +kernel
theorem dX8_tap_3 : decode cX8_tap 3 = .ok (.iload_n 3, 1) := by decide +kernel
theorem dX8_tap_4 : decode cX8_tap 4 = .ok (.iload 5, 2) := by decide +kernel
theorem dX8_tap_6 : decode cX8_tap 6 = .ok (.iload 6, 2) := by decide +kernel
theorem dX8_tap_8 : decode cX8_tap 8 = .ok (.invokevirtual 145, 3) := by decide +kernel
theorem dX8_tap_11 : decode cX8_tap 11 = .ok (.aload_n 0, 1) := by decide +kernel
theorem dX8_tap_12 : decode cX8_tap 12 = .ok (.getfield 26, 3) := by decide +kernel
theorem dX8_tap_15 : decode cX8_tap 15 = .ok (.iload_n 1, 1) := by decide +kernel
theorem dX8_tap_16 : decode cX8_tap 16 = .ok (.invokevirtual 131, 3) := by decide +kernel
theorem dX8_tap_19 : decode cX8_tap 19 = .ok (.ifCond .eq 19, 3) := by decide +kernel
theorem dX8_tap_22 : decode cX8_tap 22 = .ok (.aload_n 0, 1) := by decide +kernel
theorem dX8_tap_23 : decode cX8_tap 23 = .ok (.getfield 33, 3) := by decide +kernel
theorem dX8_tap_26 : decode cX8_tap 26 = .ok (.dup, 1) := by decide +kernel
theorem dX8_tap_27 : decode cX8_tap 27 = .ok (.getfield 148, 3) := by decide +kernel
theorem dX8_tap_30 : decode cX8_tap 30 = .ok (.iconst 1, 1) := by decide +kernel
theorem dX8_tap_31 : decode cX8_tap 31 = .ok (.iadd, 1) := by decide +kernel
theorem dX8_tap_32 : decode cX8_tap 32 = .ok (.putfield 148, 3) := by decide +kernel
theorem dX8_tap_35 : decode cX8_tap 35 = .ok (.bipush (-2), 2) := by decide +kernel
theorem dX8_tap_37 : decode cX8_tap 37 = .ok (.ireturn, 1) := by decide +kernel
theorem dX8_tap_38 : decode cX8_tap 38 = .ok (.aload_n 0, 1) := by decide +kernel
theorem dX8_tap_39 : decode cX8_tap 39 = .ok (.getfield 33, 3) := by decide +kernel
theorem dX8_tap_42 : decode cX8_tap 42 = .ok (.aload_n 0, 1) := by decide +kernel
theorem dX8_tap_43 : decode cX8_tap 43 = .ok (.getfield 33, 3) := by decide +kernel
theorem dX8_tap_46 : decode cX8_tap 46 = .ok (.getfield 151, 3) := by decide +kernel
theorem dX8_tap_49 : decode cX8_tap 49 = .ok (.iload_n 1, 1) := by decide +kernel
theorem dX8_tap_50 : decode cX8_tap 50 = .ok (.iload_n 2, 1) := by decide +kernel
theorem dX8_tap_51 : decode cX8_tap 51 = .ok (.iload_n 3, 1) := by decide +kernel
theorem dX8_tap_52 : decode cX8_tap 52 = .ok (.iload 4, 2) := by decide +kernel
theorem dX8_tap_54 : decode cX8_tap 54 = .ok (.iload 5, 2) := by decide +kernel
theorem dX8_tap_56 : decode cX8_tap 56 = .ok (.iload 6, 2) := by decide +kernel
theorem dX8_tap_58 : decode cX8_tap 58 = .ok (.invokevirtual 152, 3) := by decide +kernel
theorem dX8_tap_61 : decode cX8_tap 61 = .ok (.aload_n 0, 1) := by decide +kernel
theorem dX8_tap_62 : decode cX8_tap 62 = .ok (.getfield 33, 3) := by decide +kernel
theorem dX8_tap_65 : decode cX8_tap 65 = .ok (.aload_n 0, 1) := by decide +kernel
theorem dX8_tap_66 : decode cX8_tap 66 = .ok (.getfield 33, 3) := by decide +kernel
theorem dX8_tap_69 : decode cX8_tap 69 = .ok (.getfield 151, 3) := by decide +kernel
theorem dX8_tap_72 : decode cX8_tap 72 = .ok (.invokevirtual 156, 3) := by decide +kernel
theorem dX8_tap_75 : decode cX8_tap 75 = .ok (.ifCond .eq 19, 3) := by decide +kernel
theorem dX8_tap_78 : decode cX8_tap 78 = .ok (.aload_n 0, 1) := by decide +kernel
theorem dX8_tap_79 : decode cX8_tap 79 = .ok (.getfield 33, 3) := by decide +kernel
theorem dX8_tap_82 : decode cX8_tap 82 = .ok (.dup, 1) := by decide +kernel
theorem dX8_tap_83 : decode cX8_tap 83 = .ok (.getfield 159, 3) := by decide +kernel
theorem dX8_tap_86 : decode cX8_tap 86 = .ok (.iconst 1, 1) := by decide +kernel
theorem dX8_tap_87 : decode cX8_tap 87 = .ok (.iadd, 1) := by decide +kernel
theorem dX8_tap_88 : decode cX8_tap 88 = .ok (.putfield 159, 3) := by decide +kernel
theorem dX8_tap_91 : decode cX8_tap 91 = .ok (.bipush (-3), 2) := by decide +kernel
theorem dX8_tap_93 : decode cX8_tap 93 = .ok (.ireturn, 1) := by decide +kernel
theorem dX8_tap_94 : decode cX8_tap 94 = .ok (.aload_n 0, 1) := by decide +kernel
theorem dX8_tap_95 : decode cX8_tap 95 = .ok (.getfield 33, 3) := by decide +kernel
theorem dX8_tap_98 : decode cX8_tap 98 = .ok (.getfield 151, 3) := by decide +kernel
theorem dX8_tap_101 : decode cX8_tap 101 = .ok (.bipush 40, 2) := by decide +kernel
theorem dX8_tap_103 : decode cX8_tap 103 = .ok (.if_icmp .lt 13, 3) := by decide +kernel
theorem dX8_tap_106 : decode cX8_tap 106 = .ok (.new 92, 3) := by decide +kernel
theorem dX8_tap_109 : decode cX8_tap 109 = .ok (.dup, 1) := by decide +kernel
theorem dX8_tap_110 : decode cX8_tap 110 = .ok (.ldc 162, 2) := by decide +kernel
theorem dX8_tap_112 : decode cX8_tap 112 = .ok (.invokespecial 96, 3) := by decide +kernel
theorem dX8_tap_115 : decode cX8_tap 115 = .ok (.athrow, 1) := by decide +kernel
theorem dX8_tap_116 : decode cX8_tap 116 = .ok (.aload_n 0, 1) := by decide +kernel
theorem dX8_tap_117 : decode cX8_tap 117 = .ok (.getfield 33, 3) := by decide +kernel
theorem dX8_tap_120 : decode cX8_tap 120 = .ok (.dup, 1) := by decide +kernel
theorem dX8_tap_121 : decode cX8_tap 121 = .ok (.getfield 151, 3) := by decide +kernel
theorem dX8_tap_124 : decode cX8_tap 124 = .ok (.iconst 1, 1) := by decide +kernel
theorem dX8_tap_125 : decode cX8_tap 125 = .ok (.iadd, 1) := by decide +kernel
theorem dX8_tap_126 : decode cX8_tap 126 = .ok (.putfield 151, 3) := by decide +kernel
theorem dX8_tap_129 : decode cX8_tap 129 = .ok (.aload_n 0, 1) := by decide +kernel
theorem dX8_tap_130 : decode cX8_tap 130 = .ok (.getfield 33, 3) := by decide +kernel
theorem dX8_tap_133 : decode cX8_tap 133 = .ok (.getfield 151, 3) := by decide +kernel
theorem dX8_tap_136 : decode cX8_tap 136 = .ok (.ireturn, 1) := by decide +kernel
theorem dX8_close_0 : decode cX8_close 0 = .ok (.aload_n 0, 1) := by decide +kernel
theorem dX8_close_1 : decode cX8_close 1 = .ok (.getfield 58, 3) := by decide +kernel
theorem dX8_close_4 : decode cX8_close 4 = .ok (.bipush 28, 2) := by decide +kernel
theorem dX8_close_6 : decode cX8_close 6 = .ok (.if_icmp .lt 13, 3) := by decide +kernel
theorem dX8_close_9 : decode cX8_close 9 = .ok (.new 92, 3) := by decide +kernel
theorem dX8_close_12 : decode cX8_close 12 = .ok (.dup, 1) := by decide +kernel
theorem dX8_close_13 : decode cX8_close 13 = .ok (.ldc 164, 2) := by decide +kernel
theorem dX8_close_15 : decode cX8_close 15 = .ok (.invokespecial 96, 3) := by decide +kernel
theorem dX8_close_18 : decode cX8_close 18 = .ok (.athrow, 1) := by decide +kernel
theorem dX8_close_19 : decode cX8_close 19 = .ok (.iconst 0, 1) := by decide +kernel
theorem dX8_close_20 : decode cX8_close 20 = .ok (.istore_n 1, 1) := by decide +kernel
theorem dX8_close_21 : decode cX8_close 21 = .ok (.iconst 0, 1) := by decide +kernel
theorem dX8_close_22 : decode cX8_close 22 = .ok (.istore_n 2, 1) := by decide +kernel
theorem dX8_close_23 : decode cX8_close 23 = .ok (.iload_n 2, 1) := by decide +kernel
theorem dX8_close_24 : decode cX8_close 24 = .ok (.aload_n 0, 1) := by decide +kernel
theorem dX8_close_25 : decode cX8_close 25 = .ok (.getfield 26, 3) := by decide +kernel
theorem dX8_close_28 : decode cX8_close 28 = .ok (.getfield 103, 3) := by decide +kernel
theorem dX8_close_31 : decode cX8_close 31 = .ok (.if_icmp .ge 54, 3) := by decide +kernel
theorem dX8_close_34 : decode cX8_close 34 = .ok (.aload_n 0, 1) := by decide +kernel
theorem dX8_close_35 : decode cX8_close 35 = .ok (.getfield 26, 3) := by decide +kernel
theorem dX8_close_38 : decode cX8_close 38 = .ok (.iload_n 2, 1) := by decide +kernel
theorem dX8_close_39 : decode cX8_close 39 = .ok (.invokevirtual 166, 3) := by decide +kernel
theorem dX8_close_42 : decode cX8_close 42 = .ok (.ifCond .eq 37, 3) := by decide +kernel
theorem dX8_close_45 : decode cX8_close 45 = .ok (.aload_n 0, 1) := by decide +kernel
theorem dX8_close_46 : decode cX8_close 46 = .ok (.iload_n 2, 1) := by decide +kernel
theorem dX8_close_47 : decode cX8_close 47 = .ok (.aload_n 0, 1) := by decide +kernel
theorem dX8_close_48 : decode cX8_close 48 = .ok (.getfield 58, 3) := by decide +kernel
theorem dX8_close_51 : decode cX8_close 51 = .ok (.invokevirtual 169, 3) := by decide +kernel
theorem dX8_close_54 : decode cX8_close 54 = .ok (.istore_n 3, 1) := by decide +kernel
theorem dX8_close_55 : decode cX8_close 55 = .ok (.iload_n 3, 1) := by decide +kernel
theorem dX8_close_56 : decode cX8_close 56 = .ok (.ifCond .le 23, 3) := by decide +kernel
theorem dX8_close_59 : decode cX8_close 59 = .ok (.aload_n 0, 1) := by decide +kernel
theorem dX8_close_60 : decode cX8_close 60 = .ok (.getfield 26, 3) := by decide +kernel
theorem dX8_close_63 : decode cX8_close 63 = .ok (.iload_n 2, 1) := by decide +kernel
theorem dX8_close_64 : decode cX8_close 64 = .ok (.aload_n 0, 1) := by decide +kernel
theorem dX8_close_65 : decode cX8_close 65 = .ok (.getfield 58, 3) := by decide +kernel
theorem dX8_close_68 : decode cX8_close 68 = .ok (.bipush 7, 2) := by decide +kernel
theorem dX8_close_70 : decode cX8_close 70 = .ok (.idiv, 1) := by decide +kernel
theorem dX8_close_71 : decode cX8_close 71 = .ok (.iload_n 3, 1) := by decide +kernel
theorem dX8_close_72 : decode cX8_close 72 = .ok (.invokevirtual 173, 3) := by decide +kernel
theorem dX8_close_75 : decode cX8_close 75 = .ok (.iload_n 1, 1) := by decide +kernel
theorem dX8_close_76 : decode cX8_close 76 = .ok (.iload_n 3, 1) := by decide +kernel
theorem dX8_close_77 : decode cX8_close 77 = .ok (.iadd, 1) := by decide +kernel
theorem dX8_close_78 : decode cX8_close 78 = .ok (.istore_n 1, 1) := by decide +kernel
theorem dX8_close_79 : decode cX8_close 79 = .ok (.iinc 2 1, 3) := by decide +kernel
theorem dX8_close_82 : decode cX8_close 82 = .ok (.goto (-59), 3) := by decide +kernel
theorem dX8_close_85 : decode cX8_close 85 = .ok (.aload_n 0, 1) := by decide +kernel
theorem dX8_close_86 : decode cX8_close 86 = .ok (.dup, 1) := by decide +kernel
theorem dX8_close_87 : decode cX8_close 87 = .ok (.getfield 58, 3) := by decide +kernel
theorem dX8_close_90 : decode cX8_close 90 = .ok (.iconst 1, 1) := by decide +kernel
theorem dX8_close_91 : decode cX8_close 91 = .ok (.iadd, 1) := by decide +kernel
theorem dX8_close_92 : decode cX8_close 92 = .ok (.putfield 58, 3) := by decide +kernel
theorem dX8_close_95 : decode cX8_close 95 = .ok (.iload_n 1, 1) := by decide +kernel
theorem dX8_close_96 : decode cX8_close 96 = .ok (.ireturn, 1) := by decide +kernel
set_option maxRecDepth 20000 in
theorem gX8_settle_X8_needPerson : GoodIn wsX8_settle (wsV RX8 114 RX8 yX8_needPerson wsX8_needPerson) := goodIn_sub (fun w h => List.mem_cons_of_mem _ (List.mem_append_right _ h)) (by decide +kernel)
theorem dX8_settle_0 : decode cX8_settle 0 = .ok (.aload_n 0, 1) := by decide +kernel
theorem dX8_settle_1 : decode cX8_settle 1 = .ok (.iload_n 1, 1) := by decide +kernel
theorem dX8_settle_2 : decode cX8_settle 2 = .ok (.invokevirtual 114, 3) := by decide +kernel
theorem dX8_settle_5 : decode cX8_settle 5 = .ok (.iload_n 2, 1) := by decide +kernel
theorem dX8_settle_6 : decode cX8_settle 6 = .ok (.iconst 4, 1) := by decide +kernel
theorem dX8_settle_7 : decode cX8_settle 7 = .ok (.invokestatic 65, 3) := by decide +kernel
theorem dX8_settle_10 : decode cX8_settle 10 = .ok (.iload_n 2, 1) := by decide +kernel
theorem dX8_settle_11 : decode cX8_settle 11 = .ok (.bipush 7, 2) := by decide +kernel
theorem dX8_settle_13 : decode cX8_settle 13 = .ok (.imul, 1) := by decide +kernel
theorem dX8_settle_14 : decode cX8_settle 14 = .ok (.istore_n 3, 1) := by decide +kernel
theorem dX8_settle_15 : decode cX8_settle 15 = .ok (.aload_n 0, 1) := by decide +kernel
theorem dX8_settle_16 : decode cX8_settle 16 = .ok (.getfield 58, 3) := by decide +kernel
theorem dX8_settle_19 : decode cX8_settle 19 = .ok (.iload_n 3, 1) := by decide +kernel
theorem dX8_settle_20 : decode cX8_settle 20 = .ok (.if_icmp .gt 13, 3) := by decide +kernel
theorem dX8_settle_23 : decode cX8_settle 23 = .ok (.new 92, 3) := by decide +kernel
theorem dX8_settle_26 : decode cX8_settle 26 = .ok (.dup, 1) := by decide +kernel
theorem dX8_settle_27 : decode cX8_settle 27 = .ok (.ldc 176, 2) := by decide +kernel
theorem dX8_settle_29 : decode cX8_settle 29 = .ok (.invokespecial 96, 3) := by decide +kernel
theorem dX8_settle_32 : decode cX8_settle 32 = .ok (.athrow, 1) := by decide +kernel
theorem dX8_settle_33 : decode cX8_settle 33 = .ok (.aload_n 0, 1) := by decide +kernel
theorem dX8_settle_34 : decode cX8_settle 34 = .ok (.iload_n 1, 1) := by decide +kernel
theorem dX8_settle_35 : decode cX8_settle 35 = .ok (.aload_n 0, 1) := by decide +kernel
theorem dX8_settle_36 : decode cX8_settle 36 = .ok (.getfield 58, 3) := by decide +kernel
theorem dX8_settle_39 : decode cX8_settle 39 = .ok (.iload_n 3, 1) := by decide +kernel
theorem dX8_settle_40 : decode cX8_settle 40 = .ok (.bipush 7, 2) := by decide +kernel
theorem dX8_settle_42 : decode cX8_settle 42 = .ok (.iadd, 1) := by decide +kernel
theorem dX8_settle_43 : decode cX8_settle 43 = .ok (.invokestatic 178, 3) := by decide +kernel
theorem dX8_settle_46 : decode cX8_settle 46 = .ok (.iconst 1, 1) := by decide +kernel
theorem dX8_settle_47 : decode cX8_settle 47 = .ok (.isub, 1) := by decide +kernel
theorem dX8_settle_48 : decode cX8_settle 48 = .ok (.invokevirtual 169, 3) := by decide +kernel
theorem dX8_settle_51 : decode cX8_settle 51 = .ok (.istore 4, 2) := by decide +kernel
theorem dX8_settle_53 : decode cX8_settle 53 = .ok (.aload_n 0, 1) := by decide +kernel
theorem dX8_settle_54 : decode cX8_settle 54 = .ok (.getfield 26, 3) := by decide +kernel
theorem dX8_settle_57 : decode cX8_settle 57 = .ok (.iload_n 1, 1) := by decide +kernel
theorem dX8_settle_58 : decode cX8_settle 58 = .ok (.iload_n 2, 1) := by decide +kernel
theorem dX8_settle_59 : decode cX8_settle 59 = .ok (.iload 4, 2) := by decide +kernel
theorem dX8_settle_61 : decode cX8_settle 61 = .ok (.invokevirtual 173, 3) := by decide +kernel
theorem dX8_settle_64 : decode cX8_settle 64 = .ok (.iload 4, 2) := by decide +kernel
theorem dX8_settle_66 : decode cX8_settle 66 = .ok (.ireturn, 1) := by decide +kernel
set_option maxRecDepth 20000 in
theorem gX8_refund_X8_needPerson : GoodIn wsX8_refund (wsV RX8 114 RX8 yX8_needPerson wsX8_needPerson) := goodIn_sub (fun w h => List.mem_cons_of_mem _ (List.mem_append_right _ h)) (by decide +kernel)
theorem dX8_refund_0 : decode cX8_refund 0 = .ok (.aload_n 0, 1) := by decide +kernel
theorem dX8_refund_1 : decode cX8_refund 1 = .ok (.iload_n 1, 1) := by decide +kernel
theorem dX8_refund_2 : decode cX8_refund 2 = .ok (.invokevirtual 114, 3) := by decide +kernel
theorem dX8_refund_5 : decode cX8_refund 5 = .ok (.iload_n 2, 1) := by decide +kernel
theorem dX8_refund_6 : decode cX8_refund 6 = .ok (.bipush 6, 2) := by decide +kernel
theorem dX8_refund_8 : decode cX8_refund 8 = .ok (.invokestatic 65, 3) := by decide +kernel
theorem dX8_refund_11 : decode cX8_refund 11 = .ok (.iload_n 3, 1) := by decide +kernel
theorem dX8_refund_12 : decode cX8_refund 12 = .ok (.bipush 28, 2) := by decide +kernel
theorem dX8_refund_14 : decode cX8_refund 14 = .ok (.invokestatic 65, 3) := by decide +kernel
theorem dX8_refund_17 : decode cX8_refund 17 = .ok (.iload_n 2, 1) := by decide +kernel
theorem dX8_refund_18 : decode cX8_refund 18 = .ok (.bipush 28, 2) := by decide +kernel
theorem dX8_refund_20 : decode cX8_refund 20 = .ok (.imul, 1) := by decide +kernel
theorem dX8_refund_21 : decode cX8_refund 21 = .ok (.iload_n 3, 1) := by decide +kernel
theorem dX8_refund_22 : decode cX8_refund 22 = .ok (.iadd, 1) := by decide +kernel
theorem dX8_refund_23 : decode cX8_refund 23 = .ok (.istore 4, 2) := by decide +kernel
theorem dX8_refund_25 : decode cX8_refund 25 = .ok (.iload_n 1, 1) := by decide +kernel
theorem dX8_refund_26 : decode cX8_refund 26 = .ok (.bipush 6, 2) := by decide +kernel
theorem dX8_refund_28 : decode cX8_refund 28 = .ok (.imul, 1) := by decide +kernel
theorem dX8_refund_29 : decode cX8_refund 29 = .ok (.bipush 28, 2) := by decide +kernel
theorem dX8_refund_31 : decode cX8_refund 31 = .ok (.imul, 1) := by decide +kernel
theorem dX8_refund_32 : decode cX8_refund 32 = .ok (.iload 4, 2) := by decide +kernel
theorem dX8_refund_34 : decode cX8_refund 34 = .ok (.iadd, 1) := by decide +kernel
theorem dX8_refund_35 : decode cX8_refund 35 = .ok (.istore 5, 2) := by decide +kernel
theorem dX8_refund_37 : decode cX8_refund 37 = .ok (.aload_n 0, 1) := by decide +kernel
theorem dX8_refund_38 : decode cX8_refund 38 = .ok (.getfield 12, 3) := by decide +kernel
theorem dX8_refund_41 : decode cX8_refund 41 = .ok (.getfield 142, 3) := by decide +kernel
theorem dX8_refund_44 : decode cX8_refund 44 = .ok (.iload 4, 2) := by decide +kernel
theorem dX8_refund_46 : decode cX8_refund 46 = .ok (.invokevirtual 77, 3) := by decide +kernel
theorem dX8_refund_49 : decode cX8_refund 49 = .ok (.bipush 30, 2) := by decide +kernel
theorem dX8_refund_51 : decode cX8_refund 51 = .ok (.if_icmp .lt 18, 3) := by decide +kernel
theorem dX8_refund_54 : decode cX8_refund 54 = .ok (.aload_n 0, 1) := by decide +kernel
theorem dX8_refund_55 : decode cX8_refund 55 = .ok (.getfield 26, 3) := by decide +kernel
theorem dX8_refund_58 : decode cX8_refund 58 = .ok (.getfield 183, 3) := by decide +kernel
theorem dX8_refund_61 : decode cX8_refund 61 = .ok (.iload 5, 2) := by decide +kernel
theorem dX8_refund_63 : decode cX8_refund 63 = .ok (.invokevirtual 77, 3) := by decide +kernel
theorem dX8_refund_66 : decode cX8_refund 66 = .ok (.ifCond .eq 13, 3) := by decide +kernel
theorem dX8_refund_69 : decode cX8_refund 69 = .ok (.new 92, 3) := by decide +kernel
theorem dX8_refund_72 : decode cX8_refund 72 = .ok (.dup, 1) := by decide +kernel
theorem dX8_refund_73 : decode cX8_refund 73 = .ok (.ldc 186, 2) := by decide +kernel
theorem dX8_refund_75 : decode cX8_refund 75 = .ok (.invokespecial 96, 3) := by decide +kernel
theorem dX8_refund_78 : decode cX8_refund 78 = .ok (.athrow, 1) := by decide +kernel
theorem dX8_refund_79 : decode cX8_refund 79 = .ok (.aload_n 0, 1) := by decide +kernel
theorem dX8_refund_80 : decode cX8_refund 80 = .ok (.getfield 26, 3) := by decide +kernel
theorem dX8_refund_83 : decode cX8_refund 83 = .ok (.getfield 183, 3) := by decide +kernel
theorem dX8_refund_86 : decode cX8_refund 86 = .ok (.iload 5, 2) := by decide +kernel
theorem dX8_refund_88 : decode cX8_refund 88 = .ok (.iconst 1, 1) := by decide +kernel
theorem dX8_refund_89 : decode cX8_refund 89 = .ok (.invokevirtual 83, 3) := by decide +kernel
theorem dX8_refund_92 : decode cX8_refund 92 = .ok (.aload_n 0, 1) := by decide +kernel
theorem dX8_refund_93 : decode cX8_refund 93 = .ok (.iload_n 1, 1) := by decide +kernel
theorem dX8_refund_94 : decode cX8_refund 94 = .ok (.aload_n 0, 1) := by decide +kernel
theorem dX8_refund_95 : decode cX8_refund 95 = .ok (.getfield 33, 3) := by decide +kernel
theorem dX8_refund_98 : decode cX8_refund 98 = .ok (.getfield 151, 3) := by decide +kernel
theorem dX8_refund_101 : decode cX8_refund 101 = .ok (.iconst (-1), 1) := by decide +kernel
theorem dX8_refund_102 : decode cX8_refund 102 = .ok (.invokevirtual 188, 3) := by decide +kernel
theorem dX8_refund_105 : decode cX8_refund 105 = .ok (.aload_n 0, 1) := by decide +kernel
theorem dX8_refund_106 : decode cX8_refund 106 = .ok (.iload_n 2, 1) := by decide +kernel
theorem dX8_refund_107 : decode cX8_refund 107 = .ok (.iload_n 3, 1) := by decide +kernel
theorem dX8_refund_108 : decode cX8_refund 108 = .ok (.invokevirtual 191, 3) := by decide +kernel
theorem dX8_refund_111 : decode cX8_refund 111 = .ok (.istore 6, 2) := by decide +kernel
theorem dX8_refund_113 : decode cX8_refund 113 = .ok (.aload_n 0, 1) := by decide +kernel
theorem dX8_refund_114 : decode cX8_refund 114 = .ok (.getfield 26, 3) := by decide +kernel
theorem dX8_refund_117 : decode cX8_refund 117 = .ok (.getfield 137, 3) := by decide +kernel
theorem dX8_refund_120 : decode cX8_refund 120 = .ok (.iload_n 1, 1) := by decide +kernel
theorem dX8_refund_121 : decode cX8_refund 121 = .ok (.iload 6, 2) := by decide +kernel
theorem dX8_refund_123 : decode cX8_refund 123 = .ok (.invokevirtual 140, 3) := by decide +kernel
theorem dX8_refund_126 : decode cX8_refund 126 = .ok (.aload_n 0, 1) := by decide +kernel
theorem dX8_refund_127 : decode cX8_refund 127 = .ok (.dup, 1) := by decide +kernel
theorem dX8_refund_128 : decode cX8_refund 128 = .ok (.getfield 62, 3) := by decide +kernel
theorem dX8_refund_131 : decode cX8_refund 131 = .ok (.iload 6, 2) := by decide +kernel
theorem dX8_refund_133 : decode cX8_refund 133 = .ok (.iadd, 1) := by decide +kernel
theorem dX8_refund_134 : decode cX8_refund 134 = .ok (.putfield 62, 3) := by decide +kernel
theorem dX8_refund_137 : decode cX8_refund 137 = .ok (.iload 6, 2) := by decide +kernel
theorem dX8_refund_139 : decode cX8_refund 139 = .ok (.ireturn, 1) := by decide +kernel
set_option maxRecDepth 20000 in
theorem gX8_ofCard_X8_needCard : GoodIn wsX8_ofCard (wsV RX8 110 RX8 yX8_needCard wsX8_needCard) := goodIn_sub (fun w h => List.mem_cons_of_mem _ (List.mem_append_right _ h)) (by decide +kernel)
theorem dX8_ofCard_0 : decode cX8_ofCard 0 = .ok (.aload_n 0, 1) := by decide +kernel
theorem dX8_ofCard_1 : decode cX8_ofCard 1 = .ok (.iload_n 1, 1) := by decide +kernel
theorem dX8_ofCard_2 : decode cX8_ofCard 2 = .ok (.invokevirtual 110, 3) := by decide +kernel
theorem dX8_ofCard_5 : decode cX8_ofCard 5 = .ok (.iload_n 2, 1) := by decide +kernel
theorem dX8_ofCard_6 : decode cX8_ofCard 6 = .ok (.iconst 0, 1) := by decide +kernel
theorem dX8_ofCard_7 : decode cX8_ofCard 7 = .ok (.bipush 7, 2) := by decide +kernel
theorem dX8_ofCard_9 : decode cX8_ofCard 9 = .ok (.invokestatic 69, 3) := by decide +kernel
theorem dX8_ofCard_12 : decode cX8_ofCard 12 = .ok (.aload_n 0, 1) := by decide +kernel
theorem dX8_ofCard_13 : decode cX8_ofCard 13 = .ok (.iload_n 1, 1) := by decide +kernel
theorem dX8_ofCard_14 : decode cX8_ofCard 14 = .ok (.iload_n 2, 1) := by decide +kernel
theorem dX8_ofCard_15 : decode cX8_ofCard 15 = .ok (.invokevirtual 194, 3) := by decide +kernel
theorem dX8_ofCard_18 : decode cX8_ofCard 18 = .ok (.ireturn, 1) := by decide +kernel
set_option maxRecDepth 20000 in
theorem gX8_ofDay_X8_needPerson : GoodIn wsX8_ofDay (wsV RX8 114 RX8 yX8_needPerson wsX8_needPerson) := goodIn_sub (fun w h => List.mem_cons_of_mem _ (List.mem_append_right _ h)) (by decide +kernel)
theorem dX8_ofDay_0 : decode cX8_ofDay 0 = .ok (.aload_n 0, 1) := by decide +kernel
theorem dX8_ofDay_1 : decode cX8_ofDay 1 = .ok (.iload_n 1, 1) := by decide +kernel
theorem dX8_ofDay_2 : decode cX8_ofDay 2 = .ok (.invokevirtual 114, 3) := by decide +kernel
theorem dX8_ofDay_5 : decode cX8_ofDay 5 = .ok (.iload_n 2, 1) := by decide +kernel
theorem dX8_ofDay_6 : decode cX8_ofDay 6 = .ok (.bipush 28, 2) := by decide +kernel
theorem dX8_ofDay_8 : decode cX8_ofDay 8 = .ok (.invokestatic 65, 3) := by decide +kernel
theorem dX8_ofDay_11 : decode cX8_ofDay 11 = .ok (.iload_n 3, 1) := by decide +kernel
theorem dX8_ofDay_12 : decode cX8_ofDay 12 = .ok (.iconst 0, 1) := by decide +kernel
theorem dX8_ofDay_13 : decode cX8_ofDay 13 = .ok (.bipush 7, 2) := by decide +kernel
theorem dX8_ofDay_15 : decode cX8_ofDay 15 = .ok (.invokestatic 69, 3) := by decide +kernel
theorem dX8_ofDay_18 : decode cX8_ofDay 18 = .ok (.aload_n 0, 1) := by decide +kernel
theorem dX8_ofDay_19 : decode cX8_ofDay 19 = .ok (.iload_n 1, 1) := by decide +kernel
theorem dX8_ofDay_20 : decode cX8_ofDay 20 = .ok (.aload_n 0, 1) := by decide +kernel
theorem dX8_ofDay_21 : decode cX8_ofDay 21 = .ok (.getfield 33, 3) := by decide +kernel
theorem dX8_ofDay_24 : decode cX8_ofDay 24 = .ok (.getfield 151, 3) := by decide +kernel
theorem dX8_ofDay_27 : decode cX8_ofDay 27 = .ok (.iconst (-1), 1) := by decide +kernel
theorem dX8_ofDay_28 : decode cX8_ofDay 28 = .ok (.invokevirtual 188, 3) := by decide +kernel
theorem dX8_ofDay_31 : decode cX8_ofDay 31 = .ok (.aload_n 0, 1) := by decide +kernel
theorem dX8_ofDay_32 : decode cX8_ofDay 32 = .ok (.iload_n 2, 1) := by decide +kernel
theorem dX8_ofDay_33 : decode cX8_ofDay 33 = .ok (.iload_n 3, 1) := by decide +kernel
theorem dX8_ofDay_34 : decode cX8_ofDay 34 = .ok (.invokevirtual 197, 3) := by decide +kernel
theorem dX8_ofDay_37 : decode cX8_ofDay 37 = .ok (.ireturn, 1) := by decide +kernel
set_option maxRecDepth 20000 in
theorem gX8_ofLeg_X8_needPerson : GoodIn wsX8_ofLeg (wsV RX8 114 RX8 yX8_needPerson wsX8_needPerson) := goodIn_sub (fun w h => List.mem_cons_of_mem _ (List.mem_append_right _ h)) (by decide +kernel)
theorem dX8_ofLeg_0 : decode cX8_ofLeg 0 = .ok (.aload_n 0, 1) := by decide +kernel
theorem dX8_ofLeg_1 : decode cX8_ofLeg 1 = .ok (.iload_n 1, 1) := by decide +kernel
theorem dX8_ofLeg_2 : decode cX8_ofLeg 2 = .ok (.invokevirtual 114, 3) := by decide +kernel
theorem dX8_ofLeg_5 : decode cX8_ofLeg 5 = .ok (.iload_n 2, 1) := by decide +kernel
theorem dX8_ofLeg_6 : decode cX8_ofLeg 6 = .ok (.bipush 28, 2) := by decide +kernel
theorem dX8_ofLeg_8 : decode cX8_ofLeg 8 = .ok (.invokestatic 65, 3) := by decide +kernel
theorem dX8_ofLeg_11 : decode cX8_ofLeg 11 = .ok (.aload_n 0, 1) := by decide +kernel
theorem dX8_ofLeg_12 : decode cX8_ofLeg 12 = .ok (.iload_n 1, 1) := by decide +kernel
theorem dX8_ofLeg_13 : decode cX8_ofLeg 13 = .ok (.aload_n 0, 1) := by decide +kernel
theorem dX8_ofLeg_14 : decode cX8_ofLeg 14 = .ok (.getfield 33, 3) := by decide +kernel
theorem dX8_ofLeg_17 : decode cX8_ofLeg 17 = .ok (.getfield 151, 3) := by decide +kernel
theorem dX8_ofLeg_20 : decode cX8_ofLeg 20 = .ok (.iconst (-1), 1) := by decide +kernel
theorem dX8_ofLeg_21 : decode cX8_ofLeg 21 = .ok (.invokevirtual 188, 3) := by decide +kernel
theorem dX8_ofLeg_24 : decode cX8_ofLeg 24 = .ok (.iload_n 3, 1) := by decide +kernel
theorem dX8_ofLeg_25 : decode cX8_ofLeg 25 = .ok (.aload_n 0, 1) := by decide +kernel
theorem dX8_ofLeg_26 : decode cX8_ofLeg 26 = .ok (.getfield 40, 3) := by decide +kernel
theorem dX8_ofLeg_29 : decode cX8_ofLeg 29 = .ok (.getfield 200, 3) := by decide +kernel
theorem dX8_ofLeg_32 : decode cX8_ofLeg 32 = .ok (.iload_n 2, 1) := by decide +kernel
theorem dX8_ofLeg_33 : decode cX8_ofLeg 33 = .ok (.invokevirtual 77, 3) := by decide +kernel
theorem dX8_ofLeg_36 : decode cX8_ofLeg 36 = .ok (.invokestatic 65, 3) := by decide +kernel
theorem dX8_ofLeg_39 : decode cX8_ofLeg 39 = .ok (.iload 4, 2) := by decide +kernel
theorem dX8_ofLeg_41 : decode cX8_ofLeg 41 = .ok (.iconst 0, 1) := by decide +kernel
theorem dX8_ofLeg_42 : decode cX8_ofLeg 42 = .ok (.bipush 6, 2) := by decide +kernel
theorem dX8_ofLeg_44 : decode cX8_ofLeg 44 = .ok (.invokestatic 69, 3) := by decide +kernel
theorem dX8_ofLeg_47 : decode cX8_ofLeg 47 = .ok (.aload_n 0, 1) := by decide +kernel
theorem dX8_ofLeg_48 : decode cX8_ofLeg 48 = .ok (.aload_n 0, 1) := by decide +kernel
theorem dX8_ofLeg_49 : decode cX8_ofLeg 49 = .ok (.getfield 40, 3) := by decide +kernel
theorem dX8_ofLeg_52 : decode cX8_ofLeg 52 = .ok (.getfield 203, 3) := by decide +kernel
theorem dX8_ofLeg_55 : decode cX8_ofLeg 55 = .ok (.iload_n 2, 1) := by decide +kernel
theorem dX8_ofLeg_56 : decode cX8_ofLeg 56 = .ok (.invokevirtual 77, 3) := by decide +kernel
theorem dX8_ofLeg_59 : decode cX8_ofLeg 59 = .ok (.iload_n 3, 1) := by decide +kernel
theorem dX8_ofLeg_60 : decode cX8_ofLeg 60 = .ok (.iadd, 1) := by decide +kernel
theorem dX8_ofLeg_61 : decode cX8_ofLeg 61 = .ok (.iload 4, 2) := by decide +kernel
theorem dX8_ofLeg_63 : decode cX8_ofLeg 63 = .ok (.invokevirtual 206, 3) := by decide +kernel
theorem dX8_ofLeg_66 : decode cX8_ofLeg 66 = .ok (.ireturn, 1) := by decide +kernel
set_option maxRecDepth 20000 in
theorem gX8_ofJourney_X8_needPerson : GoodIn wsX8_ofJourney (wsV RX8 114 RX8 yX8_needPerson wsX8_needPerson) := goodIn_sub (fun w h => List.mem_cons_of_mem _ (List.mem_append_right _ h)) (by decide +kernel)
theorem dX8_ofJourney_0 : decode cX8_ofJourney 0 = .ok (.aload_n 0, 1) := by decide +kernel
theorem dX8_ofJourney_1 : decode cX8_ofJourney 1 = .ok (.iload_n 1, 1) := by decide +kernel
theorem dX8_ofJourney_2 : decode cX8_ofJourney 2 = .ok (.invokevirtual 114, 3) := by decide +kernel
theorem dX8_ofJourney_5 : decode cX8_ofJourney 5 = .ok (.iload_n 2, 1) := by decide +kernel
theorem dX8_ofJourney_6 : decode cX8_ofJourney 6 = .ok (.bipush 28, 2) := by decide +kernel
theorem dX8_ofJourney_8 : decode cX8_ofJourney 8 = .ok (.invokestatic 65, 3) := by decide +kernel
theorem dX8_ofJourney_11 : decode cX8_ofJourney 11 = .ok (.aload_n 0, 1) := by decide +kernel
theorem dX8_ofJourney_12 : decode cX8_ofJourney 12 = .ok (.iload_n 1, 1) := by decide +kernel
theorem dX8_ofJourney_13 : decode cX8_ofJourney 13 = .ok (.aload_n 0, 1) := by decide +kernel
theorem dX8_ofJourney_14 : decode cX8_ofJourney 14 = .ok (.getfield 33, 3) := by decide +kernel
theorem dX8_ofJourney_17 : decode cX8_ofJourney 17 = .ok (.getfield 151, 3) := by decide +kernel
theorem dX8_ofJourney_20 : decode cX8_ofJourney 20 = .ok (.iconst (-1), 1) := by decide +kernel
theorem dX8_ofJourney_21 : decode cX8_ofJourney 21 = .ok (.invokevirtual 188, 3) := by decide +kernel
theorem dX8_ofJourney_24 : decode cX8_ofJourney 24 = .ok (.iload_n 3, 1) := by decide +kernel
theorem dX8_ofJourney_25 : decode cX8_ofJourney 25 = .ok (.aload_n 0, 1) := by decide +kernel
theorem dX8_ofJourney_26 : decode cX8_ofJourney 26 = .ok (.getfield 47, 3) := by decide +kernel
theorem dX8_ofJourney_29 : decode cX8_ofJourney 29 = .ok (.getfield 209, 3) := by decide +kernel
theorem dX8_ofJourney_32 : decode cX8_ofJourney 32 = .ok (.iload_n 2, 1) := by decide +kernel
theorem dX8_ofJourney_33 : decode cX8_ofJourney 33 = .ok (.invokevirtual 77, 3) := by decide +kernel
theorem dX8_ofJourney_36 : decode cX8_ofJourney 36 = .ok (.invokestatic 65, 3) := by decide +kernel
theorem dX8_ofJourney_39 : decode cX8_ofJourney 39 = .ok (.iload 4, 2) := by decide +kernel
theorem dX8_ofJourney_41 : decode cX8_ofJourney 41 = .ok (.iconst 0, 1) := by decide +kernel
theorem dX8_ofJourney_42 : decode cX8_ofJourney 42 = .ok (.iconst 3, 1) := by decide +kernel
theorem dX8_ofJourney_43 : decode cX8_ofJourney 43 = .ok (.invokestatic 69, 3) := by decide +kernel
theorem dX8_ofJourney_46 : decode cX8_ofJourney 46 = .ok (.aload_n 0, 1) := by decide +kernel
theorem dX8_ofJourney_47 : decode cX8_ofJourney 47 = .ok (.aload_n 0, 1) := by decide +kernel
theorem dX8_ofJourney_48 : decode cX8_ofJourney 48 = .ok (.getfield 47, 3) := by decide +kernel
theorem dX8_ofJourney_51 : decode cX8_ofJourney 51 = .ok (.getfield 210, 3) := by decide +kernel
theorem dX8_ofJourney_54 : decode cX8_ofJourney 54 = .ok (.iload_n 2, 1) := by decide +kernel
theorem dX8_ofJourney_55 : decode cX8_ofJourney 55 = .ok (.invokevirtual 77, 3) := by decide +kernel
theorem dX8_ofJourney_58 : decode cX8_ofJourney 58 = .ok (.iload_n 3, 1) := by decide +kernel
theorem dX8_ofJourney_59 : decode cX8_ofJourney 59 = .ok (.iadd, 1) := by decide +kernel
theorem dX8_ofJourney_60 : decode cX8_ofJourney 60 = .ok (.iload 4, 2) := by decide +kernel
theorem dX8_ofJourney_62 : decode cX8_ofJourney 62 = .ok (.invokevirtual 211, 3) := by decide +kernel
theorem dX8_ofJourney_65 : decode cX8_ofJourney 65 = .ok (.ireturn, 1) := by decide +kernel
set_option maxRecDepth 20000 in
theorem gX8_ofWeek_X8_needPerson : GoodIn wsX8_ofWeek (wsV RX8 114 RX8 yX8_needPerson wsX8_needPerson) := goodIn_sub (fun w h => List.mem_cons_of_mem _ (List.mem_append_right _ h)) (by decide +kernel)
theorem dX8_ofWeek_0 : decode cX8_ofWeek 0 = .ok (.aload_n 0, 1) := by decide +kernel
theorem dX8_ofWeek_1 : decode cX8_ofWeek 1 = .ok (.iload_n 1, 1) := by decide +kernel
theorem dX8_ofWeek_2 : decode cX8_ofWeek 2 = .ok (.invokevirtual 114, 3) := by decide +kernel
theorem dX8_ofWeek_5 : decode cX8_ofWeek 5 = .ok (.iload_n 2, 1) := by decide +kernel
theorem dX8_ofWeek_6 : decode cX8_ofWeek 6 = .ok (.iconst 4, 1) := by decide +kernel
theorem dX8_ofWeek_7 : decode cX8_ofWeek 7 = .ok (.invokestatic 65, 3) := by decide +kernel
theorem dX8_ofWeek_10 : decode cX8_ofWeek 10 = .ok (.iload_n 3, 1) := by decide +kernel
theorem dX8_ofWeek_11 : decode cX8_ofWeek 11 = .ok (.iconst 0, 1) := by decide +kernel
theorem dX8_ofWeek_12 : decode cX8_ofWeek 12 = .ok (.iconst 2, 1) := by decide +kernel
theorem dX8_ofWeek_13 : decode cX8_ofWeek 13 = .ok (.invokestatic 69, 3) := by decide +kernel
theorem dX8_ofWeek_16 : decode cX8_ofWeek 16 = .ok (.aload_n 0, 1) := by decide +kernel
theorem dX8_ofWeek_17 : decode cX8_ofWeek 17 = .ok (.iload_n 1, 1) := by decide +kernel
theorem dX8_ofWeek_18 : decode cX8_ofWeek 18 = .ok (.aload_n 0, 1) := by decide +kernel
theorem dX8_ofWeek_19 : decode cX8_ofWeek 19 = .ok (.getfield 33, 3) := by decide +kernel
theorem dX8_ofWeek_22 : decode cX8_ofWeek 22 = .ok (.getfield 151, 3) := by decide +kernel
theorem dX8_ofWeek_25 : decode cX8_ofWeek 25 = .ok (.iconst (-1), 1) := by decide +kernel
theorem dX8_ofWeek_26 : decode cX8_ofWeek 26 = .ok (.invokevirtual 188, 3) := by decide +kernel
theorem dX8_ofWeek_29 : decode cX8_ofWeek 29 = .ok (.aload_n 0, 1) := by decide +kernel
theorem dX8_ofWeek_30 : decode cX8_ofWeek 30 = .ok (.iload_n 2, 1) := by decide +kernel
theorem dX8_ofWeek_31 : decode cX8_ofWeek 31 = .ok (.iload_n 3, 1) := by decide +kernel
theorem dX8_ofWeek_32 : decode cX8_ofWeek 32 = .ok (.invokevirtual 214, 3) := by decide +kernel
theorem dX8_ofWeek_35 : decode cX8_ofWeek 35 = .ok (.ireturn, 1) := by decide +kernel
set_option maxRecDepth 20000 in
theorem gX8_share_X8_needNumber : GoodIn wsX8_share (va_wsS RX8 65 yX8_needNumber wsX8_needNumber) := goodIn_sub (fun w h => List.mem_cons_of_mem _ (List.mem_append_left _ (List.mem_append_right _ h))) (by decide +kernel)
set_option maxRecDepth 20000 in
theorem gX8_share_X8_needPerson : GoodIn wsX8_share (wsV RX8 114 RX8 yX8_needPerson wsX8_needPerson) := goodIn_sub (fun w h => List.mem_cons_of_mem _ (List.mem_append_right _ h)) (by decide +kernel)
theorem dX8_share_0 : decode cX8_share 0 = .ok (.iload_n 1, 1) := by decide +kernel
theorem dX8_share_1 : decode cX8_share 1 = .ok (.iconst 3, 1) := by decide +kernel
theorem dX8_share_2 : decode cX8_share 2 = .ok (.invokestatic 65, 3) := by decide +kernel
theorem dX8_share_5 : decode cX8_share 5 = .ok (.aload_n 0, 1) := by decide +kernel
theorem dX8_share_6 : decode cX8_share 6 = .ok (.iload_n 2, 1) := by decide +kernel
theorem dX8_share_7 : decode cX8_share 7 = .ok (.invokevirtual 114, 3) := by decide +kernel
theorem dX8_share_10 : decode cX8_share 10 = .ok (.iload_n 3, 1) := by decide +kernel
theorem dX8_share_11 : decode cX8_share 11 = .ok (.bipush 28, 2) := by decide +kernel
theorem dX8_share_13 : decode cX8_share 13 = .ok (.invokestatic 65, 3) := by decide +kernel
theorem dX8_share_16 : decode cX8_share 16 = .ok (.aload_n 0, 1) := by decide +kernel
theorem dX8_share_17 : decode cX8_share 17 = .ok (.iload_n 2, 1) := by decide +kernel
theorem dX8_share_18 : decode cX8_share 18 = .ok (.aload_n 0, 1) := by decide +kernel
theorem dX8_share_19 : decode cX8_share 19 = .ok (.getfield 33, 3) := by decide +kernel
theorem dX8_share_22 : decode cX8_share 22 = .ok (.getfield 151, 3) := by decide +kernel
theorem dX8_share_25 : decode cX8_share 25 = .ok (.iconst (-1), 1) := by decide +kernel
theorem dX8_share_26 : decode cX8_share 26 = .ok (.invokevirtual 188, 3) := by decide +kernel
theorem dX8_share_29 : decode cX8_share 29 = .ok (.aload_n 0, 1) := by decide +kernel
theorem dX8_share_30 : decode cX8_share 30 = .ok (.iload_n 1, 1) := by decide +kernel
theorem dX8_share_31 : decode cX8_share 31 = .ok (.iload_n 3, 1) := by decide +kernel
theorem dX8_share_32 : decode cX8_share 32 = .ok (.invokevirtual 217, 3) := by decide +kernel
theorem dX8_share_35 : decode cX8_share 35 = .ok (.ireturn, 1) := by decide +kernel
set_option maxRecDepth 20000 in
theorem gX8_check_X8_needCard : GoodIn wsX8_check (wsV RX8 110 RX8 yX8_needCard wsX8_needCard) := goodIn_sub (fun w h => List.mem_cons_of_mem _ (List.mem_append_right _ h)) (by decide +kernel)
theorem dX8_check_0 : decode cX8_check 0 = .ok (.aload_n 0, 1) := by decide +kernel
theorem dX8_check_1 : decode cX8_check 1 = .ok (.iload_n 1, 1) := by decide +kernel
theorem dX8_check_2 : decode cX8_check 2 = .ok (.invokevirtual 110, 3) := by decide +kernel
theorem dX8_check_5 : decode cX8_check 5 = .ok (.iload_n 2, 1) := by decide +kernel
theorem dX8_check_6 : decode cX8_check 6 = .ok (.bipush 28, 2) := by decide +kernel
theorem dX8_check_8 : decode cX8_check 8 = .ok (.invokestatic 65, 3) := by decide +kernel
theorem dX8_check_11 : decode cX8_check 11 = .ok (.iload_n 3, 1) := by decide +kernel
theorem dX8_check_12 : decode cX8_check 12 = .ok (.iconst 0, 1) := by decide +kernel
theorem dX8_check_13 : decode cX8_check 13 = .ok (.sipush 1439, 3) := by decide +kernel
theorem dX8_check_16 : decode cX8_check 16 = .ok (.invokestatic 69, 3) := by decide +kernel
theorem dX8_check_19 : decode cX8_check 19 = .ok (.aload_n 0, 1) := by decide +kernel
theorem dX8_check_20 : decode cX8_check 20 = .ok (.getfield 26, 3) := by decide +kernel
theorem dX8_check_23 : decode cX8_check 23 = .ok (.iload_n 1, 1) := by decide +kernel
theorem dX8_check_24 : decode cX8_check 24 = .ok (.invokevirtual 131, 3) := by decide +kernel
theorem dX8_check_27 : decode cX8_check 27 = .ok (.ifCond .eq 5, 3) := by decide +kernel
theorem dX8_check_30 : decode cX8_check 30 = .ok (.iconst 2, 1) := by decide +kernel
theorem dX8_check_31 : decode cX8_check 31 = .ok (.ireturn, 1) := by decide +kernel
theorem dX8_check_32 : decode cX8_check 32 = .ok (.aload_n 0, 1) := by decide +kernel
theorem dX8_check_33 : decode cX8_check 33 = .ok (.aload_n 0, 1) := by decide +kernel
theorem dX8_check_34 : decode cX8_check 34 = .ok (.getfield 26, 3) := by decide +kernel
theorem dX8_check_37 : decode cX8_check 37 = .ok (.getfield 128, 3) := by decide +kernel
theorem dX8_check_40 : decode cX8_check 40 = .ok (.iload_n 1, 1) := by decide +kernel
theorem dX8_check_41 : decode cX8_check 41 = .ok (.invokevirtual 77, 3) := by decide +kernel
theorem dX8_check_44 : decode cX8_check 44 = .ok (.aload_n 0, 1) := by decide +kernel
theorem dX8_check_45 : decode cX8_check 45 = .ok (.getfield 33, 3) := by decide +kernel
theorem dX8_check_48 : decode cX8_check 48 = .ok (.getfield 151, 3) := by decide +kernel
theorem dX8_check_51 : decode cX8_check 51 = .ok (.iconst (-1), 1) := by decide +kernel
theorem dX8_check_52 : decode cX8_check 52 = .ok (.invokevirtual 188, 3) := by decide +kernel
theorem dX8_check_55 : decode cX8_check 55 = .ok (.aload_n 0, 1) := by decide +kernel
theorem dX8_check_56 : decode cX8_check 56 = .ok (.getfield 40, 3) := by decide +kernel
theorem dX8_check_59 : decode cX8_check 59 = .ok (.iload_n 2, 1) := by decide +kernel
theorem dX8_check_60 : decode cX8_check 60 = .ok (.iload_n 3, 1) := by decide +kernel
theorem dX8_check_61 : decode cX8_check 61 = .ok (.invokevirtual 220, 3) := by decide +kernel
theorem dX8_check_64 : decode cX8_check 64 = .ok (.ifCond .eq 7, 3) := by decide +kernel
theorem dX8_check_67 : decode cX8_check 67 = .ok (.iconst 1, 1) := by decide +kernel
theorem dX8_check_68 : decode cX8_check 68 = .ok (.goto 4, 3) := by decide +kernel
theorem dX8_check_71 : decode cX8_check 71 = .ok (.iconst 0, 1) := by decide +kernel
theorem dX8_check_72 : decode cX8_check 72 = .ok (.ireturn, 1) := by decide +kernel
set_option maxRecDepth 20000 in
theorem gX8_many_X8_needRange : GoodIn wsX8_many (va_wsS RX8 69 yX8_needRange wsX8_needRange) := goodIn_sub (fun w h => List.mem_cons_of_mem _ (List.mem_append_left _ (List.mem_append_right _ h))) (by decide +kernel)
set_option maxRecDepth 20000 in
theorem gX8_many_X8_manyAnswer : GoodIn wsX8_many (wsV RX8 224 RX8 yX8_manyAnswer wsX8_manyAnswer) := goodIn_sub (fun w h => List.mem_cons_of_mem _ (List.mem_append_right _ h)) (by decide +kernel)
theorem dX8_many_0 : decode cX8_many 0 = .ok (.iload_n 1, 1) := by decide +kernel
theorem dX8_many_1 : decode cX8_many 1 = .ok (.iconst 0, 1) := by decide +kernel
theorem dX8_many_2 : decode cX8_many 2 = .ok (.bipush 8, 2) := by decide +kernel
theorem dX8_many_4 : decode cX8_many 4 = .ok (.invokestatic 69, 3) := by decide +kernel
theorem dX8_many_7 : decode cX8_many 7 = .ok (.aload_n 0, 1) := by decide +kernel
theorem dX8_many_8 : decode cX8_many 8 = .ok (.iload_n 1, 1) := by decide +kernel
theorem dX8_many_9 : decode cX8_many 9 = .ok (.invokevirtual 224, 3) := by decide +kernel
theorem dX8_many_12 : decode cX8_many 12 = .ok (.ireturn, 1) := by decide +kernel
set_option maxRecDepth 20000 in
theorem gX8_meanFare_X8_needNumber : GoodIn wsX8_meanFare (va_wsS RX8 65 yX8_needNumber wsX8_needNumber) := goodIn_sub (fun w h => List.mem_cons_of_mem _ (List.mem_append_right _ h)) (by decide +kernel)
theorem dX8_meanFare_0 : decode cX8_meanFare 0 = .ok (.iload_n 1, 1) := by decide +kernel
theorem dX8_meanFare_1 : decode cX8_meanFare 1 = .ok (.bipush 28, 2) := by decide +kernel
theorem dX8_meanFare_3 : decode cX8_meanFare 3 = .ok (.invokestatic 65, 3) := by decide +kernel
theorem dX8_meanFare_6 : decode cX8_meanFare 6 = .ok (.iconst 0, 1) := by decide +kernel
theorem dX8_meanFare_7 : decode cX8_meanFare 7 = .ok (.istore_n 2, 1) := by decide +kernel
theorem dX8_meanFare_8 : decode cX8_meanFare 8 = .ok (.iconst 0, 1) := by decide +kernel
theorem dX8_meanFare_9 : decode cX8_meanFare 9 = .ok (.istore_n 3, 1) := by decide +kernel
theorem dX8_meanFare_10 : decode cX8_meanFare 10 = .ok (.iconst 0, 1) := by decide +kernel
theorem dX8_meanFare_11 : decode cX8_meanFare 11 = .ok (.istore 4, 2) := by decide +kernel
theorem dX8_meanFare_13 : decode cX8_meanFare 13 = .ok (.iload 4, 2) := by decide +kernel
theorem dX8_meanFare_15 : decode cX8_meanFare 15 = .ok (.aload_n 0, 1) := by decide +kernel
theorem dX8_meanFare_16 : decode cX8_meanFare 16 = .ok (.getfield 26, 3) := by decide +kernel
theorem dX8_meanFare_19 : decode cX8_meanFare 19 = .ok (.getfield 103, 3) := by decide +kernel
theorem dX8_meanFare_22 : decode cX8_meanFare 22 = .ok (.if_icmp .ge 61, 3) := by decide +kernel
theorem dX8_meanFare_25 : decode cX8_meanFare 25 = .ok (.aload_n 0, 1) := by decide +kernel
theorem dX8_meanFare_26 : decode cX8_meanFare 26 = .ok (.getfield 26, 3) := by decide +kernel
theorem dX8_meanFare_29 : decode cX8_meanFare 29 = .ok (.iload 4, 2) := by decide +kernel
theorem dX8_meanFare_31 : decode cX8_meanFare 31 = .ok (.invokevirtual 166, 3) := by decide +kernel
theorem dX8_meanFare_34 : decode cX8_meanFare 34 = .ok (.ifCond .eq 43, 3) := by decide +kernel
theorem dX8_meanFare_37 : decode cX8_meanFare 37 = .ok (.aload_n 0, 1) := by decide +kernel
theorem dX8_meanFare_38 : decode cX8_meanFare 38 = .ok (.iload 4, 2) := by decide +kernel
theorem dX8_meanFare_40 : decode cX8_meanFare 40 = .ok (.aload_n 0, 1) := by decide +kernel
theorem dX8_meanFare_41 : decode cX8_meanFare 41 = .ok (.getfield 33, 3) := by decide +kernel
theorem dX8_meanFare_44 : decode cX8_meanFare 44 = .ok (.getfield 151, 3) := by decide +kernel
theorem dX8_meanFare_47 : decode cX8_meanFare 47 = .ok (.iconst (-1), 1) := by decide +kernel
theorem dX8_meanFare_48 : decode cX8_meanFare 48 = .ok (.invokevirtual 188, 3) := by decide +kernel
theorem dX8_meanFare_51 : decode cX8_meanFare 51 = .ok (.iload_n 2, 1) := by decide +kernel
theorem dX8_meanFare_52 : decode cX8_meanFare 52 = .ok (.aload_n 0, 1) := by decide +kernel
theorem dX8_meanFare_53 : decode cX8_meanFare 53 = .ok (.getfield 47, 3) := by decide +kernel
theorem dX8_meanFare_56 : decode cX8_meanFare 56 = .ok (.iload_n 1, 1) := by decide +kernel
theorem dX8_meanFare_57 : decode cX8_meanFare 57 = .ok (.iconst 0, 1) := by decide +kernel
theorem dX8_meanFare_58 : decode cX8_meanFare 58 = .ok (.invokevirtual 227, 3) := by decide +kernel
theorem dX8_meanFare_61 : decode cX8_meanFare 61 = .ok (.iadd, 1) := by decide +kernel
theorem dX8_meanFare_62 : decode cX8_meanFare 62 = .ok (.istore_n 2, 1) := by decide +kernel
theorem dX8_meanFare_63 : decode cX8_meanFare 63 = .ok (.iload_n 3, 1) := by decide +kernel
theorem dX8_meanFare_64 : decode cX8_meanFare 64 = .ok (.aload_n 0, 1) := by decide +kernel
theorem dX8_meanFare_65 : decode cX8_meanFare 65 = .ok (.getfield 47, 3) := by decide +kernel
theorem dX8_meanFare_68 : decode cX8_meanFare 68 = .ok (.getfield 209, 3) := by decide +kernel
theorem dX8_meanFare_71 : decode cX8_meanFare 71 = .ok (.iload_n 1, 1) := by decide +kernel
theorem dX8_meanFare_72 : decode cX8_meanFare 72 = .ok (.invokevirtual 77, 3) := by decide +kernel
theorem dX8_meanFare_75 : decode cX8_meanFare 75 = .ok (.iadd, 1) := by decide +kernel
theorem dX8_meanFare_76 : decode cX8_meanFare 76 = .ok (.istore_n 3, 1) := by decide +kernel
theorem dX8_meanFare_77 : decode cX8_meanFare 77 = .ok (.iinc 4 1, 3) := by decide +kernel
theorem dX8_meanFare_80 : decode cX8_meanFare 80 = .ok (.goto (-67), 3) := by decide +kernel
theorem dX8_meanFare_83 : decode cX8_meanFare 83 = .ok (.iload_n 3, 1) := by decide +kernel
theorem dX8_meanFare_84 : decode cX8_meanFare 84 = .ok (.ifCond .le 11, 3) := by decide +kernel
theorem dX8_meanFare_87 : decode cX8_meanFare 87 = .ok (.iload_n 2, 1) := by decide +kernel
theorem dX8_meanFare_88 : decode cX8_meanFare 88 = .ok (.i2d, 1) := by decide +kernel
theorem dX8_meanFare_89 : decode cX8_meanFare 89 = .ok (.iload_n 3, 1) := by decide +kernel
theorem dX8_meanFare_90 : decode cX8_meanFare 90 = .ok (.i2d, 1) := by decide +kernel
theorem dX8_meanFare_91 : decode cX8_meanFare 91 = .ok (.ddiv, 1) := by decide +kernel
theorem dX8_meanFare_92 : decode cX8_meanFare 92 = .ok (.goto 4, 3) := by decide +kernel
theorem dX8_meanFare_95 : decode cX8_meanFare 95 = .ok (.dconst 0, 1) := by decide +kernel
theorem dX8_meanFare_96 : decode cX8_meanFare 96 = .ok (.dreturn, 1) := by decide +kernel
set_option maxRecDepth 20000 in
theorem gX8_wouldCost_X8_needTap : GoodIn wsX8_wouldCost (wsV RX8 145 RX8 yX8_needTap wsX8_needTap) := goodIn_sub (fun w h => List.mem_cons_of_mem _ (List.mem_append_right _ h)) (by decide +kernel)
theorem dX8_wouldCost_0 : decode cX8_wouldCost 0 = .ok (.aload_n 0, 1) := by decide +kernel
theorem dX8_wouldCost_1 : decode cX8_wouldCost 1 = .ok (.iload_n 1, 1) := by decide +kernel
theorem dX8_wouldCost_2 : decode cX8_wouldCost 2 = .ok (.iload_n 2, 1) := by decide +kernel
theorem dX8_wouldCost_3 : decode cX8_wouldCost 3 = .ok (.iload_n 3, 1) := by decide +kernel
theorem dX8_wouldCost_4 : decode cX8_wouldCost 4 = .ok (.iload 5, 2) := by decide +kernel
theorem dX8_wouldCost_6 : decode cX8_wouldCost 6 = .ok (.iload 6, 2) := by decide +kernel
theorem dX8_wouldCost_8 : decode cX8_wouldCost 8 = .ok (.invokevirtual 145, 3) := by decide +kernel
theorem dX8_wouldCost_11 : decode cX8_wouldCost 11 = .ok (.aload_n 0, 1) := by decide +kernel
theorem dX8_wouldCost_12 : decode cX8_wouldCost 12 = .ok (.getfield 26, 3) := by decide +kernel
theorem dX8_wouldCost_15 : decode cX8_wouldCost 15 = .ok (.getfield 128, 3) := by decide +kernel
theorem dX8_wouldCost_18 : decode cX8_wouldCost 18 = .ok (.iload_n 1, 1) := by decide +kernel
theorem dX8_wouldCost_19 : decode cX8_wouldCost 19 = .ok (.invokevirtual 77, 3) := by decide +kernel
theorem dX8_wouldCost_22 : decode cX8_wouldCost 22 = .ok (.istore 7, 2) := by decide +kernel
theorem dX8_wouldCost_24 : decode cX8_wouldCost 24 = .ok (.iload 5, 2) := by decide +kernel
theorem dX8_wouldCost_26 : decode cX8_wouldCost 26 = .ok (.bipush 7, 2) := by decide +kernel
theorem dX8_wouldCost_28 : decode cX8_wouldCost 28 = .ok (.idiv, 1) := by decide +kernel
theorem dX8_wouldCost_29 : decode cX8_wouldCost 29 = .ok (.istore 8, 2) := by decide +kernel
theorem dX8_wouldCost_31 : decode cX8_wouldCost 31 = .ok (.aload_n 0, 1) := by decide +kernel
theorem dX8_wouldCost_32 : decode cX8_wouldCost 32 = .ok (.iload 7, 2) := by decide +kernel
theorem dX8_wouldCost_34 : decode cX8_wouldCost 34 = .ok (.iload 8, 2) := by decide +kernel
theorem dX8_wouldCost_36 : decode cX8_wouldCost 36 = .ok (.aload_n 0, 1) := by decide +kernel
theorem dX8_wouldCost_37 : decode cX8_wouldCost 37 = .ok (.getfield 33, 3) := by decide +kernel
theorem dX8_wouldCost_40 : decode cX8_wouldCost 40 = .ok (.getfield 151, 3) := by decide +kernel
theorem dX8_wouldCost_43 : decode cX8_wouldCost 43 = .ok (.iconst (-1), 1) := by decide +kernel
theorem dX8_wouldCost_44 : decode cX8_wouldCost 44 = .ok (.invokevirtual 230, 3) := by decide +kernel
theorem dX8_wouldCost_47 : decode cX8_wouldCost 47 = .ok (.istore 9, 2) := by decide +kernel
theorem dX8_wouldCost_49 : decode cX8_wouldCost 49 = .ok (.aload_n 0, 1) := by decide +kernel
theorem dX8_wouldCost_50 : decode cX8_wouldCost 50 = .ok (.getfield 33, 3) := by decide +kernel
theorem dX8_wouldCost_53 : decode cX8_wouldCost 53 = .ok (.aload_n 0, 1) := by decide +kernel
theorem dX8_wouldCost_54 : decode cX8_wouldCost 54 = .ok (.getfield 33, 3) := by decide +kernel
theorem dX8_wouldCost_57 : decode cX8_wouldCost 57 = .ok (.getfield 151, 3) := by decide +kernel
theorem dX8_wouldCost_60 : decode cX8_wouldCost 60 = .ok (.iload_n 1, 1) := by decide +kernel
theorem dX8_wouldCost_61 : decode cX8_wouldCost 61 = .ok (.iload_n 2, 1) := by decide +kernel
theorem dX8_wouldCost_62 : decode cX8_wouldCost 62 = .ok (.iload_n 3, 1) := by decide +kernel
theorem dX8_wouldCost_63 : decode cX8_wouldCost 63 = .ok (.iload 4, 2) := by decide +kernel
theorem dX8_wouldCost_65 : decode cX8_wouldCost 65 = .ok (.iload 5, 2) := by decide +kernel
theorem dX8_wouldCost_67 : decode cX8_wouldCost 67 = .ok (.iload 6, 2) := by decide +kernel
theorem dX8_wouldCost_69 : decode cX8_wouldCost 69 = .ok (.invokevirtual 152, 3) := by decide +kernel
theorem dX8_wouldCost_72 : decode cX8_wouldCost 72 = .ok (.aload_n 0, 1) := by decide +kernel
theorem dX8_wouldCost_73 : decode cX8_wouldCost 73 = .ok (.iload 7, 2) := by decide +kernel
theorem dX8_wouldCost_75 : decode cX8_wouldCost 75 = .ok (.iload 8, 2) := by decide +kernel
theorem dX8_wouldCost_77 : decode cX8_wouldCost 77 = .ok (.aload_n 0, 1) := by decide +kernel
theorem dX8_wouldCost_78 : decode cX8_wouldCost 78 = .ok (.getfield 33, 3) := by decide +kernel
theorem dX8_wouldCost_81 : decode cX8_wouldCost 81 = .ok (.getfield 151, 3) := by decide +kernel
theorem dX8_wouldCost_84 : decode cX8_wouldCost 84 = .ok (.iconst 1, 1) := by decide +kernel
theorem dX8_wouldCost_85 : decode cX8_wouldCost 85 = .ok (.iadd, 1) := by decide +kernel
theorem dX8_wouldCost_86 : decode cX8_wouldCost 86 = .ok (.iconst (-1), 1) := by decide +kernel
theorem dX8_wouldCost_87 : decode cX8_wouldCost 87 = .ok (.invokevirtual 230, 3) := by decide +kernel
theorem dX8_wouldCost_90 : decode cX8_wouldCost 90 = .ok (.iload 9, 2) := by decide +kernel
theorem dX8_wouldCost_92 : decode cX8_wouldCost 92 = .ok (.isub, 1) := by decide +kernel
theorem dX8_wouldCost_93 : decode cX8_wouldCost 93 = .ok (.ireturn, 1) := by decide +kernel
set_option maxRecDepth 20000 in
theorem gX8_guess_X8_needPerson : GoodIn wsX8_guess (wsV RX8 114 RX8 yX8_needPerson wsX8_needPerson) := goodIn_sub (fun w h => List.mem_cons_of_mem _ (List.mem_append_right _ h)) (by decide +kernel)
theorem dX8_guess_0 : decode cX8_guess 0 = .ok (.aload_n 0, 1) := by decide +kernel
theorem dX8_guess_1 : decode cX8_guess 1 = .ok (.iload_n 1, 1) := by decide +kernel
theorem dX8_guess_2 : decode cX8_guess 2 = .ok (.invokevirtual 114, 3) := by decide +kernel
theorem dX8_guess_5 : decode cX8_guess 5 = .ok (.iload_n 2, 1) := by decide +kernel
theorem dX8_guess_6 : decode cX8_guess 6 = .ok (.bipush 28, 2) := by decide +kernel
theorem dX8_guess_8 : decode cX8_guess 8 = .ok (.invokestatic 65, 3) := by decide +kernel
theorem dX8_guess_11 : decode cX8_guess 11 = .ok (.iload_n 3, 1) := by decide +kernel
theorem dX8_guess_12 : decode cX8_guess 12 = .ok (.bipush 10, 2) := by decide +kernel
theorem dX8_guess_14 : decode cX8_guess 14 = .ok (.invokestatic 65, 3) := by decide +kernel
theorem dX8_guess_17 : decode cX8_guess 17 = .ok (.aload_n 0, 1) := by decide +kernel
theorem dX8_guess_18 : decode cX8_guess 18 = .ok (.iload_n 1, 1) := by decide +kernel
theorem dX8_guess_19 : decode cX8_guess 19 = .ok (.aload_n 0, 1) := by decide +kernel
theorem dX8_guess_20 : decode cX8_guess 20 = .ok (.getfield 33, 3) := by decide +kernel
theorem dX8_guess_23 : decode cX8_guess 23 = .ok (.getfield 151, 3) := by decide +kernel
theorem dX8_guess_26 : decode cX8_guess 26 = .ok (.iconst (-1), 1) := by decide +kernel
theorem dX8_guess_27 : decode cX8_guess 27 = .ok (.invokevirtual 188, 3) := by decide +kernel
theorem dX8_guess_30 : decode cX8_guess 30 = .ok (.aload_n 0, 1) := by decide +kernel
theorem dX8_guess_31 : decode cX8_guess 31 = .ok (.getfield 40, 3) := by decide +kernel
theorem dX8_guess_34 : decode cX8_guess 34 = .ok (.iload_n 2, 1) := by decide +kernel
theorem dX8_guess_35 : decode cX8_guess 35 = .ok (.iload_n 3, 1) := by decide +kernel
theorem dX8_guess_36 : decode cX8_guess 36 = .ok (.iload 4, 2) := by decide +kernel
theorem dX8_guess_38 : decode cX8_guess 38 = .ok (.invokevirtual 234, 3) := by decide +kernel
theorem dX8_guess_41 : decode cX8_guess 41 = .ok (.ireturn, 1) := by decide +kernel
set_option maxRecDepth 20000 in
theorem gX8_worth_X8_needPerson : GoodIn wsX8_worth (wsV RX8 114 RX8 yX8_needPerson wsX8_needPerson) := goodIn_sub (fun w h => List.mem_cons_of_mem _ (List.mem_append_right _ h)) (by decide +kernel)
theorem dX8_worth_0 : decode cX8_worth 0 = .ok (.aload_n 0, 1) := by decide +kernel
theorem dX8_worth_1 : decode cX8_worth 1 = .ok (.iload_n 1, 1) := by decide +kernel
theorem dX8_worth_2 : decode cX8_worth 2 = .ok (.invokevirtual 114, 3) := by decide +kernel
theorem dX8_worth_5 : decode cX8_worth 5 = .ok (.iload_n 2, 1) := by decide +kernel
theorem dX8_worth_6 : decode cX8_worth 6 = .ok (.iconst 4, 1) := by decide +kernel
theorem dX8_worth_7 : decode cX8_worth 7 = .ok (.invokestatic 65, 3) := by decide +kernel
theorem dX8_worth_10 : decode cX8_worth 10 = .ok (.iload_n 3, 1) := by decide +kernel
theorem dX8_worth_11 : decode cX8_worth 11 = .ok (.iload_n 2, 1) := by decide +kernel
theorem dX8_worth_12 : decode cX8_worth 12 = .ok (.bipush 7, 2) := by decide +kernel
theorem dX8_worth_14 : decode cX8_worth 14 = .ok (.imul, 1) := by decide +kernel
theorem dX8_worth_15 : decode cX8_worth 15 = .ok (.iload_n 2, 1) := by decide +kernel
theorem dX8_worth_16 : decode cX8_worth 16 = .ok (.bipush 7, 2) := by decide +kernel
theorem dX8_worth_18 : decode cX8_worth 18 = .ok (.imul, 1) := by decide +kernel
theorem dX8_worth_19 : decode cX8_worth 19 = .ok (.bipush 7, 2) := by decide +kernel
theorem dX8_worth_21 : decode cX8_worth 21 = .ok (.iadd, 1) := by decide +kernel
theorem dX8_worth_22 : decode cX8_worth 22 = .ok (.iconst 1, 1) := by decide +kernel
theorem dX8_worth_23 : decode cX8_worth 23 = .ok (.isub, 1) := by decide +kernel
theorem dX8_worth_24 : decode cX8_worth 24 = .ok (.invokestatic 69, 3) := by decide +kernel
theorem dX8_worth_27 : decode cX8_worth 27 = .ok (.aload_n 0, 1) := by decide +kernel
theorem dX8_worth_28 : decode cX8_worth 28 = .ok (.iload_n 1, 1) := by decide +kernel
theorem dX8_worth_29 : decode cX8_worth 29 = .ok (.iload_n 2, 1) := by decide +kernel
theorem dX8_worth_30 : decode cX8_worth 30 = .ok (.aload_n 0, 1) := by decide +kernel
theorem dX8_worth_31 : decode cX8_worth 31 = .ok (.getfield 33, 3) := by decide +kernel
theorem dX8_worth_34 : decode cX8_worth 34 = .ok (.getfield 151, 3) := by decide +kernel
theorem dX8_worth_37 : decode cX8_worth 37 = .ok (.iconst (-1), 1) := by decide +kernel
theorem dX8_worth_38 : decode cX8_worth 38 = .ok (.invokevirtual 230, 3) := by decide +kernel
theorem dX8_worth_41 : decode cX8_worth 41 = .ok (.aload_n 0, 1) := by decide +kernel
theorem dX8_worth_42 : decode cX8_worth 42 = .ok (.iload_n 1, 1) := by decide +kernel
theorem dX8_worth_43 : decode cX8_worth 43 = .ok (.iload_n 2, 1) := by decide +kernel
theorem dX8_worth_44 : decode cX8_worth 44 = .ok (.aload_n 0, 1) := by decide +kernel
theorem dX8_worth_45 : decode cX8_worth 45 = .ok (.getfield 33, 3) := by decide +kernel
theorem dX8_worth_48 : decode cX8_worth 48 = .ok (.getfield 151, 3) := by decide +kernel
theorem dX8_worth_51 : decode cX8_worth 51 = .ok (.iload_n 3, 1) := by decide +kernel
theorem dX8_worth_52 : decode cX8_worth 52 = .ok (.invokevirtual 230, 3) := by decide +kernel
theorem dX8_worth_55 : decode cX8_worth 55 = .ok (.isub, 1) := by decide +kernel
theorem dX8_worth_56 : decode cX8_worth 56 = .ok (.ireturn, 1) := by decide +kernel
set_option maxRecDepth 20000 in
theorem gX8_digest_X8_manyAnswer : GoodIn wsX8_digest (wsV RX8 224 RX8 yX8_manyAnswer wsX8_manyAnswer) := goodIn_sub (fun w h => List.mem_cons_of_mem _ (List.mem_append_right _ h)) (by decide +kernel)
theorem dX8_digest_0 : decode cX8_digest 0 = .ok (.ldc2_w 238, 3) := by decide +kernel
theorem dX8_digest_3 : decode cX8_digest 3 = .ok (.lstore_n 1, 1) := by decide +kernel
theorem dX8_digest_4 : decode cX8_digest 4 = .ok (.iconst 0, 1) := by decide +kernel
theorem dX8_digest_5 : decode cX8_digest 5 = .ok (.istore_n 3, 1) := by decide +kernel
theorem dX8_digest_6 : decode cX8_digest 6 = .ok (.iload_n 3, 1) := by decide +kernel
theorem dX8_digest_7 : decode cX8_digest 7 = .ok (.bipush 8, 2) := by decide +kernel
theorem dX8_digest_9 : decode cX8_digest 9 = .ok (.if_icmp .gt 22, 3) := by decide +kernel
theorem dX8_digest_12 : decode cX8_digest 12 = .ok (.lload_n 1, 1) := by decide +kernel
theorem dX8_digest_13 : decode cX8_digest 13 = .ok (.ldc2_w 240, 3) := by decide +kernel
theorem dX8_digest_16 : decode cX8_digest 16 = .ok (.lmul, 1) := by decide +kernel
theorem dX8_digest_17 : decode cX8_digest 17 = .ok (.aload_n 0, 1) := by decide +kernel
theorem dX8_digest_18 : decode cX8_digest 18 = .ok (.iload_n 3, 1) := by decide +kernel
theorem dX8_digest_19 : decode cX8_digest 19 = .ok (.invokevirtual 224, 3) := by decide +kernel
theorem dX8_digest_22 : decode cX8_digest 22 = .ok (.i2l, 1) := by decide +kernel
theorem dX8_digest_23 : decode cX8_digest 23 = .ok (.ladd, 1) := by decide +kernel
theorem dX8_digest_24 : decode cX8_digest 24 = .ok (.lstore_n 1, 1) := by decide +kernel
theorem dX8_digest_25 : decode cX8_digest 25 = .ok (.iinc 3 1, 3) := by decide +kernel
theorem dX8_digest_28 : decode cX8_digest 28 = .ok (.goto (-22), 3) := by decide +kernel
theorem dX8_digest_31 : decode cX8_digest 31 = .ok (.iconst 0, 1) := by decide +kernel
theorem dX8_digest_32 : decode cX8_digest 32 = .ok (.istore_n 3, 1) := by decide +kernel
theorem dX8_digest_33 : decode cX8_digest 33 = .ok (.iload_n 3, 1) := by decide +kernel
theorem dX8_digest_34 : decode cX8_digest 34 = .ok (.aload_n 0, 1) := by decide +kernel
theorem dX8_digest_35 : decode cX8_digest 35 = .ok (.getfield 26, 3) := by decide +kernel
theorem dX8_digest_38 : decode cX8_digest 38 = .ok (.getfield 103, 3) := by decide +kernel
theorem dX8_digest_41 : decode cX8_digest 41 = .ok (.if_icmp .ge 40, 3) := by decide +kernel
theorem dX8_digest_44 : decode cX8_digest 44 = .ok (.iconst 0, 1) := by decide +kernel
theorem dX8_digest_45 : decode cX8_digest 45 = .ok (.istore 4, 2) := by decide +kernel
theorem dX8_digest_47 : decode cX8_digest 47 = .ok (.iload 4, 2) := by decide +kernel
theorem dX8_digest_49 : decode cX8_digest 49 = .ok (.bipush 7, 2) := by decide +kernel
theorem dX8_digest_51 : decode cX8_digest 51 = .ok (.if_icmp .gt 24, 3) := by decide +kernel
theorem dX8_digest_54 : decode cX8_digest 54 = .ok (.lload_n 1, 1) := by decide +kernel
theorem dX8_digest_55 : decode cX8_digest 55 = .ok (.ldc2_w 240, 3) := by decide +kernel
theorem dX8_digest_58 : decode cX8_digest 58 = .ok (.lmul, 1) := by decide +kernel
theorem dX8_digest_59 : decode cX8_digest 59 = .ok (.aload_n 0, 1) := by decide +kernel
theorem dX8_digest_60 : decode cX8_digest 60 = .ok (.iload_n 3, 1) := by decide +kernel
theorem dX8_digest_61 : decode cX8_digest 61 = .ok (.iload 4, 2) := by decide +kernel
theorem dX8_digest_63 : decode cX8_digest 63 = .ok (.invokevirtual 194, 3) := by decide +kernel
theorem dX8_digest_66 : decode cX8_digest 66 = .ok (.i2l, 1) := by decide +kernel
theorem dX8_digest_67 : decode cX8_digest 67 = .ok (.ladd, 1) := by decide +kernel
theorem dX8_digest_68 : decode cX8_digest 68 = .ok (.lstore_n 1, 1) := by decide +kernel
theorem dX8_digest_69 : decode cX8_digest 69 = .ok (.iinc 4 1, 3) := by decide +kernel
theorem dX8_digest_72 : decode cX8_digest 72 = .ok (.goto (-25), 3) := by decide +kernel
theorem dX8_digest_75 : decode cX8_digest 75 = .ok (.iinc 3 1, 3) := by decide +kernel
theorem dX8_digest_78 : decode cX8_digest 78 = .ok (.goto (-45), 3) := by decide +kernel
theorem dX8_digest_81 : decode cX8_digest 81 = .ok (.iconst 0, 1) := by decide +kernel
theorem dX8_digest_82 : decode cX8_digest 82 = .ok (.istore_n 3, 1) := by decide +kernel
theorem dX8_digest_83 : decode cX8_digest 83 = .ok (.iload_n 3, 1) := by decide +kernel
theorem dX8_digest_84 : decode cX8_digest 84 = .ok (.aload_n 0, 1) := by decide +kernel
theorem dX8_digest_85 : decode cX8_digest 85 = .ok (.getfield 26, 3) := by decide +kernel
theorem dX8_digest_88 : decode cX8_digest 88 = .ok (.getfield 103, 3) := by decide +kernel
theorem dX8_digest_91 : decode cX8_digest 91 = .ok (.if_icmp .ge 27, 3) := by decide +kernel
theorem dX8_digest_94 : decode cX8_digest 94 = .ok (.aload_n 0, 1) := by decide +kernel
theorem dX8_digest_95 : decode cX8_digest 95 = .ok (.getfield 26, 3) := by decide +kernel
theorem dX8_digest_98 : decode cX8_digest 98 = .ok (.iload_n 3, 1) := by decide +kernel
theorem dX8_digest_99 : decode cX8_digest 99 = .ok (.invokevirtual 166, 3) := by decide +kernel
theorem dX8_digest_102 : decode cX8_digest 102 = .ok (.ifCond .eq 10, 3) := by decide +kernel
theorem dX8_digest_105 : decode cX8_digest 105 = .ok (.aload_n 0, 1) := by decide +kernel
theorem dX8_digest_106 : decode cX8_digest 106 = .ok (.lload_n 1, 1) := by decide +kernel
theorem dX8_digest_107 : decode cX8_digest 107 = .ok (.iload_n 3, 1) := by decide +kernel
theorem dX8_digest_108 : decode cX8_digest 108 = .ok (.invokevirtual 242, 3) := by decide +kernel
theorem dX8_digest_111 : decode cX8_digest 111 = .ok (.lstore_n 1, 1) := by decide +kernel
theorem dX8_digest_112 : decode cX8_digest 112 = .ok (.iinc 3 1, 3) := by decide +kernel
theorem dX8_digest_115 : decode cX8_digest 115 = .ok (.goto (-32), 3) := by decide +kernel
theorem dX8_digest_118 : decode cX8_digest 118 = .ok (.lload_n 1, 1) := by decide +kernel
theorem dX8_digest_119 : decode cX8_digest 119 = .ok (.lreturn, 1) := by decide +kernel
set_option maxRecDepth 20000 in
theorem gX8_manyAnswer_X5_sum : GoodIn wsX8_manyAnswer (wsV RX8 335 RX5 yX5_sum wsX5_sum) := goodIn_sub (fun w h => List.mem_cons_of_mem _ (List.mem_append_right _ h)) (by decide +kernel)
theorem dX8_manyAnswer_0 : decode cX8_manyAnswer 0 = .ok (.iload_n 1, 1) := by decide +kernel
theorem dX8_manyAnswer_1 : decode cX8_manyAnswer 1 = .ok (.tableswitch 114 0 7 #[47, 55, 63, 71, 79, 84, 92, 103], 47) := by decide +kernel
theorem dX8_manyAnswer_48 : decode cX8_manyAnswer 48 = .ok (.aload_n 0, 1) := by decide +kernel
theorem dX8_manyAnswer_49 : decode cX8_manyAnswer 49 = .ok (.getfield 26, 3) := by decide +kernel
theorem dX8_manyAnswer_52 : decode cX8_manyAnswer 52 = .ok (.getfield 103, 3) := by decide +kernel
theorem dX8_manyAnswer_55 : decode cX8_manyAnswer 55 = .ok (.ireturn, 1) := by decide +kernel
theorem dX8_manyAnswer_56 : decode cX8_manyAnswer 56 = .ok (.aload_n 0, 1) := by decide +kernel
theorem dX8_manyAnswer_57 : decode cX8_manyAnswer 57 = .ok (.getfield 33, 3) := by decide +kernel
theorem dX8_manyAnswer_60 : decode cX8_manyAnswer 60 = .ok (.getfield 151, 3) := by decide +kernel
theorem dX8_manyAnswer_63 : decode cX8_manyAnswer 63 = .ok (.ireturn, 1) := by decide +kernel
theorem dX8_manyAnswer_64 : decode cX8_manyAnswer 64 = .ok (.aload_n 0, 1) := by decide +kernel
theorem dX8_manyAnswer_65 : decode cX8_manyAnswer 65 = .ok (.getfield 33, 3) := by decide +kernel
theorem dX8_manyAnswer_68 : decode cX8_manyAnswer 68 = .ok (.getfield 148, 3) := by decide +kernel
theorem dX8_manyAnswer_71 : decode cX8_manyAnswer 71 = .ok (.ireturn, 1) := by decide +kernel
theorem dX8_manyAnswer_72 : decode cX8_manyAnswer 72 = .ok (.aload_n 0, 1) := by decide +kernel
theorem dX8_manyAnswer_73 : decode cX8_manyAnswer 73 = .ok (.getfield 33, 3) := by decide +kernel
theorem dX8_manyAnswer_76 : decode cX8_manyAnswer 76 = .ok (.getfield 159, 3) := by decide +kernel
theorem dX8_manyAnswer_79 : decode cX8_manyAnswer 79 = .ok (.ireturn, 1) := by decide +kernel
theorem dX8_manyAnswer_80 : decode cX8_manyAnswer 80 = .ok (.aload_n 0, 1) := by decide +kernel
theorem dX8_manyAnswer_81 : decode cX8_manyAnswer 81 = .ok (.getfield 58, 3) := by decide +kernel
theorem dX8_manyAnswer_84 : decode cX8_manyAnswer 84 = .ok (.ireturn, 1) := by decide +kernel
theorem dX8_manyAnswer_85 : decode cX8_manyAnswer 85 = .ok (.aload_n 0, 1) := by decide +kernel
theorem dX8_manyAnswer_86 : decode cX8_manyAnswer 86 = .ok (.getfield 19, 3) := by decide +kernel
theorem dX8_manyAnswer_89 : decode cX8_manyAnswer 89 = .ok (.getfield 89, 3) := by decide +kernel
theorem dX8_manyAnswer_92 : decode cX8_manyAnswer 92 = .ok (.ireturn, 1) := by decide +kernel
theorem dX8_manyAnswer_93 : decode cX8_manyAnswer 93 = .ok (.aload_n 0, 1) := by decide +kernel
theorem dX8_manyAnswer_94 : decode cX8_manyAnswer 94 = .ok (.getfield 26, 3) := by decide +kernel
theorem dX8_manyAnswer_97 : decode cX8_manyAnswer 97 = .ok (.getfield 137, 3) := by decide +kernel
theorem dX8_manyAnswer_100 : decode cX8_manyAnswer 100 = .ok (.invokevirtual 335, 3) := by decide +kernel
theorem dX8_manyAnswer_103 : decode cX8_manyAnswer 103 = .ok (.ireturn, 1) := by decide +kernel
theorem dX8_manyAnswer_104 : decode cX8_manyAnswer 104 = .ok (.aload_n 0, 1) := by decide +kernel
theorem dX8_manyAnswer_105 : decode cX8_manyAnswer 105 = .ok (.getfield 26, 3) := by decide +kernel
theorem dX8_manyAnswer_108 : decode cX8_manyAnswer 108 = .ok (.getfield 271, 3) := by decide +kernel
theorem dX8_manyAnswer_111 : decode cX8_manyAnswer 111 = .ok (.invokevirtual 335, 3) := by decide +kernel
theorem dX8_manyAnswer_114 : decode cX8_manyAnswer 114 = .ok (.ireturn, 1) := by decide +kernel
theorem dX8_manyAnswer_115 : decode cX8_manyAnswer 115 = .ok (.aload_n 0, 1) := by decide +kernel
theorem dX8_manyAnswer_116 : decode cX8_manyAnswer 116 = .ok (.getfield 62, 3) := by decide +kernel
theorem dX8_manyAnswer_119 : decode cX8_manyAnswer 119 = .ok (.ireturn, 1) := by decide +kernel
