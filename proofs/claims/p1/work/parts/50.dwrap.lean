set_option maxRecDepth 20000 in
theorem gL_zone_X8_zone : GoodIn wsL_zone (wsV RL 7 RX8 yX8_zone wsX8_zone) := goodIn_sub (fun w h => List.mem_cons_of_mem _ (List.mem_append_right _ h)) (by decide +kernel)
theorem dL_zone_0 : decode cL_zone 0 = .ok (.aload_n 3, 1) := by decide +kernel
theorem dL_zone_1 : decode cL_zone 1 = .ok (.iconst 0, 1) := by decide +kernel
theorem dL_zone_2 : decode cL_zone 2 = .ok (.aload_n 0, 1) := by decide +kernel
theorem dL_zone_3 : decode cL_zone 3 = .ok (.iload_n 1, 1) := by decide +kernel
theorem dL_zone_4 : decode cL_zone 4 = .ok (.iload_n 2, 1) := by decide +kernel
theorem dL_zone_5 : decode cL_zone 5 = .ok (.invokevirtual 7, 3) := by decide +kernel
theorem dL_zone_8 : decode cL_zone 8 = .ok (.i2l, 1) := by decide +kernel
theorem dL_zone_9 : decode cL_zone 9 = .ok (.lastore, 1) := by decide +kernel
theorem dL_zone_10 : decode cL_zone 10 = .ok (.goto 11, 3) := by decide +kernel
theorem dL_zone_13 : decode cL_zone 13 = .ok (.astore 4, 2) := by decide +kernel
theorem dL_zone_15 : decode cL_zone 15 = .ok (.iconst 1, 1) := by decide +kernel
theorem dL_zone_16 : decode cL_zone 16 = .ok (.ireturn, 1) := by decide +kernel
theorem dL_zone_17 : decode cL_zone 17 = .ok (.astore 4, 2) := by decide +kernel
theorem dL_zone_19 : decode cL_zone 19 = .ok (.iconst 2, 1) := by decide +kernel
theorem dL_zone_20 : decode cL_zone 20 = .ok (.ireturn, 1) := by decide +kernel
theorem dL_zone_21 : decode cL_zone 21 = .ok (.iconst 0, 1) := by decide +kernel
theorem dL_zone_22 : decode cL_zone 22 = .ok (.ireturn, 1) := by decide +kernel
set_option maxRecDepth 20000 in
theorem gL_carrier_X8_carrier : GoodIn wsL_carrier (wsV RL 17 RX8 yX8_carrier wsX8_carrier) := goodIn_sub (fun w h => List.mem_cons_of_mem _ (List.mem_append_right _ h)) (by decide +kernel)
theorem dL_carrier_0 : decode cL_carrier 0 = .ok (.aload_n 3, 1) := by decide +kernel
theorem dL_carrier_1 : decode cL_carrier 1 = .ok (.iconst 0, 1) := by decide +kernel
theorem dL_carrier_2 : decode cL_carrier 2 = .ok (.aload_n 0, 1) := by decide +kernel
theorem dL_carrier_3 : decode cL_carrier 3 = .ok (.iload_n 1, 1) := by decide +kernel
theorem dL_carrier_4 : decode cL_carrier 4 = .ok (.iload_n 2, 1) := by decide +kernel
theorem dL_carrier_5 : decode cL_carrier 5 = .ok (.invokevirtual 17, 3) := by decide +kernel
theorem dL_carrier_8 : decode cL_carrier 8 = .ok (.i2l, 1) := by decide +kernel
theorem dL_carrier_9 : decode cL_carrier 9 = .ok (.lastore, 1) := by decide +kernel
theorem dL_carrier_10 : decode cL_carrier 10 = .ok (.goto 7, 3) := by decide +kernel
theorem dL_carrier_13 : decode cL_carrier 13 = .ok (.astore 4, 2) := by decide +kernel
theorem dL_carrier_15 : decode cL_carrier 15 = .ok (.iconst 1, 1) := by decide +kernel
theorem dL_carrier_16 : decode cL_carrier 16 = .ok (.ireturn, 1) := by decide +kernel
theorem dL_carrier_17 : decode cL_carrier 17 = .ok (.iconst 0, 1) := by decide +kernel
theorem dL_carrier_18 : decode cL_carrier 18 = .ok (.ireturn, 1) := by decide +kernel
set_option maxRecDepth 20000 in
theorem gL_tariff_X8_tariff : GoodIn wsL_tariff (wsV RL 20 RX8 yX8_tariff wsX8_tariff) := goodIn_sub (fun w h => List.mem_cons_of_mem _ (List.mem_append_right _ h)) (by decide +kernel)
theorem dL_tariff_0 : decode cL_tariff 0 = .ok (.aload 6, 2) := by decide +kernel
theorem dL_tariff_2 : decode cL_tariff 2 = .ok (.iconst 0, 1) := by decide +kernel
theorem dL_tariff_3 : decode cL_tariff 3 = .ok (.aload_n 0, 1) := by decide +kernel
theorem dL_tariff_4 : decode cL_tariff 4 = .ok (.iload_n 1, 1) := by decide +kernel
theorem dL_tariff_5 : decode cL_tariff 5 = .ok (.iload_n 2, 1) := by decide +kernel
theorem dL_tariff_6 : decode cL_tariff 6 = .ok (.iload_n 3, 1) := by decide +kernel
theorem dL_tariff_7 : decode cL_tariff 7 = .ok (.iload 4, 2) := by decide +kernel
theorem dL_tariff_9 : decode cL_tariff 9 = .ok (.iload 5, 2) := by decide +kernel
theorem dL_tariff_11 : decode cL_tariff 11 = .ok (.invokevirtual 20, 3) := by decide +kernel
theorem dL_tariff_14 : decode cL_tariff 14 = .ok (.i2l, 1) := by decide +kernel
theorem dL_tariff_15 : decode cL_tariff 15 = .ok (.lastore, 1) := by decide +kernel
theorem dL_tariff_16 : decode cL_tariff 16 = .ok (.goto 11, 3) := by decide +kernel
theorem dL_tariff_19 : decode cL_tariff 19 = .ok (.astore 7, 2) := by decide +kernel
theorem dL_tariff_21 : decode cL_tariff 21 = .ok (.iconst 1, 1) := by decide +kernel
theorem dL_tariff_22 : decode cL_tariff 22 = .ok (.ireturn, 1) := by decide +kernel
theorem dL_tariff_23 : decode cL_tariff 23 = .ok (.astore 7, 2) := by decide +kernel
theorem dL_tariff_25 : decode cL_tariff 25 = .ok (.iconst 2, 1) := by decide +kernel
theorem dL_tariff_26 : decode cL_tariff 26 = .ok (.ireturn, 1) := by decide +kernel
theorem dL_tariff_27 : decode cL_tariff 27 = .ok (.iconst 0, 1) := by decide +kernel
theorem dL_tariff_28 : decode cL_tariff 28 = .ok (.ireturn, 1) := by decide +kernel
set_option maxRecDepth 20000 in
theorem gL_card_X8_card : GoodIn wsL_card (wsV RL 26 RX8 yX8_card wsX8_card) := goodIn_sub (fun w h => List.mem_cons_of_mem _ (List.mem_append_right _ h)) (by decide +kernel)
theorem dL_card_0 : decode cL_card 0 = .ok (.aload_n 1, 1) := by decide +kernel
theorem dL_card_1 : decode cL_card 1 = .ok (.iconst 0, 1) := by decide +kernel
theorem dL_card_2 : decode cL_card 2 = .ok (.aload_n 0, 1) := by decide +kernel
theorem dL_card_3 : decode cL_card 3 = .ok (.invokevirtual 26, 3) := by decide +kernel
theorem dL_card_6 : decode cL_card 6 = .ok (.i2l, 1) := by decide +kernel
theorem dL_card_7 : decode cL_card 7 = .ok (.lastore, 1) := by decide +kernel
theorem dL_card_8 : decode cL_card 8 = .ok (.goto 6, 3) := by decide +kernel
theorem dL_card_11 : decode cL_card 11 = .ok (.astore_n 2, 1) := by decide +kernel
theorem dL_card_12 : decode cL_card 12 = .ok (.iconst 1, 1) := by decide +kernel
theorem dL_card_13 : decode cL_card 13 = .ok (.ireturn, 1) := by decide +kernel
theorem dL_card_14 : decode cL_card 14 = .ok (.iconst 0, 1) := by decide +kernel
theorem dL_card_15 : decode cL_card 15 = .ok (.ireturn, 1) := by decide +kernel
set_option maxRecDepth 20000 in
theorem gL_tie_X8_tie : GoodIn wsL_tie (wsV RL 30 RX8 yX8_tie wsX8_tie) := goodIn_sub (fun w h => List.mem_cons_of_mem _ (List.mem_append_right _ h)) (by decide +kernel)
theorem dL_tie_0 : decode cL_tie 0 = .ok (.aload_n 3, 1) := by decide +kernel
theorem dL_tie_1 : decode cL_tie 1 = .ok (.iconst 0, 1) := by decide +kernel
theorem dL_tie_2 : decode cL_tie 2 = .ok (.aload_n 0, 1) := by decide +kernel
theorem dL_tie_3 : decode cL_tie 3 = .ok (.iload_n 1, 1) := by decide +kernel
theorem dL_tie_4 : decode cL_tie 4 = .ok (.iload_n 2, 1) := by decide +kernel
theorem dL_tie_5 : decode cL_tie 5 = .ok (.invokevirtual 30, 3) := by decide +kernel
theorem dL_tie_8 : decode cL_tie 8 = .ok (.i2l, 1) := by decide +kernel
theorem dL_tie_9 : decode cL_tie 9 = .ok (.lastore, 1) := by decide +kernel
theorem dL_tie_10 : decode cL_tie 10 = .ok (.goto 15, 3) := by decide +kernel
theorem dL_tie_13 : decode cL_tie 13 = .ok (.astore 4, 2) := by decide +kernel
theorem dL_tie_15 : decode cL_tie 15 = .ok (.iconst 1, 1) := by decide +kernel
theorem dL_tie_16 : decode cL_tie 16 = .ok (.ireturn, 1) := by decide +kernel
theorem dL_tie_17 : decode cL_tie 17 = .ok (.astore 4, 2) := by decide +kernel
theorem dL_tie_19 : decode cL_tie 19 = .ok (.iconst 2, 1) := by decide +kernel
theorem dL_tie_20 : decode cL_tie 20 = .ok (.ireturn, 1) := by decide +kernel
theorem dL_tie_21 : decode cL_tie 21 = .ok (.astore 4, 2) := by decide +kernel
theorem dL_tie_23 : decode cL_tie 23 = .ok (.iconst 3, 1) := by decide +kernel
theorem dL_tie_24 : decode cL_tie 24 = .ok (.ireturn, 1) := by decide +kernel
theorem dL_tie_25 : decode cL_tie 25 = .ok (.iconst 0, 1) := by decide +kernel
theorem dL_tie_26 : decode cL_tie 26 = .ok (.ireturn, 1) := by decide +kernel
set_option maxRecDepth 20000 in
theorem gL_lose_X8_lose : GoodIn wsL_lose (wsV RL 33 RX8 yX8_lose wsX8_lose) := goodIn_sub (fun w h => List.mem_cons_of_mem _ (List.mem_append_right _ h)) (by decide +kernel)
theorem dL_lose_0 : decode cL_lose 0 = .ok (.aload_n 3, 1) := by decide +kernel
theorem dL_lose_1 : decode cL_lose 1 = .ok (.iconst 0, 1) := by decide +kernel
theorem dL_lose_2 : decode cL_lose 2 = .ok (.aload_n 0, 1) := by decide +kernel
theorem dL_lose_3 : decode cL_lose 3 = .ok (.iload_n 1, 1) := by decide +kernel
theorem dL_lose_4 : decode cL_lose 4 = .ok (.iload_n 2, 1) := by decide +kernel
theorem dL_lose_5 : decode cL_lose 5 = .ok (.invokevirtual 33, 3) := by decide +kernel
theorem dL_lose_8 : decode cL_lose 8 = .ok (.ifCond .eq 7, 3) := by decide +kernel
theorem dL_lose_11 : decode cL_lose 11 = .ok (.lconst 1, 1) := by decide +kernel
theorem dL_lose_12 : decode cL_lose 12 = .ok (.goto 4, 3) := by decide +kernel
theorem dL_lose_15 : decode cL_lose 15 = .ok (.lconst 0, 1) := by decide +kernel
theorem dL_lose_16 : decode cL_lose 16 = .ok (.lastore, 1) := by decide +kernel
theorem dL_lose_17 : decode cL_lose 17 = .ok (.goto 7, 3) := by decide +kernel
theorem dL_lose_20 : decode cL_lose 20 = .ok (.astore 4, 2) := by decide +kernel
theorem dL_lose_22 : decode cL_lose 22 = .ok (.iconst 1, 1) := by decide +kernel
theorem dL_lose_23 : decode cL_lose 23 = .ok (.ireturn, 1) := by decide +kernel
theorem dL_lose_24 : decode cL_lose 24 = .ok (.iconst 0, 1) := by decide +kernel
theorem dL_lose_25 : decode cL_lose 25 = .ok (.ireturn, 1) := by decide +kernel
set_option maxRecDepth 20000 in
theorem gL_pay_X8_pay : GoodIn wsL_pay (wsV RL 37 RX8 yX8_pay wsX8_pay) := goodIn_sub (fun w h => List.mem_cons_of_mem _ (List.mem_append_right _ h)) (by decide +kernel)
theorem dL_pay_0 : decode cL_pay 0 = .ok (.aload_n 3, 1) := by decide +kernel
theorem dL_pay_1 : decode cL_pay 1 = .ok (.iconst 0, 1) := by decide +kernel
theorem dL_pay_2 : decode cL_pay 2 = .ok (.aload_n 0, 1) := by decide +kernel
theorem dL_pay_3 : decode cL_pay 3 = .ok (.iload_n 1, 1) := by decide +kernel
theorem dL_pay_4 : decode cL_pay 4 = .ok (.iload_n 2, 1) := by decide +kernel
theorem dL_pay_5 : decode cL_pay 5 = .ok (.invokevirtual 37, 3) := by decide +kernel
theorem dL_pay_8 : decode cL_pay 8 = .ok (.i2l, 1) := by decide +kernel
theorem dL_pay_9 : decode cL_pay 9 = .ok (.lastore, 1) := by decide +kernel
theorem dL_pay_10 : decode cL_pay 10 = .ok (.goto 11, 3) := by decide +kernel
theorem dL_pay_13 : decode cL_pay 13 = .ok (.astore 4, 2) := by decide +kernel
theorem dL_pay_15 : decode cL_pay 15 = .ok (.iconst 1, 1) := by decide +kernel
theorem dL_pay_16 : decode cL_pay 16 = .ok (.ireturn, 1) := by decide +kernel
theorem dL_pay_17 : decode cL_pay 17 = .ok (.astore 4, 2) := by decide +kernel
theorem dL_pay_19 : decode cL_pay 19 = .ok (.iconst 2, 1) := by decide +kernel
theorem dL_pay_20 : decode cL_pay 20 = .ok (.ireturn, 1) := by decide +kernel
theorem dL_pay_21 : decode cL_pay 21 = .ok (.iconst 0, 1) := by decide +kernel
theorem dL_pay_22 : decode cL_pay 22 = .ok (.ireturn, 1) := by decide +kernel
set_option maxRecDepth 20000 in
theorem gL_late_X8_late : GoodIn wsL_late (wsV RL 40 RX8 yX8_late wsX8_late) := goodIn_sub (fun w h => List.mem_cons_of_mem _ (List.mem_append_right _ h)) (by decide +kernel)
theorem dL_late_0 : decode cL_late 0 = .ok (.aload 4, 2) := by decide +kernel
theorem dL_late_2 : decode cL_late 2 = .ok (.iconst 0, 1) := by decide +kernel
theorem dL_late_3 : decode cL_late 3 = .ok (.aload_n 0, 1) := by decide +kernel
theorem dL_late_4 : decode cL_late 4 = .ok (.iload_n 1, 1) := by decide +kernel
theorem dL_late_5 : decode cL_late 5 = .ok (.iload_n 2, 1) := by decide +kernel
theorem dL_late_6 : decode cL_late 6 = .ok (.iload_n 3, 1) := by decide +kernel
theorem dL_late_7 : decode cL_late 7 = .ok (.invokevirtual 40, 3) := by decide +kernel
theorem dL_late_10 : decode cL_late 10 = .ok (.i2l, 1) := by decide +kernel
theorem dL_late_11 : decode cL_late 11 = .ok (.lastore, 1) := by decide +kernel
theorem dL_late_12 : decode cL_late 12 = .ok (.goto 11, 3) := by decide +kernel
theorem dL_late_15 : decode cL_late 15 = .ok (.astore 5, 2) := by decide +kernel
theorem dL_late_17 : decode cL_late 17 = .ok (.iconst 1, 1) := by decide +kernel
theorem dL_late_18 : decode cL_late 18 = .ok (.ireturn, 1) := by decide +kernel
theorem dL_late_19 : decode cL_late 19 = .ok (.astore 5, 2) := by decide +kernel
theorem dL_late_21 : decode cL_late 21 = .ok (.iconst 2, 1) := by decide +kernel
theorem dL_late_22 : decode cL_late 22 = .ok (.ireturn, 1) := by decide +kernel
theorem dL_late_23 : decode cL_late 23 = .ok (.iconst 0, 1) := by decide +kernel
theorem dL_late_24 : decode cL_late 24 = .ok (.ireturn, 1) := by decide +kernel
set_option maxRecDepth 20000 in
theorem gL_tap_X8_tap : GoodIn wsL_tap (wsV RL 44 RX8 yX8_tap wsX8_tap) := goodIn_sub (fun w h => List.mem_cons_of_mem _ (List.mem_append_right _ h)) (by decide +kernel)
theorem dL_tap_0 : decode cL_tap 0 = .ok (.aload 7, 2) := by decide +kernel
theorem dL_tap_2 : decode cL_tap 2 = .ok (.iconst 0, 1) := by decide +kernel
theorem dL_tap_3 : decode cL_tap 3 = .ok (.aload_n 0, 1) := by decide +kernel
theorem dL_tap_4 : decode cL_tap 4 = .ok (.iload_n 1, 1) := by decide +kernel
theorem dL_tap_5 : decode cL_tap 5 = .ok (.iload_n 2, 1) := by decide +kernel
theorem dL_tap_6 : decode cL_tap 6 = .ok (.iload_n 3, 1) := by decide +kernel
theorem dL_tap_7 : decode cL_tap 7 = .ok (.iload 4, 2) := by decide +kernel
theorem dL_tap_9 : decode cL_tap 9 = .ok (.iload 5, 2) := by decide +kernel
theorem dL_tap_11 : decode cL_tap 11 = .ok (.iload 6, 2) := by decide +kernel
theorem dL_tap_13 : decode cL_tap 13 = .ok (.invokevirtual 44, 3) := by decide +kernel
theorem dL_tap_16 : decode cL_tap 16 = .ok (.i2l, 1) := by decide +kernel
theorem dL_tap_17 : decode cL_tap 17 = .ok (.lastore, 1) := by decide +kernel
theorem dL_tap_18 : decode cL_tap 18 = .ok (.goto 15, 3) := by decide +kernel
theorem dL_tap_21 : decode cL_tap 21 = .ok (.astore 8, 2) := by decide +kernel
theorem dL_tap_23 : decode cL_tap 23 = .ok (.iconst 1, 1) := by decide +kernel
theorem dL_tap_24 : decode cL_tap 24 = .ok (.ireturn, 1) := by decide +kernel
theorem dL_tap_25 : decode cL_tap 25 = .ok (.astore 8, 2) := by decide +kernel
theorem dL_tap_27 : decode cL_tap 27 = .ok (.iconst 2, 1) := by decide +kernel
theorem dL_tap_28 : decode cL_tap 28 = .ok (.ireturn, 1) := by decide +kernel
theorem dL_tap_29 : decode cL_tap 29 = .ok (.astore 8, 2) := by decide +kernel
theorem dL_tap_31 : decode cL_tap 31 = .ok (.iconst 3, 1) := by decide +kernel
theorem dL_tap_32 : decode cL_tap 32 = .ok (.ireturn, 1) := by decide +kernel
theorem dL_tap_33 : decode cL_tap 33 = .ok (.iconst 0, 1) := by decide +kernel
theorem dL_tap_34 : decode cL_tap 34 = .ok (.ireturn, 1) := by decide +kernel
set_option maxRecDepth 20000 in
theorem gL_close_X8_close : GoodIn wsL_close (wsV RL 48 RX8 yX8_close wsX8_close) := goodIn_sub (fun w h => List.mem_cons_of_mem _ (List.mem_append_right _ h)) (by decide +kernel)
theorem dL_close_0 : decode cL_close 0 = .ok (.aload_n 1, 1) := by decide +kernel
theorem dL_close_1 : decode cL_close 1 = .ok (.iconst 0, 1) := by decide +kernel
theorem dL_close_2 : decode cL_close 2 = .ok (.aload_n 0, 1) := by decide +kernel
theorem dL_close_3 : decode cL_close 3 = .ok (.invokevirtual 48, 3) := by decide +kernel
theorem dL_close_6 : decode cL_close 6 = .ok (.i2l, 1) := by decide +kernel
theorem dL_close_7 : decode cL_close 7 = .ok (.lastore, 1) := by decide +kernel
theorem dL_close_8 : decode cL_close 8 = .ok (.goto 6, 3) := by decide +kernel
theorem dL_close_11 : decode cL_close 11 = .ok (.astore_n 2, 1) := by decide +kernel
theorem dL_close_12 : decode cL_close 12 = .ok (.iconst 1, 1) := by decide +kernel
theorem dL_close_13 : decode cL_close 13 = .ok (.ireturn, 1) := by decide +kernel
theorem dL_close_14 : decode cL_close 14 = .ok (.iconst 0, 1) := by decide +kernel
theorem dL_close_15 : decode cL_close 15 = .ok (.ireturn, 1) := by decide +kernel
set_option maxRecDepth 20000 in
theorem gL_settle_X8_settle : GoodIn wsL_settle (wsV RL 51 RX8 yX8_settle wsX8_settle) := goodIn_sub (fun w h => List.mem_cons_of_mem _ (List.mem_append_right _ h)) (by decide +kernel)
theorem dL_settle_0 : decode cL_settle 0 = .ok (.aload_n 3, 1) := by decide +kernel
theorem dL_settle_1 : decode cL_settle 1 = .ok (.iconst 0, 1) := by decide +kernel
theorem dL_settle_2 : decode cL_settle 2 = .ok (.aload_n 0, 1) := by decide +kernel
theorem dL_settle_3 : decode cL_settle 3 = .ok (.iload_n 1, 1) := by decide +kernel
theorem dL_settle_4 : decode cL_settle 4 = .ok (.iload_n 2, 1) := by decide +kernel
theorem dL_settle_5 : decode cL_settle 5 = .ok (.invokevirtual 51, 3) := by decide +kernel
theorem dL_settle_8 : decode cL_settle 8 = .ok (.i2l, 1) := by decide +kernel
theorem dL_settle_9 : decode cL_settle 9 = .ok (.lastore, 1) := by decide +kernel
theorem dL_settle_10 : decode cL_settle 10 = .ok (.goto 11, 3) := by decide +kernel
theorem dL_settle_13 : decode cL_settle 13 = .ok (.astore 4, 2) := by decide +kernel
theorem dL_settle_15 : decode cL_settle 15 = .ok (.iconst 1, 1) := by decide +kernel
theorem dL_settle_16 : decode cL_settle 16 = .ok (.ireturn, 1) := by decide +kernel
theorem dL_settle_17 : decode cL_settle 17 = .ok (.astore 4, 2) := by decide +kernel
theorem dL_settle_19 : decode cL_settle 19 = .ok (.iconst 2, 1) := by decide +kernel
theorem dL_settle_20 : decode cL_settle 20 = .ok (.ireturn, 1) := by decide +kernel
theorem dL_settle_21 : decode cL_settle 21 = .ok (.iconst 0, 1) := by decide +kernel
theorem dL_settle_22 : decode cL_settle 22 = .ok (.ireturn, 1) := by decide +kernel
set_option maxRecDepth 20000 in
theorem gL_refund_X8_refund : GoodIn wsL_refund (wsV RL 54 RX8 yX8_refund wsX8_refund) := goodIn_sub (fun w h => List.mem_cons_of_mem _ (List.mem_append_right _ h)) (by decide +kernel)
theorem dL_refund_0 : decode cL_refund 0 = .ok (.aload 4, 2) := by decide +kernel
theorem dL_refund_2 : decode cL_refund 2 = .ok (.iconst 0, 1) := by decide +kernel
theorem dL_refund_3 : decode cL_refund 3 = .ok (.aload_n 0, 1) := by decide +kernel
theorem dL_refund_4 : decode cL_refund 4 = .ok (.iload_n 1, 1) := by decide +kernel
theorem dL_refund_5 : decode cL_refund 5 = .ok (.iload_n 2, 1) := by decide +kernel
theorem dL_refund_6 : decode cL_refund 6 = .ok (.iload_n 3, 1) := by decide +kernel
theorem dL_refund_7 : decode cL_refund 7 = .ok (.invokevirtual 54, 3) := by decide +kernel
theorem dL_refund_10 : decode cL_refund 10 = .ok (.i2l, 1) := by decide +kernel
theorem dL_refund_11 : decode cL_refund 11 = .ok (.lastore, 1) := by decide +kernel
theorem dL_refund_12 : decode cL_refund 12 = .ok (.goto 11, 3) := by decide +kernel
theorem dL_refund_15 : decode cL_refund 15 = .ok (.astore 5, 2) := by decide +kernel
theorem dL_refund_17 : decode cL_refund 17 = .ok (.iconst 1, 1) := by decide +kernel
theorem dL_refund_18 : decode cL_refund 18 = .ok (.ireturn, 1) := by decide +kernel
theorem dL_refund_19 : decode cL_refund 19 = .ok (.astore 5, 2) := by decide +kernel
theorem dL_refund_21 : decode cL_refund 21 = .ok (.iconst 2, 1) := by decide +kernel
theorem dL_refund_22 : decode cL_refund 22 = .ok (.ireturn, 1) := by decide +kernel
theorem dL_refund_23 : decode cL_refund 23 = .ok (.iconst 0, 1) := by decide +kernel
theorem dL_refund_24 : decode cL_refund 24 = .ok (.ireturn, 1) := by decide +kernel
set_option maxRecDepth 20000 in
theorem gL_ofCard_X8_ofCard : GoodIn wsL_ofCard (wsV RL 57 RX8 yX8_ofCard wsX8_ofCard) := goodIn_sub (fun w h => List.mem_cons_of_mem _ (List.mem_append_right _ h)) (by decide +kernel)
theorem dL_ofCard_0 : decode cL_ofCard 0 = .ok (.aload_n 3, 1) := by decide +kernel
theorem dL_ofCard_1 : decode cL_ofCard 1 = .ok (.iconst 0, 1) := by decide +kernel
theorem dL_ofCard_2 : decode cL_ofCard 2 = .ok (.aload_n 0, 1) := by decide +kernel
theorem dL_ofCard_3 : decode cL_ofCard 3 = .ok (.iload_n 1, 1) := by decide +kernel
theorem dL_ofCard_4 : decode cL_ofCard 4 = .ok (.iload_n 2, 1) := by decide +kernel
theorem dL_ofCard_5 : decode cL_ofCard 5 = .ok (.invokevirtual 57, 3) := by decide +kernel
theorem dL_ofCard_8 : decode cL_ofCard 8 = .ok (.i2l, 1) := by decide +kernel
theorem dL_ofCard_9 : decode cL_ofCard 9 = .ok (.lastore, 1) := by decide +kernel
theorem dL_ofCard_10 : decode cL_ofCard 10 = .ok (.goto 11, 3) := by decide +kernel
theorem dL_ofCard_13 : decode cL_ofCard 13 = .ok (.astore 4, 2) := by decide +kernel
theorem dL_ofCard_15 : decode cL_ofCard 15 = .ok (.iconst 1, 1) := by decide +kernel
theorem dL_ofCard_16 : decode cL_ofCard 16 = .ok (.ireturn, 1) := by decide +kernel
theorem dL_ofCard_17 : decode cL_ofCard 17 = .ok (.astore 4, 2) := by decide +kernel
theorem dL_ofCard_19 : decode cL_ofCard 19 = .ok (.iconst 2, 1) := by decide +kernel
theorem dL_ofCard_20 : decode cL_ofCard 20 = .ok (.ireturn, 1) := by decide +kernel
theorem dL_ofCard_21 : decode cL_ofCard 21 = .ok (.iconst 0, 1) := by decide +kernel
theorem dL_ofCard_22 : decode cL_ofCard 22 = .ok (.ireturn, 1) := by decide +kernel
set_option maxRecDepth 20000 in
theorem gL_ofDay_X8_ofDay : GoodIn wsL_ofDay (wsV RL 60 RX8 yX8_ofDay wsX8_ofDay) := goodIn_sub (fun w h => List.mem_cons_of_mem _ (List.mem_append_right _ h)) (by decide +kernel)
theorem dL_ofDay_0 : decode cL_ofDay 0 = .ok (.aload 4, 2) := by decide +kernel
theorem dL_ofDay_2 : decode cL_ofDay 2 = .ok (.iconst 0, 1) := by decide +kernel
theorem dL_ofDay_3 : decode cL_ofDay 3 = .ok (.aload_n 0, 1) := by decide +kernel
theorem dL_ofDay_4 : decode cL_ofDay 4 = .ok (.iload_n 1, 1) := by decide +kernel
theorem dL_ofDay_5 : decode cL_ofDay 5 = .ok (.iload_n 2, 1) := by decide +kernel
theorem dL_ofDay_6 : decode cL_ofDay 6 = .ok (.iload_n 3, 1) := by decide +kernel
theorem dL_ofDay_7 : decode cL_ofDay 7 = .ok (.invokevirtual 60, 3) := by decide +kernel
theorem dL_ofDay_10 : decode cL_ofDay 10 = .ok (.i2l, 1) := by decide +kernel
theorem dL_ofDay_11 : decode cL_ofDay 11 = .ok (.lastore, 1) := by decide +kernel
theorem dL_ofDay_12 : decode cL_ofDay 12 = .ok (.goto 11, 3) := by decide +kernel
theorem dL_ofDay_15 : decode cL_ofDay 15 = .ok (.astore 5, 2) := by decide +kernel
theorem dL_ofDay_17 : decode cL_ofDay 17 = .ok (.iconst 1, 1) := by decide +kernel
theorem dL_ofDay_18 : decode cL_ofDay 18 = .ok (.ireturn, 1) := by decide +kernel
theorem dL_ofDay_19 : decode cL_ofDay 19 = .ok (.astore 5, 2) := by decide +kernel
theorem dL_ofDay_21 : decode cL_ofDay 21 = .ok (.iconst 2, 1) := by decide +kernel
theorem dL_ofDay_22 : decode cL_ofDay 22 = .ok (.ireturn, 1) := by decide +kernel
theorem dL_ofDay_23 : decode cL_ofDay 23 = .ok (.iconst 0, 1) := by decide +kernel
theorem dL_ofDay_24 : decode cL_ofDay 24 = .ok (.ireturn, 1) := by decide +kernel
set_option maxRecDepth 20000 in
theorem gL_ofLeg_X8_ofLeg : GoodIn wsL_ofLeg (wsV RL 63 RX8 yX8_ofLeg wsX8_ofLeg) := goodIn_sub (fun w h => List.mem_cons_of_mem _ (List.mem_append_right _ h)) (by decide +kernel)
theorem dL_ofLeg_0 : decode cL_ofLeg 0 = .ok (.aload 5, 2) := by decide +kernel
theorem dL_ofLeg_2 : decode cL_ofLeg 2 = .ok (.iconst 0, 1) := by decide +kernel
theorem dL_ofLeg_3 : decode cL_ofLeg 3 = .ok (.aload_n 0, 1) := by decide +kernel
theorem dL_ofLeg_4 : decode cL_ofLeg 4 = .ok (.iload_n 1, 1) := by decide +kernel
theorem dL_ofLeg_5 : decode cL_ofLeg 5 = .ok (.iload_n 2, 1) := by decide +kernel
theorem dL_ofLeg_6 : decode cL_ofLeg 6 = .ok (.iload_n 3, 1) := by decide +kernel
theorem dL_ofLeg_7 : decode cL_ofLeg 7 = .ok (.iload 4, 2) := by decide +kernel
theorem dL_ofLeg_9 : decode cL_ofLeg 9 = .ok (.invokevirtual 63, 3) := by decide +kernel
theorem dL_ofLeg_12 : decode cL_ofLeg 12 = .ok (.i2l, 1) := by decide +kernel
theorem dL_ofLeg_13 : decode cL_ofLeg 13 = .ok (.lastore, 1) := by decide +kernel
theorem dL_ofLeg_14 : decode cL_ofLeg 14 = .ok (.goto 11, 3) := by decide +kernel
theorem dL_ofLeg_17 : decode cL_ofLeg 17 = .ok (.astore 6, 2) := by decide +kernel
theorem dL_ofLeg_19 : decode cL_ofLeg 19 = .ok (.iconst 1, 1) := by decide +kernel
theorem dL_ofLeg_20 : decode cL_ofLeg 20 = .ok (.ireturn, 1) := by decide +kernel
theorem dL_ofLeg_21 : decode cL_ofLeg 21 = .ok (.astore 6, 2) := by decide +kernel
theorem dL_ofLeg_23 : decode cL_ofLeg 23 = .ok (.iconst 2, 1) := by decide +kernel
theorem dL_ofLeg_24 : decode cL_ofLeg 24 = .ok (.ireturn, 1) := by decide +kernel
theorem dL_ofLeg_25 : decode cL_ofLeg 25 = .ok (.iconst 0, 1) := by decide +kernel
theorem dL_ofLeg_26 : decode cL_ofLeg 26 = .ok (.ireturn, 1) := by decide +kernel
set_option maxRecDepth 20000 in
theorem gL_ofJourney_X8_ofJourney : GoodIn wsL_ofJourney (wsV RL 67 RX8 yX8_ofJourney wsX8_ofJourney) := goodIn_sub (fun w h => List.mem_cons_of_mem _ (List.mem_append_right _ h)) (by decide +kernel)
theorem dL_ofJourney_0 : decode cL_ofJourney 0 = .ok (.aload 5, 2) := by decide +kernel
theorem dL_ofJourney_2 : decode cL_ofJourney 2 = .ok (.iconst 0, 1) := by decide +kernel
theorem dL_ofJourney_3 : decode cL_ofJourney 3 = .ok (.aload_n 0, 1) := by decide +kernel
theorem dL_ofJourney_4 : decode cL_ofJourney 4 = .ok (.iload_n 1, 1) := by decide +kernel
theorem dL_ofJourney_5 : decode cL_ofJourney 5 = .ok (.iload_n 2, 1) := by decide +kernel
theorem dL_ofJourney_6 : decode cL_ofJourney 6 = .ok (.iload_n 3, 1) := by decide +kernel
theorem dL_ofJourney_7 : decode cL_ofJourney 7 = .ok (.iload 4, 2) := by decide +kernel
theorem dL_ofJourney_9 : decode cL_ofJourney 9 = .ok (.invokevirtual 67, 3) := by decide +kernel
theorem dL_ofJourney_12 : decode cL_ofJourney 12 = .ok (.i2l, 1) := by decide +kernel
theorem dL_ofJourney_13 : decode cL_ofJourney 13 = .ok (.lastore, 1) := by decide +kernel
theorem dL_ofJourney_14 : decode cL_ofJourney 14 = .ok (.goto 11, 3) := by decide +kernel
theorem dL_ofJourney_17 : decode cL_ofJourney 17 = .ok (.astore 6, 2) := by decide +kernel
theorem dL_ofJourney_19 : decode cL_ofJourney 19 = .ok (.iconst 1, 1) := by decide +kernel
theorem dL_ofJourney_20 : decode cL_ofJourney 20 = .ok (.ireturn, 1) := by decide +kernel
theorem dL_ofJourney_21 : decode cL_ofJourney 21 = .ok (.astore 6, 2) := by decide +kernel
theorem dL_ofJourney_23 : decode cL_ofJourney 23 = .ok (.iconst 2, 1) := by decide +kernel
theorem dL_ofJourney_24 : decode cL_ofJourney 24 = .ok (.ireturn, 1) := by decide +kernel
theorem dL_ofJourney_25 : decode cL_ofJourney 25 = .ok (.iconst 0, 1) := by decide +kernel
theorem dL_ofJourney_26 : decode cL_ofJourney 26 = .ok (.ireturn, 1) := by decide +kernel
set_option maxRecDepth 20000 in
theorem gL_ofWeek_X8_ofWeek : GoodIn wsL_ofWeek (wsV RL 70 RX8 yX8_ofWeek wsX8_ofWeek) := goodIn_sub (fun w h => List.mem_cons_of_mem _ (List.mem_append_right _ h)) (by decide +kernel)
theorem dL_ofWeek_0 : decode cL_ofWeek 0 = .ok (.aload 4, 2) := by decide +kernel
theorem dL_ofWeek_2 : decode cL_ofWeek 2 = .ok (.iconst 0, 1) := by decide +kernel
theorem dL_ofWeek_3 : decode cL_ofWeek 3 = .ok (.aload_n 0, 1) := by decide +kernel
theorem dL_ofWeek_4 : decode cL_ofWeek 4 = .ok (.iload_n 1, 1) := by decide +kernel
theorem dL_ofWeek_5 : decode cL_ofWeek 5 = .ok (.iload_n 2, 1) := by decide +kernel
theorem dL_ofWeek_6 : decode cL_ofWeek 6 = .ok (.iload_n 3, 1) := by decide +kernel
theorem dL_ofWeek_7 : decode cL_ofWeek 7 = .ok (.invokevirtual 70, 3) := by decide +kernel
theorem dL_ofWeek_10 : decode cL_ofWeek 10 = .ok (.i2l, 1) := by decide +kernel
theorem dL_ofWeek_11 : decode cL_ofWeek 11 = .ok (.lastore, 1) := by decide +kernel
theorem dL_ofWeek_12 : decode cL_ofWeek 12 = .ok (.goto 11, 3) := by decide +kernel
theorem dL_ofWeek_15 : decode cL_ofWeek 15 = .ok (.astore 5, 2) := by decide +kernel
theorem dL_ofWeek_17 : decode cL_ofWeek 17 = .ok (.iconst 1, 1) := by decide +kernel
theorem dL_ofWeek_18 : decode cL_ofWeek 18 = .ok (.ireturn, 1) := by decide +kernel
theorem dL_ofWeek_19 : decode cL_ofWeek 19 = .ok (.astore 5, 2) := by decide +kernel
theorem dL_ofWeek_21 : decode cL_ofWeek 21 = .ok (.iconst 2, 1) := by decide +kernel
theorem dL_ofWeek_22 : decode cL_ofWeek 22 = .ok (.ireturn, 1) := by decide +kernel
theorem dL_ofWeek_23 : decode cL_ofWeek 23 = .ok (.iconst 0, 1) := by decide +kernel
theorem dL_ofWeek_24 : decode cL_ofWeek 24 = .ok (.ireturn, 1) := by decide +kernel
set_option maxRecDepth 20000 in
theorem gL_share_X8_share : GoodIn wsL_share (wsV RL 73 RX8 yX8_share wsX8_share) := goodIn_sub (fun w h => List.mem_cons_of_mem _ (List.mem_append_right _ h)) (by decide +kernel)
theorem dL_share_0 : decode cL_share 0 = .ok (.aload 4, 2) := by decide +kernel
theorem dL_share_2 : decode cL_share 2 = .ok (.iconst 0, 1) := by decide +kernel
theorem dL_share_3 : decode cL_share 3 = .ok (.aload_n 0, 1) := by decide +kernel
theorem dL_share_4 : decode cL_share 4 = .ok (.iload_n 1, 1) := by decide +kernel
theorem dL_share_5 : decode cL_share 5 = .ok (.iload_n 2, 1) := by decide +kernel
theorem dL_share_6 : decode cL_share 6 = .ok (.iload_n 3, 1) := by decide +kernel
theorem dL_share_7 : decode cL_share 7 = .ok (.invokevirtual 73, 3) := by decide +kernel
theorem dL_share_10 : decode cL_share 10 = .ok (.i2l, 1) := by decide +kernel
theorem dL_share_11 : decode cL_share 11 = .ok (.lastore, 1) := by decide +kernel
theorem dL_share_12 : decode cL_share 12 = .ok (.goto 7, 3) := by decide +kernel
theorem dL_share_15 : decode cL_share 15 = .ok (.astore 5, 2) := by decide +kernel
theorem dL_share_17 : decode cL_share 17 = .ok (.iconst 1, 1) := by decide +kernel
theorem dL_share_18 : decode cL_share 18 = .ok (.ireturn, 1) := by decide +kernel
theorem dL_share_19 : decode cL_share 19 = .ok (.iconst 0, 1) := by decide +kernel
theorem dL_share_20 : decode cL_share 20 = .ok (.ireturn, 1) := by decide +kernel
set_option maxRecDepth 20000 in
theorem gL_check_X8_check : GoodIn wsL_check (wsV RL 76 RX8 yX8_check wsX8_check) := goodIn_sub (fun w h => List.mem_cons_of_mem _ (List.mem_append_right _ h)) (by decide +kernel)
theorem dL_check_0 : decode cL_check 0 = .ok (.aload 4, 2) := by decide +kernel
theorem dL_check_2 : decode cL_check 2 = .ok (.iconst 0, 1) := by decide +kernel
theorem dL_check_3 : decode cL_check 3 = .ok (.aload_n 0, 1) := by decide +kernel
theorem dL_check_4 : decode cL_check 4 = .ok (.iload_n 1, 1) := by decide +kernel
theorem dL_check_5 : decode cL_check 5 = .ok (.iload_n 2, 1) := by decide +kernel
theorem dL_check_6 : decode cL_check 6 = .ok (.iload_n 3, 1) := by decide +kernel
theorem dL_check_7 : decode cL_check 7 = .ok (.invokevirtual 76, 3) := by decide +kernel
theorem dL_check_10 : decode cL_check 10 = .ok (.i2l, 1) := by decide +kernel
theorem dL_check_11 : decode cL_check 11 = .ok (.lastore, 1) := by decide +kernel
theorem dL_check_12 : decode cL_check 12 = .ok (.goto 11, 3) := by decide +kernel
theorem dL_check_15 : decode cL_check 15 = .ok (.astore 5, 2) := by decide +kernel
theorem dL_check_17 : decode cL_check 17 = .ok (.iconst 1, 1) := by decide +kernel
theorem dL_check_18 : decode cL_check 18 = .ok (.ireturn, 1) := by decide +kernel
theorem dL_check_19 : decode cL_check 19 = .ok (.astore 5, 2) := by decide +kernel
theorem dL_check_21 : decode cL_check 21 = .ok (.iconst 2, 1) := by decide +kernel
theorem dL_check_22 : decode cL_check 22 = .ok (.ireturn, 1) := by decide +kernel
theorem dL_check_23 : decode cL_check 23 = .ok (.iconst 0, 1) := by decide +kernel
theorem dL_check_24 : decode cL_check 24 = .ok (.ireturn, 1) := by decide +kernel
set_option maxRecDepth 20000 in
theorem gL_many_X8_many : GoodIn wsL_many (wsV RL 79 RX8 yX8_many wsX8_many) := goodIn_sub (fun w h => List.mem_cons_of_mem _ (List.mem_append_right _ h)) (by decide +kernel)
theorem dL_many_0 : decode cL_many 0 = .ok (.aload_n 2, 1) := by decide +kernel
theorem dL_many_1 : decode cL_many 1 = .ok (.iconst 0, 1) := by decide +kernel
theorem dL_many_2 : decode cL_many 2 = .ok (.aload_n 0, 1) := by decide +kernel
theorem dL_many_3 : decode cL_many 3 = .ok (.iload_n 1, 1) := by decide +kernel
theorem dL_many_4 : decode cL_many 4 = .ok (.invokevirtual 79, 3) := by decide +kernel
theorem dL_many_7 : decode cL_many 7 = .ok (.i2l, 1) := by decide +kernel
theorem dL_many_8 : decode cL_many 8 = .ok (.lastore, 1) := by decide +kernel
theorem dL_many_9 : decode cL_many 9 = .ok (.goto 6, 3) := by decide +kernel
theorem dL_many_12 : decode cL_many 12 = .ok (.astore_n 3, 1) := by decide +kernel
theorem dL_many_13 : decode cL_many 13 = .ok (.iconst 1, 1) := by decide +kernel
theorem dL_many_14 : decode cL_many 14 = .ok (.ireturn, 1) := by decide +kernel
theorem dL_many_15 : decode cL_many 15 = .ok (.iconst 0, 1) := by decide +kernel
theorem dL_many_16 : decode cL_many 16 = .ok (.ireturn, 1) := by decide +kernel
set_option maxRecDepth 20000 in
theorem gL_meanFare_X8_meanFare : GoodIn wsL_meanFare (wsV RL 83 RX8 yX8_meanFare wsX8_meanFare) := goodIn_sub (fun w h => List.mem_cons_of_mem _ (List.mem_append_right _ h)) (by decide +kernel)
theorem dL_meanFare_0 : decode cL_meanFare 0 = .ok (.aload_n 2, 1) := by decide +kernel
theorem dL_meanFare_1 : decode cL_meanFare 1 = .ok (.iconst 0, 1) := by decide +kernel
theorem dL_meanFare_2 : decode cL_meanFare 2 = .ok (.aload_n 0, 1) := by decide +kernel
theorem dL_meanFare_3 : decode cL_meanFare 3 = .ok (.iload_n 1, 1) := by decide +kernel
theorem dL_meanFare_4 : decode cL_meanFare 4 = .ok (.invokevirtual 83, 3) := by decide +kernel
theorem dL_meanFare_7 : decode cL_meanFare 7 = .ok (.dastore, 1) := by decide +kernel
theorem dL_meanFare_8 : decode cL_meanFare 8 = .ok (.goto 6, 3) := by decide +kernel
theorem dL_meanFare_11 : decode cL_meanFare 11 = .ok (.astore_n 3, 1) := by decide +kernel
theorem dL_meanFare_12 : decode cL_meanFare 12 = .ok (.iconst 1, 1) := by decide +kernel
theorem dL_meanFare_13 : decode cL_meanFare 13 = .ok (.ireturn, 1) := by decide +kernel
theorem dL_meanFare_14 : decode cL_meanFare 14 = .ok (.iconst 0, 1) := by decide +kernel
theorem dL_meanFare_15 : decode cL_meanFare 15 = .ok (.ireturn, 1) := by decide +kernel
set_option maxRecDepth 20000 in
theorem gL_wouldCost_X8_wouldCost : GoodIn wsL_wouldCost (wsV RL 87 RX8 yX8_wouldCost wsX8_wouldCost) := goodIn_sub (fun w h => List.mem_cons_of_mem _ (List.mem_append_right _ h)) (by decide +kernel)
theorem dL_wouldCost_0 : decode cL_wouldCost 0 = .ok (.aload 7, 2) := by decide +kernel
theorem dL_wouldCost_2 : decode cL_wouldCost 2 = .ok (.iconst 0, 1) := by decide +kernel
theorem dL_wouldCost_3 : decode cL_wouldCost 3 = .ok (.aload_n 0, 1) := by decide +kernel
theorem dL_wouldCost_4 : decode cL_wouldCost 4 = .ok (.iload_n 1, 1) := by decide +kernel
theorem dL_wouldCost_5 : decode cL_wouldCost 5 = .ok (.iload_n 2, 1) := by decide +kernel
theorem dL_wouldCost_6 : decode cL_wouldCost 6 = .ok (.iload_n 3, 1) := by decide +kernel
theorem dL_wouldCost_7 : decode cL_wouldCost 7 = .ok (.iload 4, 2) := by decide +kernel
theorem dL_wouldCost_9 : decode cL_wouldCost 9 = .ok (.iload 5, 2) := by decide +kernel
theorem dL_wouldCost_11 : decode cL_wouldCost 11 = .ok (.iload 6, 2) := by decide +kernel
theorem dL_wouldCost_13 : decode cL_wouldCost 13 = .ok (.invokevirtual 87, 3) := by decide +kernel
theorem dL_wouldCost_16 : decode cL_wouldCost 16 = .ok (.i2l, 1) := by decide +kernel
theorem dL_wouldCost_17 : decode cL_wouldCost 17 = .ok (.lastore, 1) := by decide +kernel
theorem dL_wouldCost_18 : decode cL_wouldCost 18 = .ok (.goto 11, 3) := by decide +kernel
theorem dL_wouldCost_21 : decode cL_wouldCost 21 = .ok (.astore 8, 2) := by decide +kernel
theorem dL_wouldCost_23 : decode cL_wouldCost 23 = .ok (.iconst 1, 1) := by decide +kernel
theorem dL_wouldCost_24 : decode cL_wouldCost 24 = .ok (.ireturn, 1) := by decide +kernel
theorem dL_wouldCost_25 : decode cL_wouldCost 25 = .ok (.astore 8, 2) := by decide +kernel
theorem dL_wouldCost_27 : decode cL_wouldCost 27 = .ok (.iconst 2, 1) := by decide +kernel
theorem dL_wouldCost_28 : decode cL_wouldCost 28 = .ok (.ireturn, 1) := by decide +kernel
theorem dL_wouldCost_29 : decode cL_wouldCost 29 = .ok (.iconst 0, 1) := by decide +kernel
theorem dL_wouldCost_30 : decode cL_wouldCost 30 = .ok (.ireturn, 1) := by decide +kernel
set_option maxRecDepth 20000 in
theorem gL_guess_X8_guess : GoodIn wsL_guess (wsV RL 90 RX8 yX8_guess wsX8_guess) := goodIn_sub (fun w h => List.mem_cons_of_mem _ (List.mem_append_right _ h)) (by decide +kernel)
theorem dL_guess_0 : decode cL_guess 0 = .ok (.aload 5, 2) := by decide +kernel
theorem dL_guess_2 : decode cL_guess 2 = .ok (.iconst 0, 1) := by decide +kernel
theorem dL_guess_3 : decode cL_guess 3 = .ok (.aload_n 0, 1) := by decide +kernel
theorem dL_guess_4 : decode cL_guess 4 = .ok (.iload_n 1, 1) := by decide +kernel
theorem dL_guess_5 : decode cL_guess 5 = .ok (.iload_n 2, 1) := by decide +kernel
theorem dL_guess_6 : decode cL_guess 6 = .ok (.iload_n 3, 1) := by decide +kernel
theorem dL_guess_7 : decode cL_guess 7 = .ok (.iload 4, 2) := by decide +kernel
theorem dL_guess_9 : decode cL_guess 9 = .ok (.invokevirtual 90, 3) := by decide +kernel
theorem dL_guess_12 : decode cL_guess 12 = .ok (.i2l, 1) := by decide +kernel
theorem dL_guess_13 : decode cL_guess 13 = .ok (.lastore, 1) := by decide +kernel
theorem dL_guess_14 : decode cL_guess 14 = .ok (.goto 7, 3) := by decide +kernel
theorem dL_guess_17 : decode cL_guess 17 = .ok (.astore 6, 2) := by decide +kernel
theorem dL_guess_19 : decode cL_guess 19 = .ok (.iconst 1, 1) := by decide +kernel
theorem dL_guess_20 : decode cL_guess 20 = .ok (.ireturn, 1) := by decide +kernel
theorem dL_guess_21 : decode cL_guess 21 = .ok (.iconst 0, 1) := by decide +kernel
theorem dL_guess_22 : decode cL_guess 22 = .ok (.ireturn, 1) := by decide +kernel
set_option maxRecDepth 20000 in
theorem gL_worth_X8_worth : GoodIn wsL_worth (wsV RL 94 RX8 yX8_worth wsX8_worth) := goodIn_sub (fun w h => List.mem_cons_of_mem _ (List.mem_append_right _ h)) (by decide +kernel)
theorem dL_worth_0 : decode cL_worth 0 = .ok (.aload 4, 2) := by decide +kernel
theorem dL_worth_2 : decode cL_worth 2 = .ok (.iconst 0, 1) := by decide +kernel
theorem dL_worth_3 : decode cL_worth 3 = .ok (.aload_n 0, 1) := by decide +kernel
theorem dL_worth_4 : decode cL_worth 4 = .ok (.iload_n 1, 1) := by decide +kernel
theorem dL_worth_5 : decode cL_worth 5 = .ok (.iload_n 2, 1) := by decide +kernel
theorem dL_worth_6 : decode cL_worth 6 = .ok (.iload_n 3, 1) := by decide +kernel
theorem dL_worth_7 : decode cL_worth 7 = .ok (.invokevirtual 94, 3) := by decide +kernel
theorem dL_worth_10 : decode cL_worth 10 = .ok (.i2l, 1) := by decide +kernel
theorem dL_worth_11 : decode cL_worth 11 = .ok (.lastore, 1) := by decide +kernel
theorem dL_worth_12 : decode cL_worth 12 = .ok (.goto 11, 3) := by decide +kernel
theorem dL_worth_15 : decode cL_worth 15 = .ok (.astore 5, 2) := by decide +kernel
theorem dL_worth_17 : decode cL_worth 17 = .ok (.iconst 1, 1) := by decide +kernel
theorem dL_worth_18 : decode cL_worth 18 = .ok (.ireturn, 1) := by decide +kernel
theorem dL_worth_19 : decode cL_worth 19 = .ok (.astore 5, 2) := by decide +kernel
theorem dL_worth_21 : decode cL_worth 21 = .ok (.iconst 2, 1) := by decide +kernel
theorem dL_worth_22 : decode cL_worth 22 = .ok (.ireturn, 1) := by decide +kernel
theorem dL_worth_23 : decode cL_worth 23 = .ok (.iconst 0, 1) := by decide +kernel
theorem dL_worth_24 : decode cL_worth 24 = .ok (.ireturn, 1) := by decide +kernel
