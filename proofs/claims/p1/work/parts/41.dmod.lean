theorem dX9_thrown_0 : decode cX9_thrown 0 = .ok (.aload_n 0, 1) := by decide +kernel
theorem dX9_thrown_1 : decode cX9_thrown 1 = .ok (.getfield 39, 3) := by decide +kernel
theorem dX9_thrown_4 : decode cX9_thrown 4 = .ok (.ireturn, 1) := by decide +kernel
theorem dX9_no_0 : decode cX9_no 0 = .ok (.aload_n 0, 1) := by decide +kernel
theorem dX9_no_1 : decode cX9_no 1 = .ok (.iload_n 1, 1) := by decide +kernel
theorem dX9_no_2 : decode cX9_no 2 = .ok (.putfield 39, 3) := by decide +kernel
theorem dX9_no_5 : decode cX9_no 5 = .ok (.iconst 0, 1) := by decide +kernel
theorem dX9_no_6 : decode cX9_no 6 = .ok (.ireturn, 1) := by decide +kernel
theorem dX9_in_0 : decode cX9_in 0 = .ok (.iload_n 0, 1) := by decide +kernel
theorem dX9_in_1 : decode cX9_in 1 = .ok (.iload_n 1, 1) := by decide +kernel
theorem dX9_in_2 : decode cX9_in 2 = .ok (.if_icmp .lt 12, 3) := by decide +kernel
theorem dX9_in_5 : decode cX9_in 5 = .ok (.iload_n 0, 1) := by decide +kernel
theorem dX9_in_6 : decode cX9_in 6 = .ok (.iload_n 2, 1) := by decide +kernel
theorem dX9_in_7 : decode cX9_in 7 = .ok (.if_icmp .gt 7, 3) := by decide +kernel
theorem dX9_in_10 : decode cX9_in 10 = .ok (.iconst 1, 1) := by decide +kernel
theorem dX9_in_11 : decode cX9_in 11 = .ok (.goto 4, 3) := by decide +kernel
theorem dX9_in_14 : decode cX9_in 14 = .ok (.iconst 0, 1) := by decide +kernel
theorem dX9_in_15 : decode cX9_in 15 = .ok (.ireturn, 1) := by decide +kernel
set_option maxRecDepth 20000 in
theorem ggX9_isCard_X9_in : GoodIn wsX9_isCard wsX9_in := goodIn_r _ [5] (by decide +kernel) (by decide +kernel)
set_option maxRecDepth 20000 in
theorem gX9_isCard_X9_in : GoodIn wsX9_isCard (va_wsS RX9 45 yX9_in wsX9_in) := goodIn_app (goodIn_of _ (by decide +kernel)) ggX9_isCard_X9_in
theorem dX9_isCard_0 : decode cX9_isCard 0 = .ok (.iload_n 1, 1) := by decide +kernel
theorem dX9_isCard_1 : decode cX9_isCard 1 = .ok (.iconst 0, 1) := by decide +kernel
theorem dX9_isCard_2 : decode cX9_isCard 2 = .ok (.aload_n 0, 1) := by decide +kernel
theorem dX9_isCard_3 : decode cX9_isCard 3 = .ok (.getfield 42, 3) := by decide +kernel
theorem dX9_isCard_6 : decode cX9_isCard 6 = .ok (.iconst 1, 1) := by decide +kernel
theorem dX9_isCard_7 : decode cX9_isCard 7 = .ok (.isub, 1) := by decide +kernel
theorem dX9_isCard_8 : decode cX9_isCard 8 = .ok (.invokestatic 45, 3) := by decide +kernel
theorem dX9_isCard_11 : decode cX9_isCard 11 = .ok (.ireturn, 1) := by decide +kernel
set_option maxRecDepth 20000 in
theorem ggX9_isPerson_X9_isCard : GoodIn wsX9_isPerson wsX9_isCard := goodIn_r _ [6, 7, 8, 9, 5, 10, 11, 12, 13, 14, 15, 16, 17, 18, 19, 20, 21, 22, 23, 24, 25, 26] (by decide +kernel) (by decide +kernel)
set_option maxRecDepth 20000 in
theorem gX9_isPerson_X9_isCard : GoodIn wsX9_isPerson (wsV RX9 49 RX9 yX9_isCard wsX9_isCard) := goodIn_app (goodIn_of _ (by decide +kernel)) ggX9_isPerson_X9_isCard
theorem dX9_isPerson_0 : decode cX9_isPerson 0 = .ok (.aload_n 0, 1) := by decide +kernel
theorem dX9_isPerson_1 : decode cX9_isPerson 1 = .ok (.iload_n 1, 1) := by decide +kernel
theorem dX9_isPerson_2 : decode cX9_isPerson 2 = .ok (.invokevirtual 49, 3) := by decide +kernel
theorem dX9_isPerson_5 : decode cX9_isPerson 5 = .ok (.ifCond .eq 19, 3) := by decide +kernel
theorem dX9_isPerson_8 : decode cX9_isPerson 8 = .ok (.aload_n 0, 1) := by decide +kernel
theorem dX9_isPerson_9 : decode cX9_isPerson 9 = .ok (.getfield 26, 3) := by decide +kernel
theorem dX9_isPerson_12 : decode cX9_isPerson 12 = .ok (.iload_n 1, 1) := by decide +kernel
theorem dX9_isPerson_13 : decode cX9_isPerson 13 = .ok (.aaload, 1) := by decide +kernel
theorem dX9_isPerson_14 : decode cX9_isPerson 14 = .ok (.iconst 1, 1) := by decide +kernel
theorem dX9_isPerson_15 : decode cX9_isPerson 15 = .ok (.iaload, 1) := by decide +kernel
theorem dX9_isPerson_16 : decode cX9_isPerson 16 = .ok (.iload_n 1, 1) := by decide +kernel
theorem dX9_isPerson_17 : decode cX9_isPerson 17 = .ok (.if_icmp .ne 7, 3) := by decide +kernel
theorem dX9_isPerson_20 : decode cX9_isPerson 20 = .ok (.iconst 1, 1) := by decide +kernel
theorem dX9_isPerson_21 : decode cX9_isPerson 21 = .ok (.goto 4, 3) := by decide +kernel
theorem dX9_isPerson_24 : decode cX9_isPerson 24 = .ok (.iconst 0, 1) := by decide +kernel
theorem dX9_isPerson_25 : decode cX9_isPerson 25 = .ok (.ireturn, 1) := by decide +kernel
set_option maxRecDepth 20000 in
theorem ggX9_zone_X9_in : GoodIn wsX9_zone wsX9_in := goodIn_r _ [6] (by decide +kernel) (by decide +kernel)
set_option maxRecDepth 20000 in
theorem gX9_zone_X9_in : GoodIn wsX9_zone (va_wsS RX9 45 yX9_in wsX9_in) := goodIn_app (goodIn_of _ (by decide +kernel)) ggX9_zone_X9_in
set_option maxRecDepth 20000 in
theorem ggX9_zone_X9_no : GoodIn wsX9_zone wsX9_no := goodIn_r _ [10, 1, 11, 12, 13, 14, 15, 16, 17, 18, 19, 20, 21, 22, 23, 24, 25, 26] (by decide +kernel) (by decide +kernel)
set_option maxRecDepth 20000 in
theorem gX9_zone_X9_no : GoodIn wsX9_zone (wsV RX9 108 RX9 yX9_no wsX9_no) := goodIn_app (goodIn_of _ (by decide +kernel)) ggX9_zone_X9_no
theorem dX9_zone_0 : decode cX9_zone 0 = .ok (.aload_n 0, 1) := by decide +kernel
theorem dX9_zone_1 : decode cX9_zone 1 = .ok (.iconst 0, 1) := by decide +kernel
theorem dX9_zone_2 : decode cX9_zone 2 = .ok (.putfield 39, 3) := by decide +kernel
theorem dX9_zone_5 : decode cX9_zone 5 = .ok (.iload_n 1, 1) := by decide +kernel
theorem dX9_zone_6 : decode cX9_zone 6 = .ok (.iconst 0, 1) := by decide +kernel
theorem dX9_zone_7 : decode cX9_zone 7 = .ok (.bipush 9, 2) := by decide +kernel
theorem dX9_zone_9 : decode cX9_zone 9 = .ok (.invokestatic 45, 3) := by decide +kernel
theorem dX9_zone_12 : decode cX9_zone 12 = .ok (.ifCond .ne 9, 3) := by decide +kernel
theorem dX9_zone_15 : decode cX9_zone 15 = .ok (.aload_n 0, 1) := by decide +kernel
theorem dX9_zone_16 : decode cX9_zone 16 = .ok (.iconst 1, 1) := by decide +kernel
theorem dX9_zone_17 : decode cX9_zone 17 = .ok (.invokevirtual 108, 3) := by decide +kernel
theorem dX9_zone_20 : decode cX9_zone 20 = .ok (.ireturn, 1) := by decide +kernel
theorem dX9_zone_21 : decode cX9_zone 21 = .ok (.iload_n 2, 1) := by decide +kernel
theorem dX9_zone_22 : decode cX9_zone 22 = .ok (.iconst 1, 1) := by decide +kernel
theorem dX9_zone_23 : decode cX9_zone 23 = .ok (.iconst 4, 1) := by decide +kernel
theorem dX9_zone_24 : decode cX9_zone 24 = .ok (.invokestatic 45, 3) := by decide +kernel
theorem dX9_zone_27 : decode cX9_zone 27 = .ok (.ifCond .ne 9, 3) := by decide +kernel
theorem dX9_zone_30 : decode cX9_zone 30 = .ok (.aload_n 0, 1) := by decide +kernel
theorem dX9_zone_31 : decode cX9_zone 31 = .ok (.iconst 2, 1) := by decide +kernel
theorem dX9_zone_32 : decode cX9_zone 32 = .ok (.invokevirtual 108, 3) := by decide +kernel
theorem dX9_zone_35 : decode cX9_zone 35 = .ok (.ireturn, 1) := by decide +kernel
theorem dX9_zone_36 : decode cX9_zone 36 = .ok (.aload_n 0, 1) := by decide +kernel
theorem dX9_zone_37 : decode cX9_zone 37 = .ok (.getfield 7, 3) := by decide +kernel
theorem dX9_zone_40 : decode cX9_zone 40 = .ok (.iload_n 1, 1) := by decide +kernel
theorem dX9_zone_41 : decode cX9_zone 41 = .ok (.iaload, 1) := by decide +kernel
theorem dX9_zone_42 : decode cX9_zone 42 = .ok (.istore_n 3, 1) := by decide +kernel
theorem dX9_zone_43 : decode cX9_zone 43 = .ok (.aload_n 0, 1) := by decide +kernel
theorem dX9_zone_44 : decode cX9_zone 44 = .ok (.getfield 7, 3) := by decide +kernel
theorem dX9_zone_47 : decode cX9_zone 47 = .ok (.iload_n 1, 1) := by decide +kernel
theorem dX9_zone_48 : decode cX9_zone 48 = .ok (.iload_n 2, 1) := by decide +kernel
theorem dX9_zone_49 : decode cX9_zone 49 = .ok (.iastore, 1) := by decide +kernel
theorem dX9_zone_50 : decode cX9_zone 50 = .ok (.iload_n 3, 1) := by decide +kernel
theorem dX9_zone_51 : decode cX9_zone 51 = .ok (.ireturn, 1) := by decide +kernel
set_option maxRecDepth 20000 in
theorem ggX9_carrier_X9_in : GoodIn wsX9_carrier wsX9_in := goodIn_r _ [6] (by decide +kernel) (by decide +kernel)
set_option maxRecDepth 20000 in
theorem gX9_carrier_X9_in : GoodIn wsX9_carrier (va_wsS RX9 45 yX9_in wsX9_in) := goodIn_app (goodIn_of _ (by decide +kernel)) ggX9_carrier_X9_in
set_option maxRecDepth 20000 in
theorem ggX9_carrier_X9_no : GoodIn wsX9_carrier wsX9_no := goodIn_r _ [10, 1, 11, 12, 13, 14, 15, 16, 17, 18, 19, 20, 21, 22, 23, 24, 25, 26] (by decide +kernel) (by decide +kernel)
set_option maxRecDepth 20000 in
theorem gX9_carrier_X9_no : GoodIn wsX9_carrier (wsV RX9 108 RX9 yX9_no wsX9_no) := goodIn_app (goodIn_of _ (by decide +kernel)) ggX9_carrier_X9_no
theorem dX9_carrier_0 : decode cX9_carrier 0 = .ok (.aload_n 0, 1) := by decide +kernel
theorem dX9_carrier_1 : decode cX9_carrier 1 = .ok (.iconst 0, 1) := by decide +kernel
theorem dX9_carrier_2 : decode cX9_carrier 2 = .ok (.putfield 39, 3) := by decide +kernel
theorem dX9_carrier_5 : decode cX9_carrier 5 = .ok (.iload_n 1, 1) := by decide +kernel
theorem dX9_carrier_6 : decode cX9_carrier 6 = .ok (.iconst 0, 1) := by decide +kernel
theorem dX9_carrier_7 : decode cX9_carrier 7 = .ok (.iconst 5, 1) := by decide +kernel
theorem dX9_carrier_8 : decode cX9_carrier 8 = .ok (.invokestatic 45, 3) := by decide +kernel
theorem dX9_carrier_11 : decode cX9_carrier 11 = .ok (.ifCond .eq 12, 3) := by decide +kernel
theorem dX9_carrier_14 : decode cX9_carrier 14 = .ok (.iload_n 2, 1) := by decide +kernel
theorem dX9_carrier_15 : decode cX9_carrier 15 = .ok (.iconst 0, 1) := by decide +kernel
theorem dX9_carrier_16 : decode cX9_carrier 16 = .ok (.iconst 2, 1) := by decide +kernel
theorem dX9_carrier_17 : decode cX9_carrier 17 = .ok (.invokestatic 45, 3) := by decide +kernel
theorem dX9_carrier_20 : decode cX9_carrier 20 = .ok (.ifCond .ne 9, 3) := by decide +kernel
theorem dX9_carrier_23 : decode cX9_carrier 23 = .ok (.aload_n 0, 1) := by decide +kernel
theorem dX9_carrier_24 : decode cX9_carrier 24 = .ok (.iconst 1, 1) := by decide +kernel
theorem dX9_carrier_25 : decode cX9_carrier 25 = .ok (.invokevirtual 108, 3) := by decide +kernel
theorem dX9_carrier_28 : decode cX9_carrier 28 = .ok (.ireturn, 1) := by decide +kernel
theorem dX9_carrier_29 : decode cX9_carrier 29 = .ok (.aload_n 0, 1) := by decide +kernel
theorem dX9_carrier_30 : decode cX9_carrier 30 = .ok (.getfield 13, 3) := by decide +kernel
theorem dX9_carrier_33 : decode cX9_carrier 33 = .ok (.iload_n 1, 1) := by decide +kernel
theorem dX9_carrier_34 : decode cX9_carrier 34 = .ok (.iaload, 1) := by decide +kernel
theorem dX9_carrier_35 : decode cX9_carrier 35 = .ok (.istore_n 3, 1) := by decide +kernel
theorem dX9_carrier_36 : decode cX9_carrier 36 = .ok (.aload_n 0, 1) := by decide +kernel
theorem dX9_carrier_37 : decode cX9_carrier 37 = .ok (.getfield 13, 3) := by decide +kernel
theorem dX9_carrier_40 : decode cX9_carrier 40 = .ok (.iload_n 1, 1) := by decide +kernel
theorem dX9_carrier_41 : decode cX9_carrier 41 = .ok (.iload_n 2, 1) := by decide +kernel
theorem dX9_carrier_42 : decode cX9_carrier 42 = .ok (.iastore, 1) := by decide +kernel
theorem dX9_carrier_43 : decode cX9_carrier 43 = .ok (.iload_n 3, 1) := by decide +kernel
theorem dX9_carrier_44 : decode cX9_carrier 44 = .ok (.ireturn, 1) := by decide +kernel
set_option maxRecDepth 20000 in
theorem ggX9_isDay_X9_in : GoodIn wsX9_isDay wsX9_in := goodIn_r _ [4] (by decide +kernel) (by decide +kernel)
set_option maxRecDepth 20000 in
theorem gX9_isDay_X9_in : GoodIn wsX9_isDay (va_wsS RX9 45 yX9_in wsX9_in) := goodIn_app (goodIn_of _ (by decide +kernel)) ggX9_isDay_X9_in
theorem dX9_isDay_0 : decode cX9_isDay 0 = .ok (.iload_n 0, 1) := by decide +kernel
theorem dX9_isDay_1 : decode cX9_isDay 1 = .ok (.iconst 0, 1) := by decide +kernel
theorem dX9_isDay_2 : decode cX9_isDay 2 = .ok (.bipush 27, 2) := by decide +kernel
theorem dX9_isDay_4 : decode cX9_isDay 4 = .ok (.invokestatic 45, 3) := by decide +kernel
theorem dX9_isDay_7 : decode cX9_isDay 7 = .ok (.ireturn, 1) := by decide +kernel
set_option maxRecDepth 20000 in
theorem ggX9_tariff__X9_isDay : GoodIn wsX9_tariff_ wsX9_isDay := goodIn_r _ [13, 14, 15, 12, 16] (by decide +kernel) (by decide +kernel)
set_option maxRecDepth 20000 in
theorem gX9_tariff__X9_isDay : GoodIn wsX9_tariff_ (va_wsS RX9 112 yX9_isDay wsX9_isDay) := goodIn_app (goodIn_of _ (by decide +kernel)) ggX9_tariff__X9_isDay
set_option maxRecDepth 20000 in
theorem ggX9_tariff__X9_in : GoodIn wsX9_tariff_ wsX9_in := goodIn_r _ [16] (by decide +kernel) (by decide +kernel)
set_option maxRecDepth 20000 in
theorem gX9_tariff__X9_in : GoodIn wsX9_tariff_ (va_wsS RX9 45 yX9_in wsX9_in) := goodIn_app (goodIn_of _ (by decide +kernel)) ggX9_tariff__X9_in
set_option maxRecDepth 20000 in
theorem ggX9_tariff__X9_no : GoodIn wsX9_tariff_ wsX9_no := goodIn_r _ [20, 1, 21, 22, 23, 24, 25, 26, 27, 28, 29, 30, 31, 32, 33, 34, 35, 36] (by decide +kernel) (by decide +kernel)
set_option maxRecDepth 20000 in
theorem gX9_tariff__X9_no : GoodIn wsX9_tariff_ (wsV RX9 108 RX9 yX9_no wsX9_no) := goodIn_app (goodIn_of _ (by decide +kernel)) ggX9_tariff__X9_no
theorem dX9_tariff__0 : decode cX9_tariff_ 0 = .ok (.aload_n 0, 1) := by decide +kernel
theorem dX9_tariff__1 : decode cX9_tariff_ 1 = .ok (.iconst 0, 1) := by decide +kernel
theorem dX9_tariff__2 : decode cX9_tariff_ 2 = .ok (.putfield 39, 3) := by decide +kernel
theorem dX9_tariff__5 : decode cX9_tariff_ 5 = .ok (.iload_n 1, 1) := by decide +kernel
theorem dX9_tariff__6 : decode cX9_tariff_ 6 = .ok (.invokestatic 112, 3) := by decide +kernel
theorem dX9_tariff__9 : decode cX9_tariff_ 9 = .ok (.ifCond .eq 45, 3) := by decide +kernel
theorem dX9_tariff__12 : decode cX9_tariff_ 12 = .ok (.iload_n 2, 1) := by decide +kernel
theorem dX9_tariff__13 : decode cX9_tariff_ 13 = .ok (.iconst 1, 1) := by decide +kernel
theorem dX9_tariff__14 : decode cX9_tariff_ 14 = .ok (.bipush 9, 2) := by decide +kernel
theorem dX9_tariff__16 : decode cX9_tariff_ 16 = .ok (.invokestatic 45, 3) := by decide +kernel
theorem dX9_tariff__19 : decode cX9_tariff_ 19 = .ok (.ifCond .eq 35, 3) := by decide +kernel
theorem dX9_tariff__22 : decode cX9_tariff_ 22 = .ok (.iload_n 3, 1) := by decide +kernel
theorem dX9_tariff__23 : decode cX9_tariff_ 23 = .ok (.iconst 0, 1) := by decide +kernel
theorem dX9_tariff__24 : decode cX9_tariff_ 24 = .ok (.iconst 5, 1) := by decide +kernel
theorem dX9_tariff__25 : decode cX9_tariff_ 25 = .ok (.invokestatic 45, 3) := by decide +kernel
theorem dX9_tariff__28 : decode cX9_tariff_ 28 = .ok (.ifCond .eq 26, 3) := by decide +kernel
theorem dX9_tariff__31 : decode cX9_tariff_ 31 = .ok (.iload 4, 2) := by decide +kernel
theorem dX9_tariff__33 : decode cX9_tariff_ 33 = .ok (.iconst 1, 1) := by decide +kernel
theorem dX9_tariff__34 : decode cX9_tariff_ 34 = .ok (.bipush 50, 2) := by decide +kernel
theorem dX9_tariff__36 : decode cX9_tariff_ 36 = .ok (.invokestatic 45, 3) := by decide +kernel
theorem dX9_tariff__39 : decode cX9_tariff_ 39 = .ok (.ifCond .eq 15, 3) := by decide +kernel
theorem dX9_tariff__42 : decode cX9_tariff_ 42 = .ok (.iload 5, 2) := by decide +kernel
theorem dX9_tariff__44 : decode cX9_tariff_ 44 = .ok (.iconst 1, 1) := by decide +kernel
theorem dX9_tariff__45 : decode cX9_tariff_ 45 = .ok (.sipush 200, 3) := by decide +kernel
theorem dX9_tariff__48 : decode cX9_tariff_ 48 = .ok (.invokestatic 45, 3) := by decide +kernel
theorem dX9_tariff__51 : decode cX9_tariff_ 51 = .ok (.ifCond .ne 9, 3) := by decide +kernel
theorem dX9_tariff__54 : decode cX9_tariff_ 54 = .ok (.aload_n 0, 1) := by decide +kernel
theorem dX9_tariff__55 : decode cX9_tariff_ 55 = .ok (.iconst 1, 1) := by decide +kernel
theorem dX9_tariff__56 : decode cX9_tariff_ 56 = .ok (.invokevirtual 108, 3) := by decide +kernel
theorem dX9_tariff__59 : decode cX9_tariff_ 59 = .ok (.ireturn, 1) := by decide +kernel
theorem dX9_tariff__60 : decode cX9_tariff_ 60 = .ok (.aload_n 0, 1) := by decide +kernel
theorem dX9_tariff__61 : decode cX9_tariff_ 61 = .ok (.getfield 21, 3) := by decide +kernel
theorem dX9_tariff__64 : decode cX9_tariff_ 64 = .ok (.bipush 6, 2) := by decide +kernel
theorem dX9_tariff__66 : decode cX9_tariff_ 66 = .ok (.if_icmp .eq 11, 3) := by decide +kernel
theorem dX9_tariff__69 : decode cX9_tariff_ 69 = .ok (.iload_n 1, 1) := by decide +kernel
theorem dX9_tariff__70 : decode cX9_tariff_ 70 = .ok (.aload_n 0, 1) := by decide +kernel
theorem dX9_tariff__71 : decode cX9_tariff_ 71 = .ok (.getfield 115, 3) := by decide +kernel
theorem dX9_tariff__74 : decode cX9_tariff_ 74 = .ok (.if_icmp .ge 9, 3) := by decide +kernel
theorem dX9_tariff__77 : decode cX9_tariff_ 77 = .ok (.aload_n 0, 1) := by decide +kernel
theorem dX9_tariff__78 : decode cX9_tariff_ 78 = .ok (.iconst 2, 1) := by decide +kernel
theorem dX9_tariff__79 : decode cX9_tariff_ 79 = .ok (.invokevirtual 108, 3) := by decide +kernel
theorem dX9_tariff__82 : decode cX9_tariff_ 82 = .ok (.ireturn, 1) := by decide +kernel
theorem dX9_tariff__83 : decode cX9_tariff_ 83 = .ok (.iconst 5, 1) := by decide +kernel
theorem dX9_tariff__84 : decode cX9_tariff_ 84 = .ok (.newarray .int, 2) := by decide +kernel
theorem dX9_tariff__86 : decode cX9_tariff_ 86 = .ok (.dup, 1) := by decide +kernel
theorem dX9_tariff__87 : decode cX9_tariff_ 87 = .ok (.iconst 0, 1) := by decide +kernel
theorem dX9_tariff__88 : decode cX9_tariff_ 88 = .ok (.iload_n 1, 1) := by decide +kernel
theorem dX9_tariff__89 : decode cX9_tariff_ 89 = .ok (.iastore, 1) := by decide +kernel
theorem dX9_tariff__90 : decode cX9_tariff_ 90 = .ok (.dup, 1) := by decide +kernel
theorem dX9_tariff__91 : decode cX9_tariff_ 91 = .ok (.iconst 1, 1) := by decide +kernel
theorem dX9_tariff__92 : decode cX9_tariff_ 92 = .ok (.iload_n 2, 1) := by decide +kernel
theorem dX9_tariff__93 : decode cX9_tariff_ 93 = .ok (.iastore, 1) := by decide +kernel
theorem dX9_tariff__94 : decode cX9_tariff_ 94 = .ok (.dup, 1) := by decide +kernel
theorem dX9_tariff__95 : decode cX9_tariff_ 95 = .ok (.iconst 2, 1) := by decide +kernel
theorem dX9_tariff__96 : decode cX9_tariff_ 96 = .ok (.iload_n 3, 1) := by decide +kernel
theorem dX9_tariff__97 : decode cX9_tariff_ 97 = .ok (.iastore, 1) := by decide +kernel
theorem dX9_tariff__98 : decode cX9_tariff_ 98 = .ok (.dup, 1) := by decide +kernel
theorem dX9_tariff__99 : decode cX9_tariff_ 99 = .ok (.iconst 3, 1) := by decide +kernel
theorem dX9_tariff__100 : decode cX9_tariff_ 100 = .ok (.iload 4, 2) := by decide +kernel
theorem dX9_tariff__102 : decode cX9_tariff_ 102 = .ok (.iastore, 1) := by decide +kernel
theorem dX9_tariff__103 : decode cX9_tariff_ 103 = .ok (.dup, 1) := by decide +kernel
theorem dX9_tariff__104 : decode cX9_tariff_ 104 = .ok (.iconst 4, 1) := by decide +kernel
theorem dX9_tariff__105 : decode cX9_tariff_ 105 = .ok (.iload 5, 2) := by decide +kernel
theorem dX9_tariff__107 : decode cX9_tariff_ 107 = .ok (.iastore, 1) := by decide +kernel
theorem dX9_tariff__108 : decode cX9_tariff_ 108 = .ok (.astore 6, 2) := by decide +kernel
theorem dX9_tariff__110 : decode cX9_tariff_ 110 = .ok (.aload 6, 2) := by decide +kernel
theorem dX9_tariff__112 : decode cX9_tariff_ 112 = .ok (.iconst 0, 1) := by decide +kernel
theorem dX9_tariff__113 : decode cX9_tariff_ 113 = .ok (.aload_n 0, 1) := by decide +kernel
theorem dX9_tariff__114 : decode cX9_tariff_ 114 = .ok (.getfield 17, 3) := by decide +kernel
theorem dX9_tariff__117 : decode cX9_tariff_ 117 = .ok (.aload_n 0, 1) := by decide +kernel
theorem dX9_tariff__118 : decode cX9_tariff_ 118 = .ok (.dup, 1) := by decide +kernel
theorem dX9_tariff__119 : decode cX9_tariff_ 119 = .ok (.getfield 21, 3) := by decide +kernel
theorem dX9_tariff__122 : decode cX9_tariff_ 122 = .ok (.dup_x1, 1) := by decide +kernel
theorem dX9_tariff__123 : decode cX9_tariff_ 123 = .ok (.iconst 1, 1) := by decide +kernel
theorem dX9_tariff__124 : decode cX9_tariff_ 124 = .ok (.iadd, 1) := by decide +kernel
theorem dX9_tariff__125 : decode cX9_tariff_ 125 = .ok (.putfield 21, 3) := by decide +kernel
theorem dX9_tariff__128 : decode cX9_tariff_ 128 = .ok (.aaload, 1) := by decide +kernel
theorem dX9_tariff__129 : decode cX9_tariff_ 129 = .ok (.iconst 0, 1) := by decide +kernel
theorem dX9_tariff__130 : decode cX9_tariff_ 130 = .ok (.iconst 5, 1) := by decide +kernel
theorem dX9_tariff__131 : decode cX9_tariff_ 131 = .ok (.invokestatic 73, 3) := by decide +kernel
theorem dX9_tariff__134 : decode cX9_tariff_ 134 = .ok (.aload_n 0, 1) := by decide +kernel
theorem dX9_tariff__135 : decode cX9_tariff_ 135 = .ok (.getfield 21, 3) := by decide +kernel
theorem dX9_tariff__138 : decode cX9_tariff_ 138 = .ok (.ireturn, 1) := by decide +kernel
set_option maxRecDepth 20000 in
theorem ggX9_card_X9_no : GoodIn wsX9_card wsX9_no := goodIn_r _ [8, 1, 9, 10, 11, 12, 13, 14, 15, 16, 17, 18, 19, 20, 21, 22, 23, 24] (by decide +kernel) (by decide +kernel)
set_option maxRecDepth 20000 in
theorem gX9_card_X9_no : GoodIn wsX9_card (wsV RX9 108 RX9 yX9_no wsX9_no) := goodIn_app (goodIn_of _ (by decide +kernel)) ggX9_card_X9_no
theorem dX9_card_0 : decode cX9_card 0 = .ok (.aload_n 0, 1) := by decide +kernel
theorem dX9_card_1 : decode cX9_card 1 = .ok (.iconst 0, 1) := by decide +kernel
theorem dX9_card_2 : decode cX9_card 2 = .ok (.putfield 39, 3) := by decide +kernel
theorem dX9_card_5 : decode cX9_card 5 = .ok (.aload_n 0, 1) := by decide +kernel
theorem dX9_card_6 : decode cX9_card 6 = .ok (.getfield 42, 3) := by decide +kernel
theorem dX9_card_9 : decode cX9_card 9 = .ok (.iconst 4, 1) := by decide +kernel
theorem dX9_card_10 : decode cX9_card 10 = .ok (.if_icmp .ne 9, 3) := by decide +kernel
theorem dX9_card_13 : decode cX9_card 13 = .ok (.aload_n 0, 1) := by decide +kernel
theorem dX9_card_14 : decode cX9_card 14 = .ok (.iconst 1, 1) := by decide +kernel
theorem dX9_card_15 : decode cX9_card 15 = .ok (.invokevirtual 108, 3) := by decide +kernel
theorem dX9_card_18 : decode cX9_card 18 = .ok (.ireturn, 1) := by decide +kernel
theorem dX9_card_19 : decode cX9_card 19 = .ok (.aload_n 0, 1) := by decide +kernel
theorem dX9_card_20 : decode cX9_card 20 = .ok (.getfield 26, 3) := by decide +kernel
theorem dX9_card_23 : decode cX9_card 23 = .ok (.aload_n 0, 1) := by decide +kernel
theorem dX9_card_24 : decode cX9_card 24 = .ok (.getfield 42, 3) := by decide +kernel
theorem dX9_card_27 : decode cX9_card 27 = .ok (.aaload, 1) := by decide +kernel
theorem dX9_card_28 : decode cX9_card 28 = .ok (.iconst 1, 1) := by decide +kernel
theorem dX9_card_29 : decode cX9_card 29 = .ok (.aload_n 0, 1) := by decide +kernel
theorem dX9_card_30 : decode cX9_card 30 = .ok (.getfield 42, 3) := by decide +kernel
theorem dX9_card_33 : decode cX9_card 33 = .ok (.iastore, 1) := by decide +kernel
theorem dX9_card_34 : decode cX9_card 34 = .ok (.aload_n 0, 1) := by decide +kernel
theorem dX9_card_35 : decode cX9_card 35 = .ok (.dup, 1) := by decide +kernel
theorem dX9_card_36 : decode cX9_card 36 = .ok (.getfield 42, 3) := by decide +kernel
theorem dX9_card_39 : decode cX9_card 39 = .ok (.dup_x1, 1) := by decide +kernel
theorem dX9_card_40 : decode cX9_card 40 = .ok (.iconst 1, 1) := by decide +kernel
theorem dX9_card_41 : decode cX9_card 41 = .ok (.iadd, 1) := by decide +kernel
theorem dX9_card_42 : decode cX9_card 42 = .ok (.putfield 42, 3) := by decide +kernel
theorem dX9_card_45 : decode cX9_card 45 = .ok (.ireturn, 1) := by decide +kernel
set_option maxRecDepth 20000 in
theorem ggX9_tie_X9_isCard : GoodIn wsX9_tie wsX9_isCard := goodIn_r _ [8, 2, 9, 10, 7, 11, 20, 21, 22, 23, 24, 25, 26, 27, 28, 29, 30, 31, 32, 33, 34, 35] (by decide +kernel) (by decide +kernel)
set_option maxRecDepth 20000 in
theorem gX9_tie_X9_isCard : GoodIn wsX9_tie (wsV RX9 49 RX9 yX9_isCard wsX9_isCard) := goodIn_app (goodIn_of _ (by decide +kernel)) ggX9_tie_X9_isCard
set_option maxRecDepth 20000 in
theorem ggX9_tie_X9_isPerson : GoodIn wsX9_tie wsX9_isPerson := goodIn_r _ [15, 3, 4, 5, 6, 7, 8, 2, 9, 10, 11, 20, 21, 22, 23, 24, 25, 26, 27, 28, 29, 30, 31, 32, 33, 34, 35] (by decide +kernel) (by decide +kernel)
set_option maxRecDepth 20000 in
theorem gX9_tie_X9_isPerson : GoodIn wsX9_tie (wsV RX9 118 RX9 yX9_isPerson wsX9_isPerson) := goodIn_app (goodIn_of _ (by decide +kernel)) ggX9_tie_X9_isPerson
set_option maxRecDepth 20000 in
theorem ggX9_tie_X9_no : GoodIn wsX9_tie wsX9_no := goodIn_r _ [19, 1, 20, 21, 22, 23, 24, 25, 26, 27, 28, 29, 30, 31, 32, 33, 34, 35] (by decide +kernel) (by decide +kernel)
set_option maxRecDepth 20000 in
theorem gX9_tie_X9_no : GoodIn wsX9_tie (wsV RX9 108 RX9 yX9_no wsX9_no) := goodIn_app (goodIn_of _ (by decide +kernel)) ggX9_tie_X9_no
theorem dX9_tie_0 : decode cX9_tie 0 = .ok (.aload_n 0, 1) := by decide +kernel
theorem dX9_tie_1 : decode cX9_tie 1 = .ok (.iconst 0, 1) := by decide +kernel
theorem dX9_tie_2 : decode cX9_tie 2 = .ok (.putfield 39, 3) := by decide +kernel
theorem dX9_tie_5 : decode cX9_tie 5 = .ok (.aload_n 0, 1) := by decide +kernel
theorem dX9_tie_6 : decode cX9_tie 6 = .ok (.iload_n 1, 1) := by decide +kernel
theorem dX9_tie_7 : decode cX9_tie 7 = .ok (.invokevirtual 49, 3) := by decide +kernel
theorem dX9_tie_10 : decode cX9_tie 10 = .ok (.ifCond .eq 11, 3) := by decide +kernel
theorem dX9_tie_13 : decode cX9_tie 13 = .ok (.aload_n 0, 1) := by decide +kernel
theorem dX9_tie_14 : decode cX9_tie 14 = .ok (.iload_n 2, 1) := by decide +kernel
theorem dX9_tie_15 : decode cX9_tie 15 = .ok (.invokevirtual 118, 3) := by decide +kernel
theorem dX9_tie_18 : decode cX9_tie 18 = .ok (.ifCond .ne 9, 3) := by decide +kernel
theorem dX9_tie_21 : decode cX9_tie 21 = .ok (.aload_n 0, 1) := by decide +kernel
theorem dX9_tie_22 : decode cX9_tie 22 = .ok (.iconst 1, 1) := by decide +kernel
theorem dX9_tie_23 : decode cX9_tie 23 = .ok (.invokevirtual 108, 3) := by decide +kernel
theorem dX9_tie_26 : decode cX9_tie 26 = .ok (.ireturn, 1) := by decide +kernel
theorem dX9_tie_27 : decode cX9_tie 27 = .ok (.iload_n 2, 1) := by decide +kernel
theorem dX9_tie_28 : decode cX9_tie 28 = .ok (.iload_n 1, 1) := by decide +kernel
theorem dX9_tie_29 : decode cX9_tie 29 = .ok (.if_icmp .lt 9, 3) := by decide +kernel
theorem dX9_tie_32 : decode cX9_tie 32 = .ok (.aload_n 0, 1) := by decide +kernel
theorem dX9_tie_33 : decode cX9_tie 33 = .ok (.iconst 2, 1) := by decide +kernel
theorem dX9_tie_34 : decode cX9_tie 34 = .ok (.invokevirtual 108, 3) := by decide +kernel
theorem dX9_tie_37 : decode cX9_tie 37 = .ok (.ireturn, 1) := by decide +kernel
theorem dX9_tie_38 : decode cX9_tie 38 = .ok (.iconst 0, 1) := by decide +kernel
theorem dX9_tie_39 : decode cX9_tie 39 = .ok (.istore_n 3, 1) := by decide +kernel
theorem dX9_tie_40 : decode cX9_tie 40 = .ok (.iload_n 3, 1) := by decide +kernel
theorem dX9_tie_41 : decode cX9_tie 41 = .ok (.aload_n 0, 1) := by decide +kernel
theorem dX9_tie_42 : decode cX9_tie 42 = .ok (.getfield 42, 3) := by decide +kernel
theorem dX9_tie_45 : decode cX9_tie 45 = .ok (.if_icmp .ge 32, 3) := by decide +kernel
theorem dX9_tie_48 : decode cX9_tie 48 = .ok (.iload_n 3, 1) := by decide +kernel
theorem dX9_tie_49 : decode cX9_tie 49 = .ok (.iload_n 1, 1) := by decide +kernel
theorem dX9_tie_50 : decode cX9_tie 50 = .ok (.if_icmp .eq 21, 3) := by decide +kernel
theorem dX9_tie_53 : decode cX9_tie 53 = .ok (.aload_n 0, 1) := by decide +kernel
theorem dX9_tie_54 : decode cX9_tie 54 = .ok (.getfield 26, 3) := by decide +kernel
theorem dX9_tie_57 : decode cX9_tie 57 = .ok (.iload_n 3, 1) := by decide +kernel
theorem dX9_tie_58 : decode cX9_tie 58 = .ok (.aaload, 1) := by decide +kernel
theorem dX9_tie_59 : decode cX9_tie 59 = .ok (.iconst 1, 1) := by decide +kernel
theorem dX9_tie_60 : decode cX9_tie 60 = .ok (.iaload, 1) := by decide +kernel
theorem dX9_tie_61 : decode cX9_tie 61 = .ok (.iload_n 1, 1) := by decide +kernel
theorem dX9_tie_62 : decode cX9_tie 62 = .ok (.if_icmp .ne 9, 3) := by decide +kernel
theorem dX9_tie_65 : decode cX9_tie 65 = .ok (.aload_n 0, 1) := by decide +kernel
theorem dX9_tie_66 : decode cX9_tie 66 = .ok (.iconst 3, 1) := by decide +kernel
theorem dX9_tie_67 : decode cX9_tie 67 = .ok (.invokevirtual 108, 3) := by decide +kernel
theorem dX9_tie_70 : decode cX9_tie 70 = .ok (.ireturn, 1) := by decide +kernel
theorem dX9_tie_71 : decode cX9_tie 71 = .ok (.iinc 3 1, 3) := by decide +kernel
theorem dX9_tie_74 : decode cX9_tie 74 = .ok (.goto (-34), 3) := by decide +kernel
theorem dX9_tie_77 : decode cX9_tie 77 = .ok (.aload_n 0, 1) := by decide +kernel
theorem dX9_tie_78 : decode cX9_tie 78 = .ok (.getfield 26, 3) := by decide +kernel
theorem dX9_tie_81 : decode cX9_tie 81 = .ok (.iload_n 1, 1) := by decide +kernel
theorem dX9_tie_82 : decode cX9_tie 82 = .ok (.aaload, 1) := by decide +kernel
theorem dX9_tie_83 : decode cX9_tie 83 = .ok (.iconst 1, 1) := by decide +kernel
theorem dX9_tie_84 : decode cX9_tie 84 = .ok (.iaload, 1) := by decide +kernel
theorem dX9_tie_85 : decode cX9_tie 85 = .ok (.istore_n 3, 1) := by decide +kernel
theorem dX9_tie_86 : decode cX9_tie 86 = .ok (.aload_n 0, 1) := by decide +kernel
theorem dX9_tie_87 : decode cX9_tie 87 = .ok (.getfield 26, 3) := by decide +kernel
theorem dX9_tie_90 : decode cX9_tie 90 = .ok (.iload_n 1, 1) := by decide +kernel
theorem dX9_tie_91 : decode cX9_tie 91 = .ok (.aaload, 1) := by decide +kernel
theorem dX9_tie_92 : decode cX9_tie 92 = .ok (.iconst 1, 1) := by decide +kernel
theorem dX9_tie_93 : decode cX9_tie 93 = .ok (.iload_n 2, 1) := by decide +kernel
theorem dX9_tie_94 : decode cX9_tie 94 = .ok (.iastore, 1) := by decide +kernel
theorem dX9_tie_95 : decode cX9_tie 95 = .ok (.iload_n 3, 1) := by decide +kernel
theorem dX9_tie_96 : decode cX9_tie 96 = .ok (.ireturn, 1) := by decide +kernel
set_option maxRecDepth 20000 in
theorem ggX9_lose_X9_isCard : GoodIn wsX9_lose wsX9_isCard := goodIn_r _ [7, 8, 9, 10, 6, 11, 16, 17, 18, 19, 20, 21, 22, 23, 24, 25, 26, 27, 28, 29, 30, 31] (by decide +kernel) (by decide +kernel)
set_option maxRecDepth 20000 in
theorem gX9_lose_X9_isCard : GoodIn wsX9_lose (wsV RX9 49 RX9 yX9_isCard wsX9_isCard) := goodIn_app (goodIn_of _ (by decide +kernel)) ggX9_lose_X9_isCard
set_option maxRecDepth 20000 in
theorem ggX9_lose_X9_no : GoodIn wsX9_lose wsX9_no := goodIn_r _ [15, 1, 16, 17, 18, 19, 20, 21, 22, 23, 24, 25, 26, 27, 28, 29, 30, 31] (by decide +kernel) (by decide +kernel)
set_option maxRecDepth 20000 in
theorem gX9_lose_X9_no : GoodIn wsX9_lose (wsV RX9 108 RX9 yX9_no wsX9_no) := goodIn_app (goodIn_of _ (by decide +kernel)) ggX9_lose_X9_no
theorem dX9_lose_0 : decode cX9_lose 0 = .ok (.aload_n 0, 1) := by decide +kernel
theorem dX9_lose_1 : decode cX9_lose 1 = .ok (.iconst 0, 1) := by decide +kernel
theorem dX9_lose_2 : decode cX9_lose 2 = .ok (.putfield 39, 3) := by decide +kernel
theorem dX9_lose_5 : decode cX9_lose 5 = .ok (.aload_n 0, 1) := by decide +kernel
theorem dX9_lose_6 : decode cX9_lose 6 = .ok (.iload_n 1, 1) := by decide +kernel
theorem dX9_lose_7 : decode cX9_lose 7 = .ok (.invokevirtual 49, 3) := by decide +kernel
theorem dX9_lose_10 : decode cX9_lose 10 = .ok (.ifCond .ne 17, 3) := by decide +kernel
theorem dX9_lose_13 : decode cX9_lose 13 = .ok (.aload_n 0, 1) := by decide +kernel
theorem dX9_lose_14 : decode cX9_lose 14 = .ok (.iconst 1, 1) := by decide +kernel
theorem dX9_lose_15 : decode cX9_lose 15 = .ok (.invokevirtual 108, 3) := by decide +kernel
theorem dX9_lose_18 : decode cX9_lose 18 = .ok (.ifCond .le 7, 3) := by decide +kernel
theorem dX9_lose_21 : decode cX9_lose 21 = .ok (.iconst 1, 1) := by decide +kernel
theorem dX9_lose_22 : decode cX9_lose 22 = .ok (.goto 4, 3) := by decide +kernel
theorem dX9_lose_25 : decode cX9_lose 25 = .ok (.iconst 0, 1) := by decide +kernel
theorem dX9_lose_26 : decode cX9_lose 26 = .ok (.ireturn, 1) := by decide +kernel
theorem dX9_lose_27 : decode cX9_lose 27 = .ok (.aload_n 0, 1) := by decide +kernel
theorem dX9_lose_28 : decode cX9_lose 28 = .ok (.getfield 26, 3) := by decide +kernel
theorem dX9_lose_31 : decode cX9_lose 31 = .ok (.iload_n 1, 1) := by decide +kernel
theorem dX9_lose_32 : decode cX9_lose 32 = .ok (.aaload, 1) := by decide +kernel
theorem dX9_lose_33 : decode cX9_lose 33 = .ok (.iconst 2, 1) := by decide +kernel
theorem dX9_lose_34 : decode cX9_lose 34 = .ok (.iaload, 1) := by decide +kernel
theorem dX9_lose_35 : decode cX9_lose 35 = .ok (.iconst 1, 1) := by decide +kernel
theorem dX9_lose_36 : decode cX9_lose 36 = .ok (.if_icmp .ne 7, 3) := by decide +kernel
theorem dX9_lose_39 : decode cX9_lose 39 = .ok (.iconst 1, 1) := by decide +kernel
theorem dX9_lose_40 : decode cX9_lose 40 = .ok (.goto 4, 3) := by decide +kernel
theorem dX9_lose_43 : decode cX9_lose 43 = .ok (.iconst 0, 1) := by decide +kernel
theorem dX9_lose_44 : decode cX9_lose 44 = .ok (.istore_n 3, 1) := by decide +kernel
theorem dX9_lose_45 : decode cX9_lose 45 = .ok (.aload_n 0, 1) := by decide +kernel
theorem dX9_lose_46 : decode cX9_lose 46 = .ok (.getfield 26, 3) := by decide +kernel
theorem dX9_lose_49 : decode cX9_lose 49 = .ok (.iload_n 1, 1) := by decide +kernel
theorem dX9_lose_50 : decode cX9_lose 50 = .ok (.aaload, 1) := by decide +kernel
theorem dX9_lose_51 : decode cX9_lose 51 = .ok (.iconst 2, 1) := by decide +kernel
theorem dX9_lose_52 : decode cX9_lose 52 = .ok (.iload_n 2, 1) := by decide +kernel
theorem dX9_lose_53 : decode cX9_lose 53 = .ok (.ifCond .eq 7, 3) := by decide +kernel
theorem dX9_lose_56 : decode cX9_lose 56 = .ok (.iconst 1, 1) := by decide +kernel
theorem dX9_lose_57 : decode cX9_lose 57 = .ok (.goto 4, 3) := by decide +kernel
theorem dX9_lose_60 : decode cX9_lose 60 = .ok (.iconst 0, 1) := by decide +kernel
theorem dX9_lose_61 : decode cX9_lose 61 = .ok (.iastore, 1) := by decide +kernel
theorem dX9_lose_62 : decode cX9_lose 62 = .ok (.iload_n 3, 1) := by decide +kernel
theorem dX9_lose_63 : decode cX9_lose 63 = .ok (.ireturn, 1) := by decide +kernel
set_option maxRecDepth 20000 in
theorem ggX9_pay_X9_isCard : GoodIn wsX9_pay wsX9_isCard := goodIn_r _ [7, 8, 9, 10, 6, 11, 16, 17, 18, 19, 20, 21, 22, 23, 24, 25, 26, 27, 28, 29, 30, 31] (by decide +kernel) (by decide +kernel)
set_option maxRecDepth 20000 in
theorem gX9_pay_X9_isCard : GoodIn wsX9_pay (wsV RX9 49 RX9 yX9_isCard wsX9_isCard) := goodIn_app (goodIn_of _ (by decide +kernel)) ggX9_pay_X9_isCard
set_option maxRecDepth 20000 in
theorem ggX9_pay_X9_no : GoodIn wsX9_pay wsX9_no := goodIn_r _ [15, 1, 16, 17, 18, 19, 20, 21, 22, 23, 24, 25, 26, 27, 28, 29, 30, 31] (by decide +kernel) (by decide +kernel)
set_option maxRecDepth 20000 in
theorem gX9_pay_X9_no : GoodIn wsX9_pay (wsV RX9 108 RX9 yX9_no wsX9_no) := goodIn_app (goodIn_of _ (by decide +kernel)) ggX9_pay_X9_no
set_option maxRecDepth 20000 in
theorem ggX9_pay_X9_in : GoodIn wsX9_pay wsX9_in := goodIn_r _ [11] (by decide +kernel) (by decide +kernel)
set_option maxRecDepth 20000 in
theorem gX9_pay_X9_in : GoodIn wsX9_pay (va_wsS RX9 45 yX9_in wsX9_in) := goodIn_app (goodIn_of _ (by decide +kernel)) ggX9_pay_X9_in
theorem dX9_pay_0 : decode cX9_pay 0 = .ok (.aload_n 0, 1) := by decide +kernel
theorem dX9_pay_1 : decode cX9_pay 1 = .ok (.iconst 0, 1) := by decide +kernel
theorem dX9_pay_2 : decode cX9_pay 2 = .ok (.putfield 39, 3) := by decide +kernel
theorem dX9_pay_5 : decode cX9_pay 5 = .ok (.aload_n 0, 1) := by decide +kernel
theorem dX9_pay_6 : decode cX9_pay 6 = .ok (.iload_n 1, 1) := by decide +kernel
theorem dX9_pay_7 : decode cX9_pay 7 = .ok (.invokevirtual 49, 3) := by decide +kernel
theorem dX9_pay_10 : decode cX9_pay 10 = .ok (.ifCond .ne 9, 3) := by decide +kernel
theorem dX9_pay_13 : decode cX9_pay 13 = .ok (.aload_n 0, 1) := by decide +kernel
theorem dX9_pay_14 : decode cX9_pay 14 = .ok (.iconst 1, 1) := by decide +kernel
theorem dX9_pay_15 : decode cX9_pay 15 = .ok (.invokevirtual 108, 3) := by decide +kernel
theorem dX9_pay_18 : decode cX9_pay 18 = .ok (.ireturn, 1) := by decide +kernel
theorem dX9_pay_19 : decode cX9_pay 19 = .ok (.iload_n 2, 1) := by decide +kernel
theorem dX9_pay_20 : decode cX9_pay 20 = .ok (.iconst 1, 1) := by decide +kernel
theorem dX9_pay_21 : decode cX9_pay 21 = .ok (.sipush 999, 3) := by decide +kernel
theorem dX9_pay_24 : decode cX9_pay 24 = .ok (.invokestatic 45, 3) := by decide +kernel
theorem dX9_pay_27 : decode cX9_pay 27 = .ok (.ifCond .ne 9, 3) := by decide +kernel
theorem dX9_pay_30 : decode cX9_pay 30 = .ok (.aload_n 0, 1) := by decide +kernel
theorem dX9_pay_31 : decode cX9_pay 31 = .ok (.iconst 2, 1) := by decide +kernel
theorem dX9_pay_32 : decode cX9_pay 32 = .ok (.invokevirtual 108, 3) := by decide +kernel
theorem dX9_pay_35 : decode cX9_pay 35 = .ok (.ireturn, 1) := by decide +kernel
theorem dX9_pay_36 : decode cX9_pay 36 = .ok (.aload_n 0, 1) := by decide +kernel
theorem dX9_pay_37 : decode cX9_pay 37 = .ok (.getfield 26, 3) := by decide +kernel
theorem dX9_pay_40 : decode cX9_pay 40 = .ok (.iload_n 1, 1) := by decide +kernel
theorem dX9_pay_41 : decode cX9_pay 41 = .ok (.aaload, 1) := by decide +kernel
theorem dX9_pay_42 : decode cX9_pay 42 = .ok (.iconst 0, 1) := by decide +kernel
theorem dX9_pay_43 : decode cX9_pay 43 = .ok (.dup2, 1) := by decide +kernel
theorem dX9_pay_44 : decode cX9_pay 44 = .ok (.iaload, 1) := by decide +kernel
theorem dX9_pay_45 : decode cX9_pay 45 = .ok (.iload_n 2, 1) := by decide +kernel
theorem dX9_pay_46 : decode cX9_pay 46 = .ok (.iadd, 1) := by decide +kernel
theorem dX9_pay_47 : decode cX9_pay 47 = .ok (.iastore, 1) := by decide +kernel
theorem dX9_pay_48 : decode cX9_pay 48 = .ok (.aload_n 0, 1) := by decide +kernel
theorem dX9_pay_49 : decode cX9_pay 49 = .ok (.getfield 26, 3) := by decide +kernel
theorem dX9_pay_52 : decode cX9_pay 52 = .ok (.iload_n 1, 1) := by decide +kernel
theorem dX9_pay_53 : decode cX9_pay 53 = .ok (.aaload, 1) := by decide +kernel
theorem dX9_pay_54 : decode cX9_pay 54 = .ok (.iconst 0, 1) := by decide +kernel
theorem dX9_pay_55 : decode cX9_pay 55 = .ok (.iaload, 1) := by decide +kernel
theorem dX9_pay_56 : decode cX9_pay 56 = .ok (.ireturn, 1) := by decide +kernel
set_option maxRecDepth 20000 in
theorem ggX9_late_X9_in : GoodIn wsX9_late wsX9_in := goodIn_r _ [6] (by decide +kernel) (by decide +kernel)
set_option maxRecDepth 20000 in
theorem gX9_late_X9_in : GoodIn wsX9_late (va_wsS RX9 45 yX9_in wsX9_in) := goodIn_app (goodIn_of _ (by decide +kernel)) ggX9_late_X9_in
set_option maxRecDepth 20000 in
theorem ggX9_late_X9_isDay : GoodIn wsX9_late wsX9_isDay := goodIn_r _ [9, 3, 4, 5, 6] (by decide +kernel) (by decide +kernel)
set_option maxRecDepth 20000 in
theorem gX9_late_X9_isDay : GoodIn wsX9_late (va_wsS RX9 112 yX9_isDay wsX9_isDay) := goodIn_app (goodIn_of _ (by decide +kernel)) ggX9_late_X9_isDay
set_option maxRecDepth 20000 in
theorem ggX9_late_X9_no : GoodIn wsX9_late wsX9_no := goodIn_r _ [13, 1, 14, 15, 16, 17, 18, 19, 20, 21, 22, 23, 24, 25, 26, 27, 28, 29] (by decide +kernel) (by decide +kernel)
set_option maxRecDepth 20000 in
theorem gX9_late_X9_no : GoodIn wsX9_late (wsV RX9 108 RX9 yX9_no wsX9_no) := goodIn_app (goodIn_of _ (by decide +kernel)) ggX9_late_X9_no
theorem dX9_late_0 : decode cX9_late 0 = .ok (.aload_n 0, 1) := by decide +kernel
theorem dX9_late_1 : decode cX9_late 1 = .ok (.iconst 0, 1) := by decide +kernel
theorem dX9_late_2 : decode cX9_late 2 = .ok (.putfield 39, 3) := by decide +kernel
theorem dX9_late_5 : decode cX9_late 5 = .ok (.iload_n 1, 1) := by decide +kernel
theorem dX9_late_6 : decode cX9_late 6 = .ok (.iconst 0, 1) := by decide +kernel
theorem dX9_late_7 : decode cX9_late 7 = .ok (.iconst 5, 1) := by decide +kernel
theorem dX9_late_8 : decode cX9_late 8 = .ok (.invokestatic 45, 3) := by decide +kernel
theorem dX9_late_11 : decode cX9_late 11 = .ok (.ifCond .eq 10, 3) := by decide +kernel
theorem dX9_late_14 : decode cX9_late 14 = .ok (.iload_n 2, 1) := by decide +kernel
theorem dX9_late_15 : decode cX9_late 15 = .ok (.invokestatic 112, 3) := by decide +kernel
theorem dX9_late_18 : decode cX9_late 18 = .ok (.ifCond .ne 9, 3) := by decide +kernel
theorem dX9_late_21 : decode cX9_late 21 = .ok (.aload_n 0, 1) := by decide +kernel
theorem dX9_late_22 : decode cX9_late 22 = .ok (.iconst 1, 1) := by decide +kernel
theorem dX9_late_23 : decode cX9_late 23 = .ok (.invokevirtual 108, 3) := by decide +kernel
theorem dX9_late_26 : decode cX9_late 26 = .ok (.ireturn, 1) := by decide +kernel
theorem dX9_late_27 : decode cX9_late 27 = .ok (.iload_n 3, 1) := by decide +kernel
theorem dX9_late_28 : decode cX9_late 28 = .ok (.iconst 0, 1) := by decide +kernel
theorem dX9_late_29 : decode cX9_late 29 = .ok (.sipush 200, 3) := by decide +kernel
theorem dX9_late_32 : decode cX9_late 32 = .ok (.invokestatic 45, 3) := by decide +kernel
theorem dX9_late_35 : decode cX9_late 35 = .ok (.ifCond .ne 9, 3) := by decide +kernel
theorem dX9_late_38 : decode cX9_late 38 = .ok (.aload_n 0, 1) := by decide +kernel
theorem dX9_late_39 : decode cX9_late 39 = .ok (.iconst 2, 1) := by decide +kernel
theorem dX9_late_40 : decode cX9_late 40 = .ok (.invokevirtual 108, 3) := by decide +kernel
theorem dX9_late_43 : decode cX9_late 43 = .ok (.ireturn, 1) := by decide +kernel
theorem dX9_late_44 : decode cX9_late 44 = .ok (.aload_n 0, 1) := by decide +kernel
theorem dX9_late_45 : decode cX9_late 45 = .ok (.getfield 32, 3) := by decide +kernel
theorem dX9_late_48 : decode cX9_late 48 = .ok (.iload_n 1, 1) := by decide +kernel
theorem dX9_late_49 : decode cX9_late 49 = .ok (.aaload, 1) := by decide +kernel
theorem dX9_late_50 : decode cX9_late 50 = .ok (.iload_n 2, 1) := by decide +kernel
theorem dX9_late_51 : decode cX9_late 51 = .ok (.iaload, 1) := by decide +kernel
theorem dX9_late_52 : decode cX9_late 52 = .ok (.istore 4, 2) := by decide +kernel
theorem dX9_late_54 : decode cX9_late 54 = .ok (.aload_n 0, 1) := by decide +kernel
theorem dX9_late_55 : decode cX9_late 55 = .ok (.getfield 32, 3) := by decide +kernel
theorem dX9_late_58 : decode cX9_late 58 = .ok (.iload_n 1, 1) := by decide +kernel
theorem dX9_late_59 : decode cX9_late 59 = .ok (.aaload, 1) := by decide +kernel
theorem dX9_late_60 : decode cX9_late 60 = .ok (.iload_n 2, 1) := by decide +kernel
theorem dX9_late_61 : decode cX9_late 61 = .ok (.iload_n 3, 1) := by decide +kernel
theorem dX9_late_62 : decode cX9_late 62 = .ok (.iastore, 1) := by decide +kernel
theorem dX9_late_63 : decode cX9_late 63 = .ok (.iload 4, 2) := by decide +kernel
theorem dX9_late_65 : decode cX9_late 65 = .ok (.ireturn, 1) := by decide +kernel
set_option maxRecDepth 20000 in
theorem ggX9_isPlace_X9_isCard : GoodIn wsX9_isPlace wsX9_isCard := goodIn_r _ [5, 6, 7, 8, 4, 9, 13, 14, 15, 16, 17, 18, 19, 20, 21, 22, 23, 24, 25, 26, 27, 28] (by decide +kernel) (by decide +kernel)
set_option maxRecDepth 20000 in
theorem gX9_isPlace_X9_isCard : GoodIn wsX9_isPlace (wsV RX9 49 RX9 yX9_isCard wsX9_isCard) := goodIn_app (goodIn_of _ (by decide +kernel)) ggX9_isPlace_X9_isCard
set_option maxRecDepth 20000 in
theorem ggX9_isPlace_X9_in : GoodIn wsX9_isPlace wsX9_in := goodIn_r _ [9] (by decide +kernel) (by decide +kernel)
set_option maxRecDepth 20000 in
theorem gX9_isPlace_X9_in : GoodIn wsX9_isPlace (va_wsS RX9 45 yX9_in wsX9_in) := goodIn_app (goodIn_of _ (by decide +kernel)) ggX9_isPlace_X9_in
set_option maxRecDepth 20000 in
theorem ggX9_isPlace_X9_isDay : GoodIn wsX9_isPlace wsX9_isDay := goodIn_r _ [12, 7, 8, 4, 9] (by decide +kernel) (by decide +kernel)
set_option maxRecDepth 20000 in
theorem gX9_isPlace_X9_isDay : GoodIn wsX9_isPlace (va_wsS RX9 112 yX9_isDay wsX9_isDay) := goodIn_app (goodIn_of _ (by decide +kernel)) ggX9_isPlace_X9_isDay
theorem dX9_isPlace_0 : decode cX9_isPlace 0 = .ok (.aload_n 0, 1) := by decide +kernel
theorem dX9_isPlace_1 : decode cX9_isPlace 1 = .ok (.iload_n 1, 1) := by decide +kernel
theorem dX9_isPlace_2 : decode cX9_isPlace 2 = .ok (.invokevirtual 49, 3) := by decide +kernel
theorem dX9_isPlace_5 : decode cX9_isPlace 5 = .ok (.ifCond .eq 34, 3) := by decide +kernel
theorem dX9_isPlace_8 : decode cX9_isPlace 8 = .ok (.iload_n 2, 1) := by decide +kernel
theorem dX9_isPlace_9 : decode cX9_isPlace 9 = .ok (.iconst 0, 1) := by decide +kernel
theorem dX9_isPlace_10 : decode cX9_isPlace 10 = .ok (.bipush 9, 2) := by decide +kernel
theorem dX9_isPlace_12 : decode cX9_isPlace 12 = .ok (.invokestatic 45, 3) := by decide +kernel
theorem dX9_isPlace_15 : decode cX9_isPlace 15 = .ok (.ifCond .eq 24, 3) := by decide +kernel
theorem dX9_isPlace_18 : decode cX9_isPlace 18 = .ok (.iload_n 3, 1) := by decide +kernel
theorem dX9_isPlace_19 : decode cX9_isPlace 19 = .ok (.iconst 0, 1) := by decide +kernel
theorem dX9_isPlace_20 : decode cX9_isPlace 20 = .ok (.iconst 5, 1) := by decide +kernel
theorem dX9_isPlace_21 : decode cX9_isPlace 21 = .ok (.invokestatic 45, 3) := by decide +kernel
theorem dX9_isPlace_24 : decode cX9_isPlace 24 = .ok (.ifCond .eq 15, 3) := by decide +kernel
theorem dX9_isPlace_27 : decode cX9_isPlace 27 = .ok (.iload 4, 2) := by decide +kernel
theorem dX9_isPlace_29 : decode cX9_isPlace 29 = .ok (.invokestatic 112, 3) := by decide +kernel
theorem dX9_isPlace_32 : decode cX9_isPlace 32 = .ok (.ifCond .eq 7, 3) := by decide +kernel
theorem dX9_isPlace_35 : decode cX9_isPlace 35 = .ok (.iconst 1, 1) := by decide +kernel
theorem dX9_isPlace_36 : decode cX9_isPlace 36 = .ok (.goto 4, 3) := by decide +kernel
theorem dX9_isPlace_39 : decode cX9_isPlace 39 = .ok (.iconst 0, 1) := by decide +kernel
theorem dX9_isPlace_40 : decode cX9_isPlace 40 = .ok (.ireturn, 1) := by decide +kernel
set_option maxRecDepth 20000 in
theorem gX9_tap_X9_isPlace : GoodIn wsX9_tap (wsV RX9 121 RX9 yX9_isPlace wsX9_isPlace) := goodIn_sub (fun w h => List.mem_cons_of_mem _ (List.mem_append_left _ (List.mem_append_right _ h))) (by decide +kernel)
set_option maxRecDepth 20000 in
theorem gX9_tap_X9_no : GoodIn wsX9_tap (wsV RX9 108 RX9 yX9_no wsX9_no) := goodIn_sub (fun w h => List.mem_cons_of_mem _ (List.mem_append_right _ h)) (by decide +kernel)
theorem dX9_tap_0 : decode cX9_tap 0 = .ok (.aload_n 0, 1) := by decide +kernel
theorem dX9_tap_1 : decode cX9_tap 1 = .ok (.iconst 0, 1) := by decide +kernel
theorem dX9_tap_2 : decode cX9_tap 2 = .ok (.putfield 39, 3) := by decide +kernel
theorem dX9_tap_5 : decode cX9_tap 5 = .ok (.aload_n 0, 1) := by decide +kernel
theorem dX9_tap_6 : decode cX9_tap 6 = .ok (.iload_n 1, 1) := by decide +kernel
theorem dX9_tap_7 : decode cX9_tap 7 = .ok (.iload_n 2, 1) := by decide +kernel
theorem dX9_tap_8 : decode cX9_tap 8 = .ok (.iload_n 3, 1) := by decide +kernel
theorem dX9_tap_9 : decode cX9_tap 9 = .ok (.iload 5, 2) := by decide +kernel
theorem dX9_tap_11 : decode cX9_tap 11 = .ok (.invokevirtual 121, 3) := by decide +kernel
theorem dX9_tap_14 : decode cX9_tap 14 = .ok (.ifCond .ne 9, 3) := by decide +kernel
theorem dX9_tap_17 : decode cX9_tap 17 = .ok (.aload_n 0, 1) := by decide +kernel
theorem dX9_tap_18 : decode cX9_tap 18 = .ok (.iconst 1, 1) := by decide +kernel
theorem dX9_tap_19 : decode cX9_tap 19 = .ok (.invokevirtual 108, 3) := by decide +kernel
theorem dX9_tap_22 : decode cX9_tap 22 = .ok (.ireturn, 1) := by decide +kernel
theorem dX9_tap_23 : decode cX9_tap 23 = .ok (.iload 6, 2) := by decide +kernel
theorem dX9_tap_25 : decode cX9_tap 25 = .ok (.iconst 0, 1) := by decide +kernel
theorem dX9_tap_26 : decode cX9_tap 26 = .ok (.sipush 1439, 3) := by decide +kernel
theorem dX9_tap_29 : decode cX9_tap 29 = .ok (.invokestatic 45, 3) := by decide +kernel
theorem dX9_tap_32 : decode cX9_tap 32 = .ok (.ifCond .ne 9, 3) := by decide +kernel
theorem dX9_tap_35 : decode cX9_tap 35 = .ok (.aload_n 0, 1) := by decide +kernel
theorem dX9_tap_36 : decode cX9_tap 36 = .ok (.iconst 2, 1) := by decide +kernel
theorem dX9_tap_37 : decode cX9_tap 37 = .ok (.invokevirtual 108, 3) := by decide +kernel
theorem dX9_tap_40 : decode cX9_tap 40 = .ok (.ireturn, 1) := by decide +kernel
theorem dX9_tap_41 : decode cX9_tap 41 = .ok (.aload_n 0, 1) := by decide +kernel
theorem dX9_tap_42 : decode cX9_tap 42 = .ok (.getfield 26, 3) := by decide +kernel
theorem dX9_tap_45 : decode cX9_tap 45 = .ok (.iload_n 1, 1) := by decide +kernel
theorem dX9_tap_46 : decode cX9_tap 46 = .ok (.aaload, 1) := by decide +kernel
theorem dX9_tap_47 : decode cX9_tap 47 = .ok (.iconst 2, 1) := by decide +kernel
theorem dX9_tap_48 : decode cX9_tap 48 = .ok (.iaload, 1) := by decide +kernel
theorem dX9_tap_49 : decode cX9_tap 49 = .ok (.iconst 1, 1) := by decide +kernel
theorem dX9_tap_50 : decode cX9_tap 50 = .ok (.if_icmp .ne 16, 3) := by decide +kernel
theorem dX9_tap_53 : decode cX9_tap 53 = .ok (.aload_n 0, 1) := by decide +kernel
theorem dX9_tap_54 : decode cX9_tap 54 = .ok (.dup, 1) := by decide +kernel
theorem dX9_tap_55 : decode cX9_tap 55 = .ok (.getfield 125, 3) := by decide +kernel
theorem dX9_tap_58 : decode cX9_tap 58 = .ok (.iconst 1, 1) := by decide +kernel
theorem dX9_tap_59 : decode cX9_tap 59 = .ok (.iadd, 1) := by decide +kernel
theorem dX9_tap_60 : decode cX9_tap 60 = .ok (.putfield 125, 3) := by decide +kernel
theorem dX9_tap_63 : decode cX9_tap 63 = .ok (.bipush (-2), 2) := by decide +kernel
theorem dX9_tap_65 : decode cX9_tap 65 = .ok (.ireturn, 1) := by decide +kernel
theorem dX9_tap_66 : decode cX9_tap 66 = .ok (.aload_n 0, 1) := by decide +kernel
theorem dX9_tap_67 : decode cX9_tap 67 = .ok (.iload_n 1, 1) := by decide +kernel
theorem dX9_tap_68 : decode cX9_tap 68 = .ok (.iload_n 2, 1) := by decide +kernel
theorem dX9_tap_69 : decode cX9_tap 69 = .ok (.iload_n 3, 1) := by decide +kernel
theorem dX9_tap_70 : decode cX9_tap 70 = .ok (.iload 4, 2) := by decide +kernel
theorem dX9_tap_72 : decode cX9_tap 72 = .ok (.iload 5, 2) := by decide +kernel
theorem dX9_tap_74 : decode cX9_tap 74 = .ok (.iload 6, 2) := by decide +kernel
theorem dX9_tap_76 : decode cX9_tap 76 = .ok (.invokevirtual 128, 3) := by decide +kernel
theorem dX9_tap_79 : decode cX9_tap 79 = .ok (.iconst 0, 1) := by decide +kernel
theorem dX9_tap_80 : decode cX9_tap 80 = .ok (.istore 7, 2) := by decide +kernel
theorem dX9_tap_82 : decode cX9_tap 82 = .ok (.iload 7, 2) := by decide +kernel
theorem dX9_tap_84 : decode cX9_tap 84 = .ok (.aload_n 0, 1) := by decide +kernel
theorem dX9_tap_85 : decode cX9_tap 85 = .ok (.getfield 59, 3) := by decide +kernel
theorem dX9_tap_88 : decode cX9_tap 88 = .ok (.if_icmp .ge 84, 3) := by decide +kernel
theorem dX9_tap_91 : decode cX9_tap 91 = .ok (.iconst 1, 1) := by decide +kernel
theorem dX9_tap_92 : decode cX9_tap 92 = .ok (.istore 8, 2) := by decide +kernel
theorem dX9_tap_94 : decode cX9_tap 94 = .ok (.iconst 0, 1) := by decide +kernel
theorem dX9_tap_95 : decode cX9_tap 95 = .ok (.istore 9, 2) := by decide +kernel
theorem dX9_tap_97 : decode cX9_tap 97 = .ok (.iload 9, 2) := by decide +kernel
theorem dX9_tap_99 : decode cX9_tap 99 = .ok (.bipush 6, 2) := by decide +kernel
theorem dX9_tap_101 : decode cX9_tap 101 = .ok (.if_icmp .ge 44, 3) := by decide +kernel
theorem dX9_tap_104 : decode cX9_tap 104 = .ok (.iload 8, 2) := by decide +kernel
theorem dX9_tap_106 : decode cX9_tap 106 = .ok (.aload_n 0, 1) := by decide +kernel
theorem dX9_tap_107 : decode cX9_tap 107 = .ok (.getfield 29, 3) := by decide +kernel
theorem dX9_tap_110 : decode cX9_tap 110 = .ok (.iload 7, 2) := by decide +kernel
theorem dX9_tap_112 : decode cX9_tap 112 = .ok (.aaload, 1) := by decide +kernel
theorem dX9_tap_113 : decode cX9_tap 113 = .ok (.iload 9, 2) := by decide +kernel
theorem dX9_tap_115 : decode cX9_tap 115 = .ok (.iaload, 1) := by decide +kernel
theorem dX9_tap_116 : decode cX9_tap 116 = .ok (.aload_n 0, 1) := by decide +kernel
theorem dX9_tap_117 : decode cX9_tap 117 = .ok (.getfield 29, 3) := by decide +kernel
theorem dX9_tap_120 : decode cX9_tap 120 = .ok (.aload_n 0, 1) := by decide +kernel
theorem dX9_tap_121 : decode cX9_tap 121 = .ok (.getfield 59, 3) := by decide +kernel
theorem dX9_tap_124 : decode cX9_tap 124 = .ok (.aaload, 1) := by decide +kernel
theorem dX9_tap_125 : decode cX9_tap 125 = .ok (.iload 9, 2) := by decide +kernel
theorem dX9_tap_127 : decode cX9_tap 127 = .ok (.iaload, 1) := by decide +kernel
theorem dX9_tap_128 : decode cX9_tap 128 = .ok (.if_icmp .ne 7, 3) := by decide +kernel
theorem dX9_tap_131 : decode cX9_tap 131 = .ok (.iconst 1, 1) := by decide +kernel
theorem dX9_tap_132 : decode cX9_tap 132 = .ok (.goto 4, 3) := by decide +kernel
theorem dX9_tap_135 : decode cX9_tap 135 = .ok (.iconst 0, 1) := by decide +kernel
theorem dX9_tap_136 : decode cX9_tap 136 = .ok (.iand, 1) := by decide +kernel
theorem dX9_tap_137 : decode cX9_tap 137 = .ok (.istore 8, 2) := by decide +kernel
theorem dX9_tap_139 : decode cX9_tap 139 = .ok (.iinc 9 1, 3) := by decide +kernel
theorem dX9_tap_142 : decode cX9_tap 142 = .ok (.goto (-45), 3) := by decide +kernel
theorem dX9_tap_145 : decode cX9_tap 145 = .ok (.iload 8, 2) := by decide +kernel
theorem dX9_tap_147 : decode cX9_tap 147 = .ok (.ifCond .ne 6, 3) := by decide +kernel
theorem dX9_tap_150 : decode cX9_tap 150 = .ok (.goto 16, 3) := by decide +kernel
theorem dX9_tap_153 : decode cX9_tap 153 = .ok (.aload_n 0, 1) := by decide +kernel
theorem dX9_tap_154 : decode cX9_tap 154 = .ok (.dup, 1) := by decide +kernel
theorem dX9_tap_155 : decode cX9_tap 155 = .ok (.getfield 132, 3) := by decide +kernel
theorem dX9_tap_158 : decode cX9_tap 158 = .ok (.iconst 1, 1) := by decide +kernel
theorem dX9_tap_159 : decode cX9_tap 159 = .ok (.iadd, 1) := by decide +kernel
theorem dX9_tap_160 : decode cX9_tap 160 = .ok (.putfield 132, 3) := by decide +kernel
theorem dX9_tap_163 : decode cX9_tap 163 = .ok (.bipush (-3), 2) := by decide +kernel
theorem dX9_tap_165 : decode cX9_tap 165 = .ok (.ireturn, 1) := by decide +kernel
theorem dX9_tap_166 : decode cX9_tap 166 = .ok (.iinc 7 1, 3) := by decide +kernel
theorem dX9_tap_169 : decode cX9_tap 169 = .ok (.goto (-87), 3) := by decide +kernel
theorem dX9_tap_172 : decode cX9_tap 172 = .ok (.aload_n 0, 1) := by decide +kernel
theorem dX9_tap_173 : decode cX9_tap 173 = .ok (.getfield 59, 3) := by decide +kernel
theorem dX9_tap_176 : decode cX9_tap 176 = .ok (.bipush 40, 2) := by decide +kernel
theorem dX9_tap_178 : decode cX9_tap 178 = .ok (.if_icmp .ne 9, 3) := by decide +kernel
theorem dX9_tap_181 : decode cX9_tap 181 = .ok (.aload_n 0, 1) := by decide +kernel
theorem dX9_tap_182 : decode cX9_tap 182 = .ok (.iconst 3, 1) := by decide +kernel
theorem dX9_tap_183 : decode cX9_tap 183 = .ok (.invokevirtual 108, 3) := by decide +kernel
theorem dX9_tap_186 : decode cX9_tap 186 = .ok (.ireturn, 1) := by decide +kernel
theorem dX9_tap_187 : decode cX9_tap 187 = .ok (.aload_n 0, 1) := by decide +kernel
theorem dX9_tap_188 : decode cX9_tap 188 = .ok (.getfield 26, 3) := by decide +kernel
theorem dX9_tap_191 : decode cX9_tap 191 = .ok (.iload_n 1, 1) := by decide +kernel
theorem dX9_tap_192 : decode cX9_tap 192 = .ok (.aaload, 1) := by decide +kernel
theorem dX9_tap_193 : decode cX9_tap 193 = .ok (.iconst 3, 1) := by decide +kernel
theorem dX9_tap_194 : decode cX9_tap 194 = .ok (.dup2, 1) := by decide +kernel
theorem dX9_tap_195 : decode cX9_tap 195 = .ok (.iaload, 1) := by decide +kernel
theorem dX9_tap_196 : decode cX9_tap 196 = .ok (.iconst 1, 1) := by decide +kernel
theorem dX9_tap_197 : decode cX9_tap 197 = .ok (.iadd, 1) := by decide +kernel
theorem dX9_tap_198 : decode cX9_tap 198 = .ok (.iastore, 1) := by decide +kernel
theorem dX9_tap_199 : decode cX9_tap 199 = .ok (.aload_n 0, 1) := by decide +kernel
theorem dX9_tap_200 : decode cX9_tap 200 = .ok (.dup, 1) := by decide +kernel
theorem dX9_tap_201 : decode cX9_tap 201 = .ok (.getfield 59, 3) := by decide +kernel
theorem dX9_tap_204 : decode cX9_tap 204 = .ok (.iconst 1, 1) := by decide +kernel
theorem dX9_tap_205 : decode cX9_tap 205 = .ok (.iadd, 1) := by decide +kernel
theorem dX9_tap_206 : decode cX9_tap 206 = .ok (.dup_x1, 1) := by decide +kernel
theorem dX9_tap_207 : decode cX9_tap 207 = .ok (.putfield 59, 3) := by decide +kernel
theorem dX9_tap_210 : decode cX9_tap 210 = .ok (.ireturn, 1) := by decide +kernel
theorem dX9_close_0 : decode cX9_close 0 = .ok (.aload_n 0, 1) := by decide +kernel
theorem dX9_close_1 : decode cX9_close 1 = .ok (.iconst 0, 1) := by decide +kernel
theorem dX9_close_2 : decode cX9_close 2 = .ok (.putfield 39, 3) := by decide +kernel
theorem dX9_close_5 : decode cX9_close 5 = .ok (.aload_n 0, 1) := by decide +kernel
theorem dX9_close_6 : decode cX9_close 6 = .ok (.getfield 115, 3) := by decide +kernel
theorem dX9_close_9 : decode cX9_close 9 = .ok (.bipush 28, 2) := by decide +kernel
theorem dX9_close_11 : decode cX9_close 11 = .ok (.if_icmp .ne 9, 3) := by decide +kernel
theorem dX9_close_14 : decode cX9_close 14 = .ok (.aload_n 0, 1) := by decide +kernel
theorem dX9_close_15 : decode cX9_close 15 = .ok (.iconst 1, 1) := by decide +kernel
theorem dX9_close_16 : decode cX9_close 16 = .ok (.invokevirtual 108, 3) := by decide +kernel
theorem dX9_close_19 : decode cX9_close 19 = .ok (.ireturn, 1) := by decide +kernel
theorem dX9_close_20 : decode cX9_close 20 = .ok (.iconst 0, 1) := by decide +kernel
theorem dX9_close_21 : decode cX9_close 21 = .ok (.istore_n 1, 1) := by decide +kernel
theorem dX9_close_22 : decode cX9_close 22 = .ok (.iconst 0, 1) := by decide +kernel
theorem dX9_close_23 : decode cX9_close 23 = .ok (.istore_n 2, 1) := by decide +kernel
theorem dX9_close_24 : decode cX9_close 24 = .ok (.iload_n 2, 1) := by decide +kernel
theorem dX9_close_25 : decode cX9_close 25 = .ok (.aload_n 0, 1) := by decide +kernel
theorem dX9_close_26 : decode cX9_close 26 = .ok (.getfield 42, 3) := by decide +kernel
theorem dX9_close_29 : decode cX9_close 29 = .ok (.if_icmp .ge 37, 3) := by decide +kernel
theorem dX9_close_32 : decode cX9_close 32 = .ok (.aload_n 0, 1) := by decide +kernel
theorem dX9_close_33 : decode cX9_close 33 = .ok (.iload_n 2, 1) := by decide +kernel
theorem dX9_close_34 : decode cX9_close 34 = .ok (.invokevirtual 118, 3) := by decide +kernel
theorem dX9_close_37 : decode cX9_close 37 = .ok (.ifCond .eq 23, 3) := by decide +kernel
theorem dX9_close_40 : decode cX9_close 40 = .ok (.iload_n 1, 1) := by decide +kernel
theorem dX9_close_41 : decode cX9_close 41 = .ok (.aload_n 0, 1) := by decide +kernel
theorem dX9_close_42 : decode cX9_close 42 = .ok (.iload_n 2, 1) := by decide +kernel
theorem dX9_close_43 : decode cX9_close 43 = .ok (.aload_n 0, 1) := by decide +kernel
theorem dX9_close_44 : decode cX9_close 44 = .ok (.getfield 115, 3) := by decide +kernel
theorem dX9_close_47 : decode cX9_close 47 = .ok (.bipush 7, 2) := by decide +kernel
theorem dX9_close_49 : decode cX9_close 49 = .ok (.idiv, 1) := by decide +kernel
theorem dX9_close_50 : decode cX9_close 50 = .ok (.aload_n 0, 1) := by decide +kernel
theorem dX9_close_51 : decode cX9_close 51 = .ok (.getfield 115, 3) := by decide +kernel
theorem dX9_close_54 : decode cX9_close 54 = .ok (.iconst 0, 1) := by decide +kernel
theorem dX9_close_55 : decode cX9_close 55 = .ok (.invokevirtual 145, 3) := by decide +kernel
theorem dX9_close_58 : decode cX9_close 58 = .ok (.iadd, 1) := by decide +kernel
theorem dX9_close_59 : decode cX9_close 59 = .ok (.istore_n 1, 1) := by decide +kernel
theorem dX9_close_60 : decode cX9_close 60 = .ok (.iinc 2 1, 3) := by decide +kernel
theorem dX9_close_63 : decode cX9_close 63 = .ok (.goto (-39), 3) := by decide +kernel
theorem dX9_close_66 : decode cX9_close 66 = .ok (.aload_n 0, 1) := by decide +kernel
theorem dX9_close_67 : decode cX9_close 67 = .ok (.dup, 1) := by decide +kernel
theorem dX9_close_68 : decode cX9_close 68 = .ok (.getfield 115, 3) := by decide +kernel
theorem dX9_close_71 : decode cX9_close 71 = .ok (.iconst 1, 1) := by decide +kernel
theorem dX9_close_72 : decode cX9_close 72 = .ok (.iadd, 1) := by decide +kernel
theorem dX9_close_73 : decode cX9_close 73 = .ok (.putfield 115, 3) := by decide +kernel
theorem dX9_close_76 : decode cX9_close 76 = .ok (.iload_n 1, 1) := by decide +kernel
theorem dX9_close_77 : decode cX9_close 77 = .ok (.ireturn, 1) := by decide +kernel
set_option maxRecDepth 20000 in
theorem gX9_settle_X9_isPerson : GoodIn wsX9_settle (wsV RX9 118 RX9 yX9_isPerson wsX9_isPerson) := goodIn_sub (fun w h => List.mem_cons_of_mem _ (List.mem_append_left _ (List.mem_append_right _ h))) (by decide +kernel)
set_option maxRecDepth 20000 in
theorem gX9_settle_X9_no : GoodIn wsX9_settle (wsV RX9 108 RX9 yX9_no wsX9_no) := goodIn_sub (fun w h => List.mem_cons_of_mem _ (List.mem_append_right _ h)) (by decide +kernel)
theorem dX9_settle_0 : decode cX9_settle 0 = .ok (.aload_n 0, 1) := by decide +kernel
theorem dX9_settle_1 : decode cX9_settle 1 = .ok (.iconst 0, 1) := by decide +kernel
theorem dX9_settle_2 : decode cX9_settle 2 = .ok (.putfield 39, 3) := by decide +kernel
theorem dX9_settle_5 : decode cX9_settle 5 = .ok (.aload_n 0, 1) := by decide +kernel
theorem dX9_settle_6 : decode cX9_settle 6 = .ok (.iload_n 1, 1) := by decide +kernel
theorem dX9_settle_7 : decode cX9_settle 7 = .ok (.invokevirtual 118, 3) := by decide +kernel
theorem dX9_settle_10 : decode cX9_settle 10 = .ok (.ifCond .eq 12, 3) := by decide +kernel
theorem dX9_settle_13 : decode cX9_settle 13 = .ok (.iload_n 2, 1) := by decide +kernel
theorem dX9_settle_14 : decode cX9_settle 14 = .ok (.iconst 0, 1) := by decide +kernel
theorem dX9_settle_15 : decode cX9_settle 15 = .ok (.iconst 3, 1) := by decide +kernel
theorem dX9_settle_16 : decode cX9_settle 16 = .ok (.invokestatic 45, 3) := by decide +kernel
theorem dX9_settle_19 : decode cX9_settle 19 = .ok (.ifCond .ne 9, 3) := by decide +kernel
theorem dX9_settle_22 : decode cX9_settle 22 = .ok (.aload_n 0, 1) := by decide +kernel
theorem dX9_settle_23 : decode cX9_settle 23 = .ok (.iconst 1, 1) := by decide +kernel
theorem dX9_settle_24 : decode cX9_settle 24 = .ok (.invokevirtual 108, 3) := by decide +kernel
theorem dX9_settle_27 : decode cX9_settle 27 = .ok (.ireturn, 1) := by decide +kernel
theorem dX9_settle_28 : decode cX9_settle 28 = .ok (.aload_n 0, 1) := by decide +kernel
theorem dX9_settle_29 : decode cX9_settle 29 = .ok (.getfield 115, 3) := by decide +kernel
theorem dX9_settle_32 : decode cX9_settle 32 = .ok (.bipush 7, 2) := by decide +kernel
theorem dX9_settle_34 : decode cX9_settle 34 = .ok (.iload_n 2, 1) := by decide +kernel
theorem dX9_settle_35 : decode cX9_settle 35 = .ok (.imul, 1) := by decide +kernel
theorem dX9_settle_36 : decode cX9_settle 36 = .ok (.if_icmp .gt 9, 3) := by decide +kernel
theorem dX9_settle_39 : decode cX9_settle 39 = .ok (.aload_n 0, 1) := by decide +kernel
theorem dX9_settle_40 : decode cX9_settle 40 = .ok (.iconst 2, 1) := by decide +kernel
theorem dX9_settle_41 : decode cX9_settle 41 = .ok (.invokevirtual 108, 3) := by decide +kernel
theorem dX9_settle_44 : decode cX9_settle 44 = .ok (.ireturn, 1) := by decide +kernel
theorem dX9_settle_45 : decode cX9_settle 45 = .ok (.aload_n 0, 1) := by decide +kernel
theorem dX9_settle_46 : decode cX9_settle 46 = .ok (.iload_n 1, 1) := by decide +kernel
theorem dX9_settle_47 : decode cX9_settle 47 = .ok (.iload_n 2, 1) := by decide +kernel
theorem dX9_settle_48 : decode cX9_settle 48 = .ok (.aload_n 0, 1) := by decide +kernel
theorem dX9_settle_49 : decode cX9_settle 49 = .ok (.getfield 115, 3) := by decide +kernel
theorem dX9_settle_52 : decode cX9_settle 52 = .ok (.bipush 7, 2) := by decide +kernel
theorem dX9_settle_54 : decode cX9_settle 54 = .ok (.iload_n 2, 1) := by decide +kernel
theorem dX9_settle_55 : decode cX9_settle 55 = .ok (.imul, 1) := by decide +kernel
theorem dX9_settle_56 : decode cX9_settle 56 = .ok (.bipush 7, 2) := by decide +kernel
theorem dX9_settle_58 : decode cX9_settle 58 = .ok (.iadd, 1) := by decide +kernel
theorem dX9_settle_59 : decode cX9_settle 59 = .ok (.invokestatic 85, 3) := by decide +kernel
theorem dX9_settle_62 : decode cX9_settle 62 = .ok (.iconst 1, 1) := by decide +kernel
theorem dX9_settle_63 : decode cX9_settle 63 = .ok (.isub, 1) := by decide +kernel
theorem dX9_settle_64 : decode cX9_settle 64 = .ok (.ldc 151, 2) := by decide +kernel
theorem dX9_settle_66 : decode cX9_settle 66 = .ok (.invokevirtual 145, 3) := by decide +kernel
theorem dX9_settle_69 : decode cX9_settle 69 = .ok (.ireturn, 1) := by decide +kernel
set_option maxRecDepth 20000 in
theorem gX9_refund_X9_isPerson : GoodIn wsX9_refund (wsV RX9 118 RX9 yX9_isPerson wsX9_isPerson) := goodIn_sub (fun w h => List.mem_cons_of_mem _ (List.mem_append_left _ (List.mem_append_right _ h))) (by decide +kernel)
set_option maxRecDepth 20000 in
theorem gX9_refund_X9_no : GoodIn wsX9_refund (wsV RX9 108 RX9 yX9_no wsX9_no) := goodIn_sub (fun w h => List.mem_cons_of_mem _ (List.mem_append_right _ h)) (by decide +kernel)
theorem dX9_refund_0 : decode cX9_refund 0 = .ok (.aload_n 0, 1) := by decide +kernel
theorem dX9_refund_1 : decode cX9_refund 1 = .ok (.iconst 0, 1) := by decide +kernel
theorem dX9_refund_2 : decode cX9_refund 2 = .ok (.putfield 39, 3) := by decide +kernel
theorem dX9_refund_5 : decode cX9_refund 5 = .ok (.aload_n 0, 1) := by decide +kernel
theorem dX9_refund_6 : decode cX9_refund 6 = .ok (.iload_n 1, 1) := by decide +kernel
theorem dX9_refund_7 : decode cX9_refund 7 = .ok (.invokevirtual 118, 3) := by decide +kernel
theorem dX9_refund_10 : decode cX9_refund 10 = .ok (.ifCond .eq 19, 3) := by decide +kernel
theorem dX9_refund_13 : decode cX9_refund 13 = .ok (.iload_n 2, 1) := by decide +kernel
theorem dX9_refund_14 : decode cX9_refund 14 = .ok (.iconst 0, 1) := by decide +kernel
theorem dX9_refund_15 : decode cX9_refund 15 = .ok (.iconst 5, 1) := by decide +kernel
theorem dX9_refund_16 : decode cX9_refund 16 = .ok (.invokestatic 45, 3) := by decide +kernel
theorem dX9_refund_19 : decode cX9_refund 19 = .ok (.ifCond .eq 10, 3) := by decide +kernel
theorem dX9_refund_22 : decode cX9_refund 22 = .ok (.iload_n 3, 1) := by decide +kernel
theorem dX9_refund_23 : decode cX9_refund 23 = .ok (.invokestatic 112, 3) := by decide +kernel
theorem dX9_refund_26 : decode cX9_refund 26 = .ok (.ifCond .ne 9, 3) := by decide +kernel
theorem dX9_refund_29 : decode cX9_refund 29 = .ok (.aload_n 0, 1) := by decide +kernel
theorem dX9_refund_30 : decode cX9_refund 30 = .ok (.iconst 1, 1) := by decide +kernel
theorem dX9_refund_31 : decode cX9_refund 31 = .ok (.invokevirtual 108, 3) := by decide +kernel
theorem dX9_refund_34 : decode cX9_refund 34 = .ok (.ireturn, 1) := by decide +kernel
theorem dX9_refund_35 : decode cX9_refund 35 = .ok (.iload_n 1, 1) := by decide +kernel
theorem dX9_refund_36 : decode cX9_refund 36 = .ok (.bipush 6, 2) := by decide +kernel
theorem dX9_refund_38 : decode cX9_refund 38 = .ok (.imul, 1) := by decide +kernel
theorem dX9_refund_39 : decode cX9_refund 39 = .ok (.iload_n 2, 1) := by decide +kernel
theorem dX9_refund_40 : decode cX9_refund 40 = .ok (.iadd, 1) := by decide +kernel
theorem dX9_refund_41 : decode cX9_refund 41 = .ok (.bipush 28, 2) := by decide +kernel
theorem dX9_refund_43 : decode cX9_refund 43 = .ok (.imul, 1) := by decide +kernel
theorem dX9_refund_44 : decode cX9_refund 44 = .ok (.iload_n 3, 1) := by decide +kernel
theorem dX9_refund_45 : decode cX9_refund 45 = .ok (.iadd, 1) := by decide +kernel
theorem dX9_refund_46 : decode cX9_refund 46 = .ok (.istore 4, 2) := by decide +kernel
theorem dX9_refund_48 : decode cX9_refund 48 = .ok (.aload_n 0, 1) := by decide +kernel
theorem dX9_refund_49 : decode cX9_refund 49 = .ok (.getfield 32, 3) := by decide +kernel
theorem dX9_refund_52 : decode cX9_refund 52 = .ok (.iload_n 2, 1) := by decide +kernel
theorem dX9_refund_53 : decode cX9_refund 53 = .ok (.aaload, 1) := by decide +kernel
theorem dX9_refund_54 : decode cX9_refund 54 = .ok (.iload_n 3, 1) := by decide +kernel
theorem dX9_refund_55 : decode cX9_refund 55 = .ok (.iaload, 1) := by decide +kernel
theorem dX9_refund_56 : decode cX9_refund 56 = .ok (.bipush 30, 2) := by decide +kernel
theorem dX9_refund_58 : decode cX9_refund 58 = .ok (.if_icmp .lt 13, 3) := by decide +kernel
theorem dX9_refund_61 : decode cX9_refund 61 = .ok (.aload_n 0, 1) := by decide +kernel
theorem dX9_refund_62 : decode cX9_refund 62 = .ok (.getfield 35, 3) := by decide +kernel
theorem dX9_refund_65 : decode cX9_refund 65 = .ok (.iload 4, 2) := by decide +kernel
theorem dX9_refund_67 : decode cX9_refund 67 = .ok (.baload, 1) := by decide +kernel
theorem dX9_refund_68 : decode cX9_refund 68 = .ok (.ifCond .eq 9, 3) := by decide +kernel
theorem dX9_refund_71 : decode cX9_refund 71 = .ok (.aload_n 0, 1) := by decide +kernel
theorem dX9_refund_72 : decode cX9_refund 72 = .ok (.iconst 2, 1) := by decide +kernel
theorem dX9_refund_73 : decode cX9_refund 73 = .ok (.invokevirtual 108, 3) := by decide +kernel
theorem dX9_refund_76 : decode cX9_refund 76 = .ok (.ireturn, 1) := by decide +kernel
theorem dX9_refund_77 : decode cX9_refund 77 = .ok (.aload_n 0, 1) := by decide +kernel
theorem dX9_refund_78 : decode cX9_refund 78 = .ok (.getfield 35, 3) := by decide +kernel
theorem dX9_refund_81 : decode cX9_refund 81 = .ok (.iload 4, 2) := by decide +kernel
theorem dX9_refund_83 : decode cX9_refund 83 = .ok (.iconst 1, 1) := by decide +kernel
theorem dX9_refund_84 : decode cX9_refund 84 = .ok (.bastore, 1) := by decide +kernel
theorem dX9_refund_85 : decode cX9_refund 85 = .ok (.aload_n 0, 1) := by decide +kernel
theorem dX9_refund_86 : decode cX9_refund 86 = .ok (.iload_n 1, 1) := by decide +kernel
theorem dX9_refund_87 : decode cX9_refund 87 = .ok (.iconst (-1), 1) := by decide +kernel
theorem dX9_refund_88 : decode cX9_refund 88 = .ok (.invokevirtual 135, 3) := by decide +kernel
theorem dX9_refund_91 : decode cX9_refund 91 = .ok (.iload_n 3, 1) := by decide +kernel
theorem dX9_refund_92 : decode cX9_refund 92 = .ok (.aaload, 1) := by decide +kernel
theorem dX9_refund_93 : decode cX9_refund 93 = .ok (.astore 5, 2) := by decide +kernel
theorem dX9_refund_95 : decode cX9_refund 95 = .ok (.aload_n 0, 1) := by decide +kernel
theorem dX9_refund_96 : decode cX9_refund 96 = .ok (.aload 5, 2) := by decide +kernel
theorem dX9_refund_98 : decode cX9_refund 98 = .ok (.iload_n 3, 1) := by decide +kernel
theorem dX9_refund_99 : decode cX9_refund 99 = .ok (.invokevirtual 96, 3) := by decide +kernel
theorem dX9_refund_102 : decode cX9_refund 102 = .ok (.astore 6, 2) := by decide +kernel
theorem dX9_refund_104 : decode cX9_refund 104 = .ok (.iconst 0, 1) := by decide +kernel
theorem dX9_refund_105 : decode cX9_refund 105 = .ok (.istore 7, 2) := by decide +kernel
theorem dX9_refund_107 : decode cX9_refund 107 = .ok (.iconst 0, 1) := by decide +kernel
theorem dX9_refund_108 : decode cX9_refund 108 = .ok (.istore 8, 2) := by decide +kernel
theorem dX9_refund_110 : decode cX9_refund 110 = .ok (.iload 8, 2) := by decide +kernel
theorem dX9_refund_112 : decode cX9_refund 112 = .ok (.aload 6, 2) := by decide +kernel
theorem dX9_refund_114 : decode cX9_refund 114 = .ok (.arraylength, 1) := by decide +kernel
theorem dX9_refund_115 : decode cX9_refund 115 = .ok (.if_icmp .ge 95, 3) := by decide +kernel
theorem dX9_refund_118 : decode cX9_refund 118 = .ok (.iconst 0, 1) := by decide +kernel
theorem dX9_refund_119 : decode cX9_refund 119 = .ok (.istore 9, 2) := by decide +kernel
theorem dX9_refund_121 : decode cX9_refund 121 = .ok (.aload 5, 2) := by decide +kernel
theorem dX9_refund_123 : decode cX9_refund 123 = .ok (.astore 10, 2) := by decide +kernel
theorem dX9_refund_125 : decode cX9_refund 125 = .ok (.aload 10, 2) := by decide +kernel
theorem dX9_refund_127 : decode cX9_refund 127 = .ok (.arraylength, 1) := by decide +kernel
theorem dX9_refund_128 : decode cX9_refund 128 = .ok (.istore 11, 2) := by decide +kernel
theorem dX9_refund_130 : decode cX9_refund 130 = .ok (.iconst 0, 1) := by decide +kernel
theorem dX9_refund_131 : decode cX9_refund 131 = .ok (.istore 12, 2) := by decide +kernel
theorem dX9_refund_133 : decode cX9_refund 133 = .ok (.iload 12, 2) := by decide +kernel
theorem dX9_refund_135 : decode cX9_refund 135 = .ok (.iload 11, 2) := by decide +kernel
theorem dX9_refund_137 : decode cX9_refund 137 = .ok (.if_icmp .ge 44, 3) := by decide +kernel
theorem dX9_refund_140 : decode cX9_refund 140 = .ok (.aload 10, 2) := by decide +kernel
theorem dX9_refund_142 : decode cX9_refund 142 = .ok (.iload 12, 2) := by decide +kernel
theorem dX9_refund_144 : decode cX9_refund 144 = .ok (.aaload, 1) := by decide +kernel
theorem dX9_refund_145 : decode cX9_refund 145 = .ok (.astore 13, 2) := by decide +kernel
theorem dX9_refund_147 : decode cX9_refund 147 = .ok (.iload 9, 2) := by decide +kernel
theorem dX9_refund_149 : decode cX9_refund 149 = .ok (.aload 13, 2) := by decide +kernel
theorem dX9_refund_151 : decode cX9_refund 151 = .ok (.bipush 6, 2) := by decide +kernel
theorem dX9_refund_153 : decode cX9_refund 153 = .ok (.iaload, 1) := by decide +kernel
theorem dX9_refund_154 : decode cX9_refund 154 = .ok (.iload 8, 2) := by decide +kernel
theorem dX9_refund_156 : decode cX9_refund 156 = .ok (.if_icmp .ne 15, 3) := by decide +kernel
theorem dX9_refund_159 : decode cX9_refund 159 = .ok (.aload 13, 2) := by decide +kernel
theorem dX9_refund_161 : decode cX9_refund 161 = .ok (.iconst 4, 1) := by decide +kernel
theorem dX9_refund_162 : decode cX9_refund 162 = .ok (.iaload, 1) := by decide +kernel
theorem dX9_refund_163 : decode cX9_refund 163 = .ok (.iload_n 2, 1) := by decide +kernel
theorem dX9_refund_164 : decode cX9_refund 164 = .ok (.if_icmp .ne 7, 3) := by decide +kernel
theorem dX9_refund_167 : decode cX9_refund 167 = .ok (.iconst 1, 1) := by decide +kernel
theorem dX9_refund_168 : decode cX9_refund 168 = .ok (.goto 4, 3) := by decide +kernel
theorem dX9_refund_171 : decode cX9_refund 171 = .ok (.iconst 0, 1) := by decide +kernel
theorem dX9_refund_172 : decode cX9_refund 172 = .ok (.ior, 1) := by decide +kernel
theorem dX9_refund_173 : decode cX9_refund 173 = .ok (.istore 9, 2) := by decide +kernel
theorem dX9_refund_175 : decode cX9_refund 175 = .ok (.iinc 12 1, 3) := by decide +kernel
theorem dX9_refund_178 : decode cX9_refund 178 = .ok (.goto (-45), 3) := by decide +kernel
theorem dX9_refund_181 : decode cX9_refund 181 = .ok (.iload 7, 2) := by decide +kernel
theorem dX9_refund_183 : decode cX9_refund 183 = .ok (.iload 9, 2) := by decide +kernel
theorem dX9_refund_185 : decode cX9_refund 185 = .ok (.ifCond .eq 15, 3) := by decide +kernel
theorem dX9_refund_188 : decode cX9_refund 188 = .ok (.aload 6, 2) := by decide +kernel
theorem dX9_refund_190 : decode cX9_refund 190 = .ok (.iload 8, 2) := by decide +kernel
theorem dX9_refund_192 : decode cX9_refund 192 = .ok (.aaload, 1) := by decide +kernel
theorem dX9_refund_193 : decode cX9_refund 193 = .ok (.iconst 3, 1) := by decide +kernel
theorem dX9_refund_194 : decode cX9_refund 194 = .ok (.iaload, 1) := by decide +kernel
theorem dX9_refund_195 : decode cX9_refund 195 = .ok (.iconst 2, 1) := by decide +kernel
theorem dX9_refund_196 : decode cX9_refund 196 = .ok (.idiv, 1) := by decide +kernel
theorem dX9_refund_197 : decode cX9_refund 197 = .ok (.goto 4, 3) := by decide +kernel
theorem dX9_refund_200 : decode cX9_refund 200 = .ok (.iconst 0, 1) := by decide +kernel
theorem dX9_refund_201 : decode cX9_refund 201 = .ok (.iadd, 1) := by decide +kernel
theorem dX9_refund_202 : decode cX9_refund 202 = .ok (.istore 7, 2) := by decide +kernel
theorem dX9_refund_204 : decode cX9_refund 204 = .ok (.iinc 8 1, 3) := by decide +kernel
theorem dX9_refund_207 : decode cX9_refund 207 = .ok (.goto (-97), 3) := by decide +kernel
theorem dX9_refund_210 : decode cX9_refund 210 = .ok (.aload_n 0, 1) := by decide +kernel
theorem dX9_refund_211 : decode cX9_refund 211 = .ok (.getfield 26, 3) := by decide +kernel
theorem dX9_refund_214 : decode cX9_refund 214 = .ok (.iload_n 1, 1) := by decide +kernel
theorem dX9_refund_215 : decode cX9_refund 215 = .ok (.aaload, 1) := by decide +kernel
theorem dX9_refund_216 : decode cX9_refund 216 = .ok (.iconst 0, 1) := by decide +kernel
theorem dX9_refund_217 : decode cX9_refund 217 = .ok (.dup2, 1) := by decide +kernel
theorem dX9_refund_218 : decode cX9_refund 218 = .ok (.iaload, 1) := by decide +kernel
theorem dX9_refund_219 : decode cX9_refund 219 = .ok (.iload 7, 2) := by decide +kernel
theorem dX9_refund_221 : decode cX9_refund 221 = .ok (.iadd, 1) := by decide +kernel
theorem dX9_refund_222 : decode cX9_refund 222 = .ok (.iastore, 1) := by decide +kernel
theorem dX9_refund_223 : decode cX9_refund 223 = .ok (.aload_n 0, 1) := by decide +kernel
theorem dX9_refund_224 : decode cX9_refund 224 = .ok (.dup, 1) := by decide +kernel
theorem dX9_refund_225 : decode cX9_refund 225 = .ok (.getfield 152, 3) := by decide +kernel
theorem dX9_refund_228 : decode cX9_refund 228 = .ok (.iload 7, 2) := by decide +kernel
theorem dX9_refund_230 : decode cX9_refund 230 = .ok (.iadd, 1) := by decide +kernel
theorem dX9_refund_231 : decode cX9_refund 231 = .ok (.putfield 152, 3) := by decide +kernel
theorem dX9_refund_234 : decode cX9_refund 234 = .ok (.iload 7, 2) := by decide +kernel
theorem dX9_refund_236 : decode cX9_refund 236 = .ok (.ireturn, 1) := by decide +kernel
set_option maxRecDepth 20000 in
theorem ggX9_ofCard_X9_isCard : GoodIn wsX9_ofCard wsX9_isCard := goodIn_r _ [7, 8, 9, 10, 6, 11, 16, 17, 18, 19, 20, 21, 22, 23, 24, 25, 26, 27, 28, 29, 30, 31] (by decide +kernel) (by decide +kernel)
set_option maxRecDepth 20000 in
theorem gX9_ofCard_X9_isCard : GoodIn wsX9_ofCard (wsV RX9 49 RX9 yX9_isCard wsX9_isCard) := goodIn_app (goodIn_of _ (by decide +kernel)) ggX9_ofCard_X9_isCard
set_option maxRecDepth 20000 in
theorem ggX9_ofCard_X9_no : GoodIn wsX9_ofCard wsX9_no := goodIn_r _ [15, 1, 16, 17, 18, 19, 20, 21, 22, 23, 24, 25, 26, 27, 28, 29, 30, 31] (by decide +kernel) (by decide +kernel)
set_option maxRecDepth 20000 in
theorem gX9_ofCard_X9_no : GoodIn wsX9_ofCard (wsV RX9 108 RX9 yX9_no wsX9_no) := goodIn_app (goodIn_of _ (by decide +kernel)) ggX9_ofCard_X9_no
set_option maxRecDepth 20000 in
theorem ggX9_ofCard_X9_in : GoodIn wsX9_ofCard wsX9_in := goodIn_r _ [11] (by decide +kernel) (by decide +kernel)
set_option maxRecDepth 20000 in
theorem gX9_ofCard_X9_in : GoodIn wsX9_ofCard (va_wsS RX9 45 yX9_in wsX9_in) := goodIn_app (goodIn_of _ (by decide +kernel)) ggX9_ofCard_X9_in
theorem dX9_ofCard_0 : decode cX9_ofCard 0 = .ok (.aload_n 0, 1) := by decide +kernel
theorem dX9_ofCard_1 : decode cX9_ofCard 1 = .ok (.iconst 0, 1) := by decide +kernel
theorem dX9_ofCard_2 : decode cX9_ofCard 2 = .ok (.putfield 39, 3) := by decide +kernel
theorem dX9_ofCard_5 : decode cX9_ofCard 5 = .ok (.aload_n 0, 1) := by decide +kernel
theorem dX9_ofCard_6 : decode cX9_ofCard 6 = .ok (.iload_n 1, 1) := by decide +kernel
theorem dX9_ofCard_7 : decode cX9_ofCard 7 = .ok (.invokevirtual 49, 3) := by decide +kernel
theorem dX9_ofCard_10 : decode cX9_ofCard 10 = .ok (.ifCond .ne 9, 3) := by decide +kernel
theorem dX9_ofCard_13 : decode cX9_ofCard 13 = .ok (.aload_n 0, 1) := by decide +kernel
theorem dX9_ofCard_14 : decode cX9_ofCard 14 = .ok (.iconst 1, 1) := by decide +kernel
theorem dX9_ofCard_15 : decode cX9_ofCard 15 = .ok (.invokevirtual 108, 3) := by decide +kernel
theorem dX9_ofCard_18 : decode cX9_ofCard 18 = .ok (.ireturn, 1) := by decide +kernel
theorem dX9_ofCard_19 : decode cX9_ofCard 19 = .ok (.iload_n 2, 1) := by decide +kernel
theorem dX9_ofCard_20 : decode cX9_ofCard 20 = .ok (.iconst 0, 1) := by decide +kernel
theorem dX9_ofCard_21 : decode cX9_ofCard 21 = .ok (.bipush 7, 2) := by decide +kernel
theorem dX9_ofCard_23 : decode cX9_ofCard 23 = .ok (.invokestatic 45, 3) := by decide +kernel
theorem dX9_ofCard_26 : decode cX9_ofCard 26 = .ok (.ifCond .ne 9, 3) := by decide +kernel
theorem dX9_ofCard_29 : decode cX9_ofCard 29 = .ok (.aload_n 0, 1) := by decide +kernel
theorem dX9_ofCard_30 : decode cX9_ofCard 30 = .ok (.iconst 2, 1) := by decide +kernel
theorem dX9_ofCard_31 : decode cX9_ofCard 31 = .ok (.invokevirtual 108, 3) := by decide +kernel
theorem dX9_ofCard_34 : decode cX9_ofCard 34 = .ok (.ireturn, 1) := by decide +kernel
theorem dX9_ofCard_35 : decode cX9_ofCard 35 = .ok (.aload_n 0, 1) := by decide +kernel
theorem dX9_ofCard_36 : decode cX9_ofCard 36 = .ok (.getfield 26, 3) := by decide +kernel
theorem dX9_ofCard_39 : decode cX9_ofCard 39 = .ok (.iload_n 1, 1) := by decide +kernel
theorem dX9_ofCard_40 : decode cX9_ofCard 40 = .ok (.aaload, 1) := by decide +kernel
theorem dX9_ofCard_41 : decode cX9_ofCard 41 = .ok (.iload_n 2, 1) := by decide +kernel
theorem dX9_ofCard_42 : decode cX9_ofCard 42 = .ok (.iaload, 1) := by decide +kernel
theorem dX9_ofCard_43 : decode cX9_ofCard 43 = .ok (.ireturn, 1) := by decide +kernel
set_option maxRecDepth 20000 in
theorem gX9_ofDay_X9_isPerson : GoodIn wsX9_ofDay (wsV RX9 118 RX9 yX9_isPerson wsX9_isPerson) := goodIn_sub (fun w h => List.mem_cons_of_mem _ (List.mem_append_left _ (List.mem_append_right _ h))) (by decide +kernel)
set_option maxRecDepth 20000 in
theorem gX9_ofDay_X9_no : GoodIn wsX9_ofDay (wsV RX9 108 RX9 yX9_no wsX9_no) := goodIn_sub (fun w h => List.mem_cons_of_mem _ (List.mem_append_right _ h)) (by decide +kernel)
theorem dX9_ofDay_0 : decode cX9_ofDay 0 = .ok (.aload_n 0, 1) := by decide +kernel
theorem dX9_ofDay_1 : decode cX9_ofDay 1 = .ok (.iconst 0, 1) := by decide +kernel
theorem dX9_ofDay_2 : decode cX9_ofDay 2 = .ok (.putfield 39, 3) := by decide +kernel
theorem dX9_ofDay_5 : decode cX9_ofDay 5 = .ok (.aload_n 0, 1) := by decide +kernel
theorem dX9_ofDay_6 : decode cX9_ofDay 6 = .ok (.iload_n 1, 1) := by decide +kernel
theorem dX9_ofDay_7 : decode cX9_ofDay 7 = .ok (.invokevirtual 118, 3) := by decide +kernel
theorem dX9_ofDay_10 : decode cX9_ofDay 10 = .ok (.ifCond .eq 10, 3) := by decide +kernel
theorem dX9_ofDay_13 : decode cX9_ofDay 13 = .ok (.iload_n 2, 1) := by decide +kernel
theorem dX9_ofDay_14 : decode cX9_ofDay 14 = .ok (.invokestatic 112, 3) := by decide +kernel
theorem dX9_ofDay_17 : decode cX9_ofDay 17 = .ok (.ifCond .ne 9, 3) := by decide +kernel
theorem dX9_ofDay_20 : decode cX9_ofDay 20 = .ok (.aload_n 0, 1) := by decide +kernel
theorem dX9_ofDay_21 : decode cX9_ofDay 21 = .ok (.iconst 1, 1) := by decide +kernel
theorem dX9_ofDay_22 : decode cX9_ofDay 22 = .ok (.invokevirtual 108, 3) := by decide +kernel
theorem dX9_ofDay_25 : decode cX9_ofDay 25 = .ok (.ireturn, 1) := by decide +kernel
theorem dX9_ofDay_26 : decode cX9_ofDay 26 = .ok (.iload_n 3, 1) := by decide +kernel
theorem dX9_ofDay_27 : decode cX9_ofDay 27 = .ok (.iconst 0, 1) := by decide +kernel
theorem dX9_ofDay_28 : decode cX9_ofDay 28 = .ok (.bipush 7, 2) := by decide +kernel
theorem dX9_ofDay_30 : decode cX9_ofDay 30 = .ok (.invokestatic 45, 3) := by decide +kernel
theorem dX9_ofDay_33 : decode cX9_ofDay 33 = .ok (.ifCond .ne 9, 3) := by decide +kernel
theorem dX9_ofDay_36 : decode cX9_ofDay 36 = .ok (.aload_n 0, 1) := by decide +kernel
theorem dX9_ofDay_37 : decode cX9_ofDay 37 = .ok (.iconst 2, 1) := by decide +kernel
theorem dX9_ofDay_38 : decode cX9_ofDay 38 = .ok (.invokevirtual 108, 3) := by decide +kernel
theorem dX9_ofDay_41 : decode cX9_ofDay 41 = .ok (.ireturn, 1) := by decide +kernel
theorem dX9_ofDay_42 : decode cX9_ofDay 42 = .ok (.aload_n 0, 1) := by decide +kernel
theorem dX9_ofDay_43 : decode cX9_ofDay 43 = .ok (.aload_n 0, 1) := by decide +kernel
theorem dX9_ofDay_44 : decode cX9_ofDay 44 = .ok (.iload_n 1, 1) := by decide +kernel
theorem dX9_ofDay_45 : decode cX9_ofDay 45 = .ok (.iconst (-1), 1) := by decide +kernel
theorem dX9_ofDay_46 : decode cX9_ofDay 46 = .ok (.invokevirtual 135, 3) := by decide +kernel
theorem dX9_ofDay_49 : decode cX9_ofDay 49 = .ok (.iload_n 1, 1) := by decide +kernel
theorem dX9_ofDay_50 : decode cX9_ofDay 50 = .ok (.iload_n 2, 1) := by decide +kernel
theorem dX9_ofDay_51 : decode cX9_ofDay 51 = .ok (.iload_n 3, 1) := by decide +kernel
theorem dX9_ofDay_52 : decode cX9_ofDay 52 = .ok (.invokevirtual 155, 3) := by decide +kernel
theorem dX9_ofDay_55 : decode cX9_ofDay 55 = .ok (.ireturn, 1) := by decide +kernel
set_option maxRecDepth 20000 in
theorem gX9_ofLeg_X9_isPerson : GoodIn wsX9_ofLeg (wsV RX9 118 RX9 yX9_isPerson wsX9_isPerson) := goodIn_sub (fun w h => List.mem_cons_of_mem _ (List.mem_append_left _ (List.mem_append_right _ h))) (by decide +kernel)
set_option maxRecDepth 20000 in
theorem gX9_ofLeg_X9_no : GoodIn wsX9_ofLeg (wsV RX9 108 RX9 yX9_no wsX9_no) := goodIn_sub (fun w h => List.mem_cons_of_mem _ (List.mem_append_right _ h)) (by decide +kernel)
theorem dX9_ofLeg_0 : decode cX9_ofLeg 0 = .ok (.aload_n 0, 1) := by decide +kernel
theorem dX9_ofLeg_1 : decode cX9_ofLeg 1 = .ok (.iconst 0, 1) := by decide +kernel
theorem dX9_ofLeg_2 : decode cX9_ofLeg 2 = .ok (.putfield 39, 3) := by decide +kernel
theorem dX9_ofLeg_5 : decode cX9_ofLeg 5 = .ok (.aload_n 0, 1) := by decide +kernel
theorem dX9_ofLeg_6 : decode cX9_ofLeg 6 = .ok (.iload_n 1, 1) := by decide +kernel
theorem dX9_ofLeg_7 : decode cX9_ofLeg 7 = .ok (.invokevirtual 118, 3) := by decide +kernel
theorem dX9_ofLeg_10 : decode cX9_ofLeg 10 = .ok (.ifCond .eq 10, 3) := by decide +kernel
theorem dX9_ofLeg_13 : decode cX9_ofLeg 13 = .ok (.iload_n 2, 1) := by decide +kernel
theorem dX9_ofLeg_14 : decode cX9_ofLeg 14 = .ok (.invokestatic 112, 3) := by decide +kernel
theorem dX9_ofLeg_17 : decode cX9_ofLeg 17 = .ok (.ifCond .ne 9, 3) := by decide +kernel
theorem dX9_ofLeg_20 : decode cX9_ofLeg 20 = .ok (.aload_n 0, 1) := by decide +kernel
theorem dX9_ofLeg_21 : decode cX9_ofLeg 21 = .ok (.iconst 1, 1) := by decide +kernel
theorem dX9_ofLeg_22 : decode cX9_ofLeg 22 = .ok (.invokevirtual 108, 3) := by decide +kernel
theorem dX9_ofLeg_25 : decode cX9_ofLeg 25 = .ok (.ireturn, 1) := by decide +kernel
theorem dX9_ofLeg_26 : decode cX9_ofLeg 26 = .ok (.aload_n 0, 1) := by decide +kernel
theorem dX9_ofLeg_27 : decode cX9_ofLeg 27 = .ok (.iload_n 1, 1) := by decide +kernel
theorem dX9_ofLeg_28 : decode cX9_ofLeg 28 = .ok (.iconst (-1), 1) := by decide +kernel
theorem dX9_ofLeg_29 : decode cX9_ofLeg 29 = .ok (.invokevirtual 135, 3) := by decide +kernel
theorem dX9_ofLeg_32 : decode cX9_ofLeg 32 = .ok (.iload_n 2, 1) := by decide +kernel
theorem dX9_ofLeg_33 : decode cX9_ofLeg 33 = .ok (.aaload, 1) := by decide +kernel
theorem dX9_ofLeg_34 : decode cX9_ofLeg 34 = .ok (.astore 5, 2) := by decide +kernel
theorem dX9_ofLeg_36 : decode cX9_ofLeg 36 = .ok (.iload_n 3, 1) := by decide +kernel
theorem dX9_ofLeg_37 : decode cX9_ofLeg 37 = .ok (.iconst 0, 1) := by decide +kernel
theorem dX9_ofLeg_38 : decode cX9_ofLeg 38 = .ok (.aload 5, 2) := by decide +kernel
theorem dX9_ofLeg_40 : decode cX9_ofLeg 40 = .ok (.arraylength, 1) := by decide +kernel
theorem dX9_ofLeg_41 : decode cX9_ofLeg 41 = .ok (.iconst 1, 1) := by decide +kernel
theorem dX9_ofLeg_42 : decode cX9_ofLeg 42 = .ok (.isub, 1) := by decide +kernel
theorem dX9_ofLeg_43 : decode cX9_ofLeg 43 = .ok (.invokestatic 45, 3) := by decide +kernel
theorem dX9_ofLeg_46 : decode cX9_ofLeg 46 = .ok (.ifCond .ne 9, 3) := by decide +kernel
theorem dX9_ofLeg_49 : decode cX9_ofLeg 49 = .ok (.aload_n 0, 1) := by decide +kernel
theorem dX9_ofLeg_50 : decode cX9_ofLeg 50 = .ok (.iconst 1, 1) := by decide +kernel
theorem dX9_ofLeg_51 : decode cX9_ofLeg 51 = .ok (.invokevirtual 108, 3) := by decide +kernel
theorem dX9_ofLeg_54 : decode cX9_ofLeg 54 = .ok (.ireturn, 1) := by decide +kernel
theorem dX9_ofLeg_55 : decode cX9_ofLeg 55 = .ok (.iload 4, 2) := by decide +kernel
theorem dX9_ofLeg_57 : decode cX9_ofLeg 57 = .ok (.iconst 0, 1) := by decide +kernel
theorem dX9_ofLeg_58 : decode cX9_ofLeg 58 = .ok (.bipush 6, 2) := by decide +kernel
theorem dX9_ofLeg_60 : decode cX9_ofLeg 60 = .ok (.invokestatic 45, 3) := by decide +kernel
theorem dX9_ofLeg_63 : decode cX9_ofLeg 63 = .ok (.ifCond .ne 9, 3) := by decide +kernel
theorem dX9_ofLeg_66 : decode cX9_ofLeg 66 = .ok (.aload_n 0, 1) := by decide +kernel
theorem dX9_ofLeg_67 : decode cX9_ofLeg 67 = .ok (.iconst 2, 1) := by decide +kernel
theorem dX9_ofLeg_68 : decode cX9_ofLeg 68 = .ok (.invokevirtual 108, 3) := by decide +kernel
theorem dX9_ofLeg_71 : decode cX9_ofLeg 71 = .ok (.ireturn, 1) := by decide +kernel
theorem dX9_ofLeg_72 : decode cX9_ofLeg 72 = .ok (.aload 5, 2) := by decide +kernel
theorem dX9_ofLeg_74 : decode cX9_ofLeg 74 = .ok (.iload_n 3, 1) := by decide +kernel
theorem dX9_ofLeg_75 : decode cX9_ofLeg 75 = .ok (.aaload, 1) := by decide +kernel
theorem dX9_ofLeg_76 : decode cX9_ofLeg 76 = .ok (.iload 4, 2) := by decide +kernel
theorem dX9_ofLeg_78 : decode cX9_ofLeg 78 = .ok (.iaload, 1) := by decide +kernel
theorem dX9_ofLeg_79 : decode cX9_ofLeg 79 = .ok (.ireturn, 1) := by decide +kernel
set_option maxRecDepth 20000 in
theorem gX9_ofJourney_X9_isPerson : GoodIn wsX9_ofJourney (wsV RX9 118 RX9 yX9_isPerson wsX9_isPerson) := goodIn_sub (fun w h => List.mem_cons_of_mem _ (List.mem_append_left _ (List.mem_append_right _ h))) (by decide +kernel)
set_option maxRecDepth 20000 in
theorem gX9_ofJourney_X9_no : GoodIn wsX9_ofJourney (wsV RX9 108 RX9 yX9_no wsX9_no) := goodIn_sub (fun w h => List.mem_cons_of_mem _ (List.mem_append_right _ h)) (by decide +kernel)
theorem dX9_ofJourney_0 : decode cX9_ofJourney 0 = .ok (.aload_n 0, 1) := by decide +kernel
theorem dX9_ofJourney_1 : decode cX9_ofJourney 1 = .ok (.iconst 0, 1) := by decide +kernel
theorem dX9_ofJourney_2 : decode cX9_ofJourney 2 = .ok (.putfield 39, 3) := by decide +kernel
theorem dX9_ofJourney_5 : decode cX9_ofJourney 5 = .ok (.aload_n 0, 1) := by decide +kernel
theorem dX9_ofJourney_6 : decode cX9_ofJourney 6 = .ok (.iload_n 1, 1) := by decide +kernel
theorem dX9_ofJourney_7 : decode cX9_ofJourney 7 = .ok (.invokevirtual 118, 3) := by decide +kernel
theorem dX9_ofJourney_10 : decode cX9_ofJourney 10 = .ok (.ifCond .eq 10, 3) := by decide +kernel
theorem dX9_ofJourney_13 : decode cX9_ofJourney 13 = .ok (.iload_n 2, 1) := by decide +kernel
theorem dX9_ofJourney_14 : decode cX9_ofJourney 14 = .ok (.invokestatic 112, 3) := by decide +kernel
theorem dX9_ofJourney_17 : decode cX9_ofJourney 17 = .ok (.ifCond .ne 9, 3) := by decide +kernel
theorem dX9_ofJourney_20 : decode cX9_ofJourney 20 = .ok (.aload_n 0, 1) := by decide +kernel
theorem dX9_ofJourney_21 : decode cX9_ofJourney 21 = .ok (.iconst 1, 1) := by decide +kernel
theorem dX9_ofJourney_22 : decode cX9_ofJourney 22 = .ok (.invokevirtual 108, 3) := by decide +kernel
theorem dX9_ofJourney_25 : decode cX9_ofJourney 25 = .ok (.ireturn, 1) := by decide +kernel
theorem dX9_ofJourney_26 : decode cX9_ofJourney 26 = .ok (.aload_n 0, 1) := by decide +kernel
theorem dX9_ofJourney_27 : decode cX9_ofJourney 27 = .ok (.aload_n 0, 1) := by decide +kernel
theorem dX9_ofJourney_28 : decode cX9_ofJourney 28 = .ok (.iload_n 1, 1) := by decide +kernel
theorem dX9_ofJourney_29 : decode cX9_ofJourney 29 = .ok (.iconst (-1), 1) := by decide +kernel
theorem dX9_ofJourney_30 : decode cX9_ofJourney 30 = .ok (.invokevirtual 135, 3) := by decide +kernel
theorem dX9_ofJourney_33 : decode cX9_ofJourney 33 = .ok (.iload_n 2, 1) := by decide +kernel
theorem dX9_ofJourney_34 : decode cX9_ofJourney 34 = .ok (.aaload, 1) := by decide +kernel
theorem dX9_ofJourney_35 : decode cX9_ofJourney 35 = .ok (.iload_n 2, 1) := by decide +kernel
theorem dX9_ofJourney_36 : decode cX9_ofJourney 36 = .ok (.invokevirtual 96, 3) := by decide +kernel
theorem dX9_ofJourney_39 : decode cX9_ofJourney 39 = .ok (.astore 5, 2) := by decide +kernel
theorem dX9_ofJourney_41 : decode cX9_ofJourney 41 = .ok (.iload_n 3, 1) := by decide +kernel
theorem dX9_ofJourney_42 : decode cX9_ofJourney 42 = .ok (.iconst 0, 1) := by decide +kernel
theorem dX9_ofJourney_43 : decode cX9_ofJourney 43 = .ok (.aload 5, 2) := by decide +kernel
theorem dX9_ofJourney_45 : decode cX9_ofJourney 45 = .ok (.arraylength, 1) := by decide +kernel
theorem dX9_ofJourney_46 : decode cX9_ofJourney 46 = .ok (.iconst 1, 1) := by decide +kernel
theorem dX9_ofJourney_47 : decode cX9_ofJourney 47 = .ok (.isub, 1) := by decide +kernel
theorem dX9_ofJourney_48 : decode cX9_ofJourney 48 = .ok (.invokestatic 45, 3) := by decide +kernel
theorem dX9_ofJourney_51 : decode cX9_ofJourney 51 = .ok (.ifCond .ne 9, 3) := by decide +kernel
theorem dX9_ofJourney_54 : decode cX9_ofJourney 54 = .ok (.aload_n 0, 1) := by decide +kernel
theorem dX9_ofJourney_55 : decode cX9_ofJourney 55 = .ok (.iconst 1, 1) := by decide +kernel
theorem dX9_ofJourney_56 : decode cX9_ofJourney 56 = .ok (.invokevirtual 108, 3) := by decide +kernel
theorem dX9_ofJourney_59 : decode cX9_ofJourney 59 = .ok (.ireturn, 1) := by decide +kernel
theorem dX9_ofJourney_60 : decode cX9_ofJourney 60 = .ok (.iload 4, 2) := by decide +kernel
theorem dX9_ofJourney_62 : decode cX9_ofJourney 62 = .ok (.iconst 0, 1) := by decide +kernel
theorem dX9_ofJourney_63 : decode cX9_ofJourney 63 = .ok (.iconst 3, 1) := by decide +kernel
theorem dX9_ofJourney_64 : decode cX9_ofJourney 64 = .ok (.invokestatic 45, 3) := by decide +kernel
theorem dX9_ofJourney_67 : decode cX9_ofJourney 67 = .ok (.ifCond .ne 9, 3) := by decide +kernel
theorem dX9_ofJourney_70 : decode cX9_ofJourney 70 = .ok (.aload_n 0, 1) := by decide +kernel
theorem dX9_ofJourney_71 : decode cX9_ofJourney 71 = .ok (.iconst 2, 1) := by decide +kernel
theorem dX9_ofJourney_72 : decode cX9_ofJourney 72 = .ok (.invokevirtual 108, 3) := by decide +kernel
theorem dX9_ofJourney_75 : decode cX9_ofJourney 75 = .ok (.ireturn, 1) := by decide +kernel
theorem dX9_ofJourney_76 : decode cX9_ofJourney 76 = .ok (.aload 5, 2) := by decide +kernel
theorem dX9_ofJourney_78 : decode cX9_ofJourney 78 = .ok (.iload_n 3, 1) := by decide +kernel
theorem dX9_ofJourney_79 : decode cX9_ofJourney 79 = .ok (.aaload, 1) := by decide +kernel
theorem dX9_ofJourney_80 : decode cX9_ofJourney 80 = .ok (.iload 4, 2) := by decide +kernel
theorem dX9_ofJourney_82 : decode cX9_ofJourney 82 = .ok (.iaload, 1) := by decide +kernel
theorem dX9_ofJourney_83 : decode cX9_ofJourney 83 = .ok (.ireturn, 1) := by decide +kernel
set_option maxRecDepth 20000 in
theorem gX9_ofWeek_X9_isPerson : GoodIn wsX9_ofWeek (wsV RX9 118 RX9 yX9_isPerson wsX9_isPerson) := goodIn_sub (fun w h => List.mem_cons_of_mem _ (List.mem_append_left _ (List.mem_append_right _ h))) (by decide +kernel)
set_option maxRecDepth 20000 in
theorem gX9_ofWeek_X9_no : GoodIn wsX9_ofWeek (wsV RX9 108 RX9 yX9_no wsX9_no) := goodIn_sub (fun w h => List.mem_cons_of_mem _ (List.mem_append_right _ h)) (by decide +kernel)
theorem dX9_ofWeek_0 : decode cX9_ofWeek 0 = .ok (.aload_n 0, 1) := by decide +kernel
theorem dX9_ofWeek_1 : decode cX9_ofWeek 1 = .ok (.iconst 0, 1) := by decide +kernel
theorem dX9_ofWeek_2 : decode cX9_ofWeek 2 = .ok (.putfield 39, 3) := by decide +kernel
theorem dX9_ofWeek_5 : decode cX9_ofWeek 5 = .ok (.aload_n 0, 1) := by decide +kernel
theorem dX9_ofWeek_6 : decode cX9_ofWeek 6 = .ok (.iload_n 1, 1) := by decide +kernel
theorem dX9_ofWeek_7 : decode cX9_ofWeek 7 = .ok (.invokevirtual 118, 3) := by decide +kernel
theorem dX9_ofWeek_10 : decode cX9_ofWeek 10 = .ok (.ifCond .eq 12, 3) := by decide +kernel
theorem dX9_ofWeek_13 : decode cX9_ofWeek 13 = .ok (.iload_n 2, 1) := by decide +kernel
theorem dX9_ofWeek_14 : decode cX9_ofWeek 14 = .ok (.iconst 0, 1) := by decide +kernel
theorem dX9_ofWeek_15 : decode cX9_ofWeek 15 = .ok (.iconst 3, 1) := by decide +kernel
theorem dX9_ofWeek_16 : decode cX9_ofWeek 16 = .ok (.invokestatic 45, 3) := by decide +kernel
theorem dX9_ofWeek_19 : decode cX9_ofWeek 19 = .ok (.ifCond .ne 9, 3) := by decide +kernel
theorem dX9_ofWeek_22 : decode cX9_ofWeek 22 = .ok (.aload_n 0, 1) := by decide +kernel
theorem dX9_ofWeek_23 : decode cX9_ofWeek 23 = .ok (.iconst 1, 1) := by decide +kernel
theorem dX9_ofWeek_24 : decode cX9_ofWeek 24 = .ok (.invokevirtual 108, 3) := by decide +kernel
theorem dX9_ofWeek_27 : decode cX9_ofWeek 27 = .ok (.ireturn, 1) := by decide +kernel
theorem dX9_ofWeek_28 : decode cX9_ofWeek 28 = .ok (.iload_n 3, 1) := by decide +kernel
theorem dX9_ofWeek_29 : decode cX9_ofWeek 29 = .ok (.iconst 0, 1) := by decide +kernel
theorem dX9_ofWeek_30 : decode cX9_ofWeek 30 = .ok (.iconst 2, 1) := by decide +kernel
theorem dX9_ofWeek_31 : decode cX9_ofWeek 31 = .ok (.invokestatic 45, 3) := by decide +kernel
theorem dX9_ofWeek_34 : decode cX9_ofWeek 34 = .ok (.ifCond .ne 9, 3) := by decide +kernel
theorem dX9_ofWeek_37 : decode cX9_ofWeek 37 = .ok (.aload_n 0, 1) := by decide +kernel
theorem dX9_ofWeek_38 : decode cX9_ofWeek 38 = .ok (.iconst 2, 1) := by decide +kernel
theorem dX9_ofWeek_39 : decode cX9_ofWeek 39 = .ok (.invokevirtual 108, 3) := by decide +kernel
theorem dX9_ofWeek_42 : decode cX9_ofWeek 42 = .ok (.ireturn, 1) := by decide +kernel
theorem dX9_ofWeek_43 : decode cX9_ofWeek 43 = .ok (.aload_n 0, 1) := by decide +kernel
theorem dX9_ofWeek_44 : decode cX9_ofWeek 44 = .ok (.aload_n 0, 1) := by decide +kernel
theorem dX9_ofWeek_45 : decode cX9_ofWeek 45 = .ok (.iload_n 1, 1) := by decide +kernel
theorem dX9_ofWeek_46 : decode cX9_ofWeek 46 = .ok (.iconst (-1), 1) := by decide +kernel
theorem dX9_ofWeek_47 : decode cX9_ofWeek 47 = .ok (.invokevirtual 135, 3) := by decide +kernel
theorem dX9_ofWeek_50 : decode cX9_ofWeek 50 = .ok (.iload_n 2, 1) := by decide +kernel
theorem dX9_ofWeek_51 : decode cX9_ofWeek 51 = .ok (.iload_n 3, 1) := by decide +kernel
theorem dX9_ofWeek_52 : decode cX9_ofWeek 52 = .ok (.invokevirtual 159, 3) := by decide +kernel
theorem dX9_ofWeek_55 : decode cX9_ofWeek 55 = .ok (.ireturn, 1) := by decide +kernel
set_option maxRecDepth 20000 in
theorem gX9_share_X9_in : GoodIn wsX9_share (va_wsS RX9 45 yX9_in wsX9_in) := goodIn_sub (fun w h => List.mem_cons_of_mem _ (List.mem_append_left _ (List.mem_append_left _ (List.mem_append_right _ h)))) (by decide +kernel)
set_option maxRecDepth 20000 in
theorem gX9_share_X9_isPerson : GoodIn wsX9_share (wsV RX9 118 RX9 yX9_isPerson wsX9_isPerson) := goodIn_sub (fun w h => List.mem_cons_of_mem _ (List.mem_append_right _ h)) (by decide +kernel)
set_option maxRecDepth 20000 in
theorem gX9_share_X9_no : GoodIn wsX9_share (wsV RX9 108 RX9 yX9_no wsX9_no) := goodIn_sub (fun w h => List.mem_cons_of_mem _ (List.mem_append_left _ (List.mem_append_right _ h))) (by decide +kernel)
theorem dX9_share_0 : decode cX9_share 0 = .ok (.aload_n 0, 1) := by decide +kernel
theorem dX9_share_1 : decode cX9_share 1 = .ok (.iconst 0, 1) := by decide +kernel
theorem dX9_share_2 : decode cX9_share 2 = .ok (.putfield 39, 3) := by decide +kernel
theorem dX9_share_5 : decode cX9_share 5 = .ok (.iload_n 1, 1) := by decide +kernel
theorem dX9_share_6 : decode cX9_share 6 = .ok (.iconst 0, 1) := by decide +kernel
theorem dX9_share_7 : decode cX9_share 7 = .ok (.iconst 2, 1) := by decide +kernel
theorem dX9_share_8 : decode cX9_share 8 = .ok (.invokestatic 45, 3) := by decide +kernel
theorem dX9_share_11 : decode cX9_share 11 = .ok (.ifCond .eq 18, 3) := by decide +kernel
theorem dX9_share_14 : decode cX9_share 14 = .ok (.aload_n 0, 1) := by decide +kernel
theorem dX9_share_15 : decode cX9_share 15 = .ok (.iload_n 2, 1) := by decide +kernel
theorem dX9_share_16 : decode cX9_share 16 = .ok (.invokevirtual 118, 3) := by decide +kernel
theorem dX9_share_19 : decode cX9_share 19 = .ok (.ifCond .eq 10, 3) := by decide +kernel
theorem dX9_share_22 : decode cX9_share 22 = .ok (.iload_n 3, 1) := by decide +kernel
theorem dX9_share_23 : decode cX9_share 23 = .ok (.invokestatic 112, 3) := by decide +kernel
theorem dX9_share_26 : decode cX9_share 26 = .ok (.ifCond .ne 9, 3) := by decide +kernel
theorem dX9_share_29 : decode cX9_share 29 = .ok (.aload_n 0, 1) := by decide +kernel
theorem dX9_share_30 : decode cX9_share 30 = .ok (.iconst 1, 1) := by decide +kernel
theorem dX9_share_31 : decode cX9_share 31 = .ok (.invokevirtual 108, 3) := by decide +kernel
theorem dX9_share_34 : decode cX9_share 34 = .ok (.ireturn, 1) := by decide +kernel
theorem dX9_share_35 : decode cX9_share 35 = .ok (.aload_n 0, 1) := by decide +kernel
theorem dX9_share_36 : decode cX9_share 36 = .ok (.iload_n 1, 1) := by decide +kernel
theorem dX9_share_37 : decode cX9_share 37 = .ok (.aload_n 0, 1) := by decide +kernel
theorem dX9_share_38 : decode cX9_share 38 = .ok (.iload_n 2, 1) := by decide +kernel
theorem dX9_share_39 : decode cX9_share 39 = .ok (.iconst (-1), 1) := by decide +kernel
theorem dX9_share_40 : decode cX9_share 40 = .ok (.invokevirtual 135, 3) := by decide +kernel
theorem dX9_share_43 : decode cX9_share 43 = .ok (.iload_n 3, 1) := by decide +kernel
theorem dX9_share_44 : decode cX9_share 44 = .ok (.aaload, 1) := by decide +kernel
theorem dX9_share_45 : decode cX9_share 45 = .ok (.iload_n 3, 1) := by decide +kernel
theorem dX9_share_46 : decode cX9_share 46 = .ok (.invokevirtual 162, 3) := by decide +kernel
theorem dX9_share_49 : decode cX9_share 49 = .ok (.ireturn, 1) := by decide +kernel
set_option maxRecDepth 20000 in
theorem gX9_check_X9_isCard : GoodIn wsX9_check (wsV RX9 49 RX9 yX9_isCard wsX9_isCard) := goodIn_sub (fun w h => List.mem_cons_of_mem _ (List.mem_append_left _ (List.mem_append_right _ h))) (by decide +kernel)
set_option maxRecDepth 20000 in
theorem gX9_check_X9_no : GoodIn wsX9_check (wsV RX9 108 RX9 yX9_no wsX9_no) := goodIn_sub (fun w h => List.mem_cons_of_mem _ (List.mem_append_right _ h)) (by decide +kernel)
theorem dX9_check_0 : decode cX9_check 0 = .ok (.aload_n 0, 1) := by decide +kernel
theorem dX9_check_1 : decode cX9_check 1 = .ok (.iconst 0, 1) := by decide +kernel
theorem dX9_check_2 : decode cX9_check 2 = .ok (.putfield 39, 3) := by decide +kernel
theorem dX9_check_5 : decode cX9_check 5 = .ok (.aload_n 0, 1) := by decide +kernel
theorem dX9_check_6 : decode cX9_check 6 = .ok (.iload_n 1, 1) := by decide +kernel
theorem dX9_check_7 : decode cX9_check 7 = .ok (.invokevirtual 49, 3) := by decide +kernel
theorem dX9_check_10 : decode cX9_check 10 = .ok (.ifCond .eq 10, 3) := by decide +kernel
theorem dX9_check_13 : decode cX9_check 13 = .ok (.iload_n 2, 1) := by decide +kernel
theorem dX9_check_14 : decode cX9_check 14 = .ok (.invokestatic 112, 3) := by decide +kernel
theorem dX9_check_17 : decode cX9_check 17 = .ok (.ifCond .ne 9, 3) := by decide +kernel
theorem dX9_check_20 : decode cX9_check 20 = .ok (.aload_n 0, 1) := by decide +kernel
theorem dX9_check_21 : decode cX9_check 21 = .ok (.iconst 1, 1) := by decide +kernel
theorem dX9_check_22 : decode cX9_check 22 = .ok (.invokevirtual 108, 3) := by decide +kernel
theorem dX9_check_25 : decode cX9_check 25 = .ok (.ireturn, 1) := by decide +kernel
theorem dX9_check_26 : decode cX9_check 26 = .ok (.iload_n 3, 1) := by decide +kernel
theorem dX9_check_27 : decode cX9_check 27 = .ok (.iconst 0, 1) := by decide +kernel
theorem dX9_check_28 : decode cX9_check 28 = .ok (.sipush 1439, 3) := by decide +kernel
theorem dX9_check_31 : decode cX9_check 31 = .ok (.invokestatic 45, 3) := by decide +kernel
theorem dX9_check_34 : decode cX9_check 34 = .ok (.ifCond .ne 9, 3) := by decide +kernel
theorem dX9_check_37 : decode cX9_check 37 = .ok (.aload_n 0, 1) := by decide +kernel
theorem dX9_check_38 : decode cX9_check 38 = .ok (.iconst 2, 1) := by decide +kernel
theorem dX9_check_39 : decode cX9_check 39 = .ok (.invokevirtual 108, 3) := by decide +kernel
theorem dX9_check_42 : decode cX9_check 42 = .ok (.ireturn, 1) := by decide +kernel
theorem dX9_check_43 : decode cX9_check 43 = .ok (.aload_n 0, 1) := by decide +kernel
theorem dX9_check_44 : decode cX9_check 44 = .ok (.getfield 26, 3) := by decide +kernel
theorem dX9_check_47 : decode cX9_check 47 = .ok (.iload_n 1, 1) := by decide +kernel
theorem dX9_check_48 : decode cX9_check 48 = .ok (.aaload, 1) := by decide +kernel
theorem dX9_check_49 : decode cX9_check 49 = .ok (.iconst 2, 1) := by decide +kernel
theorem dX9_check_50 : decode cX9_check 50 = .ok (.iaload, 1) := by decide +kernel
theorem dX9_check_51 : decode cX9_check 51 = .ok (.iconst 1, 1) := by decide +kernel
theorem dX9_check_52 : decode cX9_check 52 = .ok (.if_icmp .ne 5, 3) := by decide +kernel
theorem dX9_check_55 : decode cX9_check 55 = .ok (.iconst 2, 1) := by decide +kernel
theorem dX9_check_56 : decode cX9_check 56 = .ok (.ireturn, 1) := by decide +kernel
theorem dX9_check_57 : decode cX9_check 57 = .ok (.aload_n 0, 1) := by decide +kernel
theorem dX9_check_58 : decode cX9_check 58 = .ok (.aload_n 0, 1) := by decide +kernel
theorem dX9_check_59 : decode cX9_check 59 = .ok (.getfield 26, 3) := by decide +kernel
theorem dX9_check_62 : decode cX9_check 62 = .ok (.iload_n 1, 1) := by decide +kernel
theorem dX9_check_63 : decode cX9_check 63 = .ok (.aaload, 1) := by decide +kernel
theorem dX9_check_64 : decode cX9_check 64 = .ok (.iconst 1, 1) := by decide +kernel
theorem dX9_check_65 : decode cX9_check 65 = .ok (.iaload, 1) := by decide +kernel
theorem dX9_check_66 : decode cX9_check 66 = .ok (.iconst (-1), 1) := by decide +kernel
theorem dX9_check_67 : decode cX9_check 67 = .ok (.invokevirtual 135, 3) := by decide +kernel
theorem dX9_check_70 : decode cX9_check 70 = .ok (.iload_n 2, 1) := by decide +kernel
theorem dX9_check_71 : decode cX9_check 71 = .ok (.aaload, 1) := by decide +kernel
theorem dX9_check_72 : decode cX9_check 72 = .ok (.astore 4, 2) := by decide +kernel
theorem dX9_check_74 : decode cX9_check 74 = .ok (.aload 4, 2) := by decide +kernel
theorem dX9_check_76 : decode cX9_check 76 = .ok (.arraylength, 1) := by decide +kernel
theorem dX9_check_77 : decode cX9_check 77 = .ok (.istore 5, 2) := by decide +kernel
theorem dX9_check_79 : decode cX9_check 79 = .ok (.iconst 0, 1) := by decide +kernel
theorem dX9_check_80 : decode cX9_check 80 = .ok (.istore 6, 2) := by decide +kernel
theorem dX9_check_82 : decode cX9_check 82 = .ok (.iload 6, 2) := by decide +kernel
theorem dX9_check_84 : decode cX9_check 84 = .ok (.iload 5, 2) := by decide +kernel
theorem dX9_check_86 : decode cX9_check 86 = .ok (.if_icmp .ge 60, 3) := by decide +kernel
theorem dX9_check_89 : decode cX9_check 89 = .ok (.aload 4, 2) := by decide +kernel
theorem dX9_check_91 : decode cX9_check 91 = .ok (.iload 6, 2) := by decide +kernel
theorem dX9_check_93 : decode cX9_check 93 = .ok (.aaload, 1) := by decide +kernel
theorem dX9_check_94 : decode cX9_check 94 = .ok (.astore 7, 2) := by decide +kernel
theorem dX9_check_96 : decode cX9_check 96 = .ok (.aload 7, 2) := by decide +kernel
theorem dX9_check_98 : decode cX9_check 98 = .ok (.iconst 5, 1) := by decide +kernel
theorem dX9_check_99 : decode cX9_check 99 = .ok (.iaload, 1) := by decide +kernel
theorem dX9_check_100 : decode cX9_check 100 = .ok (.iconst 1, 1) := by decide +kernel
theorem dX9_check_101 : decode cX9_check 101 = .ok (.if_icmp .eq 39, 3) := by decide +kernel
theorem dX9_check_104 : decode cX9_check 104 = .ok (.aload 7, 2) := by decide +kernel
theorem dX9_check_106 : decode cX9_check 106 = .ok (.iconst 2, 1) := by decide +kernel
theorem dX9_check_107 : decode cX9_check 107 = .ok (.iaload, 1) := by decide +kernel
theorem dX9_check_108 : decode cX9_check 108 = .ok (.iload_n 3, 1) := by decide +kernel
theorem dX9_check_109 : decode cX9_check 109 = .ok (.if_icmp .gt 31, 3) := by decide +kernel
theorem dX9_check_112 : decode cX9_check 112 = .ok (.iload_n 3, 1) := by decide +kernel
theorem dX9_check_113 : decode cX9_check 113 = .ok (.aload 7, 2) := by decide +kernel
theorem dX9_check_115 : decode cX9_check 115 = .ok (.iconst 5, 1) := by decide +kernel
theorem dX9_check_116 : decode cX9_check 116 = .ok (.iaload, 1) := by decide +kernel
theorem dX9_check_117 : decode cX9_check 117 = .ok (.iconst 2, 1) := by decide +kernel
theorem dX9_check_118 : decode cX9_check 118 = .ok (.if_icmp .ne 13, 3) := by decide +kernel
theorem dX9_check_121 : decode cX9_check 121 = .ok (.aload 7, 2) := by decide +kernel
theorem dX9_check_123 : decode cX9_check 123 = .ok (.iconst 2, 1) := by decide +kernel
theorem dX9_check_124 : decode cX9_check 124 = .ok (.iaload, 1) := by decide +kernel
theorem dX9_check_125 : decode cX9_check 125 = .ok (.bipush 120, 2) := by decide +kernel
theorem dX9_check_127 : decode cX9_check 127 = .ok (.iadd, 1) := by decide +kernel
theorem dX9_check_128 : decode cX9_check 128 = .ok (.goto 7, 3) := by decide +kernel
theorem dX9_check_131 : decode cX9_check 131 = .ok (.aload 7, 2) := by decide +kernel
theorem dX9_check_133 : decode cX9_check 133 = .ok (.iconst 3, 1) := by decide +kernel
theorem dX9_check_134 : decode cX9_check 134 = .ok (.iaload, 1) := by decide +kernel
theorem dX9_check_135 : decode cX9_check 135 = .ok (.if_icmp .gt 5, 3) := by decide +kernel
theorem dX9_check_138 : decode cX9_check 138 = .ok (.iconst 1, 1) := by decide +kernel
theorem dX9_check_139 : decode cX9_check 139 = .ok (.ireturn, 1) := by decide +kernel
theorem dX9_check_140 : decode cX9_check 140 = .ok (.iinc 6 1, 3) := by decide +kernel
theorem dX9_check_143 : decode cX9_check 143 = .ok (.goto (-61), 3) := by decide +kernel
theorem dX9_check_146 : decode cX9_check 146 = .ok (.iconst 0, 1) := by decide +kernel
theorem dX9_check_147 : decode cX9_check 147 = .ok (.ireturn, 1) := by decide +kernel
theorem dX9_manyNow_0 : decode cX9_manyNow 0 = .ok (.iconst 0, 1) := by decide +kernel
theorem dX9_manyNow_1 : decode cX9_manyNow 1 = .ok (.istore_n 2, 1) := by decide +kernel
theorem dX9_manyNow_2 : decode cX9_manyNow 2 = .ok (.iconst 0, 1) := by decide +kernel
theorem dX9_manyNow_3 : decode cX9_manyNow 3 = .ok (.istore_n 3, 1) := by decide +kernel
theorem dX9_manyNow_4 : decode cX9_manyNow 4 = .ok (.iload_n 3, 1) := by decide +kernel
theorem dX9_manyNow_5 : decode cX9_manyNow 5 = .ok (.aload_n 0, 1) := by decide +kernel
theorem dX9_manyNow_6 : decode cX9_manyNow 6 = .ok (.getfield 42, 3) := by decide +kernel
theorem dX9_manyNow_9 : decode cX9_manyNow 9 = .ok (.if_icmp .ge 20, 3) := by decide +kernel
theorem dX9_manyNow_12 : decode cX9_manyNow 12 = .ok (.iload_n 2, 1) := by decide +kernel
theorem dX9_manyNow_13 : decode cX9_manyNow 13 = .ok (.aload_n 0, 1) := by decide +kernel
theorem dX9_manyNow_14 : decode cX9_manyNow 14 = .ok (.getfield 26, 3) := by decide +kernel
theorem dX9_manyNow_17 : decode cX9_manyNow 17 = .ok (.iload_n 3, 1) := by decide +kernel
theorem dX9_manyNow_18 : decode cX9_manyNow 18 = .ok (.aaload, 1) := by decide +kernel
theorem dX9_manyNow_19 : decode cX9_manyNow 19 = .ok (.iconst 0, 1) := by decide +kernel
theorem dX9_manyNow_20 : decode cX9_manyNow 20 = .ok (.iaload, 1) := by decide +kernel
theorem dX9_manyNow_21 : decode cX9_manyNow 21 = .ok (.iadd, 1) := by decide +kernel
theorem dX9_manyNow_22 : decode cX9_manyNow 22 = .ok (.istore_n 2, 1) := by decide +kernel
theorem dX9_manyNow_23 : decode cX9_manyNow 23 = .ok (.iinc 3 1, 3) := by decide +kernel
theorem dX9_manyNow_26 : decode cX9_manyNow 26 = .ok (.goto (-22), 3) := by decide +kernel
theorem dX9_manyNow_29 : decode cX9_manyNow 29 = .ok (.bipush 9, 2) := by decide +kernel
theorem dX9_manyNow_31 : decode cX9_manyNow 31 = .ok (.newarray .int, 2) := by decide +kernel
theorem dX9_manyNow_33 : decode cX9_manyNow 33 = .ok (.dup, 1) := by decide +kernel
theorem dX9_manyNow_34 : decode cX9_manyNow 34 = .ok (.iconst 0, 1) := by decide +kernel
theorem dX9_manyNow_35 : decode cX9_manyNow 35 = .ok (.aload_n 0, 1) := by decide +kernel
theorem dX9_manyNow_36 : decode cX9_manyNow 36 = .ok (.getfield 42, 3) := by decide +kernel
theorem dX9_manyNow_39 : decode cX9_manyNow 39 = .ok (.iastore, 1) := by decide +kernel
theorem dX9_manyNow_40 : decode cX9_manyNow 40 = .ok (.dup, 1) := by decide +kernel
theorem dX9_manyNow_41 : decode cX9_manyNow 41 = .ok (.iconst 1, 1) := by decide +kernel
theorem dX9_manyNow_42 : decode cX9_manyNow 42 = .ok (.aload_n 0, 1) := by decide +kernel
theorem dX9_manyNow_43 : decode cX9_manyNow 43 = .ok (.getfield 59, 3) := by decide +kernel
theorem dX9_manyNow_46 : decode cX9_manyNow 46 = .ok (.iastore, 1) := by decide +kernel
theorem dX9_manyNow_47 : decode cX9_manyNow 47 = .ok (.dup, 1) := by decide +kernel
theorem dX9_manyNow_48 : decode cX9_manyNow 48 = .ok (.iconst 2, 1) := by decide +kernel
theorem dX9_manyNow_49 : decode cX9_manyNow 49 = .ok (.aload_n 0, 1) := by decide +kernel
theorem dX9_manyNow_50 : decode cX9_manyNow 50 = .ok (.getfield 125, 3) := by decide +kernel
theorem dX9_manyNow_53 : decode cX9_manyNow 53 = .ok (.iastore, 1) := by decide +kernel
theorem dX9_manyNow_54 : decode cX9_manyNow 54 = .ok (.dup, 1) := by decide +kernel
theorem dX9_manyNow_55 : decode cX9_manyNow 55 = .ok (.iconst 3, 1) := by decide +kernel
theorem dX9_manyNow_56 : decode cX9_manyNow 56 = .ok (.aload_n 0, 1) := by decide +kernel
theorem dX9_manyNow_57 : decode cX9_manyNow 57 = .ok (.getfield 132, 3) := by decide +kernel
theorem dX9_manyNow_60 : decode cX9_manyNow 60 = .ok (.iastore, 1) := by decide +kernel
theorem dX9_manyNow_61 : decode cX9_manyNow 61 = .ok (.dup, 1) := by decide +kernel
theorem dX9_manyNow_62 : decode cX9_manyNow 62 = .ok (.iconst 4, 1) := by decide +kernel
theorem dX9_manyNow_63 : decode cX9_manyNow 63 = .ok (.aload_n 0, 1) := by decide +kernel
theorem dX9_manyNow_64 : decode cX9_manyNow 64 = .ok (.getfield 115, 3) := by decide +kernel
theorem dX9_manyNow_67 : decode cX9_manyNow 67 = .ok (.iastore, 1) := by decide +kernel
theorem dX9_manyNow_68 : decode cX9_manyNow 68 = .ok (.dup, 1) := by decide +kernel
theorem dX9_manyNow_69 : decode cX9_manyNow 69 = .ok (.iconst 5, 1) := by decide +kernel
theorem dX9_manyNow_70 : decode cX9_manyNow 70 = .ok (.aload_n 0, 1) := by decide +kernel
theorem dX9_manyNow_71 : decode cX9_manyNow 71 = .ok (.getfield 21, 3) := by decide +kernel
theorem dX9_manyNow_74 : decode cX9_manyNow 74 = .ok (.iastore, 1) := by decide +kernel
theorem dX9_manyNow_75 : decode cX9_manyNow 75 = .ok (.dup, 1) := by decide +kernel
theorem dX9_manyNow_76 : decode cX9_manyNow 76 = .ok (.bipush 6, 2) := by decide +kernel
theorem dX9_manyNow_78 : decode cX9_manyNow 78 = .ok (.iload_n 2, 1) := by decide +kernel
theorem dX9_manyNow_79 : decode cX9_manyNow 79 = .ok (.iastore, 1) := by decide +kernel
theorem dX9_manyNow_80 : decode cX9_manyNow 80 = .ok (.dup, 1) := by decide +kernel
theorem dX9_manyNow_81 : decode cX9_manyNow 81 = .ok (.bipush 7, 2) := by decide +kernel
theorem dX9_manyNow_83 : decode cX9_manyNow 83 = .ok (.aload_n 0, 1) := by decide +kernel
theorem dX9_manyNow_84 : decode cX9_manyNow 84 = .ok (.getfield 142, 3) := by decide +kernel
theorem dX9_manyNow_87 : decode cX9_manyNow 87 = .ok (.iastore, 1) := by decide +kernel
theorem dX9_manyNow_88 : decode cX9_manyNow 88 = .ok (.dup, 1) := by decide +kernel
theorem dX9_manyNow_89 : decode cX9_manyNow 89 = .ok (.bipush 8, 2) := by decide +kernel
theorem dX9_manyNow_91 : decode cX9_manyNow 91 = .ok (.aload_n 0, 1) := by decide +kernel
theorem dX9_manyNow_92 : decode cX9_manyNow 92 = .ok (.getfield 152, 3) := by decide +kernel
theorem dX9_manyNow_95 : decode cX9_manyNow 95 = .ok (.iastore, 1) := by decide +kernel
theorem dX9_manyNow_96 : decode cX9_manyNow 96 = .ok (.astore_n 3, 1) := by decide +kernel
theorem dX9_manyNow_97 : decode cX9_manyNow 97 = .ok (.aload_n 3, 1) := by decide +kernel
theorem dX9_manyNow_98 : decode cX9_manyNow 98 = .ok (.iload_n 1, 1) := by decide +kernel
theorem dX9_manyNow_99 : decode cX9_manyNow 99 = .ok (.iaload, 1) := by decide +kernel
theorem dX9_manyNow_100 : decode cX9_manyNow 100 = .ok (.ireturn, 1) := by decide +kernel
set_option maxRecDepth 20000 in
theorem ggX9_many_X9_in : GoodIn wsX9_many wsX9_in := goodIn_r _ [5] (by decide +kernel) (by decide +kernel)
set_option maxRecDepth 20000 in
theorem gX9_many_X9_in : GoodIn wsX9_many (va_wsS RX9 45 yX9_in wsX9_in) := goodIn_app (goodIn_of _ (by decide +kernel)) ggX9_many_X9_in
set_option maxRecDepth 20000 in
theorem ggX9_many_X9_no : GoodIn wsX9_many wsX9_no := goodIn_r _ [9, 1, 24, 25, 26, 27, 28, 29, 30, 31, 32, 33, 34, 35, 36, 37, 38, 39] (by decide +kernel) (by decide +kernel)
set_option maxRecDepth 20000 in
theorem gX9_many_X9_no : GoodIn wsX9_many (wsV RX9 108 RX9 yX9_no wsX9_no) := goodIn_app (goodIn_of _ (by decide +kernel)) ggX9_many_X9_no
set_option maxRecDepth 20000 in
theorem ggX9_many_X9_manyNow : GoodIn wsX9_many wsX9_manyNow := goodIn_r _ [13, 14, 15, 16, 17, 18, 19, 20, 21, 22, 23, 24, 25, 26, 27, 28, 29, 30, 31, 32, 33, 34, 35, 36, 37, 38, 39] (by decide +kernel) (by decide +kernel)
set_option maxRecDepth 20000 in
theorem gX9_many_X9_manyNow : GoodIn wsX9_many (wsV RX9 166 RX9 yX9_manyNow wsX9_manyNow) := goodIn_app (goodIn_of _ (by decide +kernel)) ggX9_many_X9_manyNow
theorem dX9_many_0 : decode cX9_many 0 = .ok (.aload_n 0, 1) := by decide +kernel
theorem dX9_many_1 : decode cX9_many 1 = .ok (.iconst 0, 1) := by decide +kernel
theorem dX9_many_2 : decode cX9_many 2 = .ok (.putfield 39, 3) := by decide +kernel
theorem dX9_many_5 : decode cX9_many 5 = .ok (.iload_n 1, 1) := by decide +kernel
theorem dX9_many_6 : decode cX9_many 6 = .ok (.iconst 0, 1) := by decide +kernel
theorem dX9_many_7 : decode cX9_many 7 = .ok (.bipush 8, 2) := by decide +kernel
theorem dX9_many_9 : decode cX9_many 9 = .ok (.invokestatic 45, 3) := by decide +kernel
theorem dX9_many_12 : decode cX9_many 12 = .ok (.ifCond .ne 9, 3) := by decide +kernel
theorem dX9_many_15 : decode cX9_many 15 = .ok (.aload_n 0, 1) := by decide +kernel
theorem dX9_many_16 : decode cX9_many 16 = .ok (.iconst 1, 1) := by decide +kernel
theorem dX9_many_17 : decode cX9_many 17 = .ok (.invokevirtual 108, 3) := by decide +kernel
theorem dX9_many_20 : decode cX9_many 20 = .ok (.ireturn, 1) := by decide +kernel
theorem dX9_many_21 : decode cX9_many 21 = .ok (.aload_n 0, 1) := by decide +kernel
theorem dX9_many_22 : decode cX9_many 22 = .ok (.iload_n 1, 1) := by decide +kernel
theorem dX9_many_23 : decode cX9_many 23 = .ok (.invokevirtual 166, 3) := by decide +kernel
theorem dX9_many_26 : decode cX9_many 26 = .ok (.ireturn, 1) := by decide +kernel
set_option maxRecDepth 20000 in
theorem gX9_meanFare_X9_isDay : GoodIn wsX9_meanFare (va_wsS RX9 112 yX9_isDay wsX9_isDay) := goodIn_sub (fun w h => List.mem_cons_of_mem _ (List.mem_append_left _ (List.mem_append_right _ h))) (by decide +kernel)
set_option maxRecDepth 20000 in
theorem gX9_meanFare_X9_no : GoodIn wsX9_meanFare (wsV RX9 108 RX9 yX9_no wsX9_no) := goodIn_sub (fun w h => List.mem_cons_of_mem _ (List.mem_append_right _ h)) (by decide +kernel)
theorem dX9_meanFare_0 : decode cX9_meanFare 0 = .ok (.aload_n 0, 1) := by decide +kernel
theorem dX9_meanFare_1 : decode cX9_meanFare 1 = .ok (.iconst 0, 1) := by decide +kernel
theorem dX9_meanFare_2 : decode cX9_meanFare 2 = .ok (.putfield 39, 3) := by decide +kernel
theorem dX9_meanFare_5 : decode cX9_meanFare 5 = .ok (.iload_n 1, 1) := by decide +kernel
theorem dX9_meanFare_6 : decode cX9_meanFare 6 = .ok (.invokestatic 112, 3) := by decide +kernel
theorem dX9_meanFare_9 : decode cX9_meanFare 9 = .ok (.ifCond .ne 10, 3) := by decide +kernel
theorem dX9_meanFare_12 : decode cX9_meanFare 12 = .ok (.aload_n 0, 1) := by decide +kernel
theorem dX9_meanFare_13 : decode cX9_meanFare 13 = .ok (.iconst 1, 1) := by decide +kernel
theorem dX9_meanFare_14 : decode cX9_meanFare 14 = .ok (.invokevirtual 108, 3) := by decide +kernel
theorem dX9_meanFare_17 : decode cX9_meanFare 17 = .ok (.i2d, 1) := by decide +kernel
theorem dX9_meanFare_18 : decode cX9_meanFare 18 = .ok (.dreturn, 1) := by decide +kernel
theorem dX9_meanFare_19 : decode cX9_meanFare 19 = .ok (.iconst 0, 1) := by decide +kernel
theorem dX9_meanFare_20 : decode cX9_meanFare 20 = .ok (.istore_n 2, 1) := by decide +kernel
theorem dX9_meanFare_21 : decode cX9_meanFare 21 = .ok (.iconst 0, 1) := by decide +kernel
theorem dX9_meanFare_22 : decode cX9_meanFare 22 = .ok (.istore_n 3, 1) := by decide +kernel
theorem dX9_meanFare_23 : decode cX9_meanFare 23 = .ok (.iconst 0, 1) := by decide +kernel
theorem dX9_meanFare_24 : decode cX9_meanFare 24 = .ok (.istore 4, 2) := by decide +kernel
theorem dX9_meanFare_26 : decode cX9_meanFare 26 = .ok (.iload 4, 2) := by decide +kernel
theorem dX9_meanFare_28 : decode cX9_meanFare 28 = .ok (.aload_n 0, 1) := by decide +kernel
theorem dX9_meanFare_29 : decode cX9_meanFare 29 = .ok (.getfield 42, 3) := by decide +kernel
theorem dX9_meanFare_32 : decode cX9_meanFare 32 = .ok (.if_icmp .ge 52, 3) := by decide +kernel
theorem dX9_meanFare_35 : decode cX9_meanFare 35 = .ok (.aload_n 0, 1) := by decide +kernel
theorem dX9_meanFare_36 : decode cX9_meanFare 36 = .ok (.iload 4, 2) := by decide +kernel
theorem dX9_meanFare_38 : decode cX9_meanFare 38 = .ok (.invokevirtual 118, 3) := by decide +kernel
theorem dX9_meanFare_41 : decode cX9_meanFare 41 = .ok (.ifCond .ne 6, 3) := by decide +kernel
theorem dX9_meanFare_44 : decode cX9_meanFare 44 = .ok (.goto 34, 3) := by decide +kernel
theorem dX9_meanFare_47 : decode cX9_meanFare 47 = .ok (.aload_n 0, 1) := by decide +kernel
theorem dX9_meanFare_48 : decode cX9_meanFare 48 = .ok (.aload_n 0, 1) := by decide +kernel
theorem dX9_meanFare_49 : decode cX9_meanFare 49 = .ok (.iload 4, 2) := by decide +kernel
theorem dX9_meanFare_51 : decode cX9_meanFare 51 = .ok (.iconst (-1), 1) := by decide +kernel
theorem dX9_meanFare_52 : decode cX9_meanFare 52 = .ok (.invokevirtual 135, 3) := by decide +kernel
theorem dX9_meanFare_55 : decode cX9_meanFare 55 = .ok (.iload_n 1, 1) := by decide +kernel
theorem dX9_meanFare_56 : decode cX9_meanFare 56 = .ok (.aaload, 1) := by decide +kernel
theorem dX9_meanFare_57 : decode cX9_meanFare 57 = .ok (.iload_n 1, 1) := by decide +kernel
theorem dX9_meanFare_58 : decode cX9_meanFare 58 = .ok (.invokevirtual 96, 3) := by decide +kernel
theorem dX9_meanFare_61 : decode cX9_meanFare 61 = .ok (.astore 5, 2) := by decide +kernel
theorem dX9_meanFare_63 : decode cX9_meanFare 63 = .ok (.iload_n 2, 1) := by decide +kernel
theorem dX9_meanFare_64 : decode cX9_meanFare 64 = .ok (.aload 5, 2) := by decide +kernel
theorem dX9_meanFare_66 : decode cX9_meanFare 66 = .ok (.iconst 0, 1) := by decide +kernel
theorem dX9_meanFare_67 : decode cX9_meanFare 67 = .ok (.invokestatic 92, 3) := by decide +kernel
theorem dX9_meanFare_70 : decode cX9_meanFare 70 = .ok (.iadd, 1) := by decide +kernel
theorem dX9_meanFare_71 : decode cX9_meanFare 71 = .ok (.istore_n 2, 1) := by decide +kernel
theorem dX9_meanFare_72 : decode cX9_meanFare 72 = .ok (.iload_n 3, 1) := by decide +kernel
theorem dX9_meanFare_73 : decode cX9_meanFare 73 = .ok (.aload 5, 2) := by decide +kernel
theorem dX9_meanFare_75 : decode cX9_meanFare 75 = .ok (.arraylength, 1) := by decide +kernel
theorem dX9_meanFare_76 : decode cX9_meanFare 76 = .ok (.iadd, 1) := by decide +kernel
theorem dX9_meanFare_77 : decode cX9_meanFare 77 = .ok (.istore_n 3, 1) := by decide +kernel
theorem dX9_meanFare_78 : decode cX9_meanFare 78 = .ok (.iinc 4 1, 3) := by decide +kernel
theorem dX9_meanFare_81 : decode cX9_meanFare 81 = .ok (.goto (-55), 3) := by decide +kernel
theorem dX9_meanFare_84 : decode cX9_meanFare 84 = .ok (.iload_n 3, 1) := by decide +kernel
theorem dX9_meanFare_85 : decode cX9_meanFare 85 = .ok (.ifCond .ne 7, 3) := by decide +kernel
theorem dX9_meanFare_88 : decode cX9_meanFare 88 = .ok (.dconst 0, 1) := by decide +kernel
theorem dX9_meanFare_89 : decode cX9_meanFare 89 = .ok (.goto 8, 3) := by decide +kernel
theorem dX9_meanFare_92 : decode cX9_meanFare 92 = .ok (.iload_n 2, 1) := by decide +kernel
theorem dX9_meanFare_93 : decode cX9_meanFare 93 = .ok (.i2d, 1) := by decide +kernel
theorem dX9_meanFare_94 : decode cX9_meanFare 94 = .ok (.iload_n 3, 1) := by decide +kernel
theorem dX9_meanFare_95 : decode cX9_meanFare 95 = .ok (.i2d, 1) := by decide +kernel
theorem dX9_meanFare_96 : decode cX9_meanFare 96 = .ok (.ddiv, 1) := by decide +kernel
theorem dX9_meanFare_97 : decode cX9_meanFare 97 = .ok (.dreturn, 1) := by decide +kernel
set_option maxRecDepth 20000 in
theorem gX9_wouldCost_X9_isPlace : GoodIn wsX9_wouldCost (wsV RX9 121 RX9 yX9_isPlace wsX9_isPlace) := goodIn_sub (fun w h => List.mem_cons_of_mem _ (List.mem_append_left _ (List.mem_append_right _ h))) (by decide +kernel)
set_option maxRecDepth 20000 in
theorem gX9_wouldCost_X9_no : GoodIn wsX9_wouldCost (wsV RX9 108 RX9 yX9_no wsX9_no) := goodIn_sub (fun w h => List.mem_cons_of_mem _ (List.mem_append_right _ h)) (by decide +kernel)
theorem dX9_wouldCost_0 : decode cX9_wouldCost 0 = .ok (.aload_n 0, 1) := by decide +kernel
theorem dX9_wouldCost_1 : decode cX9_wouldCost 1 = .ok (.iconst 0, 1) := by decide +kernel
theorem dX9_wouldCost_2 : decode cX9_wouldCost 2 = .ok (.putfield 39, 3) := by decide +kernel
theorem dX9_wouldCost_5 : decode cX9_wouldCost 5 = .ok (.aload_n 0, 1) := by decide +kernel
theorem dX9_wouldCost_6 : decode cX9_wouldCost 6 = .ok (.iload_n 1, 1) := by decide +kernel
theorem dX9_wouldCost_7 : decode cX9_wouldCost 7 = .ok (.iload_n 2, 1) := by decide +kernel
theorem dX9_wouldCost_8 : decode cX9_wouldCost 8 = .ok (.iload_n 3, 1) := by decide +kernel
theorem dX9_wouldCost_9 : decode cX9_wouldCost 9 = .ok (.iload 5, 2) := by decide +kernel
theorem dX9_wouldCost_11 : decode cX9_wouldCost 11 = .ok (.invokevirtual 121, 3) := by decide +kernel
theorem dX9_wouldCost_14 : decode cX9_wouldCost 14 = .ok (.ifCond .ne 9, 3) := by decide +kernel
theorem dX9_wouldCost_17 : decode cX9_wouldCost 17 = .ok (.aload_n 0, 1) := by decide +kernel
theorem dX9_wouldCost_18 : decode cX9_wouldCost 18 = .ok (.iconst 1, 1) := by decide +kernel
theorem dX9_wouldCost_19 : decode cX9_wouldCost 19 = .ok (.invokevirtual 108, 3) := by decide +kernel
theorem dX9_wouldCost_22 : decode cX9_wouldCost 22 = .ok (.ireturn, 1) := by decide +kernel
theorem dX9_wouldCost_23 : decode cX9_wouldCost 23 = .ok (.iload 6, 2) := by decide +kernel
theorem dX9_wouldCost_25 : decode cX9_wouldCost 25 = .ok (.iconst 0, 1) := by decide +kernel
theorem dX9_wouldCost_26 : decode cX9_wouldCost 26 = .ok (.sipush 1439, 3) := by decide +kernel
theorem dX9_wouldCost_29 : decode cX9_wouldCost 29 = .ok (.invokestatic 45, 3) := by decide +kernel
theorem dX9_wouldCost_32 : decode cX9_wouldCost 32 = .ok (.ifCond .ne 9, 3) := by decide +kernel
theorem dX9_wouldCost_35 : decode cX9_wouldCost 35 = .ok (.aload_n 0, 1) := by decide +kernel
theorem dX9_wouldCost_36 : decode cX9_wouldCost 36 = .ok (.iconst 2, 1) := by decide +kernel
theorem dX9_wouldCost_37 : decode cX9_wouldCost 37 = .ok (.invokevirtual 108, 3) := by decide +kernel
theorem dX9_wouldCost_40 : decode cX9_wouldCost 40 = .ok (.ireturn, 1) := by decide +kernel
theorem dX9_wouldCost_41 : decode cX9_wouldCost 41 = .ok (.aload_n 0, 1) := by decide +kernel
theorem dX9_wouldCost_42 : decode cX9_wouldCost 42 = .ok (.getfield 26, 3) := by decide +kernel
theorem dX9_wouldCost_45 : decode cX9_wouldCost 45 = .ok (.iload_n 1, 1) := by decide +kernel
theorem dX9_wouldCost_46 : decode cX9_wouldCost 46 = .ok (.aaload, 1) := by decide +kernel
theorem dX9_wouldCost_47 : decode cX9_wouldCost 47 = .ok (.iconst 1, 1) := by decide +kernel
theorem dX9_wouldCost_48 : decode cX9_wouldCost 48 = .ok (.iaload, 1) := by decide +kernel
theorem dX9_wouldCost_49 : decode cX9_wouldCost 49 = .ok (.istore 7, 2) := by decide +kernel
theorem dX9_wouldCost_51 : decode cX9_wouldCost 51 = .ok (.aload_n 0, 1) := by decide +kernel
theorem dX9_wouldCost_52 : decode cX9_wouldCost 52 = .ok (.aload_n 0, 1) := by decide +kernel
theorem dX9_wouldCost_53 : decode cX9_wouldCost 53 = .ok (.iload 7, 2) := by decide +kernel
theorem dX9_wouldCost_55 : decode cX9_wouldCost 55 = .ok (.iconst (-1), 1) := by decide +kernel
theorem dX9_wouldCost_56 : decode cX9_wouldCost 56 = .ok (.invokevirtual 135, 3) := by decide +kernel
theorem dX9_wouldCost_59 : decode cX9_wouldCost 59 = .ok (.iload 5, 2) := by decide +kernel
theorem dX9_wouldCost_61 : decode cX9_wouldCost 61 = .ok (.bipush 7, 2) := by decide +kernel
theorem dX9_wouldCost_63 : decode cX9_wouldCost 63 = .ok (.idiv, 1) := by decide +kernel
theorem dX9_wouldCost_64 : decode cX9_wouldCost 64 = .ok (.bipush 28, 2) := by decide +kernel
theorem dX9_wouldCost_66 : decode cX9_wouldCost 66 = .ok (.invokevirtual 138, 3) := by decide +kernel
theorem dX9_wouldCost_69 : decode cX9_wouldCost 69 = .ok (.istore 8, 2) := by decide +kernel
theorem dX9_wouldCost_71 : decode cX9_wouldCost 71 = .ok (.aload_n 0, 1) := by decide +kernel
theorem dX9_wouldCost_72 : decode cX9_wouldCost 72 = .ok (.iload_n 1, 1) := by decide +kernel
theorem dX9_wouldCost_73 : decode cX9_wouldCost 73 = .ok (.iload_n 2, 1) := by decide +kernel
theorem dX9_wouldCost_74 : decode cX9_wouldCost 74 = .ok (.iload_n 3, 1) := by decide +kernel
theorem dX9_wouldCost_75 : decode cX9_wouldCost 75 = .ok (.iload 4, 2) := by decide +kernel
theorem dX9_wouldCost_77 : decode cX9_wouldCost 77 = .ok (.iload 5, 2) := by decide +kernel
theorem dX9_wouldCost_79 : decode cX9_wouldCost 79 = .ok (.iload 6, 2) := by decide +kernel
theorem dX9_wouldCost_81 : decode cX9_wouldCost 81 = .ok (.invokevirtual 128, 3) := by decide +kernel
theorem dX9_wouldCost_84 : decode cX9_wouldCost 84 = .ok (.aload_n 0, 1) := by decide +kernel
theorem dX9_wouldCost_85 : decode cX9_wouldCost 85 = .ok (.dup, 1) := by decide +kernel
theorem dX9_wouldCost_86 : decode cX9_wouldCost 86 = .ok (.getfield 59, 3) := by decide +kernel
theorem dX9_wouldCost_89 : decode cX9_wouldCost 89 = .ok (.iconst 1, 1) := by decide +kernel
theorem dX9_wouldCost_90 : decode cX9_wouldCost 90 = .ok (.iadd, 1) := by decide +kernel
theorem dX9_wouldCost_91 : decode cX9_wouldCost 91 = .ok (.putfield 59, 3) := by decide +kernel
theorem dX9_wouldCost_94 : decode cX9_wouldCost 94 = .ok (.aload_n 0, 1) := by decide +kernel
theorem dX9_wouldCost_95 : decode cX9_wouldCost 95 = .ok (.aload_n 0, 1) := by decide +kernel
theorem dX9_wouldCost_96 : decode cX9_wouldCost 96 = .ok (.iload 7, 2) := by decide +kernel
theorem dX9_wouldCost_98 : decode cX9_wouldCost 98 = .ok (.iconst (-1), 1) := by decide +kernel
theorem dX9_wouldCost_99 : decode cX9_wouldCost 99 = .ok (.invokevirtual 135, 3) := by decide +kernel
theorem dX9_wouldCost_102 : decode cX9_wouldCost 102 = .ok (.iload 5, 2) := by decide +kernel
theorem dX9_wouldCost_104 : decode cX9_wouldCost 104 = .ok (.bipush 7, 2) := by decide +kernel
theorem dX9_wouldCost_106 : decode cX9_wouldCost 106 = .ok (.idiv, 1) := by decide +kernel
theorem dX9_wouldCost_107 : decode cX9_wouldCost 107 = .ok (.bipush 28, 2) := by decide +kernel
theorem dX9_wouldCost_109 : decode cX9_wouldCost 109 = .ok (.invokevirtual 138, 3) := by decide +kernel
theorem dX9_wouldCost_112 : decode cX9_wouldCost 112 = .ok (.iload 8, 2) := by decide +kernel
theorem dX9_wouldCost_114 : decode cX9_wouldCost 114 = .ok (.isub, 1) := by decide +kernel
theorem dX9_wouldCost_115 : decode cX9_wouldCost 115 = .ok (.istore 9, 2) := by decide +kernel
theorem dX9_wouldCost_117 : decode cX9_wouldCost 117 = .ok (.aload_n 0, 1) := by decide +kernel
theorem dX9_wouldCost_118 : decode cX9_wouldCost 118 = .ok (.dup, 1) := by decide +kernel
theorem dX9_wouldCost_119 : decode cX9_wouldCost 119 = .ok (.getfield 59, 3) := by decide +kernel
theorem dX9_wouldCost_122 : decode cX9_wouldCost 122 = .ok (.iconst 1, 1) := by decide +kernel
theorem dX9_wouldCost_123 : decode cX9_wouldCost 123 = .ok (.isub, 1) := by decide +kernel
theorem dX9_wouldCost_124 : decode cX9_wouldCost 124 = .ok (.putfield 59, 3) := by decide +kernel
theorem dX9_wouldCost_127 : decode cX9_wouldCost 127 = .ok (.iload 9, 2) := by decide +kernel
theorem dX9_wouldCost_129 : decode cX9_wouldCost 129 = .ok (.ireturn, 1) := by decide +kernel
set_option maxRecDepth 20000 in
theorem gX9_guess__X9_isPerson : GoodIn wsX9_guess_ (wsV RX9 118 RX9 yX9_isPerson wsX9_isPerson) := goodIn_sub (fun w h => List.mem_cons_of_mem _ (List.mem_append_left _ (List.mem_append_right _ h))) (by decide +kernel)
set_option maxRecDepth 20000 in
theorem gX9_guess__X9_no : GoodIn wsX9_guess_ (wsV RX9 108 RX9 yX9_no wsX9_no) := goodIn_sub (fun w h => List.mem_cons_of_mem _ (List.mem_append_right _ h)) (by decide +kernel)
theorem dX9_guess__0 : decode cX9_guess_ 0 = .ok (.aload_n 0, 1) := by decide +kernel
theorem dX9_guess__1 : decode cX9_guess_ 1 = .ok (.iconst 0, 1) := by decide +kernel
theorem dX9_guess__2 : decode cX9_guess_ 2 = .ok (.putfield 39, 3) := by decide +kernel
theorem dX9_guess__5 : decode cX9_guess_ 5 = .ok (.aload_n 0, 1) := by decide +kernel
theorem dX9_guess__6 : decode cX9_guess_ 6 = .ok (.iload_n 1, 1) := by decide +kernel
theorem dX9_guess__7 : decode cX9_guess_ 7 = .ok (.invokevirtual 118, 3) := by decide +kernel
theorem dX9_guess__10 : decode cX9_guess_ 10 = .ok (.ifCond .eq 20, 3) := by decide +kernel
theorem dX9_guess__13 : decode cX9_guess_ 13 = .ok (.iload_n 2, 1) := by decide +kernel
theorem dX9_guess__14 : decode cX9_guess_ 14 = .ok (.invokestatic 112, 3) := by decide +kernel
theorem dX9_guess__17 : decode cX9_guess_ 17 = .ok (.ifCond .eq 13, 3) := by decide +kernel
theorem dX9_guess__20 : decode cX9_guess_ 20 = .ok (.iload_n 3, 1) := by decide +kernel
theorem dX9_guess__21 : decode cX9_guess_ 21 = .ok (.iconst 0, 1) := by decide +kernel
theorem dX9_guess__22 : decode cX9_guess_ 22 = .ok (.bipush 9, 2) := by decide +kernel
theorem dX9_guess__24 : decode cX9_guess_ 24 = .ok (.invokestatic 45, 3) := by decide +kernel
theorem dX9_guess__27 : decode cX9_guess_ 27 = .ok (.ifCond .ne 9, 3) := by decide +kernel
theorem dX9_guess__30 : decode cX9_guess_ 30 = .ok (.aload_n 0, 1) := by decide +kernel
theorem dX9_guess__31 : decode cX9_guess_ 31 = .ok (.iconst 1, 1) := by decide +kernel
theorem dX9_guess__32 : decode cX9_guess_ 32 = .ok (.invokevirtual 108, 3) := by decide +kernel
theorem dX9_guess__35 : decode cX9_guess_ 35 = .ok (.ireturn, 1) := by decide +kernel
theorem dX9_guess__36 : decode cX9_guess_ 36 = .ok (.aload_n 0, 1) := by decide +kernel
theorem dX9_guess__37 : decode cX9_guess_ 37 = .ok (.iload_n 1, 1) := by decide +kernel
theorem dX9_guess__38 : decode cX9_guess_ 38 = .ok (.iconst (-1), 1) := by decide +kernel
theorem dX9_guess__39 : decode cX9_guess_ 39 = .ok (.invokevirtual 135, 3) := by decide +kernel
theorem dX9_guess__42 : decode cX9_guess_ 42 = .ok (.iload_n 2, 1) := by decide +kernel
theorem dX9_guess__43 : decode cX9_guess_ 43 = .ok (.iload_n 3, 1) := by decide +kernel
theorem dX9_guess__44 : decode cX9_guess_ 44 = .ok (.iload 4, 2) := by decide +kernel
theorem dX9_guess__46 : decode cX9_guess_ 46 = .ok (.invokestatic 65, 3) := by decide +kernel
theorem dX9_guess__49 : decode cX9_guess_ 49 = .ok (.ireturn, 1) := by decide +kernel
set_option maxRecDepth 20000 in
theorem gX9_worth_X9_isPerson : GoodIn wsX9_worth (wsV RX9 118 RX9 yX9_isPerson wsX9_isPerson) := goodIn_sub (fun w h => List.mem_cons_of_mem _ (List.mem_append_left _ (List.mem_append_right _ h))) (by decide +kernel)
set_option maxRecDepth 20000 in
theorem gX9_worth_X9_no : GoodIn wsX9_worth (wsV RX9 108 RX9 yX9_no wsX9_no) := goodIn_sub (fun w h => List.mem_cons_of_mem _ (List.mem_append_right _ h)) (by decide +kernel)
theorem dX9_worth_0 : decode cX9_worth 0 = .ok (.aload_n 0, 1) := by decide +kernel
theorem dX9_worth_1 : decode cX9_worth 1 = .ok (.iconst 0, 1) := by decide +kernel
theorem dX9_worth_2 : decode cX9_worth 2 = .ok (.putfield 39, 3) := by decide +kernel
theorem dX9_worth_5 : decode cX9_worth 5 = .ok (.aload_n 0, 1) := by decide +kernel
theorem dX9_worth_6 : decode cX9_worth 6 = .ok (.iload_n 1, 1) := by decide +kernel
theorem dX9_worth_7 : decode cX9_worth 7 = .ok (.invokevirtual 118, 3) := by decide +kernel
theorem dX9_worth_10 : decode cX9_worth 10 = .ok (.ifCond .eq 12, 3) := by decide +kernel
theorem dX9_worth_13 : decode cX9_worth 13 = .ok (.iload_n 2, 1) := by decide +kernel
theorem dX9_worth_14 : decode cX9_worth 14 = .ok (.iconst 0, 1) := by decide +kernel
theorem dX9_worth_15 : decode cX9_worth 15 = .ok (.iconst 3, 1) := by decide +kernel
theorem dX9_worth_16 : decode cX9_worth 16 = .ok (.invokestatic 45, 3) := by decide +kernel
theorem dX9_worth_19 : decode cX9_worth 19 = .ok (.ifCond .ne 9, 3) := by decide +kernel
theorem dX9_worth_22 : decode cX9_worth 22 = .ok (.aload_n 0, 1) := by decide +kernel
theorem dX9_worth_23 : decode cX9_worth 23 = .ok (.iconst 1, 1) := by decide +kernel
theorem dX9_worth_24 : decode cX9_worth 24 = .ok (.invokevirtual 108, 3) := by decide +kernel
theorem dX9_worth_27 : decode cX9_worth 27 = .ok (.ireturn, 1) := by decide +kernel
theorem dX9_worth_28 : decode cX9_worth 28 = .ok (.iload_n 3, 1) := by decide +kernel
theorem dX9_worth_29 : decode cX9_worth 29 = .ok (.bipush 7, 2) := by decide +kernel
theorem dX9_worth_31 : decode cX9_worth 31 = .ok (.iload_n 2, 1) := by decide +kernel
theorem dX9_worth_32 : decode cX9_worth 32 = .ok (.imul, 1) := by decide +kernel
theorem dX9_worth_33 : decode cX9_worth 33 = .ok (.bipush 7, 2) := by decide +kernel
theorem dX9_worth_35 : decode cX9_worth 35 = .ok (.iload_n 2, 1) := by decide +kernel
theorem dX9_worth_36 : decode cX9_worth 36 = .ok (.imul, 1) := by decide +kernel
theorem dX9_worth_37 : decode cX9_worth 37 = .ok (.bipush 7, 2) := by decide +kernel
theorem dX9_worth_39 : decode cX9_worth 39 = .ok (.iadd, 1) := by decide +kernel
theorem dX9_worth_40 : decode cX9_worth 40 = .ok (.iconst 1, 1) := by decide +kernel
theorem dX9_worth_41 : decode cX9_worth 41 = .ok (.isub, 1) := by decide +kernel
theorem dX9_worth_42 : decode cX9_worth 42 = .ok (.invokestatic 45, 3) := by decide +kernel
theorem dX9_worth_45 : decode cX9_worth 45 = .ok (.ifCond .ne 9, 3) := by decide +kernel
theorem dX9_worth_48 : decode cX9_worth 48 = .ok (.aload_n 0, 1) := by decide +kernel
theorem dX9_worth_49 : decode cX9_worth 49 = .ok (.iconst 2, 1) := by decide +kernel
theorem dX9_worth_50 : decode cX9_worth 50 = .ok (.invokevirtual 108, 3) := by decide +kernel
theorem dX9_worth_53 : decode cX9_worth 53 = .ok (.ireturn, 1) := by decide +kernel
theorem dX9_worth_54 : decode cX9_worth 54 = .ok (.aload_n 0, 1) := by decide +kernel
theorem dX9_worth_55 : decode cX9_worth 55 = .ok (.aload_n 0, 1) := by decide +kernel
theorem dX9_worth_56 : decode cX9_worth 56 = .ok (.iload_n 1, 1) := by decide +kernel
theorem dX9_worth_57 : decode cX9_worth 57 = .ok (.iconst (-1), 1) := by decide +kernel
theorem dX9_worth_58 : decode cX9_worth 58 = .ok (.invokevirtual 135, 3) := by decide +kernel
theorem dX9_worth_61 : decode cX9_worth 61 = .ok (.iload_n 2, 1) := by decide +kernel
theorem dX9_worth_62 : decode cX9_worth 62 = .ok (.bipush 28, 2) := by decide +kernel
theorem dX9_worth_64 : decode cX9_worth 64 = .ok (.invokevirtual 138, 3) := by decide +kernel
theorem dX9_worth_67 : decode cX9_worth 67 = .ok (.aload_n 0, 1) := by decide +kernel
theorem dX9_worth_68 : decode cX9_worth 68 = .ok (.aload_n 0, 1) := by decide +kernel
theorem dX9_worth_69 : decode cX9_worth 69 = .ok (.iload_n 1, 1) := by decide +kernel
theorem dX9_worth_70 : decode cX9_worth 70 = .ok (.iload_n 3, 1) := by decide +kernel
theorem dX9_worth_71 : decode cX9_worth 71 = .ok (.invokevirtual 135, 3) := by decide +kernel
theorem dX9_worth_74 : decode cX9_worth 74 = .ok (.iload_n 2, 1) := by decide +kernel
theorem dX9_worth_75 : decode cX9_worth 75 = .ok (.bipush 28, 2) := by decide +kernel
theorem dX9_worth_77 : decode cX9_worth 77 = .ok (.invokevirtual 138, 3) := by decide +kernel
theorem dX9_worth_80 : decode cX9_worth 80 = .ok (.isub, 1) := by decide +kernel
theorem dX9_worth_81 : decode cX9_worth 81 = .ok (.ireturn, 1) := by decide +kernel
set_option maxRecDepth 20000 in
theorem gX9_digest_X9_manyNow : GoodIn wsX9_digest (wsV RX9 166 RX9 yX9_manyNow wsX9_manyNow) := goodIn_sub (fun w h => List.mem_cons_of_mem _ (List.mem_append_right _ h)) (by decide +kernel)
theorem dX9_digest_0 : decode cX9_digest 0 = .ok (.aload_n 0, 1) := by decide +kernel
theorem dX9_digest_1 : decode cX9_digest 1 = .ok (.iconst 0, 1) := by decide +kernel
theorem dX9_digest_2 : decode cX9_digest 2 = .ok (.putfield 39, 3) := by decide +kernel
theorem dX9_digest_5 : decode cX9_digest 5 = .ok (.ldc2_w 169, 3) := by decide +kernel
theorem dX9_digest_8 : decode cX9_digest 8 = .ok (.lstore_n 1, 1) := by decide +kernel
theorem dX9_digest_9 : decode cX9_digest 9 = .ok (.iconst 0, 1) := by decide +kernel
theorem dX9_digest_10 : decode cX9_digest 10 = .ok (.istore_n 3, 1) := by decide +kernel
theorem dX9_digest_11 : decode cX9_digest 11 = .ok (.iload_n 3, 1) := by decide +kernel
theorem dX9_digest_12 : decode cX9_digest 12 = .ok (.bipush 8, 2) := by decide +kernel
theorem dX9_digest_14 : decode cX9_digest 14 = .ok (.if_icmp .gt 22, 3) := by decide +kernel
theorem dX9_digest_17 : decode cX9_digest 17 = .ok (.lload_n 1, 1) := by decide +kernel
theorem dX9_digest_18 : decode cX9_digest 18 = .ok (.ldc2_w 171, 3) := by decide +kernel
theorem dX9_digest_21 : decode cX9_digest 21 = .ok (.lmul, 1) := by decide +kernel
theorem dX9_digest_22 : decode cX9_digest 22 = .ok (.aload_n 0, 1) := by decide +kernel
theorem dX9_digest_23 : decode cX9_digest 23 = .ok (.iload_n 3, 1) := by decide +kernel
theorem dX9_digest_24 : decode cX9_digest 24 = .ok (.invokevirtual 166, 3) := by decide +kernel
theorem dX9_digest_27 : decode cX9_digest 27 = .ok (.i2l, 1) := by decide +kernel
theorem dX9_digest_28 : decode cX9_digest 28 = .ok (.ladd, 1) := by decide +kernel
theorem dX9_digest_29 : decode cX9_digest 29 = .ok (.lstore_n 1, 1) := by decide +kernel
theorem dX9_digest_30 : decode cX9_digest 30 = .ok (.iinc 3 1, 3) := by decide +kernel
theorem dX9_digest_33 : decode cX9_digest 33 = .ok (.goto (-22), 3) := by decide +kernel
theorem dX9_digest_36 : decode cX9_digest 36 = .ok (.iconst 0, 1) := by decide +kernel
theorem dX9_digest_37 : decode cX9_digest 37 = .ok (.istore_n 3, 1) := by decide +kernel
theorem dX9_digest_38 : decode cX9_digest 38 = .ok (.iload_n 3, 1) := by decide +kernel
theorem dX9_digest_39 : decode cX9_digest 39 = .ok (.aload_n 0, 1) := by decide +kernel
theorem dX9_digest_40 : decode cX9_digest 40 = .ok (.getfield 42, 3) := by decide +kernel
theorem dX9_digest_43 : decode cX9_digest 43 = .ok (.if_icmp .ge 42, 3) := by decide +kernel
theorem dX9_digest_46 : decode cX9_digest 46 = .ok (.iconst 0, 1) := by decide +kernel
theorem dX9_digest_47 : decode cX9_digest 47 = .ok (.istore 4, 2) := by decide +kernel
theorem dX9_digest_49 : decode cX9_digest 49 = .ok (.iload 4, 2) := by decide +kernel
theorem dX9_digest_51 : decode cX9_digest 51 = .ok (.bipush 7, 2) := by decide +kernel
theorem dX9_digest_53 : decode cX9_digest 53 = .ok (.if_icmp .gt 26, 3) := by decide +kernel
theorem dX9_digest_56 : decode cX9_digest 56 = .ok (.lload_n 1, 1) := by decide +kernel
theorem dX9_digest_57 : decode cX9_digest 57 = .ok (.ldc2_w 171, 3) := by decide +kernel
theorem dX9_digest_60 : decode cX9_digest 60 = .ok (.lmul, 1) := by decide +kernel
theorem dX9_digest_61 : decode cX9_digest 61 = .ok (.aload_n 0, 1) := by decide +kernel
theorem dX9_digest_62 : decode cX9_digest 62 = .ok (.getfield 26, 3) := by decide +kernel
theorem dX9_digest_65 : decode cX9_digest 65 = .ok (.iload_n 3, 1) := by decide +kernel
theorem dX9_digest_66 : decode cX9_digest 66 = .ok (.aaload, 1) := by decide +kernel
theorem dX9_digest_67 : decode cX9_digest 67 = .ok (.iload 4, 2) := by decide +kernel
theorem dX9_digest_69 : decode cX9_digest 69 = .ok (.iaload, 1) := by decide +kernel
theorem dX9_digest_70 : decode cX9_digest 70 = .ok (.i2l, 1) := by decide +kernel
theorem dX9_digest_71 : decode cX9_digest 71 = .ok (.ladd, 1) := by decide +kernel
theorem dX9_digest_72 : decode cX9_digest 72 = .ok (.lstore_n 1, 1) := by decide +kernel
theorem dX9_digest_73 : decode cX9_digest 73 = .ok (.iinc 4 1, 3) := by decide +kernel
theorem dX9_digest_76 : decode cX9_digest 76 = .ok (.goto (-27), 3) := by decide +kernel
theorem dX9_digest_79 : decode cX9_digest 79 = .ok (.iinc 3 1, 3) := by decide +kernel
theorem dX9_digest_82 : decode cX9_digest 82 = .ok (.goto (-44), 3) := by decide +kernel
theorem dX9_digest_85 : decode cX9_digest 85 = .ok (.iconst 0, 1) := by decide +kernel
theorem dX9_digest_86 : decode cX9_digest 86 = .ok (.istore_n 3, 1) := by decide +kernel
theorem dX9_digest_87 : decode cX9_digest 87 = .ok (.iload_n 3, 1) := by decide +kernel
theorem dX9_digest_88 : decode cX9_digest 88 = .ok (.aload_n 0, 1) := by decide +kernel
theorem dX9_digest_89 : decode cX9_digest 89 = .ok (.getfield 42, 3) := by decide +kernel
theorem dX9_digest_92 : decode cX9_digest 92 = .ok (.if_icmp .ge 24, 3) := by decide +kernel
theorem dX9_digest_95 : decode cX9_digest 95 = .ok (.aload_n 0, 1) := by decide +kernel
theorem dX9_digest_96 : decode cX9_digest 96 = .ok (.iload_n 3, 1) := by decide +kernel
theorem dX9_digest_97 : decode cX9_digest 97 = .ok (.invokevirtual 118, 3) := by decide +kernel
theorem dX9_digest_100 : decode cX9_digest 100 = .ok (.ifCond .eq 10, 3) := by decide +kernel
theorem dX9_digest_103 : decode cX9_digest 103 = .ok (.aload_n 0, 1) := by decide +kernel
theorem dX9_digest_104 : decode cX9_digest 104 = .ok (.lload_n 1, 1) := by decide +kernel
theorem dX9_digest_105 : decode cX9_digest 105 = .ok (.iload_n 3, 1) := by decide +kernel
theorem dX9_digest_106 : decode cX9_digest 106 = .ok (.invokevirtual 173, 3) := by decide +kernel
theorem dX9_digest_109 : decode cX9_digest 109 = .ok (.lstore_n 1, 1) := by decide +kernel
theorem dX9_digest_110 : decode cX9_digest 110 = .ok (.iinc 3 1, 3) := by decide +kernel
theorem dX9_digest_113 : decode cX9_digest 113 = .ok (.goto (-26), 3) := by decide +kernel
theorem dX9_digest_116 : decode cX9_digest 116 = .ok (.lload_n 1, 1) := by decide +kernel
theorem dX9_digest_117 : decode cX9_digest 117 = .ok (.lreturn, 1) := by decide +kernel
