set_option maxRecDepth 20000 in
theorem ggX0_isPerson_X5_at : GoodIn wsX0_isPerson wsX5_at := goodIn_r _ [7, 8, 15] (by decide +kernel) (by decide +kernel)
set_option maxRecDepth 20000 in
theorem gX0_isPerson_X5_at : GoodIn wsX0_isPerson (wsV RX0 40 RX5 yX5_at wsX5_at) := goodIn_app (goodIn_of _ (by decide +kernel)) ggX0_isPerson_X5_at
theorem dX0_isPerson_0 : decode cX0_isPerson 0 = .ok (.iload_n 1, 1) := by decide +kernel
theorem dX0_isPerson_1 : decode cX0_isPerson 1 = .ok (.ifCond .lt 27, 3) := by decide +kernel
theorem dX0_isPerson_4 : decode cX0_isPerson 4 = .ok (.iload_n 1, 1) := by decide +kernel
theorem dX0_isPerson_5 : decode cX0_isPerson 5 = .ok (.aload_n 0, 1) := by decide +kernel
theorem dX0_isPerson_6 : decode cX0_isPerson 6 = .ok (.getfield 32, 3) := by decide +kernel
theorem dX0_isPerson_9 : decode cX0_isPerson 9 = .ok (.if_icmp .ge 19, 3) := by decide +kernel
theorem dX0_isPerson_12 : decode cX0_isPerson 12 = .ok (.aload_n 0, 1) := by decide +kernel
theorem dX0_isPerson_13 : decode cX0_isPerson 13 = .ok (.getfield 20, 3) := by decide +kernel
theorem dX0_isPerson_16 : decode cX0_isPerson 16 = .ok (.iload_n 1, 1) := by decide +kernel
theorem dX0_isPerson_17 : decode cX0_isPerson 17 = .ok (.invokevirtual 40, 3) := by decide +kernel
theorem dX0_isPerson_20 : decode cX0_isPerson 20 = .ok (.iload_n 1, 1) := by decide +kernel
theorem dX0_isPerson_21 : decode cX0_isPerson 21 = .ok (.if_icmp .ne 7, 3) := by decide +kernel
theorem dX0_isPerson_24 : decode cX0_isPerson 24 = .ok (.iconst 1, 1) := by decide +kernel
theorem dX0_isPerson_25 : decode cX0_isPerson 25 = .ok (.goto 4, 3) := by decide +kernel
theorem dX0_isPerson_28 : decode cX0_isPerson 28 = .ok (.iconst 0, 1) := by decide +kernel
theorem dX0_isPerson_29 : decode cX0_isPerson 29 = .ok (.ireturn, 1) := by decide +kernel
theorem dX8_needNumber_0 : decode cX8_needNumber 0 = .ok (.iload_n 0, 1) := by decide +kernel
theorem dX8_needNumber_1 : decode cX8_needNumber 1 = .ok (.ifCond .lt 8, 3) := by decide +kernel
theorem dX8_needNumber_4 : decode cX8_needNumber 4 = .ok (.iload_n 0, 1) := by decide +kernel
theorem dX8_needNumber_5 : decode cX8_needNumber 5 = .ok (.iload_n 1, 1) := by decide +kernel
theorem dX8_needNumber_6 : decode cX8_needNumber 6 = .ok (.if_icmp .lt 13, 3) := by decide +kernel
theorem dX8_needNumber_9 : decode cX8_needNumber 9 = .ok (.new 246, 3) := by decide +kernel
theorem dX8_needNumber_12 : decode cX8_needNumber 12 = .ok (.dup, 1) := by decide +kernel
theorem dX8_needNumber_13 : decode cX8_needNumber 13 = .ok (.ldc 248, 2) := by decide +kernel
theorem dX8_needNumber_15 : decode cX8_needNumber 15 = .ok (.invokespecial 250, 3) := by decide +kernel
theorem dX8_needNumber_18 : decode cX8_needNumber 18 = .ok (.athrow, 1) := by decide +kernel
theorem dX8_needNumber_19 : decode cX8_needNumber 19 = .ok (.return_, 1) := by decide +kernel
theorem dX8_needRange_0 : decode cX8_needRange 0 = .ok (.iload_n 0, 1) := by decide +kernel
theorem dX8_needRange_1 : decode cX8_needRange 1 = .ok (.iload_n 1, 1) := by decide +kernel
theorem dX8_needRange_2 : decode cX8_needRange 2 = .ok (.if_icmp .lt 8, 3) := by decide +kernel
theorem dX8_needRange_5 : decode cX8_needRange 5 = .ok (.iload_n 0, 1) := by decide +kernel
theorem dX8_needRange_6 : decode cX8_needRange 6 = .ok (.iload_n 2, 1) := by decide +kernel
theorem dX8_needRange_7 : decode cX8_needRange 7 = .ok (.if_icmp .le 13, 3) := by decide +kernel
theorem dX8_needRange_10 : decode cX8_needRange 10 = .ok (.new 117, 3) := by decide +kernel
theorem dX8_needRange_13 : decode cX8_needRange 13 = .ok (.dup, 1) := by decide +kernel
theorem dX8_needRange_14 : decode cX8_needRange 14 = .ok (.ldc 251, 2) := by decide +kernel
theorem dX8_needRange_16 : decode cX8_needRange 16 = .ok (.invokespecial 121, 3) := by decide +kernel
theorem dX8_needRange_19 : decode cX8_needRange 19 = .ok (.athrow, 1) := by decide +kernel
theorem dX8_needRange_20 : decode cX8_needRange 20 = .ok (.return_, 1) := by decide +kernel
set_option maxRecDepth 20000 in
theorem ggX8_needCard_X8_needNumber : GoodIn wsX8_needCard wsX8_needNumber := goodIn_ca (goodIn_r _ [6, 7, 8] (by decide +kernel) (by decide +kernel)) (goodIn_sub (fun _ h => List.mem_cons_of_mem _ (List.mem_append_right _ h)) (by decide +kernel))
set_option maxRecDepth 20000 in
theorem gX8_needCard_X8_needNumber : GoodIn wsX8_needCard (va_wsS RX8 65 yX8_needNumber wsX8_needNumber) := goodIn_app (goodIn_of _ (by decide +kernel)) ggX8_needCard_X8_needNumber
theorem dX8_needCard_0 : decode cX8_needCard 0 = .ok (.iload_n 1, 1) := by decide +kernel
theorem dX8_needCard_1 : decode cX8_needCard 1 = .ok (.aload_n 0, 1) := by decide +kernel
theorem dX8_needCard_2 : decode cX8_needCard 2 = .ok (.getfield 26, 3) := by decide +kernel
theorem dX8_needCard_5 : decode cX8_needCard 5 = .ok (.getfield 103, 3) := by decide +kernel
theorem dX8_needCard_8 : decode cX8_needCard 8 = .ok (.invokestatic 65, 3) := by decide +kernel
theorem dX8_needCard_11 : decode cX8_needCard 11 = .ok (.return_, 1) := by decide +kernel
set_option maxRecDepth 20000 in
theorem ggX8_needPerson_X0_isPerson : GoodIn wsX8_needPerson wsX0_isPerson := goodIn_r _ [8, 9, 10, 11, 12, 13, 14, 15, 16, 26, 27, 28, 29, 30, 31, 32] (by decide +kernel) (by decide +kernel)
set_option maxRecDepth 20000 in
theorem gX8_needPerson_X0_isPerson : GoodIn wsX8_needPerson (wsV RX8 166 RX0 yX0_isPerson wsX0_isPerson) := goodIn_app (goodIn_of _ (by decide +kernel)) ggX8_needPerson_X0_isPerson
theorem dX8_needPerson_0 : decode cX8_needPerson 0 = .ok (.aload_n 0, 1) := by decide +kernel
theorem dX8_needPerson_1 : decode cX8_needPerson 1 = .ok (.getfield 26, 3) := by decide +kernel
theorem dX8_needPerson_4 : decode cX8_needPerson 4 = .ok (.iload_n 1, 1) := by decide +kernel
theorem dX8_needPerson_5 : decode cX8_needPerson 5 = .ok (.invokevirtual 166, 3) := by decide +kernel
theorem dX8_needPerson_8 : decode cX8_needPerson 8 = .ok (.ifCond .ne 13, 3) := by decide +kernel
theorem dX8_needPerson_11 : decode cX8_needPerson 11 = .ok (.new 246, 3) := by decide +kernel
theorem dX8_needPerson_14 : decode cX8_needPerson 14 = .ok (.dup, 1) := by decide +kernel
theorem dX8_needPerson_15 : decode cX8_needPerson 15 = .ok (.ldc 253, 2) := by decide +kernel
theorem dX8_needPerson_17 : decode cX8_needPerson 17 = .ok (.invokespecial 250, 3) := by decide +kernel
theorem dX8_needPerson_20 : decode cX8_needPerson 20 = .ok (.athrow, 1) := by decide +kernel
theorem dX8_needPerson_21 : decode cX8_needPerson 21 = .ok (.return_, 1) := by decide +kernel
set_option maxRecDepth 20000 in
theorem ggX8_needTap_X8_needCard : GoodIn wsX8_needTap wsX8_needCard := goodIn_ca (goodIn_r _ [5, 6, 7, 8, 9, 4, 10, 11, 12, 18, 19, 20, 21, 22, 23, 24, 25, 26, 27, 28, 29, 30, 31, 32] (by decide +kernel) (by decide +kernel)) (goodIn_sub (fun _ h => List.mem_cons_of_mem _ (List.mem_append_left _ (List.mem_append_right _ h))) (by decide +kernel))
set_option maxRecDepth 20000 in
theorem gX8_needTap_X8_needCard : GoodIn wsX8_needTap (wsV RX8 110 RX8 yX8_needCard wsX8_needCard) := goodIn_app (goodIn_of _ (by decide +kernel)) ggX8_needTap_X8_needCard
set_option maxRecDepth 20000 in
theorem ggX8_needTap_X8_needNumber : GoodIn wsX8_needTap wsX8_needNumber := goodIn_ca (goodIn_r _ [10, 11, 12] (by decide +kernel) (by decide +kernel)) (goodIn_sub (fun _ h => List.mem_cons_of_mem _ (List.mem_append_left _ (List.mem_append_right _ h))) (by decide +kernel))
set_option maxRecDepth 20000 in
theorem gX8_needTap_X8_needNumber : GoodIn wsX8_needTap (va_wsS RX8 65 yX8_needNumber wsX8_needNumber) := goodIn_app (goodIn_of _ (by decide +kernel)) ggX8_needTap_X8_needNumber
set_option maxRecDepth 20000 in
theorem ggX8_needTap_X8_needRange : GoodIn wsX8_needTap wsX8_needRange := goodIn_ca (goodIn_r _ [15, 16, 17] (by decide +kernel) (by decide +kernel)) (goodIn_sub (fun _ h => List.mem_cons_of_mem _ (List.mem_append_right _ h)) (by decide +kernel))
set_option maxRecDepth 20000 in
theorem gX8_needTap_X8_needRange : GoodIn wsX8_needTap (va_wsS RX8 69 yX8_needRange wsX8_needRange) := goodIn_app (goodIn_of _ (by decide +kernel)) ggX8_needTap_X8_needRange
theorem dX8_needTap_0 : decode cX8_needTap 0 = .ok (.aload_n 0, 1) := by decide +kernel
theorem dX8_needTap_1 : decode cX8_needTap 1 = .ok (.iload_n 1, 1) := by decide +kernel
theorem dX8_needTap_2 : decode cX8_needTap 2 = .ok (.invokevirtual 110, 3) := by decide +kernel
theorem dX8_needTap_5 : decode cX8_needTap 5 = .ok (.iload_n 2, 1) := by decide +kernel
theorem dX8_needTap_6 : decode cX8_needTap 6 = .ok (.bipush 10, 2) := by decide +kernel
theorem dX8_needTap_8 : decode cX8_needTap 8 = .ok (.invokestatic 65, 3) := by decide +kernel
theorem dX8_needTap_11 : decode cX8_needTap 11 = .ok (.iload_n 3, 1) := by decide +kernel
theorem dX8_needTap_12 : decode cX8_needTap 12 = .ok (.bipush 6, 2) := by decide +kernel
theorem dX8_needTap_14 : decode cX8_needTap 14 = .ok (.invokestatic 65, 3) := by decide +kernel
theorem dX8_needTap_17 : decode cX8_needTap 17 = .ok (.iload 4, 2) := by decide +kernel
theorem dX8_needTap_19 : decode cX8_needTap 19 = .ok (.bipush 28, 2) := by decide +kernel
theorem dX8_needTap_21 : decode cX8_needTap 21 = .ok (.invokestatic 65, 3) := by decide +kernel
theorem dX8_needTap_24 : decode cX8_needTap 24 = .ok (.iload 5, 2) := by decide +kernel
theorem dX8_needTap_26 : decode cX8_needTap 26 = .ok (.iconst 0, 1) := by decide +kernel
theorem dX8_needTap_27 : decode cX8_needTap 27 = .ok (.sipush 1439, 3) := by decide +kernel
theorem dX8_needTap_30 : decode cX8_needTap 30 = .ok (.invokestatic 69, 3) := by decide +kernel
theorem dX8_needTap_33 : decode cX8_needTap 33 = .ok (.return_, 1) := by decide +kernel
