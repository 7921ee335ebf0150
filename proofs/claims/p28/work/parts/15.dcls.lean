set_option maxRecDepth 20000 in
theorem ggX0_give_X5_put : GoodIn wsX0_give wsX5_put := goodIn_r _ [7, 8, 15] (by decide +kernel) (by decide +kernel)
set_option maxRecDepth 20000 in
theorem gX0_give_X5_put : GoodIn wsX0_give (wsV RX0 36 RX5 yX5_put wsX5_put) := goodIn_app (goodIn_of _ (by decide +kernel)) ggX0_give_X5_put
theorem dX0_give_0 : decode cX0_give 0 = .ok (.aload_n 0, 1) := by decide +kernel
theorem dX0_give_1 : decode cX0_give 1 = .ok (.getfield 32, 3) := by decide +kernel
theorem dX0_give_4 : decode cX0_give 4 = .ok (.istore_n 1, 1) := by decide +kernel
theorem dX0_give_5 : decode cX0_give 5 = .ok (.aload_n 0, 1) := by decide +kernel
theorem dX0_give_6 : decode cX0_give 6 = .ok (.getfield 20, 3) := by decide +kernel
theorem dX0_give_9 : decode cX0_give 9 = .ok (.iload_n 1, 1) := by decide +kernel
theorem dX0_give_10 : decode cX0_give 10 = .ok (.iload_n 1, 1) := by decide +kernel
theorem dX0_give_11 : decode cX0_give 11 = .ok (.invokevirtual 36, 3) := by decide +kernel
theorem dX0_give_14 : decode cX0_give 14 = .ok (.aload_n 0, 1) := by decide +kernel
theorem dX0_give_15 : decode cX0_give 15 = .ok (.dup, 1) := by decide +kernel
theorem dX0_give_16 : decode cX0_give 16 = .ok (.getfield 32, 3) := by decide +kernel
theorem dX0_give_19 : decode cX0_give 19 = .ok (.iconst 1, 1) := by decide +kernel
theorem dX0_give_20 : decode cX0_give 20 = .ok (.iadd, 1) := by decide +kernel
theorem dX0_give_21 : decode cX0_give 21 = .ok (.putfield 32, 3) := by decide +kernel
theorem dX0_give_24 : decode cX0_give 24 = .ok (.iload_n 1, 1) := by decide +kernel
theorem dX0_give_25 : decode cX0_give 25 = .ok (.ireturn, 1) := by decide +kernel
set_option maxRecDepth 20000 in
theorem ggX0_isPerson_X5_at : GoodIn wsX0_isPerson wsX5_at := goodIn_r _ [7, 8, 15] (by decide +kernel) (by decide +kernel)
set_option maxRecDepth 20000 in
theorem gX0_isPerson_X5_at : GoodIn wsX0_isPerson (wsV RX0 40 RX5 yX5_at wsX5_at) := goodIn_app (goodIn_of _ (by decide +kernel)) ggX0_isPerson_X5_at
theorem dX0_isPerson_0 : decode cX0_isPerson 0 = .ok (.iload_n 1, 1) := by decide +kernel
theorem dX0_isPerson_1 : decode cX0_isPerson 1 = .ok (.ifCond .lt 27, 3) := by decide +kernel
theorem dX0_isPerson_4 : decode cX0_isPerson 4 = .ok (.iload_n 1, 1) := by decide +kernel
theorem dX0_isPerson_5 : decode cX0_isPerson 5 = .ok (.aload_n 0, 1) := by decide +kernel
theorem dX0_isPerson_6 : decode cX0_isPerson 6 = .ok (.getfield 32, 3) := by decide +kernel
theorem dX0_isPerson_9 : decode cX0_isPerson 9 = .ok (.if_icmp .ge 19, 3) := by decide +kernel
theorem dX0_isPerson_12 : decode cX0_isPerson 12 = .ok (.aload_n 0, 1) := by decide +kernel
theorem dX0_isPerson_13 : decode cX0_isPerson 13 = .ok (.getfield 20, 3) := by decide +kernel
theorem dX0_isPerson_16 : decode cX0_isPerson 16 = .ok (.iload_n 1, 1) := by decide +kernel
theorem dX0_isPerson_17 : decode cX0_isPerson 17 = .ok (.invokevirtual 40, 3) := by decide +kernel
theorem dX0_isPerson_20 : decode cX0_isPerson 20 = .ok (.iload_n 1, 1) := by decide +kernel
theorem dX0_isPerson_21 : decode cX0_isPerson 21 = .ok (.if_icmp .ne 7, 3) := by decide +kernel
theorem dX0_isPerson_24 : decode cX0_isPerson 24 = .ok (.iconst 1, 1) := by decide +kernel
theorem dX0_isPerson_25 : decode cX0_isPerson 25 = .ok (.goto 4, 3) := by decide +kernel
theorem dX0_isPerson_28 : decode cX0_isPerson 28 = .ok (.iconst 0, 1) := by decide +kernel
theorem dX0_isPerson_29 : decode cX0_isPerson 29 = .ok (.ireturn, 1) := by decide +kernel
set_option maxRecDepth 20000 in
theorem ggX0_isLost_X5_at : GoodIn wsX0_isLost wsX5_at := goodIn_r _ [6, 7, 14] (by decide +kernel) (by decide +kernel)
set_option maxRecDepth 20000 in
theorem gX0_isLost_X5_at : GoodIn wsX0_isLost (wsV RX0 40 RX5 yX5_at wsX5_at) := goodIn_app (goodIn_of _ (by decide +kernel)) ggX0_isLost_X5_at
theorem dX0_isLost_0 : decode cX0_isLost 0 = .ok (.aload_n 0, 1) := by decide +kernel
theorem dX0_isLost_1 : decode cX0_isLost 1 = .ok (.getfield 23, 3) := by decide +kernel
theorem dX0_isLost_4 : decode cX0_isLost 4 = .ok (.iload_n 1, 1) := by decide +kernel
theorem dX0_isLost_5 : decode cX0_isLost 5 = .ok (.invokevirtual 40, 3) := by decide +kernel
theorem dX0_isLost_8 : decode cX0_isLost 8 = .ok (.ifCond .eq 7, 3) := by decide +kernel
theorem dX0_isLost_11 : decode cX0_isLost 11 = .ok (.iconst 1, 1) := by decide +kernel
theorem dX0_isLost_12 : decode cX0_isLost 12 = .ok (.goto 4, 3) := by decide +kernel
theorem dX0_isLost_15 : decode cX0_isLost 15 = .ok (.iconst 0, 1) := by decide +kernel
theorem dX0_isLost_16 : decode cX0_isLost 16 = .ok (.ireturn, 1) := by decide +kernel
set_option maxRecDepth 20000 in
theorem ggX0_charge_X5_add : GoodIn wsX0_charge wsX5_add := goodIn_r _ [7, 8, 15] (by decide +kernel) (by decide +kernel)
set_option maxRecDepth 20000 in
theorem gX0_charge_X5_add : GoodIn wsX0_charge (wsV RX0 44 RX5 yX5_add wsX5_add) := goodIn_app (goodIn_of _ (by decide +kernel)) ggX0_charge_X5_add
theorem dX0_charge_0 : decode cX0_charge 0 = .ok (.aload_n 0, 1) := by decide +kernel
theorem dX0_charge_1 : decode cX0_charge 1 = .ok (.getfield 14, 3) := by decide +kernel
theorem dX0_charge_4 : decode cX0_charge 4 = .ok (.iload_n 1, 1) := by decide +kernel
theorem dX0_charge_5 : decode cX0_charge 5 = .ok (.iload_n 3, 1) := by decide +kernel
theorem dX0_charge_6 : decode cX0_charge 6 = .ok (.ineg, 1) := by decide +kernel
theorem dX0_charge_7 : decode cX0_charge 7 = .ok (.invokevirtual 44, 3) := by decide +kernel
theorem dX0_charge_10 : decode cX0_charge 10 = .ok (.aload_n 0, 1) := by decide +kernel
theorem dX0_charge_11 : decode cX0_charge 11 = .ok (.getfield 26, 3) := by decide +kernel
theorem dX0_charge_14 : decode cX0_charge 14 = .ok (.iload_n 1, 1) := by decide +kernel
theorem dX0_charge_15 : decode cX0_charge 15 = .ok (.iconst 4, 1) := by decide +kernel
theorem dX0_charge_16 : decode cX0_charge 16 = .ok (.imul, 1) := by decide +kernel
theorem dX0_charge_17 : decode cX0_charge 17 = .ok (.iload_n 2, 1) := by decide +kernel
theorem dX0_charge_18 : decode cX0_charge 18 = .ok (.iadd, 1) := by decide +kernel
theorem dX0_charge_19 : decode cX0_charge 19 = .ok (.iload_n 3, 1) := by decide +kernel
theorem dX0_charge_20 : decode cX0_charge 20 = .ok (.invokevirtual 44, 3) := by decide +kernel
theorem dX0_charge_23 : decode cX0_charge 23 = .ok (.return_, 1) := by decide +kernel
set_option maxRecDepth 20000 in
theorem gX1_read_X5_fill : GoodIn wsX1_read (wsV RX1 29 RX5 yX5_fill wsX5_fill) := goodIn_sub (fun w h => List.mem_cons_of_mem _ (List.mem_append_left _ (List.mem_append_left _ (List.mem_append_left _ (List.mem_append_left _ (List.mem_append_left _ (List.mem_append_left _ (List.mem_append_left _ (List.mem_append_right _ h))))))))) (by decide +kernel)
set_option maxRecDepth 20000 in
theorem gX1_read_X5_at : GoodIn wsX1_read (wsV RX1 37 RX5 yX5_at wsX5_at) := goodIn_sub (fun w h => List.mem_cons_of_mem _ (List.mem_append_left _ (List.mem_append_left _ (List.mem_append_left _ (List.mem_append_left _ (List.mem_append_left _ (List.mem_append_left _ (List.mem_append_right _ h)))))))) (by decide +kernel)
set_option maxRecDepth 20000 in
theorem gX1_read_X1_readDay : GoodIn wsX1_read (wsV RX1 41 RX1 yX1_readDay wsX1_readDay) := goodIn_sub (fun w h => List.mem_cons_of_mem _ (List.mem_append_left _ (List.mem_append_left _ (List.mem_append_left _ (List.mem_append_left _ (List.mem_append_left _ (List.mem_append_right _ h))))))) (by decide +kernel)
set_option maxRecDepth 20000 in
theorem gX1_read_X7_indexFor : GoodIn wsX1_read (wsV RX1 45 RX7 yX7_indexFor wsX7_indexFor) := goodIn_sub (fun w h => List.mem_cons_of_mem _ (List.mem_append_left _ (List.mem_append_left _ (List.mem_append_left _ (List.mem_append_left _ (List.mem_append_right _ h)))))) (by decide +kernel)
set_option maxRecDepth 20000 in
theorem gX1_read_X7_weekTicket : GoodIn wsX1_read (wsV RX1 50 RX7 yX7_weekTicket wsX7_weekTicket) := goodIn_sub (fun w h => List.mem_cons_of_mem _ (List.mem_append_left _ (List.mem_append_left _ (List.mem_append_left _ (List.mem_append_right _ h))))) (by decide +kernel)
set_option maxRecDepth 20000 in
theorem gX1_read_X5_put : GoodIn wsX1_read (wsV RX1 54 RX5 yX5_put wsX5_put) := goodIn_sub (fun w h => List.mem_cons_of_mem _ (List.mem_append_left _ (List.mem_append_left _ (List.mem_append_right _ h)))) (by decide +kernel)
set_option maxRecDepth 20000 in
theorem gX1_read_X1_lastDayOf : GoodIn wsX1_read (va_wsS RX1 58 yX1_lastDayOf wsX1_lastDayOf) := goodIn_sub (fun w h => List.mem_cons_of_mem _ (List.mem_append_left _ (List.mem_append_right _ h))) (by decide +kernel)
set_option maxRecDepth 20000 in
theorem gX1_read_X1_choiceUpTo : GoodIn wsX1_read (wsV RX1 61 RX1 yX1_choiceUpTo wsX1_choiceUpTo) := goodIn_sub (fun w h => List.mem_cons_of_mem _ (List.mem_append_right _ h)) (by decide +kernel)
theorem dX1_read_0 : decode cX1_read 0 = .ok (.aload_n 0, 1) := by decide +kernel
theorem dX1_read_1 : decode cX1_read 1 = .ok (.getfield 14, 3) := by decide +kernel
theorem dX1_read_4 : decode cX1_read 4 = .ok (.iconst 0, 1) := by decide +kernel
theorem dX1_read_5 : decode cX1_read 5 = .ok (.invokevirtual 29, 3) := by decide +kernel
theorem dX1_read_8 : decode cX1_read 8 = .ok (.aload_n 0, 1) := by decide +kernel
theorem dX1_read_9 : decode cX1_read 9 = .ok (.getfield 23, 3) := by decide +kernel
theorem dX1_read_12 : decode cX1_read 12 = .ok (.iconst 0, 1) := by decide +kernel
theorem dX1_read_13 : decode cX1_read 13 = .ok (.invokevirtual 29, 3) := by decide +kernel
theorem dX1_read_16 : decode cX1_read 16 = .ok (.iconst 0, 1) := by decide +kernel
theorem dX1_read_17 : decode cX1_read 17 = .ok (.istore_n 3, 1) := by decide +kernel
theorem dX1_read_18 : decode cX1_read 18 = .ok (.iload_n 3, 1) := by decide +kernel
theorem dX1_read_19 : decode cX1_read 19 = .ok (.bipush 28, 2) := by decide +kernel
theorem dX1_read_21 : decode cX1_read 21 = .ok (.if_icmp .ge 27, 3) := by decide +kernel
theorem dX1_read_24 : decode cX1_read 24 = .ok (.aload_n 1, 1) := by decide +kernel
theorem dX1_read_25 : decode cX1_read 25 = .ok (.getfield 32, 3) := by decide +kernel
theorem dX1_read_28 : decode cX1_read 28 = .ok (.iload_n 3, 1) := by decide +kernel
theorem dX1_read_29 : decode cX1_read 29 = .ok (.invokevirtual 37, 3) := by decide +kernel
theorem dX1_read_32 : decode cX1_read 32 = .ok (.ifCond .le 10, 3) := by decide +kernel
theorem dX1_read_35 : decode cX1_read 35 = .ok (.aload_n 0, 1) := by decide +kernel
theorem dX1_read_36 : decode cX1_read 36 = .ok (.iload_n 3, 1) := by decide +kernel
theorem dX1_read_37 : decode cX1_read 37 = .ok (.aload_n 1, 1) := by decide +kernel
theorem dX1_read_38 : decode cX1_read 38 = .ok (.aload_n 2, 1) := by decide +kernel
theorem dX1_read_39 : decode cX1_read 39 = .ok (.invokevirtual 41, 3) := by decide +kernel
theorem dX1_read_42 : decode cX1_read 42 = .ok (.iinc 3 1, 3) := by decide +kernel
theorem dX1_read_45 : decode cX1_read 45 = .ok (.goto (-27), 3) := by decide +kernel
theorem dX1_read_48 : decode cX1_read 48 = .ok (.iconst 0, 1) := by decide +kernel
theorem dX1_read_49 : decode cX1_read 49 = .ok (.istore_n 3, 1) := by decide +kernel
theorem dX1_read_50 : decode cX1_read 50 = .ok (.iload_n 3, 1) := by decide +kernel
theorem dX1_read_51 : decode cX1_read 51 = .ok (.iconst 4, 1) := by decide +kernel
theorem dX1_read_52 : decode cX1_read 52 = .ok (.if_icmp .ge 72, 3) := by decide +kernel
theorem dX1_read_55 : decode cX1_read 55 = .ok (.aload_n 2, 1) := by decide +kernel
theorem dX1_read_56 : decode cX1_read 56 = .ok (.iload_n 3, 1) := by decide +kernel
theorem dX1_read_57 : decode cX1_read 57 = .ok (.bipush 7, 2) := by decide +kernel
theorem dX1_read_59 : decode cX1_read 59 = .ok (.imul, 1) := by decide +kernel
theorem dX1_read_60 : decode cX1_read 60 = .ok (.invokevirtual 45, 3) := by decide +kernel
theorem dX1_read_63 : decode cX1_read 63 = .ok (.istore 4, 2) := by decide +kernel
theorem dX1_read_65 : decode cX1_read 65 = .ok (.iconst 1, 1) := by decide +kernel
theorem dX1_read_66 : decode cX1_read 66 = .ok (.istore 5, 2) := by decide +kernel
theorem dX1_read_68 : decode cX1_read 68 = .ok (.iload 5, 2) := by decide +kernel
theorem dX1_read_70 : decode cX1_read 70 = .ok (.iconst 4, 1) := by decide +kernel
theorem dX1_read_71 : decode cX1_read 71 = .ok (.if_icmp .gt 30, 3) := by decide +kernel
theorem dX1_read_74 : decode cX1_read 74 = .ok (.aload_n 0, 1) := by decide +kernel
theorem dX1_read_75 : decode cX1_read 75 = .ok (.getfield 26, 3) := by decide +kernel
theorem dX1_read_78 : decode cX1_read 78 = .ok (.iload_n 3, 1) := by decide +kernel
theorem dX1_read_79 : decode cX1_read 79 = .ok (.iconst 5, 1) := by decide +kernel
theorem dX1_read_80 : decode cX1_read 80 = .ok (.imul, 1) := by decide +kernel
theorem dX1_read_81 : decode cX1_read 81 = .ok (.iload 5, 2) := by decide +kernel
theorem dX1_read_83 : decode cX1_read 83 = .ok (.iadd, 1) := by decide +kernel
theorem dX1_read_84 : decode cX1_read 84 = .ok (.aload_n 2, 1) := by decide +kernel
theorem dX1_read_85 : decode cX1_read 85 = .ok (.iload 4, 2) := by decide +kernel
theorem dX1_read_87 : decode cX1_read 87 = .ok (.iload 5, 2) := by decide +kernel
theorem dX1_read_89 : decode cX1_read 89 = .ok (.invokevirtual 50, 3) := by decide +kernel
theorem dX1_read_92 : decode cX1_read 92 = .ok (.invokevirtual 54, 3) := by decide +kernel
theorem dX1_read_95 : decode cX1_read 95 = .ok (.iinc 5 1, 3) := by decide +kernel
theorem dX1_read_98 : decode cX1_read 98 = .ok (.goto (-30), 3) := by decide +kernel
theorem dX1_read_101 : decode cX1_read 101 = .ok (.aload_n 0, 1) := by decide +kernel
theorem dX1_read_102 : decode cX1_read 102 = .ok (.getfield 20, 3) := by decide +kernel
theorem dX1_read_105 : decode cX1_read 105 = .ok (.iload_n 3, 1) := by decide +kernel
theorem dX1_read_106 : decode cX1_read 106 = .ok (.aload_n 0, 1) := by decide +kernel
theorem dX1_read_107 : decode cX1_read 107 = .ok (.iload_n 3, 1) := by decide +kernel
theorem dX1_read_108 : decode cX1_read 108 = .ok (.iload_n 3, 1) := by decide +kernel
theorem dX1_read_109 : decode cX1_read 109 = .ok (.invokestatic 58, 3) := by decide +kernel
theorem dX1_read_112 : decode cX1_read 112 = .ok (.invokevirtual 61, 3) := by decide +kernel
theorem dX1_read_115 : decode cX1_read 115 = .ok (.invokevirtual 54, 3) := by decide +kernel
theorem dX1_read_118 : decode cX1_read 118 = .ok (.iinc 3 1, 3) := by decide +kernel
theorem dX1_read_121 : decode cX1_read 121 = .ok (.goto (-71), 3) := by decide +kernel
theorem dX1_read_124 : decode cX1_read 124 = .ok (.return_, 1) := by decide +kernel
set_option maxRecDepth 20000 in
theorem gX1_readDay_X7_indexFor : GoodIn wsX1_readDay (wsV RX1 45 RX7 yX7_indexFor wsX7_indexFor) := goodIn_sub (fun w h => List.mem_cons_of_mem _ (List.mem_append_left _ (List.mem_append_left _ (List.mem_append_left _ (List.mem_append_right _ h))))) (by decide +kernel)
set_option maxRecDepth 20000 in
theorem gX1_readDay_X2_fares : GoodIn wsX1_readDay (wsV RX1 64 RX2 yX2_fares wsX2_fares) := goodIn_sub (fun w h => List.mem_cons_of_mem _ (List.mem_append_left _ (List.mem_append_left _ (List.mem_append_right _ h)))) (by decide +kernel)
set_option maxRecDepth 20000 in
theorem gX1_readDay_X7_dayTicket : GoodIn wsX1_readDay (wsV RX1 67 RX7 yX7_dayTicket wsX7_dayTicket) := goodIn_sub (fun w h => List.mem_cons_of_mem _ (List.mem_append_left _ (List.mem_append_right _ h))) (by decide +kernel)
set_option maxRecDepth 20000 in
theorem gX1_readDay_X5_put : GoodIn wsX1_readDay (wsV RX1 54 RX5 yX5_put wsX5_put) := goodIn_sub (fun w h => List.mem_cons_of_mem _ (List.mem_append_right _ h)) (by decide +kernel)
theorem dX1_readDay_0 : decode cX1_readDay 0 = .ok (.aload_n 3, 1) := by decide +kernel
theorem dX1_readDay_1 : decode cX1_readDay 1 = .ok (.iload_n 1, 1) := by decide +kernel
theorem dX1_readDay_2 : decode cX1_readDay 2 = .ok (.invokevirtual 45, 3) := by decide +kernel
theorem dX1_readDay_5 : decode cX1_readDay 5 = .ok (.istore 4, 2) := by decide +kernel
theorem dX1_readDay_7 : decode cX1_readDay 7 = .ok (.iconst 0, 1) := by decide +kernel
theorem dX1_readDay_8 : decode cX1_readDay 8 = .ok (.istore 5, 2) := by decide +kernel
theorem dX1_readDay_10 : decode cX1_readDay 10 = .ok (.iload 5, 2) := by decide +kernel
theorem dX1_readDay_12 : decode cX1_readDay 12 = .ok (.iconst 4, 1) := by decide +kernel
theorem dX1_readDay_13 : decode cX1_readDay 13 = .ok (.if_icmp .gt 104, 3) := by decide +kernel
theorem dX1_readDay_16 : decode cX1_readDay 16 = .ok (.aload_n 2, 1) := by decide +kernel
theorem dX1_readDay_17 : decode cX1_readDay 17 = .ok (.iload_n 1, 1) := by decide +kernel
theorem dX1_readDay_18 : decode cX1_readDay 18 = .ok (.iload 5, 2) := by decide +kernel
theorem dX1_readDay_20 : decode cX1_readDay 20 = .ok (.invokevirtual 64, 3) := by decide +kernel
theorem dX1_readDay_23 : decode cX1_readDay 23 = .ok (.istore 6, 2) := by decide +kernel
theorem dX1_readDay_25 : decode cX1_readDay 25 = .ok (.iconst 0, 1) := by decide +kernel
theorem dX1_readDay_26 : decode cX1_readDay 26 = .ok (.istore 7, 2) := by decide +kernel
theorem dX1_readDay_28 : decode cX1_readDay 28 = .ok (.iconst 1, 1) := by decide +kernel
theorem dX1_readDay_29 : decode cX1_readDay 29 = .ok (.istore 8, 2) := by decide +kernel
theorem dX1_readDay_31 : decode cX1_readDay 31 = .ok (.iload 8, 2) := by decide +kernel
theorem dX1_readDay_33 : decode cX1_readDay 33 = .ok (.iconst 4, 1) := by decide +kernel
theorem dX1_readDay_34 : decode cX1_readDay 34 = .ok (.if_icmp .gt 47, 3) := by decide +kernel
theorem dX1_readDay_37 : decode cX1_readDay 37 = .ok (.aload_n 3, 1) := by decide +kernel
theorem dX1_readDay_38 : decode cX1_readDay 38 = .ok (.iload 4, 2) := by decide +kernel
theorem dX1_readDay_40 : decode cX1_readDay 40 = .ok (.iload 8, 2) := by decide +kernel
theorem dX1_readDay_42 : decode cX1_readDay 42 = .ok (.invokevirtual 67, 3) := by decide +kernel
theorem dX1_readDay_45 : decode cX1_readDay 45 = .ok (.aload_n 2, 1) := by decide +kernel
theorem dX1_readDay_46 : decode cX1_readDay 46 = .ok (.iload_n 1, 1) := by decide +kernel
theorem dX1_readDay_47 : decode cX1_readDay 47 = .ok (.iload 8, 2) := by decide +kernel
theorem dX1_readDay_49 : decode cX1_readDay 49 = .ok (.iload 5, 2) := by decide +kernel
theorem dX1_readDay_51 : decode cX1_readDay 51 = .ok (.invokestatic 70, 3) := by decide +kernel
theorem dX1_readDay_54 : decode cX1_readDay 54 = .ok (.invokevirtual 64, 3) := by decide +kernel
theorem dX1_readDay_57 : decode cX1_readDay 57 = .ok (.iadd, 1) := by decide +kernel
theorem dX1_readDay_58 : decode cX1_readDay 58 = .ok (.istore 9, 2) := by decide +kernel
theorem dX1_readDay_60 : decode cX1_readDay 60 = .ok (.iload 9, 2) := by decide +kernel
theorem dX1_readDay_62 : decode cX1_readDay 62 = .ok (.iload 6, 2) := by decide +kernel
theorem dX1_readDay_64 : decode cX1_readDay 64 = .ok (.if_icmp .ge 11, 3) := by decide +kernel
theorem dX1_readDay_67 : decode cX1_readDay 67 = .ok (.iload 9, 2) := by decide +kernel
theorem dX1_readDay_69 : decode cX1_readDay 69 = .ok (.istore 6, 2) := by decide +kernel
theorem dX1_readDay_71 : decode cX1_readDay 71 = .ok (.iload 8, 2) := by decide +kernel
theorem dX1_readDay_73 : decode cX1_readDay 73 = .ok (.istore 7, 2) := by decide +kernel
theorem dX1_readDay_75 : decode cX1_readDay 75 = .ok (.iinc 8 1, 3) := by decide +kernel
theorem dX1_readDay_78 : decode cX1_readDay 78 = .ok (.goto (-47), 3) := by decide +kernel
theorem dX1_readDay_81 : decode cX1_readDay 81 = .ok (.aload_n 0, 1) := by decide +kernel
theorem dX1_readDay_82 : decode cX1_readDay 82 = .ok (.getfield 23, 3) := by decide +kernel
theorem dX1_readDay_85 : decode cX1_readDay 85 = .ok (.iload_n 1, 1) := by decide +kernel
theorem dX1_readDay_86 : decode cX1_readDay 86 = .ok (.iconst 5, 1) := by decide +kernel
theorem dX1_readDay_87 : decode cX1_readDay 87 = .ok (.imul, 1) := by decide +kernel
theorem dX1_readDay_88 : decode cX1_readDay 88 = .ok (.iload 5, 2) := by decide +kernel
theorem dX1_readDay_90 : decode cX1_readDay 90 = .ok (.iadd, 1) := by decide +kernel
theorem dX1_readDay_91 : decode cX1_readDay 91 = .ok (.iload 6, 2) := by decide +kernel
theorem dX1_readDay_93 : decode cX1_readDay 93 = .ok (.invokevirtual 54, 3) := by decide +kernel
theorem dX1_readDay_96 : decode cX1_readDay 96 = .ok (.iload 5, 2) := by decide +kernel
theorem dX1_readDay_98 : decode cX1_readDay 98 = .ok (.ifCond .ne 13, 3) := by decide +kernel
theorem dX1_readDay_101 : decode cX1_readDay 101 = .ok (.aload_n 0, 1) := by decide +kernel
theorem dX1_readDay_102 : decode cX1_readDay 102 = .ok (.getfield 14, 3) := by decide +kernel
theorem dX1_readDay_105 : decode cX1_readDay 105 = .ok (.iload_n 1, 1) := by decide +kernel
theorem dX1_readDay_106 : decode cX1_readDay 106 = .ok (.iload 7, 2) := by decide +kernel
theorem dX1_readDay_108 : decode cX1_readDay 108 = .ok (.invokevirtual 54, 3) := by decide +kernel
theorem dX1_readDay_111 : decode cX1_readDay 111 = .ok (.iinc 5 1, 3) := by decide +kernel
theorem dX1_readDay_114 : decode cX1_readDay 114 = .ok (.goto (-104), 3) := by decide +kernel
theorem dX1_readDay_117 : decode cX1_readDay 117 = .ok (.return_, 1) := by decide +kernel
set_option maxRecDepth 20000 in
theorem ggX1_byItself_X5_at : GoodIn wsX1_byItself wsX5_at := goodIn_r _ [6, 7, 12] (by decide +kernel) (by decide +kernel)
set_option maxRecDepth 20000 in
theorem gX1_byItself_X5_at : GoodIn wsX1_byItself (wsV RX1 37 RX5 yX5_at wsX5_at) := goodIn_app (goodIn_of _ (by decide +kernel)) ggX1_byItself_X5_at
theorem dX1_byItself_0 : decode cX1_byItself 0 = .ok (.aload_n 0, 1) := by decide +kernel
theorem dX1_byItself_1 : decode cX1_byItself 1 = .ok (.getfield 23, 3) := by decide +kernel
theorem dX1_byItself_4 : decode cX1_byItself 4 = .ok (.iload_n 1, 1) := by decide +kernel
theorem dX1_byItself_5 : decode cX1_byItself 5 = .ok (.iconst 5, 1) := by decide +kernel
theorem dX1_byItself_6 : decode cX1_byItself 6 = .ok (.imul, 1) := by decide +kernel
theorem dX1_byItself_7 : decode cX1_byItself 7 = .ok (.invokevirtual 37, 3) := by decide +kernel
theorem dX1_byItself_10 : decode cX1_byItself 10 = .ok (.ireturn, 1) := by decide +kernel
set_option maxRecDepth 20000 in
theorem ggX1_withinWeek_X5_at : GoodIn wsX1_withinWeek wsX5_at := goodIn_r _ [7, 8, 13] (by decide +kernel) (by decide +kernel)
set_option maxRecDepth 20000 in
theorem gX1_withinWeek_X5_at : GoodIn wsX1_withinWeek (wsV RX1 37 RX5 yX5_at wsX5_at) := goodIn_app (goodIn_of _ (by decide +kernel)) ggX1_withinWeek_X5_at
theorem dX1_withinWeek_0 : decode cX1_withinWeek 0 = .ok (.aload_n 0, 1) := by decide +kernel
theorem dX1_withinWeek_1 : decode cX1_withinWeek 1 = .ok (.getfield 23, 3) := by decide +kernel
theorem dX1_withinWeek_4 : decode cX1_withinWeek 4 = .ok (.iload_n 1, 1) := by decide +kernel
theorem dX1_withinWeek_5 : decode cX1_withinWeek 5 = .ok (.iconst 5, 1) := by decide +kernel
theorem dX1_withinWeek_6 : decode cX1_withinWeek 6 = .ok (.imul, 1) := by decide +kernel
theorem dX1_withinWeek_7 : decode cX1_withinWeek 7 = .ok (.aload_n 0, 1) := by decide +kernel
theorem dX1_withinWeek_8 : decode cX1_withinWeek 8 = .ok (.getfield 20, 3) := by decide +kernel
theorem dX1_withinWeek_11 : decode cX1_withinWeek 11 = .ok (.iload_n 1, 1) := by decide +kernel
theorem dX1_withinWeek_12 : decode cX1_withinWeek 12 = .ok (.bipush 7, 2) := by decide +kernel
theorem dX1_withinWeek_14 : decode cX1_withinWeek 14 = .ok (.idiv, 1) := by decide +kernel
theorem dX1_withinWeek_15 : decode cX1_withinWeek 15 = .ok (.invokevirtual 37, 3) := by decide +kernel
theorem dX1_withinWeek_18 : decode cX1_withinWeek 18 = .ok (.iadd, 1) := by decide +kernel
theorem dX1_withinWeek_19 : decode cX1_withinWeek 19 = .ok (.invokevirtual 37, 3) := by decide +kernel
theorem dX1_withinWeek_22 : decode cX1_withinWeek 22 = .ok (.ireturn, 1) := by decide +kernel
set_option maxRecDepth 20000 in
theorem ggX1_ofWholeWeek_X1_lastDayOf : GoodIn wsX1_ofWholeWeek wsX1_lastDayOf := goodIn_r _ [5] (by decide +kernel) (by decide +kernel)
set_option maxRecDepth 20000 in
theorem gX1_ofWholeWeek_X1_lastDayOf : GoodIn wsX1_ofWholeWeek (va_wsS RX1 58 yX1_lastDayOf wsX1_lastDayOf) := goodIn_app (goodIn_of _ (by decide +kernel)) ggX1_ofWholeWeek_X1_lastDayOf
set_option maxRecDepth 20000 in
theorem ggX1_ofWholeWeek_X5_at : GoodIn wsX1_ofWholeWeek wsX5_at := goodIn_r _ [10, 11, 22] (by decide +kernel) (by decide +kernel)
set_option maxRecDepth 20000 in
theorem gX1_ofWholeWeek_X5_at : GoodIn wsX1_ofWholeWeek (wsV RX1 37 RX5 yX5_at wsX5_at) := goodIn_app (goodIn_of _ (by decide +kernel)) ggX1_ofWholeWeek_X5_at
set_option maxRecDepth 20000 in
theorem ggX1_ofWholeWeek_X1_upTo : GoodIn wsX1_ofWholeWeek wsX1_upTo := goodIn_r _ [15, 16, 17, 6, 7, 8, 9, 10, 11, 18, 19, 20, 21, 22] (by decide +kernel) (by decide +kernel)
set_option maxRecDepth 20000 in
theorem gX1_ofWholeWeek_X1_upTo : GoodIn wsX1_ofWholeWeek (wsV RX1 75 RX1 yX1_upTo wsX1_upTo) := goodIn_app (goodIn_of _ (by decide +kernel)) ggX1_ofWholeWeek_X1_upTo
theorem dX1_ofWholeWeek_0 : decode cX1_ofWholeWeek 0 = .ok (.aload_n 0, 1) := by decide +kernel
theorem dX1_ofWholeWeek_1 : decode cX1_ofWholeWeek 1 = .ok (.iload_n 1, 1) := by decide +kernel
theorem dX1_ofWholeWeek_2 : decode cX1_ofWholeWeek 2 = .ok (.iload_n 1, 1) := by decide +kernel
theorem dX1_ofWholeWeek_3 : decode cX1_ofWholeWeek 3 = .ok (.invokestatic 58, 3) := by decide +kernel
theorem dX1_ofWholeWeek_6 : decode cX1_ofWholeWeek 6 = .ok (.aload_n 0, 1) := by decide +kernel
theorem dX1_ofWholeWeek_7 : decode cX1_ofWholeWeek 7 = .ok (.getfield 20, 3) := by decide +kernel
theorem dX1_ofWholeWeek_10 : decode cX1_ofWholeWeek 10 = .ok (.iload_n 1, 1) := by decide +kernel
theorem dX1_ofWholeWeek_11 : decode cX1_ofWholeWeek 11 = .ok (.invokevirtual 37, 3) := by decide +kernel
theorem dX1_ofWholeWeek_14 : decode cX1_ofWholeWeek 14 = .ok (.invokevirtual 75, 3) := by decide +kernel
theorem dX1_ofWholeWeek_17 : decode cX1_ofWholeWeek 17 = .ok (.ireturn, 1) := by decide +kernel
set_option maxRecDepth 20000 in
theorem ggX1_ofDaysByThemselves_X1_lastDayOf : GoodIn wsX1_ofDaysByThemselves wsX1_lastDayOf := goodIn_r _ [4] (by decide +kernel) (by decide +kernel)
set_option maxRecDepth 20000 in
theorem gX1_ofDaysByThemselves_X1_lastDayOf : GoodIn wsX1_ofDaysByThemselves (va_wsS RX1 58 yX1_lastDayOf wsX1_lastDayOf) := goodIn_app (goodIn_of _ (by decide +kernel)) ggX1_ofDaysByThemselves_X1_lastDayOf
set_option maxRecDepth 20000 in
theorem ggX1_ofDaysByThemselves_X1_upTo : GoodIn wsX1_ofDaysByThemselves wsX1_upTo := goodIn_r _ [8, 9, 10, 11, 12, 13, 14, 15, 16, 17, 18, 19, 20, 21] (by decide +kernel) (by decide +kernel)
set_option maxRecDepth 20000 in
theorem gX1_ofDaysByThemselves_X1_upTo : GoodIn wsX1_ofDaysByThemselves (wsV RX1 75 RX1 yX1_upTo wsX1_upTo) := goodIn_app (goodIn_of _ (by decide +kernel)) ggX1_ofDaysByThemselves_X1_upTo
theorem dX1_ofDaysByThemselves_0 : decode cX1_ofDaysByThemselves 0 = .ok (.aload_n 0, 1) := by decide +kernel
theorem dX1_ofDaysByThemselves_1 : decode cX1_ofDaysByThemselves 1 = .ok (.iload_n 1, 1) := by decide +kernel
theorem dX1_ofDaysByThemselves_2 : decode cX1_ofDaysByThemselves 2 = .ok (.iload_n 1, 1) := by decide +kernel
theorem dX1_ofDaysByThemselves_3 : decode cX1_ofDaysByThemselves 3 = .ok (.invokestatic 58, 3) := by decide +kernel
theorem dX1_ofDaysByThemselves_6 : decode cX1_ofDaysByThemselves 6 = .ok (.iconst 0, 1) := by decide +kernel
theorem dX1_ofDaysByThemselves_7 : decode cX1_ofDaysByThemselves 7 = .ok (.invokevirtual 75, 3) := by decide +kernel
theorem dX1_ofDaysByThemselves_10 : decode cX1_ofDaysByThemselves 10 = .ok (.ireturn, 1) := by decide +kernel
set_option maxRecDepth 20000 in
theorem ggX1_leastUpTo_X1_choiceUpTo : GoodIn wsX1_leastUpTo wsX1_choiceUpTo := goodIn_r _ [5, 6, 7, 8, 4, 9, 10, 11, 12, 13, 14, 15, 16, 17, 18, 19, 20, 21, 22] (by decide +kernel) (by decide +kernel)
set_option maxRecDepth 20000 in
theorem gX1_leastUpTo_X1_choiceUpTo : GoodIn wsX1_leastUpTo (wsV RX1 61 RX1 yX1_choiceUpTo wsX1_choiceUpTo) := goodIn_app (goodIn_of _ (by decide +kernel)) ggX1_leastUpTo_X1_choiceUpTo
set_option maxRecDepth 20000 in
theorem ggX1_leastUpTo_X1_upTo : GoodIn wsX1_leastUpTo wsX1_upTo := goodIn_r _ [9, 10, 11, 12, 13, 14, 15, 16, 17, 18, 19, 20, 21, 22] (by decide +kernel) (by decide +kernel)
set_option maxRecDepth 20000 in
theorem gX1_leastUpTo_X1_upTo : GoodIn wsX1_leastUpTo (wsV RX1 75 RX1 yX1_upTo wsX1_upTo) := goodIn_app (goodIn_of _ (by decide +kernel)) ggX1_leastUpTo_X1_upTo
theorem dX1_leastUpTo_0 : decode cX1_leastUpTo 0 = .ok (.aload_n 0, 1) := by decide +kernel
theorem dX1_leastUpTo_1 : decode cX1_leastUpTo 1 = .ok (.iload_n 1, 1) := by decide +kernel
theorem dX1_leastUpTo_2 : decode cX1_leastUpTo 2 = .ok (.iload_n 2, 1) := by decide +kernel
theorem dX1_leastUpTo_3 : decode cX1_leastUpTo 3 = .ok (.aload_n 0, 1) := by decide +kernel
theorem dX1_leastUpTo_4 : decode cX1_leastUpTo 4 = .ok (.iload_n 1, 1) := by decide +kernel
theorem dX1_leastUpTo_5 : decode cX1_leastUpTo 5 = .ok (.iload_n 2, 1) := by decide +kernel
theorem dX1_leastUpTo_6 : decode cX1_leastUpTo 6 = .ok (.invokevirtual 61, 3) := by decide +kernel
theorem dX1_leastUpTo_9 : decode cX1_leastUpTo 9 = .ok (.invokevirtual 75, 3) := by decide +kernel
theorem dX1_leastUpTo_12 : decode cX1_leastUpTo 12 = .ok (.ireturn, 1) := by decide +kernel
theorem dX1_lastDayOf_0 : decode cX1_lastDayOf 0 = .ok (.iload_n 0, 1) := by decide +kernel
theorem dX1_lastDayOf_1 : decode cX1_lastDayOf 1 = .ok (.bipush 7, 2) := by decide +kernel
theorem dX1_lastDayOf_3 : decode cX1_lastDayOf 3 = .ok (.imul, 1) := by decide +kernel
theorem dX1_lastDayOf_4 : decode cX1_lastDayOf 4 = .ok (.bipush 7, 2) := by decide +kernel
theorem dX1_lastDayOf_6 : decode cX1_lastDayOf 6 = .ok (.iadd, 1) := by decide +kernel
theorem dX1_lastDayOf_7 : decode cX1_lastDayOf 7 = .ok (.iconst 1, 1) := by decide +kernel
theorem dX1_lastDayOf_8 : decode cX1_lastDayOf 8 = .ok (.isub, 1) := by decide +kernel
theorem dX1_lastDayOf_9 : decode cX1_lastDayOf 9 = .ok (.ireturn, 1) := by decide +kernel
set_option maxRecDepth 20000 in
theorem ggX1_choiceUpTo_X1_upTo : GoodIn wsX1_choiceUpTo wsX1_upTo := goodIn_r _ [5, 6, 7, 8, 9, 10, 11, 12, 13, 14, 15, 16, 17, 18] (by decide +kernel) (by decide +kernel)
set_option maxRecDepth 20000 in
theorem gX1_choiceUpTo_X1_upTo : GoodIn wsX1_choiceUpTo (wsV RX1 75 RX1 yX1_upTo wsX1_upTo) := goodIn_app (goodIn_of _ (by decide +kernel)) ggX1_choiceUpTo_X1_upTo
theorem dX1_choiceUpTo_0 : decode cX1_choiceUpTo 0 = .ok (.aload_n 0, 1) := by decide +kernel
theorem dX1_choiceUpTo_1 : decode cX1_choiceUpTo 1 = .ok (.iload_n 1, 1) := by decide +kernel
theorem dX1_choiceUpTo_2 : decode cX1_choiceUpTo 2 = .ok (.iload_n 2, 1) := by decide +kernel
theorem dX1_choiceUpTo_3 : decode cX1_choiceUpTo 3 = .ok (.iconst 0, 1) := by decide +kernel
theorem dX1_choiceUpTo_4 : decode cX1_choiceUpTo 4 = .ok (.invokevirtual 75, 3) := by decide +kernel
theorem dX1_choiceUpTo_7 : decode cX1_choiceUpTo 7 = .ok (.istore_n 3, 1) := by decide +kernel
theorem dX1_choiceUpTo_8 : decode cX1_choiceUpTo 8 = .ok (.iconst 0, 1) := by decide +kernel
theorem dX1_choiceUpTo_9 : decode cX1_choiceUpTo 9 = .ok (.istore 4, 2) := by decide +kernel
theorem dX1_choiceUpTo_11 : decode cX1_choiceUpTo 11 = .ok (.iconst 1, 1) := by decide +kernel
theorem dX1_choiceUpTo_12 : decode cX1_choiceUpTo 12 = .ok (.istore 5, 2) := by decide +kernel
theorem dX1_choiceUpTo_14 : decode cX1_choiceUpTo 14 = .ok (.iload 5, 2) := by decide +kernel
theorem dX1_choiceUpTo_16 : decode cX1_choiceUpTo 16 = .ok (.iconst 4, 1) := by decide +kernel
theorem dX1_choiceUpTo_17 : decode cX1_choiceUpTo 17 = .ok (.if_icmp .gt 32, 3) := by decide +kernel
theorem dX1_choiceUpTo_20 : decode cX1_choiceUpTo 20 = .ok (.aload_n 0, 1) := by decide +kernel
theorem dX1_choiceUpTo_21 : decode cX1_choiceUpTo 21 = .ok (.iload_n 1, 1) := by decide +kernel
theorem dX1_choiceUpTo_22 : decode cX1_choiceUpTo 22 = .ok (.iload_n 2, 1) := by decide +kernel
theorem dX1_choiceUpTo_23 : decode cX1_choiceUpTo 23 = .ok (.iload 5, 2) := by decide +kernel
theorem dX1_choiceUpTo_25 : decode cX1_choiceUpTo 25 = .ok (.invokevirtual 75, 3) := by decide +kernel
theorem dX1_choiceUpTo_28 : decode cX1_choiceUpTo 28 = .ok (.istore 6, 2) := by decide +kernel
theorem dX1_choiceUpTo_30 : decode cX1_choiceUpTo 30 = .ok (.iload 6, 2) := by decide +kernel
theorem dX1_choiceUpTo_32 : decode cX1_choiceUpTo 32 = .ok (.iload_n 3, 1) := by decide +kernel
theorem dX1_choiceUpTo_33 : decode cX1_choiceUpTo 33 = .ok (.if_icmp .ge 10, 3) := by decide +kernel
theorem dX1_choiceUpTo_36 : decode cX1_choiceUpTo 36 = .ok (.iload 6, 2) := by decide +kernel
theorem dX1_choiceUpTo_38 : decode cX1_choiceUpTo 38 = .ok (.istore_n 3, 1) := by decide +kernel
theorem dX1_choiceUpTo_39 : decode cX1_choiceUpTo 39 = .ok (.iload 5, 2) := by decide +kernel
theorem dX1_choiceUpTo_41 : decode cX1_choiceUpTo 41 = .ok (.istore 4, 2) := by decide +kernel
theorem dX1_choiceUpTo_43 : decode cX1_choiceUpTo 43 = .ok (.iinc 5 1, 3) := by decide +kernel
theorem dX1_choiceUpTo_46 : decode cX1_choiceUpTo 46 = .ok (.goto (-32), 3) := by decide +kernel
theorem dX1_choiceUpTo_49 : decode cX1_choiceUpTo 49 = .ok (.iload 4, 2) := by decide +kernel
theorem dX1_choiceUpTo_51 : decode cX1_choiceUpTo 51 = .ok (.ireturn, 1) := by decide +kernel
set_option maxRecDepth 20000 in
theorem ggX1_upTo_X5_at : GoodIn wsX1_upTo wsX5_at := goodIn_r _ [7, 8, 13] (by decide +kernel) (by decide +kernel)
set_option maxRecDepth 20000 in
theorem gX1_upTo_X5_at : GoodIn wsX1_upTo (wsV RX1 37 RX5 yX5_at wsX5_at) := goodIn_app (goodIn_of _ (by decide +kernel)) ggX1_upTo_X5_at
theorem dX1_upTo_0 : decode cX1_upTo 0 = .ok (.aload_n 0, 1) := by decide +kernel
theorem dX1_upTo_1 : decode cX1_upTo 1 = .ok (.getfield 26, 3) := by decide +kernel
theorem dX1_upTo_4 : decode cX1_upTo 4 = .ok (.iload_n 1, 1) := by decide +kernel
theorem dX1_upTo_5 : decode cX1_upTo 5 = .ok (.iconst 5, 1) := by decide +kernel
theorem dX1_upTo_6 : decode cX1_upTo 6 = .ok (.imul, 1) := by decide +kernel
theorem dX1_upTo_7 : decode cX1_upTo 7 = .ok (.iload_n 3, 1) := by decide +kernel
theorem dX1_upTo_8 : decode cX1_upTo 8 = .ok (.iadd, 1) := by decide +kernel
theorem dX1_upTo_9 : decode cX1_upTo 9 = .ok (.invokevirtual 37, 3) := by decide +kernel
theorem dX1_upTo_12 : decode cX1_upTo 12 = .ok (.istore 4, 2) := by decide +kernel
theorem dX1_upTo_14 : decode cX1_upTo 14 = .ok (.iload_n 1, 1) := by decide +kernel
theorem dX1_upTo_15 : decode cX1_upTo 15 = .ok (.bipush 7, 2) := by decide +kernel
theorem dX1_upTo_17 : decode cX1_upTo 17 = .ok (.imul, 1) := by decide +kernel
theorem dX1_upTo_18 : decode cX1_upTo 18 = .ok (.istore 5, 2) := by decide +kernel
theorem dX1_upTo_20 : decode cX1_upTo 20 = .ok (.iload 5, 2) := by decide +kernel
theorem dX1_upTo_22 : decode cX1_upTo 22 = .ok (.iload_n 2, 1) := by decide +kernel
theorem dX1_upTo_23 : decode cX1_upTo 23 = .ok (.if_icmp .gt 34, 3) := by decide +kernel
theorem dX1_upTo_26 : decode cX1_upTo 26 = .ok (.iload 5, 2) := by decide +kernel
theorem dX1_upTo_28 : decode cX1_upTo 28 = .ok (.bipush 28, 2) := by decide +kernel
theorem dX1_upTo_30 : decode cX1_upTo 30 = .ok (.if_icmp .ge 27, 3) := by decide +kernel
theorem dX1_upTo_33 : decode cX1_upTo 33 = .ok (.iload 4, 2) := by decide +kernel
theorem dX1_upTo_35 : decode cX1_upTo 35 = .ok (.aload_n 0, 1) := by decide +kernel
theorem dX1_upTo_36 : decode cX1_upTo 36 = .ok (.getfield 23, 3) := by decide +kernel
theorem dX1_upTo_39 : decode cX1_upTo 39 = .ok (.iload 5, 2) := by decide +kernel
theorem dX1_upTo_41 : decode cX1_upTo 41 = .ok (.iconst 5, 1) := by decide +kernel
theorem dX1_upTo_42 : decode cX1_upTo 42 = .ok (.imul, 1) := by decide +kernel
theorem dX1_upTo_43 : decode cX1_upTo 43 = .ok (.iload_n 3, 1) := by decide +kernel
theorem dX1_upTo_44 : decode cX1_upTo 44 = .ok (.iadd, 1) := by decide +kernel
theorem dX1_upTo_45 : decode cX1_upTo 45 = .ok (.invokevirtual 37, 3) := by decide +kernel
theorem dX1_upTo_48 : decode cX1_upTo 48 = .ok (.iadd, 1) := by decide +kernel
theorem dX1_upTo_49 : decode cX1_upTo 49 = .ok (.istore 4, 2) := by decide +kernel
theorem dX1_upTo_51 : decode cX1_upTo 51 = .ok (.iinc 5 1, 3) := by decide +kernel
theorem dX1_upTo_54 : decode cX1_upTo 54 = .ok (.goto (-34), 3) := by decide +kernel
theorem dX1_upTo_57 : decode cX1_upTo 57 = .ok (.iload 4, 2) := by decide +kernel
theorem dX1_upTo_59 : decode cX1_upTo 59 = .ok (.ireturn, 1) := by decide +kernel
set_option maxRecDepth 20000 in
theorem gX2_read_X5_fill : GoodIn wsX2_read (wsV RX2 48 RX5 yX5_fill wsX5_fill) := goodIn_sub (fun w h => List.mem_cons_of_mem _ (List.mem_append_left _ (List.mem_append_left _ (List.mem_append_left _ (List.mem_append_left _ (List.mem_append_left _ (List.mem_append_left _ (List.mem_append_left _ (List.mem_append_left _ (List.mem_append_right _ h)))))))))) (by decide +kernel)
set_option maxRecDepth 20000 in
theorem gX2_read_X5_at : GoodIn wsX2_read (wsV RX2 55 RX5 yX5_at wsX5_at) := goodIn_sub (fun w h => List.mem_cons_of_mem _ (List.mem_append_left _ (List.mem_append_left _ (List.mem_append_left _ (List.mem_append_left _ (List.mem_append_left _ (List.mem_append_left _ (List.mem_append_left _ (List.mem_append_right _ h))))))))) (by decide +kernel)
set_option maxRecDepth 20000 in
theorem gX2_read_X2_open : GoodIn wsX2_read (wsV RX2 65 RX2 yX2_open wsX2_open) := goodIn_sub (fun w h => List.mem_cons_of_mem _ (List.mem_append_left _ (List.mem_append_left _ (List.mem_append_left _ (List.mem_append_left _ (List.mem_append_left _ (List.mem_append_left _ (List.mem_append_right _ h)))))))) (by decide +kernel)
set_option maxRecDepth 20000 in
theorem gX2_read_X5_put : GoodIn wsX2_read (wsV RX2 69 RX5 yX5_put wsX5_put) := goodIn_sub (fun w h => List.mem_cons_of_mem _ (List.mem_append_left _ (List.mem_append_left _ (List.mem_append_left _ (List.mem_append_left _ (List.mem_append_left _ (List.mem_append_right _ h))))))) (by decide +kernel)
set_option maxRecDepth 20000 in
theorem gX2_read_X5_add : GoodIn wsX2_read (wsV RX2 72 RX5 yX5_add wsX5_add) := goodIn_sub (fun w h => List.mem_cons_of_mem _ (List.mem_append_left _ (List.mem_append_left _ (List.mem_append_left _ (List.mem_append_left _ (List.mem_append_right _ h)))))) (by decide +kernel)
set_option maxRecDepth 20000 in
theorem gX2_read_X2_touch : GoodIn wsX2_read (wsV RX2 83 RX2 yX2_touch wsX2_touch) := goodIn_sub (fun w h => List.mem_cons_of_mem _ (List.mem_append_left _ (List.mem_append_left _ (List.mem_append_left _ (List.mem_append_right _ h))))) (by decide +kernel)
set_option maxRecDepth 20000 in
theorem gX2_read_X7_indexFor : GoodIn wsX2_read (wsV RX2 89 RX7 yX7_indexFor wsX7_indexFor) := goodIn_sub (fun w h => List.mem_cons_of_mem _ (List.mem_append_left _ (List.mem_append_left _ (List.mem_append_right _ h)))) (by decide +kernel)
set_option maxRecDepth 20000 in
theorem gX2_read_X2_zonesTouched : GoodIn wsX2_read (wsV RX2 94 RX2 yX2_zonesTouched wsX2_zonesTouched) := goodIn_sub (fun w h => List.mem_cons_of_mem _ (List.mem_append_left _ (List.mem_append_right _ h))) (by decide +kernel)
set_option maxRecDepth 20000 in
theorem gX2_read_X7_fare : GoodIn wsX2_read (wsV RX2 97 RX7 yX7_fare wsX7_fare) := goodIn_sub (fun w h => List.mem_cons_of_mem _ (List.mem_append_right _ h)) (by decide +kernel)
theorem dX2_read_0 : decode cX2_read 0 = .ok (.aload_n 0, 1) := by decide +kernel
theorem dX2_read_1 : decode cX2_read 1 = .ok (.iconst 0, 1) := by decide +kernel
theorem dX2_read_2 : decode cX2_read 2 = .ok (.putfield 44, 3) := by decide +kernel
theorem dX2_read_5 : decode cX2_read 5 = .ok (.aload_n 0, 1) := by decide +kernel
theorem dX2_read_6 : decode cX2_read 6 = .ok (.getfield 29, 3) := by decide +kernel
theorem dX2_read_9 : decode cX2_read 9 = .ok (.iconst 0, 1) := by decide +kernel
theorem dX2_read_10 : decode cX2_read 10 = .ok (.invokevirtual 48, 3) := by decide +kernel
theorem dX2_read_13 : decode cX2_read 13 = .ok (.aload_n 0, 1) := by decide +kernel
theorem dX2_read_14 : decode cX2_read 14 = .ok (.getfield 32, 3) := by decide +kernel
theorem dX2_read_17 : decode cX2_read 17 = .ok (.iconst 0, 1) := by decide +kernel
theorem dX2_read_18 : decode cX2_read 18 = .ok (.invokevirtual 48, 3) := by decide +kernel
theorem dX2_read_21 : decode cX2_read 21 = .ok (.iconst 0, 1) := by decide +kernel
theorem dX2_read_22 : decode cX2_read 22 = .ok (.istore 4, 2) := by decide +kernel
theorem dX2_read_24 : decode cX2_read 24 = .ok (.iload 4, 2) := by decide +kernel
theorem dX2_read_26 : decode cX2_read 26 = .ok (.aload_n 1, 1) := by decide +kernel
theorem dX2_read_27 : decode cX2_read 27 = .ok (.getfield 51, 3) := by decide +kernel
theorem dX2_read_30 : decode cX2_read 30 = .ok (.if_icmp .ge 152, 3) := by decide +kernel
theorem dX2_read_33 : decode cX2_read 33 = .ok (.aload_n 1, 1) := by decide +kernel
theorem dX2_read_34 : decode cX2_read 34 = .ok (.getfield 54, 3) := by decide +kernel
theorem dX2_read_37 : decode cX2_read 37 = .ok (.iload 4, 2) := by decide +kernel
theorem dX2_read_39 : decode cX2_read 39 = .ok (.invokevirtual 55, 3) := by decide +kernel
theorem dX2_read_42 : decode cX2_read 42 = .ok (.istore 5, 2) := by decide +kernel
theorem dX2_read_44 : decode cX2_read 44 = .ok (.aload_n 0, 1) := by decide +kernel
theorem dX2_read_45 : decode cX2_read 45 = .ok (.getfield 32, 3) := by decide +kernel
theorem dX2_read_48 : decode cX2_read 48 = .ok (.iload 5, 2) := by decide +kernel
theorem dX2_read_50 : decode cX2_read 50 = .ok (.invokevirtual 55, 3) := by decide +kernel
theorem dX2_read_53 : decode cX2_read 53 = .ok (.ifCond .le 33, 3) := by decide +kernel
theorem dX2_read_56 : decode cX2_read 56 = .ok (.aload_n 1, 1) := by decide +kernel
theorem dX2_read_57 : decode cX2_read 57 = .ok (.getfield 59, 3) := by decide +kernel
theorem dX2_read_60 : decode cX2_read 60 = .ok (.iload 4, 2) := by decide +kernel
theorem dX2_read_62 : decode cX2_read 62 = .ok (.invokevirtual 55, 3) := by decide +kernel
theorem dX2_read_65 : decode cX2_read 65 = .ok (.aload_n 1, 1) := by decide +kernel
theorem dX2_read_66 : decode cX2_read 66 = .ok (.getfield 62, 3) := by decide +kernel
theorem dX2_read_69 : decode cX2_read 69 = .ok (.iload 4, 2) := by decide +kernel
theorem dX2_read_71 : decode cX2_read 71 = .ok (.iconst 1, 1) := by decide +kernel
theorem dX2_read_72 : decode cX2_read 72 = .ok (.isub, 1) := by decide +kernel
theorem dX2_read_73 : decode cX2_read 73 = .ok (.invokevirtual 55, 3) := by decide +kernel
theorem dX2_read_76 : decode cX2_read 76 = .ok (.isub, 1) := by decide +kernel
theorem dX2_read_77 : decode cX2_read 77 = .ok (.bipush 20, 2) := by decide +kernel
theorem dX2_read_79 : decode cX2_read 79 = .ok (.if_icmp .gt 7, 3) := by decide +kernel
theorem dX2_read_82 : decode cX2_read 82 = .ok (.iconst 1, 1) := by decide +kernel
theorem dX2_read_83 : decode cX2_read 83 = .ok (.goto 4, 3) := by decide +kernel
theorem dX2_read_86 : decode cX2_read 86 = .ok (.iconst 0, 1) := by decide +kernel
theorem dX2_read_87 : decode cX2_read 87 = .ok (.istore 6, 2) := by decide +kernel
theorem dX2_read_89 : decode cX2_read 89 = .ok (.iload 6, 2) := by decide +kernel
theorem dX2_read_91 : decode cX2_read 91 = .ok (.ifCond .ne 11, 3) := by decide +kernel
theorem dX2_read_94 : decode cX2_read 94 = .ok (.aload_n 0, 1) := by decide +kernel
theorem dX2_read_95 : decode cX2_read 95 = .ok (.iload 5, 2) := by decide +kernel
theorem dX2_read_97 : decode cX2_read 97 = .ok (.iload 4, 2) := by decide +kernel
theorem dX2_read_99 : decode cX2_read 99 = .ok (.invokevirtual 65, 3) := by decide +kernel
theorem dX2_read_102 : decode cX2_read 102 = .ok (.aload_n 0, 1) := by decide +kernel
theorem dX2_read_103 : decode cX2_read 103 = .ok (.getfield 26, 3) := by decide +kernel
theorem dX2_read_106 : decode cX2_read 106 = .ok (.iload 4, 2) := by decide +kernel
theorem dX2_read_108 : decode cX2_read 108 = .ok (.aload_n 0, 1) := by decide +kernel
theorem dX2_read_109 : decode cX2_read 109 = .ok (.getfield 32, 3) := by decide +kernel
theorem dX2_read_112 : decode cX2_read 112 = .ok (.iload 5, 2) := by decide +kernel
theorem dX2_read_114 : decode cX2_read 114 = .ok (.invokevirtual 55, 3) := by decide +kernel
theorem dX2_read_117 : decode cX2_read 117 = .ok (.iconst 1, 1) := by decide +kernel
theorem dX2_read_118 : decode cX2_read 118 = .ok (.isub, 1) := by decide +kernel
theorem dX2_read_119 : decode cX2_read 119 = .ok (.invokevirtual 69, 3) := by decide +kernel
theorem dX2_read_122 : decode cX2_read 122 = .ok (.aload_n 0, 1) := by decide +kernel
theorem dX2_read_123 : decode cX2_read 123 = .ok (.getfield 14, 3) := by decide +kernel
theorem dX2_read_126 : decode cX2_read 126 = .ok (.aload_n 0, 1) := by decide +kernel
theorem dX2_read_127 : decode cX2_read 127 = .ok (.getfield 44, 3) := by decide +kernel
theorem dX2_read_130 : decode cX2_read 130 = .ok (.iconst 1, 1) := by decide +kernel
theorem dX2_read_131 : decode cX2_read 131 = .ok (.isub, 1) := by decide +kernel
theorem dX2_read_132 : decode cX2_read 132 = .ok (.iconst 1, 1) := by decide +kernel
theorem dX2_read_133 : decode cX2_read 133 = .ok (.invokevirtual 72, 3) := by decide +kernel
theorem dX2_read_136 : decode cX2_read 136 = .ok (.aload_n 0, 1) := by decide +kernel
theorem dX2_read_137 : decode cX2_read 137 = .ok (.aload_n 2, 1) := by decide +kernel
theorem dX2_read_138 : decode cX2_read 138 = .ok (.getfield 75, 3) := by decide +kernel
theorem dX2_read_141 : decode cX2_read 141 = .ok (.aload_n 1, 1) := by decide +kernel
theorem dX2_read_142 : decode cX2_read 142 = .ok (.getfield 80, 3) := by decide +kernel
theorem dX2_read_145 : decode cX2_read 145 = .ok (.iload 4, 2) := by decide +kernel
theorem dX2_read_147 : decode cX2_read 147 = .ok (.invokevirtual 55, 3) := by decide +kernel
theorem dX2_read_150 : decode cX2_read 150 = .ok (.invokevirtual 55, 3) := by decide +kernel
theorem dX2_read_153 : decode cX2_read 153 = .ok (.invokevirtual 83, 3) := by decide +kernel
theorem dX2_read_156 : decode cX2_read 156 = .ok (.aload_n 0, 1) := by decide +kernel
theorem dX2_read_157 : decode cX2_read 157 = .ok (.aload_n 2, 1) := by decide +kernel
theorem dX2_read_158 : decode cX2_read 158 = .ok (.getfield 75, 3) := by decide +kernel
theorem dX2_read_161 : decode cX2_read 161 = .ok (.aload_n 1, 1) := by decide +kernel
theorem dX2_read_162 : decode cX2_read 162 = .ok (.getfield 86, 3) := by decide +kernel
theorem dX2_read_165 : decode cX2_read 165 = .ok (.iload 4, 2) := by decide +kernel
theorem dX2_read_167 : decode cX2_read 167 = .ok (.invokevirtual 55, 3) := by decide +kernel
theorem dX2_read_170 : decode cX2_read 170 = .ok (.invokevirtual 55, 3) := by decide +kernel
theorem dX2_read_173 : decode cX2_read 173 = .ok (.invokevirtual 83, 3) := by decide +kernel
theorem dX2_read_176 : decode cX2_read 176 = .ok (.iinc 4 1, 3) := by decide +kernel
theorem dX2_read_179 : decode cX2_read 179 = .ok (.goto (-155), 3) := by decide +kernel
theorem dX2_read_182 : decode cX2_read 182 = .ok (.iconst 0, 1) := by decide +kernel
theorem dX2_read_183 : decode cX2_read 183 = .ok (.istore 4, 2) := by decide +kernel
theorem dX2_read_185 : decode cX2_read 185 = .ok (.iload 4, 2) := by decide +kernel
theorem dX2_read_187 : decode cX2_read 187 = .ok (.aload_n 0, 1) := by decide +kernel
theorem dX2_read_188 : decode cX2_read 188 = .ok (.getfield 44, 3) := by decide +kernel
theorem dX2_read_191 : decode cX2_read 191 = .ok (.if_icmp .ge 45, 3) := by decide +kernel
theorem dX2_read_194 : decode cX2_read 194 = .ok (.aload_n 3, 1) := by decide +kernel
theorem dX2_read_195 : decode cX2_read 195 = .ok (.aload_n 0, 1) := by decide +kernel
theorem dX2_read_196 : decode cX2_read 196 = .ok (.getfield 35, 3) := by decide +kernel
theorem dX2_read_199 : decode cX2_read 199 = .ok (.iload 4, 2) := by decide +kernel
theorem dX2_read_201 : decode cX2_read 201 = .ok (.invokevirtual 55, 3) := by decide +kernel
theorem dX2_read_204 : decode cX2_read 204 = .ok (.invokevirtual 89, 3) := by decide +kernel
theorem dX2_read_207 : decode cX2_read 207 = .ok (.istore 5, 2) := by decide +kernel
theorem dX2_read_209 : decode cX2_read 209 = .ok (.aload_n 0, 1) := by decide +kernel
theorem dX2_read_210 : decode cX2_read 210 = .ok (.getfield 23, 3) := by decide +kernel
theorem dX2_read_213 : decode cX2_read 213 = .ok (.iload 4, 2) := by decide +kernel
theorem dX2_read_215 : decode cX2_read 215 = .ok (.aload_n 3, 1) := by decide +kernel
theorem dX2_read_216 : decode cX2_read 216 = .ok (.iload 5, 2) := by decide +kernel
theorem dX2_read_218 : decode cX2_read 218 = .ok (.aload_n 0, 1) := by decide +kernel
theorem dX2_read_219 : decode cX2_read 219 = .ok (.iload 4, 2) := by decide +kernel
theorem dX2_read_221 : decode cX2_read 221 = .ok (.invokevirtual 94, 3) := by decide +kernel
theorem dX2_read_224 : decode cX2_read 224 = .ok (.invokevirtual 97, 3) := by decide +kernel
theorem dX2_read_227 : decode cX2_read 227 = .ok (.invokevirtual 69, 3) := by decide +kernel
theorem dX2_read_230 : decode cX2_read 230 = .ok (.iinc 4 1, 3) := by decide +kernel
theorem dX2_read_233 : decode cX2_read 233 = .ok (.goto (-48), 3) := by decide +kernel
theorem dX2_read_236 : decode cX2_read 236 = .ok (.return_, 1) := by decide +kernel
set_option maxRecDepth 20000 in
theorem ggX2_open_X5_put : GoodIn wsX2_open wsX5_put := goodIn_r _ [13, 14, 33] (by decide +kernel) (by decide +kernel)
set_option maxRecDepth 20000 in
theorem gX2_open_X5_put : GoodIn wsX2_open (wsV RX2 69 RX5 yX5_put wsX5_put) := goodIn_app (goodIn_of _ (by decide +kernel)) ggX2_open_X5_put
set_option maxRecDepth 20000 in
theorem ggX2_open_X5_at : GoodIn wsX2_open wsX5_at := goodIn_r _ [18, 14, 33] (by decide +kernel) (by decide +kernel)
set_option maxRecDepth 20000 in
theorem gX2_open_X5_at : GoodIn wsX2_open (wsV RX2 55 RX5 yX5_at wsX5_at) := goodIn_app (goodIn_of _ (by decide +kernel)) ggX2_open_X5_at
set_option maxRecDepth 20000 in
theorem ggX2_open_X5_add : GoodIn wsX2_open wsX5_add := goodIn_r _ [22, 14, 33] (by decide +kernel) (by decide +kernel)
set_option maxRecDepth 20000 in
theorem gX2_open_X5_add : GoodIn wsX2_open (wsV RX2 72 RX5 yX5_add wsX5_add) := goodIn_app (goodIn_of _ (by decide +kernel)) ggX2_open_X5_add
theorem dX2_open_0 : decode cX2_open 0 = .ok (.aload_n 0, 1) := by decide +kernel
theorem dX2_open_1 : decode cX2_open 1 = .ok (.getfield 35, 3) := by decide +kernel
theorem dX2_open_4 : decode cX2_open 4 = .ok (.aload_n 0, 1) := by decide +kernel
theorem dX2_open_5 : decode cX2_open 5 = .ok (.getfield 44, 3) := by decide +kernel
theorem dX2_open_8 : decode cX2_open 8 = .ok (.iload_n 1, 1) := by decide +kernel
theorem dX2_open_9 : decode cX2_open 9 = .ok (.invokevirtual 69, 3) := by decide +kernel
theorem dX2_open_12 : decode cX2_open 12 = .ok (.aload_n 0, 1) := by decide +kernel
theorem dX2_open_13 : decode cX2_open 13 = .ok (.getfield 38, 3) := by decide +kernel
theorem dX2_open_16 : decode cX2_open 16 = .ok (.aload_n 0, 1) := by decide +kernel
theorem dX2_open_17 : decode cX2_open 17 = .ok (.getfield 44, 3) := by decide +kernel
theorem dX2_open_20 : decode cX2_open 20 = .ok (.iload_n 2, 1) := by decide +kernel
theorem dX2_open_21 : decode cX2_open 21 = .ok (.invokevirtual 69, 3) := by decide +kernel
theorem dX2_open_24 : decode cX2_open 24 = .ok (.aload_n 0, 1) := by decide +kernel
theorem dX2_open_25 : decode cX2_open 25 = .ok (.getfield 14, 3) := by decide +kernel
theorem dX2_open_28 : decode cX2_open 28 = .ok (.aload_n 0, 1) := by decide +kernel
theorem dX2_open_29 : decode cX2_open 29 = .ok (.getfield 44, 3) := by decide +kernel
theorem dX2_open_32 : decode cX2_open 32 = .ok (.iconst 0, 1) := by decide +kernel
theorem dX2_open_33 : decode cX2_open 33 = .ok (.invokevirtual 69, 3) := by decide +kernel
theorem dX2_open_36 : decode cX2_open 36 = .ok (.aload_n 0, 1) := by decide +kernel
theorem dX2_open_37 : decode cX2_open 37 = .ok (.getfield 20, 3) := by decide +kernel
theorem dX2_open_40 : decode cX2_open 40 = .ok (.aload_n 0, 1) := by decide +kernel
theorem dX2_open_41 : decode cX2_open 41 = .ok (.getfield 44, 3) := by decide +kernel
theorem dX2_open_44 : decode cX2_open 44 = .ok (.iconst 1, 1) := by decide +kernel
theorem dX2_open_45 : decode cX2_open 45 = .ok (.invokevirtual 69, 3) := by decide +kernel
theorem dX2_open_48 : decode cX2_open 48 = .ok (.aload_n 0, 1) := by decide +kernel
theorem dX2_open_49 : decode cX2_open 49 = .ok (.getfield 41, 3) := by decide +kernel
theorem dX2_open_52 : decode cX2_open 52 = .ok (.aload_n 0, 1) := by decide +kernel
theorem dX2_open_53 : decode cX2_open 53 = .ok (.getfield 44, 3) := by decide +kernel
theorem dX2_open_56 : decode cX2_open 56 = .ok (.iconst 4, 1) := by decide +kernel
theorem dX2_open_57 : decode cX2_open 57 = .ok (.invokevirtual 69, 3) := by decide +kernel
theorem dX2_open_60 : decode cX2_open 60 = .ok (.aload_n 0, 1) := by decide +kernel
theorem dX2_open_61 : decode cX2_open 61 = .ok (.getfield 32, 3) := by decide +kernel
theorem dX2_open_64 : decode cX2_open 64 = .ok (.iload_n 1, 1) := by decide +kernel
theorem dX2_open_65 : decode cX2_open 65 = .ok (.invokevirtual 55, 3) := by decide +kernel
theorem dX2_open_68 : decode cX2_open 68 = .ok (.ifCond .ne 15, 3) := by decide +kernel
theorem dX2_open_71 : decode cX2_open 71 = .ok (.aload_n 0, 1) := by decide +kernel
theorem dX2_open_72 : decode cX2_open 72 = .ok (.getfield 29, 3) := by decide +kernel
theorem dX2_open_75 : decode cX2_open 75 = .ok (.iload_n 1, 1) := by decide +kernel
theorem dX2_open_76 : decode cX2_open 76 = .ok (.aload_n 0, 1) := by decide +kernel
theorem dX2_open_77 : decode cX2_open 77 = .ok (.getfield 44, 3) := by decide +kernel
theorem dX2_open_80 : decode cX2_open 80 = .ok (.invokevirtual 69, 3) := by decide +kernel
theorem dX2_open_83 : decode cX2_open 83 = .ok (.aload_n 0, 1) := by decide +kernel
theorem dX2_open_84 : decode cX2_open 84 = .ok (.getfield 32, 3) := by decide +kernel
theorem dX2_open_87 : decode cX2_open 87 = .ok (.iload_n 1, 1) := by decide +kernel
theorem dX2_open_88 : decode cX2_open 88 = .ok (.iconst 1, 1) := by decide +kernel
theorem dX2_open_89 : decode cX2_open 89 = .ok (.invokevirtual 72, 3) := by decide +kernel
theorem dX2_open_92 : decode cX2_open 92 = .ok (.aload_n 0, 1) := by decide +kernel
theorem dX2_open_93 : decode cX2_open 93 = .ok (.dup, 1) := by decide +kernel
theorem dX2_open_94 : decode cX2_open 94 = .ok (.getfield 44, 3) := by decide +kernel
theorem dX2_open_97 : decode cX2_open 97 = .ok (.iconst 1, 1) := by decide +kernel
theorem dX2_open_98 : decode cX2_open 98 = .ok (.iadd, 1) := by decide +kernel
theorem dX2_open_99 : decode cX2_open 99 = .ok (.putfield 44, 3) := by decide +kernel
theorem dX2_open_102 : decode cX2_open 102 = .ok (.return_, 1) := by decide +kernel
set_option maxRecDepth 20000 in
theorem ggX2_touch_X5_at : GoodIn wsX2_touch wsX5_at := goodIn_r _ [15, 16, 31] (by decide +kernel) (by decide +kernel)
set_option maxRecDepth 20000 in
theorem gX2_touch_X5_at : GoodIn wsX2_touch (wsV RX2 55 RX5 yX5_at wsX5_at) := goodIn_app (goodIn_of _ (by decide +kernel)) ggX2_touch_X5_at
set_option maxRecDepth 20000 in
theorem ggX2_touch_X5_put : GoodIn wsX2_touch wsX5_put := goodIn_r _ [20, 16, 31] (by decide +kernel) (by decide +kernel)
set_option maxRecDepth 20000 in
theorem gX2_touch_X5_put : GoodIn wsX2_touch (wsV RX2 69 RX5 yX5_put wsX5_put) := goodIn_app (goodIn_of _ (by decide +kernel)) ggX2_touch_X5_put
theorem dX2_touch_0 : decode cX2_touch 0 = .ok (.aload_n 0, 1) := by decide +kernel
theorem dX2_touch_1 : decode cX2_touch 1 = .ok (.getfield 44, 3) := by decide +kernel
theorem dX2_touch_4 : decode cX2_touch 4 = .ok (.iconst 1, 1) := by decide +kernel
theorem dX2_touch_5 : decode cX2_touch 5 = .ok (.isub, 1) := by decide +kernel
theorem dX2_touch_6 : decode cX2_touch 6 = .ok (.istore_n 2, 1) := by decide +kernel
theorem dX2_touch_7 : decode cX2_touch 7 = .ok (.aload_n 0, 1) := by decide +kernel
theorem dX2_touch_8 : decode cX2_touch 8 = .ok (.getfield 20, 3) := by decide +kernel
theorem dX2_touch_11 : decode cX2_touch 11 = .ok (.iload_n 2, 1) := by decide +kernel
theorem dX2_touch_12 : decode cX2_touch 12 = .ok (.aload_n 0, 1) := by decide +kernel
theorem dX2_touch_13 : decode cX2_touch 13 = .ok (.getfield 20, 3) := by decide +kernel
theorem dX2_touch_16 : decode cX2_touch 16 = .ok (.iload_n 2, 1) := by decide +kernel
theorem dX2_touch_17 : decode cX2_touch 17 = .ok (.invokevirtual 55, 3) := by decide +kernel
theorem dX2_touch_20 : decode cX2_touch 20 = .ok (.iload_n 1, 1) := by decide +kernel
theorem dX2_touch_21 : decode cX2_touch 21 = .ok (.invokestatic 100, 3) := by decide +kernel
theorem dX2_touch_24 : decode cX2_touch 24 = .ok (.invokevirtual 69, 3) := by decide +kernel
theorem dX2_touch_27 : decode cX2_touch 27 = .ok (.aload_n 0, 1) := by decide +kernel
theorem dX2_touch_28 : decode cX2_touch 28 = .ok (.getfield 41, 3) := by decide +kernel
theorem dX2_touch_31 : decode cX2_touch 31 = .ok (.iload_n 2, 1) := by decide +kernel
theorem dX2_touch_32 : decode cX2_touch 32 = .ok (.aload_n 0, 1) := by decide +kernel
theorem dX2_touch_33 : decode cX2_touch 33 = .ok (.getfield 41, 3) := by decide +kernel
theorem dX2_touch_36 : decode cX2_touch 36 = .ok (.iload_n 2, 1) := by decide +kernel
theorem dX2_touch_37 : decode cX2_touch 37 = .ok (.invokevirtual 55, 3) := by decide +kernel
theorem dX2_touch_40 : decode cX2_touch 40 = .ok (.iload_n 1, 1) := by decide +kernel
theorem dX2_touch_41 : decode cX2_touch 41 = .ok (.invokestatic 105, 3) := by decide +kernel
theorem dX2_touch_44 : decode cX2_touch 44 = .ok (.invokevirtual 69, 3) := by decide +kernel
theorem dX2_touch_47 : decode cX2_touch 47 = .ok (.return_, 1) := by decide +kernel
set_option maxRecDepth 20000 in
theorem ggX2_zonesTouched_X5_at : GoodIn wsX2_zonesTouched wsX5_at := goodIn_r _ [7, 8, 19] (by decide +kernel) (by decide +kernel)
set_option maxRecDepth 20000 in
theorem gX2_zonesTouched_X5_at : GoodIn wsX2_zonesTouched (wsV RX2 55 RX5 yX5_at wsX5_at) := goodIn_app (goodIn_of _ (by decide +kernel)) ggX2_zonesTouched_X5_at
theorem dX2_zonesTouched_0 : decode cX2_zonesTouched 0 = .ok (.aload_n 0, 1) := by decide +kernel
theorem dX2_zonesTouched_1 : decode cX2_zonesTouched 1 = .ok (.getfield 20, 3) := by decide +kernel
theorem dX2_zonesTouched_4 : decode cX2_zonesTouched 4 = .ok (.iload_n 1, 1) := by decide +kernel
theorem dX2_zonesTouched_5 : decode cX2_zonesTouched 5 = .ok (.invokevirtual 55, 3) := by decide +kernel
theorem dX2_zonesTouched_8 : decode cX2_zonesTouched 8 = .ok (.aload_n 0, 1) := by decide +kernel
theorem dX2_zonesTouched_9 : decode cX2_zonesTouched 9 = .ok (.getfield 41, 3) := by decide +kernel
theorem dX2_zonesTouched_12 : decode cX2_zonesTouched 12 = .ok (.iload_n 1, 1) := by decide +kernel
theorem dX2_zonesTouched_13 : decode cX2_zonesTouched 13 = .ok (.invokevirtual 55, 3) := by decide +kernel
theorem dX2_zonesTouched_16 : decode cX2_zonesTouched 16 = .ok (.isub, 1) := by decide +kernel
theorem dX2_zonesTouched_17 : decode cX2_zonesTouched 17 = .ok (.iconst 1, 1) := by decide +kernel
theorem dX2_zonesTouched_18 : decode cX2_zonesTouched 18 = .ok (.iadd, 1) := by decide +kernel
theorem dX2_zonesTouched_19 : decode cX2_zonesTouched 19 = .ok (.ireturn, 1) := by decide +kernel
set_option maxRecDepth 20000 in
theorem ggX2_fares_X5_at : GoodIn wsX2_fares wsX5_at := goodIn_r _ [9, 10, 21] (by decide +kernel) (by decide +kernel)
set_option maxRecDepth 20000 in
theorem gX2_fares_X5_at : GoodIn wsX2_fares (wsV RX2 55 RX5 yX5_at wsX5_at) := goodIn_app (goodIn_of _ (by decide +kernel)) ggX2_fares_X5_at
theorem dX2_fares_0 : decode cX2_fares 0 = .ok (.iconst 0, 1) := by decide +kernel
theorem dX2_fares_1 : decode cX2_fares 1 = .ok (.istore_n 3, 1) := by decide +kernel
theorem dX2_fares_2 : decode cX2_fares 2 = .ok (.aload_n 0, 1) := by decide +kernel
theorem dX2_fares_3 : decode cX2_fares 3 = .ok (.getfield 29, 3) := by decide +kernel
theorem dX2_fares_6 : decode cX2_fares 6 = .ok (.iload_n 1, 1) := by decide +kernel
theorem dX2_fares_7 : decode cX2_fares 7 = .ok (.invokevirtual 55, 3) := by decide +kernel
theorem dX2_fares_10 : decode cX2_fares 10 = .ok (.istore 4, 2) := by decide +kernel
theorem dX2_fares_12 : decode cX2_fares 12 = .ok (.iconst 0, 1) := by decide +kernel
theorem dX2_fares_13 : decode cX2_fares 13 = .ok (.istore 5, 2) := by decide +kernel
theorem dX2_fares_15 : decode cX2_fares 15 = .ok (.iload 5, 2) := by decide +kernel
theorem dX2_fares_17 : decode cX2_fares 17 = .ok (.aload_n 0, 1) := by decide +kernel
theorem dX2_fares_18 : decode cX2_fares 18 = .ok (.getfield 32, 3) := by decide +kernel
theorem dX2_fares_21 : decode cX2_fares 21 = .ok (.iload_n 1, 1) := by decide +kernel
theorem dX2_fares_22 : decode cX2_fares 22 = .ok (.invokevirtual 55, 3) := by decide +kernel
theorem dX2_fares_25 : decode cX2_fares 25 = .ok (.if_icmp .ge 44, 3) := by decide +kernel
theorem dX2_fares_28 : decode cX2_fares 28 = .ok (.iload_n 3, 1) := by decide +kernel
theorem dX2_fares_29 : decode cX2_fares 29 = .ok (.aload_n 0, 1) := by decide +kernel
theorem dX2_fares_30 : decode cX2_fares 30 = .ok (.getfield 20, 3) := by decide +kernel
theorem dX2_fares_33 : decode cX2_fares 33 = .ok (.iload 4, 2) := by decide +kernel
theorem dX2_fares_35 : decode cX2_fares 35 = .ok (.iload 5, 2) := by decide +kernel
theorem dX2_fares_37 : decode cX2_fares 37 = .ok (.iadd, 1) := by decide +kernel
theorem dX2_fares_38 : decode cX2_fares 38 = .ok (.invokevirtual 55, 3) := by decide +kernel
theorem dX2_fares_41 : decode cX2_fares 41 = .ok (.iload_n 2, 1) := by decide +kernel
theorem dX2_fares_42 : decode cX2_fares 42 = .ok (.if_icmp .le 18, 3) := by decide +kernel
theorem dX2_fares_45 : decode cX2_fares 45 = .ok (.aload_n 0, 1) := by decide +kernel
theorem dX2_fares_46 : decode cX2_fares 46 = .ok (.getfield 23, 3) := by decide +kernel
theorem dX2_fares_49 : decode cX2_fares 49 = .ok (.iload 4, 2) := by decide +kernel
theorem dX2_fares_51 : decode cX2_fares 51 = .ok (.iload 5, 2) := by decide +kernel
theorem dX2_fares_53 : decode cX2_fares 53 = .ok (.iadd, 1) := by decide +kernel
theorem dX2_fares_54 : decode cX2_fares 54 = .ok (.invokevirtual 55, 3) := by decide +kernel
theorem dX2_fares_57 : decode cX2_fares 57 = .ok (.goto 4, 3) := by decide +kernel
theorem dX2_fares_60 : decode cX2_fares 60 = .ok (.iconst 0, 1) := by decide +kernel
theorem dX2_fares_61 : decode cX2_fares 61 = .ok (.iadd, 1) := by decide +kernel
theorem dX2_fares_62 : decode cX2_fares 62 = .ok (.istore_n 3, 1) := by decide +kernel
theorem dX2_fares_63 : decode cX2_fares 63 = .ok (.iinc 5 1, 3) := by decide +kernel
theorem dX2_fares_66 : decode cX2_fares 66 = .ok (.goto (-51), 3) := by decide +kernel
theorem dX2_fares_69 : decode cX2_fares 69 = .ok (.iload_n 3, 1) := by decide +kernel
theorem dX2_fares_70 : decode cX2_fares 70 = .ok (.ireturn, 1) := by decide +kernel
set_option maxRecDepth 20000 in
theorem ggX2_legsOfCarrier_X5_at : GoodIn wsX2_legsOfCarrier wsX5_at := goodIn_r _ [9, 10, 39] (by decide +kernel) (by decide +kernel)
set_option maxRecDepth 20000 in
theorem gX2_legsOfCarrier_X5_at : GoodIn wsX2_legsOfCarrier (wsV RX2 55 RX5 yX5_at wsX5_at) := goodIn_app (goodIn_of _ (by decide +kernel)) ggX2_legsOfCarrier_X5_at
theorem dX2_legsOfCarrier_0 : decode cX2_legsOfCarrier 0 = .ok (.iconst 0, 1) := by decide +kernel
theorem dX2_legsOfCarrier_1 : decode cX2_legsOfCarrier 1 = .ok (.istore 5, 2) := by decide +kernel
theorem dX2_legsOfCarrier_3 : decode cX2_legsOfCarrier 3 = .ok (.aload_n 0, 1) := by decide +kernel
theorem dX2_legsOfCarrier_4 : decode cX2_legsOfCarrier 4 = .ok (.getfield 38, 3) := by decide +kernel
theorem dX2_legsOfCarrier_7 : decode cX2_legsOfCarrier 7 = .ok (.iload_n 1, 1) := by decide +kernel
theorem dX2_legsOfCarrier_8 : decode cX2_legsOfCarrier 8 = .ok (.invokevirtual 55, 3) := by decide +kernel
theorem dX2_legsOfCarrier_11 : decode cX2_legsOfCarrier 11 = .ok (.istore 6, 2) := by decide +kernel
theorem dX2_legsOfCarrier_13 : decode cX2_legsOfCarrier 13 = .ok (.iconst 0, 1) := by decide +kernel
theorem dX2_legsOfCarrier_14 : decode cX2_legsOfCarrier 14 = .ok (.istore 7, 2) := by decide +kernel
theorem dX2_legsOfCarrier_16 : decode cX2_legsOfCarrier 16 = .ok (.iload 7, 2) := by decide +kernel
theorem dX2_legsOfCarrier_18 : decode cX2_legsOfCarrier 18 = .ok (.aload_n 0, 1) := by decide +kernel
theorem dX2_legsOfCarrier_19 : decode cX2_legsOfCarrier 19 = .ok (.getfield 14, 3) := by decide +kernel
theorem dX2_legsOfCarrier_22 : decode cX2_legsOfCarrier 22 = .ok (.iload_n 1, 1) := by decide +kernel
theorem dX2_legsOfCarrier_23 : decode cX2_legsOfCarrier 23 = .ok (.invokevirtual 55, 3) := by decide +kernel
theorem dX2_legsOfCarrier_26 : decode cX2_legsOfCarrier 26 = .ok (.if_icmp .ge 43, 3) := by decide +kernel
theorem dX2_legsOfCarrier_29 : decode cX2_legsOfCarrier 29 = .ok (.iload 5, 2) := by decide +kernel
theorem dX2_legsOfCarrier_31 : decode cX2_legsOfCarrier 31 = .ok (.aload_n 3, 1) := by decide +kernel
theorem dX2_legsOfCarrier_32 : decode cX2_legsOfCarrier 32 = .ok (.getfield 111, 3) := by decide +kernel
theorem dX2_legsOfCarrier_35 : decode cX2_legsOfCarrier 35 = .ok (.aload_n 2, 1) := by decide +kernel
theorem dX2_legsOfCarrier_36 : decode cX2_legsOfCarrier 36 = .ok (.getfield 108, 3) := by decide +kernel
theorem dX2_legsOfCarrier_39 : decode cX2_legsOfCarrier 39 = .ok (.iload 6, 2) := by decide +kernel
theorem dX2_legsOfCarrier_41 : decode cX2_legsOfCarrier 41 = .ok (.iload 7, 2) := by decide +kernel
theorem dX2_legsOfCarrier_43 : decode cX2_legsOfCarrier 43 = .ok (.iadd, 1) := by decide +kernel
theorem dX2_legsOfCarrier_44 : decode cX2_legsOfCarrier 44 = .ok (.invokevirtual 55, 3) := by decide +kernel
theorem dX2_legsOfCarrier_47 : decode cX2_legsOfCarrier 47 = .ok (.invokevirtual 55, 3) := by decide +kernel
theorem dX2_legsOfCarrier_50 : decode cX2_legsOfCarrier 50 = .ok (.iload 4, 2) := by decide +kernel
theorem dX2_legsOfCarrier_52 : decode cX2_legsOfCarrier 52 = .ok (.if_icmp .ne 7, 3) := by decide +kernel
theorem dX2_legsOfCarrier_55 : decode cX2_legsOfCarrier 55 = .ok (.iconst 1, 1) := by decide +kernel
theorem dX2_legsOfCarrier_56 : decode cX2_legsOfCarrier 56 = .ok (.goto 4, 3) := by decide +kernel
theorem dX2_legsOfCarrier_59 : decode cX2_legsOfCarrier 59 = .ok (.iconst 0, 1) := by decide +kernel
theorem dX2_legsOfCarrier_60 : decode cX2_legsOfCarrier 60 = .ok (.iadd, 1) := by decide +kernel
theorem dX2_legsOfCarrier_61 : decode cX2_legsOfCarrier 61 = .ok (.istore 5, 2) := by decide +kernel
theorem dX2_legsOfCarrier_63 : decode cX2_legsOfCarrier 63 = .ok (.iinc 7 1, 3) := by decide +kernel
theorem dX2_legsOfCarrier_66 : decode cX2_legsOfCarrier 66 = .ok (.goto (-50), 3) := by decide +kernel
theorem dX2_legsOfCarrier_69 : decode cX2_legsOfCarrier 69 = .ok (.iload 5, 2) := by decide +kernel
theorem dX2_legsOfCarrier_71 : decode cX2_legsOfCarrier 71 = .ok (.ireturn, 1) := by decide +kernel
set_option maxRecDepth 20000 in
theorem gX3_read_X5_fill : GoodIn wsX3_read (wsV RX3 63 RX5 yX5_fill wsX5_fill) := goodIn_sub (fun w h => List.mem_cons_of_mem _ (List.mem_append_left _ (List.mem_append_left _ (List.mem_append_left _ (List.mem_append_left _ (List.mem_append_left _ (List.mem_append_right _ h))))))) (by decide +kernel)
set_option maxRecDepth 20000 in
theorem gX3_read_X5_at : GoodIn wsX3_read (wsV RX3 71 RX5 yX5_at wsX5_at) := goodIn_sub (fun w h => List.mem_cons_of_mem _ (List.mem_append_left _ (List.mem_append_left _ (List.mem_append_left _ (List.mem_append_left _ (List.mem_append_right _ h)))))) (by decide +kernel)
set_option maxRecDepth 20000 in
theorem gX3_read_X3_insert : GoodIn wsX3_read (wsV RX3 86 RX3 yX3_insert wsX3_insert) := goodIn_sub (fun w h => List.mem_cons_of_mem _ (List.mem_append_left _ (List.mem_append_left _ (List.mem_append_left _ (List.mem_append_right _ h))))) (by decide +kernel)
set_option maxRecDepth 20000 in
theorem gX3_read_X3_takeIn : GoodIn wsX3_read (wsV RX3 93 RX3 yX3_takeIn wsX3_takeIn) := goodIn_sub (fun w h => List.mem_cons_of_mem _ (List.mem_append_left _ (List.mem_append_right _ h))) (by decide +kernel)
set_option maxRecDepth 20000 in
theorem gX3_read_X3_takeOut : GoodIn wsX3_read (wsV RX3 97 RX3 yX3_takeOut wsX3_takeOut) := goodIn_sub (fun w h => List.mem_cons_of_mem _ (List.mem_append_left _ (List.mem_append_left _ (List.mem_append_right _ h)))) (by decide +kernel)
set_option maxRecDepth 20000 in
theorem gX3_read_X3_fillGuesses : GoodIn wsX3_read (wsV RX3 100 RX3 yX3_fillGuesses wsX3_fillGuesses) := goodIn_sub (fun w h => List.mem_cons_of_mem _ (List.mem_append_right _ h)) (by decide +kernel)
theorem dX3_read_0 : decode cX3_read 0 = .ok (.aload_n 0, 1) := by decide +kernel
theorem dX3_read_1 : decode cX3_read 1 = .ok (.iconst 0, 1) := by decide +kernel
theorem dX3_read_2 : decode cX3_read 2 = .ok (.putfield 47, 3) := by decide +kernel
theorem dX3_read_5 : decode cX3_read 5 = .ok (.aload_n 0, 1) := by decide +kernel
theorem dX3_read_6 : decode cX3_read 6 = .ok (.iconst 0, 1) := by decide +kernel
theorem dX3_read_7 : decode cX3_read 7 = .ok (.putfield 60, 3) := by decide +kernel
theorem dX3_read_10 : decode cX3_read 10 = .ok (.aload_n 0, 1) := by decide +kernel
theorem dX3_read_11 : decode cX3_read 11 = .ok (.getfield 38, 3) := by decide +kernel
theorem dX3_read_14 : decode cX3_read 14 = .ok (.iconst 0, 1) := by decide +kernel
theorem dX3_read_15 : decode cX3_read 15 = .ok (.invokevirtual 63, 3) := by decide +kernel
theorem dX3_read_18 : decode cX3_read 18 = .ok (.aload_n 0, 1) := by decide +kernel
theorem dX3_read_19 : decode cX3_read 19 = .ok (.getfield 41, 3) := by decide +kernel
theorem dX3_read_22 : decode cX3_read 22 = .ok (.iconst 0, 1) := by decide +kernel
theorem dX3_read_23 : decode cX3_read 23 = .ok (.invokevirtual 63, 3) := by decide +kernel
theorem dX3_read_26 : decode cX3_read 26 = .ok (.aload_n 0, 1) := by decide +kernel
theorem dX3_read_27 : decode cX3_read 27 = .ok (.getfield 44, 3) := by decide +kernel
theorem dX3_read_30 : decode cX3_read 30 = .ok (.iconst 0, 1) := by decide +kernel
theorem dX3_read_31 : decode cX3_read 31 = .ok (.invokevirtual 63, 3) := by decide +kernel
theorem dX3_read_34 : decode cX3_read 34 = .ok (.iconst 0, 1) := by decide +kernel
theorem dX3_read_35 : decode cX3_read 35 = .ok (.istore 6, 2) := by decide +kernel
theorem dX3_read_37 : decode cX3_read 37 = .ok (.iload 6, 2) := by decide +kernel
theorem dX3_read_39 : decode cX3_read 39 = .ok (.iload_n 2, 1) := by decide +kernel
theorem dX3_read_40 : decode cX3_read 40 = .ok (.if_icmp .ge 80, 3) := by decide +kernel
theorem dX3_read_43 : decode cX3_read 43 = .ok (.aload_n 1, 1) := by decide +kernel
theorem dX3_read_44 : decode cX3_read 44 = .ok (.getfield 66, 3) := by decide +kernel
theorem dX3_read_47 : decode cX3_read 47 = .ok (.iload 6, 2) := by decide +kernel
theorem dX3_read_49 : decode cX3_read 49 = .ok (.invokevirtual 71, 3) := by decide +kernel
theorem dX3_read_52 : decode cX3_read 52 = .ok (.iload 5, 2) := by decide +kernel
theorem dX3_read_54 : decode cX3_read 54 = .ok (.if_icmp .eq 7, 3) := by decide +kernel
theorem dX3_read_57 : decode cX3_read 57 = .ok (.iconst 1, 1) := by decide +kernel
theorem dX3_read_58 : decode cX3_read 58 = .ok (.goto 4, 3) := by decide +kernel
theorem dX3_read_61 : decode cX3_read 61 = .ok (.iconst 0, 1) := by decide +kernel
theorem dX3_read_62 : decode cX3_read 62 = .ok (.istore 7, 2) := by decide +kernel
theorem dX3_read_64 : decode cX3_read 64 = .ok (.iload 7, 2) := by decide +kernel
theorem dX3_read_66 : decode cX3_read 66 = .ok (.ifCond .eq 48, 3) := by decide +kernel
theorem dX3_read_69 : decode cX3_read 69 = .ok (.aload_n 3, 1) := by decide +kernel
theorem dX3_read_70 : decode cX3_read 70 = .ok (.getfield 75, 3) := by decide +kernel
theorem dX3_read_73 : decode cX3_read 73 = .ok (.aload_n 1, 1) := by decide +kernel
theorem dX3_read_74 : decode cX3_read 74 = .ok (.getfield 80, 3) := by decide +kernel
theorem dX3_read_77 : decode cX3_read 77 = .ok (.iload 6, 2) := by decide +kernel
theorem dX3_read_79 : decode cX3_read 79 = .ok (.invokevirtual 71, 3) := by decide +kernel
theorem dX3_read_82 : decode cX3_read 82 = .ok (.invokevirtual 71, 3) := by decide +kernel
theorem dX3_read_85 : decode cX3_read 85 = .ok (.iload 4, 2) := by decide +kernel
theorem dX3_read_87 : decode cX3_read 87 = .ok (.if_icmp .ne 27, 3) := by decide +kernel
theorem dX3_read_90 : decode cX3_read 90 = .ok (.aload_n 0, 1) := by decide +kernel
theorem dX3_read_91 : decode cX3_read 91 = .ok (.iload 6, 2) := by decide +kernel
theorem dX3_read_93 : decode cX3_read 93 = .ok (.aload_n 1, 1) := by decide +kernel
theorem dX3_read_94 : decode cX3_read 94 = .ok (.getfield 66, 3) := by decide +kernel
theorem dX3_read_97 : decode cX3_read 97 = .ok (.iload 6, 2) := by decide +kernel
theorem dX3_read_99 : decode cX3_read 99 = .ok (.invokevirtual 71, 3) := by decide +kernel
theorem dX3_read_102 : decode cX3_read 102 = .ok (.aload_n 1, 1) := by decide +kernel
theorem dX3_read_103 : decode cX3_read 103 = .ok (.getfield 83, 3) := by decide +kernel
theorem dX3_read_106 : decode cX3_read 106 = .ok (.iload 6, 2) := by decide +kernel
theorem dX3_read_108 : decode cX3_read 108 = .ok (.invokevirtual 71, 3) := by decide +kernel
theorem dX3_read_111 : decode cX3_read 111 = .ok (.invokevirtual 86, 3) := by decide +kernel
theorem dX3_read_114 : decode cX3_read 114 = .ok (.iinc 6 1, 3) := by decide +kernel
theorem dX3_read_117 : decode cX3_read 117 = .ok (.goto (-80), 3) := by decide +kernel
theorem dX3_read_120 : decode cX3_read 120 = .ok (.iconst 0, 1) := by decide +kernel
theorem dX3_read_121 : decode cX3_read 121 = .ok (.istore 6, 2) := by decide +kernel
theorem dX3_read_123 : decode cX3_read 123 = .ok (.iload 6, 2) := by decide +kernel
theorem dX3_read_125 : decode cX3_read 125 = .ok (.aload_n 0, 1) := by decide +kernel
theorem dX3_read_126 : decode cX3_read 126 = .ok (.getfield 60, 3) := by decide +kernel
theorem dX3_read_129 : decode cX3_read 129 = .ok (.if_icmp .ge 49, 3) := by decide +kernel
theorem dX3_read_132 : decode cX3_read 132 = .ok (.aload_n 0, 1) := by decide +kernel
theorem dX3_read_133 : decode cX3_read 133 = .ok (.getfield 51, 3) := by decide +kernel
theorem dX3_read_136 : decode cX3_read 136 = .ok (.iload 6, 2) := by decide +kernel
theorem dX3_read_138 : decode cX3_read 138 = .ok (.invokevirtual 71, 3) := by decide +kernel
theorem dX3_read_141 : decode cX3_read 141 = .ok (.istore 7, 2) := by decide +kernel
theorem dX3_read_143 : decode cX3_read 143 = .ok (.aload_n 1, 1) := by decide +kernel
theorem dX3_read_144 : decode cX3_read 144 = .ok (.getfield 90, 3) := by decide +kernel
theorem dX3_read_147 : decode cX3_read 147 = .ok (.iload 7, 2) := by decide +kernel
theorem dX3_read_149 : decode cX3_read 149 = .ok (.invokevirtual 71, 3) := by decide +kernel
theorem dX3_read_152 : decode cX3_read 152 = .ok (.ifCond .eq 13, 3) := by decide +kernel
theorem dX3_read_155 : decode cX3_read 155 = .ok (.aload_n 0, 1) := by decide +kernel
theorem dX3_read_156 : decode cX3_read 156 = .ok (.aload_n 1, 1) := by decide +kernel
theorem dX3_read_157 : decode cX3_read 157 = .ok (.iload 7, 2) := by decide +kernel
theorem dX3_read_159 : decode cX3_read 159 = .ok (.invokevirtual 93, 3) := by decide +kernel
theorem dX3_read_162 : decode cX3_read 162 = .ok (.goto 10, 3) := by decide +kernel
theorem dX3_read_165 : decode cX3_read 165 = .ok (.aload_n 0, 1) := by decide +kernel
theorem dX3_read_166 : decode cX3_read 166 = .ok (.aload_n 1, 1) := by decide +kernel
theorem dX3_read_167 : decode cX3_read 167 = .ok (.iload 7, 2) := by decide +kernel
theorem dX3_read_169 : decode cX3_read 169 = .ok (.invokevirtual 97, 3) := by decide +kernel
theorem dX3_read_172 : decode cX3_read 172 = .ok (.iinc 6 1, 3) := by decide +kernel
theorem dX3_read_175 : decode cX3_read 175 = .ok (.goto (-52), 3) := by decide +kernel
theorem dX3_read_178 : decode cX3_read 178 = .ok (.aload_n 0, 1) := by decide +kernel
theorem dX3_read_179 : decode cX3_read 179 = .ok (.invokevirtual 100, 3) := by decide +kernel
theorem dX3_read_182 : decode cX3_read 182 = .ok (.return_, 1) := by decide +kernel
set_option maxRecDepth 20000 in
theorem ggX3_insert_X5_at : GoodIn wsX3_insert wsX5_at := goodIn_r _ [9, 10, 34] (by decide +kernel) (by decide +kernel)
set_option maxRecDepth 20000 in
theorem gX3_insert_X5_at : GoodIn wsX3_insert (wsV RX3 71 RX5 yX5_at wsX5_at) := goodIn_app (goodIn_of _ (by decide +kernel)) ggX3_insert_X5_at
set_option maxRecDepth 20000 in
theorem ggX3_insert_X5_put : GoodIn wsX3_insert wsX5_put := goodIn_r _ [14, 10, 34] (by decide +kernel) (by decide +kernel)
set_option maxRecDepth 20000 in
theorem gX3_insert_X5_put : GoodIn wsX3_insert (wsV RX3 103 RX5 yX5_put wsX5_put) := goodIn_app (goodIn_of _ (by decide +kernel)) ggX3_insert_X5_put
set_option maxRecDepth 20000 in
theorem ggX3_insert_X5_add : GoodIn wsX3_insert wsX5_add := goodIn_r _ [18, 10, 34] (by decide +kernel) (by decide +kernel)
set_option maxRecDepth 20000 in
theorem gX3_insert_X5_add : GoodIn wsX3_insert (wsV RX3 107 RX5 yX5_add wsX5_add) := goodIn_app (goodIn_of _ (by decide +kernel)) ggX3_insert_X5_add
theorem dX3_insert_0 : decode cX3_insert 0 = .ok (.iload_n 2, 1) := by decide +kernel
theorem dX3_insert_1 : decode cX3_insert 1 = .ok (.sipush 1440, 3) := by decide +kernel
theorem dX3_insert_4 : decode cX3_insert 4 = .ok (.imul, 1) := by decide +kernel
theorem dX3_insert_5 : decode cX3_insert 5 = .ok (.iload_n 3, 1) := by decide +kernel
theorem dX3_insert_6 : decode cX3_insert 6 = .ok (.iadd, 1) := by decide +kernel
theorem dX3_insert_7 : decode cX3_insert 7 = .ok (.istore 4, 2) := by decide +kernel
theorem dX3_insert_9 : decode cX3_insert 9 = .ok (.aload_n 0, 1) := by decide +kernel
theorem dX3_insert_10 : decode cX3_insert 10 = .ok (.getfield 60, 3) := by decide +kernel
theorem dX3_insert_13 : decode cX3_insert 13 = .ok (.istore 5, 2) := by decide +kernel
theorem dX3_insert_15 : decode cX3_insert 15 = .ok (.iload 5, 2) := by decide +kernel
theorem dX3_insert_17 : decode cX3_insert 17 = .ok (.ifCond .le 65, 3) := by decide +kernel
theorem dX3_insert_20 : decode cX3_insert 20 = .ok (.aload_n 0, 1) := by decide +kernel
theorem dX3_insert_21 : decode cX3_insert 21 = .ok (.getfield 54, 3) := by decide +kernel
theorem dX3_insert_24 : decode cX3_insert 24 = .ok (.iload 5, 2) := by decide +kernel
theorem dX3_insert_26 : decode cX3_insert 26 = .ok (.iconst 1, 1) := by decide +kernel
theorem dX3_insert_27 : decode cX3_insert 27 = .ok (.isub, 1) := by decide +kernel
theorem dX3_insert_28 : decode cX3_insert 28 = .ok (.invokevirtual 71, 3) := by decide +kernel
theorem dX3_insert_31 : decode cX3_insert 31 = .ok (.iload 4, 2) := by decide +kernel
theorem dX3_insert_33 : decode cX3_insert 33 = .ok (.if_icmp .le 49, 3) := by decide +kernel
theorem dX3_insert_36 : decode cX3_insert 36 = .ok (.aload_n 0, 1) := by decide +kernel
theorem dX3_insert_37 : decode cX3_insert 37 = .ok (.getfield 54, 3) := by decide +kernel
theorem dX3_insert_40 : decode cX3_insert 40 = .ok (.iload 5, 2) := by decide +kernel
theorem dX3_insert_42 : decode cX3_insert 42 = .ok (.aload_n 0, 1) := by decide +kernel
theorem dX3_insert_43 : decode cX3_insert 43 = .ok (.getfield 54, 3) := by decide +kernel
theorem dX3_insert_46 : decode cX3_insert 46 = .ok (.iload 5, 2) := by decide +kernel
theorem dX3_insert_48 : decode cX3_insert 48 = .ok (.iconst 1, 1) := by decide +kernel
theorem dX3_insert_49 : decode cX3_insert 49 = .ok (.isub, 1) := by decide +kernel
theorem dX3_insert_50 : decode cX3_insert 50 = .ok (.invokevirtual 71, 3) := by decide +kernel
theorem dX3_insert_53 : decode cX3_insert 53 = .ok (.invokevirtual 103, 3) := by decide +kernel
theorem dX3_insert_56 : decode cX3_insert 56 = .ok (.aload_n 0, 1) := by decide +kernel
theorem dX3_insert_57 : decode cX3_insert 57 = .ok (.getfield 51, 3) := by decide +kernel
theorem dX3_insert_60 : decode cX3_insert 60 = .ok (.iload 5, 2) := by decide +kernel
theorem dX3_insert_62 : decode cX3_insert 62 = .ok (.aload_n 0, 1) := by decide +kernel
theorem dX3_insert_63 : decode cX3_insert 63 = .ok (.getfield 51, 3) := by decide +kernel
theorem dX3_insert_66 : decode cX3_insert 66 = .ok (.iload 5, 2) := by decide +kernel
theorem dX3_insert_68 : decode cX3_insert 68 = .ok (.iconst 1, 1) := by decide +kernel
theorem dX3_insert_69 : decode cX3_insert 69 = .ok (.isub, 1) := by decide +kernel
theorem dX3_insert_70 : decode cX3_insert 70 = .ok (.invokevirtual 71, 3) := by decide +kernel
theorem dX3_insert_73 : decode cX3_insert 73 = .ok (.invokevirtual 103, 3) := by decide +kernel
theorem dX3_insert_76 : decode cX3_insert 76 = .ok (.iinc 5 (-1), 3) := by decide +kernel
theorem dX3_insert_79 : decode cX3_insert 79 = .ok (.goto (-64), 3) := by decide +kernel
theorem dX3_insert_82 : decode cX3_insert 82 = .ok (.aload_n 0, 1) := by decide +kernel
theorem dX3_insert_83 : decode cX3_insert 83 = .ok (.getfield 54, 3) := by decide +kernel
theorem dX3_insert_86 : decode cX3_insert 86 = .ok (.iload 5, 2) := by decide +kernel
theorem dX3_insert_88 : decode cX3_insert 88 = .ok (.iload 4, 2) := by decide +kernel
theorem dX3_insert_90 : decode cX3_insert 90 = .ok (.invokevirtual 103, 3) := by decide +kernel
theorem dX3_insert_93 : decode cX3_insert 93 = .ok (.aload_n 0, 1) := by decide +kernel
theorem dX3_insert_94 : decode cX3_insert 94 = .ok (.getfield 51, 3) := by decide +kernel
theorem dX3_insert_97 : decode cX3_insert 97 = .ok (.iload 5, 2) := by decide +kernel
theorem dX3_insert_99 : decode cX3_insert 99 = .ok (.iload_n 1, 1) := by decide +kernel
theorem dX3_insert_100 : decode cX3_insert 100 = .ok (.invokevirtual 103, 3) := by decide +kernel
theorem dX3_insert_103 : decode cX3_insert 103 = .ok (.aload_n 0, 1) := by decide +kernel
theorem dX3_insert_104 : decode cX3_insert 104 = .ok (.dup, 1) := by decide +kernel
theorem dX3_insert_105 : decode cX3_insert 105 = .ok (.getfield 60, 3) := by decide +kernel
theorem dX3_insert_108 : decode cX3_insert 108 = .ok (.iconst 1, 1) := by decide +kernel
theorem dX3_insert_109 : decode cX3_insert 109 = .ok (.iadd, 1) := by decide +kernel
theorem dX3_insert_110 : decode cX3_insert 110 = .ok (.putfield 60, 3) := by decide +kernel
theorem dX3_insert_113 : decode cX3_insert 113 = .ok (.aload_n 0, 1) := by decide +kernel
theorem dX3_insert_114 : decode cX3_insert 114 = .ok (.getfield 44, 3) := by decide +kernel
theorem dX3_insert_117 : decode cX3_insert 117 = .ok (.iload_n 2, 1) := by decide +kernel
theorem dX3_insert_118 : decode cX3_insert 118 = .ok (.iconst 1, 1) := by decide +kernel
theorem dX3_insert_119 : decode cX3_insert 119 = .ok (.invokevirtual 107, 3) := by decide +kernel
theorem dX3_insert_122 : decode cX3_insert 122 = .ok (.return_, 1) := by decide +kernel
set_option maxRecDepth 20000 in
theorem gX3_takeIn_X5_at : GoodIn wsX3_takeIn (wsV RX3 71 RX5 yX5_at wsX5_at) := goodIn_sub (fun w h => List.mem_cons_of_mem _ (List.mem_append_left _ (List.mem_append_left _ (List.mem_append_right _ h)))) (by decide +kernel)
set_option maxRecDepth 20000 in
theorem gX3_takeIn_X3_isOpenOn : GoodIn wsX3_takeIn (wsV RX3 113 RX3 yX3_isOpenOn wsX3_isOpenOn) := goodIn_sub (fun w h => List.mem_cons_of_mem _ (List.mem_append_left _ (List.mem_append_right _ h))) (by decide +kernel)
set_option maxRecDepth 20000 in
theorem gX3_takeIn_X3_add : GoodIn wsX3_takeIn (wsV RX3 120 RX3 yX3_add wsX3_add) := goodIn_sub (fun w h => List.mem_cons_of_mem _ (List.mem_append_right _ h)) (by decide +kernel)
theorem dX3_takeIn_0 : decode cX3_takeIn 0 = .ok (.aload_n 1, 1) := by decide +kernel
theorem dX3_takeIn_1 : decode cX3_takeIn 1 = .ok (.getfield 66, 3) := by decide +kernel
theorem dX3_takeIn_4 : decode cX3_takeIn 4 = .ok (.iload_n 2, 1) := by decide +kernel
theorem dX3_takeIn_5 : decode cX3_takeIn 5 = .ok (.invokevirtual 71, 3) := by decide +kernel
theorem dX3_takeIn_8 : decode cX3_takeIn 8 = .ok (.istore_n 3, 1) := by decide +kernel
theorem dX3_takeIn_9 : decode cX3_takeIn 9 = .ok (.aload_n 1, 1) := by decide +kernel
theorem dX3_takeIn_10 : decode cX3_takeIn 10 = .ok (.getfield 110, 3) := by decide +kernel
theorem dX3_takeIn_13 : decode cX3_takeIn 13 = .ok (.iload_n 2, 1) := by decide +kernel
theorem dX3_takeIn_14 : decode cX3_takeIn 14 = .ok (.invokevirtual 71, 3) := by decide +kernel
theorem dX3_takeIn_17 : decode cX3_takeIn 17 = .ok (.istore 4, 2) := by decide +kernel
theorem dX3_takeIn_19 : decode cX3_takeIn 19 = .ok (.aload_n 1, 1) := by decide +kernel
theorem dX3_takeIn_20 : decode cX3_takeIn 20 = .ok (.getfield 83, 3) := by decide +kernel
theorem dX3_takeIn_23 : decode cX3_takeIn 23 = .ok (.iload_n 2, 1) := by decide +kernel
theorem dX3_takeIn_24 : decode cX3_takeIn 24 = .ok (.invokevirtual 71, 3) := by decide +kernel
theorem dX3_takeIn_27 : decode cX3_takeIn 27 = .ok (.istore 5, 2) := by decide +kernel
theorem dX3_takeIn_29 : decode cX3_takeIn 29 = .ok (.aload_n 0, 1) := by decide +kernel
theorem dX3_takeIn_30 : decode cX3_takeIn 30 = .ok (.getfield 47, 3) := by decide +kernel
theorem dX3_takeIn_33 : decode cX3_takeIn 33 = .ok (.iconst 1, 1) := by decide +kernel
theorem dX3_takeIn_34 : decode cX3_takeIn 34 = .ok (.isub, 1) := by decide +kernel
theorem dX3_takeIn_35 : decode cX3_takeIn 35 = .ok (.istore 6, 2) := by decide +kernel
theorem dX3_takeIn_37 : decode cX3_takeIn 37 = .ok (.aload_n 0, 1) := by decide +kernel
theorem dX3_takeIn_38 : decode cX3_takeIn 38 = .ok (.iload_n 3, 1) := by decide +kernel
theorem dX3_takeIn_39 : decode cX3_takeIn 39 = .ok (.invokevirtual 113, 3) := by decide +kernel
theorem dX3_takeIn_42 : decode cX3_takeIn 42 = .ok (.ifCond .eq 37, 3) := by decide +kernel
theorem dX3_takeIn_45 : decode cX3_takeIn 45 = .ok (.aload_n 0, 1) := by decide +kernel
theorem dX3_takeIn_46 : decode cX3_takeIn 46 = .ok (.getfield 20, 3) := by decide +kernel
theorem dX3_takeIn_49 : decode cX3_takeIn 49 = .ok (.iload 6, 2) := by decide +kernel
theorem dX3_takeIn_51 : decode cX3_takeIn 51 = .ok (.invokevirtual 71, 3) := by decide +kernel
theorem dX3_takeIn_54 : decode cX3_takeIn 54 = .ok (.iload 4, 2) := by decide +kernel
theorem dX3_takeIn_56 : decode cX3_takeIn 56 = .ok (.if_icmp .ne 23, 3) := by decide +kernel
theorem dX3_takeIn_59 : decode cX3_takeIn 59 = .ok (.iload 5, 2) := by decide +kernel
theorem dX3_takeIn_61 : decode cX3_takeIn 61 = .ok (.aload_n 0, 1) := by decide +kernel
theorem dX3_takeIn_62 : decode cX3_takeIn 62 = .ok (.getfield 26, 3) := by decide +kernel
theorem dX3_takeIn_65 : decode cX3_takeIn 65 = .ok (.iload 6, 2) := by decide +kernel
theorem dX3_takeIn_67 : decode cX3_takeIn 67 = .ok (.invokevirtual 71, 3) := by decide +kernel
theorem dX3_takeIn_70 : decode cX3_takeIn 70 = .ok (.isub, 1) := by decide +kernel
theorem dX3_takeIn_71 : decode cX3_takeIn 71 = .ok (.iconst 3, 1) := by decide +kernel
theorem dX3_takeIn_72 : decode cX3_takeIn 72 = .ok (.if_icmp .gt 7, 3) := by decide +kernel
theorem dX3_takeIn_75 : decode cX3_takeIn 75 = .ok (.iconst 1, 1) := by decide +kernel
theorem dX3_takeIn_76 : decode cX3_takeIn 76 = .ok (.goto 4, 3) := by decide +kernel
theorem dX3_takeIn_79 : decode cX3_takeIn 79 = .ok (.iconst 0, 1) := by decide +kernel
theorem dX3_takeIn_80 : decode cX3_takeIn 80 = .ok (.istore 7, 2) := by decide +kernel
theorem dX3_takeIn_82 : decode cX3_takeIn 82 = .ok (.iload 7, 2) := by decide +kernel
theorem dX3_takeIn_84 : decode cX3_takeIn 84 = .ok (.ifCond .ne 21, 3) := by decide +kernel
theorem dX3_takeIn_87 : decode cX3_takeIn 87 = .ok (.aload_n 0, 1) := by decide +kernel
theorem dX3_takeIn_88 : decode cX3_takeIn 88 = .ok (.iload_n 3, 1) := by decide +kernel
theorem dX3_takeIn_89 : decode cX3_takeIn 89 = .ok (.iload 4, 2) := by decide +kernel
theorem dX3_takeIn_91 : decode cX3_takeIn 91 = .ok (.iload 5, 2) := by decide +kernel
theorem dX3_takeIn_93 : decode cX3_takeIn 93 = .ok (.aload_n 1, 1) := by decide +kernel
theorem dX3_takeIn_94 : decode cX3_takeIn 94 = .ok (.getfield 117, 3) := by decide +kernel
theorem dX3_takeIn_97 : decode cX3_takeIn 97 = .ok (.iload_n 2, 1) := by decide +kernel
theorem dX3_takeIn_98 : decode cX3_takeIn 98 = .ok (.invokevirtual 71, 3) := by decide +kernel
theorem dX3_takeIn_101 : decode cX3_takeIn 101 = .ok (.iconst 2, 1) := by decide +kernel
theorem dX3_takeIn_102 : decode cX3_takeIn 102 = .ok (.invokevirtual 120, 3) := by decide +kernel
theorem dX3_takeIn_105 : decode cX3_takeIn 105 = .ok (.return_, 1) := by decide +kernel
set_option maxRecDepth 20000 in
theorem gX3_takeOut_X5_at : GoodIn wsX3_takeOut (wsV RX3 71 RX5 yX5_at wsX5_at) := goodIn_sub (fun w h => List.mem_cons_of_mem _ (List.mem_append_left _ (List.mem_append_left _ (List.mem_append_left _ (List.mem_append_right _ h))))) (by decide +kernel)
set_option maxRecDepth 20000 in
theorem gX3_takeOut_X3_isOpenOn : GoodIn wsX3_takeOut (wsV RX3 113 RX3 yX3_isOpenOn wsX3_isOpenOn) := goodIn_sub (fun w h => List.mem_cons_of_mem _ (List.mem_append_left _ (List.mem_append_left _ (List.mem_append_right _ h)))) (by decide +kernel)
set_option maxRecDepth 20000 in
theorem gX3_takeOut_X5_put : GoodIn wsX3_takeOut (wsV RX3 103 RX5 yX5_put wsX5_put) := goodIn_sub (fun w h => List.mem_cons_of_mem _ (List.mem_append_right _ h)) (by decide +kernel)
set_option maxRecDepth 20000 in
theorem gX3_takeOut_X3_add : GoodIn wsX3_takeOut (wsV RX3 120 RX3 yX3_add wsX3_add) := goodIn_sub (fun w h => List.mem_cons_of_mem _ (List.mem_append_left _ (List.mem_append_right _ h))) (by decide +kernel)
theorem dX3_takeOut_0 : decode cX3_takeOut 0 = .ok (.aload_n 1, 1) := by decide +kernel
theorem dX3_takeOut_1 : decode cX3_takeOut 1 = .ok (.getfield 66, 3) := by decide +kernel
theorem dX3_takeOut_4 : decode cX3_takeOut 4 = .ok (.iload_n 2, 1) := by decide +kernel
theorem dX3_takeOut_5 : decode cX3_takeOut 5 = .ok (.invokevirtual 71, 3) := by decide +kernel
theorem dX3_takeOut_8 : decode cX3_takeOut 8 = .ok (.istore_n 3, 1) := by decide +kernel
theorem dX3_takeOut_9 : decode cX3_takeOut 9 = .ok (.aload_n 1, 1) := by decide +kernel
theorem dX3_takeOut_10 : decode cX3_takeOut 10 = .ok (.getfield 110, 3) := by decide +kernel
theorem dX3_takeOut_13 : decode cX3_takeOut 13 = .ok (.iload_n 2, 1) := by decide +kernel
theorem dX3_takeOut_14 : decode cX3_takeOut 14 = .ok (.invokevirtual 71, 3) := by decide +kernel
theorem dX3_takeOut_17 : decode cX3_takeOut 17 = .ok (.istore 4, 2) := by decide +kernel
theorem dX3_takeOut_19 : decode cX3_takeOut 19 = .ok (.aload_n 1, 1) := by decide +kernel
theorem dX3_takeOut_20 : decode cX3_takeOut 20 = .ok (.getfield 83, 3) := by decide +kernel
theorem dX3_takeOut_23 : decode cX3_takeOut 23 = .ok (.iload_n 2, 1) := by decide +kernel
theorem dX3_takeOut_24 : decode cX3_takeOut 24 = .ok (.invokevirtual 71, 3) := by decide +kernel
theorem dX3_takeOut_27 : decode cX3_takeOut 27 = .ok (.istore 5, 2) := by decide +kernel
theorem dX3_takeOut_29 : decode cX3_takeOut 29 = .ok (.aload_n 0, 1) := by decide +kernel
theorem dX3_takeOut_30 : decode cX3_takeOut 30 = .ok (.getfield 47, 3) := by decide +kernel
theorem dX3_takeOut_33 : decode cX3_takeOut 33 = .ok (.iconst 1, 1) := by decide +kernel
theorem dX3_takeOut_34 : decode cX3_takeOut 34 = .ok (.isub, 1) := by decide +kernel
theorem dX3_takeOut_35 : decode cX3_takeOut 35 = .ok (.istore 6, 2) := by decide +kernel
theorem dX3_takeOut_37 : decode cX3_takeOut 37 = .ok (.aload_n 0, 1) := by decide +kernel
theorem dX3_takeOut_38 : decode cX3_takeOut 38 = .ok (.iload_n 3, 1) := by decide +kernel
theorem dX3_takeOut_39 : decode cX3_takeOut 39 = .ok (.invokevirtual 113, 3) := by decide +kernel
theorem dX3_takeOut_42 : decode cX3_takeOut 42 = .ok (.ifCond .eq 36, 3) := by decide +kernel
theorem dX3_takeOut_45 : decode cX3_takeOut 45 = .ok (.aload_n 0, 1) := by decide +kernel
theorem dX3_takeOut_46 : decode cX3_takeOut 46 = .ok (.getfield 23, 3) := by decide +kernel
theorem dX3_takeOut_49 : decode cX3_takeOut 49 = .ok (.iload 6, 2) := by decide +kernel
theorem dX3_takeOut_51 : decode cX3_takeOut 51 = .ok (.iload 4, 2) := by decide +kernel
theorem dX3_takeOut_53 : decode cX3_takeOut 53 = .ok (.invokevirtual 103, 3) := by decide +kernel
theorem dX3_takeOut_56 : decode cX3_takeOut 56 = .ok (.aload_n 0, 1) := by decide +kernel
theorem dX3_takeOut_57 : decode cX3_takeOut 57 = .ok (.getfield 29, 3) := by decide +kernel
theorem dX3_takeOut_60 : decode cX3_takeOut 60 = .ok (.iload 6, 2) := by decide +kernel
theorem dX3_takeOut_62 : decode cX3_takeOut 62 = .ok (.iload 5, 2) := by decide +kernel
theorem dX3_takeOut_64 : decode cX3_takeOut 64 = .ok (.invokevirtual 103, 3) := by decide +kernel
theorem dX3_takeOut_67 : decode cX3_takeOut 67 = .ok (.aload_n 0, 1) := by decide +kernel
theorem dX3_takeOut_68 : decode cX3_takeOut 68 = .ok (.getfield 35, 3) := by decide +kernel
theorem dX3_takeOut_71 : decode cX3_takeOut 71 = .ok (.iload 6, 2) := by decide +kernel
theorem dX3_takeOut_73 : decode cX3_takeOut 73 = .ok (.iconst 0, 1) := by decide +kernel
theorem dX3_takeOut_74 : decode cX3_takeOut 74 = .ok (.invokevirtual 103, 3) := by decide +kernel
theorem dX3_takeOut_77 : decode cX3_takeOut 77 = .ok (.return_, 1) := by decide +kernel
theorem dX3_takeOut_78 : decode cX3_takeOut 78 = .ok (.aload_n 0, 1) := by decide +kernel
theorem dX3_takeOut_79 : decode cX3_takeOut 79 = .ok (.getfield 41, 3) := by decide +kernel
theorem dX3_takeOut_82 : decode cX3_takeOut 82 = .ok (.iload_n 3, 1) := by decide +kernel
theorem dX3_takeOut_83 : decode cX3_takeOut 83 = .ok (.invokevirtual 71, 3) := by decide +kernel
theorem dX3_takeOut_86 : decode cX3_takeOut 86 = .ok (.ifCond .le 37, 3) := by decide +kernel
theorem dX3_takeOut_89 : decode cX3_takeOut 89 = .ok (.aload_n 0, 1) := by decide +kernel
theorem dX3_takeOut_90 : decode cX3_takeOut 90 = .ok (.getfield 23, 3) := by decide +kernel
theorem dX3_takeOut_93 : decode cX3_takeOut 93 = .ok (.iload 6, 2) := by decide +kernel
theorem dX3_takeOut_95 : decode cX3_takeOut 95 = .ok (.invokevirtual 71, 3) := by decide +kernel
theorem dX3_takeOut_98 : decode cX3_takeOut 98 = .ok (.iload 4, 2) := by decide +kernel
theorem dX3_takeOut_100 : decode cX3_takeOut 100 = .ok (.if_icmp .ne 23, 3) := by decide +kernel
theorem dX3_takeOut_103 : decode cX3_takeOut 103 = .ok (.iload 5, 2) := by decide +kernel
theorem dX3_takeOut_105 : decode cX3_takeOut 105 = .ok (.aload_n 0, 1) := by decide +kernel
theorem dX3_takeOut_106 : decode cX3_takeOut 106 = .ok (.getfield 29, 3) := by decide +kernel
theorem dX3_takeOut_109 : decode cX3_takeOut 109 = .ok (.iload 6, 2) := by decide +kernel
theorem dX3_takeOut_111 : decode cX3_takeOut 111 = .ok (.invokevirtual 71, 3) := by decide +kernel
theorem dX3_takeOut_114 : decode cX3_takeOut 114 = .ok (.isub, 1) := by decide +kernel
theorem dX3_takeOut_115 : decode cX3_takeOut 115 = .ok (.iconst 3, 1) := by decide +kernel
theorem dX3_takeOut_116 : decode cX3_takeOut 116 = .ok (.if_icmp .gt 7, 3) := by decide +kernel
theorem dX3_takeOut_119 : decode cX3_takeOut 119 = .ok (.iconst 1, 1) := by decide +kernel
theorem dX3_takeOut_120 : decode cX3_takeOut 120 = .ok (.goto 4, 3) := by decide +kernel
theorem dX3_takeOut_123 : decode cX3_takeOut 123 = .ok (.iconst 0, 1) := by decide +kernel
theorem dX3_takeOut_124 : decode cX3_takeOut 124 = .ok (.istore 7, 2) := by decide +kernel
theorem dX3_takeOut_126 : decode cX3_takeOut 126 = .ok (.iload 7, 2) := by decide +kernel
theorem dX3_takeOut_128 : decode cX3_takeOut 128 = .ok (.ifCond .ne 21, 3) := by decide +kernel
theorem dX3_takeOut_131 : decode cX3_takeOut 131 = .ok (.aload_n 0, 1) := by decide +kernel
theorem dX3_takeOut_132 : decode cX3_takeOut 132 = .ok (.iload_n 3, 1) := by decide +kernel
theorem dX3_takeOut_133 : decode cX3_takeOut 133 = .ok (.iload 4, 2) := by decide +kernel
theorem dX3_takeOut_135 : decode cX3_takeOut 135 = .ok (.iload 5, 2) := by decide +kernel
theorem dX3_takeOut_137 : decode cX3_takeOut 137 = .ok (.aload_n 1, 1) := by decide +kernel
theorem dX3_takeOut_138 : decode cX3_takeOut 138 = .ok (.getfield 117, 3) := by decide +kernel
theorem dX3_takeOut_141 : decode cX3_takeOut 141 = .ok (.iload_n 2, 1) := by decide +kernel
theorem dX3_takeOut_142 : decode cX3_takeOut 142 = .ok (.invokevirtual 71, 3) := by decide +kernel
theorem dX3_takeOut_145 : decode cX3_takeOut 145 = .ok (.iconst 1, 1) := by decide +kernel
theorem dX3_takeOut_146 : decode cX3_takeOut 146 = .ok (.invokevirtual 120, 3) := by decide +kernel
theorem dX3_takeOut_149 : decode cX3_takeOut 149 = .ok (.return_, 1) := by decide +kernel
set_option maxRecDepth 20000 in
theorem ggX3_isOpenOn_X5_at : GoodIn wsX3_isOpenOn wsX5_at := goodIn_r _ [8, 9, 25] (by decide +kernel) (by decide +kernel)
set_option maxRecDepth 20000 in
theorem gX3_isOpenOn_X5_at : GoodIn wsX3_isOpenOn (wsV RX3 71 RX5 yX5_at wsX5_at) := goodIn_app (goodIn_of _ (by decide +kernel)) ggX3_isOpenOn_X5_at
theorem dX3_isOpenOn_0 : decode cX3_isOpenOn 0 = .ok (.aload_n 0, 1) := by decide +kernel
theorem dX3_isOpenOn_1 : decode cX3_isOpenOn 1 = .ok (.getfield 41, 3) := by decide +kernel
theorem dX3_isOpenOn_4 : decode cX3_isOpenOn 4 = .ok (.iload_n 1, 1) := by decide +kernel
theorem dX3_isOpenOn_5 : decode cX3_isOpenOn 5 = .ok (.invokevirtual 71, 3) := by decide +kernel
theorem dX3_isOpenOn_8 : decode cX3_isOpenOn 8 = .ok (.ifCond .le 24, 3) := by decide +kernel
theorem dX3_isOpenOn_11 : decode cX3_isOpenOn 11 = .ok (.aload_n 0, 1) := by decide +kernel
theorem dX3_isOpenOn_12 : decode cX3_isOpenOn 12 = .ok (.getfield 35, 3) := by decide +kernel
theorem dX3_isOpenOn_15 : decode cX3_isOpenOn 15 = .ok (.aload_n 0, 1) := by decide +kernel
theorem dX3_isOpenOn_16 : decode cX3_isOpenOn 16 = .ok (.getfield 47, 3) := by decide +kernel
theorem dX3_isOpenOn_19 : decode cX3_isOpenOn 19 = .ok (.iconst 1, 1) := by decide +kernel
theorem dX3_isOpenOn_20 : decode cX3_isOpenOn 20 = .ok (.isub, 1) := by decide +kernel
theorem dX3_isOpenOn_21 : decode cX3_isOpenOn 21 = .ok (.invokevirtual 71, 3) := by decide +kernel
theorem dX3_isOpenOn_24 : decode cX3_isOpenOn 24 = .ok (.iconst 2, 1) := by decide +kernel
theorem dX3_isOpenOn_25 : decode cX3_isOpenOn 25 = .ok (.if_icmp .ne 7, 3) := by decide +kernel
theorem dX3_isOpenOn_28 : decode cX3_isOpenOn 28 = .ok (.iconst 1, 1) := by decide +kernel
theorem dX3_isOpenOn_29 : decode cX3_isOpenOn 29 = .ok (.goto 4, 3) := by decide +kernel
theorem dX3_isOpenOn_32 : decode cX3_isOpenOn 32 = .ok (.iconst 0, 1) := by decide +kernel
theorem dX3_isOpenOn_33 : decode cX3_isOpenOn 33 = .ok (.ireturn, 1) := by decide +kernel
set_option maxRecDepth 20000 in
theorem ggX3_add_X5_put : GoodIn wsX3_add wsX5_put := goodIn_r _ [15, 16, 40] (by decide +kernel) (by decide +kernel)
set_option maxRecDepth 20000 in
theorem gX3_add_X5_put : GoodIn wsX3_add (wsV RX3 103 RX5 yX5_put wsX5_put) := goodIn_app (goodIn_of _ (by decide +kernel)) ggX3_add_X5_put
set_option maxRecDepth 20000 in
theorem ggX3_add_X5_at : GoodIn wsX3_add wsX5_at := goodIn_r _ [20, 16, 40] (by decide +kernel) (by decide +kernel)
set_option maxRecDepth 20000 in
theorem gX3_add_X5_at : GoodIn wsX3_add (wsV RX3 71 RX5 yX5_at wsX5_at) := goodIn_app (goodIn_of _ (by decide +kernel)) ggX3_add_X5_at
set_option maxRecDepth 20000 in
theorem ggX3_add_X5_add : GoodIn wsX3_add wsX5_add := goodIn_r _ [24, 16, 40] (by decide +kernel) (by decide +kernel)
set_option maxRecDepth 20000 in
theorem gX3_add_X5_add : GoodIn wsX3_add (wsV RX3 107 RX5 yX5_add wsX5_add) := goodIn_app (goodIn_of _ (by decide +kernel)) ggX3_add_X5_add
theorem dX3_add_0 : decode cX3_add 0 = .ok (.aload_n 0, 1) := by decide +kernel
theorem dX3_add_1 : decode cX3_add 1 = .ok (.getfield 14, 3) := by decide +kernel
theorem dX3_add_4 : decode cX3_add 4 = .ok (.aload_n 0, 1) := by decide +kernel
theorem dX3_add_5 : decode cX3_add 5 = .ok (.getfield 47, 3) := by decide +kernel
theorem dX3_add_8 : decode cX3_add 8 = .ok (.iload_n 1, 1) := by decide +kernel
theorem dX3_add_9 : decode cX3_add 9 = .ok (.invokevirtual 103, 3) := by decide +kernel
theorem dX3_add_12 : decode cX3_add 12 = .ok (.aload_n 0, 1) := by decide +kernel
theorem dX3_add_13 : decode cX3_add 13 = .ok (.getfield 20, 3) := by decide +kernel
theorem dX3_add_16 : decode cX3_add 16 = .ok (.aload_n 0, 1) := by decide +kernel
theorem dX3_add_17 : decode cX3_add 17 = .ok (.getfield 47, 3) := by decide +kernel
theorem dX3_add_20 : decode cX3_add 20 = .ok (.iload_n 2, 1) := by decide +kernel
theorem dX3_add_21 : decode cX3_add 21 = .ok (.invokevirtual 103, 3) := by decide +kernel
theorem dX3_add_24 : decode cX3_add 24 = .ok (.aload_n 0, 1) := by decide +kernel
theorem dX3_add_25 : decode cX3_add 25 = .ok (.getfield 23, 3) := by decide +kernel
theorem dX3_add_28 : decode cX3_add 28 = .ok (.aload_n 0, 1) := by decide +kernel
theorem dX3_add_29 : decode cX3_add 29 = .ok (.getfield 47, 3) := by decide +kernel
theorem dX3_add_32 : decode cX3_add 32 = .ok (.iload_n 2, 1) := by decide +kernel
theorem dX3_add_33 : decode cX3_add 33 = .ok (.invokevirtual 103, 3) := by decide +kernel
theorem dX3_add_36 : decode cX3_add 36 = .ok (.aload_n 0, 1) := by decide +kernel
theorem dX3_add_37 : decode cX3_add 37 = .ok (.getfield 26, 3) := by decide +kernel
theorem dX3_add_40 : decode cX3_add 40 = .ok (.aload_n 0, 1) := by decide +kernel
theorem dX3_add_41 : decode cX3_add 41 = .ok (.getfield 47, 3) := by decide +kernel
theorem dX3_add_44 : decode cX3_add 44 = .ok (.iload_n 3, 1) := by decide +kernel
theorem dX3_add_45 : decode cX3_add 45 = .ok (.invokevirtual 103, 3) := by decide +kernel
theorem dX3_add_48 : decode cX3_add 48 = .ok (.aload_n 0, 1) := by decide +kernel
theorem dX3_add_49 : decode cX3_add 49 = .ok (.getfield 29, 3) := by decide +kernel
theorem dX3_add_52 : decode cX3_add 52 = .ok (.aload_n 0, 1) := by decide +kernel
theorem dX3_add_53 : decode cX3_add 53 = .ok (.getfield 47, 3) := by decide +kernel
theorem dX3_add_56 : decode cX3_add 56 = .ok (.iload_n 3, 1) := by decide +kernel
theorem dX3_add_57 : decode cX3_add 57 = .ok (.invokevirtual 103, 3) := by decide +kernel
theorem dX3_add_60 : decode cX3_add 60 = .ok (.aload_n 0, 1) := by decide +kernel
theorem dX3_add_61 : decode cX3_add 61 = .ok (.getfield 32, 3) := by decide +kernel
theorem dX3_add_64 : decode cX3_add 64 = .ok (.aload_n 0, 1) := by decide +kernel
theorem dX3_add_65 : decode cX3_add 65 = .ok (.getfield 47, 3) := by decide +kernel
theorem dX3_add_68 : decode cX3_add 68 = .ok (.iload 4, 2) := by decide +kernel
theorem dX3_add_70 : decode cX3_add 70 = .ok (.invokevirtual 103, 3) := by decide +kernel
theorem dX3_add_73 : decode cX3_add 73 = .ok (.aload_n 0, 1) := by decide +kernel
theorem dX3_add_74 : decode cX3_add 74 = .ok (.getfield 35, 3) := by decide +kernel
theorem dX3_add_77 : decode cX3_add 77 = .ok (.aload_n 0, 1) := by decide +kernel
theorem dX3_add_78 : decode cX3_add 78 = .ok (.getfield 47, 3) := by decide +kernel
theorem dX3_add_81 : decode cX3_add 81 = .ok (.iload 5, 2) := by decide +kernel
theorem dX3_add_83 : decode cX3_add 83 = .ok (.invokevirtual 103, 3) := by decide +kernel
theorem dX3_add_86 : decode cX3_add 86 = .ok (.aload_n 0, 1) := by decide +kernel
theorem dX3_add_87 : decode cX3_add 87 = .ok (.getfield 41, 3) := by decide +kernel
theorem dX3_add_90 : decode cX3_add 90 = .ok (.iload_n 1, 1) := by decide +kernel
theorem dX3_add_91 : decode cX3_add 91 = .ok (.invokevirtual 71, 3) := by decide +kernel
theorem dX3_add_94 : decode cX3_add 94 = .ok (.ifCond .ne 15, 3) := by decide +kernel
theorem dX3_add_97 : decode cX3_add 97 = .ok (.aload_n 0, 1) := by decide +kernel
theorem dX3_add_98 : decode cX3_add 98 = .ok (.getfield 38, 3) := by decide +kernel
theorem dX3_add_101 : decode cX3_add 101 = .ok (.iload_n 1, 1) := by decide +kernel
theorem dX3_add_102 : decode cX3_add 102 = .ok (.aload_n 0, 1) := by decide +kernel
theorem dX3_add_103 : decode cX3_add 103 = .ok (.getfield 47, 3) := by decide +kernel
theorem dX3_add_106 : decode cX3_add 106 = .ok (.invokevirtual 103, 3) := by decide +kernel
theorem dX3_add_109 : decode cX3_add 109 = .ok (.aload_n 0, 1) := by decide +kernel
theorem dX3_add_110 : decode cX3_add 110 = .ok (.getfield 41, 3) := by decide +kernel
theorem dX3_add_113 : decode cX3_add 113 = .ok (.iload_n 1, 1) := by decide +kernel
theorem dX3_add_114 : decode cX3_add 114 = .ok (.iconst 1, 1) := by decide +kernel
theorem dX3_add_115 : decode cX3_add 115 = .ok (.invokevirtual 107, 3) := by decide +kernel
theorem dX3_add_118 : decode cX3_add 118 = .ok (.aload_n 0, 1) := by decide +kernel
theorem dX3_add_119 : decode cX3_add 119 = .ok (.dup, 1) := by decide +kernel
theorem dX3_add_120 : decode cX3_add 120 = .ok (.getfield 47, 3) := by decide +kernel
theorem dX3_add_123 : decode cX3_add 123 = .ok (.iconst 1, 1) := by decide +kernel
theorem dX3_add_124 : decode cX3_add 124 = .ok (.iadd, 1) := by decide +kernel
theorem dX3_add_125 : decode cX3_add 125 = .ok (.putfield 47, 3) := by decide +kernel
theorem dX3_add_128 : decode cX3_add 128 = .ok (.return_, 1) := by decide +kernel
set_option maxRecDepth 20000 in
theorem gX3_fillGuesses_X5_at : GoodIn wsX3_fillGuesses (wsV RX3 71 RX5 yX5_at wsX5_at) := goodIn_sub (fun w h => List.mem_cons_of_mem _ (List.mem_append_left _ (List.mem_append_left _ (List.mem_append_right _ h)))) (by decide +kernel)
set_option maxRecDepth 20000 in
theorem gX3_fillGuesses_X3_likeliest : GoodIn wsX3_fillGuesses (wsV RX3 123 RX3 yX3_likeliest wsX3_likeliest) := goodIn_sub (fun w h => List.mem_cons_of_mem _ (List.mem_append_left _ (List.mem_append_right _ h))) (by decide +kernel)
set_option maxRecDepth 20000 in
theorem gX3_fillGuesses_X5_put : GoodIn wsX3_fillGuesses (wsV RX3 103 RX5 yX5_put wsX5_put) := goodIn_sub (fun w h => List.mem_cons_of_mem _ (List.mem_append_right _ h)) (by decide +kernel)
theorem dX3_fillGuesses_0 : decode cX3_fillGuesses 0 = .ok (.iconst 0, 1) := by decide +kernel
theorem dX3_fillGuesses_1 : decode cX3_fillGuesses 1 = .ok (.istore_n 1, 1) := by decide +kernel
theorem dX3_fillGuesses_2 : decode cX3_fillGuesses 2 = .ok (.iload_n 1, 1) := by decide +kernel
theorem dX3_fillGuesses_3 : decode cX3_fillGuesses 3 = .ok (.aload_n 0, 1) := by decide +kernel
theorem dX3_fillGuesses_4 : decode cX3_fillGuesses 4 = .ok (.getfield 47, 3) := by decide +kernel
theorem dX3_fillGuesses_7 : decode cX3_fillGuesses 7 = .ok (.if_icmp .ge 94, 3) := by decide +kernel
theorem dX3_fillGuesses_10 : decode cX3_fillGuesses 10 = .ok (.aload_n 0, 1) := by decide +kernel
theorem dX3_fillGuesses_11 : decode cX3_fillGuesses 11 = .ok (.getfield 35, 3) := by decide +kernel
theorem dX3_fillGuesses_14 : decode cX3_fillGuesses 14 = .ok (.iload_n 1, 1) := by decide +kernel
theorem dX3_fillGuesses_15 : decode cX3_fillGuesses 15 = .ok (.invokevirtual 71, 3) := by decide +kernel
theorem dX3_fillGuesses_18 : decode cX3_fillGuesses 18 = .ok (.iconst 2, 1) := by decide +kernel
theorem dX3_fillGuesses_19 : decode cX3_fillGuesses 19 = .ok (.if_icmp .ne 35, 3) := by decide +kernel
theorem dX3_fillGuesses_22 : decode cX3_fillGuesses 22 = .ok (.aload_n 0, 1) := by decide +kernel
theorem dX3_fillGuesses_23 : decode cX3_fillGuesses 23 = .ok (.getfield 23, 3) := by decide +kernel
theorem dX3_fillGuesses_26 : decode cX3_fillGuesses 26 = .ok (.iload_n 1, 1) := by decide +kernel
theorem dX3_fillGuesses_27 : decode cX3_fillGuesses 27 = .ok (.aload_n 0, 1) := by decide +kernel
theorem dX3_fillGuesses_28 : decode cX3_fillGuesses 28 = .ok (.aload_n 0, 1) := by decide +kernel
theorem dX3_fillGuesses_29 : decode cX3_fillGuesses 29 = .ok (.getfield 14, 3) := by decide +kernel
theorem dX3_fillGuesses_32 : decode cX3_fillGuesses 32 = .ok (.iload_n 1, 1) := by decide +kernel
theorem dX3_fillGuesses_33 : decode cX3_fillGuesses 33 = .ok (.invokevirtual 71, 3) := by decide +kernel
theorem dX3_fillGuesses_36 : decode cX3_fillGuesses 36 = .ok (.aload_n 0, 1) := by decide +kernel
theorem dX3_fillGuesses_37 : decode cX3_fillGuesses 37 = .ok (.getfield 20, 3) := by decide +kernel
theorem dX3_fillGuesses_40 : decode cX3_fillGuesses 40 = .ok (.iload_n 1, 1) := by decide +kernel
theorem dX3_fillGuesses_41 : decode cX3_fillGuesses 41 = .ok (.invokevirtual 71, 3) := by decide +kernel
theorem dX3_fillGuesses_44 : decode cX3_fillGuesses 44 = .ok (.iconst 1, 1) := by decide +kernel
theorem dX3_fillGuesses_45 : decode cX3_fillGuesses 45 = .ok (.invokevirtual 123, 3) := by decide +kernel
theorem dX3_fillGuesses_48 : decode cX3_fillGuesses 48 = .ok (.invokevirtual 103, 3) := by decide +kernel
theorem dX3_fillGuesses_51 : decode cX3_fillGuesses 51 = .ok (.goto 44, 3) := by decide +kernel
theorem dX3_fillGuesses_54 : decode cX3_fillGuesses 54 = .ok (.aload_n 0, 1) := by decide +kernel
theorem dX3_fillGuesses_55 : decode cX3_fillGuesses 55 = .ok (.getfield 35, 3) := by decide +kernel
theorem dX3_fillGuesses_58 : decode cX3_fillGuesses 58 = .ok (.iload_n 1, 1) := by decide +kernel
theorem dX3_fillGuesses_59 : decode cX3_fillGuesses 59 = .ok (.invokevirtual 71, 3) := by decide +kernel
theorem dX3_fillGuesses_62 : decode cX3_fillGuesses 62 = .ok (.iconst 1, 1) := by decide +kernel
theorem dX3_fillGuesses_63 : decode cX3_fillGuesses 63 = .ok (.if_icmp .ne 32, 3) := by decide +kernel
theorem dX3_fillGuesses_66 : decode cX3_fillGuesses 66 = .ok (.aload_n 0, 1) := by decide +kernel
theorem dX3_fillGuesses_67 : decode cX3_fillGuesses 67 = .ok (.getfield 20, 3) := by decide +kernel
theorem dX3_fillGuesses_70 : decode cX3_fillGuesses 70 = .ok (.iload_n 1, 1) := by decide +kernel
theorem dX3_fillGuesses_71 : decode cX3_fillGuesses 71 = .ok (.aload_n 0, 1) := by decide +kernel
theorem dX3_fillGuesses_72 : decode cX3_fillGuesses 72 = .ok (.aload_n 0, 1) := by decide +kernel
theorem dX3_fillGuesses_73 : decode cX3_fillGuesses 73 = .ok (.getfield 14, 3) := by decide +kernel
theorem dX3_fillGuesses_76 : decode cX3_fillGuesses 76 = .ok (.iload_n 1, 1) := by decide +kernel
theorem dX3_fillGuesses_77 : decode cX3_fillGuesses 77 = .ok (.invokevirtual 71, 3) := by decide +kernel
theorem dX3_fillGuesses_80 : decode cX3_fillGuesses 80 = .ok (.aload_n 0, 1) := by decide +kernel
theorem dX3_fillGuesses_81 : decode cX3_fillGuesses 81 = .ok (.getfield 23, 3) := by decide +kernel
theorem dX3_fillGuesses_84 : decode cX3_fillGuesses 84 = .ok (.iload_n 1, 1) := by decide +kernel
theorem dX3_fillGuesses_85 : decode cX3_fillGuesses 85 = .ok (.invokevirtual 71, 3) := by decide +kernel
theorem dX3_fillGuesses_88 : decode cX3_fillGuesses 88 = .ok (.iconst 0, 1) := by decide +kernel
theorem dX3_fillGuesses_89 : decode cX3_fillGuesses 89 = .ok (.invokevirtual 123, 3) := by decide +kernel
theorem dX3_fillGuesses_92 : decode cX3_fillGuesses 92 = .ok (.invokevirtual 103, 3) := by decide +kernel
theorem dX3_fillGuesses_95 : decode cX3_fillGuesses 95 = .ok (.iinc 1 1, 3) := by decide +kernel
theorem dX3_fillGuesses_98 : decode cX3_fillGuesses 98 = .ok (.goto (-96), 3) := by decide +kernel
theorem dX3_fillGuesses_101 : decode cX3_fillGuesses 101 = .ok (.return_, 1) := by decide +kernel
set_option maxRecDepth 20000 in
theorem ggX3_likeliest_X5_fill : GoodIn wsX3_likeliest wsX5_fill := goodIn_r _ [11, 12, 36] (by decide +kernel) (by decide +kernel)
set_option maxRecDepth 20000 in
theorem gX3_likeliest_X5_fill : GoodIn wsX3_likeliest (wsV RX3 63 RX5 yX5_fill wsX5_fill) := goodIn_app (goodIn_of _ (by decide +kernel)) ggX3_likeliest_X5_fill
set_option maxRecDepth 20000 in
theorem ggX3_likeliest_X5_at : GoodIn wsX3_likeliest wsX5_at := goodIn_r _ [16, 12, 36] (by decide +kernel) (by decide +kernel)
set_option maxRecDepth 20000 in
theorem gX3_likeliest_X5_at : GoodIn wsX3_likeliest (wsV RX3 71 RX5 yX5_at wsX5_at) := goodIn_app (goodIn_of _ (by decide +kernel)) ggX3_likeliest_X5_at
set_option maxRecDepth 20000 in
theorem ggX3_likeliest_X5_add : GoodIn wsX3_likeliest wsX5_add := goodIn_r _ [20, 12, 36] (by decide +kernel) (by decide +kernel)
set_option maxRecDepth 20000 in
theorem gX3_likeliest_X5_add : GoodIn wsX3_likeliest (wsV RX3 107 RX5 yX5_add wsX5_add) := goodIn_app (goodIn_of _ (by decide +kernel)) ggX3_likeliest_X5_add
theorem dX3_likeliest_0 : decode cX3_likeliest 0 = .ok (.aload_n 0, 1) := by decide +kernel
theorem dX3_likeliest_1 : decode cX3_likeliest 1 = .ok (.getfield 57, 3) := by decide +kernel
theorem dX3_likeliest_4 : decode cX3_likeliest 4 = .ok (.iconst 0, 1) := by decide +kernel
theorem dX3_likeliest_5 : decode cX3_likeliest 5 = .ok (.invokevirtual 63, 3) := by decide +kernel
theorem dX3_likeliest_8 : decode cX3_likeliest 8 = .ok (.iconst 0, 1) := by decide +kernel
theorem dX3_likeliest_9 : decode cX3_likeliest 9 = .ok (.istore 4, 2) := by decide +kernel
theorem dX3_likeliest_11 : decode cX3_likeliest 11 = .ok (.iload 4, 2) := by decide +kernel
theorem dX3_likeliest_13 : decode cX3_likeliest 13 = .ok (.aload_n 0, 1) := by decide +kernel
theorem dX3_likeliest_14 : decode cX3_likeliest 14 = .ok (.getfield 47, 3) := by decide +kernel
theorem dX3_likeliest_17 : decode cX3_likeliest 17 = .ok (.if_icmp .ge 100, 3) := by decide +kernel
theorem dX3_likeliest_20 : decode cX3_likeliest 20 = .ok (.iload_n 3, 1) := by decide +kernel
theorem dX3_likeliest_21 : decode cX3_likeliest 21 = .ok (.ifCond .eq 15, 3) := by decide +kernel
theorem dX3_likeliest_24 : decode cX3_likeliest 24 = .ok (.aload_n 0, 1) := by decide +kernel
theorem dX3_likeliest_25 : decode cX3_likeliest 25 = .ok (.getfield 20, 3) := by decide +kernel
theorem dX3_likeliest_28 : decode cX3_likeliest 28 = .ok (.iload 4, 2) := by decide +kernel
theorem dX3_likeliest_30 : decode cX3_likeliest 30 = .ok (.invokevirtual 71, 3) := by decide +kernel
theorem dX3_likeliest_33 : decode cX3_likeliest 33 = .ok (.goto 12, 3) := by decide +kernel
theorem dX3_likeliest_36 : decode cX3_likeliest 36 = .ok (.aload_n 0, 1) := by decide +kernel
theorem dX3_likeliest_37 : decode cX3_likeliest 37 = .ok (.getfield 23, 3) := by decide +kernel
theorem dX3_likeliest_40 : decode cX3_likeliest 40 = .ok (.iload 4, 2) := by decide +kernel
theorem dX3_likeliest_42 : decode cX3_likeliest 42 = .ok (.invokevirtual 71, 3) := by decide +kernel
theorem dX3_likeliest_45 : decode cX3_likeliest 45 = .ok (.istore 5, 2) := by decide +kernel
theorem dX3_likeliest_47 : decode cX3_likeliest 47 = .ok (.aload_n 0, 1) := by decide +kernel
theorem dX3_likeliest_48 : decode cX3_likeliest 48 = .ok (.getfield 14, 3) := by decide +kernel
theorem dX3_likeliest_51 : decode cX3_likeliest 51 = .ok (.iload 4, 2) := by decide +kernel
theorem dX3_likeliest_53 : decode cX3_likeliest 53 = .ok (.invokevirtual 71, 3) := by decide +kernel
theorem dX3_likeliest_56 : decode cX3_likeliest 56 = .ok (.iload_n 1, 1) := by decide +kernel
theorem dX3_likeliest_57 : decode cX3_likeliest 57 = .ok (.if_icmp .ge 54, 3) := by decide +kernel
theorem dX3_likeliest_60 : decode cX3_likeliest 60 = .ok (.aload_n 0, 1) := by decide +kernel
theorem dX3_likeliest_61 : decode cX3_likeliest 61 = .ok (.getfield 35, 3) := by decide +kernel
theorem dX3_likeliest_64 : decode cX3_likeliest 64 = .ok (.iload 4, 2) := by decide +kernel
theorem dX3_likeliest_66 : decode cX3_likeliest 66 = .ok (.invokevirtual 71, 3) := by decide +kernel
theorem dX3_likeliest_69 : decode cX3_likeliest 69 = .ok (.ifCond .ne 42, 3) := by decide +kernel
theorem dX3_likeliest_72 : decode cX3_likeliest 72 = .ok (.iload 5, 2) := by decide +kernel
theorem dX3_likeliest_74 : decode cX3_likeliest 74 = .ok (.iload_n 2, 1) := by decide +kernel
theorem dX3_likeliest_75 : decode cX3_likeliest 75 = .ok (.if_icmp .ne 36, 3) := by decide +kernel
theorem dX3_likeliest_78 : decode cX3_likeliest 78 = .ok (.aload_n 0, 1) := by decide +kernel
theorem dX3_likeliest_79 : decode cX3_likeliest 79 = .ok (.getfield 57, 3) := by decide +kernel
theorem dX3_likeliest_82 : decode cX3_likeliest 82 = .ok (.iload_n 3, 1) := by decide +kernel
theorem dX3_likeliest_83 : decode cX3_likeliest 83 = .ok (.ifCond .eq 15, 3) := by decide +kernel
theorem dX3_likeliest_86 : decode cX3_likeliest 86 = .ok (.aload_n 0, 1) := by decide +kernel
theorem dX3_likeliest_87 : decode cX3_likeliest 87 = .ok (.getfield 23, 3) := by decide +kernel
theorem dX3_likeliest_90 : decode cX3_likeliest 90 = .ok (.iload 4, 2) := by decide +kernel
theorem dX3_likeliest_92 : decode cX3_likeliest 92 = .ok (.invokevirtual 71, 3) := by decide +kernel
theorem dX3_likeliest_95 : decode cX3_likeliest 95 = .ok (.goto 12, 3) := by decide +kernel
theorem dX3_likeliest_98 : decode cX3_likeliest 98 = .ok (.aload_n 0, 1) := by decide +kernel
theorem dX3_likeliest_99 : decode cX3_likeliest 99 = .ok (.getfield 20, 3) := by decide +kernel
theorem dX3_likeliest_102 : decode cX3_likeliest 102 = .ok (.iload 4, 2) := by decide +kernel
theorem dX3_likeliest_104 : decode cX3_likeliest 104 = .ok (.invokevirtual 71, 3) := by decide +kernel
theorem dX3_likeliest_107 : decode cX3_likeliest 107 = .ok (.iconst 1, 1) := by decide +kernel
theorem dX3_likeliest_108 : decode cX3_likeliest 108 = .ok (.invokevirtual 107, 3) := by decide +kernel
theorem dX3_likeliest_111 : decode cX3_likeliest 111 = .ok (.iinc 4 1, 3) := by decide +kernel
theorem dX3_likeliest_114 : decode cX3_likeliest 114 = .ok (.goto (-103), 3) := by decide +kernel
theorem dX3_likeliest_117 : decode cX3_likeliest 117 = .ok (.iload_n 2, 1) := by decide +kernel
theorem dX3_likeliest_118 : decode cX3_likeliest 118 = .ok (.istore 4, 2) := by decide +kernel
theorem dX3_likeliest_120 : decode cX3_likeliest 120 = .ok (.iconst 0, 1) := by decide +kernel
theorem dX3_likeliest_121 : decode cX3_likeliest 121 = .ok (.istore 5, 2) := by decide +kernel
theorem dX3_likeliest_123 : decode cX3_likeliest 123 = .ok (.iconst 0, 1) := by decide +kernel
theorem dX3_likeliest_124 : decode cX3_likeliest 124 = .ok (.istore 6, 2) := by decide +kernel
theorem dX3_likeliest_126 : decode cX3_likeliest 126 = .ok (.iload 6, 2) := by decide +kernel
theorem dX3_likeliest_128 : decode cX3_likeliest 128 = .ok (.bipush 10, 2) := by decide +kernel
theorem dX3_likeliest_130 : decode cX3_likeliest 130 = .ok (.if_icmp .ge 38, 3) := by decide +kernel
theorem dX3_likeliest_133 : decode cX3_likeliest 133 = .ok (.aload_n 0, 1) := by decide +kernel
theorem dX3_likeliest_134 : decode cX3_likeliest 134 = .ok (.getfield 57, 3) := by decide +kernel
theorem dX3_likeliest_137 : decode cX3_likeliest 137 = .ok (.iload 6, 2) := by decide +kernel
theorem dX3_likeliest_139 : decode cX3_likeliest 139 = .ok (.invokevirtual 71, 3) := by decide +kernel
theorem dX3_likeliest_142 : decode cX3_likeliest 142 = .ok (.iload 5, 2) := by decide +kernel
theorem dX3_likeliest_144 : decode cX3_likeliest 144 = .ok (.if_icmp .le 18, 3) := by decide +kernel
theorem dX3_likeliest_147 : decode cX3_likeliest 147 = .ok (.aload_n 0, 1) := by decide +kernel
theorem dX3_likeliest_148 : decode cX3_likeliest 148 = .ok (.getfield 57, 3) := by decide +kernel
theorem dX3_likeliest_151 : decode cX3_likeliest 151 = .ok (.iload 6, 2) := by decide +kernel
theorem dX3_likeliest_153 : decode cX3_likeliest 153 = .ok (.invokevirtual 71, 3) := by decide +kernel
theorem dX3_likeliest_156 : decode cX3_likeliest 156 = .ok (.istore 5, 2) := by decide +kernel
theorem dX3_likeliest_158 : decode cX3_likeliest 158 = .ok (.iload 6, 2) := by decide +kernel
theorem dX3_likeliest_160 : decode cX3_likeliest 160 = .ok (.istore 4, 2) := by decide +kernel
theorem dX3_likeliest_162 : decode cX3_likeliest 162 = .ok (.iinc 6 1, 3) := by decide +kernel
theorem dX3_likeliest_165 : decode cX3_likeliest 165 = .ok (.goto (-39), 3) := by decide +kernel
theorem dX3_likeliest_168 : decode cX3_likeliest 168 = .ok (.iload 4, 2) := by decide +kernel
theorem dX3_likeliest_170 : decode cX3_likeliest 170 = .ok (.ireturn, 1) := by decide +kernel
set_option maxRecDepth 20000 in
theorem ggX3_guessesOn_X5_at : GoodIn wsX3_guessesOn wsX5_at := goodIn_r _ [8, 9, 25] (by decide +kernel) (by decide +kernel)
set_option maxRecDepth 20000 in
theorem gX3_guessesOn_X5_at : GoodIn wsX3_guessesOn (wsV RX3 71 RX5 yX5_at wsX5_at) := goodIn_app (goodIn_of _ (by decide +kernel)) ggX3_guessesOn_X5_at
theorem dX3_guessesOn_0 : decode cX3_guessesOn 0 = .ok (.iconst 0, 1) := by decide +kernel
theorem dX3_guessesOn_1 : decode cX3_guessesOn 1 = .ok (.istore_n 2, 1) := by decide +kernel
theorem dX3_guessesOn_2 : decode cX3_guessesOn 2 = .ok (.aload_n 0, 1) := by decide +kernel
theorem dX3_guessesOn_3 : decode cX3_guessesOn 3 = .ok (.getfield 38, 3) := by decide +kernel
theorem dX3_guessesOn_6 : decode cX3_guessesOn 6 = .ok (.iload_n 1, 1) := by decide +kernel
theorem dX3_guessesOn_7 : decode cX3_guessesOn 7 = .ok (.invokevirtual 71, 3) := by decide +kernel
theorem dX3_guessesOn_10 : decode cX3_guessesOn 10 = .ok (.istore_n 3, 1) := by decide +kernel
theorem dX3_guessesOn_11 : decode cX3_guessesOn 11 = .ok (.iconst 0, 1) := by decide +kernel
theorem dX3_guessesOn_12 : decode cX3_guessesOn 12 = .ok (.istore 4, 2) := by decide +kernel
theorem dX3_guessesOn_14 : decode cX3_guessesOn 14 = .ok (.iload 4, 2) := by decide +kernel
theorem dX3_guessesOn_16 : decode cX3_guessesOn 16 = .ok (.aload_n 0, 1) := by decide +kernel
theorem dX3_guessesOn_17 : decode cX3_guessesOn 17 = .ok (.getfield 41, 3) := by decide +kernel
theorem dX3_guessesOn_20 : decode cX3_guessesOn 20 = .ok (.iload_n 1, 1) := by decide +kernel
theorem dX3_guessesOn_21 : decode cX3_guessesOn 21 = .ok (.invokevirtual 71, 3) := by decide +kernel
theorem dX3_guessesOn_24 : decode cX3_guessesOn 24 = .ok (.if_icmp .ge 31, 3) := by decide +kernel
theorem dX3_guessesOn_27 : decode cX3_guessesOn 27 = .ok (.iload_n 2, 1) := by decide +kernel
theorem dX3_guessesOn_28 : decode cX3_guessesOn 28 = .ok (.aload_n 0, 1) := by decide +kernel
theorem dX3_guessesOn_29 : decode cX3_guessesOn 29 = .ok (.getfield 35, 3) := by decide +kernel
theorem dX3_guessesOn_32 : decode cX3_guessesOn 32 = .ok (.iload_n 3, 1) := by decide +kernel
theorem dX3_guessesOn_33 : decode cX3_guessesOn 33 = .ok (.iload 4, 2) := by decide +kernel
theorem dX3_guessesOn_35 : decode cX3_guessesOn 35 = .ok (.iadd, 1) := by decide +kernel
theorem dX3_guessesOn_36 : decode cX3_guessesOn 36 = .ok (.invokevirtual 71, 3) := by decide +kernel
theorem dX3_guessesOn_39 : decode cX3_guessesOn 39 = .ok (.ifCond .ne 7, 3) := by decide +kernel
theorem dX3_guessesOn_42 : decode cX3_guessesOn 42 = .ok (.iconst 0, 1) := by decide +kernel
theorem dX3_guessesOn_43 : decode cX3_guessesOn 43 = .ok (.goto 4, 3) := by decide +kernel
theorem dX3_guessesOn_46 : decode cX3_guessesOn 46 = .ok (.iconst 1, 1) := by decide +kernel
theorem dX3_guessesOn_47 : decode cX3_guessesOn 47 = .ok (.iadd, 1) := by decide +kernel
theorem dX3_guessesOn_48 : decode cX3_guessesOn 48 = .ok (.istore_n 2, 1) := by decide +kernel
theorem dX3_guessesOn_49 : decode cX3_guessesOn 49 = .ok (.iinc 4 1, 3) := by decide +kernel
theorem dX3_guessesOn_52 : decode cX3_guessesOn 52 = .ok (.goto (-38), 3) := by decide +kernel
theorem dX3_guessesOn_55 : decode cX3_guessesOn 55 = .ok (.iload_n 2, 1) := by decide +kernel
theorem dX3_guessesOn_56 : decode cX3_guessesOn 56 = .ok (.ireturn, 1) := by decide +kernel
set_option maxRecDepth 20000 in
theorem ggX6_write_X5_put : GoodIn wsX6_write wsX5_put := goodIn_r _ [11, 12, 22] (by decide +kernel) (by decide +kernel)
set_option maxRecDepth 20000 in
theorem gX6_write_X5_put : GoodIn wsX6_write (wsV RX6 45 RX5 yX5_put wsX5_put) := goodIn_app (goodIn_of _ (by decide +kernel)) ggX6_write_X5_put
theorem dX6_write_0 : decode cX6_write 0 = .ok (.aload_n 0, 1) := by decide +kernel
theorem dX6_write_1 : decode cX6_write 1 = .ok (.getfield 14, 3) := by decide +kernel
theorem dX6_write_4 : decode cX6_write 4 = .ok (.iload_n 1, 1) := by decide +kernel
theorem dX6_write_5 : decode cX6_write 5 = .ok (.iload_n 2, 1) := by decide +kernel
theorem dX6_write_6 : decode cX6_write 6 = .ok (.invokevirtual 45, 3) := by decide +kernel
theorem dX6_write_9 : decode cX6_write 9 = .ok (.aload_n 0, 1) := by decide +kernel
theorem dX6_write_10 : decode cX6_write 10 = .ok (.getfield 20, 3) := by decide +kernel
theorem dX6_write_13 : decode cX6_write 13 = .ok (.iload_n 1, 1) := by decide +kernel
theorem dX6_write_14 : decode cX6_write 14 = .ok (.iload_n 3, 1) := by decide +kernel
theorem dX6_write_15 : decode cX6_write 15 = .ok (.invokevirtual 45, 3) := by decide +kernel
theorem dX6_write_18 : decode cX6_write 18 = .ok (.aload_n 0, 1) := by decide +kernel
theorem dX6_write_19 : decode cX6_write 19 = .ok (.getfield 23, 3) := by decide +kernel
theorem dX6_write_22 : decode cX6_write 22 = .ok (.iload_n 1, 1) := by decide +kernel
theorem dX6_write_23 : decode cX6_write 23 = .ok (.iload 4, 2) := by decide +kernel
theorem dX6_write_25 : decode cX6_write 25 = .ok (.invokevirtual 45, 3) := by decide +kernel
theorem dX6_write_28 : decode cX6_write 28 = .ok (.aload_n 0, 1) := by decide +kernel
theorem dX6_write_29 : decode cX6_write 29 = .ok (.getfield 26, 3) := by decide +kernel
theorem dX6_write_32 : decode cX6_write 32 = .ok (.iload_n 1, 1) := by decide +kernel
theorem dX6_write_33 : decode cX6_write 33 = .ok (.iload 5, 2) := by decide +kernel
theorem dX6_write_35 : decode cX6_write 35 = .ok (.ifCond .eq 7, 3) := by decide +kernel
theorem dX6_write_38 : decode cX6_write 38 = .ok (.iconst 1, 1) := by decide +kernel
theorem dX6_write_39 : decode cX6_write 39 = .ok (.goto 4, 3) := by decide +kernel
theorem dX6_write_42 : decode cX6_write 42 = .ok (.iconst 0, 1) := by decide +kernel
theorem dX6_write_43 : decode cX6_write 43 = .ok (.invokevirtual 45, 3) := by decide +kernel
theorem dX6_write_46 : decode cX6_write 46 = .ok (.aload_n 0, 1) := by decide +kernel
theorem dX6_write_47 : decode cX6_write 47 = .ok (.getfield 29, 3) := by decide +kernel
theorem dX6_write_50 : decode cX6_write 50 = .ok (.iload_n 1, 1) := by decide +kernel
theorem dX6_write_51 : decode cX6_write 51 = .ok (.iload 6, 2) := by decide +kernel
theorem dX6_write_53 : decode cX6_write 53 = .ok (.invokevirtual 45, 3) := by decide +kernel
theorem dX6_write_56 : decode cX6_write 56 = .ok (.aload_n 0, 1) := by decide +kernel
theorem dX6_write_57 : decode cX6_write 57 = .ok (.getfield 32, 3) := by decide +kernel
theorem dX6_write_60 : decode cX6_write 60 = .ok (.iload_n 1, 1) := by decide +kernel
theorem dX6_write_61 : decode cX6_write 61 = .ok (.iload 7, 2) := by decide +kernel
theorem dX6_write_63 : decode cX6_write 63 = .ok (.invokevirtual 45, 3) := by decide +kernel
theorem dX6_write_66 : decode cX6_write 66 = .ok (.return_, 1) := by decide +kernel
set_option maxRecDepth 20000 in
theorem ggX6_isRepeated_X6_isSame : GoodIn wsX6_isRepeated wsX6_isSame := goodIn_r _ [6, 7, 8, 9, 10, 11, 12, 13, 14, 15, 16, 17, 18, 19, 20, 21, 22, 23, 24, 25, 26, 27, 28] (by decide +kernel) (by decide +kernel)
set_option maxRecDepth 20000 in
theorem gX6_isRepeated_X6_isSame : GoodIn wsX6_isRepeated (wsV RX6 49 RX6 yX6_isSame wsX6_isSame) := goodIn_app (goodIn_of _ (by decide +kernel)) ggX6_isRepeated_X6_isSame
theorem dX6_isRepeated_0 : decode cX6_isRepeated 0 = .ok (.iconst 0, 1) := by decide +kernel
theorem dX6_isRepeated_1 : decode cX6_isRepeated 1 = .ok (.istore_n 2, 1) := by decide +kernel
theorem dX6_isRepeated_2 : decode cX6_isRepeated 2 = .ok (.iload_n 2, 1) := by decide +kernel
theorem dX6_isRepeated_3 : decode cX6_isRepeated 3 = .ok (.aload_n 0, 1) := by decide +kernel
theorem dX6_isRepeated_4 : decode cX6_isRepeated 4 = .ok (.getfield 35, 3) := by decide +kernel
theorem dX6_isRepeated_7 : decode cX6_isRepeated 7 = .ok (.if_icmp .ge 20, 3) := by decide +kernel
theorem dX6_isRepeated_10 : decode cX6_isRepeated 10 = .ok (.aload_n 0, 1) := by decide +kernel
theorem dX6_isRepeated_11 : decode cX6_isRepeated 11 = .ok (.iload_n 2, 1) := by decide +kernel
theorem dX6_isRepeated_12 : decode cX6_isRepeated 12 = .ok (.iload_n 1, 1) := by decide +kernel
theorem dX6_isRepeated_13 : decode cX6_isRepeated 13 = .ok (.invokevirtual 49, 3) := by decide +kernel
theorem dX6_isRepeated_16 : decode cX6_isRepeated 16 = .ok (.ifCond .eq 5, 3) := by decide +kernel
theorem dX6_isRepeated_19 : decode cX6_isRepeated 19 = .ok (.iconst 1, 1) := by decide +kernel
theorem dX6_isRepeated_20 : decode cX6_isRepeated 20 = .ok (.ireturn, 1) := by decide +kernel
theorem dX6_isRepeated_21 : decode cX6_isRepeated 21 = .ok (.iinc 2 1, 3) := by decide +kernel
theorem dX6_isRepeated_24 : decode cX6_isRepeated 24 = .ok (.goto (-22), 3) := by decide +kernel
theorem dX6_isRepeated_27 : decode cX6_isRepeated 27 = .ok (.iconst 0, 1) := by decide +kernel
theorem dX6_isRepeated_28 : decode cX6_isRepeated 28 = .ok (.ireturn, 1) := by decide +kernel
set_option maxRecDepth 20000 in
theorem ggX6_isSame_X5_at : GoodIn wsX6_isSame wsX5_at := goodIn_r _ [11, 12, 22] (by decide +kernel) (by decide +kernel)
set_option maxRecDepth 20000 in
theorem gX6_isSame_X5_at : GoodIn wsX6_isSame (wsV RX6 53 RX5 yX5_at wsX5_at) := goodIn_app (goodIn_of _ (by decide +kernel)) ggX6_isSame_X5_at
theorem dX6_isSame_0 : decode cX6_isSame 0 = .ok (.aload_n 0, 1) := by decide +kernel
theorem dX6_isSame_1 : decode cX6_isSame 1 = .ok (.getfield 14, 3) := by decide +kernel
theorem dX6_isSame_4 : decode cX6_isSame 4 = .ok (.iload_n 1, 1) := by decide +kernel
theorem dX6_isSame_5 : decode cX6_isSame 5 = .ok (.invokevirtual 53, 3) := by decide +kernel
theorem dX6_isSame_8 : decode cX6_isSame 8 = .ok (.aload_n 0, 1) := by decide +kernel
theorem dX6_isSame_9 : decode cX6_isSame 9 = .ok (.getfield 14, 3) := by decide +kernel
theorem dX6_isSame_12 : decode cX6_isSame 12 = .ok (.iload_n 2, 1) := by decide +kernel
theorem dX6_isSame_13 : decode cX6_isSame 13 = .ok (.invokevirtual 53, 3) := by decide +kernel
theorem dX6_isSame_16 : decode cX6_isSame 16 = .ok (.if_icmp .ne 102, 3) := by decide +kernel
theorem dX6_isSame_19 : decode cX6_isSame 19 = .ok (.aload_n 0, 1) := by decide +kernel
theorem dX6_isSame_20 : decode cX6_isSame 20 = .ok (.getfield 20, 3) := by decide +kernel
theorem dX6_isSame_23 : decode cX6_isSame 23 = .ok (.iload_n 1, 1) := by decide +kernel
theorem dX6_isSame_24 : decode cX6_isSame 24 = .ok (.invokevirtual 53, 3) := by decide +kernel
theorem dX6_isSame_27 : decode cX6_isSame 27 = .ok (.aload_n 0, 1) := by decide +kernel
theorem dX6_isSame_28 : decode cX6_isSame 28 = .ok (.getfield 20, 3) := by decide +kernel
theorem dX6_isSame_31 : decode cX6_isSame 31 = .ok (.iload_n 2, 1) := by decide +kernel
theorem dX6_isSame_32 : decode cX6_isSame 32 = .ok (.invokevirtual 53, 3) := by decide +kernel
theorem dX6_isSame_35 : decode cX6_isSame 35 = .ok (.if_icmp .ne 83, 3) := by decide +kernel
theorem dX6_isSame_38 : decode cX6_isSame 38 = .ok (.aload_n 0, 1) := by decide +kernel
theorem dX6_isSame_39 : decode cX6_isSame 39 = .ok (.getfield 23, 3) := by decide +kernel
theorem dX6_isSame_42 : decode cX6_isSame 42 = .ok (.iload_n 1, 1) := by decide +kernel
theorem dX6_isSame_43 : decode cX6_isSame 43 = .ok (.invokevirtual 53, 3) := by decide +kernel
theorem dX6_isSame_46 : decode cX6_isSame 46 = .ok (.aload_n 0, 1) := by decide +kernel
theorem dX6_isSame_47 : decode cX6_isSame 47 = .ok (.getfield 23, 3) := by decide +kernel
theorem dX6_isSame_50 : decode cX6_isSame 50 = .ok (.iload_n 2, 1) := by decide +kernel
theorem dX6_isSame_51 : decode cX6_isSame 51 = .ok (.invokevirtual 53, 3) := by decide +kernel
theorem dX6_isSame_54 : decode cX6_isSame 54 = .ok (.if_icmp .ne 64, 3) := by decide +kernel
theorem dX6_isSame_57 : decode cX6_isSame 57 = .ok (.aload_n 0, 1) := by decide +kernel
theorem dX6_isSame_58 : decode cX6_isSame 58 = .ok (.getfield 26, 3) := by decide +kernel
theorem dX6_isSame_61 : decode cX6_isSame 61 = .ok (.iload_n 1, 1) := by decide +kernel
theorem dX6_isSame_62 : decode cX6_isSame 62 = .ok (.invokevirtual 53, 3) := by decide +kernel
theorem dX6_isSame_65 : decode cX6_isSame 65 = .ok (.aload_n 0, 1) := by decide +kernel
theorem dX6_isSame_66 : decode cX6_isSame 66 = .ok (.getfield 26, 3) := by decide +kernel
theorem dX6_isSame_69 : decode cX6_isSame 69 = .ok (.iload_n 2, 1) := by decide +kernel
theorem dX6_isSame_70 : decode cX6_isSame 70 = .ok (.invokevirtual 53, 3) := by decide +kernel
theorem dX6_isSame_73 : decode cX6_isSame 73 = .ok (.if_icmp .ne 45, 3) := by decide +kernel
theorem dX6_isSame_76 : decode cX6_isSame 76 = .ok (.aload_n 0, 1) := by decide +kernel
theorem dX6_isSame_77 : decode cX6_isSame 77 = .ok (.getfield 29, 3) := by decide +kernel
theorem dX6_isSame_80 : decode cX6_isSame 80 = .ok (.iload_n 1, 1) := by decide +kernel
theorem dX6_isSame_81 : decode cX6_isSame 81 = .ok (.invokevirtual 53, 3) := by decide +kernel
theorem dX6_isSame_84 : decode cX6_isSame 84 = .ok (.aload_n 0, 1) := by decide +kernel
theorem dX6_isSame_85 : decode cX6_isSame 85 = .ok (.getfield 29, 3) := by decide +kernel
theorem dX6_isSame_88 : decode cX6_isSame 88 = .ok (.iload_n 2, 1) := by decide +kernel
theorem dX6_isSame_89 : decode cX6_isSame 89 = .ok (.invokevirtual 53, 3) := by decide +kernel
theorem dX6_isSame_92 : decode cX6_isSame 92 = .ok (.if_icmp .ne 26, 3) := by decide +kernel
theorem dX6_isSame_95 : decode cX6_isSame 95 = .ok (.aload_n 0, 1) := by decide +kernel
theorem dX6_isSame_96 : decode cX6_isSame 96 = .ok (.getfield 32, 3) := by decide +kernel
theorem dX6_isSame_99 : decode cX6_isSame 99 = .ok (.iload_n 1, 1) := by decide +kernel
theorem dX6_isSame_100 : decode cX6_isSame 100 = .ok (.invokevirtual 53, 3) := by decide +kernel
theorem dX6_isSame_103 : decode cX6_isSame 103 = .ok (.aload_n 0, 1) := by decide +kernel
theorem dX6_isSame_104 : decode cX6_isSame 104 = .ok (.getfield 32, 3) := by decide +kernel
theorem dX6_isSame_107 : decode cX6_isSame 107 = .ok (.iload_n 2, 1) := by decide +kernel
theorem dX6_isSame_108 : decode cX6_isSame 108 = .ok (.invokevirtual 53, 3) := by decide +kernel
theorem dX6_isSame_111 : decode cX6_isSame 111 = .ok (.if_icmp .ne 7, 3) := by decide +kernel
theorem dX6_isSame_114 : decode cX6_isSame 114 = .ok (.iconst 1, 1) := by decide +kernel
theorem dX6_isSame_115 : decode cX6_isSame 115 = .ok (.goto 4, 3) := by decide +kernel
theorem dX6_isSame_118 : decode cX6_isSame 118 = .ok (.iconst 0, 1) := by decide +kernel
theorem dX6_isSame_119 : decode cX6_isSame 119 = .ok (.ireturn, 1) := by decide +kernel
set_option maxRecDepth 20000 in
theorem ggX6_countOf_X5_at : GoodIn wsX6_countOf wsX5_at := goodIn_r _ [7, 8, 18] (by decide +kernel) (by decide +kernel)
set_option maxRecDepth 20000 in
theorem gX6_countOf_X5_at : GoodIn wsX6_countOf (wsV RX6 53 RX5 yX5_at wsX5_at) := goodIn_app (goodIn_of _ (by decide +kernel)) ggX6_countOf_X5_at
theorem dX6_countOf_0 : decode cX6_countOf 0 = .ok (.iconst 0, 1) := by decide +kernel
theorem dX6_countOf_1 : decode cX6_countOf 1 = .ok (.istore_n 2, 1) := by decide +kernel
theorem dX6_countOf_2 : decode cX6_countOf 2 = .ok (.iconst 0, 1) := by decide +kernel
theorem dX6_countOf_3 : decode cX6_countOf 3 = .ok (.istore_n 3, 1) := by decide +kernel
theorem dX6_countOf_4 : decode cX6_countOf 4 = .ok (.iload_n 3, 1) := by decide +kernel
theorem dX6_countOf_5 : decode cX6_countOf 5 = .ok (.aload_n 0, 1) := by decide +kernel
theorem dX6_countOf_6 : decode cX6_countOf 6 = .ok (.getfield 35, 3) := by decide +kernel
theorem dX6_countOf_9 : decode cX6_countOf 9 = .ok (.if_icmp .ge 29, 3) := by decide +kernel
theorem dX6_countOf_12 : decode cX6_countOf 12 = .ok (.iload_n 2, 1) := by decide +kernel
theorem dX6_countOf_13 : decode cX6_countOf 13 = .ok (.aload_n 0, 1) := by decide +kernel
theorem dX6_countOf_14 : decode cX6_countOf 14 = .ok (.getfield 14, 3) := by decide +kernel
theorem dX6_countOf_17 : decode cX6_countOf 17 = .ok (.iload_n 3, 1) := by decide +kernel
theorem dX6_countOf_18 : decode cX6_countOf 18 = .ok (.invokevirtual 53, 3) := by decide +kernel
theorem dX6_countOf_21 : decode cX6_countOf 21 = .ok (.iload_n 1, 1) := by decide +kernel
theorem dX6_countOf_22 : decode cX6_countOf 22 = .ok (.if_icmp .ne 7, 3) := by decide +kernel
theorem dX6_countOf_25 : decode cX6_countOf 25 = .ok (.iconst 1, 1) := by decide +kernel
theorem dX6_countOf_26 : decode cX6_countOf 26 = .ok (.goto 4, 3) := by decide +kernel
theorem dX6_countOf_29 : decode cX6_countOf 29 = .ok (.iconst 0, 1) := by decide +kernel
theorem dX6_countOf_30 : decode cX6_countOf 30 = .ok (.iadd, 1) := by decide +kernel
theorem dX6_countOf_31 : decode cX6_countOf 31 = .ok (.istore_n 2, 1) := by decide +kernel
theorem dX6_countOf_32 : decode cX6_countOf 32 = .ok (.iinc 3 1, 3) := by decide +kernel
theorem dX6_countOf_35 : decode cX6_countOf 35 = .ok (.goto (-31), 3) := by decide +kernel
theorem dX6_countOf_38 : decode cX6_countOf 38 = .ok (.iload_n 2, 1) := by decide +kernel
theorem dX6_countOf_39 : decode cX6_countOf 39 = .ok (.ireturn, 1) := by decide +kernel
set_option maxRecDepth 20000 in
theorem ggX7_indexFor_X5_at : GoodIn wsX7_indexFor wsX5_at := goodIn_r _ [7, 8, 15] (by decide +kernel) (by decide +kernel)
set_option maxRecDepth 20000 in
theorem gX7_indexFor_X5_at : GoodIn wsX7_indexFor (wsV RX7 44 RX5 yX5_at wsX5_at) := goodIn_app (goodIn_of _ (by decide +kernel)) ggX7_indexFor_X5_at
theorem dX7_indexFor_0 : decode cX7_indexFor 0 = .ok (.aload_n 0, 1) := by decide +kernel
theorem dX7_indexFor_1 : decode cX7_indexFor 1 = .ok (.getfield 32, 3) := by decide +kernel
theorem dX7_indexFor_4 : decode cX7_indexFor 4 = .ok (.iconst 1, 1) := by decide +kernel
theorem dX7_indexFor_5 : decode cX7_indexFor 5 = .ok (.isub, 1) := by decide +kernel
theorem dX7_indexFor_6 : decode cX7_indexFor 6 = .ok (.istore_n 2, 1) := by decide +kernel
theorem dX7_indexFor_7 : decode cX7_indexFor 7 = .ok (.iload_n 2, 1) := by decide +kernel
theorem dX7_indexFor_8 : decode cX7_indexFor 8 = .ok (.ifCond .le 23, 3) := by decide +kernel
theorem dX7_indexFor_11 : decode cX7_indexFor 11 = .ok (.aload_n 0, 1) := by decide +kernel
theorem dX7_indexFor_12 : decode cX7_indexFor 12 = .ok (.getfield 14, 3) := by decide +kernel
theorem dX7_indexFor_15 : decode cX7_indexFor 15 = .ok (.iload_n 2, 1) := by decide +kernel
theorem dX7_indexFor_16 : decode cX7_indexFor 16 = .ok (.invokevirtual 44, 3) := by decide +kernel
theorem dX7_indexFor_19 : decode cX7_indexFor 19 = .ok (.iload_n 1, 1) := by decide +kernel
theorem dX7_indexFor_20 : decode cX7_indexFor 20 = .ok (.if_icmp .gt 5, 3) := by decide +kernel
theorem dX7_indexFor_23 : decode cX7_indexFor 23 = .ok (.iload_n 2, 1) := by decide +kernel
theorem dX7_indexFor_24 : decode cX7_indexFor 24 = .ok (.ireturn, 1) := by decide +kernel
theorem dX7_indexFor_25 : decode cX7_indexFor 25 = .ok (.iinc 2 (-1), 3) := by decide +kernel
theorem dX7_indexFor_28 : decode cX7_indexFor 28 = .ok (.goto (-21), 3) := by decide +kernel
theorem dX7_indexFor_31 : decode cX7_indexFor 31 = .ok (.iconst 0, 1) := by decide +kernel
theorem dX7_indexFor_32 : decode cX7_indexFor 32 = .ok (.ireturn, 1) := by decide +kernel
set_option maxRecDepth 20000 in
theorem ggX7_fare_X5_at : GoodIn wsX7_fare wsX5_at := goodIn_r _ [7, 8, 15] (by decide +kernel) (by decide +kernel)
set_option maxRecDepth 20000 in
theorem gX7_fare_X5_at : GoodIn wsX7_fare (wsV RX7 44 RX5 yX5_at wsX5_at) := goodIn_app (goodIn_of _ (by decide +kernel)) ggX7_fare_X5_at
theorem dX7_fare_0 : decode cX7_fare 0 = .ok (.aload_n 0, 1) := by decide +kernel
theorem dX7_fare_1 : decode cX7_fare 1 = .ok (.getfield 20, 3) := by decide +kernel
theorem dX7_fare_4 : decode cX7_fare 4 = .ok (.iload_n 1, 1) := by decide +kernel
theorem dX7_fare_5 : decode cX7_fare 5 = .ok (.invokevirtual 44, 3) := by decide +kernel
theorem dX7_fare_8 : decode cX7_fare 8 = .ok (.iload_n 2, 1) := by decide +kernel
theorem dX7_fare_9 : decode cX7_fare 9 = .ok (.iconst 1, 1) := by decide +kernel
theorem dX7_fare_10 : decode cX7_fare 10 = .ok (.isub, 1) := by decide +kernel
theorem dX7_fare_11 : decode cX7_fare 11 = .ok (.aload_n 0, 1) := by decide +kernel
theorem dX7_fare_12 : decode cX7_fare 12 = .ok (.getfield 23, 3) := by decide +kernel
theorem dX7_fare_15 : decode cX7_fare 15 = .ok (.iload_n 1, 1) := by decide +kernel
theorem dX7_fare_16 : decode cX7_fare 16 = .ok (.invokevirtual 44, 3) := by decide +kernel
theorem dX7_fare_19 : decode cX7_fare 19 = .ok (.imul, 1) := by decide +kernel
theorem dX7_fare_20 : decode cX7_fare 20 = .ok (.iadd, 1) := by decide +kernel
theorem dX7_fare_21 : decode cX7_fare 21 = .ok (.ireturn, 1) := by decide +kernel
set_option maxRecDepth 20000 in
theorem ggX7_dayTicket_X5_at : GoodIn wsX7_dayTicket wsX5_at := goodIn_r _ [7, 8, 15] (by decide +kernel) (by decide +kernel)
set_option maxRecDepth 20000 in
theorem gX7_dayTicket_X5_at : GoodIn wsX7_dayTicket (wsV RX7 44 RX5 yX5_at wsX5_at) := goodIn_app (goodIn_of _ (by decide +kernel)) ggX7_dayTicket_X5_at
theorem dX7_dayTicket_0 : decode cX7_dayTicket 0 = .ok (.aload_n 0, 1) := by decide +kernel
theorem dX7_dayTicket_1 : decode cX7_dayTicket 1 = .ok (.getfield 26, 3) := by decide +kernel
theorem dX7_dayTicket_4 : decode cX7_dayTicket 4 = .ok (.iload_n 1, 1) := by decide +kernel
theorem dX7_dayTicket_5 : decode cX7_dayTicket 5 = .ok (.invokevirtual 44, 3) := by decide +kernel
theorem dX7_dayTicket_8 : decode cX7_dayTicket 8 = .ok (.iload_n 2, 1) := by decide +kernel
theorem dX7_dayTicket_9 : decode cX7_dayTicket 9 = .ok (.iconst 1, 1) := by decide +kernel
theorem dX7_dayTicket_10 : decode cX7_dayTicket 10 = .ok (.isub, 1) := by decide +kernel
theorem dX7_dayTicket_11 : decode cX7_dayTicket 11 = .ok (.iconst 2, 1) := by decide +kernel
theorem dX7_dayTicket_12 : decode cX7_dayTicket 12 = .ok (.imul, 1) := by decide +kernel
theorem dX7_dayTicket_13 : decode cX7_dayTicket 13 = .ok (.aload_n 0, 1) := by decide +kernel
theorem dX7_dayTicket_14 : decode cX7_dayTicket 14 = .ok (.getfield 23, 3) := by decide +kernel
theorem dX7_dayTicket_17 : decode cX7_dayTicket 17 = .ok (.iload_n 1, 1) := by decide +kernel
theorem dX7_dayTicket_18 : decode cX7_dayTicket 18 = .ok (.invokevirtual 44, 3) := by decide +kernel
theorem dX7_dayTicket_21 : decode cX7_dayTicket 21 = .ok (.imul, 1) := by decide +kernel
theorem dX7_dayTicket_22 : decode cX7_dayTicket 22 = .ok (.iadd, 1) := by decide +kernel
theorem dX7_dayTicket_23 : decode cX7_dayTicket 23 = .ok (.ireturn, 1) := by decide +kernel
set_option maxRecDepth 20000 in
theorem ggX7_weekTicket_X5_at : GoodIn wsX7_weekTicket wsX5_at := goodIn_r _ [7, 8, 15] (by decide +kernel) (by decide +kernel)
set_option maxRecDepth 20000 in
theorem gX7_weekTicket_X5_at : GoodIn wsX7_weekTicket (wsV RX7 44 RX5 yX5_at wsX5_at) := goodIn_app (goodIn_of _ (by decide +kernel)) ggX7_weekTicket_X5_at
theorem dX7_weekTicket_0 : decode cX7_weekTicket 0 = .ok (.aload_n 0, 1) := by decide +kernel
theorem dX7_weekTicket_1 : decode cX7_weekTicket 1 = .ok (.getfield 29, 3) := by decide +kernel
theorem dX7_weekTicket_4 : decode cX7_weekTicket 4 = .ok (.iload_n 1, 1) := by decide +kernel
theorem dX7_weekTicket_5 : decode cX7_weekTicket 5 = .ok (.invokevirtual 44, 3) := by decide +kernel
theorem dX7_weekTicket_8 : decode cX7_weekTicket 8 = .ok (.iload_n 2, 1) := by decide +kernel
theorem dX7_weekTicket_9 : decode cX7_weekTicket 9 = .ok (.iconst 1, 1) := by decide +kernel
theorem dX7_weekTicket_10 : decode cX7_weekTicket 10 = .ok (.isub, 1) := by decide +kernel
theorem dX7_weekTicket_11 : decode cX7_weekTicket 11 = .ok (.bipush 8, 2) := by decide +kernel
theorem dX7_weekTicket_13 : decode cX7_weekTicket 13 = .ok (.imul, 1) := by decide +kernel
theorem dX7_weekTicket_14 : decode cX7_weekTicket 14 = .ok (.aload_n 0, 1) := by decide +kernel
theorem dX7_weekTicket_15 : decode cX7_weekTicket 15 = .ok (.getfield 23, 3) := by decide +kernel
theorem dX7_weekTicket_18 : decode cX7_weekTicket 18 = .ok (.iload_n 1, 1) := by decide +kernel
theorem dX7_weekTicket_19 : decode cX7_weekTicket 19 = .ok (.invokevirtual 44, 3) := by decide +kernel
theorem dX7_weekTicket_22 : decode cX7_weekTicket 22 = .ok (.imul, 1) := by decide +kernel
theorem dX7_weekTicket_23 : decode cX7_weekTicket 23 = .ok (.iadd, 1) := by decide +kernel
theorem dX7_weekTicket_24 : decode cX7_weekTicket 24 = .ok (.ireturn, 1) := by decide +kernel
