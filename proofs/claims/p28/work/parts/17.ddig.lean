set_option maxRecDepth 20000 in
theorem gX8_digest_X8_manyAnswer : GoodIn wsX8_digest (wsV RX8 224 RX8 yX8_manyAnswer wsX8_manyAnswer) := goodIn_sub (fun w h => List.mem_cons_of_mem _ (List.mem_append_left _ (List.mem_append_left _ (List.mem_append_left _ (List.mem_append_right _ h))))) (by decide +kernel)
set_option maxRecDepth 20000 in
theorem gX8_digest_X8_cardAnswer : GoodIn wsX8_digest (wsV RX8 194 RX8 yX8_cardAnswer wsX8_cardAnswer) := goodIn_sub (fun w h => List.mem_cons_of_mem _ (List.mem_append_left _ (List.mem_append_left _ (List.mem_append_right _ h)))) (by decide +kernel)
set_option maxRecDepth 20000 in
theorem gX8_digest_X0_isPerson : GoodIn wsX8_digest (wsV RX8 166 RX0 yX0_isPerson wsX0_isPerson) := goodIn_sub (fun w h => List.mem_cons_of_mem _ (List.mem_append_left _ (List.mem_append_right _ h))) (by decide +kernel)
set_option maxRecDepth 20000 in
theorem gX8_digest_X8_digestPerson : GoodIn wsX8_digest (wsV RX8 242 RX8 yX8_digestPerson wsX8_digestPerson) := goodIn_sub (fun w h => List.mem_cons_of_mem _ (List.mem_append_right _ h)) (by decide +kernel)
theorem dX8_digest_0 : decode cX8_digest 0 = .ok (.ldc2_w 238, 3) := by decide +kernel
theorem dX8_digest_3 : decode cX8_digest 3 = .ok (.lstore_n 1, 1) := by decide +kernel
theorem dX8_digest_4 : decode cX8_digest 4 = .ok (.iconst 0, 1) := by decide +kernel
theorem dX8_digest_5 : decode cX8_digest 5 = .ok (.istore_n 3, 1) := by decide +kernel
theorem dX8_digest_6 : decode cX8_digest 6 = .ok (.iload_n 3, 1) := by decide +kernel
theorem dX8_digest_7 : decode cX8_digest 7 = .ok (.bipush 8, 2) := by decide +kernel
theorem dX8_digest_9 : decode cX8_digest 9 = .ok (.if_icmp .gt 22, 3) := by decide +kernel
theorem dX8_digest_12 : decode cX8_digest 12 = .ok (.lload_n 1, 1) := by decide +kernel
theorem dX8_digest_13 : decode cX8_digest 13 = .ok (.ldc2_w 240, 3) := by decide +kernel
theorem dX8_digest_16 : decode cX8_digest 16 = .ok (.lmul, 1) := by decide +kernel
theorem dX8_digest_17 : decode cX8_digest 17 = .ok (.aload_n 0, 1) := by decide +kernel
theorem dX8_digest_18 : decode cX8_digest 18 = .ok (.iload_n 3, 1) := by decide +kernel
theorem dX8_digest_19 : decode cX8_digest 19 = .ok (.invokevirtual 224, 3) := by decide +kernel
theorem dX8_digest_22 : decode cX8_digest 22 = .ok (.i2l, 1) := by decide +kernel
theorem dX8_digest_23 : decode cX8_digest 23 = .ok (.ladd, 1) := by decide +kernel
theorem dX8_digest_24 : decode cX8_digest 24 = .ok (.lstore_n 1, 1) := by decide +kernel
theorem dX8_digest_25 : decode cX8_digest 25 = .ok (.iinc 3 1, 3) := by decide +kernel
theorem dX8_digest_28 : decode cX8_digest 28 = .ok (.goto (-22), 3) := by decide +kernel
theorem dX8_digest_31 : decode cX8_digest 31 = .ok (.iconst 0, 1) := by decide +kernel
theorem dX8_digest_32 : decode cX8_digest 32 = .ok (.istore_n 3, 1) := by decide +kernel
theorem dX8_digest_33 : decode cX8_digest 33 = .ok (.iload_n 3, 1) := by decide +kernel
theorem dX8_digest_34 : decode cX8_digest 34 = .ok (.aload_n 0, 1) := by decide +kernel
theorem dX8_digest_35 : decode cX8_digest 35 = .ok (.getfield 26, 3) := by decide +kernel
theorem dX8_digest_38 : decode cX8_digest 38 = .ok (.getfield 103, 3) := by decide +kernel
theorem dX8_digest_41 : decode cX8_digest 41 = .ok (.if_icmp .ge 40, 3) := by decide +kernel
theorem dX8_digest_44 : decode cX8_digest 44 = .ok (.iconst 0, 1) := by decide +kernel
theorem dX8_digest_45 : decode cX8_digest 45 = .ok (.istore 4, 2) := by decide +kernel
theorem dX8_digest_47 : decode cX8_digest 47 = .ok (.iload 4, 2) := by decide +kernel
theorem dX8_digest_49 : decode cX8_digest 49 = .ok (.bipush 7, 2) := by decide +kernel
theorem dX8_digest_51 : decode cX8_digest 51 = .ok (.if_icmp .gt 24, 3) := by decide +kernel
theorem dX8_digest_54 : decode cX8_digest 54 = .ok (.lload_n 1, 1) := by decide +kernel
theorem dX8_digest_55 : decode cX8_digest 55 = .ok (.ldc2_w 240, 3) := by decide +kernel
theorem dX8_digest_58 : decode cX8_digest 58 = .ok (.lmul, 1) := by decide +kernel
theorem dX8_digest_59 : decode cX8_digest 59 = .ok (.aload_n 0, 1) := by decide +kernel
theorem dX8_digest_60 : decode cX8_digest 60 = .ok (.iload_n 3, 1) := by decide +kernel
theorem dX8_digest_61 : decode cX8_digest 61 = .ok (.iload 4, 2) := by decide +kernel
theorem dX8_digest_63 : decode cX8_digest 63 = .ok (.invokevirtual 194, 3) := by decide +kernel
theorem dX8_digest_66 : decode cX8_digest 66 = .ok (.i2l, 1) := by decide +kernel
theorem dX8_digest_67 : decode cX8_digest 67 = .ok (.ladd, 1) := by decide +kernel
theorem dX8_digest_68 : decode cX8_digest 68 = .ok (.lstore_n 1, 1) := by decide +kernel
theorem dX8_digest_69 : decode cX8_digest 69 = .ok (.iinc 4 1, 3) := by decide +kernel
theorem dX8_digest_72 : decode cX8_digest 72 = .ok (.goto (-25), 3) := by decide +kernel
theorem dX8_digest_75 : decode cX8_digest 75 = .ok (.iinc 3 1, 3) := by decide +kernel
theorem dX8_digest_78 : decode cX8_digest 78 = .ok (.goto (-45), 3) := by decide +kernel
theorem dX8_digest_81 : decode cX8_digest 81 = .ok (.iconst 0, 1) := by decide +kernel
theorem dX8_digest_82 : decode cX8_digest 82 = .ok (.istore_n 3, 1) := by decide +kernel
theorem dX8_digest_83 : decode cX8_digest 83 = .ok (.iload_n 3, 1) := by decide +kernel
theorem dX8_digest_84 : decode cX8_digest 84 = .ok (.aload_n 0, 1) := by decide +kernel
theorem dX8_digest_85 : decode cX8_digest 85 = .ok (.getfield 26, 3) := by decide +kernel
theorem dX8_digest_88 : decode cX8_digest 88 = .ok (.getfield 103, 3) := by decide +kernel
theorem dX8_digest_91 : decode cX8_digest 91 = .ok (.if_icmp .ge 27, 3) := by decide +kernel
theorem dX8_digest_94 : decode cX8_digest 94 = .ok (.aload_n 0, 1) := by decide +kernel
theorem dX8_digest_95 : decode cX8_digest 95 = .ok (.getfield 26, 3) := by decide +kernel
theorem dX8_digest_98 : decode cX8_digest 98 = .ok (.iload_n 3, 1) := by decide +kernel
theorem dX8_digest_99 : decode cX8_digest 99 = .ok (.invokevirtual 166, 3) := by decide +kernel
theorem dX8_digest_102 : decode cX8_digest 102 = .ok (.ifCond .eq 10, 3) := by decide +kernel
theorem dX8_digest_105 : decode cX8_digest 105 = .ok (.aload_n 0, 1) := by decide +kernel
theorem dX8_digest_106 : decode cX8_digest 106 = .ok (.lload_n 1, 1) := by decide +kernel
theorem dX8_digest_107 : decode cX8_digest 107 = .ok (.iload_n 3, 1) := by decide +kernel
theorem dX8_digest_108 : decode cX8_digest 108 = .ok (.invokevirtual 242, 3) := by decide +kernel
theorem dX8_digest_111 : decode cX8_digest 111 = .ok (.lstore_n 1, 1) := by decide +kernel
theorem dX8_digest_112 : decode cX8_digest 112 = .ok (.iinc 3 1, 3) := by decide +kernel
theorem dX8_digest_115 : decode cX8_digest 115 = .ok (.goto (-32), 3) := by decide +kernel
theorem dX8_digest_118 : decode cX8_digest 118 = .ok (.lload_n 1, 1) := by decide +kernel
theorem dX8_digest_119 : decode cX8_digest 119 = .ok (.lreturn, 1) := by decide +kernel
set_option maxRecDepth 20000 in
theorem gX8_digestPerson_X8_study : GoodIn wsX8_digestPerson (wsV RX8 188 RX8 yX8_study wsX8_study) := goodIn_sub (fun w h => List.mem_cons_of_mem _ (List.mem_append_left _ (List.mem_append_left _ (List.mem_append_left _ (List.mem_append_right _ h))))) (by decide +kernel)
set_option maxRecDepth 20000 in
theorem gX8_digestPerson_X8_digestDay : GoodIn wsX8_digestPerson (wsV RX8 349 RX8 yX8_digestDay wsX8_digestDay) := goodIn_sub (fun w h => List.mem_cons_of_mem _ (List.mem_append_left _ (List.mem_append_left _ (List.mem_append_right _ h)))) (by decide +kernel)
set_option maxRecDepth 20000 in
theorem gX8_digestPerson_X8_weekAnswer : GoodIn wsX8_digestPerson (wsV RX8 214 RX8 yX8_weekAnswer wsX8_weekAnswer) := goodIn_sub (fun w h => List.mem_cons_of_mem _ (List.mem_append_left _ (List.mem_append_right _ h))) (by decide +kernel)
set_option maxRecDepth 20000 in
theorem gX8_digestPerson_X3_likeliest : GoodIn wsX8_digestPerson (wsV RX8 234 RX3 yX3_likeliest wsX3_likeliest) := goodIn_sub (fun w h => List.mem_cons_of_mem _ (List.mem_append_right _ h)) (by decide +kernel)
theorem dX8_digestPerson_0 : decode cX8_digestPerson 0 = .ok (.aload_n 0, 1) := by decide +kernel
theorem dX8_digestPerson_1 : decode cX8_digestPerson 1 = .ok (.iload_n 3, 1) := by decide +kernel
theorem dX8_digestPerson_2 : decode cX8_digestPerson 2 = .ok (.aload_n 0, 1) := by decide +kernel
theorem dX8_digestPerson_3 : decode cX8_digestPerson 3 = .ok (.getfield 33, 3) := by decide +kernel
theorem dX8_digestPerson_6 : decode cX8_digestPerson 6 = .ok (.getfield 151, 3) := by decide +kernel
theorem dX8_digestPerson_9 : decode cX8_digestPerson 9 = .ok (.iconst (-1), 1) := by decide +kernel
theorem dX8_digestPerson_10 : decode cX8_digestPerson 10 = .ok (.invokevirtual 188, 3) := by decide +kernel
theorem dX8_digestPerson_13 : decode cX8_digestPerson 13 = .ok (.lload_n 1, 1) := by decide +kernel
theorem dX8_digestPerson_14 : decode cX8_digestPerson 14 = .ok (.lstore 4, 2) := by decide +kernel
theorem dX8_digestPerson_16 : decode cX8_digestPerson 16 = .ok (.iconst 0, 1) := by decide +kernel
theorem dX8_digestPerson_17 : decode cX8_digestPerson 17 = .ok (.istore 6, 2) := by decide +kernel
theorem dX8_digestPerson_19 : decode cX8_digestPerson 19 = .ok (.iload 6, 2) := by decide +kernel
theorem dX8_digestPerson_21 : decode cX8_digestPerson 21 = .ok (.bipush 28, 2) := by decide +kernel
theorem dX8_digestPerson_23 : decode cX8_digestPerson 23 = .ok (.if_icmp .ge 19, 3) := by decide +kernel
theorem dX8_digestPerson_26 : decode cX8_digestPerson 26 = .ok (.aload_n 0, 1) := by decide +kernel
theorem dX8_digestPerson_27 : decode cX8_digestPerson 27 = .ok (.lload 4, 2) := by decide +kernel
theorem dX8_digestPerson_29 : decode cX8_digestPerson 29 = .ok (.iload 6, 2) := by decide +kernel
theorem dX8_digestPerson_31 : decode cX8_digestPerson 31 = .ok (.invokevirtual 349, 3) := by decide +kernel
theorem dX8_digestPerson_34 : decode cX8_digestPerson 34 = .ok (.lstore 4, 2) := by decide +kernel
theorem dX8_digestPerson_36 : decode cX8_digestPerson 36 = .ok (.iinc 6 1, 3) := by decide +kernel
theorem dX8_digestPerson_39 : decode cX8_digestPerson 39 = .ok (.goto (-20), 3) := by decide +kernel
theorem dX8_digestPerson_42 : decode cX8_digestPerson 42 = .ok (.iconst 0, 1) := by decide +kernel
theorem dX8_digestPerson_43 : decode cX8_digestPerson 43 = .ok (.istore 6, 2) := by decide +kernel
theorem dX8_digestPerson_45 : decode cX8_digestPerson 45 = .ok (.iload 6, 2) := by decide +kernel
theorem dX8_digestPerson_47 : decode cX8_digestPerson 47 = .ok (.iconst 4, 1) := by decide +kernel
theorem dX8_digestPerson_48 : decode cX8_digestPerson 48 = .ok (.if_icmp .ge 42, 3) := by decide +kernel
theorem dX8_digestPerson_51 : decode cX8_digestPerson 51 = .ok (.iconst 0, 1) := by decide +kernel
theorem dX8_digestPerson_52 : decode cX8_digestPerson 52 = .ok (.istore 7, 2) := by decide +kernel
theorem dX8_digestPerson_54 : decode cX8_digestPerson 54 = .ok (.iload 7, 2) := by decide +kernel
theorem dX8_digestPerson_56 : decode cX8_digestPerson 56 = .ok (.iconst 2, 1) := by decide +kernel
theorem dX8_digestPerson_57 : decode cX8_digestPerson 57 = .ok (.if_icmp .gt 27, 3) := by decide +kernel
theorem dX8_digestPerson_60 : decode cX8_digestPerson 60 = .ok (.lload 4, 2) := by decide +kernel
theorem dX8_digestPerson_62 : decode cX8_digestPerson 62 = .ok (.ldc2_w 240, 3) := by decide +kernel
theorem dX8_digestPerson_65 : decode cX8_digestPerson 65 = .ok (.lmul, 1) := by decide +kernel
theorem dX8_digestPerson_66 : decode cX8_digestPerson 66 = .ok (.aload_n 0, 1) := by decide +kernel
theorem dX8_digestPerson_67 : decode cX8_digestPerson 67 = .ok (.iload 6, 2) := by decide +kernel
theorem dX8_digestPerson_69 : decode cX8_digestPerson 69 = .ok (.iload 7, 2) := by decide +kernel
theorem dX8_digestPerson_71 : decode cX8_digestPerson 71 = .ok (.invokevirtual 214, 3) := by decide +kernel
theorem dX8_digestPerson_74 : decode cX8_digestPerson 74 = .ok (.i2l, 1) := by decide +kernel
theorem dX8_digestPerson_75 : decode cX8_digestPerson 75 = .ok (.ladd, 1) := by decide +kernel
theorem dX8_digestPerson_76 : decode cX8_digestPerson 76 = .ok (.lstore 4, 2) := by decide +kernel
theorem dX8_digestPerson_78 : decode cX8_digestPerson 78 = .ok (.iinc 7 1, 3) := by decide +kernel
theorem dX8_digestPerson_81 : decode cX8_digestPerson 81 = .ok (.goto (-27), 3) := by decide +kernel
theorem dX8_digestPerson_84 : decode cX8_digestPerson 84 = .ok (.iinc 6 1, 3) := by decide +kernel
theorem dX8_digestPerson_87 : decode cX8_digestPerson 87 = .ok (.goto (-42), 3) := by decide +kernel
theorem dX8_digestPerson_90 : decode cX8_digestPerson 90 = .ok (.iconst 0, 1) := by decide +kernel
theorem dX8_digestPerson_91 : decode cX8_digestPerson 91 = .ok (.istore 6, 2) := by decide +kernel
theorem dX8_digestPerson_93 : decode cX8_digestPerson 93 = .ok (.iload 6, 2) := by decide +kernel
theorem dX8_digestPerson_95 : decode cX8_digestPerson 95 = .ok (.bipush 10, 2) := by decide +kernel
theorem dX8_digestPerson_97 : decode cX8_digestPerson 97 = .ok (.if_icmp .ge 31, 3) := by decide +kernel
theorem dX8_digestPerson_100 : decode cX8_digestPerson 100 = .ok (.lload 4, 2) := by decide +kernel
theorem dX8_digestPerson_102 : decode cX8_digestPerson 102 = .ok (.ldc2_w 240, 3) := by decide +kernel
theorem dX8_digestPerson_105 : decode cX8_digestPerson 105 = .ok (.lmul, 1) := by decide +kernel
theorem dX8_digestPerson_106 : decode cX8_digestPerson 106 = .ok (.aload_n 0, 1) := by decide +kernel
theorem dX8_digestPerson_107 : decode cX8_digestPerson 107 = .ok (.getfield 40, 3) := by decide +kernel
theorem dX8_digestPerson_110 : decode cX8_digestPerson 110 = .ok (.bipush 27, 2) := by decide +kernel
theorem dX8_digestPerson_112 : decode cX8_digestPerson 112 = .ok (.iload 6, 2) := by decide +kernel
theorem dX8_digestPerson_114 : decode cX8_digestPerson 114 = .ok (.iconst 1, 1) := by decide +kernel
theorem dX8_digestPerson_115 : decode cX8_digestPerson 115 = .ok (.invokevirtual 234, 3) := by decide +kernel
theorem dX8_digestPerson_118 : decode cX8_digestPerson 118 = .ok (.i2l, 1) := by decide +kernel
theorem dX8_digestPerson_119 : decode cX8_digestPerson 119 = .ok (.ladd, 1) := by decide +kernel
theorem dX8_digestPerson_120 : decode cX8_digestPerson 120 = .ok (.lstore 4, 2) := by decide +kernel
theorem dX8_digestPerson_122 : decode cX8_digestPerson 122 = .ok (.iinc 6 1, 3) := by decide +kernel
theorem dX8_digestPerson_125 : decode cX8_digestPerson 125 = .ok (.goto (-32), 3) := by decide +kernel
theorem dX8_digestPerson_128 : decode cX8_digestPerson 128 = .ok (.lload 4, 2) := by decide +kernel
theorem dX8_digestPerson_130 : decode cX8_digestPerson 130 = .ok (.lreturn, 1) := by decide +kernel
set_option maxRecDepth 20000 in
theorem gX8_digestDay_X8_dayAnswer : GoodIn wsX8_digestDay (wsV RX8 197 RX8 yX8_dayAnswer wsX8_dayAnswer) := goodIn_sub (fun w h => List.mem_cons_of_mem _ (List.mem_append_left _ (List.mem_append_left _ (List.mem_append_left _ (List.mem_append_right _ h))))) (by decide +kernel)
set_option maxRecDepth 20000 in
theorem gX8_digestDay_X5_at : GoodIn wsX8_digestDay (wsV RX8 77 RX5 yX5_at wsX5_at) := goodIn_sub (fun w h => List.mem_cons_of_mem _ (List.mem_append_left _ (List.mem_append_left _ (List.mem_append_right _ h)))) (by decide +kernel)
set_option maxRecDepth 20000 in
theorem gX8_digestDay_X8_shareAnswer : GoodIn wsX8_digestDay (wsV RX8 217 RX8 yX8_shareAnswer wsX8_shareAnswer) := goodIn_sub (fun w h => List.mem_cons_of_mem _ (List.mem_append_left _ (List.mem_append_right _ h))) (by decide +kernel)
set_option maxRecDepth 20000 in
theorem gX8_digestDay_X8_legAnswer : GoodIn wsX8_digestDay (wsV RX8 206 RX8 yX8_legAnswer wsX8_legAnswer) := goodIn_sub (fun w h => List.mem_cons_of_mem _ (List.mem_append_right _ h)) (by decide +kernel)
theorem dX8_digestDay_0 : decode cX8_digestDay 0 = .ok (.lload_n 1, 1) := by decide +kernel
theorem dX8_digestDay_1 : decode cX8_digestDay 1 = .ok (.lstore 4, 2) := by decide +kernel
theorem dX8_digestDay_3 : decode cX8_digestDay 3 = .ok (.iconst 0, 1) := by decide +kernel
theorem dX8_digestDay_4 : decode cX8_digestDay 4 = .ok (.istore 6, 2) := by decide +kernel
theorem dX8_digestDay_6 : decode cX8_digestDay 6 = .ok (.iload 6, 2) := by decide +kernel
theorem dX8_digestDay_8 : decode cX8_digestDay 8 = .ok (.bipush 7, 2) := by decide +kernel
theorem dX8_digestDay_10 : decode cX8_digestDay 10 = .ok (.if_icmp .gt 26, 3) := by decide +kernel
theorem dX8_digestDay_13 : decode cX8_digestDay 13 = .ok (.lload 4, 2) := by decide +kernel
theorem dX8_digestDay_15 : decode cX8_digestDay 15 = .ok (.ldc2_w 240, 3) := by decide +kernel
theorem dX8_digestDay_18 : decode cX8_digestDay 18 = .ok (.lmul, 1) := by decide +kernel
theorem dX8_digestDay_19 : decode cX8_digestDay 19 = .ok (.aload_n 0, 1) := by decide +kernel
theorem dX8_digestDay_20 : decode cX8_digestDay 20 = .ok (.iload_n 3, 1) := by decide +kernel
theorem dX8_digestDay_21 : decode cX8_digestDay 21 = .ok (.iload 6, 2) := by decide +kernel
theorem dX8_digestDay_23 : decode cX8_digestDay 23 = .ok (.invokevirtual 197, 3) := by decide +kernel
theorem dX8_digestDay_26 : decode cX8_digestDay 26 = .ok (.i2l, 1) := by decide +kernel
theorem dX8_digestDay_27 : decode cX8_digestDay 27 = .ok (.ladd, 1) := by decide +kernel
theorem dX8_digestDay_28 : decode cX8_digestDay 28 = .ok (.lstore 4, 2) := by decide +kernel
theorem dX8_digestDay_30 : decode cX8_digestDay 30 = .ok (.iinc 6 1, 3) := by decide +kernel
theorem dX8_digestDay_33 : decode cX8_digestDay 33 = .ok (.goto (-27), 3) := by decide +kernel
theorem dX8_digestDay_36 : decode cX8_digestDay 36 = .ok (.aload_n 0, 1) := by decide +kernel
theorem dX8_digestDay_37 : decode cX8_digestDay 37 = .ok (.getfield 40, 3) := by decide +kernel
theorem dX8_digestDay_40 : decode cX8_digestDay 40 = .ok (.getfield 284, 3) := by decide +kernel
theorem dX8_digestDay_43 : decode cX8_digestDay 43 = .ok (.iload_n 3, 1) := by decide +kernel
theorem dX8_digestDay_44 : decode cX8_digestDay 44 = .ok (.invokevirtual 77, 3) := by decide +kernel
theorem dX8_digestDay_47 : decode cX8_digestDay 47 = .ok (.ifCond .ne 6, 3) := by decide +kernel
theorem dX8_digestDay_50 : decode cX8_digestDay 50 = .ok (.lload 4, 2) := by decide +kernel
theorem dX8_digestDay_52 : decode cX8_digestDay 52 = .ok (.lreturn, 1) := by decide +kernel
theorem dX8_digestDay_53 : decode cX8_digestDay 53 = .ok (.iconst 0, 1) := by decide +kernel
theorem dX8_digestDay_54 : decode cX8_digestDay 54 = .ok (.istore 6, 2) := by decide +kernel
theorem dX8_digestDay_56 : decode cX8_digestDay 56 = .ok (.iload 6, 2) := by decide +kernel
theorem dX8_digestDay_58 : decode cX8_digestDay 58 = .ok (.iconst 3, 1) := by decide +kernel
theorem dX8_digestDay_59 : decode cX8_digestDay 59 = .ok (.if_icmp .ge 26, 3) := by decide +kernel
theorem dX8_digestDay_62 : decode cX8_digestDay 62 = .ok (.lload 4, 2) := by decide +kernel
theorem dX8_digestDay_64 : decode cX8_digestDay 64 = .ok (.ldc2_w 240, 3) := by decide +kernel
theorem dX8_digestDay_67 : decode cX8_digestDay 67 = .ok (.lmul, 1) := by decide +kernel
theorem dX8_digestDay_68 : decode cX8_digestDay 68 = .ok (.aload_n 0, 1) := by decide +kernel
theorem dX8_digestDay_69 : decode cX8_digestDay 69 = .ok (.iload 6, 2) := by decide +kernel
theorem dX8_digestDay_71 : decode cX8_digestDay 71 = .ok (.iload_n 3, 1) := by decide +kernel
theorem dX8_digestDay_72 : decode cX8_digestDay 72 = .ok (.invokevirtual 217, 3) := by decide +kernel
theorem dX8_digestDay_75 : decode cX8_digestDay 75 = .ok (.i2l, 1) := by decide +kernel
theorem dX8_digestDay_76 : decode cX8_digestDay 76 = .ok (.ladd, 1) := by decide +kernel
theorem dX8_digestDay_77 : decode cX8_digestDay 77 = .ok (.lstore 4, 2) := by decide +kernel
theorem dX8_digestDay_79 : decode cX8_digestDay 79 = .ok (.iinc 6 1, 3) := by decide +kernel
theorem dX8_digestDay_82 : decode cX8_digestDay 82 = .ok (.goto (-26), 3) := by decide +kernel
theorem dX8_digestDay_85 : decode cX8_digestDay 85 = .ok (.aload_n 0, 1) := by decide +kernel
theorem dX8_digestDay_86 : decode cX8_digestDay 86 = .ok (.getfield 40, 3) := by decide +kernel
theorem dX8_digestDay_89 : decode cX8_digestDay 89 = .ok (.getfield 203, 3) := by decide +kernel
theorem dX8_digestDay_92 : decode cX8_digestDay 92 = .ok (.iload_n 3, 1) := by decide +kernel
theorem dX8_digestDay_93 : decode cX8_digestDay 93 = .ok (.invokevirtual 77, 3) := by decide +kernel
theorem dX8_digestDay_96 : decode cX8_digestDay 96 = .ok (.istore 6, 2) := by decide +kernel
theorem dX8_digestDay_98 : decode cX8_digestDay 98 = .ok (.iconst 0, 1) := by decide +kernel
theorem dX8_digestDay_99 : decode cX8_digestDay 99 = .ok (.istore 7, 2) := by decide +kernel
theorem dX8_digestDay_101 : decode cX8_digestDay 101 = .ok (.iload 7, 2) := by decide +kernel
theorem dX8_digestDay_103 : decode cX8_digestDay 103 = .ok (.aload_n 0, 1) := by decide +kernel
theorem dX8_digestDay_104 : decode cX8_digestDay 104 = .ok (.getfield 40, 3) := by decide +kernel
theorem dX8_digestDay_107 : decode cX8_digestDay 107 = .ok (.getfield 200, 3) := by decide +kernel
theorem dX8_digestDay_110 : decode cX8_digestDay 110 = .ok (.iload_n 3, 1) := by decide +kernel
theorem dX8_digestDay_111 : decode cX8_digestDay 111 = .ok (.invokevirtual 77, 3) := by decide +kernel
theorem dX8_digestDay_114 : decode cX8_digestDay 114 = .ok (.if_icmp .ge 46, 3) := by decide +kernel
theorem dX8_digestDay_117 : decode cX8_digestDay 117 = .ok (.iconst 0, 1) := by decide +kernel
theorem dX8_digestDay_118 : decode cX8_digestDay 118 = .ok (.istore 8, 2) := by decide +kernel
theorem dX8_digestDay_120 : decode cX8_digestDay 120 = .ok (.iload 8, 2) := by decide +kernel
theorem dX8_digestDay_122 : decode cX8_digestDay 122 = .ok (.bipush 6, 2) := by decide +kernel
theorem dX8_digestDay_124 : decode cX8_digestDay 124 = .ok (.if_icmp .gt 30, 3) := by decide +kernel
theorem dX8_digestDay_127 : decode cX8_digestDay 127 = .ok (.lload 4, 2) := by decide +kernel
theorem dX8_digestDay_129 : decode cX8_digestDay 129 = .ok (.ldc2_w 240, 3) := by decide +kernel
theorem dX8_digestDay_132 : decode cX8_digestDay 132 = .ok (.lmul, 1) := by decide +kernel
theorem dX8_digestDay_133 : decode cX8_digestDay 133 = .ok (.aload_n 0, 1) := by decide +kernel
theorem dX8_digestDay_134 : decode cX8_digestDay 134 = .ok (.iload 6, 2) := by decide +kernel
theorem dX8_digestDay_136 : decode cX8_digestDay 136 = .ok (.iload 7, 2) := by decide +kernel
theorem dX8_digestDay_138 : decode cX8_digestDay 138 = .ok (.iadd, 1) := by decide +kernel
theorem dX8_digestDay_139 : decode cX8_digestDay 139 = .ok (.iload 8, 2) := by decide +kernel
theorem dX8_digestDay_141 : decode cX8_digestDay 141 = .ok (.invokevirtual 206, 3) := by decide +kernel
theorem dX8_digestDay_144 : decode cX8_digestDay 144 = .ok (.i2l, 1) := by decide +kernel
theorem dX8_digestDay_145 : decode cX8_digestDay 145 = .ok (.ladd, 1) := by decide +kernel
theorem dX8_digestDay_146 : decode cX8_digestDay 146 = .ok (.lstore 4, 2) := by decide +kernel
theorem dX8_digestDay_148 : decode cX8_digestDay 148 = .ok (.iinc 8 1, 3) := by decide +kernel
theorem dX8_digestDay_151 : decode cX8_digestDay 151 = .ok (.goto (-31), 3) := by decide +kernel
theorem dX8_digestDay_154 : decode cX8_digestDay 154 = .ok (.iinc 7 1, 3) := by decide +kernel
theorem dX8_digestDay_157 : decode cX8_digestDay 157 = .ok (.goto (-56), 3) := by decide +kernel
theorem dX8_digestDay_160 : decode cX8_digestDay 160 = .ok (.lload 4, 2) := by decide +kernel
theorem dX8_digestDay_162 : decode cX8_digestDay 162 = .ok (.lreturn, 1) := by decide +kernel
