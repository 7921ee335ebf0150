def wsX9_tariff : List Cond := .code yX9_tariff cX9_tariff 6 (some .boolean) :: ([.fieldLink RX9 24 "TapCapLaw$Told" "tariffs" "[[I", .arrayClass .int, .fieldLink RX9 10 "TapCapLaw$Told" "m" "LTapCap;"] ++ wsX90 ++ (va_wsS RX9 60 yX9_plus wsX9_plus) ++ (wsV RX9 64 RX8 yX8_tariff wsX8_tariff))
def wsX9_has : List Cond := .code yX9_has cX9_has 6 (some .int) :: ([.fieldLink RX9 31 "TapCapLaw$Told" "taps" "[[I"] ++ wsX90)
set_option maxRecDepth 20000 in
theorem gX9_tariff_X9_plus : GoodIn wsX9_tariff (va_wsS RX9 60 yX9_plus wsX9_plus) := goodIn_sub (fun w h => List.mem_cons_of_mem _ (List.mem_append_left _ (List.mem_append_right _ h))) (by decide +kernel)
set_option maxRecDepth 20000 in
theorem gX9_tariff_X8_tariff : GoodIn wsX9_tariff (wsV RX9 64 RX8 yX8_tariff wsX8_tariff) := goodIn_sub (fun w h => List.mem_cons_of_mem _ (List.mem_append_right _ h)) (by decide +kernel)
theorem dX9_tariff_0 : decode cX9_tariff 0 = .ok (.aload_n 0, 1) := by decide +kernel
theorem dX9_tariff_1 : decode cX9_tariff 1 = .ok (.aload_n 0, 1) := by decide +kernel
theorem dX9_tariff_2 : decode cX9_tariff 2 = .ok (.getfield 24, 3) := by decide +kernel
theorem dX9_tariff_5 : decode cX9_tariff 5 = .ok (.iconst 5, 1) := by decide +kernel
theorem dX9_tariff_6 : decode cX9_tariff 6 = .ok (.newarray .int, 2) := by decide +kernel
theorem dX9_tariff_8 : decode cX9_tariff 8 = .ok (.dup, 1) := by decide +kernel
theorem dX9_tariff_9 : decode cX9_tariff 9 = .ok (.iconst 0, 1) := by decide +kernel
theorem dX9_tariff_10 : decode cX9_tariff 10 = .ok (.iload_n 1, 1) := by decide +kernel
theorem dX9_tariff_11 : decode cX9_tariff 11 = .ok (.iastore, 1) := by decide +kernel
theorem dX9_tariff_12 : decode cX9_tariff 12 = .ok (.dup, 1) := by decide +kernel
theorem dX9_tariff_13 : decode cX9_tariff 13 = .ok (.iconst 1, 1) := by decide +kernel
theorem dX9_tariff_14 : decode cX9_tariff 14 = .ok (.iload_n 2, 1) := by decide +kernel
theorem dX9_tariff_15 : decode cX9_tariff 15 = .ok (.iastore, 1) := by decide +kernel
theorem dX9_tariff_16 : decode cX9_tariff 16 = .ok (.dup, 1) := by decide +kernel
theorem dX9_tariff_17 : decode cX9_tariff 17 = .ok (.iconst 2, 1) := by decide +kernel
theorem dX9_tariff_18 : decode cX9_tariff 18 = .ok (.iload_n 3, 1) := by decide +kernel
theorem dX9_tariff_19 : decode cX9_tariff 19 = .ok (.iastore, 1) := by decide +kernel
theorem dX9_tariff_20 : decode cX9_tariff 20 = .ok (.dup, 1) := by decide +kernel
theorem dX9_tariff_21 : decode cX9_tariff 21 = .ok (.iconst 3, 1) := by decide +kernel
theorem dX9_tariff_22 : decode cX9_tariff 22 = .ok (.iload 4, 2) := by decide +kernel
theorem dX9_tariff_24 : decode cX9_tariff 24 = .ok (.iastore, 1) := by decide +kernel
theorem dX9_tariff_25 : decode cX9_tariff 25 = .ok (.dup, 1) := by decide +kernel
theorem dX9_tariff_26 : decode cX9_tariff 26 = .ok (.iconst 4, 1) := by decide +kernel
theorem dX9_tariff_27 : decode cX9_tariff 27 = .ok (.iload 5, 2) := by decide +kernel
theorem dX9_tariff_29 : decode cX9_tariff 29 = .ok (.iastore, 1) := by decide +kernel
theorem dX9_tariff_30 : decode cX9_tariff 30 = .ok (.invokestatic 60, 3) := by decide +kernel
theorem dX9_tariff_33 : decode cX9_tariff 33 = .ok (.putfield 24, 3) := by decide +kernel
theorem dX9_tariff_36 : decode cX9_tariff 36 = .ok (.aload_n 0, 1) := by decide +kernel
theorem dX9_tariff_37 : decode cX9_tariff 37 = .ok (.getfield 10, 3) := by decide +kernel
theorem dX9_tariff_40 : decode cX9_tariff 40 = .ok (.iload_n 1, 1) := by decide +kernel
theorem dX9_tariff_41 : decode cX9_tariff 41 = .ok (.iload_n 2, 1) := by decide +kernel
theorem dX9_tariff_42 : decode cX9_tariff 42 = .ok (.iload_n 3, 1) := by decide +kernel
theorem dX9_tariff_43 : decode cX9_tariff 43 = .ok (.iload 4, 2) := by decide +kernel
theorem dX9_tariff_45 : decode cX9_tariff 45 = .ok (.iload 5, 2) := by decide +kernel
theorem dX9_tariff_47 : decode cX9_tariff 47 = .ok (.invokevirtual 64, 3) := by decide +kernel
theorem dX9_tariff_50 : decode cX9_tariff 50 = .ok (.aload_n 0, 1) := by decide +kernel
theorem dX9_tariff_51 : decode cX9_tariff 51 = .ok (.getfield 24, 3) := by decide +kernel
theorem dX9_tariff_54 : decode cX9_tariff 54 = .ok (.arraylength, 1) := by decide +kernel
theorem dX9_tariff_55 : decode cX9_tariff 55 = .ok (.if_icmp .ne 7, 3) := by decide +kernel
theorem dX9_tariff_58 : decode cX9_tariff 58 = .ok (.iconst 1, 1) := by decide +kernel
theorem dX9_tariff_59 : decode cX9_tariff 59 = .ok (.goto 4, 3) := by decide +kernel
theorem dX9_tariff_62 : decode cX9_tariff 62 = .ok (.iconst 0, 1) := by decide +kernel
theorem dX9_tariff_63 : decode cX9_tariff 63 = .ok (.ireturn, 1) := by decide +kernel
theorem dX9_has_0 : decode cX9_has 0 = .ok (.iconst (-1), 1) := by decide +kernel
theorem dX9_has_1 : decode cX9_has 1 = .ok (.istore_n 2, 1) := by decide +kernel
theorem dX9_has_2 : decode cX9_has 2 = .ok (.iconst 0, 1) := by decide +kernel
theorem dX9_has_3 : decode cX9_has 3 = .ok (.istore_n 3, 1) := by decide +kernel
theorem dX9_has_4 : decode cX9_has 4 = .ok (.iload_n 3, 1) := by decide +kernel
theorem dX9_has_5 : decode cX9_has 5 = .ok (.aload_n 0, 1) := by decide +kernel
theorem dX9_has_6 : decode cX9_has 6 = .ok (.getfield 31, 3) := by decide +kernel
theorem dX9_has_9 : decode cX9_has 9 = .ok (.arraylength, 1) := by decide +kernel
theorem dX9_has_10 : decode cX9_has 10 = .ok (.if_icmp .ge 54, 3) := by decide +kernel
theorem dX9_has_13 : decode cX9_has 13 = .ok (.iconst 1, 1) := by decide +kernel
theorem dX9_has_14 : decode cX9_has 14 = .ok (.istore 4, 2) := by decide +kernel
theorem dX9_has_16 : decode cX9_has 16 = .ok (.iconst 0, 1) := by decide +kernel
theorem dX9_has_17 : decode cX9_has 17 = .ok (.istore 5, 2) := by decide +kernel
theorem dX9_has_19 : decode cX9_has 19 = .ok (.iload 5, 2) := by decide +kernel
theorem dX9_has_21 : decode cX9_has 21 = .ok (.bipush 6, 2) := by decide +kernel
theorem dX9_has_23 : decode cX9_has 23 = .ok (.if_icmp .ge 28, 3) := by decide +kernel
theorem dX9_has_26 : decode cX9_has 26 = .ok (.aload_n 0, 1) := by decide +kernel
theorem dX9_has_27 : decode cX9_has 27 = .ok (.getfield 31, 3) := by decide +kernel
theorem dX9_has_30 : decode cX9_has 30 = .ok (.iload_n 3, 1) := by decide +kernel
theorem dX9_has_31 : decode cX9_has 31 = .ok (.aaload, 1) := by decide +kernel
theorem dX9_has_32 : decode cX9_has 32 = .ok (.iload 5, 2) := by decide +kernel
theorem dX9_has_34 : decode cX9_has 34 = .ok (.iaload, 1) := by decide +kernel
theorem dX9_has_35 : decode cX9_has 35 = .ok (.aload_n 1, 1) := by decide +kernel
theorem dX9_has_36 : decode cX9_has 36 = .ok (.iload 5, 2) := by decide +kernel
theorem dX9_has_38 : decode cX9_has 38 = .ok (.iaload, 1) := by decide +kernel
theorem dX9_has_39 : decode cX9_has 39 = .ok (.if_icmp .eq 6, 3) := by decide +kernel
theorem dX9_has_42 : decode cX9_has 42 = .ok (.iconst 0, 1) := by decide +kernel
theorem dX9_has_43 : decode cX9_has 43 = .ok (.istore 4, 2) := by decide +kernel
theorem dX9_has_45 : decode cX9_has 45 = .ok (.iinc 5 1, 3) := by decide +kernel
theorem dX9_has_48 : decode cX9_has 48 = .ok (.goto (-29), 3) := by decide +kernel
theorem dX9_has_51 : decode cX9_has 51 = .ok (.iload 4, 2) := by decide +kernel
theorem dX9_has_53 : decode cX9_has 53 = .ok (.ifCond .eq 5, 3) := by decide +kernel
theorem dX9_has_56 : decode cX9_has 56 = .ok (.iload_n 3, 1) := by decide +kernel
theorem dX9_has_57 : decode cX9_has 57 = .ok (.istore_n 2, 1) := by decide +kernel
theorem dX9_has_58 : decode cX9_has 58 = .ok (.iinc 3 1, 3) := by decide +kernel
theorem dX9_has_61 : decode cX9_has 61 = .ok (.goto (-57), 3) := by decide +kernel
theorem dX9_has_64 : decode cX9_has 64 = .ok (.iload_n 2, 1) := by decide +kernel
theorem dX9_has_65 : decode cX9_has 65 = .ok (.ireturn, 1) := by decide +kernel
