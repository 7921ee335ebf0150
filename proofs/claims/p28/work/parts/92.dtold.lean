def wsL_cell : List Cond := .code yL_cell cL_cell 2 (some .int) :: ([.constant RL 8 (790386105)])
def wsL_below : List Cond := .code yL_below cL_below 2 (some .int) :: ([.constant RL 7 (2147483647)])
def wsX9_draw : List Cond := .code yX9_draw cX9_draw 3 (some .int) :: ([.fieldLink RX9 34 "TapCapLaw$Told" "s" "[I", .fieldLink RX9 37 "TapCapLaw$Told" "draws" "I", .initialized RL, .static yL_cell, .static yL_below] ++ wsX90 ++ (wsL_cell) ++ (wsL_below))
def wsX9_plus : List Cond := .code yX9_plus cX9_plus 3 (some (.array (.array .int))) :: ([.classLink RX9 23 "[I", .methodLink RX9 51 arraycopyName, .native arraycopyName, .static arraycopyName, .initialized "java/lang/System"])
def wsX9_zone : List Cond := .code yX9_zone cX9_zone 4 (some .boolean) :: ([.fieldLink RX9 16 "TapCapLaw$Told" "zones" "[I", .fieldLink RX9 10 "TapCapLaw$Told" "m" "LTapCap;"] ++ wsX90 ++ (wsV RX9 57 RX8 yX8_zone wsX8_zone))
set_option maxRecDepth 20000 in
theorem gX9_draw_L_cell_n41 : GoodIn wsX9_draw (wsL_cell) := goodIn_sub (fun w h => List.mem_cons_of_mem _ (List.mem_append_left _ (List.mem_append_right _ h))) (by decide +kernel)
set_option maxRecDepth 20000 in
theorem gX9_draw_L_below_n47 : GoodIn wsX9_draw (wsL_below) := goodIn_sub (fun w h => List.mem_cons_of_mem _ (List.mem_append_right _ h)) (by decide +kernel)
theorem dX9_draw_0 : decode cX9_draw 0 = .ok (.aload_n 0, 1) := by decide +kernel
theorem dX9_draw_1 : decode cX9_draw 1 = .ok (.getfield 34, 3) := by decide +kernel
theorem dX9_draw_4 : decode cX9_draw 4 = .ok (.aload_n 0, 1) := by decide +kernel
theorem dX9_draw_5 : decode cX9_draw 5 = .ok (.getfield 37, 3) := by decide +kernel
theorem dX9_draw_8 : decode cX9_draw 8 = .ok (.bipush 24, 2) := by decide +kernel
theorem dX9_draw_10 : decode cX9_draw 10 = .ok (.irem, 1) := by decide +kernel
theorem dX9_draw_11 : decode cX9_draw 11 = .ok (.invokestatic 41, 3) := by decide +kernel
theorem dX9_draw_14 : decode cX9_draw 14 = .ok (.aload_n 0, 1) := by decide +kernel
theorem dX9_draw_15 : decode cX9_draw 15 = .ok (.getfield 37, 3) := by decide +kernel
theorem dX9_draw_18 : decode cX9_draw 18 = .ok (.bipush 24, 2) := by decide +kernel
theorem dX9_draw_20 : decode cX9_draw 20 = .ok (.idiv, 1) := by decide +kernel
theorem dX9_draw_21 : decode cX9_draw 21 = .ok (.bipush 8, 2) := by decide +kernel
theorem dX9_draw_23 : decode cX9_draw 23 = .ok (.irem, 1) := by decide +kernel
theorem dX9_draw_24 : decode cX9_draw 24 = .ok (.ishr, 1) := by decide +kernel
theorem dX9_draw_25 : decode cX9_draw 25 = .ok (.sipush 313, 3) := by decide +kernel
theorem dX9_draw_28 : decode cX9_draw 28 = .ok (.aload_n 0, 1) := by decide +kernel
theorem dX9_draw_29 : decode cX9_draw 29 = .ok (.getfield 37, 3) := by decide +kernel
theorem dX9_draw_32 : decode cX9_draw 32 = .ok (.imul, 1) := by decide +kernel
theorem dX9_draw_33 : decode cX9_draw 33 = .ok (.iadd, 1) := by decide +kernel
theorem dX9_draw_34 : decode cX9_draw 34 = .ok (.iload_n 1, 1) := by decide +kernel
theorem dX9_draw_35 : decode cX9_draw 35 = .ok (.invokestatic 47, 3) := by decide +kernel
theorem dX9_draw_38 : decode cX9_draw 38 = .ok (.istore_n 2, 1) := by decide +kernel
theorem dX9_draw_39 : decode cX9_draw 39 = .ok (.aload_n 0, 1) := by decide +kernel
theorem dX9_draw_40 : decode cX9_draw 40 = .ok (.dup, 1) := by decide +kernel
theorem dX9_draw_41 : decode cX9_draw 41 = .ok (.getfield 37, 3) := by decide +kernel
theorem dX9_draw_44 : decode cX9_draw 44 = .ok (.iconst 1, 1) := by decide +kernel
theorem dX9_draw_45 : decode cX9_draw 45 = .ok (.iadd, 1) := by decide +kernel
theorem dX9_draw_46 : decode cX9_draw 46 = .ok (.putfield 37, 3) := by decide +kernel
theorem dX9_draw_49 : decode cX9_draw 49 = .ok (.iload_n 2, 1) := by decide +kernel
theorem dX9_draw_50 : decode cX9_draw 50 = .ok (.ireturn, 1) := by decide +kernel
theorem dX9_plus_0 : decode cX9_plus 0 = .ok (.aload_n 0, 1) := by decide +kernel
theorem dX9_plus_1 : decode cX9_plus 1 = .ok (.arraylength, 1) := by decide +kernel
theorem dX9_plus_2 : decode cX9_plus 2 = .ok (.iconst 1, 1) := by decide +kernel
theorem dX9_plus_3 : decode cX9_plus 3 = .ok (.iadd, 1) := by decide +kernel
theorem dX9_plus_4 : decode cX9_plus 4 = .ok (.anewarray 23, 3) := by decide +kernel
theorem dX9_plus_7 : decode cX9_plus 7 = .ok (.astore_n 2, 1) := by decide +kernel
theorem dX9_plus_8 : decode cX9_plus 8 = .ok (.aload_n 0, 1) := by decide +kernel
theorem dX9_plus_9 : decode cX9_plus 9 = .ok (.iconst 0, 1) := by decide +kernel
theorem dX9_plus_10 : decode cX9_plus 10 = .ok (.aload_n 2, 1) := by decide +kernel
theorem dX9_plus_11 : decode cX9_plus 11 = .ok (.iconst 0, 1) := by decide +kernel
theorem dX9_plus_12 : decode cX9_plus 12 = .ok (.aload_n 0, 1) := by decide +kernel
theorem dX9_plus_13 : decode cX9_plus 13 = .ok (.arraylength, 1) := by decide +kernel
theorem dX9_plus_14 : decode cX9_plus 14 = .ok (.invokestatic 51, 3) := by decide +kernel
theorem dX9_plus_17 : decode cX9_plus 17 = .ok (.aload_n 2, 1) := by decide +kernel
theorem dX9_plus_18 : decode cX9_plus 18 = .ok (.aload_n 0, 1) := by decide +kernel
theorem dX9_plus_19 : decode cX9_plus 19 = .ok (.arraylength, 1) := by decide +kernel
theorem dX9_plus_20 : decode cX9_plus 20 = .ok (.aload_n 1, 1) := by decide +kernel
theorem dX9_plus_21 : decode cX9_plus 21 = .ok (.aastore, 1) := by decide +kernel
theorem dX9_plus_22 : decode cX9_plus 22 = .ok (.aload_n 2, 1) := by decide +kernel
theorem dX9_plus_23 : decode cX9_plus 23 = .ok (.areturn, 1) := by decide +kernel
set_option maxRecDepth 20000 in
theorem gX9_zone_X8_zone : GoodIn wsX9_zone (wsV RX9 57 RX8 yX8_zone wsX8_zone) := goodIn_sub (fun w h => List.mem_cons_of_mem _ (List.mem_append_right _ h)) (by decide +kernel)
theorem dX9_zone_0 : decode cX9_zone 0 = .ok (.aload_n 0, 1) := by decide +kernel
theorem dX9_zone_1 : decode cX9_zone 1 = .ok (.getfield 16, 3) := by decide +kernel
theorem dX9_zone_4 : decode cX9_zone 4 = .ok (.iload_n 1, 1) := by decide +kernel
theorem dX9_zone_5 : decode cX9_zone 5 = .ok (.iaload, 1) := by decide +kernel
theorem dX9_zone_6 : decode cX9_zone 6 = .ok (.istore_n 3, 1) := by decide +kernel
theorem dX9_zone_7 : decode cX9_zone 7 = .ok (.aload_n 0, 1) := by decide +kernel
theorem dX9_zone_8 : decode cX9_zone 8 = .ok (.getfield 16, 3) := by decide +kernel
theorem dX9_zone_11 : decode cX9_zone 11 = .ok (.iload_n 1, 1) := by decide +kernel
theorem dX9_zone_12 : decode cX9_zone 12 = .ok (.iload_n 2, 1) := by decide +kernel
theorem dX9_zone_13 : decode cX9_zone 13 = .ok (.iastore, 1) := by decide +kernel
theorem dX9_zone_14 : decode cX9_zone 14 = .ok (.aload_n 0, 1) := by decide +kernel
theorem dX9_zone_15 : decode cX9_zone 15 = .ok (.getfield 10, 3) := by decide +kernel
theorem dX9_zone_18 : decode cX9_zone 18 = .ok (.iload_n 1, 1) := by decide +kernel
theorem dX9_zone_19 : decode cX9_zone 19 = .ok (.iload_n 2, 1) := by decide +kernel
theorem dX9_zone_20 : decode cX9_zone 20 = .ok (.invokevirtual 57, 3) := by decide +kernel
theorem dX9_zone_23 : decode cX9_zone 23 = .ok (.iload_n 3, 1) := by decide +kernel
theorem dX9_zone_24 : decode cX9_zone 24 = .ok (.if_icmp .ne 7, 3) := by decide +kernel
theorem dX9_zone_27 : decode cX9_zone 27 = .ok (.iconst 1, 1) := by decide +kernel
theorem dX9_zone_28 : decode cX9_zone 28 = .ok (.goto 4, 3) := by decide +kernel
theorem dX9_zone_31 : decode cX9_zone 31 = .ok (.iconst 0, 1) := by decide +kernel
theorem dX9_zone_32 : decode cX9_zone 32 = .ok (.ireturn, 1) := by decide +kernel
theorem dL_below_0 : decode cL_below 0 = .ok (.iload_n 0, 1) := by decide +kernel
theorem dL_below_1 : decode cL_below 1 = .ok (.ldc 7, 2) := by decide +kernel
theorem dL_below_3 : decode cL_below 3 = .ok (.iand, 1) := by decide +kernel
theorem dL_below_4 : decode cL_below 4 = .ok (.iload_n 1, 1) := by decide +kernel
theorem dL_below_5 : decode cL_below 5 = .ok (.irem, 1) := by decide +kernel
theorem dL_below_6 : decode cL_below 6 = .ok (.ireturn, 1) := by decide +kernel
theorem dL_cell_0 : decode cL_cell 0 = .ok (.iload_n 1, 1) := by decide +kernel
theorem dL_cell_1 : decode cL_cell 1 = .ok (.aload_n 0, 1) := by decide +kernel
theorem dL_cell_2 : decode cL_cell 2 = .ok (.arraylength, 1) := by decide +kernel
theorem dL_cell_3 : decode cL_cell 3 = .ok (.if_icmp .ge 9, 3) := by decide +kernel
theorem dL_cell_6 : decode cL_cell 6 = .ok (.aload_n 0, 1) := by decide +kernel
theorem dL_cell_7 : decode cL_cell 7 = .ok (.iload_n 1, 1) := by decide +kernel
theorem dL_cell_8 : decode cL_cell 8 = .ok (.iaload, 1) := by decide +kernel
theorem dL_cell_9 : decode cL_cell 9 = .ok (.goto 9, 3) := by decide +kernel
theorem dL_cell_12 : decode cL_cell 12 = .ok (.ldc 8, 2) := by decide +kernel
theorem dL_cell_14 : decode cL_cell 14 = .ok (.iload_n 1, 1) := by decide +kernel
theorem dL_cell_15 : decode cL_cell 15 = .ok (.iconst 3, 1) := by decide +kernel
theorem dL_cell_16 : decode cL_cell 16 = .ok (.iadd, 1) := by decide +kernel
theorem dL_cell_17 : decode cL_cell 17 = .ok (.imul, 1) := by decide +kernel
theorem dL_cell_18 : decode cL_cell 18 = .ok (.ireturn, 1) := by decide +kernel
