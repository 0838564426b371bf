/-! ===== the law's wrappers ===== -/
theorem dL_archer_0 : decode cL_archer 0 = .ok (.aload_n 3, 1) := by decide +kernel
theorem dL_archer_1 : decode cL_archer 1 = .ok (.iconst 0, 1) := by decide +kernel
theorem dL_archer_2 : decode cL_archer 2 = .ok (.aload_n 0, 1) := by decide +kernel
theorem dL_archer_3 : decode cL_archer 3 = .ok (.iload_n 1, 1) := by decide +kernel
theorem dL_archer_4 : decode cL_archer 4 = .ok (.iload_n 2, 1) := by decide +kernel
theorem dL_archer_5 : decode cL_archer 5 = .ok (.invokevirtual 7, 3) := by decide +kernel
theorem dL_archer_8 : decode cL_archer 8 = .ok (.i2l, 1) := by decide +kernel
theorem dL_archer_9 : decode cL_archer 9 = .ok (.lastore, 1) := by decide +kernel
theorem dL_archer_10 : decode cL_archer 10 = .ok (.goto 11, 3) := by decide +kernel
theorem dL_archer_13 : decode cL_archer 13 = .ok (.astore 4, 2) := by decide +kernel
theorem dL_archer_15 : decode cL_archer 15 = .ok (.iconst 1, 1) := by decide +kernel
theorem dL_archer_16 : decode cL_archer 16 = .ok (.ireturn, 1) := by decide +kernel
theorem dL_archer_17 : decode cL_archer 17 = .ok (.astore 4, 2) := by decide +kernel
theorem dL_archer_19 : decode cL_archer 19 = .ok (.iconst 2, 1) := by decide +kernel
theorem dL_archer_20 : decode cL_archer 20 = .ok (.ireturn, 1) := by decide +kernel
theorem dL_archer_21 : decode cL_archer 21 = .ok (.iconst 0, 1) := by decide +kernel
theorem dL_archer_22 : decode cL_archer 22 = .ok (.ireturn, 1) := by decide +kernel
set_option maxRecDepth 20000 in
theorem ggL_quiver_X4_quiver : GoodIn wsL_quiver wsX4_quiver := goodIn_ca (goodIn_ca (goodIn_r _ [7, 8, 9, 10, 11, 12, 13, 14, 15, 6, 16, 17, 18, 19, 20, 21, 22, 23, 24, 25, 26, 27, 28, 29, 30, 31, 32, 33, 34, 35, 36, 37, 38, 39] (by decide +kernel) (by decide +kernel)) (goodIn_sub (fun _ h => List.mem_cons_of_mem _ (List.mem_append_left _ (List.mem_append_right _ h))) (by decide +kernel))) (goodIn_sub (fun _ h => List.mem_cons_of_mem _ (List.mem_append_right _ h)) (by decide +kernel))
set_option maxRecDepth 20000 in
theorem gL_quiver_X4_quiver : GoodIn wsL_quiver (wsV RL 17 RX4 yX4_quiver wsX4_quiver) := goodIn_app (goodIn_of _ (by decide +kernel)) ggL_quiver_X4_quiver
theorem dL_quiver_0 : decode cL_quiver 0 = .ok (.aload_n 3, 1) := by decide +kernel
theorem dL_quiver_1 : decode cL_quiver 1 = .ok (.iconst 0, 1) := by decide +kernel
theorem dL_quiver_2 : decode cL_quiver 2 = .ok (.aload_n 0, 1) := by decide +kernel
theorem dL_quiver_3 : decode cL_quiver 3 = .ok (.iload_n 1, 1) := by decide +kernel
theorem dL_quiver_4 : decode cL_quiver 4 = .ok (.iload_n 2, 1) := by decide +kernel
theorem dL_quiver_5 : decode cL_quiver 5 = .ok (.invokevirtual 17, 3) := by decide +kernel
theorem dL_quiver_8 : decode cL_quiver 8 = .ok (.i2l, 1) := by decide +kernel
theorem dL_quiver_9 : decode cL_quiver 9 = .ok (.lastore, 1) := by decide +kernel
theorem dL_quiver_10 : decode cL_quiver 10 = .ok (.goto 11, 3) := by decide +kernel
theorem dL_quiver_13 : decode cL_quiver 13 = .ok (.astore 4, 2) := by decide +kernel
theorem dL_quiver_15 : decode cL_quiver 15 = .ok (.iconst 1, 1) := by decide +kernel
theorem dL_quiver_16 : decode cL_quiver 16 = .ok (.ireturn, 1) := by decide +kernel
theorem dL_quiver_17 : decode cL_quiver 17 = .ok (.astore 4, 2) := by decide +kernel
theorem dL_quiver_19 : decode cL_quiver 19 = .ok (.iconst 2, 1) := by decide +kernel
theorem dL_quiver_20 : decode cL_quiver 20 = .ok (.ireturn, 1) := by decide +kernel
theorem dL_quiver_21 : decode cL_quiver 21 = .ok (.iconst 0, 1) := by decide +kernel
theorem dL_quiver_22 : decode cL_quiver 22 = .ok (.ireturn, 1) := by decide +kernel
set_option maxRecDepth 20000 in
theorem ggL_give_X4_give : GoodIn wsL_give wsX4_give := goodIn_ca (goodIn_ca (goodIn_r _ [7, 8, 9, 10, 11, 12, 13, 14, 15, 16, 6, 17, 18, 19, 20, 21, 22, 23, 24, 25, 26, 27, 28, 29, 30, 31, 32, 33, 34, 35, 36, 37, 38, 39, 40, 41, 42, 43, 44, 45, 46, 47, 48, 49, 50, 51, 52, 53, 54, 55, 56, 57, 58, 59, 60, 61, 62, 63, 64, 65, 66, 67] (by decide +kernel) (by decide +kernel)) (goodIn_sub (fun _ h => List.mem_cons_of_mem _ (List.mem_append_left _ (List.mem_append_right _ h))) (by decide +kernel))) (goodIn_sub (fun _ h => List.mem_cons_of_mem _ (List.mem_append_right _ h)) (by decide +kernel))
set_option maxRecDepth 20000 in
theorem gL_give_X4_give : GoodIn wsL_give (wsV RL 20 RX4 yX4_give wsX4_give) := goodIn_app (goodIn_of _ (by decide +kernel)) ggL_give_X4_give
theorem dL_give_0 : decode cL_give 0 = .ok (.aload_n 3, 1) := by decide +kernel
theorem dL_give_1 : decode cL_give 1 = .ok (.iconst 0, 1) := by decide +kernel
theorem dL_give_2 : decode cL_give 2 = .ok (.aload_n 0, 1) := by decide +kernel
theorem dL_give_3 : decode cL_give 3 = .ok (.iload_n 1, 1) := by decide +kernel
theorem dL_give_4 : decode cL_give 4 = .ok (.iload_n 2, 1) := by decide +kernel
theorem dL_give_5 : decode cL_give 5 = .ok (.invokevirtual 20, 3) := by decide +kernel
theorem dL_give_8 : decode cL_give 8 = .ok (.i2l, 1) := by decide +kernel
theorem dL_give_9 : decode cL_give 9 = .ok (.lastore, 1) := by decide +kernel
theorem dL_give_10 : decode cL_give 10 = .ok (.goto 11, 3) := by decide +kernel
theorem dL_give_13 : decode cL_give 13 = .ok (.astore 4, 2) := by decide +kernel
theorem dL_give_15 : decode cL_give 15 = .ok (.iconst 1, 1) := by decide +kernel
theorem dL_give_16 : decode cL_give 16 = .ok (.ireturn, 1) := by decide +kernel
theorem dL_give_17 : decode cL_give 17 = .ok (.astore 4, 2) := by decide +kernel
theorem dL_give_19 : decode cL_give 19 = .ok (.iconst 2, 1) := by decide +kernel
theorem dL_give_20 : decode cL_give 20 = .ok (.ireturn, 1) := by decide +kernel
theorem dL_give_21 : decode cL_give 21 = .ok (.iconst 0, 1) := by decide +kernel
theorem dL_give_22 : decode cL_give 22 = .ok (.ireturn, 1) := by decide +kernel
set_option maxRecDepth 20000 in
theorem ggL_tune_X4_tune : GoodIn wsL_tune wsX4_tune := goodIn_ca (goodIn_ca (goodIn_r _ [7, 8, 9, 10, 11, 12, 6, 13, 14, 15, 16, 17, 18, 19, 20, 21, 22, 23, 24, 25, 26, 27, 28, 29, 30, 31, 32, 33, 34, 35, 36, 37, 38, 39, 40, 41, 42, 43, 44, 45, 46, 47, 48, 49, 50] (by decide +kernel) (by decide +kernel)) (goodIn_sub (fun _ h => List.mem_cons_of_mem _ (List.mem_append_left _ (List.mem_append_right _ h))) (by decide +kernel))) (goodIn_sub (fun _ h => List.mem_cons_of_mem _ (List.mem_append_right _ h)) (by decide +kernel))
set_option maxRecDepth 20000 in
theorem gL_tune_X4_tune : GoodIn wsL_tune (wsV RL 25 RX4 yX4_tune wsX4_tune) := goodIn_app (goodIn_of _ (by decide +kernel)) ggL_tune_X4_tune
theorem dL_tune_0 : decode cL_tune 0 = .ok (.aload 4, 2) := by decide +kernel
theorem dL_tune_2 : decode cL_tune 2 = .ok (.iconst 0, 1) := by decide +kernel
theorem dL_tune_3 : decode cL_tune 3 = .ok (.aload_n 0, 1) := by decide +kernel
theorem dL_tune_4 : decode cL_tune 4 = .ok (.iload_n 1, 1) := by decide +kernel
theorem dL_tune_5 : decode cL_tune 5 = .ok (.iload_n 2, 1) := by decide +kernel
theorem dL_tune_6 : decode cL_tune 6 = .ok (.iload_n 3, 1) := by decide +kernel
theorem dL_tune_7 : decode cL_tune 7 = .ok (.invokevirtual 25, 3) := by decide +kernel
theorem dL_tune_10 : decode cL_tune 10 = .ok (.i2l, 1) := by decide +kernel
theorem dL_tune_11 : decode cL_tune 11 = .ok (.lastore, 1) := by decide +kernel
theorem dL_tune_12 : decode cL_tune 12 = .ok (.goto 11, 3) := by decide +kernel
theorem dL_tune_15 : decode cL_tune 15 = .ok (.astore 5, 2) := by decide +kernel
theorem dL_tune_17 : decode cL_tune 17 = .ok (.iconst 1, 1) := by decide +kernel
theorem dL_tune_18 : decode cL_tune 18 = .ok (.ireturn, 1) := by decide +kernel
theorem dL_tune_19 : decode cL_tune 19 = .ok (.astore 5, 2) := by decide +kernel
theorem dL_tune_21 : decode cL_tune 21 = .ok (.iconst 2, 1) := by decide +kernel
theorem dL_tune_22 : decode cL_tune 22 = .ok (.ireturn, 1) := by decide +kernel
theorem dL_tune_23 : decode cL_tune 23 = .ok (.iconst 0, 1) := by decide +kernel
theorem dL_tune_24 : decode cL_tune 24 = .ok (.ireturn, 1) := by decide +kernel
set_option maxRecDepth 20000 in
theorem ggL_string_X4_string : GoodIn wsL_string wsX4_string := goodIn_ca (goodIn_r _ [6, 7, 8, 9, 10, 5, 11, 12, 13, 14, 15, 16, 17, 18, 19, 20, 21, 22, 23, 24, 25, 26, 27, 28, 29, 30, 31, 32, 33, 34, 35, 36, 37, 38, 39, 40, 41, 42, 43] (by decide +kernel) (by decide +kernel)) (goodIn_sub (fun _ h => List.mem_cons_of_mem _ (List.mem_append_right _ h)) (by decide +kernel))
set_option maxRecDepth 20000 in
theorem gL_string_X4_string : GoodIn wsL_string (wsV RL 29 RX4 yX4_string wsX4_string) := goodIn_app (goodIn_of _ (by decide +kernel)) ggL_string_X4_string
theorem dL_string_0 : decode cL_string 0 = .ok (.aload_n 2, 1) := by decide +kernel
theorem dL_string_1 : decode cL_string 1 = .ok (.iconst 0, 1) := by decide +kernel
theorem dL_string_2 : decode cL_string 2 = .ok (.aload_n 0, 1) := by decide +kernel
theorem dL_string_3 : decode cL_string 3 = .ok (.iload_n 1, 1) := by decide +kernel
theorem dL_string_4 : decode cL_string 4 = .ok (.invokevirtual 29, 3) := by decide +kernel
theorem dL_string_7 : decode cL_string 7 = .ok (.dastore, 1) := by decide +kernel
theorem dL_string_8 : decode cL_string 8 = .ok (.goto 6, 3) := by decide +kernel
theorem dL_string_11 : decode cL_string 11 = .ok (.astore_n 3, 1) := by decide +kernel
theorem dL_string_12 : decode cL_string 12 = .ok (.iconst 1, 1) := by decide +kernel
theorem dL_string_13 : decode cL_string 13 = .ok (.ireturn, 1) := by decide +kernel
theorem dL_string_14 : decode cL_string 14 = .ok (.iconst 0, 1) := by decide +kernel
theorem dL_string_15 : decode cL_string 15 = .ok (.ireturn, 1) := by decide +kernel
set_option maxRecDepth 20000 in
theorem ggL_field_X4_field : GoodIn wsL_field wsX4_field := goodIn_ca (goodIn_ca (goodIn_r _ [7, 8, 9, 10, 11, 12, 13, 14, 6, 15, 16, 17, 18, 19, 20, 21, 22, 23, 24, 25, 26, 27, 28, 29, 30, 31, 32, 33, 34, 35, 36, 37, 38, 39, 40, 41, 42, 43, 44, 45, 46, 47, 48, 49, 50, 51, 52, 53, 54, 55, 56, 57] (by decide +kernel) (by decide +kernel)) (goodIn_sub (fun _ h => List.mem_cons_of_mem _ (List.mem_append_left _ (List.mem_append_right _ h))) (by decide +kernel))) (goodIn_sub (fun _ h => List.mem_cons_of_mem _ (List.mem_append_right _ h)) (by decide +kernel))
set_option maxRecDepth 20000 in
theorem gL_field_X4_field : GoodIn wsL_field (wsV RL 33 RX4 yX4_field wsX4_field) := goodIn_app (goodIn_of _ (by decide +kernel)) ggL_field_X4_field
theorem dL_field_0 : decode cL_field 0 = .ok (.aload 4, 2) := by decide +kernel
theorem dL_field_2 : decode cL_field 2 = .ok (.iconst 0, 1) := by decide +kernel
theorem dL_field_3 : decode cL_field 3 = .ok (.aload_n 0, 1) := by decide +kernel
theorem dL_field_4 : decode cL_field 4 = .ok (.iload_n 1, 1) := by decide +kernel
theorem dL_field_5 : decode cL_field 5 = .ok (.iload_n 2, 1) := by decide +kernel
theorem dL_field_6 : decode cL_field 6 = .ok (.iload_n 3, 1) := by decide +kernel
theorem dL_field_7 : decode cL_field 7 = .ok (.invokevirtual 33, 3) := by decide +kernel
theorem dL_field_10 : decode cL_field 10 = .ok (.i2l, 1) := by decide +kernel
theorem dL_field_11 : decode cL_field 11 = .ok (.lastore, 1) := by decide +kernel
theorem dL_field_12 : decode cL_field 12 = .ok (.goto 11, 3) := by decide +kernel
theorem dL_field_15 : decode cL_field 15 = .ok (.astore 5, 2) := by decide +kernel
theorem dL_field_17 : decode cL_field 17 = .ok (.iconst 1, 1) := by decide +kernel
theorem dL_field_18 : decode cL_field 18 = .ok (.ireturn, 1) := by decide +kernel
theorem dL_field_19 : decode cL_field 19 = .ok (.astore 5, 2) := by decide +kernel
theorem dL_field_21 : decode cL_field 21 = .ok (.iconst 2, 1) := by decide +kernel
theorem dL_field_22 : decode cL_field 22 = .ok (.ireturn, 1) := by decide +kernel
theorem dL_field_23 : decode cL_field 23 = .ok (.iconst 0, 1) := by decide +kernel
theorem dL_field_24 : decode cL_field 24 = .ok (.ireturn, 1) := by decide +kernel
set_option maxRecDepth 20000 in
theorem ggL_wind_X4_wind : GoodIn wsL_wind wsX4_wind := goodIn_ca (goodIn_r _ [6, 7, 8, 9, 5, 10, 11, 12, 13, 14, 15, 16, 17, 18, 19, 20, 21, 22, 23, 24, 25, 26, 27, 28] (by decide +kernel) (by decide +kernel)) (goodIn_sub (fun _ h => List.mem_cons_of_mem _ (List.mem_append_right _ h)) (by decide +kernel))
set_option maxRecDepth 20000 in
theorem gL_wind_X4_wind : GoodIn wsL_wind (wsV RL 36 RX4 yX4_wind wsX4_wind) := goodIn_app (goodIn_of _ (by decide +kernel)) ggL_wind_X4_wind
theorem dL_wind_0 : decode cL_wind 0 = .ok (.aload_n 2, 1) := by decide +kernel
theorem dL_wind_1 : decode cL_wind 1 = .ok (.iconst 0, 1) := by decide +kernel
theorem dL_wind_2 : decode cL_wind 2 = .ok (.aload_n 0, 1) := by decide +kernel
theorem dL_wind_3 : decode cL_wind 3 = .ok (.iload_n 1, 1) := by decide +kernel
theorem dL_wind_4 : decode cL_wind 4 = .ok (.invokevirtual 36, 3) := by decide +kernel
theorem dL_wind_7 : decode cL_wind 7 = .ok (.i2l, 1) := by decide +kernel
theorem dL_wind_8 : decode cL_wind 8 = .ok (.lastore, 1) := by decide +kernel
theorem dL_wind_9 : decode cL_wind 9 = .ok (.goto 6, 3) := by decide +kernel
theorem dL_wind_12 : decode cL_wind 12 = .ok (.astore_n 3, 1) := by decide +kernel
theorem dL_wind_13 : decode cL_wind 13 = .ok (.iconst 1, 1) := by decide +kernel
theorem dL_wind_14 : decode cL_wind 14 = .ok (.ireturn, 1) := by decide +kernel
theorem dL_wind_15 : decode cL_wind 15 = .ok (.iconst 0, 1) := by decide +kernel
theorem dL_wind_16 : decode cL_wind 16 = .ok (.ireturn, 1) := by decide +kernel
set_option maxRecDepth 20000 in
theorem ggL_shoot_X4_shoot : GoodIn wsL_shoot wsX4_shoot := goodIn_ca (goodIn_ca (goodIn_r _ [7, 8, 9, 10, 11, 12, 13, 14, 15, 16, 17, 18, 19, 20, 21, 22, 23, 24, 6, 25, 26, 27, 28, 29, 30, 31, 32, 33, 34, 35, 36, 37, 38, 39, 40, 41, 42, 43, 44, 45, 46, 47, 48, 49, 50, 51, 52, 53, 54, 55, 56, 57, 58, 59, 60, 61, 62, 63, 64, 65, 66, 67, 68, 69, 70, 71, 72, 73, 74, 75, 76, 77, 78, 79, 80, 81, 82, 83, 84, 85, 86, 87, 88, 89, 90, 91, 92, 93, 94, 95, 96, 97, 98, 99, 100, 101, 102, 103, 104, 105, 106, 107, 108, 109, 110, 111, 112, 113, 114, 115, 116, 117, 118, 119, 120, 121, 122, 123, 124, 125, 126, 127, 128, 129, 130, 131, 132, 133, 134, 135, 136, 137, 138, 139, 140, 141, 142, 143, 144, 145, 146, 147, 148, 149, 150, 151, 152, 153, 154, 155, 156, 157, 158, 159, 160, 161, 162, 163, 164, 165, 166, 167, 168, 169, 170, 171, 172, 173, 174, 175, 176, 177, 178, 179, 180, 181, 182, 183, 184, 185, 186, 187, 188, 189, 190, 191, 192, 193, 194, 195, 196, 197, 198, 199, 200, 201, 202] (by decide +kernel) (by decide +kernel)) (goodIn_sub (fun _ h => List.mem_cons_of_mem _ (List.mem_append_left _ (List.mem_append_right _ h))) (by decide +kernel))) (goodIn_sub (fun _ h => List.mem_cons_of_mem _ (List.mem_append_right _ h)) (by decide +kernel))
set_option maxRecDepth 20000 in
theorem gL_shoot_X4_shoot : GoodIn wsL_shoot (wsV RL 40 RX4 yX4_shoot wsX4_shoot) := goodIn_app (goodIn_of _ (by decide +kernel)) ggL_shoot_X4_shoot
theorem dL_shoot_0 : decode cL_shoot 0 = .ok (.aload_n 3, 1) := by decide +kernel
theorem dL_shoot_1 : decode cL_shoot 1 = .ok (.iconst 0, 1) := by decide +kernel
theorem dL_shoot_2 : decode cL_shoot 2 = .ok (.aload_n 0, 1) := by decide +kernel
theorem dL_shoot_3 : decode cL_shoot 3 = .ok (.iload_n 1, 1) := by decide +kernel
theorem dL_shoot_4 : decode cL_shoot 4 = .ok (.iload_n 2, 1) := by decide +kernel
theorem dL_shoot_5 : decode cL_shoot 5 = .ok (.invokevirtual 40, 3) := by decide +kernel
theorem dL_shoot_8 : decode cL_shoot 8 = .ok (.i2l, 1) := by decide +kernel
theorem dL_shoot_9 : decode cL_shoot 9 = .ok (.lastore, 1) := by decide +kernel
theorem dL_shoot_10 : decode cL_shoot 10 = .ok (.goto 11, 3) := by decide +kernel
theorem dL_shoot_13 : decode cL_shoot 13 = .ok (.astore 4, 2) := by decide +kernel
theorem dL_shoot_15 : decode cL_shoot 15 = .ok (.iconst 1, 1) := by decide +kernel
theorem dL_shoot_16 : decode cL_shoot 16 = .ok (.ireturn, 1) := by decide +kernel
theorem dL_shoot_17 : decode cL_shoot 17 = .ok (.astore 4, 2) := by decide +kernel
theorem dL_shoot_19 : decode cL_shoot 19 = .ok (.iconst 2, 1) := by decide +kernel
theorem dL_shoot_20 : decode cL_shoot 20 = .ok (.ireturn, 1) := by decide +kernel
theorem dL_shoot_21 : decode cL_shoot 21 = .ok (.iconst 0, 1) := by decide +kernel
theorem dL_shoot_22 : decode cL_shoot 22 = .ok (.ireturn, 1) := by decide +kernel
set_option maxRecDepth 20000 in
theorem ggL_mend_X4_mend : GoodIn wsL_mend wsX4_mend := goodIn_ca (goodIn_r _ [6, 7, 8, 9, 10, 5, 11, 12, 13, 14, 15, 16, 17, 18, 19, 20, 21, 22, 23, 24, 25, 26, 27, 28, 29, 30, 31, 32, 33, 34, 35, 36, 37, 38, 39, 40, 41] (by decide +kernel) (by decide +kernel)) (goodIn_sub (fun _ h => List.mem_cons_of_mem _ (List.mem_append_right _ h)) (by decide +kernel))
set_option maxRecDepth 20000 in
theorem gL_mend_X4_mend : GoodIn wsL_mend (wsV RL 43 RX4 yX4_mend wsX4_mend) := goodIn_app (goodIn_of _ (by decide +kernel)) ggL_mend_X4_mend
theorem dL_mend_0 : decode cL_mend 0 = .ok (.aload_n 2, 1) := by decide +kernel
theorem dL_mend_1 : decode cL_mend 1 = .ok (.iconst 0, 1) := by decide +kernel
theorem dL_mend_2 : decode cL_mend 2 = .ok (.aload_n 0, 1) := by decide +kernel
theorem dL_mend_3 : decode cL_mend 3 = .ok (.iload_n 1, 1) := by decide +kernel
theorem dL_mend_4 : decode cL_mend 4 = .ok (.invokevirtual 43, 3) := by decide +kernel
theorem dL_mend_7 : decode cL_mend 7 = .ok (.i2l, 1) := by decide +kernel
theorem dL_mend_8 : decode cL_mend 8 = .ok (.lastore, 1) := by decide +kernel
theorem dL_mend_9 : decode cL_mend 9 = .ok (.goto 6, 3) := by decide +kernel
theorem dL_mend_12 : decode cL_mend 12 = .ok (.astore_n 3, 1) := by decide +kernel
theorem dL_mend_13 : decode cL_mend 13 = .ok (.iconst 1, 1) := by decide +kernel
theorem dL_mend_14 : decode cL_mend 14 = .ok (.ireturn, 1) := by decide +kernel
theorem dL_mend_15 : decode cL_mend 15 = .ok (.iconst 0, 1) := by decide +kernel
theorem dL_mend_16 : decode cL_mend 16 = .ok (.ireturn, 1) := by decide +kernel
set_option maxRecDepth 20000 in
theorem ggL_match_X4_match : GoodIn wsL_match wsX4_match := goodIn_ca (goodIn_ca (goodIn_ca (goodIn_r _ [8, 9, 10, 11, 12, 13, 14, 15, 16, 17, 18, 19, 7, 20, 21, 22, 23, 24, 25, 26, 27, 28, 29, 30, 31, 32, 33, 34, 35, 36, 37, 38, 39, 40, 41, 42, 43, 44, 45, 46, 47, 48, 49, 50, 51, 52, 53, 54, 55, 56, 57, 58, 59, 60, 61, 62, 63, 64, 65, 66, 67, 68, 69, 70, 71, 72, 73, 74, 75, 76, 77, 78, 79, 80] (by decide +kernel) (by decide +kernel)) (goodIn_sub (fun _ h => List.mem_cons_of_mem _ (List.mem_append_left _ (List.mem_append_left _ (List.mem_append_right _ h)))) (by decide +kernel))) (goodIn_sub (fun _ h => List.mem_cons_of_mem _ (List.mem_append_left _ (List.mem_append_right _ h))) (by decide +kernel))) (goodIn_sub (fun _ h => List.mem_cons_of_mem _ (List.mem_append_right _ h)) (by decide +kernel))
set_option maxRecDepth 20000 in
theorem gL_match_X4_match : GoodIn wsL_match (wsV RL 46 RX4 yX4_match wsX4_match) := goodIn_app (goodIn_of _ (by decide +kernel)) ggL_match_X4_match
theorem dL_match_0 : decode cL_match 0 = .ok (.aload_n 3, 1) := by decide +kernel
theorem dL_match_1 : decode cL_match 1 = .ok (.iconst 0, 1) := by decide +kernel
theorem dL_match_2 : decode cL_match 2 = .ok (.aload_n 0, 1) := by decide +kernel
theorem dL_match_3 : decode cL_match 3 = .ok (.iload_n 1, 1) := by decide +kernel
theorem dL_match_4 : decode cL_match 4 = .ok (.iload_n 2, 1) := by decide +kernel
theorem dL_match_5 : decode cL_match 5 = .ok (.invokevirtual 46, 3) := by decide +kernel
theorem dL_match_8 : decode cL_match 8 = .ok (.i2l, 1) := by decide +kernel
theorem dL_match_9 : decode cL_match 9 = .ok (.lastore, 1) := by decide +kernel
theorem dL_match_10 : decode cL_match 10 = .ok (.goto 15, 3) := by decide +kernel
theorem dL_match_13 : decode cL_match 13 = .ok (.astore 4, 2) := by decide +kernel
theorem dL_match_15 : decode cL_match 15 = .ok (.iconst 1, 1) := by decide +kernel
theorem dL_match_16 : decode cL_match 16 = .ok (.ireturn, 1) := by decide +kernel
theorem dL_match_17 : decode cL_match 17 = .ok (.astore 4, 2) := by decide +kernel
theorem dL_match_19 : decode cL_match 19 = .ok (.iconst 2, 1) := by decide +kernel
theorem dL_match_20 : decode cL_match 20 = .ok (.ireturn, 1) := by decide +kernel
theorem dL_match_21 : decode cL_match 21 = .ok (.astore 4, 2) := by decide +kernel
theorem dL_match_23 : decode cL_match 23 = .ok (.iconst 3, 1) := by decide +kernel
theorem dL_match_24 : decode cL_match 24 = .ok (.ireturn, 1) := by decide +kernel
theorem dL_match_25 : decode cL_match 25 = .ok (.iconst 0, 1) := by decide +kernel
theorem dL_match_26 : decode cL_match 26 = .ok (.ireturn, 1) := by decide +kernel
set_option maxRecDepth 20000 in
theorem ggL_breakOff_X4_breakOff : GoodIn wsL_breakOff wsX4_breakOff := goodIn_ca (goodIn_r _ [6, 7, 8, 9, 10, 11, 12, 13, 14, 15, 16, 17, 18, 19, 20, 21, 22, 23, 24, 25, 26, 27, 28, 29, 30, 31, 32, 33, 34, 35, 36, 37, 38] (by decide +kernel) (by decide +kernel)) (goodIn_sub (fun _ h => List.mem_cons_of_mem _ (List.mem_append_right _ h)) (by decide +kernel))
set_option maxRecDepth 20000 in
theorem gL_breakOff_X4_breakOff : GoodIn wsL_breakOff (wsV RL 49 RX4 yX4_breakOff wsX4_breakOff) := goodIn_app (goodIn_of _ (by decide +kernel)) ggL_breakOff_X4_breakOff
theorem dL_breakOff_0 : decode cL_breakOff 0 = .ok (.aload_n 1, 1) := by decide +kernel
theorem dL_breakOff_1 : decode cL_breakOff 1 = .ok (.iconst 0, 1) := by decide +kernel
theorem dL_breakOff_2 : decode cL_breakOff 2 = .ok (.aload_n 0, 1) := by decide +kernel
theorem dL_breakOff_3 : decode cL_breakOff 3 = .ok (.invokevirtual 49, 3) := by decide +kernel
theorem dL_breakOff_6 : decode cL_breakOff 6 = .ok (.i2l, 1) := by decide +kernel
theorem dL_breakOff_7 : decode cL_breakOff 7 = .ok (.lastore, 1) := by decide +kernel
theorem dL_breakOff_8 : decode cL_breakOff 8 = .ok (.goto 6, 3) := by decide +kernel
theorem dL_breakOff_11 : decode cL_breakOff 11 = .ok (.astore_n 2, 1) := by decide +kernel
theorem dL_breakOff_12 : decode cL_breakOff 12 = .ok (.iconst 1, 1) := by decide +kernel
theorem dL_breakOff_13 : decode cL_breakOff 13 = .ok (.ireturn, 1) := by decide +kernel
theorem dL_breakOff_14 : decode cL_breakOff 14 = .ok (.iconst 0, 1) := by decide +kernel
theorem dL_breakOff_15 : decode cL_breakOff 15 = .ok (.ireturn, 1) := by decide +kernel
set_option maxRecDepth 20000 in
theorem ggL_ofArcher_X4_ofArcher : GoodIn wsL_ofArcher wsX4_ofArcher := goodIn_ca (goodIn_ca (goodIn_r _ [7, 8, 9, 10, 11, 12, 13, 14, 15, 16, 17, 18, 19, 20, 21, 6, 22, 23, 24, 25, 26, 27, 28, 29, 30, 31, 32, 33, 34, 35, 36, 37, 38, 39, 40, 41, 42, 43, 44, 45, 46, 47, 48, 49, 50, 51, 52, 53, 54, 55, 56, 57, 58, 59] (by decide +kernel) (by decide +kernel)) (goodIn_sub (fun _ h => List.mem_cons_of_mem _ (List.mem_append_left _ (List.mem_append_right _ h))) (by decide +kernel))) (goodIn_sub (fun _ h => List.mem_cons_of_mem _ (List.mem_append_right _ h)) (by decide +kernel))
set_option maxRecDepth 20000 in
theorem gL_ofArcher_X4_ofArcher : GoodIn wsL_ofArcher (wsV RL 53 RX4 yX4_ofArcher wsX4_ofArcher) := goodIn_app (goodIn_of _ (by decide +kernel)) ggL_ofArcher_X4_ofArcher
theorem dL_ofArcher_0 : decode cL_ofArcher 0 = .ok (.aload_n 3, 1) := by decide +kernel
theorem dL_ofArcher_1 : decode cL_ofArcher 1 = .ok (.iconst 0, 1) := by decide +kernel
theorem dL_ofArcher_2 : decode cL_ofArcher 2 = .ok (.aload_n 0, 1) := by decide +kernel
theorem dL_ofArcher_3 : decode cL_ofArcher 3 = .ok (.iload_n 1, 1) := by decide +kernel
theorem dL_ofArcher_4 : decode cL_ofArcher 4 = .ok (.iload_n 2, 1) := by decide +kernel
theorem dL_ofArcher_5 : decode cL_ofArcher 5 = .ok (.invokevirtual 53, 3) := by decide +kernel
theorem dL_ofArcher_8 : decode cL_ofArcher 8 = .ok (.i2l, 1) := by decide +kernel
theorem dL_ofArcher_9 : decode cL_ofArcher 9 = .ok (.lastore, 1) := by decide +kernel
theorem dL_ofArcher_10 : decode cL_ofArcher 10 = .ok (.goto 11, 3) := by decide +kernel
theorem dL_ofArcher_13 : decode cL_ofArcher 13 = .ok (.astore 4, 2) := by decide +kernel
theorem dL_ofArcher_15 : decode cL_ofArcher 15 = .ok (.iconst 1, 1) := by decide +kernel
theorem dL_ofArcher_16 : decode cL_ofArcher 16 = .ok (.ireturn, 1) := by decide +kernel
theorem dL_ofArcher_17 : decode cL_ofArcher 17 = .ok (.astore 4, 2) := by decide +kernel
theorem dL_ofArcher_19 : decode cL_ofArcher 19 = .ok (.iconst 2, 1) := by decide +kernel
theorem dL_ofArcher_20 : decode cL_ofArcher 20 = .ok (.ireturn, 1) := by decide +kernel
theorem dL_ofArcher_21 : decode cL_ofArcher 21 = .ok (.iconst 0, 1) := by decide +kernel
theorem dL_ofArcher_22 : decode cL_ofArcher 22 = .ok (.ireturn, 1) := by decide +kernel
set_option maxRecDepth 20000 in
theorem ggL_speed_X4_speed : GoodIn wsL_speed wsX4_speed := goodIn_ca (goodIn_r _ [6, 7, 8, 9, 10, 11, 5, 12, 13, 14, 15, 16, 17, 18, 19, 20, 21, 22, 23, 24, 25, 26, 27, 28, 29, 30, 31, 32, 33, 34, 35, 36, 37, 38, 39, 40, 41, 42, 43, 44, 45, 46, 47, 48, 49, 50, 51, 52, 53, 54, 55, 56, 57, 58, 59] (by decide +kernel) (by decide +kernel)) (goodIn_sub (fun _ h => List.mem_cons_of_mem _ (List.mem_append_right _ h)) (by decide +kernel))
set_option maxRecDepth 20000 in
theorem gL_speed_X4_speed : GoodIn wsL_speed (wsV RL 56 RX4 yX4_speed wsX4_speed) := goodIn_app (goodIn_of _ (by decide +kernel)) ggL_speed_X4_speed
theorem dL_speed_0 : decode cL_speed 0 = .ok (.aload_n 2, 1) := by decide +kernel
theorem dL_speed_1 : decode cL_speed 1 = .ok (.iconst 0, 1) := by decide +kernel
theorem dL_speed_2 : decode cL_speed 2 = .ok (.aload_n 0, 1) := by decide +kernel
theorem dL_speed_3 : decode cL_speed 3 = .ok (.iload_n 1, 1) := by decide +kernel
theorem dL_speed_4 : decode cL_speed 4 = .ok (.invokevirtual 56, 3) := by decide +kernel
theorem dL_speed_7 : decode cL_speed 7 = .ok (.dastore, 1) := by decide +kernel
theorem dL_speed_8 : decode cL_speed 8 = .ok (.goto 6, 3) := by decide +kernel
theorem dL_speed_11 : decode cL_speed 11 = .ok (.astore_n 3, 1) := by decide +kernel
theorem dL_speed_12 : decode cL_speed 12 = .ok (.iconst 1, 1) := by decide +kernel
theorem dL_speed_13 : decode cL_speed 13 = .ok (.ireturn, 1) := by decide +kernel
theorem dL_speed_14 : decode cL_speed 14 = .ok (.iconst 0, 1) := by decide +kernel
theorem dL_speed_15 : decode cL_speed 15 = .ok (.ireturn, 1) := by decide +kernel
set_option maxRecDepth 20000 in
theorem ggL_ofQuiver_X4_ofQuiver : GoodIn wsL_ofQuiver wsX4_ofQuiver := goodIn_ca (goodIn_ca (goodIn_r _ [7, 8, 9, 10, 11, 12, 13, 6, 14, 15, 16, 17, 18, 19, 20, 21, 22, 23, 24, 25, 26, 27, 28, 29, 30, 31, 32, 33, 34, 35, 36, 37, 38, 39, 40, 41, 42, 43, 44, 45, 46, 47, 48, 49, 50, 51, 52, 53, 54, 55, 56, 57, 58, 59, 60, 61, 62, 63, 64, 65, 66, 67, 68] (by decide +kernel) (by decide +kernel)) (goodIn_sub (fun _ h => List.mem_cons_of_mem _ (List.mem_append_left _ (List.mem_append_right _ h))) (by decide +kernel))) (goodIn_sub (fun _ h => List.mem_cons_of_mem _ (List.mem_append_right _ h)) (by decide +kernel))
set_option maxRecDepth 20000 in
theorem gL_ofQuiver_X4_ofQuiver : GoodIn wsL_ofQuiver (wsV RL 59 RX4 yX4_ofQuiver wsX4_ofQuiver) := goodIn_app (goodIn_of _ (by decide +kernel)) ggL_ofQuiver_X4_ofQuiver
theorem dL_ofQuiver_0 : decode cL_ofQuiver 0 = .ok (.aload_n 3, 1) := by decide +kernel
theorem dL_ofQuiver_1 : decode cL_ofQuiver 1 = .ok (.iconst 0, 1) := by decide +kernel
theorem dL_ofQuiver_2 : decode cL_ofQuiver 2 = .ok (.aload_n 0, 1) := by decide +kernel
theorem dL_ofQuiver_3 : decode cL_ofQuiver 3 = .ok (.iload_n 1, 1) := by decide +kernel
theorem dL_ofQuiver_4 : decode cL_ofQuiver 4 = .ok (.iload_n 2, 1) := by decide +kernel
theorem dL_ofQuiver_5 : decode cL_ofQuiver 5 = .ok (.invokevirtual 59, 3) := by decide +kernel
theorem dL_ofQuiver_8 : decode cL_ofQuiver 8 = .ok (.i2l, 1) := by decide +kernel
theorem dL_ofQuiver_9 : decode cL_ofQuiver 9 = .ok (.lastore, 1) := by decide +kernel
theorem dL_ofQuiver_10 : decode cL_ofQuiver 10 = .ok (.goto 11, 3) := by decide +kernel
theorem dL_ofQuiver_13 : decode cL_ofQuiver 13 = .ok (.astore 4, 2) := by decide +kernel
theorem dL_ofQuiver_15 : decode cL_ofQuiver 15 = .ok (.iconst 1, 1) := by decide +kernel
theorem dL_ofQuiver_16 : decode cL_ofQuiver 16 = .ok (.ireturn, 1) := by decide +kernel
theorem dL_ofQuiver_17 : decode cL_ofQuiver 17 = .ok (.astore 4, 2) := by decide +kernel
theorem dL_ofQuiver_19 : decode cL_ofQuiver 19 = .ok (.iconst 2, 1) := by decide +kernel
theorem dL_ofQuiver_20 : decode cL_ofQuiver 20 = .ok (.ireturn, 1) := by decide +kernel
theorem dL_ofQuiver_21 : decode cL_ofQuiver 21 = .ok (.iconst 0, 1) := by decide +kernel
theorem dL_ofQuiver_22 : decode cL_ofQuiver 22 = .ok (.ireturn, 1) := by decide +kernel
set_option maxRecDepth 20000 in
theorem ggL_hit_X4_hit : GoodIn wsL_hit wsX4_hit := goodIn_ca (goodIn_r _ [6, 7, 8, 9, 10, 11, 12, 5, 13, 14, 15, 16, 17, 18, 19, 20, 21, 22, 23, 24, 25, 26, 27, 28, 29, 30, 31, 32, 33, 34, 35, 36, 37, 38, 39, 40] (by decide +kernel) (by decide +kernel)) (goodIn_sub (fun _ h => List.mem_cons_of_mem _ (List.mem_append_right _ h)) (by decide +kernel))
set_option maxRecDepth 20000 in
theorem gL_hit_X4_hit : GoodIn wsL_hit (wsV RL 62 RX4 yX4_hit wsX4_hit) := goodIn_app (goodIn_of _ (by decide +kernel)) ggL_hit_X4_hit
theorem dL_hit_0 : decode cL_hit 0 = .ok (.aload 4, 2) := by decide +kernel
theorem dL_hit_2 : decode cL_hit 2 = .ok (.iconst 0, 1) := by decide +kernel
theorem dL_hit_3 : decode cL_hit 3 = .ok (.aload_n 0, 1) := by decide +kernel
theorem dL_hit_4 : decode cL_hit 4 = .ok (.iload_n 1, 1) := by decide +kernel
theorem dL_hit_5 : decode cL_hit 5 = .ok (.iload_n 2, 1) := by decide +kernel
theorem dL_hit_6 : decode cL_hit 6 = .ok (.iload_n 3, 1) := by decide +kernel
theorem dL_hit_7 : decode cL_hit 7 = .ok (.invokevirtual 62, 3) := by decide +kernel
theorem dL_hit_10 : decode cL_hit 10 = .ok (.dastore, 1) := by decide +kernel
theorem dL_hit_11 : decode cL_hit 11 = .ok (.goto 7, 3) := by decide +kernel
theorem dL_hit_14 : decode cL_hit 14 = .ok (.astore 5, 2) := by decide +kernel
theorem dL_hit_16 : decode cL_hit 16 = .ok (.iconst 1, 1) := by decide +kernel
theorem dL_hit_17 : decode cL_hit 17 = .ok (.ireturn, 1) := by decide +kernel
theorem dL_hit_18 : decode cL_hit 18 = .ok (.iconst 0, 1) := by decide +kernel
theorem dL_hit_19 : decode cL_hit 19 = .ok (.ireturn, 1) := by decide +kernel
set_option maxRecDepth 20000 in
theorem ggL_many_X4_many : GoodIn wsL_many wsX4_many := goodIn_ca (goodIn_r _ [6, 7, 8, 9, 10, 11, 12, 13, 14, 15, 16, 17, 18, 19, 5, 20, 21, 22, 23, 24, 25, 26, 27, 28, 29, 30, 31, 32, 33, 34, 35, 36, 37, 38, 39, 40, 41, 42, 43, 44, 45, 46, 47, 48, 49, 50, 51, 52, 53, 54, 55, 56, 57, 58, 59, 60, 61] (by decide +kernel) (by decide +kernel)) (goodIn_sub (fun _ h => List.mem_cons_of_mem _ (List.mem_append_right _ h)) (by decide +kernel))
set_option maxRecDepth 20000 in
theorem gL_many_X4_many : GoodIn wsL_many (wsV RL 66 RX4 yX4_many wsX4_many) := goodIn_app (goodIn_of _ (by decide +kernel)) ggL_many_X4_many
theorem dL_many_0 : decode cL_many 0 = .ok (.aload_n 2, 1) := by decide +kernel
theorem dL_many_1 : decode cL_many 1 = .ok (.iconst 0, 1) := by decide +kernel
theorem dL_many_2 : decode cL_many 2 = .ok (.aload_n 0, 1) := by decide +kernel
theorem dL_many_3 : decode cL_many 3 = .ok (.iload_n 1, 1) := by decide +kernel
theorem dL_many_4 : decode cL_many 4 = .ok (.invokevirtual 66, 3) := by decide +kernel
theorem dL_many_7 : decode cL_many 7 = .ok (.i2l, 1) := by decide +kernel
theorem dL_many_8 : decode cL_many 8 = .ok (.lastore, 1) := by decide +kernel
theorem dL_many_9 : decode cL_many 9 = .ok (.goto 6, 3) := by decide +kernel
theorem dL_many_12 : decode cL_many 12 = .ok (.astore_n 3, 1) := by decide +kernel
theorem dL_many_13 : decode cL_many 13 = .ok (.iconst 1, 1) := by decide +kernel
theorem dL_many_14 : decode cL_many 14 = .ok (.ireturn, 1) := by decide +kernel
theorem dL_many_15 : decode cL_many 15 = .ok (.iconst 0, 1) := by decide +kernel
theorem dL_many_16 : decode cL_many 16 = .ok (.ireturn, 1) := by decide +kernel
set_option maxRecDepth 20000 in
theorem ggL_ofMatch_X4_ofMatch : GoodIn wsL_ofMatch wsX4_ofMatch := goodIn_ca (goodIn_r _ [6, 7, 8, 9, 10, 11, 12, 13, 14, 15, 16, 17, 5, 18, 19, 20, 21, 22, 23, 24, 25, 26, 27, 28, 29, 30, 31, 32, 33, 34, 35, 36, 37, 38, 39, 40, 41, 42, 43, 44, 45, 46, 47, 48, 49, 50, 51, 52, 53, 54, 55, 56, 57, 58] (by decide +kernel) (by decide +kernel)) (goodIn_sub (fun _ h => List.mem_cons_of_mem _ (List.mem_append_right _ h)) (by decide +kernel))
set_option maxRecDepth 20000 in
theorem gL_ofMatch_X4_ofMatch : GoodIn wsL_ofMatch (wsV RL 69 RX4 yX4_ofMatch wsX4_ofMatch) := goodIn_app (goodIn_of _ (by decide +kernel)) ggL_ofMatch_X4_ofMatch
theorem dL_ofMatch_0 : decode cL_ofMatch 0 = .ok (.aload_n 2, 1) := by decide +kernel
theorem dL_ofMatch_1 : decode cL_ofMatch 1 = .ok (.iconst 0, 1) := by decide +kernel
theorem dL_ofMatch_2 : decode cL_ofMatch 2 = .ok (.aload_n 0, 1) := by decide +kernel
theorem dL_ofMatch_3 : decode cL_ofMatch 3 = .ok (.iload_n 1, 1) := by decide +kernel
theorem dL_ofMatch_4 : decode cL_ofMatch 4 = .ok (.invokevirtual 69, 3) := by decide +kernel
theorem dL_ofMatch_7 : decode cL_ofMatch 7 = .ok (.i2l, 1) := by decide +kernel
theorem dL_ofMatch_8 : decode cL_ofMatch 8 = .ok (.lastore, 1) := by decide +kernel
theorem dL_ofMatch_9 : decode cL_ofMatch 9 = .ok (.goto 6, 3) := by decide +kernel
theorem dL_ofMatch_12 : decode cL_ofMatch 12 = .ok (.astore_n 3, 1) := by decide +kernel
theorem dL_ofMatch_13 : decode cL_ofMatch 13 = .ok (.iconst 1, 1) := by decide +kernel
theorem dL_ofMatch_14 : decode cL_ofMatch 14 = .ok (.ireturn, 1) := by decide +kernel
theorem dL_ofMatch_15 : decode cL_ofMatch 15 = .ok (.iconst 0, 1) := by decide +kernel
theorem dL_ofMatch_16 : decode cL_ofMatch 16 = .ok (.ireturn, 1) := by decide +kernel
set_option maxRecDepth 20000 in
theorem ggL_wouldHit_X4_wouldHit : GoodIn wsL_wouldHit wsX4_wouldHit := goodIn_ca (goodIn_ca (goodIn_ca (goodIn_r _ [8, 9, 10, 11, 12, 13, 14, 15, 16, 7, 17, 18, 19, 20, 21, 22, 23, 24, 25, 26, 27, 28, 29, 30, 31, 32, 33, 34, 35, 36, 37, 38, 39, 40, 41, 42, 43, 44, 45, 46, 47, 48, 49, 50, 51, 52, 53, 54, 55, 56, 57, 58, 59, 60, 61, 62, 63, 64, 65, 66, 67, 68, 69, 70, 71, 72, 73, 74, 75, 76, 77, 78, 79, 80, 81, 82, 83, 84, 85, 86, 87, 88, 89, 90, 91, 92, 93, 94, 95] (by decide +kernel) (by decide +kernel)) (goodIn_sub (fun _ h => List.mem_cons_of_mem _ (List.mem_append_left _ (List.mem_append_left _ (List.mem_append_right _ h)))) (by decide +kernel))) (goodIn_sub (fun _ h => List.mem_cons_of_mem _ (List.mem_append_left _ (List.mem_append_right _ h))) (by decide +kernel))) (goodIn_sub (fun _ h => List.mem_cons_of_mem _ (List.mem_append_right _ h)) (by decide +kernel))
set_option maxRecDepth 20000 in
theorem gL_wouldHit_X4_wouldHit : GoodIn wsL_wouldHit (wsV RL 72 RX4 yX4_wouldHit wsX4_wouldHit) := goodIn_app (goodIn_of _ (by decide +kernel)) ggL_wouldHit_X4_wouldHit
theorem dL_wouldHit_0 : decode cL_wouldHit 0 = .ok (.aload 4, 2) := by decide +kernel
theorem dL_wouldHit_2 : decode cL_wouldHit 2 = .ok (.iconst 0, 1) := by decide +kernel
theorem dL_wouldHit_3 : decode cL_wouldHit 3 = .ok (.aload_n 0, 1) := by decide +kernel
theorem dL_wouldHit_4 : decode cL_wouldHit 4 = .ok (.iload_n 1, 1) := by decide +kernel
theorem dL_wouldHit_5 : decode cL_wouldHit 5 = .ok (.iload_n 2, 1) := by decide +kernel
theorem dL_wouldHit_6 : decode cL_wouldHit 6 = .ok (.iload_n 3, 1) := by decide +kernel
theorem dL_wouldHit_7 : decode cL_wouldHit 7 = .ok (.invokevirtual 72, 3) := by decide +kernel
theorem dL_wouldHit_10 : decode cL_wouldHit 10 = .ok (.dastore, 1) := by decide +kernel
theorem dL_wouldHit_11 : decode cL_wouldHit 11 = .ok (.goto 15, 3) := by decide +kernel
theorem dL_wouldHit_14 : decode cL_wouldHit 14 = .ok (.astore 5, 2) := by decide +kernel
theorem dL_wouldHit_16 : decode cL_wouldHit 16 = .ok (.iconst 1, 1) := by decide +kernel
theorem dL_wouldHit_17 : decode cL_wouldHit 17 = .ok (.ireturn, 1) := by decide +kernel
theorem dL_wouldHit_18 : decode cL_wouldHit 18 = .ok (.astore 5, 2) := by decide +kernel
theorem dL_wouldHit_20 : decode cL_wouldHit 20 = .ok (.iconst 2, 1) := by decide +kernel
theorem dL_wouldHit_21 : decode cL_wouldHit 21 = .ok (.ireturn, 1) := by decide +kernel
theorem dL_wouldHit_22 : decode cL_wouldHit 22 = .ok (.astore 5, 2) := by decide +kernel
theorem dL_wouldHit_24 : decode cL_wouldHit 24 = .ok (.iconst 3, 1) := by decide +kernel
theorem dL_wouldHit_25 : decode cL_wouldHit 25 = .ok (.ireturn, 1) := by decide +kernel
theorem dL_wouldHit_26 : decode cL_wouldHit 26 = .ok (.iconst 0, 1) := by decide +kernel
theorem dL_wouldHit_27 : decode cL_wouldHit 27 = .ok (.ireturn, 1) := by decide +kernel
set_option maxRecDepth 20000 in
theorem ggL_mark_X4_mark : GoodIn wsL_mark wsX4_mark := goodIn_ca (goodIn_ca (goodIn_r _ [7, 8, 9, 10, 11, 12, 13, 14, 6, 15, 16, 17, 18, 19, 20, 21, 22, 23, 24, 25, 26, 27, 28, 29, 30, 31, 32, 33, 34, 35, 36, 37, 38, 39, 40, 41, 42, 43, 44, 45, 46, 47, 48, 49, 50, 51, 52, 53, 54, 55, 56, 57, 58, 59, 60, 61, 62, 63, 64, 65, 66, 67, 68, 69, 70, 71, 72, 73, 74, 75, 76, 77, 78, 79, 80, 81, 82, 83, 84, 85, 86, 87, 88, 89, 90, 91] (by decide +kernel) (by decide +kernel)) (goodIn_sub (fun _ h => List.mem_cons_of_mem _ (List.mem_append_left _ (List.mem_append_right _ h))) (by decide +kernel))) (goodIn_sub (fun _ h => List.mem_cons_of_mem _ (List.mem_append_right _ h)) (by decide +kernel))
set_option maxRecDepth 20000 in
theorem gL_mark_X4_mark : GoodIn wsL_mark (wsV RL 75 RX4 yX4_mark wsX4_mark) := goodIn_app (goodIn_of _ (by decide +kernel)) ggL_mark_X4_mark
theorem dL_mark_0 : decode cL_mark 0 = .ok (.aload_n 2, 1) := by decide +kernel
theorem dL_mark_1 : decode cL_mark 1 = .ok (.iconst 0, 1) := by decide +kernel
theorem dL_mark_2 : decode cL_mark 2 = .ok (.aload_n 0, 1) := by decide +kernel
theorem dL_mark_3 : decode cL_mark 3 = .ok (.iload_n 1, 1) := by decide +kernel
theorem dL_mark_4 : decode cL_mark 4 = .ok (.invokevirtual 75, 3) := by decide +kernel
theorem dL_mark_7 : decode cL_mark 7 = .ok (.i2l, 1) := by decide +kernel
theorem dL_mark_8 : decode cL_mark 8 = .ok (.lastore, 1) := by decide +kernel
theorem dL_mark_9 : decode cL_mark 9 = .ok (.goto 9, 3) := by decide +kernel
theorem dL_mark_12 : decode cL_mark 12 = .ok (.astore_n 3, 1) := by decide +kernel
theorem dL_mark_13 : decode cL_mark 13 = .ok (.iconst 1, 1) := by decide +kernel
theorem dL_mark_14 : decode cL_mark 14 = .ok (.ireturn, 1) := by decide +kernel
theorem dL_mark_15 : decode cL_mark 15 = .ok (.astore_n 3, 1) := by decide +kernel
theorem dL_mark_16 : decode cL_mark 16 = .ok (.iconst 2, 1) := by decide +kernel
theorem dL_mark_17 : decode cL_mark 17 = .ok (.ireturn, 1) := by decide +kernel
theorem dL_mark_18 : decode cL_mark 18 = .ok (.iconst 0, 1) := by decide +kernel
theorem dL_mark_19 : decode cL_mark 19 = .ok (.ireturn, 1) := by decide +kernel
set_option maxRecDepth 20000 in
theorem ggL_best_X4_best : GoodIn wsL_best wsX4_best := goodIn_ca (goodIn_r _ [6, 7, 8, 9, 10, 11, 12, 13, 14, 15, 16, 5, 17, 18, 19, 20, 21, 22, 23, 24, 25, 26, 27, 28, 29, 30, 31, 32, 33, 34, 35, 36, 37, 38, 39, 40, 41, 42, 43, 44, 45, 46, 47, 48, 49, 50, 51, 52, 53, 54, 55, 56, 57, 58, 59, 60, 61, 62, 63, 64, 65, 66, 67, 68, 69, 70, 71, 72, 73, 74, 75, 76, 77, 78, 79, 80, 81, 82, 83, 84, 85, 86, 87, 88, 89, 90] (by decide +kernel) (by decide +kernel)) (goodIn_sub (fun _ h => List.mem_cons_of_mem _ (List.mem_append_right _ h)) (by decide +kernel))
set_option maxRecDepth 20000 in
theorem gL_best_X4_best : GoodIn wsL_best (wsV RL 78 RX4 yX4_best wsX4_best) := goodIn_app (goodIn_of _ (by decide +kernel)) ggL_best_X4_best
theorem dL_best_0 : decode cL_best 0 = .ok (.aload_n 2, 1) := by decide +kernel
theorem dL_best_1 : decode cL_best 1 = .ok (.iconst 0, 1) := by decide +kernel
theorem dL_best_2 : decode cL_best 2 = .ok (.aload_n 0, 1) := by decide +kernel
theorem dL_best_3 : decode cL_best 3 = .ok (.iload_n 1, 1) := by decide +kernel
theorem dL_best_4 : decode cL_best 4 = .ok (.invokevirtual 78, 3) := by decide +kernel
theorem dL_best_7 : decode cL_best 7 = .ok (.i2l, 1) := by decide +kernel
theorem dL_best_8 : decode cL_best 8 = .ok (.lastore, 1) := by decide +kernel
theorem dL_best_9 : decode cL_best 9 = .ok (.goto 6, 3) := by decide +kernel
theorem dL_best_12 : decode cL_best 12 = .ok (.astore_n 3, 1) := by decide +kernel
theorem dL_best_13 : decode cL_best 13 = .ok (.iconst 1, 1) := by decide +kernel
theorem dL_best_14 : decode cL_best 14 = .ok (.ireturn, 1) := by decide +kernel
theorem dL_best_15 : decode cL_best 15 = .ok (.iconst 0, 1) := by decide +kernel
theorem dL_best_16 : decode cL_best 16 = .ok (.ireturn, 1) := by decide +kernel
set_option maxRecDepth 20000 in
theorem ggL_reach_X4_reach : GoodIn wsL_reach wsX4_reach := goodIn_ca (goodIn_ca (goodIn_r _ [7, 8, 9, 10, 11, 12, 13, 6, 14, 15, 16, 17, 18, 19, 20, 21, 22, 23, 24, 25, 26, 27, 28, 29, 30, 31, 32, 33, 34, 35, 36, 37, 38, 39, 40, 41, 42, 43, 44, 45, 46, 47, 48, 49, 50, 51, 52, 53, 54, 55, 56, 57, 58, 59, 60, 61, 62, 63, 64, 65, 66, 67, 68, 69, 70, 71, 72, 73, 74, 75, 76, 77, 78, 79, 80, 81, 82, 83, 84, 85, 86, 87] (by decide +kernel) (by decide +kernel)) (goodIn_sub (fun _ h => List.mem_cons_of_mem _ (List.mem_append_left _ (List.mem_append_right _ h))) (by decide +kernel))) (goodIn_sub (fun _ h => List.mem_cons_of_mem _ (List.mem_append_right _ h)) (by decide +kernel))
set_option maxRecDepth 20000 in
theorem gL_reach_X4_reach : GoodIn wsL_reach (wsV RL 81 RX4 yX4_reach wsX4_reach) := goodIn_app (goodIn_of _ (by decide +kernel)) ggL_reach_X4_reach
theorem dL_reach_0 : decode cL_reach 0 = .ok (.aload_n 2, 1) := by decide +kernel
theorem dL_reach_1 : decode cL_reach 1 = .ok (.iconst 0, 1) := by decide +kernel
theorem dL_reach_2 : decode cL_reach 2 = .ok (.aload_n 0, 1) := by decide +kernel
theorem dL_reach_3 : decode cL_reach 3 = .ok (.iload_n 1, 1) := by decide +kernel
theorem dL_reach_4 : decode cL_reach 4 = .ok (.invokevirtual 81, 3) := by decide +kernel
theorem dL_reach_7 : decode cL_reach 7 = .ok (.i2l, 1) := by decide +kernel
theorem dL_reach_8 : decode cL_reach 8 = .ok (.lastore, 1) := by decide +kernel
theorem dL_reach_9 : decode cL_reach 9 = .ok (.goto 9, 3) := by decide +kernel
theorem dL_reach_12 : decode cL_reach 12 = .ok (.astore_n 3, 1) := by decide +kernel
theorem dL_reach_13 : decode cL_reach 13 = .ok (.iconst 1, 1) := by decide +kernel
theorem dL_reach_14 : decode cL_reach 14 = .ok (.ireturn, 1) := by decide +kernel
theorem dL_reach_15 : decode cL_reach 15 = .ok (.astore_n 3, 1) := by decide +kernel
theorem dL_reach_16 : decode cL_reach 16 = .ok (.iconst 2, 1) := by decide +kernel
theorem dL_reach_17 : decode cL_reach 17 = .ok (.ireturn, 1) := by decide +kernel
theorem dL_reach_18 : decode cL_reach 18 = .ok (.iconst 0, 1) := by decide +kernel
theorem dL_reach_19 : decode cL_reach 19 = .ok (.ireturn, 1) := by decide +kernel
set_option maxRecDepth 20000 in
theorem ggL_wouldScore_X4_wouldScore : GoodIn wsL_wouldScore wsX4_wouldScore := goodIn_ca (goodIn_ca (goodIn_r _ [7, 8, 9, 10, 11, 12, 13, 14, 15, 6, 16, 17, 18, 19, 20, 21, 22, 23, 24, 25, 26, 27, 28, 29, 30, 31, 32, 33, 34, 35, 36, 37, 38, 39, 40, 41, 42, 43, 44, 45, 46, 47, 48, 49, 50, 51, 52, 53, 54, 55, 56, 57, 58, 59, 60, 61, 62, 63, 64, 65, 66, 67, 68, 69, 70, 71, 72, 73, 74, 75, 76, 77, 78, 79, 80, 81, 82, 83, 84, 85, 86, 87, 88, 89, 90, 91, 92, 93, 94, 95, 96, 97, 98] (by decide +kernel) (by decide +kernel)) (goodIn_sub (fun _ h => List.mem_cons_of_mem _ (List.mem_append_left _ (List.mem_append_right _ h))) (by decide +kernel))) (goodIn_sub (fun _ h => List.mem_cons_of_mem _ (List.mem_append_right _ h)) (by decide +kernel))
set_option maxRecDepth 20000 in
theorem gL_wouldScore_X4_wouldScore : GoodIn wsL_wouldScore (wsV RL 84 RX4 yX4_wouldScore wsX4_wouldScore) := goodIn_app (goodIn_of _ (by decide +kernel)) ggL_wouldScore_X4_wouldScore
theorem dL_wouldScore_0 : decode cL_wouldScore 0 = .ok (.aload_n 2, 1) := by decide +kernel
theorem dL_wouldScore_1 : decode cL_wouldScore 1 = .ok (.iconst 0, 1) := by decide +kernel
theorem dL_wouldScore_2 : decode cL_wouldScore 2 = .ok (.aload_n 0, 1) := by decide +kernel
theorem dL_wouldScore_3 : decode cL_wouldScore 3 = .ok (.iload_n 1, 1) := by decide +kernel
theorem dL_wouldScore_4 : decode cL_wouldScore 4 = .ok (.invokevirtual 84, 3) := by decide +kernel
theorem dL_wouldScore_7 : decode cL_wouldScore 7 = .ok (.i2l, 1) := by decide +kernel
theorem dL_wouldScore_8 : decode cL_wouldScore 8 = .ok (.lastore, 1) := by decide +kernel
theorem dL_wouldScore_9 : decode cL_wouldScore 9 = .ok (.goto 9, 3) := by decide +kernel
theorem dL_wouldScore_12 : decode cL_wouldScore 12 = .ok (.astore_n 3, 1) := by decide +kernel
theorem dL_wouldScore_13 : decode cL_wouldScore 13 = .ok (.iconst 1, 1) := by decide +kernel
theorem dL_wouldScore_14 : decode cL_wouldScore 14 = .ok (.ireturn, 1) := by decide +kernel
theorem dL_wouldScore_15 : decode cL_wouldScore 15 = .ok (.astore_n 3, 1) := by decide +kernel
theorem dL_wouldScore_16 : decode cL_wouldScore 16 = .ok (.iconst 2, 1) := by decide +kernel
theorem dL_wouldScore_17 : decode cL_wouldScore 17 = .ok (.ireturn, 1) := by decide +kernel
theorem dL_wouldScore_18 : decode cL_wouldScore 18 = .ok (.iconst 0, 1) := by decide +kernel
theorem dL_wouldScore_19 : decode cL_wouldScore 19 = .ok (.ireturn, 1) := by decide +kernel
/-! ===== END printed: names ===== -/

section KL
variable {l : Launch} {s0 : State} {D : va_G} {g : Nat → ClassId}
set_option maxRecDepth 100000 in
set_option maxHeartbeats 4000000 in
theorem k_L_archer (hl9 : l.stackTraces = false) (H9 : LB s0) {μ : mu} {L : Nat → Nat → Nat} {S : SS} (h0 : RX g L S μ) (hI : Iv S) {o : Nat} {f : Nat → Int64} (ho : μ o = some (eJ g 1 f)) (hno : ∀ k i, vC k i → o ≠ L k i) {x y : Int32} : Cy l yL_archer wsL_archer (rmOf 9 3 18 230) s0 D (tyL g) [.ref (L 0 0), .int x, .int y, .ref o] μ 3 18 (fun v9 μ' => v9 = some (.int (nI (arC S x y))) ∧ RX g L (if arC S x y = 0 then (arS S x y) else S) μ' ∧ (∃ f' : Nat → Int64, μ' o = some (eJ g 1 f') ∧ (arC S x y = 0 → f' 0 = (nI S.nA).toInt64)) ∧ FrO L o μ μ') (fun _ _ => False) := by
  have B := H9.B
  obtain ⟨fh, fv, hR⟩ := id h0
  refine Cy.ofH (cc := cL_archer) (own := RL) (maxL := 5) (ret := (some .int)) (hh := [(0, 10, 13, 13), (0, 10, 17, 15)]) (by decide) rfl rfl (Nat.le_of_ble_eq_true rfl) ?_
  intro p e s m args below meth c Q C hE hT hQe
  refine aw_aload_n C dL_archer_0 rfl ?_
  refine aw_iconst C (v := 0) (by decide) dL_archer_1 ?_
  refine aw_aload_n C dL_archer_2 rfl ?_
  refine aw_iload_n C dL_archer_3 rfl ?_
  refine aw_iload_n C dL_archer_4 rfl ?_
  refine ax_callVc (n := 2) C hE (ci := 6) (q := (RX4, TX4, 16)) (k_X4_archer (x := x) (y := y) hl9 B h0 hI) gL_archer_X4_archer rfl ⟨rfl, rfl⟩ (by decide +kernel) ⟨by decide, by decide⟩ rfl rfl hR.mn rfl (Nat.le_of_ble_eq_true rfl) dL_archer_5 ⟨by decide, by decide⟩ (fun E9 μ' hp => ?_) (fun v μ' hp => ?_)
  · obtain ⟨hp, hX, hF⟩ := hp
    rcases px9_2 hp with ⟨hc, rfl⟩ | ⟨hc, rfl⟩
    · refine ⟨13, ⟨[], ⟨0, 10, 13, 13⟩, [⟨0, 10, 17, 15⟩], IAE, hT, fun z hz => absurd hz List.not_mem_nil, by decide, by decide, by decide +kernel, B.xIA _ List.mem_cons_self, rfl⟩, fun q9 => ?_⟩
      refine aw_astore C dL_archer_13 (by decide) ?_
      refine aw_iconst C (v := 1) (by decide) dL_archer_15 ?_
      refine aw_iret C hQe ?_ (by omega) (by omega) dL_archer_16
      exact ⟨by rw [hc]; rfl, by rw [hc]; exact hX, ⟨f, hF _ _ ho hno, fun q => absurd (hc.symm.trans q) (by decide)⟩, hF.O⟩
    · refine ⟨17, ⟨[⟨0, 10, 13, 13⟩], ⟨0, 10, 17, 15⟩, [], ISE, hT, fun z hz => by rw [List.mem_singleton.mp hz]; exact Or.inr ⟨by decide, IAE, by decide +kernel, H9.2.1⟩, by decide, by decide, by decide +kernel, B.xIS _ List.mem_cons_self, rfl⟩, fun q9 => ?_⟩
      refine aw_astore C dL_archer_17 (by decide) ?_
      refine aw_iconst C (v := 2) (by decide) dL_archer_19 ?_
      refine aw_iret C hQe ?_ (by omega) (by omega) dL_archer_20
      exact ⟨by rw [hc]; rfl, by rw [hc]; exact hX, ⟨f, hF _ _ ho hno, fun q => absurd (hc.symm.trans q) (by decide)⟩, hF.O⟩
  · obtain ⟨hc, rfl, hX, hF⟩ := hp
    refine aw_st (st' := [.int (nI S.nA), .int 0, .ref o]) rfl ?_
    refine aw_i2l C dL_archer_8 ?_
    refine aw_lastE C (hF _ _ ho hno) (by decide : (0 : Int32) = nI 0) ⟨by decide, by decide⟩ dL_archer_9 ?_
    refine aw_goto C (tgt := 21) dL_archer_10 (by decide) ?_
    refine aw_iconst C (v := 0) (by decide) dL_archer_21 ?_
    refine aw_iret C hQe ?_ (by omega) (by omega) dL_archer_22
    exact ⟨by rw [hc]; rfl, by rw [hc]; exact hX.wr hno, ⟨_, mp_s, fun _ => rfl⟩, hF.O.wr⟩
set_option maxRecDepth 100000 in
set_option maxHeartbeats 4000000 in
theorem k_L_quiver (hl9 : l.stackTraces = false) (H9 : LB s0) {μ : mu} {L : Nat → Nat → Nat} {S : SS} (h0 : RX g L S μ) (hI : Iv S) {o : Nat} {f : Nat → Int64} (ho : μ o = some (eJ g 1 f)) (hno : ∀ k i, vC k i → o ≠ L k i) {x y : Int32} : Cy l yL_quiver wsL_quiver (rmOf 9 3 18 230) s0 D (tyL g) [.ref (L 0 0), .int x, .int y, .ref o] μ 3 18 (fun v9 μ' => v9 = some (.int (nI (quC S x y))) ∧ RX g L (if quC S x y = 0 then (quS S x y) else S) μ' ∧ (∃ f' : Nat → Int64, μ' o = some (eJ g 1 f') ∧ (quC S x y = 0 → f' 0 = (nI S.nQ).toInt64)) ∧ FrO L o μ μ') (fun _ _ => False) := by
  have B := H9.B
  obtain ⟨fh, fv, hR⟩ := id h0
  refine Cy.ofH (cc := cL_quiver) (own := RL) (maxL := 5) (ret := (some .int)) (hh := [(0, 10, 13, 13), (0, 10, 17, 15)]) (by decide) rfl rfl (Nat.le_of_ble_eq_true rfl) ?_
  intro p e s m args below meth c Q C hE hT hQe
  refine aw_aload_n C dL_quiver_0 rfl ?_
  refine aw_iconst C (v := 0) (by decide) dL_quiver_1 ?_
  refine aw_aload_n C dL_quiver_2 rfl ?_
  refine aw_iload_n C dL_quiver_3 rfl ?_
  refine aw_iload_n C dL_quiver_4 rfl ?_
  refine ax_callVc (n := 2) C hE (ci := 6) (q := (RX4, TX4, 16)) (k_X4_quiver (x := x) (y := y) hl9 B h0 hI) gL_quiver_X4_quiver rfl ⟨rfl, rfl⟩ (by decide +kernel) ⟨by decide, by decide⟩ rfl rfl hR.mn rfl (Nat.le_of_ble_eq_true rfl) dL_quiver_5 ⟨by decide, by decide⟩ (fun E9 μ' hp => ?_) (fun v μ' hp => ?_)
  · obtain ⟨hp, hX, hF⟩ := hp
    rcases px9_2 hp with ⟨hc, rfl⟩ | ⟨hc, rfl⟩
    · refine ⟨13, ⟨[], ⟨0, 10, 13, 13⟩, [⟨0, 10, 17, 15⟩], IAE, hT, fun z hz => absurd hz List.not_mem_nil, by decide, by decide, by decide +kernel, B.xIA _ List.mem_cons_self, rfl⟩, fun q9 => ?_⟩
      refine aw_astore C dL_quiver_13 (by decide) ?_
      refine aw_iconst C (v := 1) (by decide) dL_quiver_15 ?_
      refine aw_iret C hQe ?_ (by omega) (by omega) dL_quiver_16
      exact ⟨by rw [hc]; rfl, by rw [hc]; exact hX, ⟨f, hF _ _ ho hno, fun q => absurd (hc.symm.trans q) (by decide)⟩, hF.O⟩
    · refine ⟨17, ⟨[⟨0, 10, 13, 13⟩], ⟨0, 10, 17, 15⟩, [], ISE, hT, fun z hz => by rw [List.mem_singleton.mp hz]; exact Or.inr ⟨by decide, IAE, by decide +kernel, H9.2.1⟩, by decide, by decide, by decide +kernel, B.xIS _ List.mem_cons_self, rfl⟩, fun q9 => ?_⟩
      refine aw_astore C dL_quiver_17 (by decide) ?_
      refine aw_iconst C (v := 2) (by decide) dL_quiver_19 ?_
      refine aw_iret C hQe ?_ (by omega) (by omega) dL_quiver_20
      exact ⟨by rw [hc]; rfl, by rw [hc]; exact hX, ⟨f, hF _ _ ho hno, fun q => absurd (hc.symm.trans q) (by decide)⟩, hF.O⟩
  · obtain ⟨hc, rfl, hX, hF⟩ := hp
    refine aw_st (st' := [.int (nI S.nQ), .int 0, .ref o]) rfl ?_
    refine aw_i2l C dL_quiver_8 ?_
    refine aw_lastE C (hF _ _ ho hno) (by decide : (0 : Int32) = nI 0) ⟨by decide, by decide⟩ dL_quiver_9 ?_
    refine aw_goto C (tgt := 21) dL_quiver_10 (by decide) ?_
    refine aw_iconst C (v := 0) (by decide) dL_quiver_21 ?_
    refine aw_iret C hQe ?_ (by omega) (by omega) dL_quiver_22
    exact ⟨by rw [hc]; rfl, by rw [hc]; exact hX.wr hno, ⟨_, mp_s, fun _ => rfl⟩, hF.O.wr⟩
set_option maxRecDepth 100000 in
set_option maxHeartbeats 4000000 in
theorem k_L_give (hl9 : l.stackTraces = false) (H9 : LB s0) {μ : mu} {L : Nat → Nat → Nat} {S : SS} (h0 : RX g L S μ) (hI : Iv S) {o : Nat} {f : Nat → Int64} (ho : μ o = some (eJ g 1 f)) (hno : ∀ k i, vC k i → o ≠ L k i) {x y : Int32} : Cy l yL_give wsL_give (rmOf 9 3 18 230) s0 D (tyL g) [.ref (L 0 0), .int x, .int y, .ref o] μ 3 18 (fun v9 μ' => v9 = some (.int (nI (giC S x y))) ∧ RX g L (if giC S x y = 0 then (giS S (ix x) y) else S) μ' ∧ (∃ f' : Nat → Int64, μ' o = some (eJ g 1 f') ∧ (giC S x y = 0 → f' 0 = (hoF S y).toInt64)) ∧ FrO L o μ μ') (fun _ _ => False) := by
  have B := H9.B
  obtain ⟨fh, fv, hR⟩ := id h0
  refine Cy.ofH (cc := cL_give) (own := RL) (maxL := 5) (ret := (some .int)) (hh := [(0, 10, 13, 23), (0, 10, 17, 15)]) (by decide) rfl rfl (Nat.le_of_ble_eq_true rfl) ?_
  intro p e s m args below meth c Q C hE hT hQe
  refine aw_aload_n C dL_give_0 rfl ?_
  refine aw_iconst C (v := 0) (by decide) dL_give_1 ?_
  refine aw_aload_n C dL_give_2 rfl ?_
  refine aw_iload_n C dL_give_3 rfl ?_
  refine aw_iload_n C dL_give_4 rfl ?_
  refine ax_callVc (n := 2) C hE (ci := 6) (q := (RX4, TX4, 16)) (k_X4_give (x := x) (y := y) hl9 B h0 hI) gL_give_X4_give rfl ⟨rfl, rfl⟩ (by decide +kernel) ⟨by decide, by decide⟩ rfl rfl hR.mn rfl (Nat.le_of_ble_eq_true rfl) dL_give_5 ⟨by decide, by decide⟩ (fun E9 μ' hp => ?_) (fun v μ' hp => ?_)
  · obtain ⟨hp, hX, hF⟩ := hp
    rcases px9_2 hp with ⟨hc, rfl⟩ | ⟨hc, rfl⟩
    · refine ⟨13, ⟨[], ⟨0, 10, 13, 23⟩, [⟨0, 10, 17, 15⟩], IOB, hT, fun z hz => absurd hz List.not_mem_nil, by decide, by decide, by decide +kernel, B.xIO _ List.mem_cons_self, rfl⟩, fun q9 => ?_⟩
      refine aw_astore C dL_give_13 (by decide) ?_
      refine aw_iconst C (v := 1) (by decide) dL_give_15 ?_
      refine aw_iret C hQe ?_ (by omega) (by omega) dL_give_16
      exact ⟨by rw [hc]; rfl, by rw [hc]; exact hX, ⟨f, hF _ _ ho hno, fun q => absurd (hc.symm.trans q) (by decide)⟩, hF.O⟩
    · refine ⟨17, ⟨[⟨0, 10, 13, 23⟩], ⟨0, 10, 17, 15⟩, [], ISE, hT, fun z hz => by rw [List.mem_singleton.mp hz]; exact Or.inr ⟨by decide, IOB, by decide +kernel, H9.2.2.1⟩, by decide, by decide, by decide +kernel, B.xIS _ List.mem_cons_self, rfl⟩, fun q9 => ?_⟩
      refine aw_astore C dL_give_17 (by decide) ?_
      refine aw_iconst C (v := 2) (by decide) dL_give_19 ?_
      refine aw_iret C hQe ?_ (by omega) (by omega) dL_give_20
      exact ⟨by rw [hc]; rfl, by rw [hc]; exact hX, ⟨f, hF _ _ ho hno, fun q => absurd (hc.symm.trans q) (by decide)⟩, hF.O⟩
  · obtain ⟨hc, rfl, hX, hF⟩ := hp
    refine aw_st (st' := [.int (hoF S y), .int 0, .ref o]) rfl ?_
    refine aw_i2l C dL_give_8 ?_
    refine aw_lastE C (hF _ _ ho hno) (by decide : (0 : Int32) = nI 0) ⟨by decide, by decide⟩ dL_give_9 ?_
    refine aw_goto C (tgt := 21) dL_give_10 (by decide) ?_
    refine aw_iconst C (v := 0) (by decide) dL_give_21 ?_
    refine aw_iret C hQe ?_ (by omega) (by omega) dL_give_22
    exact ⟨by rw [hc]; rfl, by rw [hc]; exact hX.wr hno, ⟨_, mp_s, fun _ => rfl⟩, hF.O.wr⟩
set_option maxRecDepth 100000 in
set_option maxHeartbeats 4000000 in
theorem k_L_tune (hl9 : l.stackTraces = false) (H9 : LB s0) {μ : mu} {L : Nat → Nat → Nat} {S : SS} (h0 : RX g L S μ) (hI : Iv S) {o : Nat} {f : Nat → Int64} (ho : μ o = some (eJ g 1 f)) (hno : ∀ k i, vC k i → o ≠ L k i) {x y z : Int32} : Cy l yL_tune wsL_tune (rmOf 9 3 18 230) s0 D (tyL g) [.ref (L 0 0), .int x, .int y, .int z, .ref o] μ 3 18 (fun v9 μ' => v9 = some (.int (nI (tuC S x y z))) ∧ RX g L (if tuC S x y z = 0 then (tuS S (ix x) y z) else S) μ' ∧ (∃ f' : Nat → Int64, μ' o = some (eJ g 1 f') ∧ (tuC S x y z = 0 → f' 0 = (S.A (ix x) 2).toInt64)) ∧ FrO L o μ μ') (fun _ _ => False) := by
  have B := H9.B
  obtain ⟨fh, fv, hR⟩ := id h0
  refine Cy.ofH (cc := cL_tune) (own := RL) (maxL := 6) (ret := (some .int)) (hh := [(0, 12, 15, 23), (0, 12, 19, 13)]) (by decide) rfl rfl (Nat.le_of_ble_eq_true rfl) ?_
  intro p e s m args below meth c Q C hE hT hQe
  refine aw_aload C dL_tune_0 rfl ?_
  refine aw_iconst C (v := 0) (by decide) dL_tune_2 ?_
  refine aw_aload_n C dL_tune_3 rfl ?_
  refine aw_iload_n C dL_tune_4 rfl ?_
  refine aw_iload_n C dL_tune_5 rfl ?_
  refine aw_iload_n C dL_tune_6 rfl ?_
  refine ax_callVc (n := 3) C hE (ci := 6) (q := (RX4, TX4, 16)) (k_X4_tune (x := x) (y := y) (z := z) hl9 B h0 hI) gL_tune_X4_tune rfl ⟨rfl, rfl⟩ (by decide +kernel) ⟨by decide, by decide⟩ rfl rfl hR.mn rfl (Nat.le_of_ble_eq_true rfl) dL_tune_7 ⟨by decide, by decide⟩ (fun E9 μ' hp => ?_) (fun v μ' hp => ?_)
  · obtain ⟨hp, hX, hF⟩ := hp
    rcases px9_2 hp with ⟨hc, rfl⟩ | ⟨hc, rfl⟩
    · refine ⟨15, ⟨[], ⟨0, 12, 15, 23⟩, [⟨0, 12, 19, 13⟩], IOB, hT, fun z hz => absurd hz List.not_mem_nil, by decide, by decide, by decide +kernel, B.xIO _ List.mem_cons_self, rfl⟩, fun q9 => ?_⟩
      refine aw_astore C dL_tune_15 (by decide) ?_
      refine aw_iconst C (v := 1) (by decide) dL_tune_17 ?_
      refine aw_iret C hQe ?_ (by omega) (by omega) dL_tune_18
      exact ⟨by rw [hc]; rfl, by rw [hc]; exact hX, ⟨f, hF _ _ ho hno, fun q => absurd (hc.symm.trans q) (by decide)⟩, hF.O⟩
    · refine ⟨19, ⟨[⟨0, 12, 15, 23⟩], ⟨0, 12, 19, 13⟩, [], IAE, hT, fun z hz => by rw [List.mem_singleton.mp hz]; exact Or.inr ⟨by decide, IOB, by decide +kernel, H9.2.2.2⟩, by decide, by decide, by decide +kernel, B.xIA _ List.mem_cons_self, rfl⟩, fun q9 => ?_⟩
      refine aw_astore C dL_tune_19 (by decide) ?_
      refine aw_iconst C (v := 2) (by decide) dL_tune_21 ?_
      refine aw_iret C hQe ?_ (by omega) (by omega) dL_tune_22
      exact ⟨by rw [hc]; rfl, by rw [hc]; exact hX, ⟨f, hF _ _ ho hno, fun q => absurd (hc.symm.trans q) (by decide)⟩, hF.O⟩
  · obtain ⟨hc, rfl, hX, hF⟩ := hp
    refine aw_st (st' := [.int (S.A (ix x) 2), .int 0, .ref o]) rfl ?_
    refine aw_i2l C dL_tune_10 ?_
    refine aw_lastE C (hF _ _ ho hno) (by decide : (0 : Int32) = nI 0) ⟨by decide, by decide⟩ dL_tune_11 ?_
    refine aw_goto C (tgt := 23) dL_tune_12 (by decide) ?_
    refine aw_iconst C (v := 0) (by decide) dL_tune_23 ?_
    refine aw_iret C hQe ?_ (by omega) (by omega) dL_tune_24
    exact ⟨by rw [hc]; rfl, by rw [hc]; exact hX.wr hno, ⟨_, mp_s, fun _ => rfl⟩, hF.O.wr⟩
set_option maxRecDepth 100000 in
set_option maxHeartbeats 4000000 in
theorem k_L_string (hl9 : l.stackTraces = false) (H9 : LB s0) {μ : mu} {L : Nat → Nat → Nat} {S : SS} (h0 : RX g L S μ) (hI : Iv S) {o : Nat} {f : Nat → UInt64} (ho : μ o = some (eD g 1 f)) (hno : ∀ k i, vC k i → o ≠ L k i) {x : Int32} : Cy l yL_string wsL_string (rmOf 9 1 6 230) s0 D (tyL g) [.ref (L 0 0), .int x, .ref o] μ 1 6 (fun v9 μ' => v9 = some (.int (nI (stC S x))) ∧ RX g L (if stC S x = 0 then (stS S (ix x)) else S) μ' ∧ (∃ f' : Nat → UInt64, μ' o = some (eD g 1 f') ∧ (stC S x = 0 → f' 0 = (FP.f2d (S.cr (ix x))))) ∧ FrO L o μ μ') (fun _ _ => False) := by
  have B := H9.B
  obtain ⟨fh, fv, hR⟩ := id h0
  refine Cy.ofH (cc := cL_string) (own := RL) (maxL := 4) (ret := (some .int)) (hh := [(0, 8, 11, 23)]) (by decide) rfl rfl (Nat.le_of_ble_eq_true rfl) ?_
  intro p e s m args below meth c Q C hE hT hQe
  refine aw_aload_n C dL_string_0 rfl ?_
  refine aw_iconst C (v := 0) (by decide) dL_string_1 ?_
  refine aw_aload_n C dL_string_2 rfl ?_
  refine aw_iload_n C dL_string_3 rfl ?_
  refine ax_callVc (n := 1) C hE (ci := 6) (q := (RX4, TX4, 16)) (k_X4_string (x := x) hl9 B h0 hI) gL_string_X4_string rfl ⟨rfl, rfl⟩ (by decide +kernel) ⟨by decide, by decide⟩ rfl rfl hR.mn rfl (Nat.le_of_ble_eq_true rfl) dL_string_4 ⟨by decide, by decide⟩ (fun E9 μ' hp => ?_) (fun v μ' hp => ?_)
  · obtain ⟨hp, hX, hF⟩ := hp
    obtain ⟨hc, rfl⟩ := px9_1 hp
    refine ⟨11, ⟨[], ⟨0, 8, 11, 23⟩, [], IOB, hT, fun z hz => absurd hz List.not_mem_nil, by decide, by decide, by decide +kernel, B.xIO _ List.mem_cons_self, rfl⟩, fun q9 => ?_⟩
    refine aw_astore_n C dL_string_11 (by decide) ?_
    refine aw_iconst C (v := 1) (by decide) dL_string_12 ?_
    refine aw_iret C hQe ?_ (by omega) (by omega) dL_string_13
    exact ⟨by rw [hc]; rfl, by rw [hc]; exact hX, ⟨f, hF _ _ ho hno, fun q => absurd (hc.symm.trans q) (by decide)⟩, hF.O⟩
  · obtain ⟨hc, rfl, hX, hF⟩ := hp
    refine aw_st (st' := [.double (FP.f2d (S.cr (ix x))), .int 0, .ref o]) rfl ?_
    refine aw_dastE C (hF _ _ ho hno) (by decide : (0 : Int32) = nI 0) ⟨by decide, by decide⟩ dL_string_7 ?_
    refine aw_goto C (tgt := 14) dL_string_8 (by decide) ?_
    refine aw_iconst C (v := 0) (by decide) dL_string_14 ?_
    refine aw_iret C hQe ?_ (by omega) (by omega) dL_string_15
    exact ⟨by rw [hc]; rfl, by rw [hc]; exact hX.wr hno, ⟨_, mp_s, fun _ => rfl⟩, hF.O.wr⟩
set_option maxRecDepth 100000 in
set_option maxHeartbeats 4000000 in
theorem k_L_field (hl9 : l.stackTraces = false) (H9 : LB s0) {μ : mu} {L : Nat → Nat → Nat} {S : SS} (h0 : RX g L S μ) (hI : Iv S) {o : Nat} {f : Nat → Int64} (ho : μ o = some (eJ g 1 f)) (hno : ∀ k i, vC k i → o ≠ L k i) {x y z : Int32} : Cy l yL_field wsL_field (rmOf 9 4 24 230) s0 D (tyL g) [.ref (L 0 0), .int x, .int y, .int z, .ref o] μ 4 24 (fun v9 μ' => v9 = some (.int (nI (fiC S x y z))) ∧ RX g L (if fiC S x y z = 0 then (fiS S x y z) else S) μ' ∧ (∃ f' : Nat → Int64, μ' o = some (eJ g 1 f') ∧ (fiC S x y z = 0 → f' 0 = (S.c 4).toInt64)) ∧ FrO L o μ μ') (fun _ _ => False) := by
  have B := H9.B
  obtain ⟨fh, fv, hR⟩ := id h0
  refine Cy.ofH (cc := cL_field) (own := RL) (maxL := 6) (ret := (some .int)) (hh := [(0, 12, 15, 13), (0, 12, 19, 15)]) (by decide) rfl rfl (Nat.le_of_ble_eq_true rfl) ?_
  intro p e s m args below meth c Q C hE hT hQe
  refine aw_aload C dL_field_0 rfl ?_
  refine aw_iconst C (v := 0) (by decide) dL_field_2 ?_
  refine aw_aload_n C dL_field_3 rfl ?_
  refine aw_iload_n C dL_field_4 rfl ?_
  refine aw_iload_n C dL_field_5 rfl ?_
  refine aw_iload_n C dL_field_6 rfl ?_
  refine ax_callVc (n := 3) C hE (ci := 6) (q := (RX4, TX4, 16)) (k_X4_field (x := x) (y := y) (z := z) hl9 B h0 hI) gL_field_X4_field rfl ⟨rfl, rfl⟩ (by decide +kernel) ⟨by decide, by decide⟩ rfl rfl hR.mn rfl (Nat.le_of_ble_eq_true rfl) dL_field_7 ⟨by decide, by decide⟩ (fun E9 μ' hp => ?_) (fun v μ' hp => ?_)
  · obtain ⟨hp, hX, hF⟩ := hp
    rcases px9_2 hp with ⟨hc, rfl⟩ | ⟨hc, rfl⟩
    · refine ⟨15, ⟨[], ⟨0, 12, 15, 13⟩, [⟨0, 12, 19, 15⟩], IAE, hT, fun z hz => absurd hz List.not_mem_nil, by decide, by decide, by decide +kernel, B.xIA _ List.mem_cons_self, rfl⟩, fun q9 => ?_⟩
      refine aw_astore C dL_field_15 (by decide) ?_
      refine aw_iconst C (v := 1) (by decide) dL_field_17 ?_
      refine aw_iret C hQe ?_ (by omega) (by omega) dL_field_18
      exact ⟨by rw [hc]; rfl, by rw [hc]; exact hX, ⟨f, hF _ _ ho hno, fun q => absurd (hc.symm.trans q) (by decide)⟩, hF.O⟩
    · refine ⟨19, ⟨[⟨0, 12, 15, 13⟩], ⟨0, 12, 19, 15⟩, [], ISE, hT, fun z hz => by rw [List.mem_singleton.mp hz]; exact Or.inr ⟨by decide, IAE, by decide +kernel, H9.2.1⟩, by decide, by decide, by decide +kernel, B.xIS _ List.mem_cons_self, rfl⟩, fun q9 => ?_⟩
      refine aw_astore C dL_field_19 (by decide) ?_
      refine aw_iconst C (v := 2) (by decide) dL_field_21 ?_
      refine aw_iret C hQe ?_ (by omega) (by omega) dL_field_22
      exact ⟨by rw [hc]; rfl, by rw [hc]; exact hX, ⟨f, hF _ _ ho hno, fun q => absurd (hc.symm.trans q) (by decide)⟩, hF.O⟩
  · obtain ⟨hc, rfl, hX, hF⟩ := hp
    refine aw_st (st' := [.int (S.c 4), .int 0, .ref o]) rfl ?_
    refine aw_i2l C dL_field_10 ?_
    refine aw_lastE C (hF _ _ ho hno) (by decide : (0 : Int32) = nI 0) ⟨by decide, by decide⟩ dL_field_11 ?_
    refine aw_goto C (tgt := 23) dL_field_12 (by decide) ?_
    refine aw_iconst C (v := 0) (by decide) dL_field_23 ?_
    refine aw_iret C hQe ?_ (by omega) (by omega) dL_field_24
    exact ⟨by rw [hc]; rfl, by rw [hc]; exact hX.wr hno, ⟨_, mp_s, fun _ => rfl⟩, hF.O.wr⟩
set_option maxRecDepth 100000 in
set_option maxHeartbeats 4000000 in
theorem k_L_wind (hl9 : l.stackTraces = false) (H9 : LB s0) {μ : mu} {L : Nat → Nat → Nat} {S : SS} (h0 : RX g L S μ) (hI : Iv S) {o : Nat} {f : Nat → Int64} (ho : μ o = some (eJ g 1 f)) (hno : ∀ k i, vC k i → o ≠ L k i) {y : Int32} : Cy l yL_wind wsL_wind (rmOf 9 1 6 230) s0 D (tyL g) [.ref (L 0 0), .int y, .ref o] μ 1 6 (fun v9 μ' => v9 = some (.int (nI (wiC y))) ∧ RX g L (if wiC y = 0 then (wiS S y) else S) μ' ∧ (∃ f' : Nat → Int64, μ' o = some (eJ g 1 f') ∧ (wiC y = 0 → f' 0 = (S.c 5).toInt64)) ∧ FrO L o μ μ') (fun _ _ => False) := by
  have B := H9.B
  obtain ⟨fh, fv, hR⟩ := id h0
  refine Cy.ofH (cc := cL_wind) (own := RL) (maxL := 4) (ret := (some .int)) (hh := [(0, 9, 12, 13)]) (by decide) rfl rfl (Nat.le_of_ble_eq_true rfl) ?_
  intro p e s m args below meth c Q C hE hT hQe
  refine aw_aload_n C dL_wind_0 rfl ?_
  refine aw_iconst C (v := 0) (by decide) dL_wind_1 ?_
  refine aw_aload_n C dL_wind_2 rfl ?_
  refine aw_iload_n C dL_wind_3 rfl ?_
  refine ax_callVc (n := 1) C hE (ci := 6) (q := (RX4, TX4, 16)) (k_X4_wind (y := y) hl9 B h0 hI) gL_wind_X4_wind rfl ⟨rfl, rfl⟩ (by decide +kernel) ⟨by decide, by decide⟩ rfl rfl hR.mn rfl (Nat.le_of_ble_eq_true rfl) dL_wind_4 ⟨by decide, by decide⟩ (fun E9 μ' hp => ?_) (fun v μ' hp => ?_)
  · obtain ⟨hp, hX, hF⟩ := hp
    obtain ⟨hc, rfl⟩ := px9_1 hp
    refine ⟨12, ⟨[], ⟨0, 9, 12, 13⟩, [], IAE, hT, fun z hz => absurd hz List.not_mem_nil, by decide, by decide, by decide +kernel, B.xIA _ List.mem_cons_self, rfl⟩, fun q9 => ?_⟩
    refine aw_astore_n C dL_wind_12 (by decide) ?_
    refine aw_iconst C (v := 1) (by decide) dL_wind_13 ?_
    refine aw_iret C hQe ?_ (by omega) (by omega) dL_wind_14
    exact ⟨by rw [hc]; rfl, by rw [hc]; exact hX, ⟨f, hF _ _ ho hno, fun q => absurd (hc.symm.trans q) (by decide)⟩, hF.O⟩
  · obtain ⟨hc, rfl, hX, hF⟩ := hp
    refine aw_st (st' := [.int (S.c 5), .int 0, .ref o]) rfl ?_
    refine aw_i2l C dL_wind_7 ?_
    refine aw_lastE C (hF _ _ ho hno) (by decide : (0 : Int32) = nI 0) ⟨by decide, by decide⟩ dL_wind_8 ?_
    refine aw_goto C (tgt := 15) dL_wind_9 (by decide) ?_
    refine aw_iconst C (v := 0) (by decide) dL_wind_15 ?_
    refine aw_iret C hQe ?_ (by omega) (by omega) dL_wind_16
    exact ⟨by rw [hc]; rfl, by rw [hc]; exact hX.wr hno, ⟨_, mp_s, fun _ => rfl⟩, hF.O.wr⟩
set_option maxRecDepth 100000 in
set_option maxHeartbeats 4000000 in
theorem k_L_shoot (hl9 : l.stackTraces = false) (H9 : LB s0) {μ : mu} {L : Nat → Nat → Nat} {S : SS} (h0 : RX g L S μ) (hI : Iv S) {o : Nat} {f : Nat → Int64} (ho : μ o = some (eJ g 1 f)) (hno : ∀ k i, vC k i → o ≠ L k i) {x y : Int32} : Cy l yL_shoot wsL_shoot (rmOf 9 4 24 230) s0 D (tyL g) [.ref (L 0 0), .int x, .int y, .ref o] μ 4 24 (fun v9 μ' => v9 = some (.int (nI (shC S x y))) ∧ RX g L (if shC S x y = 0 then (shS S (ix x) (ix (S.A (ix x) 5)) (ix y)) else S) μ' ∧ (∃ f' : Nat → Int64, μ' o = some (eJ g 1 f') ∧ (shC S x y = 0 → f' 0 = (shR S (ix x) (ix (S.A (ix x) 5))).toInt64)) ∧ FrO L o μ μ') (fun _ _ => False) := by
  have B := H9.B
  obtain ⟨fh, fv, hR⟩ := id h0
  refine Cy.ofH (cc := cL_shoot) (own := RL) (maxL := 5) (ret := (some .int)) (hh := [(0, 10, 13, 23), (0, 10, 17, 15)]) (by decide) rfl rfl (Nat.le_of_ble_eq_true rfl) ?_
  intro p e s m args below meth c Q C hE hT hQe
  refine aw_aload_n C dL_shoot_0 rfl ?_
  refine aw_iconst C (v := 0) (by decide) dL_shoot_1 ?_
  refine aw_aload_n C dL_shoot_2 rfl ?_
  refine aw_iload_n C dL_shoot_3 rfl ?_
  refine aw_iload_n C dL_shoot_4 rfl ?_
  refine ax_callVc (n := 2) C hE (ci := 6) (q := (RX4, TX4, 16)) (k_X4_shoot (x := x) (y := y) hl9 B h0 hI) gL_shoot_X4_shoot rfl ⟨rfl, rfl⟩ (by decide +kernel) ⟨by decide, by decide⟩ rfl rfl hR.mn rfl (Nat.le_of_ble_eq_true rfl) dL_shoot_5 ⟨by decide, by decide⟩ (fun E9 μ' hp => ?_) (fun v μ' hp => ?_)
  · obtain ⟨hp, hX, hF⟩ := hp
    rcases px9_2 hp with ⟨hc, rfl⟩ | ⟨hc, rfl⟩
    · refine ⟨13, ⟨[], ⟨0, 10, 13, 23⟩, [⟨0, 10, 17, 15⟩], IOB, hT, fun z hz => absurd hz List.not_mem_nil, by decide, by decide, by decide +kernel, B.xIO _ List.mem_cons_self, rfl⟩, fun q9 => ?_⟩
      refine aw_astore C dL_shoot_13 (by decide) ?_
      refine aw_iconst C (v := 1) (by decide) dL_shoot_15 ?_
      refine aw_iret C hQe ?_ (by omega) (by omega) dL_shoot_16
      exact ⟨by rw [hc]; rfl, by rw [hc]; exact hX, ⟨f, hF _ _ ho hno, fun q => absurd (hc.symm.trans q) (by decide)⟩, hF.O⟩
    · refine ⟨17, ⟨[⟨0, 10, 13, 23⟩], ⟨0, 10, 17, 15⟩, [], ISE, hT, fun z hz => by rw [List.mem_singleton.mp hz]; exact Or.inr ⟨by decide, IOB, by decide +kernel, H9.2.2.1⟩, by decide, by decide, by decide +kernel, B.xIS _ List.mem_cons_self, rfl⟩, fun q9 => ?_⟩
      refine aw_astore C dL_shoot_17 (by decide) ?_
      refine aw_iconst C (v := 2) (by decide) dL_shoot_19 ?_
      refine aw_iret C hQe ?_ (by omega) (by omega) dL_shoot_20
      exact ⟨by rw [hc]; rfl, by rw [hc]; exact hX, ⟨f, hF _ _ ho hno, fun q => absurd (hc.symm.trans q) (by decide)⟩, hF.O⟩
  · obtain ⟨hc, rfl, hX, hF⟩ := hp
    refine aw_st (st' := [.int (shR S (ix x) (ix (S.A (ix x) 5))), .int 0, .ref o]) rfl ?_
    refine aw_i2l C dL_shoot_8 ?_
    refine aw_lastE C (hF _ _ ho hno) (by decide : (0 : Int32) = nI 0) ⟨by decide, by decide⟩ dL_shoot_9 ?_
    refine aw_goto C (tgt := 21) dL_shoot_10 (by decide) ?_
    refine aw_iconst C (v := 0) (by decide) dL_shoot_21 ?_
    refine aw_iret C hQe ?_ (by omega) (by omega) dL_shoot_22
    exact ⟨by rw [hc]; rfl, by rw [hc]; exact hX.wr hno, ⟨_, mp_s, fun _ => rfl⟩, hF.O.wr⟩
set_option maxRecDepth 100000 in
set_option maxHeartbeats 4000000 in
theorem k_L_mend (hl9 : l.stackTraces = false) (H9 : LB s0) {μ : mu} {L : Nat → Nat → Nat} {S : SS} (h0 : RX g L S μ) (hI : Iv S) {o : Nat} {f : Nat → Int64} (ho : μ o = some (eJ g 1 f)) (hno : ∀ k i, vC k i → o ≠ L k i) {x : Int32} : Cy l yL_mend wsL_mend (rmOf 9 1 6 230) s0 D (tyL g) [.ref (L 0 0), .int x, .ref o] μ 1 6 (fun v9 μ' => v9 = some (.int (nI (meC S x))) ∧ RX g L (if meC S x = 0 then (meS S (ix x)) else S) μ' ∧ (∃ f' : Nat → Int64, μ' o = some (eJ g 1 f') ∧ (meC S x = 0 → f' 0 = (nI (bbN (S.F (ix x)) 3 12)).toInt64)) ∧ FrO L o μ μ') (fun _ _ => False) := by
  have B := H9.B
  obtain ⟨fh, fv, hR⟩ := id h0
  refine Cy.ofH (cc := cL_mend) (own := RL) (maxL := 4) (ret := (some .int)) (hh := [(0, 9, 12, 23)]) (by decide) rfl rfl (Nat.le_of_ble_eq_true rfl) ?_
  intro p e s m args below meth c Q C hE hT hQe
  refine aw_aload_n C dL_mend_0 rfl ?_
  refine aw_iconst C (v := 0) (by decide) dL_mend_1 ?_
  refine aw_aload_n C dL_mend_2 rfl ?_
  refine aw_iload_n C dL_mend_3 rfl ?_
  refine ax_callVc (n := 1) C hE (ci := 6) (q := (RX4, TX4, 16)) (k_X4_mend (x := x) hl9 B h0 hI) gL_mend_X4_mend rfl ⟨rfl, rfl⟩ (by decide +kernel) ⟨by decide, by decide⟩ rfl rfl hR.mn rfl (Nat.le_of_ble_eq_true rfl) dL_mend_4 ⟨by decide, by decide⟩ (fun E9 μ' hp => ?_) (fun v μ' hp => ?_)
  · obtain ⟨hp, hX, hF⟩ := hp
    obtain ⟨hc, rfl⟩ := px9_1 hp
    refine ⟨12, ⟨[], ⟨0, 9, 12, 23⟩, [], IOB, hT, fun z hz => absurd hz List.not_mem_nil, by decide, by decide, by decide +kernel, B.xIO _ List.mem_cons_self, rfl⟩, fun q9 => ?_⟩
    refine aw_astore_n C dL_mend_12 (by decide) ?_
    refine aw_iconst C (v := 1) (by decide) dL_mend_13 ?_
    refine aw_iret C hQe ?_ (by omega) (by omega) dL_mend_14
    exact ⟨by rw [hc]; rfl, by rw [hc]; exact hX, ⟨f, hF _ _ ho hno, fun q => absurd (hc.symm.trans q) (by decide)⟩, hF.O⟩
  · obtain ⟨hc, rfl, hX, hF⟩ := hp
    refine aw_st (st' := [.int (nI (bbN (S.F (ix x)) 3 12)), .int 0, .ref o]) rfl ?_
    refine aw_i2l C dL_mend_7 ?_
    refine aw_lastE C (hF _ _ ho hno) (by decide : (0 : Int32) = nI 0) ⟨by decide, by decide⟩ dL_mend_8 ?_
    refine aw_goto C (tgt := 15) dL_mend_9 (by decide) ?_
    refine aw_iconst C (v := 0) (by decide) dL_mend_15 ?_
    refine aw_iret C hQe ?_ (by omega) (by omega) dL_mend_16
    exact ⟨by rw [hc]; rfl, by rw [hc]; exact hX.wr hno, ⟨_, mp_s, fun _ => rfl⟩, hF.O.wr⟩
set_option maxRecDepth 100000 in
set_option maxHeartbeats 4000000 in
theorem k_L_match (hl9 : l.stackTraces = false) (H9 : LB s0) {μ : mu} {L : Nat → Nat → Nat} {S : SS} (h0 : RX g L S μ) (hI : Iv S) {o : Nat} {f : Nat → Int64} (ho : μ o = some (eJ g 1 f)) (hno : ∀ k i, vC k i → o ≠ L k i) {x y : Int32} : Cy l yL_match wsL_match (rmOf 9 3 18 230) s0 D (tyL g) [.ref (L 0 0), .int x, .int y, .ref o] μ 3 18 (fun v9 μ' => v9 = some (.int (nI (maC S x y))) ∧ RX g L (if maC S x y = 0 then (maS S x y) else S) μ' ∧ (∃ f' : Nat → Int64, μ' o = some (eJ g 1 f') ∧ (maC S x y = 0 → f' 0 = (S.c 13 + 1).toInt64)) ∧ FrO L o μ μ') (fun _ _ => False) := by
  have B := H9.B
  obtain ⟨fh, fv, hR⟩ := id h0
  refine Cy.ofH (cc := cL_match) (own := RL) (maxL := 5) (ret := (some .int)) (hh := [(0, 10, 13, 23), (0, 10, 17, 13), (0, 10, 21, 15)]) (by decide) rfl rfl (Nat.le_of_ble_eq_true rfl) ?_
  intro p e s m args below meth c Q C hE hT hQe
  refine aw_aload_n C dL_match_0 rfl ?_
  refine aw_iconst C (v := 0) (by decide) dL_match_1 ?_
  refine aw_aload_n C dL_match_2 rfl ?_
  refine aw_iload_n C dL_match_3 rfl ?_
  refine aw_iload_n C dL_match_4 rfl ?_
  refine ax_callVc (n := 2) C hE (ci := 6) (q := (RX4, TX4, 16)) (k_X4_match (x := x) (y := y) hl9 B h0 hI) gL_match_X4_match rfl ⟨rfl, rfl⟩ (by decide +kernel) ⟨by decide, by decide⟩ rfl rfl hR.mn rfl (Nat.le_of_ble_eq_true rfl) dL_match_5 ⟨by decide, by decide⟩ (fun E9 μ' hp => ?_) (fun v μ' hp => ?_)
  · obtain ⟨hp, hX, hF⟩ := hp
    rcases px9_3 hp with ⟨hc, rfl⟩ | ⟨hc, rfl⟩ | ⟨hc, rfl⟩
    · refine ⟨13, ⟨[], ⟨0, 10, 13, 23⟩, [⟨0, 10, 17, 13⟩, ⟨0, 10, 21, 15⟩], IOB, hT, fun z hz => absurd hz List.not_mem_nil, by decide, by decide, by decide +kernel, B.xIO _ List.mem_cons_self, rfl⟩, fun q9 => ?_⟩
      refine aw_astore C dL_match_13 (by decide) ?_
      refine aw_iconst C (v := 1) (by decide) dL_match_15 ?_
      refine aw_iret C hQe ?_ (by omega) (by omega) dL_match_16
      exact ⟨by rw [hc]; rfl, by rw [hc]; exact hX, ⟨f, hF _ _ ho hno, fun q => absurd (hc.symm.trans q) (by decide)⟩, hF.O⟩
    · refine ⟨17, ⟨[⟨0, 10, 13, 23⟩], ⟨0, 10, 17, 13⟩, [⟨0, 10, 21, 15⟩], IAE, hT, fun z hz => by rw [List.mem_singleton.mp hz]; exact Or.inr ⟨by decide, IOB, by decide +kernel, H9.2.2.2⟩, by decide, by decide, by decide +kernel, B.xIA _ List.mem_cons_self, rfl⟩, fun q9 => ?_⟩
      refine aw_astore C dL_match_17 (by decide) ?_
      refine aw_iconst C (v := 2) (by decide) dL_match_19 ?_
      refine aw_iret C hQe ?_ (by omega) (by omega) dL_match_20
      exact ⟨by rw [hc]; rfl, by rw [hc]; exact hX, ⟨f, hF _ _ ho hno, fun q => absurd (hc.symm.trans q) (by decide)⟩, hF.O⟩
    · refine ⟨21, ⟨[⟨0, 10, 13, 23⟩, ⟨0, 10, 17, 13⟩], ⟨0, 10, 21, 15⟩, [], ISE, hT, fun z hz => by rcases List.mem_cons.mp hz with rfl | hz; exact Or.inr ⟨by decide, IOB, by decide +kernel, H9.2.2.1⟩; rw [List.mem_singleton.mp hz]; exact Or.inr ⟨by decide, IAE, by decide +kernel, H9.2.1⟩, by decide, by decide, by decide +kernel, B.xIS _ List.mem_cons_self, rfl⟩, fun q9 => ?_⟩
      refine aw_astore C dL_match_21 (by decide) ?_
      refine aw_iconst C (v := 3) (by decide) dL_match_23 ?_
      refine aw_iret C hQe ?_ (by omega) (by omega) dL_match_24
      exact ⟨by rw [hc]; rfl, by rw [hc]; exact hX, ⟨f, hF _ _ ho hno, fun q => absurd (hc.symm.trans q) (by decide)⟩, hF.O⟩
  · obtain ⟨hc, rfl, hX, hF⟩ := hp
    refine aw_st (st' := [.int (S.c 13 + 1), .int 0, .ref o]) rfl ?_
    refine aw_i2l C dL_match_8 ?_
    refine aw_lastE C (hF _ _ ho hno) (by decide : (0 : Int32) = nI 0) ⟨by decide, by decide⟩ dL_match_9 ?_
    refine aw_goto C (tgt := 25) dL_match_10 (by decide) ?_
    refine aw_iconst C (v := 0) (by decide) dL_match_25 ?_
    refine aw_iret C hQe ?_ (by omega) (by omega) dL_match_26
    exact ⟨by rw [hc]; rfl, by rw [hc]; exact hX.wr hno, ⟨_, mp_s, fun _ => rfl⟩, hF.O.wr⟩
set_option maxRecDepth 100000 in
set_option maxHeartbeats 4000000 in
theorem k_L_breakOff (hl9 : l.stackTraces = false) (H9 : LB s0) {μ : mu} {L : Nat → Nat → Nat} {S : SS} (h0 : RX g L S μ) (hI : Iv S) {o : Nat} {f : Nat → Int64} (ho : μ o = some (eJ g 1 f)) (hno : ∀ k i, vC k i → o ≠ L k i)  : Cy l yL_breakOff wsL_breakOff (rmOf 9 1 6 230) s0 D (tyL g) [.ref (L 0 0), .ref o] μ 1 6 (fun v9 μ' => v9 = some (.int (nI (brC S))) ∧ RX g L (if brC S = 0 then (brS S) else S) μ' ∧ (∃ f' : Nat → Int64, μ' o = some (eJ g 1 f') ∧ (brC S = 0 → f' 0 = (S.t 3 * 10 + S.t 4).toInt64)) ∧ FrO L o μ μ') (fun _ _ => False) := by
  have B := H9.B
  obtain ⟨fh, fv, hR⟩ := id h0
  refine Cy.ofH (cc := cL_breakOff) (own := RL) (maxL := 3) (ret := (some .int)) (hh := [(0, 8, 11, 15)]) (by decide) rfl rfl (Nat.le_of_ble_eq_true rfl) ?_
  intro p e s m args below meth c Q C hE hT hQe
  refine aw_aload_n C dL_breakOff_0 rfl ?_
  refine aw_iconst C (v := 0) (by decide) dL_breakOff_1 ?_
  refine aw_aload_n C dL_breakOff_2 rfl ?_
  refine ax_callVc (n := 0) C hE (ci := 6) (q := (RX4, TX4, 16)) (k_X4_breakOff  hl9 B h0 hI) gL_breakOff_X4_breakOff rfl ⟨rfl, rfl⟩ (by decide +kernel) ⟨by decide, by decide⟩ rfl rfl hR.mn rfl (Nat.le_of_ble_eq_true rfl) dL_breakOff_3 ⟨by decide, by decide⟩ (fun E9 μ' hp => ?_) (fun v μ' hp => ?_)
  · obtain ⟨hp, hX, hF⟩ := hp
    obtain ⟨hc, rfl⟩ := px9_1 hp
    refine ⟨11, ⟨[], ⟨0, 8, 11, 15⟩, [], ISE, hT, fun z hz => absurd hz List.not_mem_nil, by decide, by decide, by decide +kernel, B.xIS _ List.mem_cons_self, rfl⟩, fun q9 => ?_⟩
    refine aw_astore_n C dL_breakOff_11 (by decide) ?_
    refine aw_iconst C (v := 1) (by decide) dL_breakOff_12 ?_
    refine aw_iret C hQe ?_ (by omega) (by omega) dL_breakOff_13
    exact ⟨by rw [hc]; rfl, by rw [hc]; exact hX, ⟨f, hF _ _ ho hno, fun q => absurd (hc.symm.trans q) (by decide)⟩, hF.O⟩
  · obtain ⟨hc, rfl, hX, hF⟩ := hp
    refine aw_st (st' := [.int (S.t 3 * 10 + S.t 4), .int 0, .ref o]) rfl ?_
    refine aw_i2l C dL_breakOff_6 ?_
    refine aw_lastE C (hF _ _ ho hno) (by decide : (0 : Int32) = nI 0) ⟨by decide, by decide⟩ dL_breakOff_7 ?_
    refine aw_goto C (tgt := 14) dL_breakOff_8 (by decide) ?_
    refine aw_iconst C (v := 0) (by decide) dL_breakOff_14 ?_
    refine aw_iret C hQe ?_ (by omega) (by omega) dL_breakOff_15
    exact ⟨by rw [hc]; rfl, by rw [hc]; exact hX.wr hno, ⟨_, mp_s, fun _ => rfl⟩, hF.O.wr⟩
set_option maxRecDepth 100000 in
set_option maxHeartbeats 4000000 in
theorem k_L_ofArcher (hl9 : l.stackTraces = false) (H9 : LB s0) {μ : mu} {L : Nat → Nat → Nat} {S : SS} (h0 : RX g L S μ) (hI : Iv S) {o : Nat} {f : Nat → Int64} (ho : μ o = some (eJ g 1 f)) (hno : ∀ k i, vC k i → o ≠ L k i) {x w : Int32} : Cy l yL_ofArcher wsL_ofArcher (rmOf 9 2 12 230) s0 D (tyL g) [.ref (L 0 0), .int x, .int w, .ref o] μ 2 12 (fun v9 μ' => v9 = some (.int (nI (oaC S x w))) ∧ RX g L (if oaC S x w = 0 then S else S) μ' ∧ (∃ f' : Nat → Int64, μ' o = some (eJ g 1 f') ∧ (oaC S x w = 0 → f' 0 = (oaF S (ix x) (ix w)).toInt64)) ∧ FrO L o μ μ') (fun _ _ => False) := by
  have B := H9.B
  obtain ⟨fh, fv, hR⟩ := id h0
  refine Cy.ofH (cc := cL_ofArcher) (own := RL) (maxL := 5) (ret := (some .int)) (hh := [(0, 10, 13, 23), (0, 10, 17, 13)]) (by decide) rfl rfl (Nat.le_of_ble_eq_true rfl) ?_
  intro p e s m args below meth c Q C hE hT hQe
  refine aw_aload_n C dL_ofArcher_0 rfl ?_
  refine aw_iconst C (v := 0) (by decide) dL_ofArcher_1 ?_
  refine aw_aload_n C dL_ofArcher_2 rfl ?_
  refine aw_iload_n C dL_ofArcher_3 rfl ?_
  refine aw_iload_n C dL_ofArcher_4 rfl ?_
  refine ax_callVc (n := 2) C hE (ci := 6) (q := (RX4, TX4, 16)) (k_X4_ofArcher (x := x) (w := w) hl9 B h0 hI) gL_ofArcher_X4_ofArcher rfl ⟨rfl, rfl⟩ (by decide +kernel) ⟨by decide, by decide⟩ rfl rfl hR.mn rfl (Nat.le_of_ble_eq_true rfl) dL_ofArcher_5 ⟨by decide, by decide⟩ (fun E9 μ' hp => ?_) (fun v μ' hp => ?_)
  · obtain ⟨hp, hX, hF⟩ := hp
    rcases px9_2 hp with ⟨hc, rfl⟩ | ⟨hc, rfl⟩
    · refine ⟨13, ⟨[], ⟨0, 10, 13, 23⟩, [⟨0, 10, 17, 13⟩], IOB, hT, fun z hz => absurd hz List.not_mem_nil, by decide, by decide, by decide +kernel, B.xIO _ List.mem_cons_self, rfl⟩, fun q9 => ?_⟩
      refine aw_astore C dL_ofArcher_13 (by decide) ?_
      refine aw_iconst C (v := 1) (by decide) dL_ofArcher_15 ?_
      refine aw_iret C hQe ?_ (by omega) (by omega) dL_ofArcher_16
      exact ⟨by rw [hc]; rfl, by rw [hc]; exact hX, ⟨f, hF _ _ ho hno, fun q => absurd (hc.symm.trans q) (by decide)⟩, hF.O⟩
    · refine ⟨17, ⟨[⟨0, 10, 13, 23⟩], ⟨0, 10, 17, 13⟩, [], IAE, hT, fun z hz => by rw [List.mem_singleton.mp hz]; exact Or.inr ⟨by decide, IOB, by decide +kernel, H9.2.2.2⟩, by decide, by decide, by decide +kernel, B.xIA _ List.mem_cons_self, rfl⟩, fun q9 => ?_⟩
      refine aw_astore C dL_ofArcher_17 (by decide) ?_
      refine aw_iconst C (v := 2) (by decide) dL_ofArcher_19 ?_
      refine aw_iret C hQe ?_ (by omega) (by omega) dL_ofArcher_20
      exact ⟨by rw [hc]; rfl, by rw [hc]; exact hX, ⟨f, hF _ _ ho hno, fun q => absurd (hc.symm.trans q) (by decide)⟩, hF.O⟩
  · obtain ⟨hc, rfl, hX, hF⟩ := hp
    refine aw_st (st' := [.int (oaF S (ix x) (ix w)), .int 0, .ref o]) rfl ?_
    refine aw_i2l C dL_ofArcher_8 ?_
    refine aw_lastE C (hF _ _ ho hno) (by decide : (0 : Int32) = nI 0) ⟨by decide, by decide⟩ dL_ofArcher_9 ?_
    refine aw_goto C (tgt := 21) dL_ofArcher_10 (by decide) ?_
    refine aw_iconst C (v := 0) (by decide) dL_ofArcher_21 ?_
    refine aw_iret C hQe ?_ (by omega) (by omega) dL_ofArcher_22
    exact ⟨by rw [hc]; rfl, by rw [hc]; exact hX.wr hno, ⟨_, mp_s, fun _ => rfl⟩, hF.O.wr⟩
set_option maxRecDepth 100000 in
set_option maxHeartbeats 4000000 in
theorem k_L_speed (hl9 : l.stackTraces = false) (H9 : LB s0) {μ : mu} {L : Nat → Nat → Nat} {S : SS} (h0 : RX g L S μ) (hI : Iv S) {o : Nat} {f : Nat → UInt64} (ho : μ o = some (eD g 1 f)) (hno : ∀ k i, vC k i → o ≠ L k i) {x : Int32} : Cy l yL_speed wsL_speed (rmOf 9 1 6 230) s0 D (tyL g) [.ref (L 0 0), .int x, .ref o] μ 1 6 (fun v9 μ' => v9 = some (.int (nI (stC S x))) ∧ RX g L (if stC S x = 0 then S else S) μ' ∧ (∃ f' : Nat → UInt64, μ' o = some (eD g 1 f') ∧ (stC S x = 0 → f' 0 = (sdF S (ix x)))) ∧ FrO L o μ μ') (fun _ _ => False) := by
  have B := H9.B
  obtain ⟨fh, fv, hR⟩ := id h0
  refine Cy.ofH (cc := cL_speed) (own := RL) (maxL := 4) (ret := (some .int)) (hh := [(0, 8, 11, 23)]) (by decide) rfl rfl (Nat.le_of_ble_eq_true rfl) ?_
  intro p e s m args below meth c Q C hE hT hQe
  refine aw_aload_n C dL_speed_0 rfl ?_
  refine aw_iconst C (v := 0) (by decide) dL_speed_1 ?_
  refine aw_aload_n C dL_speed_2 rfl ?_
  refine aw_iload_n C dL_speed_3 rfl ?_
  refine ax_callVc (n := 1) C hE (ci := 6) (q := (RX4, TX4, 16)) (k_X4_speed (x := x) hl9 B h0 hI) gL_speed_X4_speed rfl ⟨rfl, rfl⟩ (by decide +kernel) ⟨by decide, by decide⟩ rfl rfl hR.mn rfl (Nat.le_of_ble_eq_true rfl) dL_speed_4 ⟨by decide, by decide⟩ (fun E9 μ' hp => ?_) (fun v μ' hp => ?_)
  · obtain ⟨hp, hX, hF⟩ := hp
    obtain ⟨hc, rfl⟩ := px9_1 hp
    refine ⟨11, ⟨[], ⟨0, 8, 11, 23⟩, [], IOB, hT, fun z hz => absurd hz List.not_mem_nil, by decide, by decide, by decide +kernel, B.xIO _ List.mem_cons_self, rfl⟩, fun q9 => ?_⟩
    refine aw_astore_n C dL_speed_11 (by decide) ?_
    refine aw_iconst C (v := 1) (by decide) dL_speed_12 ?_
    refine aw_iret C hQe ?_ (by omega) (by omega) dL_speed_13
    exact ⟨by rw [hc]; rfl, by rw [hc]; exact hX, ⟨f, hF _ _ ho hno, fun q => absurd (hc.symm.trans q) (by decide)⟩, hF.O⟩
  · obtain ⟨hc, rfl, hX, hF⟩ := hp
    refine aw_st (st' := [.double (sdF S (ix x)), .int 0, .ref o]) rfl ?_
    refine aw_dastE C (hF _ _ ho hno) (by decide : (0 : Int32) = nI 0) ⟨by decide, by decide⟩ dL_speed_7 ?_
    refine aw_goto C (tgt := 14) dL_speed_8 (by decide) ?_
    refine aw_iconst C (v := 0) (by decide) dL_speed_14 ?_
    refine aw_iret C hQe ?_ (by omega) (by omega) dL_speed_15
    exact ⟨by rw [hc]; rfl, by rw [hc]; exact hX.wr hno, ⟨_, mp_s, fun _ => rfl⟩, hF.O.wr⟩
set_option maxRecDepth 100000 in
set_option maxHeartbeats 4000000 in
theorem k_L_ofQuiver (hl9 : l.stackTraces = false) (H9 : LB s0) {μ : mu} {L : Nat → Nat → Nat} {S : SS} (h0 : RX g L S μ) (hI : Iv S) {o : Nat} {f : Nat → Int64} (ho : μ o = some (eJ g 1 f)) (hno : ∀ k i, vC k i → o ≠ L k i) {x w : Int32} : Cy l yL_ofQuiver wsL_ofQuiver (rmOf 9 2 12 230) s0 D (tyL g) [.ref (L 0 0), .int x, .int w, .ref o] μ 2 12 (fun v9 μ' => v9 = some (.int (nI (oqC S x w))) ∧ RX g L (if oqC S x w = 0 then S else S) μ' ∧ (∃ f' : Nat → Int64, μ' o = some (eJ g 1 f') ∧ (oqC S x w = 0 → f' 0 = (oqF S (ix x) (ix w)).toInt64)) ∧ FrO L o μ μ') (fun _ _ => False) := by
  have B := H9.B
  obtain ⟨fh, fv, hR⟩ := id h0
  refine Cy.ofH (cc := cL_ofQuiver) (own := RL) (maxL := 5) (ret := (some .int)) (hh := [(0, 10, 13, 23), (0, 10, 17, 13)]) (by decide) rfl rfl (Nat.le_of_ble_eq_true rfl) ?_
  intro p e s m args below meth c Q C hE hT hQe
  refine aw_aload_n C dL_ofQuiver_0 rfl ?_
  refine aw_iconst C (v := 0) (by decide) dL_ofQuiver_1 ?_
  refine aw_aload_n C dL_ofQuiver_2 rfl ?_
  refine aw_iload_n C dL_ofQuiver_3 rfl ?_
  refine aw_iload_n C dL_ofQuiver_4 rfl ?_
  refine ax_callVc (n := 2) C hE (ci := 6) (q := (RX4, TX4, 16)) (k_X4_ofQuiver (x := x) (w := w) hl9 B h0 hI) gL_ofQuiver_X4_ofQuiver rfl ⟨rfl, rfl⟩ (by decide +kernel) ⟨by decide, by decide⟩ rfl rfl hR.mn rfl (Nat.le_of_ble_eq_true rfl) dL_ofQuiver_5 ⟨by decide, by decide⟩ (fun E9 μ' hp => ?_) (fun v μ' hp => ?_)
  · obtain ⟨hp, hX, hF⟩ := hp
    rcases px9_2 hp with ⟨hc, rfl⟩ | ⟨hc, rfl⟩
    · refine ⟨13, ⟨[], ⟨0, 10, 13, 23⟩, [⟨0, 10, 17, 13⟩], IOB, hT, fun z hz => absurd hz List.not_mem_nil, by decide, by decide, by decide +kernel, B.xIO _ List.mem_cons_self, rfl⟩, fun q9 => ?_⟩
      refine aw_astore C dL_ofQuiver_13 (by decide) ?_
      refine aw_iconst C (v := 1) (by decide) dL_ofQuiver_15 ?_
      refine aw_iret C hQe ?_ (by omega) (by omega) dL_ofQuiver_16
      exact ⟨by rw [hc]; rfl, by rw [hc]; exact hX, ⟨f, hF _ _ ho hno, fun q => absurd (hc.symm.trans q) (by decide)⟩, hF.O⟩
    · refine ⟨17, ⟨[⟨0, 10, 13, 23⟩], ⟨0, 10, 17, 13⟩, [], IAE, hT, fun z hz => by rw [List.mem_singleton.mp hz]; exact Or.inr ⟨by decide, IOB, by decide +kernel, H9.2.2.2⟩, by decide, by decide, by decide +kernel, B.xIA _ List.mem_cons_self, rfl⟩, fun q9 => ?_⟩
      refine aw_astore C dL_ofQuiver_17 (by decide) ?_
      refine aw_iconst C (v := 2) (by decide) dL_ofQuiver_19 ?_
      refine aw_iret C hQe ?_ (by omega) (by omega) dL_ofQuiver_20
      exact ⟨by rw [hc]; rfl, by rw [hc]; exact hX, ⟨f, hF _ _ ho hno, fun q => absurd (hc.symm.trans q) (by decide)⟩, hF.O⟩
  · obtain ⟨hc, rfl, hX, hF⟩ := hp
    refine aw_st (st' := [.int (oqF S (ix x) (ix w)), .int 0, .ref o]) rfl ?_
    refine aw_i2l C dL_ofQuiver_8 ?_
    refine aw_lastE C (hF _ _ ho hno) (by decide : (0 : Int32) = nI 0) ⟨by decide, by decide⟩ dL_ofQuiver_9 ?_
    refine aw_goto C (tgt := 21) dL_ofQuiver_10 (by decide) ?_
    refine aw_iconst C (v := 0) (by decide) dL_ofQuiver_21 ?_
    refine aw_iret C hQe ?_ (by omega) (by omega) dL_ofQuiver_22
    exact ⟨by rw [hc]; rfl, by rw [hc]; exact hX.wr hno, ⟨_, mp_s, fun _ => rfl⟩, hF.O.wr⟩
set_option maxRecDepth 100000 in
set_option maxHeartbeats 4000000 in
theorem k_L_hit (hl9 : l.stackTraces = false) (H9 : LB s0) {μ : mu} {L : Nat → Nat → Nat} {S : SS} (h0 : RX g L S μ) (hI : Iv S) {o : Nat} {f : Nat → UInt64} (ho : μ o = some (eD g 1 f)) (hno : ∀ k i, vC k i → o ≠ L k i) {x y b : Int32} : Cy l yL_hit wsL_hit (rmOf 9 2 12 230) s0 D (tyL g) [.ref (L 0 0), .int x, .int y, .int b, .ref o] μ 2 12 (fun v9 μ' => v9 = some (.int (nI (hiC S x y))) ∧ RX g L (if hiC S x y = 0 then S else S) μ' ∧ (∃ f' : Nat → UInt64, μ' o = some (eD g 1 f') ∧ (hiC S x y = 0 → f' 0 = (hiF S (ix x) (ix y) b))) ∧ FrO L o μ μ') (fun _ _ => False) := by
  have B := H9.B
  obtain ⟨fh, fv, hR⟩ := id h0
  refine Cy.ofH (cc := cL_hit) (own := RL) (maxL := 6) (ret := (some .int)) (hh := [(0, 11, 14, 23)]) (by decide) rfl rfl (Nat.le_of_ble_eq_true rfl) ?_
  intro p e s m args below meth c Q C hE hT hQe
  refine aw_aload C dL_hit_0 rfl ?_
  refine aw_iconst C (v := 0) (by decide) dL_hit_2 ?_
  refine aw_aload_n C dL_hit_3 rfl ?_
  refine aw_iload_n C dL_hit_4 rfl ?_
  refine aw_iload_n C dL_hit_5 rfl ?_
  refine aw_iload_n C dL_hit_6 rfl ?_
  refine ax_callVc (n := 3) C hE (ci := 6) (q := (RX4, TX4, 16)) (k_X4_hit (x := x) (y := y) (b := b) hl9 B h0 hI) gL_hit_X4_hit rfl ⟨rfl, rfl⟩ (by decide +kernel) ⟨by decide, by decide⟩ rfl rfl hR.mn rfl (Nat.le_of_ble_eq_true rfl) dL_hit_7 ⟨by decide, by decide⟩ (fun E9 μ' hp => ?_) (fun v μ' hp => ?_)
  · obtain ⟨hp, hX, hF⟩ := hp
    obtain ⟨hc, rfl⟩ := px9_1 hp
    refine ⟨14, ⟨[], ⟨0, 11, 14, 23⟩, [], IOB, hT, fun z hz => absurd hz List.not_mem_nil, by decide, by decide, by decide +kernel, B.xIO _ List.mem_cons_self, rfl⟩, fun q9 => ?_⟩
    refine aw_astore C dL_hit_14 (by decide) ?_
    refine aw_iconst C (v := 1) (by decide) dL_hit_16 ?_
    refine aw_iret C hQe ?_ (by omega) (by omega) dL_hit_17
    exact ⟨by rw [hc]; rfl, by rw [hc]; exact hX, ⟨f, hF _ _ ho hno, fun q => absurd (hc.symm.trans q) (by decide)⟩, hF.O⟩
  · obtain ⟨hc, rfl, hX, hF⟩ := hp
    refine aw_st (st' := [.double (hiF S (ix x) (ix y) b), .int 0, .ref o]) rfl ?_
    refine aw_dastE C (hF _ _ ho hno) (by decide : (0 : Int32) = nI 0) ⟨by decide, by decide⟩ dL_hit_10 ?_
    refine aw_goto C (tgt := 18) dL_hit_11 (by decide) ?_
    refine aw_iconst C (v := 0) (by decide) dL_hit_18 ?_
    refine aw_iret C hQe ?_ (by omega) (by omega) dL_hit_19
    exact ⟨by rw [hc]; rfl, by rw [hc]; exact hX.wr hno, ⟨_, mp_s, fun _ => rfl⟩, hF.O.wr⟩
set_option maxRecDepth 100000 in
set_option maxHeartbeats 4000000 in
theorem k_L_many (hl9 : l.stackTraces = false) (H9 : LB s0) {μ : mu} {L : Nat → Nat → Nat} {S : SS} (h0 : RX g L S μ) (hI : Iv S) {o : Nat} {f : Nat → Int64} (ho : μ o = some (eJ g 1 f)) (hno : ∀ k i, vC k i → o ≠ L k i) {w : Int32} : Cy l yL_many wsL_many (rmOf 9 1 6 230) s0 D (tyL g) [.ref (L 0 0), .int w, .ref o] μ 1 6 (fun v9 μ' => v9 = some (.int (nI (mnC w))) ∧ RX g L (if mnC w = 0 then S else S) μ' ∧ (∃ f' : Nat → Int64, μ' o = some (eJ g 1 f') ∧ (mnC w = 0 → f' 0 = (mnF S (ix w)).toInt64)) ∧ FrO L o μ μ') (fun _ _ => False) := by
  have B := H9.B
  obtain ⟨fh, fv, hR⟩ := id h0
  refine Cy.ofH (cc := cL_many) (own := RL) (maxL := 4) (ret := (some .int)) (hh := [(0, 9, 12, 13)]) (by decide) rfl rfl (Nat.le_of_ble_eq_true rfl) ?_
  intro p e s m args below meth c Q C hE hT hQe
  refine aw_aload_n C dL_many_0 rfl ?_
  refine aw_iconst C (v := 0) (by decide) dL_many_1 ?_
  refine aw_aload_n C dL_many_2 rfl ?_
  refine aw_iload_n C dL_many_3 rfl ?_
  refine ax_callVc (n := 1) C hE (ci := 6) (q := (RX4, TX4, 16)) (k_X4_many (w := w) hl9 B h0 hI) gL_many_X4_many rfl ⟨rfl, rfl⟩ (by decide +kernel) ⟨by decide, by decide⟩ rfl rfl hR.mn rfl (Nat.le_of_ble_eq_true rfl) dL_many_4 ⟨by decide, by decide⟩ (fun E9 μ' hp => ?_) (fun v μ' hp => ?_)
  · obtain ⟨hp, hX, hF⟩ := hp
    obtain ⟨hc, rfl⟩ := px9_1 hp
    refine ⟨12, ⟨[], ⟨0, 9, 12, 13⟩, [], IAE, hT, fun z hz => absurd hz List.not_mem_nil, by decide, by decide, by decide +kernel, B.xIA _ List.mem_cons_self, rfl⟩, fun q9 => ?_⟩
    refine aw_astore_n C dL_many_12 (by decide) ?_
    refine aw_iconst C (v := 1) (by decide) dL_many_13 ?_
    refine aw_iret C hQe ?_ (by omega) (by omega) dL_many_14
    exact ⟨by rw [hc]; rfl, by rw [hc]; exact hX, ⟨f, hF _ _ ho hno, fun q => absurd (hc.symm.trans q) (by decide)⟩, hF.O⟩
  · obtain ⟨hc, rfl, hX, hF⟩ := hp
    refine aw_st (st' := [.int (mnF S (ix w)), .int 0, .ref o]) rfl ?_
    refine aw_i2l C dL_many_7 ?_
    refine aw_lastE C (hF _ _ ho hno) (by decide : (0 : Int32) = nI 0) ⟨by decide, by decide⟩ dL_many_8 ?_
    refine aw_goto C (tgt := 15) dL_many_9 (by decide) ?_
    refine aw_iconst C (v := 0) (by decide) dL_many_15 ?_
    refine aw_iret C hQe ?_ (by omega) (by omega) dL_many_16
    exact ⟨by rw [hc]; rfl, by rw [hc]; exact hX.wr hno, ⟨_, mp_s, fun _ => rfl⟩, hF.O.wr⟩
set_option maxRecDepth 100000 in
set_option maxHeartbeats 4000000 in
theorem k_L_ofMatch (hl9 : l.stackTraces = false) (H9 : LB s0) {μ : mu} {L : Nat → Nat → Nat} {S : SS} (h0 : RX g L S μ) (hI : Iv S) {o : Nat} {f : Nat → Int64} (ho : μ o = some (eJ g 1 f)) (hno : ∀ k i, vC k i → o ≠ L k i) {w : Int32} : Cy l yL_ofMatch wsL_ofMatch (rmOf 9 1 6 230) s0 D (tyL g) [.ref (L 0 0), .int w, .ref o] μ 1 6 (fun v9 μ' => v9 = some (.int (nI (omC w))) ∧ RX g L (if omC w = 0 then S else S) μ' ∧ (∃ f' : Nat → Int64, μ' o = some (eJ g 1 f') ∧ (omC w = 0 → f' 0 = (omF S (ix w)).toInt64)) ∧ FrO L o μ μ') (fun _ _ => False) := by
  have B := H9.B
  obtain ⟨fh, fv, hR⟩ := id h0
  refine Cy.ofH (cc := cL_ofMatch) (own := RL) (maxL := 4) (ret := (some .int)) (hh := [(0, 9, 12, 13)]) (by decide) rfl rfl (Nat.le_of_ble_eq_true rfl) ?_
  intro p e s m args below meth c Q C hE hT hQe
  refine aw_aload_n C dL_ofMatch_0 rfl ?_
  refine aw_iconst C (v := 0) (by decide) dL_ofMatch_1 ?_
  refine aw_aload_n C dL_ofMatch_2 rfl ?_
  refine aw_iload_n C dL_ofMatch_3 rfl ?_
  refine ax_callVc (n := 1) C hE (ci := 6) (q := (RX4, TX4, 16)) (k_X4_ofMatch (w := w) hl9 B h0 hI) gL_ofMatch_X4_ofMatch rfl ⟨rfl, rfl⟩ (by decide +kernel) ⟨by decide, by decide⟩ rfl rfl hR.mn rfl (Nat.le_of_ble_eq_true rfl) dL_ofMatch_4 ⟨by decide, by decide⟩ (fun E9 μ' hp => ?_) (fun v μ' hp => ?_)
  · obtain ⟨hp, hX, hF⟩ := hp
    obtain ⟨hc, rfl⟩ := px9_1 hp
    refine ⟨12, ⟨[], ⟨0, 9, 12, 13⟩, [], IAE, hT, fun z hz => absurd hz List.not_mem_nil, by decide, by decide, by decide +kernel, B.xIA _ List.mem_cons_self, rfl⟩, fun q9 => ?_⟩
    refine aw_astore_n C dL_ofMatch_12 (by decide) ?_
    refine aw_iconst C (v := 1) (by decide) dL_ofMatch_13 ?_
    refine aw_iret C hQe ?_ (by omega) (by omega) dL_ofMatch_14
    exact ⟨by rw [hc]; rfl, by rw [hc]; exact hX, ⟨f, hF _ _ ho hno, fun q => absurd (hc.symm.trans q) (by decide)⟩, hF.O⟩
  · obtain ⟨hc, rfl, hX, hF⟩ := hp
    refine aw_st (st' := [.int (omF S (ix w)), .int 0, .ref o]) rfl ?_
    refine aw_i2l C dL_ofMatch_7 ?_
    refine aw_lastE C (hF _ _ ho hno) (by decide : (0 : Int32) = nI 0) ⟨by decide, by decide⟩ dL_ofMatch_8 ?_
    refine aw_goto C (tgt := 15) dL_ofMatch_9 (by decide) ?_
    refine aw_iconst C (v := 0) (by decide) dL_ofMatch_15 ?_
    refine aw_iret C hQe ?_ (by omega) (by omega) dL_ofMatch_16
    exact ⟨by rw [hc]; rfl, by rw [hc]; exact hX.wr hno, ⟨_, mp_s, fun _ => rfl⟩, hF.O.wr⟩
set_option maxRecDepth 100000 in
set_option maxHeartbeats 4000000 in
theorem k_L_wouldHit (hl9 : l.stackTraces = false) (H9 : LB s0) {μ : mu} {L : Nat → Nat → Nat} {S : SS} (h0 : RX g L S μ) (hI : Iv S) {o : Nat} {f : Nat → UInt64} (ho : μ o = some (eD g 1 f)) (hno : ∀ k i, vC k i → o ≠ L k i) {x w b : Int32} : Cy l yL_wouldHit wsL_wouldHit (rmOf 9 3 18 230) s0 D (tyL g) [.ref (L 0 0), .int x, .int w, .int b, .ref o] μ 3 18 (fun v9 μ' => v9 = some (.int (nI (whC S x w))) ∧ RX g L (if whC S x w = 0 then S else S) μ' ∧ (∃ f' : Nat → UInt64, μ' o = some (eD g 1 f') ∧ (whC S x w = 0 → f' 0 = (whF S (ix x) w b))) ∧ FrO L o μ μ') (fun _ _ => False) := by
  have B := H9.B
  obtain ⟨fh, fv, hR⟩ := id h0
  refine Cy.ofH (cc := cL_wouldHit) (own := RL) (maxL := 6) (ret := (some .int)) (hh := [(0, 11, 14, 23), (0, 11, 18, 13), (0, 11, 22, 15)]) (by decide) rfl rfl (Nat.le_of_ble_eq_true rfl) ?_
  intro p e s m args below meth c Q C hE hT hQe
  refine aw_aload C dL_wouldHit_0 rfl ?_
  refine aw_iconst C (v := 0) (by decide) dL_wouldHit_2 ?_
  refine aw_aload_n C dL_wouldHit_3 rfl ?_
  refine aw_iload_n C dL_wouldHit_4 rfl ?_
  refine aw_iload_n C dL_wouldHit_5 rfl ?_
  refine aw_iload_n C dL_wouldHit_6 rfl ?_
  refine ax_callVc (n := 3) C hE (ci := 6) (q := (RX4, TX4, 16)) (k_X4_wouldHit (x := x) (w := w) (b := b) hl9 B h0 hI) gL_wouldHit_X4_wouldHit rfl ⟨rfl, rfl⟩ (by decide +kernel) ⟨by decide, by decide⟩ rfl rfl hR.mn rfl (Nat.le_of_ble_eq_true rfl) dL_wouldHit_7 ⟨by decide, by decide⟩ (fun E9 μ' hp => ?_) (fun v μ' hp => ?_)
  · obtain ⟨hp, hX, hF⟩ := hp
    rcases px9_3 hp with ⟨hc, rfl⟩ | ⟨hc, rfl⟩ | ⟨hc, rfl⟩
    · refine ⟨14, ⟨[], ⟨0, 11, 14, 23⟩, [⟨0, 11, 18, 13⟩, ⟨0, 11, 22, 15⟩], IOB, hT, fun z hz => absurd hz List.not_mem_nil, by decide, by decide, by decide +kernel, B.xIO _ List.mem_cons_self, rfl⟩, fun q9 => ?_⟩
      refine aw_astore C dL_wouldHit_14 (by decide) ?_
      refine aw_iconst C (v := 1) (by decide) dL_wouldHit_16 ?_
      refine aw_iret C hQe ?_ (by omega) (by omega) dL_wouldHit_17
      exact ⟨by rw [hc]; rfl, by rw [hc]; exact hX, ⟨f, hF _ _ ho hno, fun q => absurd (hc.symm.trans q) (by decide)⟩, hF.O⟩
    · refine ⟨18, ⟨[⟨0, 11, 14, 23⟩], ⟨0, 11, 18, 13⟩, [⟨0, 11, 22, 15⟩], IAE, hT, fun z hz => by rw [List.mem_singleton.mp hz]; exact Or.inr ⟨by decide, IOB, by decide +kernel, H9.2.2.2⟩, by decide, by decide, by decide +kernel, B.xIA _ List.mem_cons_self, rfl⟩, fun q9 => ?_⟩
      refine aw_astore C dL_wouldHit_18 (by decide) ?_
      refine aw_iconst C (v := 2) (by decide) dL_wouldHit_20 ?_
      refine aw_iret C hQe ?_ (by omega) (by omega) dL_wouldHit_21
      exact ⟨by rw [hc]; rfl, by rw [hc]; exact hX, ⟨f, hF _ _ ho hno, fun q => absurd (hc.symm.trans q) (by decide)⟩, hF.O⟩
    · refine ⟨22, ⟨[⟨0, 11, 14, 23⟩, ⟨0, 11, 18, 13⟩], ⟨0, 11, 22, 15⟩, [], ISE, hT, fun z hz => by rcases List.mem_cons.mp hz with rfl | hz; exact Or.inr ⟨by decide, IOB, by decide +kernel, H9.2.2.1⟩; rw [List.mem_singleton.mp hz]; exact Or.inr ⟨by decide, IAE, by decide +kernel, H9.2.1⟩, by decide, by decide, by decide +kernel, B.xIS _ List.mem_cons_self, rfl⟩, fun q9 => ?_⟩
      refine aw_astore C dL_wouldHit_22 (by decide) ?_
      refine aw_iconst C (v := 3) (by decide) dL_wouldHit_24 ?_
      refine aw_iret C hQe ?_ (by omega) (by omega) dL_wouldHit_25
      exact ⟨by rw [hc]; rfl, by rw [hc]; exact hX, ⟨f, hF _ _ ho hno, fun q => absurd (hc.symm.trans q) (by decide)⟩, hF.O⟩
  · obtain ⟨hc, rfl, hX, hF⟩ := hp
    refine aw_st (st' := [.double (whF S (ix x) w b), .int 0, .ref o]) rfl ?_
    refine aw_dastE C (hF _ _ ho hno) (by decide : (0 : Int32) = nI 0) ⟨by decide, by decide⟩ dL_wouldHit_10 ?_
    refine aw_goto C (tgt := 26) dL_wouldHit_11 (by decide) ?_
    refine aw_iconst C (v := 0) (by decide) dL_wouldHit_26 ?_
    refine aw_iret C hQe ?_ (by omega) (by omega) dL_wouldHit_27
    exact ⟨by rw [hc]; rfl, by rw [hc]; exact hX.wr hno, ⟨_, mp_s, fun _ => rfl⟩, hF.O.wr⟩
set_option maxRecDepth 100000 in
set_option maxHeartbeats 4000000 in
theorem k_L_mark (hl9 : l.stackTraces = false) (H9 : LB s0) {μ : mu} {L : Nat → Nat → Nat} {S : SS} (h0 : RX g L S μ) (hI : Iv S) {o : Nat} {f : Nat → Int64} (ho : μ o = some (eJ g 1 f)) (hno : ∀ k i, vC k i → o ≠ L k i) {x : Int32} : Cy l yL_mark wsL_mark (rmOf 9 2 12 230) s0 D (tyL g) [.ref (L 0 0), .int x, .ref o] μ 2 12 (fun v9 μ' => v9 = some (.int (nI (rdC S x))) ∧ RX g L (if rdC S x = 0 then S else S) μ' ∧ (∃ f' : Nat → Int64, μ' o = some (eJ g 1 f') ∧ (rdC S x = 0 → f' 0 = (mkF S (ix x)).toInt64)) ∧ FrO L o μ μ') (fun _ _ => False) := by
  have B := H9.B
  obtain ⟨fh, fv, hR⟩ := id h0
  refine Cy.ofH (cc := cL_mark) (own := RL) (maxL := 4) (ret := (some .int)) (hh := [(0, 9, 12, 23), (0, 9, 15, 15)]) (by decide) rfl rfl (Nat.le_of_ble_eq_true rfl) ?_
  intro p e s m args below meth c Q C hE hT hQe
  refine aw_aload_n C dL_mark_0 rfl ?_
  refine aw_iconst C (v := 0) (by decide) dL_mark_1 ?_
  refine aw_aload_n C dL_mark_2 rfl ?_
  refine aw_iload_n C dL_mark_3 rfl ?_
  refine ax_callVc (n := 1) C hE (ci := 6) (q := (RX4, TX4, 16)) (k_X4_mark (x := x) hl9 B h0 hI) gL_mark_X4_mark rfl ⟨rfl, rfl⟩ (by decide +kernel) ⟨by decide, by decide⟩ rfl rfl hR.mn rfl (Nat.le_of_ble_eq_true rfl) dL_mark_4 ⟨by decide, by decide⟩ (fun E9 μ' hp => ?_) (fun v μ' hp => ?_)
  · obtain ⟨hp, hX, hF⟩ := hp
    rcases px9_2 hp with ⟨hc, rfl⟩ | ⟨hc, rfl⟩
    · refine ⟨12, ⟨[], ⟨0, 9, 12, 23⟩, [⟨0, 9, 15, 15⟩], IOB, hT, fun z hz => absurd hz List.not_mem_nil, by decide, by decide, by decide +kernel, B.xIO _ List.mem_cons_self, rfl⟩, fun q9 => ?_⟩
      refine aw_astore_n C dL_mark_12 (by decide) ?_
      refine aw_iconst C (v := 1) (by decide) dL_mark_13 ?_
      refine aw_iret C hQe ?_ (by omega) (by omega) dL_mark_14
      exact ⟨by rw [hc]; rfl, by rw [hc]; exact hX, ⟨f, hF _ _ ho hno, fun q => absurd (hc.symm.trans q) (by decide)⟩, hF.O⟩
    · refine ⟨15, ⟨[⟨0, 9, 12, 23⟩], ⟨0, 9, 15, 15⟩, [], ISE, hT, fun z hz => by rw [List.mem_singleton.mp hz]; exact Or.inr ⟨by decide, IOB, by decide +kernel, H9.2.2.1⟩, by decide, by decide, by decide +kernel, B.xIS _ List.mem_cons_self, rfl⟩, fun q9 => ?_⟩
      refine aw_astore_n C dL_mark_15 (by decide) ?_
      refine aw_iconst C (v := 2) (by decide) dL_mark_16 ?_
      refine aw_iret C hQe ?_ (by omega) (by omega) dL_mark_17
      exact ⟨by rw [hc]; rfl, by rw [hc]; exact hX, ⟨f, hF _ _ ho hno, fun q => absurd (hc.symm.trans q) (by decide)⟩, hF.O⟩
  · obtain ⟨hc, rfl, hX, hF⟩ := hp
    refine aw_st (st' := [.int (mkF S (ix x)), .int 0, .ref o]) rfl ?_
    refine aw_i2l C dL_mark_7 ?_
    refine aw_lastE C (hF _ _ ho hno) (by decide : (0 : Int32) = nI 0) ⟨by decide, by decide⟩ dL_mark_8 ?_
    refine aw_goto C (tgt := 18) dL_mark_9 (by decide) ?_
    refine aw_iconst C (v := 0) (by decide) dL_mark_18 ?_
    refine aw_iret C hQe ?_ (by omega) (by omega) dL_mark_19
    exact ⟨by rw [hc]; rfl, by rw [hc]; exact hX.wr hno, ⟨_, mp_s, fun _ => rfl⟩, hF.O.wr⟩
set_option maxRecDepth 100000 in
set_option maxHeartbeats 4000000 in
theorem k_L_best (hl9 : l.stackTraces = false) (H9 : LB s0) {μ : mu} {L : Nat → Nat → Nat} {S : SS} (h0 : RX g L S μ) (hI : Iv S) {o : Nat} {f : Nat → Int64} (ho : μ o = some (eJ g 1 f)) (hno : ∀ k i, vC k i → o ≠ L k i) {x : Int32} : Cy l yL_best wsL_best (rmOf 9 1 6 230) s0 D (tyL g) [.ref (L 0 0), .int x, .ref o] μ 1 6 (fun v9 μ' => v9 = some (.int (nI (stC S x))) ∧ RX g L (if stC S x = 0 then S else S) μ' ∧ (∃ f' : Nat → Int64, μ' o = some (eJ g 1 f') ∧ (stC S x = 0 → f' 0 = (beF S (ix x)).toInt64)) ∧ FrO L o μ μ') (fun _ _ => False) := by
  have B := H9.B
  obtain ⟨fh, fv, hR⟩ := id h0
  refine Cy.ofH (cc := cL_best) (own := RL) (maxL := 4) (ret := (some .int)) (hh := [(0, 9, 12, 23)]) (by decide) rfl rfl (Nat.le_of_ble_eq_true rfl) ?_
  intro p e s m args below meth c Q C hE hT hQe
  refine aw_aload_n C dL_best_0 rfl ?_
  refine aw_iconst C (v := 0) (by decide) dL_best_1 ?_
  refine aw_aload_n C dL_best_2 rfl ?_
  refine aw_iload_n C dL_best_3 rfl ?_
  refine ax_callVc (n := 1) C hE (ci := 6) (q := (RX4, TX4, 16)) (k_X4_best (x := x) hl9 B h0 hI) gL_best_X4_best rfl ⟨rfl, rfl⟩ (by decide +kernel) ⟨by decide, by decide⟩ rfl rfl hR.mn rfl (Nat.le_of_ble_eq_true rfl) dL_best_4 ⟨by decide, by decide⟩ (fun E9 μ' hp => ?_) (fun v μ' hp => ?_)
  · obtain ⟨hp, hX, hF⟩ := hp
    obtain ⟨hc, rfl⟩ := px9_1 hp
    refine ⟨12, ⟨[], ⟨0, 9, 12, 23⟩, [], IOB, hT, fun z hz => absurd hz List.not_mem_nil, by decide, by decide, by decide +kernel, B.xIO _ List.mem_cons_self, rfl⟩, fun q9 => ?_⟩
    refine aw_astore_n C dL_best_12 (by decide) ?_
    refine aw_iconst C (v := 1) (by decide) dL_best_13 ?_
    refine aw_iret C hQe ?_ (by omega) (by omega) dL_best_14
    exact ⟨by rw [hc]; rfl, by rw [hc]; exact hX, ⟨f, hF _ _ ho hno, fun q => absurd (hc.symm.trans q) (by decide)⟩, hF.O⟩
  · obtain ⟨hc, rfl, hX, hF⟩ := hp
    refine aw_st (st' := [.int (beF S (ix x)), .int 0, .ref o]) rfl ?_
    refine aw_i2l C dL_best_7 ?_
    refine aw_lastE C (hF _ _ ho hno) (by decide : (0 : Int32) = nI 0) ⟨by decide, by decide⟩ dL_best_8 ?_
    refine aw_goto C (tgt := 15) dL_best_9 (by decide) ?_
    refine aw_iconst C (v := 0) (by decide) dL_best_15 ?_
    refine aw_iret C hQe ?_ (by omega) (by omega) dL_best_16
    exact ⟨by rw [hc]; rfl, by rw [hc]; exact hX.wr hno, ⟨_, mp_s, fun _ => rfl⟩, hF.O.wr⟩
set_option maxRecDepth 100000 in
set_option maxHeartbeats 4000000 in
theorem k_L_reach (hl9 : l.stackTraces = false) (H9 : LB s0) {μ : mu} {L : Nat → Nat → Nat} {S : SS} (h0 : RX g L S μ) (hI : Iv S) {o : Nat} {f : Nat → Int64} (ho : μ o = some (eJ g 1 f)) (hno : ∀ k i, vC k i → o ≠ L k i) {x : Int32} : Cy l yL_reach wsL_reach (rmOf 9 2 12 230) s0 D (tyL g) [.ref (L 0 0), .int x, .ref o] μ 2 12 (fun v9 μ' => v9 = some (.int (nI (rdC S x))) ∧ RX g L (if rdC S x = 0 then S else S) μ' ∧ (∃ f' : Nat → Int64, μ' o = some (eJ g 1 f') ∧ (rdC S x = 0 → f' 0 = (reF S (ix x)).toInt64)) ∧ FrO L o μ μ') (fun _ _ => False) := by
  have B := H9.B
  obtain ⟨fh, fv, hR⟩ := id h0
  refine Cy.ofH (cc := cL_reach) (own := RL) (maxL := 4) (ret := (some .int)) (hh := [(0, 9, 12, 23), (0, 9, 15, 15)]) (by decide) rfl rfl (Nat.le_of_ble_eq_true rfl) ?_
  intro p e s m args below meth c Q C hE hT hQe
  refine aw_aload_n C dL_reach_0 rfl ?_
  refine aw_iconst C (v := 0) (by decide) dL_reach_1 ?_
  refine aw_aload_n C dL_reach_2 rfl ?_
  refine aw_iload_n C dL_reach_3 rfl ?_
  refine ax_callVc (n := 1) C hE (ci := 6) (q := (RX4, TX4, 16)) (k_X4_reach (x := x) hl9 B h0 hI) gL_reach_X4_reach rfl ⟨rfl, rfl⟩ (by decide +kernel) ⟨by decide, by decide⟩ rfl rfl hR.mn rfl (Nat.le_of_ble_eq_true rfl) dL_reach_4 ⟨by decide, by decide⟩ (fun E9 μ' hp => ?_) (fun v μ' hp => ?_)
  · obtain ⟨hp, hX, hF⟩ := hp
    rcases px9_2 hp with ⟨hc, rfl⟩ | ⟨hc, rfl⟩
    · refine ⟨12, ⟨[], ⟨0, 9, 12, 23⟩, [⟨0, 9, 15, 15⟩], IOB, hT, fun z hz => absurd hz List.not_mem_nil, by decide, by decide, by decide +kernel, B.xIO _ List.mem_cons_self, rfl⟩, fun q9 => ?_⟩
      refine aw_astore_n C dL_reach_12 (by decide) ?_
      refine aw_iconst C (v := 1) (by decide) dL_reach_13 ?_
      refine aw_iret C hQe ?_ (by omega) (by omega) dL_reach_14
      exact ⟨by rw [hc]; rfl, by rw [hc]; exact hX, ⟨f, hF _ _ ho hno, fun q => absurd (hc.symm.trans q) (by decide)⟩, hF.O⟩
    · refine ⟨15, ⟨[⟨0, 9, 12, 23⟩], ⟨0, 9, 15, 15⟩, [], ISE, hT, fun z hz => by rw [List.mem_singleton.mp hz]; exact Or.inr ⟨by decide, IOB, by decide +kernel, H9.2.2.1⟩, by decide, by decide, by decide +kernel, B.xIS _ List.mem_cons_self, rfl⟩, fun q9 => ?_⟩
      refine aw_astore_n C dL_reach_15 (by decide) ?_
      refine aw_iconst C (v := 2) (by decide) dL_reach_16 ?_
      refine aw_iret C hQe ?_ (by omega) (by omega) dL_reach_17
      exact ⟨by rw [hc]; rfl, by rw [hc]; exact hX, ⟨f, hF _ _ ho hno, fun q => absurd (hc.symm.trans q) (by decide)⟩, hF.O⟩
  · obtain ⟨hc, rfl, hX, hF⟩ := hp
    refine aw_st (st' := [.int (reF S (ix x)), .int 0, .ref o]) rfl ?_
    refine aw_i2l C dL_reach_7 ?_
    refine aw_lastE C (hF _ _ ho hno) (by decide : (0 : Int32) = nI 0) ⟨by decide, by decide⟩ dL_reach_8 ?_
    refine aw_goto C (tgt := 18) dL_reach_9 (by decide) ?_
    refine aw_iconst C (v := 0) (by decide) dL_reach_18 ?_
    refine aw_iret C hQe ?_ (by omega) (by omega) dL_reach_19
    exact ⟨by rw [hc]; rfl, by rw [hc]; exact hX.wr hno, ⟨_, mp_s, fun _ => rfl⟩, hF.O.wr⟩
set_option maxRecDepth 100000 in
set_option maxHeartbeats 4000000 in
theorem k_L_wouldScore (hl9 : l.stackTraces = false) (H9 : LB s0) {μ : mu} {L : Nat → Nat → Nat} {S : SS} (h0 : RX g L S μ) (hI : Iv S) {o : Nat} {f : Nat → Int64} (ho : μ o = some (eJ g 1 f)) (hno : ∀ k i, vC k i → o ≠ L k i) {x : Int32} : Cy l yL_wouldScore wsL_wouldScore (rmOf 9 2 12 230) s0 D (tyL g) [.ref (L 0 0), .int x, .ref o] μ 2 12 (fun v9 μ' => v9 = some (.int (nI (rdC S x))) ∧ RX g L (if rdC S x = 0 then S else S) μ' ∧ (∃ f' : Nat → Int64, μ' o = some (eJ g 1 f') ∧ (rdC S x = 0 → f' 0 = (wsF S (ix x)).toInt64)) ∧ FrO L o μ μ') (fun _ _ => False) := by
  have B := H9.B
  obtain ⟨fh, fv, hR⟩ := id h0
  refine Cy.ofH (cc := cL_wouldScore) (own := RL) (maxL := 4) (ret := (some .int)) (hh := [(0, 9, 12, 23), (0, 9, 15, 15)]) (by decide) rfl rfl (Nat.le_of_ble_eq_true rfl) ?_
  intro p e s m args below meth c Q C hE hT hQe
  refine aw_aload_n C dL_wouldScore_0 rfl ?_
  refine aw_iconst C (v := 0) (by decide) dL_wouldScore_1 ?_
  refine aw_aload_n C dL_wouldScore_2 rfl ?_
  refine aw_iload_n C dL_wouldScore_3 rfl ?_
  refine ax_callVc (n := 1) C hE (ci := 6) (q := (RX4, TX4, 16)) (k_X4_wouldScore (x := x) hl9 B h0 hI) gL_wouldScore_X4_wouldScore rfl ⟨rfl, rfl⟩ (by decide +kernel) ⟨by decide, by decide⟩ rfl rfl hR.mn rfl (Nat.le_of_ble_eq_true rfl) dL_wouldScore_4 ⟨by decide, by decide⟩ (fun E9 μ' hp => ?_) (fun v μ' hp => ?_)
  · obtain ⟨hp, hX, hF⟩ := hp
    rcases px9_2 hp with ⟨hc, rfl⟩ | ⟨hc, rfl⟩
    · refine ⟨12, ⟨[], ⟨0, 9, 12, 23⟩, [⟨0, 9, 15, 15⟩], IOB, hT, fun z hz => absurd hz List.not_mem_nil, by decide, by decide, by decide +kernel, B.xIO _ List.mem_cons_self, rfl⟩, fun q9 => ?_⟩
      refine aw_astore_n C dL_wouldScore_12 (by decide) ?_
      refine aw_iconst C (v := 1) (by decide) dL_wouldScore_13 ?_
      refine aw_iret C hQe ?_ (by omega) (by omega) dL_wouldScore_14
      exact ⟨by rw [hc]; rfl, by rw [hc]; exact hX, ⟨f, hF _ _ ho hno, fun q => absurd (hc.symm.trans q) (by decide)⟩, hF.O⟩
    · refine ⟨15, ⟨[⟨0, 9, 12, 23⟩], ⟨0, 9, 15, 15⟩, [], ISE, hT, fun z hz => by rw [List.mem_singleton.mp hz]; exact Or.inr ⟨by decide, IOB, by decide +kernel, H9.2.2.1⟩, by decide, by decide, by decide +kernel, B.xIS _ List.mem_cons_self, rfl⟩, fun q9 => ?_⟩
      refine aw_astore_n C dL_wouldScore_15 (by decide) ?_
      refine aw_iconst C (v := 2) (by decide) dL_wouldScore_16 ?_
      refine aw_iret C hQe ?_ (by omega) (by omega) dL_wouldScore_17
      exact ⟨by rw [hc]; rfl, by rw [hc]; exact hX, ⟨f, hF _ _ ho hno, fun q => absurd (hc.symm.trans q) (by decide)⟩, hF.O⟩
  · obtain ⟨hc, rfl, hX, hF⟩ := hp
    refine aw_st (st' := [.int (wsF S (ix x)), .int 0, .ref o]) rfl ?_
    refine aw_i2l C dL_wouldScore_7 ?_
    refine aw_lastE C (hF _ _ ho hno) (by decide : (0 : Int32) = nI 0) ⟨by decide, by decide⟩ dL_wouldScore_8 ?_
    refine aw_goto C (tgt := 18) dL_wouldScore_9 (by decide) ?_
    refine aw_iconst C (v := 0) (by decide) dL_wouldScore_18 ?_
    refine aw_iret C hQe ?_ (by omega) (by omega) dL_wouldScore_19
    exact ⟨by rw [hc]; rfl, by rw [hc]; exact hX.wr hno, ⟨_, mp_s, fun _ => rfl⟩, hF.O.wr⟩
end KL
