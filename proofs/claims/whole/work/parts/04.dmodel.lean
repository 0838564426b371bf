set_option maxRecDepth 20000 in
theorem ggX7_init_Jx4a65c_init_da8c8 : GoodIn wsX7_init wsJx4a65c_init_da8c8 := goodIn_r _ [18, 19, 20, 21, 22, 23, 24, 25, 26, 27, 28, 29, 30, 2, 3, 31, 32, 33] (by decide +kernel) (by decide +kernel)
set_option maxRecDepth 20000 in
theorem gX7_init_Jx4a65c_init_da8c8 : GoodIn wsX7_init (wsJx4a65c_init_da8c8) := ggX7_init_Jx4a65c_init_da8c8
theorem dX7_init_0 : decode cX7_init 0 = .ok (.aload_n 0, 1) := by decide +kernel
theorem dX7_init_1 : decode cX7_init 1 = .ok (.invokespecial 1, 3) := by decide +kernel
theorem dX7_init_4 : decode cX7_init 4 = .ok (.aload_n 0, 1) := by decide +kernel
theorem dX7_init_5 : decode cX7_init 5 = .ok (.new 7, 3) := by decide +kernel
theorem dX7_init_8 : decode cX7_init 8 = .ok (.dup, 1) := by decide +kernel
theorem dX7_init_9 : decode cX7_init 9 = .ok (.invokespecial 9, 3) := by decide +kernel
theorem dX7_init_12 : decode cX7_init 12 = .ok (.putfield 10, 3) := by decide +kernel
theorem dX7_init_15 : decode cX7_init 15 = .ok (.aload_n 0, 1) := by decide +kernel
theorem dX7_init_16 : decode cX7_init 16 = .ok (.new 7, 3) := by decide +kernel
theorem dX7_init_19 : decode cX7_init 19 = .ok (.dup, 1) := by decide +kernel
theorem dX7_init_20 : decode cX7_init 20 = .ok (.invokespecial 9, 3) := by decide +kernel
theorem dX7_init_23 : decode cX7_init 23 = .ok (.putfield 16, 3) := by decide +kernel
theorem dX7_init_26 : decode cX7_init 26 = .ok (.aload_n 0, 1) := by decide +kernel
theorem dX7_init_27 : decode cX7_init 27 = .ok (.bipush 18, 2) := by decide +kernel
theorem dX7_init_29 : decode cX7_init 29 = .ok (.putfield 19, 3) := by decide +kernel
theorem dX7_init_32 : decode cX7_init 32 = .ok (.aload_n 0, 1) := by decide +kernel
theorem dX7_init_33 : decode cX7_init 33 = .ok (.iconst 4, 1) := by decide +kernel
theorem dX7_init_34 : decode cX7_init 34 = .ok (.putfield 23, 3) := by decide +kernel
theorem dX7_init_37 : decode cX7_init 37 = .ok (.aload_n 0, 1) := by decide +kernel
theorem dX7_init_38 : decode cX7_init 38 = .ok (.iconst (-1), 1) := by decide +kernel
theorem dX7_init_39 : decode cX7_init 39 = .ok (.putfield 26, 3) := by decide +kernel
theorem dX7_init_42 : decode cX7_init 42 = .ok (.aload_n 0, 1) := by decide +kernel
theorem dX7_init_43 : decode cX7_init 43 = .ok (.iconst 2, 1) := by decide +kernel
theorem dX7_init_44 : decode cX7_init 44 = .ok (.newarray .int, 2) := by decide +kernel
theorem dX7_init_46 : decode cX7_init 46 = .ok (.dup, 1) := by decide +kernel
theorem dX7_init_47 : decode cX7_init 47 = .ok (.iconst 0, 1) := by decide +kernel
theorem dX7_init_48 : decode cX7_init 48 = .ok (.iconst (-1), 1) := by decide +kernel
theorem dX7_init_49 : decode cX7_init 49 = .ok (.iastore, 1) := by decide +kernel
theorem dX7_init_50 : decode cX7_init 50 = .ok (.dup, 1) := by decide +kernel
theorem dX7_init_51 : decode cX7_init 51 = .ok (.iconst 1, 1) := by decide +kernel
theorem dX7_init_52 : decode cX7_init 52 = .ok (.iconst (-1), 1) := by decide +kernel
theorem dX7_init_53 : decode cX7_init 53 = .ok (.iastore, 1) := by decide +kernel
theorem dX7_init_54 : decode cX7_init 54 = .ok (.putfield 29, 3) := by decide +kernel
theorem dX7_init_57 : decode cX7_init 57 = .ok (.aload_n 0, 1) := by decide +kernel
theorem dX7_init_58 : decode cX7_init 58 = .ok (.iconst 2, 1) := by decide +kernel
theorem dX7_init_59 : decode cX7_init 59 = .ok (.newarray .int, 2) := by decide +kernel
theorem dX7_init_61 : decode cX7_init 61 = .ok (.putfield 33, 3) := by decide +kernel
theorem dX7_init_64 : decode cX7_init 64 = .ok (.aload_n 0, 1) := by decide +kernel
theorem dX7_init_65 : decode cX7_init 65 = .ok (.iconst 2, 1) := by decide +kernel
theorem dX7_init_66 : decode cX7_init 66 = .ok (.newarray .int, 2) := by decide +kernel
theorem dX7_init_68 : decode cX7_init 68 = .ok (.putfield 36, 3) := by decide +kernel
theorem dX7_init_71 : decode cX7_init 71 = .ok (.return_, 1) := by decide +kernel
theorem dX7_thrown_0 : decode cX7_thrown 0 = .ok (.aload_n 0, 1) := by decide +kernel
theorem dX7_thrown_1 : decode cX7_thrown 1 = .ok (.getfield 39, 3) := by decide +kernel
theorem dX7_thrown_4 : decode cX7_thrown 4 = .ok (.ireturn, 1) := by decide +kernel
theorem dX7_refuse_0 : decode cX7_refuse 0 = .ok (.aload_n 0, 1) := by decide +kernel
theorem dX7_refuse_1 : decode cX7_refuse 1 = .ok (.iload_n 1, 1) := by decide +kernel
theorem dX7_refuse_2 : decode cX7_refuse 2 = .ok (.putfield 39, 3) := by decide +kernel
theorem dX7_refuse_5 : decode cX7_refuse 5 = .ok (.iconst 0, 1) := by decide +kernel
theorem dX7_refuse_6 : decode cX7_refuse 6 = .ok (.ireturn, 1) := by decide +kernel
theorem dX7_is_0 : decode cX7_is 0 = .ok (.iload_n 0, 1) := by decide +kernel
theorem dX7_is_1 : decode cX7_is 1 = .ok (.iload_n 1, 1) := by decide +kernel
theorem dX7_is_2 : decode cX7_is 2 = .ok (.if_icmp .lt 12, 3) := by decide +kernel
theorem dX7_is_5 : decode cX7_is 5 = .ok (.iload_n 0, 1) := by decide +kernel
theorem dX7_is_6 : decode cX7_is 6 = .ok (.iload_n 2, 1) := by decide +kernel
theorem dX7_is_7 : decode cX7_is 7 = .ok (.if_icmp .gt 7, 3) := by decide +kernel
theorem dX7_is_10 : decode cX7_is 10 = .ok (.iconst 1, 1) := by decide +kernel
theorem dX7_is_11 : decode cX7_is 11 = .ok (.goto 4, 3) := by decide +kernel
theorem dX7_is_14 : decode cX7_is 14 = .ok (.iconst 0, 1) := by decide +kernel
theorem dX7_is_15 : decode cX7_is 15 = .ok (.ireturn, 1) := by decide +kernel
set_option maxRecDepth 20000 in
theorem ggX7_isArcher_Jx4a65c_size_8abf5 : GoodIn wsX7_isArcher wsJx4a65c_size_8abf5 := goodIn_r _ [6, 7, 34, 35, 36] (by decide +kernel) (by decide +kernel)
set_option maxRecDepth 20000 in
theorem gX7_isArcher_Jx4a65c_size_8abf5 : GoodIn wsX7_isArcher (wsV RX7 42 RJx4a65c yJx4a65c_size_8abf5 wsJx4a65c_size_8abf5) := goodIn_app (goodIn_of _ (by decide +kernel)) ggX7_isArcher_Jx4a65c_size_8abf5
set_option maxRecDepth 20000 in
theorem ggX7_isArcher_X7_is : GoodIn wsX7_isArcher wsX7_is := goodIn_r _ [11] (by decide +kernel) (by decide +kernel)
set_option maxRecDepth 20000 in
theorem gX7_isArcher_X7_is : GoodIn wsX7_isArcher (va_wsS RX7 46 yX7_is wsX7_is) := goodIn_app (goodIn_of _ (by decide +kernel)) ggX7_isArcher_X7_is
theorem dX7_isArcher_0 : decode cX7_isArcher 0 = .ok (.iload_n 1, 1) := by decide +kernel
theorem dX7_isArcher_1 : decode cX7_isArcher 1 = .ok (.iconst 0, 1) := by decide +kernel
theorem dX7_isArcher_2 : decode cX7_isArcher 2 = .ok (.aload_n 0, 1) := by decide +kernel
theorem dX7_isArcher_3 : decode cX7_isArcher 3 = .ok (.getfield 10, 3) := by decide +kernel
theorem dX7_isArcher_6 : decode cX7_isArcher 6 = .ok (.invokevirtual 42, 3) := by decide +kernel
theorem dX7_isArcher_9 : decode cX7_isArcher 9 = .ok (.iconst 1, 1) := by decide +kernel
theorem dX7_isArcher_10 : decode cX7_isArcher 10 = .ok (.isub, 1) := by decide +kernel
theorem dX7_isArcher_11 : decode cX7_isArcher 11 = .ok (.invokestatic 46, 3) := by decide +kernel
theorem dX7_isArcher_14 : decode cX7_isArcher 14 = .ok (.ireturn, 1) := by decide +kernel
set_option maxRecDepth 20000 in
theorem ggX7_isQuiver_Jx4a65c_size_8abf5 : GoodIn wsX7_isQuiver wsJx4a65c_size_8abf5 := goodIn_r _ [6, 7, 34, 35, 36] (by decide +kernel) (by decide +kernel)
set_option maxRecDepth 20000 in
theorem gX7_isQuiver_Jx4a65c_size_8abf5 : GoodIn wsX7_isQuiver (wsV RX7 42 RJx4a65c yJx4a65c_size_8abf5 wsJx4a65c_size_8abf5) := goodIn_app (goodIn_of _ (by decide +kernel)) ggX7_isQuiver_Jx4a65c_size_8abf5
set_option maxRecDepth 20000 in
theorem ggX7_isQuiver_X7_is : GoodIn wsX7_isQuiver wsX7_is := goodIn_r _ [11] (by decide +kernel) (by decide +kernel)
set_option maxRecDepth 20000 in
theorem gX7_isQuiver_X7_is : GoodIn wsX7_isQuiver (va_wsS RX7 46 yX7_is wsX7_is) := goodIn_app (goodIn_of _ (by decide +kernel)) ggX7_isQuiver_X7_is
theorem dX7_isQuiver_0 : decode cX7_isQuiver 0 = .ok (.iload_n 1, 1) := by decide +kernel
theorem dX7_isQuiver_1 : decode cX7_isQuiver 1 = .ok (.iconst 0, 1) := by decide +kernel
theorem dX7_isQuiver_2 : decode cX7_isQuiver 2 = .ok (.aload_n 0, 1) := by decide +kernel
theorem dX7_isQuiver_3 : decode cX7_isQuiver 3 = .ok (.getfield 16, 3) := by decide +kernel
theorem dX7_isQuiver_6 : decode cX7_isQuiver 6 = .ok (.invokevirtual 42, 3) := by decide +kernel
theorem dX7_isQuiver_9 : decode cX7_isQuiver 9 = .ok (.iconst 1, 1) := by decide +kernel
theorem dX7_isQuiver_10 : decode cX7_isQuiver 10 = .ok (.isub, 1) := by decide +kernel
theorem dX7_isQuiver_11 : decode cX7_isQuiver 11 = .ok (.invokestatic 46, 3) := by decide +kernel
theorem dX7_isQuiver_14 : decode cX7_isQuiver 14 = .ok (.ireturn, 1) := by decide +kernel
theorem dX7_isOn_0 : decode cX7_isOn 0 = .ok (.aload_n 0, 1) := by decide +kernel
theorem dX7_isOn_1 : decode cX7_isOn 1 = .ok (.getfield 29, 3) := by decide +kernel
theorem dX7_isOn_4 : decode cX7_isOn 4 = .ok (.iconst 0, 1) := by decide +kernel
theorem dX7_isOn_5 : decode cX7_isOn 5 = .ok (.iaload, 1) := by decide +kernel
theorem dX7_isOn_6 : decode cX7_isOn 6 = .ok (.iconst (-1), 1) := by decide +kernel
theorem dX7_isOn_7 : decode cX7_isOn 7 = .ok (.if_icmp .eq 7, 3) := by decide +kernel
theorem dX7_isOn_10 : decode cX7_isOn 10 = .ok (.iconst 1, 1) := by decide +kernel
theorem dX7_isOn_11 : decode cX7_isOn 11 = .ok (.goto 4, 3) := by decide +kernel
theorem dX7_isOn_14 : decode cX7_isOn 14 = .ok (.iconst 0, 1) := by decide +kernel
theorem dX7_isOn_15 : decode cX7_isOn 15 = .ok (.ireturn, 1) := by decide +kernel
set_option maxRecDepth 20000 in
theorem ggX7_holder_Jx4a65c_size_8abf5 : GoodIn wsX7_holder wsJx4a65c_size_8abf5 := goodIn_r _ [7, 8, 60, 61, 62] (by decide +kernel) (by decide +kernel)
set_option maxRecDepth 20000 in
theorem gX7_holder_Jx4a65c_size_8abf5 : GoodIn wsX7_holder (wsV RX7 42 RJx4a65c yJx4a65c_size_8abf5 wsJx4a65c_size_8abf5) := goodIn_app (goodIn_of _ (by decide +kernel)) ggX7_holder_Jx4a65c_size_8abf5
set_option maxRecDepth 20000 in
theorem ggX7_holder_Jx4a65c_get_915e3 : GoodIn wsX7_holder wsJx4a65c_get_915e3 := goodIn_r _ [12, 8, 13, 14, 15, 16, 17, 18, 19, 20, 21, 22, 23, 6, 24, 25, 60, 61, 62] (by decide +kernel) (by decide +kernel)
set_option maxRecDepth 20000 in
theorem gX7_holder_Jx4a65c_get_915e3 : GoodIn wsX7_holder (wsV RX7 50 RJx4a65c yJx4a65c_get_915e3 wsJx4a65c_get_915e3) := goodIn_app (goodIn_of _ (by decide +kernel)) ggX7_holder_Jx4a65c_get_915e3
theorem dX7_holder_0 : decode cX7_holder 0 = .ok (.iconst 0, 1) := by decide +kernel
theorem dX7_holder_1 : decode cX7_holder 1 = .ok (.istore_n 2, 1) := by decide +kernel
theorem dX7_holder_2 : decode cX7_holder 2 = .ok (.iload_n 2, 1) := by decide +kernel
theorem dX7_holder_3 : decode cX7_holder 3 = .ok (.aload_n 0, 1) := by decide +kernel
theorem dX7_holder_4 : decode cX7_holder 4 = .ok (.getfield 10, 3) := by decide +kernel
theorem dX7_holder_7 : decode cX7_holder 7 = .ok (.invokevirtual 42, 3) := by decide +kernel
theorem dX7_holder_10 : decode cX7_holder 10 = .ok (.if_icmp .ge 29, 3) := by decide +kernel
theorem dX7_holder_13 : decode cX7_holder 13 = .ok (.aload_n 0, 1) := by decide +kernel
theorem dX7_holder_14 : decode cX7_holder 14 = .ok (.getfield 10, 3) := by decide +kernel
theorem dX7_holder_17 : decode cX7_holder 17 = .ok (.iload_n 2, 1) := by decide +kernel
theorem dX7_holder_18 : decode cX7_holder 18 = .ok (.invokevirtual 50, 3) := by decide +kernel
theorem dX7_holder_21 : decode cX7_holder 21 = .ok (.checkcast 54, 3) := by decide +kernel
theorem dX7_holder_24 : decode cX7_holder 24 = .ok (.getfield 56, 3) := by decide +kernel
theorem dX7_holder_27 : decode cX7_holder 27 = .ok (.iload_n 1, 1) := by decide +kernel
theorem dX7_holder_28 : decode cX7_holder 28 = .ok (.if_icmp .ne 5, 3) := by decide +kernel
theorem dX7_holder_31 : decode cX7_holder 31 = .ok (.iload_n 2, 1) := by decide +kernel
theorem dX7_holder_32 : decode cX7_holder 32 = .ok (.ireturn, 1) := by decide +kernel
theorem dX7_holder_33 : decode cX7_holder 33 = .ok (.iinc 2 1, 3) := by decide +kernel
theorem dX7_holder_36 : decode cX7_holder 36 = .ok (.goto (-34), 3) := by decide +kernel
theorem dX7_holder_39 : decode cX7_holder 39 = .ok (.iconst (-1), 1) := by decide +kernel
theorem dX7_holder_40 : decode cX7_holder 40 = .ok (.ireturn, 1) := by decide +kernel
set_option maxRecDepth 20000 in
theorem ggX7_archer_X7_is : GoodIn wsX7_archer wsX7_is := goodIn_r _ [9] (by decide +kernel) (by decide +kernel)
set_option maxRecDepth 20000 in
theorem gX7_archer_X7_is : GoodIn wsX7_archer (va_wsS RX7 46 yX7_is wsX7_is) := goodIn_app (goodIn_of _ (by decide +kernel)) ggX7_archer_X7_is
set_option maxRecDepth 20000 in
theorem ggX7_archer_X7_refuse : GoodIn wsX7_archer wsX7_refuse := goodIn_r _ [13, 1, 80, 81, 82, 83, 84, 85, 86, 87, 88, 89, 90, 91, 92, 93, 94, 95, 96, 97, 98, 99, 100, 101] (by decide +kernel) (by decide +kernel)
set_option maxRecDepth 20000 in
theorem gX7_archer_X7_refuse : GoodIn wsX7_archer (wsV RX7 59 RX7 yX7_refuse wsX7_refuse) := goodIn_app (goodIn_of _ (by decide +kernel)) ggX7_archer_X7_refuse
set_option maxRecDepth 20000 in
theorem ggX7_archer_Jx4a65c_size_8abf5 : GoodIn wsX7_archer wsJx4a65c_size_8abf5 := goodIn_r _ [18, 19, 114, 115, 116] (by decide +kernel) (by decide +kernel)
set_option maxRecDepth 20000 in
theorem gX7_archer_Jx4a65c_size_8abf5 : GoodIn wsX7_archer (wsV RX7 42 RJx4a65c yJx4a65c_size_8abf5 wsJx4a65c_size_8abf5) := goodIn_app (goodIn_of _ (by decide +kernel)) ggX7_archer_Jx4a65c_size_8abf5
set_option maxRecDepth 20000 in
theorem ggX7_archer_X5_init : GoodIn wsX7_archer wsX5_init := goodIn_r _ [21, 22, 23, 24, 25, 102, 103, 104, 105, 106, 107, 108, 109, 110, 111, 112, 113] (by decide +kernel) (by decide +kernel)
set_option maxRecDepth 20000 in
theorem gX7_archer_X5_init_n63 : GoodIn wsX7_archer (wsX5_init) := ggX7_archer_X5_init
set_option maxRecDepth 20000 in
theorem ggX7_archer_Jx4a65c_add_9ea2d : GoodIn wsX7_archer wsJx4a65c_add_9ea2d := goodIn_r _ [29, 30, 31, 32, 19, 33, 34, 35, 17, 36, 37, 38, 39, 40, 41, 42, 43, 44, 45, 46, 47, 48, 49, 50, 51, 52, 53, 54, 55, 56, 57, 58, 59, 60, 61, 62, 63, 64, 65, 66, 67, 68, 69, 70, 71, 72, 73, 74, 75, 76, 77, 78, 79, 114, 115, 116] (by decide +kernel) (by decide +kernel)
set_option maxRecDepth 20000 in
theorem gX7_archer_Jx4a65c_add_9ea2d : GoodIn wsX7_archer (wsV RX7 70 RJx4a65c yJx4a65c_add_9ea2d wsJx4a65c_add_9ea2d) := goodIn_app (goodIn_of _ (by decide +kernel)) ggX7_archer_Jx4a65c_add_9ea2d
theorem dX7_archer_0 : decode cX7_archer 0 = .ok (.aload_n 0, 1) := by decide +kernel
theorem dX7_archer_1 : decode cX7_archer 1 = .ok (.iconst 0, 1) := by decide +kernel
theorem dX7_archer_2 : decode cX7_archer 2 = .ok (.putfield 39, 3) := by decide +kernel
theorem dX7_archer_5 : decode cX7_archer 5 = .ok (.iload_n 1, 1) := by decide +kernel
theorem dX7_archer_6 : decode cX7_archer 6 = .ok (.bipush 20, 2) := by decide +kernel
theorem dX7_archer_8 : decode cX7_archer 8 = .ok (.bipush 60, 2) := by decide +kernel
theorem dX7_archer_10 : decode cX7_archer 10 = .ok (.invokestatic 46, 3) := by decide +kernel
theorem dX7_archer_13 : decode cX7_archer 13 = .ok (.ifCond .eq 13, 3) := by decide +kernel
theorem dX7_archer_16 : decode cX7_archer 16 = .ok (.iload_n 2, 1) := by decide +kernel
theorem dX7_archer_17 : decode cX7_archer 17 = .ok (.iconst 0, 1) := by decide +kernel
theorem dX7_archer_18 : decode cX7_archer 18 = .ok (.bipush 9, 2) := by decide +kernel
theorem dX7_archer_20 : decode cX7_archer 20 = .ok (.invokestatic 46, 3) := by decide +kernel
theorem dX7_archer_23 : decode cX7_archer 23 = .ok (.ifCond .ne 9, 3) := by decide +kernel
theorem dX7_archer_26 : decode cX7_archer 26 = .ok (.aload_n 0, 1) := by decide +kernel
theorem dX7_archer_27 : decode cX7_archer 27 = .ok (.iconst 1, 1) := by decide +kernel
theorem dX7_archer_28 : decode cX7_archer 28 = .ok (.invokevirtual 59, 3) := by decide +kernel
theorem dX7_archer_31 : decode cX7_archer 31 = .ok (.ireturn, 1) := by decide +kernel
theorem dX7_archer_32 : decode cX7_archer 32 = .ok (.aload_n 0, 1) := by decide +kernel
theorem dX7_archer_33 : decode cX7_archer 33 = .ok (.getfield 10, 3) := by decide +kernel
theorem dX7_archer_36 : decode cX7_archer 36 = .ok (.invokevirtual 42, 3) := by decide +kernel
theorem dX7_archer_39 : decode cX7_archer 39 = .ok (.bipush 6, 2) := by decide +kernel
theorem dX7_archer_41 : decode cX7_archer 41 = .ok (.if_icmp .ne 9, 3) := by decide +kernel
theorem dX7_archer_44 : decode cX7_archer 44 = .ok (.aload_n 0, 1) := by decide +kernel
theorem dX7_archer_45 : decode cX7_archer 45 = .ok (.iconst 2, 1) := by decide +kernel
theorem dX7_archer_46 : decode cX7_archer 46 = .ok (.invokevirtual 59, 3) := by decide +kernel
theorem dX7_archer_49 : decode cX7_archer 49 = .ok (.ireturn, 1) := by decide +kernel
theorem dX7_archer_50 : decode cX7_archer 50 = .ok (.new 54, 3) := by decide +kernel
theorem dX7_archer_53 : decode cX7_archer 53 = .ok (.dup, 1) := by decide +kernel
theorem dX7_archer_54 : decode cX7_archer 54 = .ok (.invokespecial 63, 3) := by decide +kernel
theorem dX7_archer_57 : decode cX7_archer 57 = .ok (.astore_n 3, 1) := by decide +kernel
theorem dX7_archer_58 : decode cX7_archer 58 = .ok (.aload_n 3, 1) := by decide +kernel
theorem dX7_archer_59 : decode cX7_archer 59 = .ok (.iload_n 1, 1) := by decide +kernel
theorem dX7_archer_60 : decode cX7_archer 60 = .ok (.putfield 64, 3) := by decide +kernel
theorem dX7_archer_63 : decode cX7_archer 63 = .ok (.aload_n 3, 1) := by decide +kernel
theorem dX7_archer_64 : decode cX7_archer 64 = .ok (.iload_n 2, 1) := by decide +kernel
theorem dX7_archer_65 : decode cX7_archer 65 = .ok (.putfield 67, 3) := by decide +kernel
theorem dX7_archer_68 : decode cX7_archer 68 = .ok (.aload_n 0, 1) := by decide +kernel
theorem dX7_archer_69 : decode cX7_archer 69 = .ok (.getfield 10, 3) := by decide +kernel
theorem dX7_archer_72 : decode cX7_archer 72 = .ok (.aload_n 3, 1) := by decide +kernel
theorem dX7_archer_73 : decode cX7_archer 73 = .ok (.invokevirtual 70, 3) := by decide +kernel
theorem dX7_archer_76 : decode cX7_archer 76 = .ok (.pop, 1) := by decide +kernel
theorem dX7_archer_77 : decode cX7_archer 77 = .ok (.aload_n 0, 1) := by decide +kernel
theorem dX7_archer_78 : decode cX7_archer 78 = .ok (.getfield 10, 3) := by decide +kernel
theorem dX7_archer_81 : decode cX7_archer 81 = .ok (.invokevirtual 42, 3) := by decide +kernel
theorem dX7_archer_84 : decode cX7_archer 84 = .ok (.iconst 1, 1) := by decide +kernel
theorem dX7_archer_85 : decode cX7_archer 85 = .ok (.isub, 1) := by decide +kernel
theorem dX7_archer_86 : decode cX7_archer 86 = .ok (.ireturn, 1) := by decide +kernel
set_option maxRecDepth 20000 in
theorem ggX7_quiver_X7_is : GoodIn wsX7_quiver wsX7_is := goodIn_r _ [9] (by decide +kernel) (by decide +kernel)
set_option maxRecDepth 20000 in
theorem gX7_quiver_X7_is : GoodIn wsX7_quiver (va_wsS RX7 46 yX7_is wsX7_is) := goodIn_app (goodIn_of _ (by decide +kernel)) ggX7_quiver_X7_is
set_option maxRecDepth 20000 in
theorem ggX7_quiver_X7_refuse : GoodIn wsX7_quiver wsX7_refuse := goodIn_r _ [13, 1, 84, 85, 86, 87, 88, 89, 90, 91, 92, 93, 94, 95, 96, 97, 98, 99, 100, 101, 102, 103, 104, 105] (by decide +kernel) (by decide +kernel)
set_option maxRecDepth 20000 in
theorem gX7_quiver_X7_refuse : GoodIn wsX7_quiver (wsV RX7 59 RX7 yX7_refuse wsX7_refuse) := goodIn_app (goodIn_of _ (by decide +kernel)) ggX7_quiver_X7_refuse
set_option maxRecDepth 20000 in
theorem ggX7_quiver_Jx4a65c_size_8abf5 : GoodIn wsX7_quiver wsJx4a65c_size_8abf5 := goodIn_r _ [18, 19, 111, 112, 113] (by decide +kernel) (by decide +kernel)
set_option maxRecDepth 20000 in
theorem gX7_quiver_Jx4a65c_size_8abf5 : GoodIn wsX7_quiver (wsV RX7 42 RJx4a65c yJx4a65c_size_8abf5 wsJx4a65c_size_8abf5) := goodIn_app (goodIn_of _ (by decide +kernel)) ggX7_quiver_Jx4a65c_size_8abf5
set_option maxRecDepth 20000 in
theorem ggX7_quiver_X6_init : GoodIn wsX7_quiver wsX6_init := goodIn_r _ [21, 22, 23, 24, 25, 26, 27, 28, 29, 106, 107, 108, 109, 110] (by decide +kernel) (by decide +kernel)
set_option maxRecDepth 20000 in
theorem gX7_quiver_X6_init_n76 : GoodIn wsX7_quiver (wsX6_init) := ggX7_quiver_X6_init
set_option maxRecDepth 20000 in
theorem ggX7_quiver_Jx4a65c_add_9ea2d : GoodIn wsX7_quiver wsJx4a65c_add_9ea2d := goodIn_r _ [33, 34, 35, 36, 19, 37, 38, 39, 17, 40, 41, 42, 43, 44, 45, 46, 47, 48, 49, 50, 51, 52, 53, 54, 55, 56, 57, 58, 59, 60, 61, 62, 63, 64, 65, 66, 67, 68, 69, 70, 71, 72, 73, 74, 75, 76, 77, 78, 79, 80, 81, 82, 83, 111, 112, 113] (by decide +kernel) (by decide +kernel)
set_option maxRecDepth 20000 in
theorem gX7_quiver_Jx4a65c_add_9ea2d : GoodIn wsX7_quiver (wsV RX7 70 RJx4a65c yJx4a65c_add_9ea2d wsJx4a65c_add_9ea2d) := goodIn_app (goodIn_of _ (by decide +kernel)) ggX7_quiver_Jx4a65c_add_9ea2d
theorem dX7_quiver_0 : decode cX7_quiver 0 = .ok (.aload_n 0, 1) := by decide +kernel
theorem dX7_quiver_1 : decode cX7_quiver 1 = .ok (.iconst 0, 1) := by decide +kernel
theorem dX7_quiver_2 : decode cX7_quiver 2 = .ok (.putfield 39, 3) := by decide +kernel
theorem dX7_quiver_5 : decode cX7_quiver 5 = .ok (.iload_n 1, 1) := by decide +kernel
theorem dX7_quiver_6 : decode cX7_quiver 6 = .ok (.sipush 200, 3) := by decide +kernel
theorem dX7_quiver_9 : decode cX7_quiver 9 = .ok (.sipush 600, 3) := by decide +kernel
theorem dX7_quiver_12 : decode cX7_quiver 12 = .ok (.invokestatic 46, 3) := by decide +kernel
theorem dX7_quiver_15 : decode cX7_quiver 15 = .ok (.ifCond .eq 16, 3) := by decide +kernel
theorem dX7_quiver_18 : decode cX7_quiver 18 = .ok (.iload_n 2, 1) := by decide +kernel
theorem dX7_quiver_19 : decode cX7_quiver 19 = .ok (.sipush 300, 3) := by decide +kernel
theorem dX7_quiver_22 : decode cX7_quiver 22 = .ok (.sipush 1100, 3) := by decide +kernel
theorem dX7_quiver_25 : decode cX7_quiver 25 = .ok (.invokestatic 46, 3) := by decide +kernel
theorem dX7_quiver_28 : decode cX7_quiver 28 = .ok (.ifCond .ne 9, 3) := by decide +kernel
theorem dX7_quiver_31 : decode cX7_quiver 31 = .ok (.aload_n 0, 1) := by decide +kernel
theorem dX7_quiver_32 : decode cX7_quiver 32 = .ok (.iconst 1, 1) := by decide +kernel
theorem dX7_quiver_33 : decode cX7_quiver 33 = .ok (.invokevirtual 59, 3) := by decide +kernel
theorem dX7_quiver_36 : decode cX7_quiver 36 = .ok (.ireturn, 1) := by decide +kernel
theorem dX7_quiver_37 : decode cX7_quiver 37 = .ok (.aload_n 0, 1) := by decide +kernel
theorem dX7_quiver_38 : decode cX7_quiver 38 = .ok (.getfield 16, 3) := by decide +kernel
theorem dX7_quiver_41 : decode cX7_quiver 41 = .ok (.invokevirtual 42, 3) := by decide +kernel
theorem dX7_quiver_44 : decode cX7_quiver 44 = .ok (.bipush 6, 2) := by decide +kernel
theorem dX7_quiver_46 : decode cX7_quiver 46 = .ok (.if_icmp .ne 9, 3) := by decide +kernel
theorem dX7_quiver_49 : decode cX7_quiver 49 = .ok (.aload_n 0, 1) := by decide +kernel
theorem dX7_quiver_50 : decode cX7_quiver 50 = .ok (.iconst 2, 1) := by decide +kernel
theorem dX7_quiver_51 : decode cX7_quiver 51 = .ok (.invokevirtual 59, 3) := by decide +kernel
theorem dX7_quiver_54 : decode cX7_quiver 54 = .ok (.ireturn, 1) := by decide +kernel
theorem dX7_quiver_55 : decode cX7_quiver 55 = .ok (.new 74, 3) := by decide +kernel
theorem dX7_quiver_58 : decode cX7_quiver 58 = .ok (.dup, 1) := by decide +kernel
theorem dX7_quiver_59 : decode cX7_quiver 59 = .ok (.invokespecial 76, 3) := by decide +kernel
theorem dX7_quiver_62 : decode cX7_quiver 62 = .ok (.astore_n 3, 1) := by decide +kernel
theorem dX7_quiver_63 : decode cX7_quiver 63 = .ok (.aload_n 3, 1) := by decide +kernel
theorem dX7_quiver_64 : decode cX7_quiver 64 = .ok (.iload_n 1, 1) := by decide +kernel
theorem dX7_quiver_65 : decode cX7_quiver 65 = .ok (.putfield 77, 3) := by decide +kernel
theorem dX7_quiver_68 : decode cX7_quiver 68 = .ok (.aload_n 3, 1) := by decide +kernel
theorem dX7_quiver_69 : decode cX7_quiver 69 = .ok (.iload_n 2, 1) := by decide +kernel
theorem dX7_quiver_70 : decode cX7_quiver 70 = .ok (.putfield 80, 3) := by decide +kernel
theorem dX7_quiver_73 : decode cX7_quiver 73 = .ok (.aload_n 0, 1) := by decide +kernel
theorem dX7_quiver_74 : decode cX7_quiver 74 = .ok (.getfield 16, 3) := by decide +kernel
theorem dX7_quiver_77 : decode cX7_quiver 77 = .ok (.aload_n 3, 1) := by decide +kernel
theorem dX7_quiver_78 : decode cX7_quiver 78 = .ok (.invokevirtual 70, 3) := by decide +kernel
theorem dX7_quiver_81 : decode cX7_quiver 81 = .ok (.pop, 1) := by decide +kernel
theorem dX7_quiver_82 : decode cX7_quiver 82 = .ok (.aload_n 0, 1) := by decide +kernel
theorem dX7_quiver_83 : decode cX7_quiver 83 = .ok (.getfield 16, 3) := by decide +kernel
theorem dX7_quiver_86 : decode cX7_quiver 86 = .ok (.invokevirtual 42, 3) := by decide +kernel
theorem dX7_quiver_89 : decode cX7_quiver 89 = .ok (.iconst 1, 1) := by decide +kernel
theorem dX7_quiver_90 : decode cX7_quiver 90 = .ok (.isub, 1) := by decide +kernel
theorem dX7_quiver_91 : decode cX7_quiver 91 = .ok (.ireturn, 1) := by decide +kernel
set_option maxRecDepth 20000 in
theorem ggX7_give_X7_isArcher : GoodIn wsX7_give wsX7_isArcher := goodIn_r _ [8, 2, 9, 10, 11, 12, 13, 14, 15, 16, 7, 17, 53, 54, 55, 56, 57, 58, 59, 60, 61, 62, 63, 64, 65, 66, 67, 68, 69, 70, 71, 72, 73, 74, 87, 88, 89] (by decide +kernel) (by decide +kernel)
set_option maxRecDepth 20000 in
theorem gX7_give_X7_isArcher : GoodIn wsX7_give (wsV RX7 83 RX7 yX7_isArcher wsX7_isArcher) := goodIn_app (goodIn_of _ (by decide +kernel)) ggX7_give_X7_isArcher
set_option maxRecDepth 20000 in
theorem ggX7_give_X7_isQuiver : GoodIn wsX7_give wsX7_isQuiver := goodIn_r _ [21, 22, 9, 10, 11, 12, 13, 14, 15, 16, 7, 17, 53, 54, 55, 56, 57, 58, 59, 60, 61, 62, 63, 64, 65, 66, 67, 68, 69, 70, 71, 72, 73, 74, 87, 88, 89] (by decide +kernel) (by decide +kernel)
set_option maxRecDepth 20000 in
theorem gX7_give_X7_isQuiver : GoodIn wsX7_give (wsV RX7 87 RX7 yX7_isQuiver wsX7_isQuiver) := goodIn_app (goodIn_of _ (by decide +kernel)) ggX7_give_X7_isQuiver
set_option maxRecDepth 20000 in
theorem ggX7_give_X7_refuse : GoodIn wsX7_give wsX7_refuse := goodIn_r _ [26, 1, 53, 54, 55, 56, 57, 58, 59, 60, 61, 62, 63, 64, 65, 66, 67, 68, 69, 70, 71, 72, 73, 74] (by decide +kernel) (by decide +kernel)
set_option maxRecDepth 20000 in
theorem gX7_give_X7_refuse : GoodIn wsX7_give (wsV RX7 59 RX7 yX7_refuse wsX7_refuse) := goodIn_app (goodIn_of _ (by decide +kernel)) ggX7_give_X7_refuse
set_option maxRecDepth 20000 in
theorem ggX7_give_X7_isOn : GoodIn wsX7_give wsX7_isOn := goodIn_r _ [30, 31, 53, 54, 55, 56, 57, 58, 59, 60, 61, 62, 63, 64, 65, 66, 67, 68, 69, 70, 71, 72, 73, 74] (by decide +kernel) (by decide +kernel)
set_option maxRecDepth 20000 in
theorem gX7_give_X7_isOn : GoodIn wsX7_give (wsV RX7 90 RX7 yX7_isOn wsX7_isOn) := goodIn_app (goodIn_of _ (by decide +kernel)) ggX7_give_X7_isOn
set_option maxRecDepth 20000 in
theorem ggX7_give_X7_holder : GoodIn wsX7_give wsX7_holder := goodIn_r _ [35, 2, 3, 9, 10, 11, 12, 13, 14, 36, 37, 38, 39, 40, 41, 42, 43, 44, 45, 46, 47, 48, 49, 50, 51, 52, 53, 54, 55, 56, 57, 58, 59, 60, 61, 62, 63, 64, 65, 66, 67, 68, 69, 70, 71, 72, 73, 74, 75, 76, 77, 78, 79, 80, 81, 82, 83, 84, 85, 86, 87, 88, 89] (by decide +kernel) (by decide +kernel)
set_option maxRecDepth 20000 in
theorem gX7_give_X7_holder : GoodIn wsX7_give (wsV RX7 94 RX7 yX7_holder wsX7_holder) := goodIn_app (goodIn_of _ (by decide +kernel)) ggX7_give_X7_holder
set_option maxRecDepth 20000 in
theorem ggX7_give_Jx4a65c_get_915e3 : GoodIn wsX7_give wsJx4a65c_get_915e3 := goodIn_r _ [39, 14, 40, 41, 42, 43, 44, 45, 46, 47, 48, 49, 50, 12, 51, 52, 87, 88, 89] (by decide +kernel) (by decide +kernel)
set_option maxRecDepth 20000 in
theorem gX7_give_Jx4a65c_get_915e3 : GoodIn wsX7_give (wsV RX7 50 RJx4a65c yJx4a65c_get_915e3 wsJx4a65c_get_915e3) := goodIn_app (goodIn_of _ (by decide +kernel)) ggX7_give_Jx4a65c_get_915e3
theorem dX7_give_0 : decode cX7_give 0 = .ok (.aload_n 0, 1) := by decide +kernel
theorem dX7_give_1 : decode cX7_give 1 = .ok (.iconst 0, 1) := by decide +kernel
theorem dX7_give_2 : decode cX7_give 2 = .ok (.putfield 39, 3) := by decide +kernel
theorem dX7_give_5 : decode cX7_give 5 = .ok (.aload_n 0, 1) := by decide +kernel
theorem dX7_give_6 : decode cX7_give 6 = .ok (.iload_n 1, 1) := by decide +kernel
theorem dX7_give_7 : decode cX7_give 7 = .ok (.invokevirtual 83, 3) := by decide +kernel
theorem dX7_give_10 : decode cX7_give 10 = .ok (.ifCond .eq 11, 3) := by decide +kernel
theorem dX7_give_13 : decode cX7_give 13 = .ok (.aload_n 0, 1) := by decide +kernel
theorem dX7_give_14 : decode cX7_give 14 = .ok (.iload_n 2, 1) := by decide +kernel
theorem dX7_give_15 : decode cX7_give 15 = .ok (.invokevirtual 87, 3) := by decide +kernel
theorem dX7_give_18 : decode cX7_give 18 = .ok (.ifCond .ne 9, 3) := by decide +kernel
theorem dX7_give_21 : decode cX7_give 21 = .ok (.aload_n 0, 1) := by decide +kernel
theorem dX7_give_22 : decode cX7_give 22 = .ok (.iconst 1, 1) := by decide +kernel
theorem dX7_give_23 : decode cX7_give 23 = .ok (.invokevirtual 59, 3) := by decide +kernel
theorem dX7_give_26 : decode cX7_give 26 = .ok (.ireturn, 1) := by decide +kernel
theorem dX7_give_27 : decode cX7_give 27 = .ok (.aload_n 0, 1) := by decide +kernel
theorem dX7_give_28 : decode cX7_give 28 = .ok (.invokevirtual 90, 3) := by decide +kernel
theorem dX7_give_31 : decode cX7_give 31 = .ok (.ifCond .eq 9, 3) := by decide +kernel
theorem dX7_give_34 : decode cX7_give 34 = .ok (.aload_n 0, 1) := by decide +kernel
theorem dX7_give_35 : decode cX7_give 35 = .ok (.iconst 2, 1) := by decide +kernel
theorem dX7_give_36 : decode cX7_give 36 = .ok (.invokevirtual 59, 3) := by decide +kernel
theorem dX7_give_39 : decode cX7_give 39 = .ok (.ireturn, 1) := by decide +kernel
theorem dX7_give_40 : decode cX7_give 40 = .ok (.aload_n 0, 1) := by decide +kernel
theorem dX7_give_41 : decode cX7_give 41 = .ok (.iload_n 2, 1) := by decide +kernel
theorem dX7_give_42 : decode cX7_give 42 = .ok (.invokevirtual 94, 3) := by decide +kernel
theorem dX7_give_45 : decode cX7_give 45 = .ok (.istore_n 3, 1) := by decide +kernel
theorem dX7_give_46 : decode cX7_give 46 = .ok (.iload_n 3, 1) := by decide +kernel
theorem dX7_give_47 : decode cX7_give 47 = .ok (.iconst (-1), 1) := by decide +kernel
theorem dX7_give_48 : decode cX7_give 48 = .ok (.if_icmp .eq 18, 3) := by decide +kernel
theorem dX7_give_51 : decode cX7_give 51 = .ok (.aload_n 0, 1) := by decide +kernel
theorem dX7_give_52 : decode cX7_give 52 = .ok (.getfield 10, 3) := by decide +kernel
theorem dX7_give_55 : decode cX7_give 55 = .ok (.iload_n 3, 1) := by decide +kernel
theorem dX7_give_56 : decode cX7_give 56 = .ok (.invokevirtual 50, 3) := by decide +kernel
theorem dX7_give_59 : decode cX7_give 59 = .ok (.checkcast 54, 3) := by decide +kernel
theorem dX7_give_62 : decode cX7_give 62 = .ok (.iconst (-1), 1) := by decide +kernel
theorem dX7_give_63 : decode cX7_give 63 = .ok (.putfield 56, 3) := by decide +kernel
theorem dX7_give_66 : decode cX7_give 66 = .ok (.aload_n 0, 1) := by decide +kernel
theorem dX7_give_67 : decode cX7_give 67 = .ok (.getfield 10, 3) := by decide +kernel
theorem dX7_give_70 : decode cX7_give 70 = .ok (.iload_n 1, 1) := by decide +kernel
theorem dX7_give_71 : decode cX7_give 71 = .ok (.invokevirtual 50, 3) := by decide +kernel
theorem dX7_give_74 : decode cX7_give 74 = .ok (.checkcast 54, 3) := by decide +kernel
theorem dX7_give_77 : decode cX7_give 77 = .ok (.iload_n 2, 1) := by decide +kernel
theorem dX7_give_78 : decode cX7_give 78 = .ok (.putfield 56, 3) := by decide +kernel
theorem dX7_give_81 : decode cX7_give 81 = .ok (.iload_n 3, 1) := by decide +kernel
theorem dX7_give_82 : decode cX7_give 82 = .ok (.ireturn, 1) := by decide +kernel
set_option maxRecDepth 20000 in
theorem ggX7_tune_X7_isArcher : GoodIn wsX7_tune wsX7_isArcher := goodIn_r _ [8, 2, 9, 10, 11, 12, 13, 14, 15, 16, 7, 17, 39, 40, 41, 42, 43, 44, 45, 46, 47, 48, 49, 50, 51, 52, 53, 54, 55, 56, 57, 58, 59, 60, 73, 74, 75] (by decide +kernel) (by decide +kernel)
set_option maxRecDepth 20000 in
theorem gX7_tune_X7_isArcher : GoodIn wsX7_tune (wsV RX7 83 RX7 yX7_isArcher wsX7_isArcher) := goodIn_app (goodIn_of _ (by decide +kernel)) ggX7_tune_X7_isArcher
set_option maxRecDepth 20000 in
theorem ggX7_tune_X7_refuse : GoodIn wsX7_tune wsX7_refuse := goodIn_r _ [21, 1, 39, 40, 41, 42, 43, 44, 45, 46, 47, 48, 49, 50, 51, 52, 53, 54, 55, 56, 57, 58, 59, 60] (by decide +kernel) (by decide +kernel)
set_option maxRecDepth 20000 in
theorem gX7_tune_X7_refuse : GoodIn wsX7_tune (wsV RX7 59 RX7 yX7_refuse wsX7_refuse) := goodIn_app (goodIn_of _ (by decide +kernel)) ggX7_tune_X7_refuse
set_option maxRecDepth 20000 in
theorem ggX7_tune_X7_is : GoodIn wsX7_tune wsX7_is := goodIn_r _ [17] (by decide +kernel) (by decide +kernel)
set_option maxRecDepth 20000 in
theorem gX7_tune_X7_is : GoodIn wsX7_tune (va_wsS RX7 46 yX7_is wsX7_is) := goodIn_app (goodIn_of _ (by decide +kernel)) ggX7_tune_X7_is
set_option maxRecDepth 20000 in
theorem ggX7_tune_Jx4a65c_get_915e3 : GoodIn wsX7_tune wsJx4a65c_get_915e3 := goodIn_r _ [25, 14, 26, 27, 28, 29, 30, 31, 32, 33, 34, 35, 36, 12, 37, 38, 73, 74, 75] (by decide +kernel) (by decide +kernel)
set_option maxRecDepth 20000 in
theorem gX7_tune_Jx4a65c_get_915e3 : GoodIn wsX7_tune (wsV RX7 50 RJx4a65c yJx4a65c_get_915e3 wsJx4a65c_get_915e3) := goodIn_app (goodIn_of _ (by decide +kernel)) ggX7_tune_Jx4a65c_get_915e3
theorem dX7_tune_0 : decode cX7_tune 0 = .ok (.aload_n 0, 1) := by decide +kernel
theorem dX7_tune_1 : decode cX7_tune 1 = .ok (.iconst 0, 1) := by decide +kernel
theorem dX7_tune_2 : decode cX7_tune 2 = .ok (.putfield 39, 3) := by decide +kernel
theorem dX7_tune_5 : decode cX7_tune 5 = .ok (.aload_n 0, 1) := by decide +kernel
theorem dX7_tune_6 : decode cX7_tune 6 = .ok (.iload_n 1, 1) := by decide +kernel
theorem dX7_tune_7 : decode cX7_tune 7 = .ok (.invokevirtual 83, 3) := by decide +kernel
theorem dX7_tune_10 : decode cX7_tune 10 = .ok (.ifCond .ne 9, 3) := by decide +kernel
theorem dX7_tune_13 : decode cX7_tune 13 = .ok (.aload_n 0, 1) := by decide +kernel
theorem dX7_tune_14 : decode cX7_tune 14 = .ok (.iconst 1, 1) := by decide +kernel
theorem dX7_tune_15 : decode cX7_tune 15 = .ok (.invokevirtual 59, 3) := by decide +kernel
theorem dX7_tune_18 : decode cX7_tune 18 = .ok (.ireturn, 1) := by decide +kernel
theorem dX7_tune_19 : decode cX7_tune 19 = .ok (.iload_n 2, 1) := by decide +kernel
theorem dX7_tune_20 : decode cX7_tune 20 = .ok (.iconst 0, 1) := by decide +kernel
theorem dX7_tune_21 : decode cX7_tune 21 = .ok (.bipush 127, 2) := by decide +kernel
theorem dX7_tune_23 : decode cX7_tune 23 = .ok (.invokestatic 46, 3) := by decide +kernel
theorem dX7_tune_26 : decode cX7_tune 26 = .ok (.ifCond .eq 14, 3) := by decide +kernel
theorem dX7_tune_29 : decode cX7_tune 29 = .ok (.iload_n 3, 1) := by decide +kernel
theorem dX7_tune_30 : decode cX7_tune 30 = .ok (.bipush (-8), 2) := by decide +kernel
theorem dX7_tune_32 : decode cX7_tune 32 = .ok (.bipush 8, 2) := by decide +kernel
theorem dX7_tune_34 : decode cX7_tune 34 = .ok (.invokestatic 46, 3) := by decide +kernel
theorem dX7_tune_37 : decode cX7_tune 37 = .ok (.ifCond .ne 9, 3) := by decide +kernel
theorem dX7_tune_40 : decode cX7_tune 40 = .ok (.aload_n 0, 1) := by decide +kernel
theorem dX7_tune_41 : decode cX7_tune 41 = .ok (.iconst 2, 1) := by decide +kernel
theorem dX7_tune_42 : decode cX7_tune 42 = .ok (.invokevirtual 59, 3) := by decide +kernel
theorem dX7_tune_45 : decode cX7_tune 45 = .ok (.ireturn, 1) := by decide +kernel
theorem dX7_tune_46 : decode cX7_tune 46 = .ok (.aload_n 0, 1) := by decide +kernel
theorem dX7_tune_47 : decode cX7_tune 47 = .ok (.getfield 10, 3) := by decide +kernel
theorem dX7_tune_50 : decode cX7_tune 50 = .ok (.iload_n 1, 1) := by decide +kernel
theorem dX7_tune_51 : decode cX7_tune 51 = .ok (.invokevirtual 50, 3) := by decide +kernel
theorem dX7_tune_54 : decode cX7_tune 54 = .ok (.checkcast 54, 3) := by decide +kernel
theorem dX7_tune_57 : decode cX7_tune 57 = .ok (.astore 4, 2) := by decide +kernel
theorem dX7_tune_59 : decode cX7_tune 59 = .ok (.aload 4, 2) := by decide +kernel
theorem dX7_tune_61 : decode cX7_tune 61 = .ok (.getfield 97, 3) := by decide +kernel
theorem dX7_tune_64 : decode cX7_tune 64 = .ok (.istore 5, 2) := by decide +kernel
theorem dX7_tune_66 : decode cX7_tune 66 = .ok (.aload 4, 2) := by decide +kernel
theorem dX7_tune_68 : decode cX7_tune 68 = .ok (.iload_n 2, 1) := by decide +kernel
theorem dX7_tune_69 : decode cX7_tune 69 = .ok (.putfield 97, 3) := by decide +kernel
theorem dX7_tune_72 : decode cX7_tune 72 = .ok (.aload 4, 2) := by decide +kernel
theorem dX7_tune_74 : decode cX7_tune 74 = .ok (.iload_n 3, 1) := by decide +kernel
theorem dX7_tune_75 : decode cX7_tune 75 = .ok (.putfield 100, 3) := by decide +kernel
theorem dX7_tune_78 : decode cX7_tune 78 = .ok (.iload 5, 2) := by decide +kernel
theorem dX7_tune_80 : decode cX7_tune 80 = .ok (.ireturn, 1) := by decide +kernel
set_option maxRecDepth 20000 in
theorem ggX7_string_X7_isArcher : GoodIn wsX7_string wsX7_isArcher := goodIn_r _ [8, 2, 9, 10, 11, 12, 13, 14, 15, 16, 7, 17, 35, 36, 37, 38, 39, 40, 41, 42, 43, 44, 45, 46, 47, 48, 49, 50, 51, 52, 53, 54, 55, 56, 69, 70, 71] (by decide +kernel) (by decide +kernel)
set_option maxRecDepth 20000 in
theorem gX7_string_X7_isArcher : GoodIn wsX7_string (wsV RX7 83 RX7 yX7_isArcher wsX7_isArcher) := goodIn_app (goodIn_of _ (by decide +kernel)) ggX7_string_X7_isArcher
set_option maxRecDepth 20000 in
theorem ggX7_string_Jx4a65c_get_915e3 : GoodIn wsX7_string wsJx4a65c_get_915e3 := goodIn_r _ [21, 14, 22, 23, 24, 25, 26, 27, 28, 29, 30, 31, 32, 12, 33, 34, 69, 70, 71] (by decide +kernel) (by decide +kernel)
set_option maxRecDepth 20000 in
theorem gX7_string_Jx4a65c_get_915e3 : GoodIn wsX7_string (wsV RX7 50 RJx4a65c yJx4a65c_get_915e3 wsJx4a65c_get_915e3) := goodIn_app (goodIn_of _ (by decide +kernel)) ggX7_string_Jx4a65c_get_915e3
theorem dX7_string_0 : decode cX7_string 0 = .ok (.aload_n 0, 1) := by decide +kernel
theorem dX7_string_1 : decode cX7_string 1 = .ok (.aload_n 0, 1) := by decide +kernel
theorem dX7_string_2 : decode cX7_string 2 = .ok (.iload_n 1, 1) := by decide +kernel
theorem dX7_string_3 : decode cX7_string 3 = .ok (.invokevirtual 83, 3) := by decide +kernel
theorem dX7_string_6 : decode cX7_string 6 = .ok (.ifCond .eq 7, 3) := by decide +kernel
theorem dX7_string_9 : decode cX7_string 9 = .ok (.iconst 0, 1) := by decide +kernel
theorem dX7_string_10 : decode cX7_string 10 = .ok (.goto 4, 3) := by decide +kernel
theorem dX7_string_13 : decode cX7_string 13 = .ok (.iconst 1, 1) := by decide +kernel
theorem dX7_string_14 : decode cX7_string 14 = .ok (.putfield 39, 3) := by decide +kernel
theorem dX7_string_17 : decode cX7_string 17 = .ok (.aload_n 0, 1) := by decide +kernel
theorem dX7_string_18 : decode cX7_string 18 = .ok (.getfield 39, 3) := by decide +kernel
theorem dX7_string_21 : decode cX7_string 21 = .ok (.ifCond .le 5, 3) := by decide +kernel
theorem dX7_string_24 : decode cX7_string 24 = .ok (.dconst 0, 1) := by decide +kernel
theorem dX7_string_25 : decode cX7_string 25 = .ok (.dreturn, 1) := by decide +kernel
theorem dX7_string_26 : decode cX7_string 26 = .ok (.aload_n 0, 1) := by decide +kernel
theorem dX7_string_27 : decode cX7_string 27 = .ok (.getfield 10, 3) := by decide +kernel
theorem dX7_string_30 : decode cX7_string 30 = .ok (.iload_n 1, 1) := by decide +kernel
theorem dX7_string_31 : decode cX7_string 31 = .ok (.invokevirtual 50, 3) := by decide +kernel
theorem dX7_string_34 : decode cX7_string 34 = .ok (.checkcast 54, 3) := by decide +kernel
theorem dX7_string_37 : decode cX7_string 37 = .ok (.getfield 103, 3) := by decide +kernel
theorem dX7_string_40 : decode cX7_string 40 = .ok (.f2d, 1) := by decide +kernel
theorem dX7_string_41 : decode cX7_string 41 = .ok (.dstore_n 2, 1) := by decide +kernel
theorem dX7_string_42 : decode cX7_string 42 = .ok (.aload_n 0, 1) := by decide +kernel
theorem dX7_string_43 : decode cX7_string 43 = .ok (.getfield 10, 3) := by decide +kernel
theorem dX7_string_46 : decode cX7_string 46 = .ok (.iload_n 1, 1) := by decide +kernel
theorem dX7_string_47 : decode cX7_string 47 = .ok (.invokevirtual 50, 3) := by decide +kernel
theorem dX7_string_50 : decode cX7_string 50 = .ok (.checkcast 54, 3) := by decide +kernel
theorem dX7_string_53 : decode cX7_string 53 = .ok (.fconst 0, 1) := by decide +kernel
theorem dX7_string_54 : decode cX7_string 54 = .ok (.putfield 103, 3) := by decide +kernel
theorem dX7_string_57 : decode cX7_string 57 = .ok (.dload_n 2, 1) := by decide +kernel
theorem dX7_string_58 : decode cX7_string 58 = .ok (.dreturn, 1) := by decide +kernel
set_option maxRecDepth 20000 in
theorem ggX7_stuck_Jx4a65c_iterator_32c93 : GoodIn wsX7_stuck wsJx4a65c_iterator_32c93 := goodIn_r _ [7, 8, 9, 10, 11, 12, 13, 14, 15, 16, 17, 18, 19, 20, 21, 71, 72, 73, 74, 75, 76, 77] (by decide +kernel) (by decide +kernel)
set_option maxRecDepth 20000 in
theorem gX7_stuck_Jx4a65c_iterator_32c93 : GoodIn wsX7_stuck (wsV RX7 107 RJx4a65c yJx4a65c_iterator_32c93 wsJx4a65c_iterator_32c93) := goodIn_app (goodIn_of _ (by decide +kernel)) ggX7_stuck_Jx4a65c_iterator_32c93
set_option maxRecDepth 20000 in
theorem ggX7_stuck_Jx35411_hasNext_aae02 : GoodIn wsX7_stuck wsJx35411_hasNext_aae02 := goodIn_r _ [25, 26, 14, 71, 72, 73, 74, 75, 76, 77] (by decide +kernel) (by decide +kernel)
set_option maxRecDepth 20000 in
theorem gX7_stuck_Jx35411_hasNext_aae02_f111Jx35411 : GoodIn wsX7_stuck (va_wsF RX7 111 RJx35411 ⟨"java/util/Iterator", "hasNext", "()Z"⟩ yJx35411_hasNext_aae02 wsJx35411_hasNext_aae02) := goodIn_app (goodIn_of _ (by decide +kernel)) ggX7_stuck_Jx35411_hasNext_aae02
set_option maxRecDepth 20000 in
theorem ggX7_stuck_Jx35411_next_0502b : GoodIn wsX7_stuck wsJx35411_next_0502b := goodIn_r _ [30, 26, 14, 31, 18, 32, 33, 34, 10, 35, 19, 20, 21, 71, 72, 73, 74, 75, 76, 77] (by decide +kernel) (by decide +kernel)
set_option maxRecDepth 20000 in
theorem gX7_stuck_Jx35411_next_0502b_f116Jx35411 : GoodIn wsX7_stuck (va_wsF RX7 116 RJx35411 ⟨"java/util/Iterator", "next", "()Ljava/lang/Object;"⟩ yJx35411_next_0502b wsJx35411_next_0502b) := goodIn_app (goodIn_of _ (by decide +kernel)) ggX7_stuck_Jx35411_next_0502b
set_option maxRecDepth 20000 in
theorem ggX7_stuck_X6_set : GoodIn wsX7_stuck wsX6_set := goodIn_r _ [40, 41, 78, 79, 80, 81, 82] (by decide +kernel) (by decide +kernel)
set_option maxRecDepth 20000 in
theorem gX7_stuck_X6_set : GoodIn wsX7_stuck (wsV RX7 120 RX6 yX6_set wsX6_set) := goodIn_app (goodIn_of _ (by decide +kernel)) ggX7_stuck_X6_set
set_option maxRecDepth 20000 in
theorem ggX7_stuck_J6_bitCount_0f7a4 : GoodIn wsX7_stuck wsJ6_bitCount_0f7a4 := goodIn_r _ [45, 46, 47, 48] (by decide +kernel) (by decide +kernel)
set_option maxRecDepth 20000 in
theorem gX7_stuck_J6_bitCount_0f7a4 : GoodIn wsX7_stuck (va_wsS RX7 123 yJ6_bitCount_0f7a4 wsJ6_bitCount_0f7a4) := goodIn_app (goodIn_of _ (by decide +kernel)) ggX7_stuck_J6_bitCount_0f7a4
theorem dX7_stuck_0 : decode cX7_stuck 0 = .ok (.iconst 0, 1) := by decide +kernel
theorem dX7_stuck_1 : decode cX7_stuck 1 = .ok (.istore_n 1, 1) := by decide +kernel
theorem dX7_stuck_2 : decode cX7_stuck 2 = .ok (.aload_n 0, 1) := by decide +kernel
theorem dX7_stuck_3 : decode cX7_stuck 3 = .ok (.getfield 16, 3) := by decide +kernel
theorem dX7_stuck_6 : decode cX7_stuck 6 = .ok (.invokevirtual 107, 3) := by decide +kernel
theorem dX7_stuck_9 : decode cX7_stuck 9 = .ok (.astore_n 2, 1) := by decide +kernel
theorem dX7_stuck_10 : decode cX7_stuck 10 = .ok (.aload_n 2, 1) := by decide +kernel
theorem dX7_stuck_11 : decode cX7_stuck 11 = .ok (.invokeinterface 111 1, 5) := by decide +kernel
theorem dX7_stuck_16 : decode cX7_stuck 16 = .ok (.ifCond .eq 27, 3) := by decide +kernel
theorem dX7_stuck_19 : decode cX7_stuck 19 = .ok (.aload_n 2, 1) := by decide +kernel
theorem dX7_stuck_20 : decode cX7_stuck 20 = .ok (.invokeinterface 116 1, 5) := by decide +kernel
theorem dX7_stuck_25 : decode cX7_stuck 25 = .ok (.checkcast 74, 3) := by decide +kernel
theorem dX7_stuck_28 : decode cX7_stuck 28 = .ok (.astore_n 3, 1) := by decide +kernel
theorem dX7_stuck_29 : decode cX7_stuck 29 = .ok (.iload_n 1, 1) := by decide +kernel
theorem dX7_stuck_30 : decode cX7_stuck 30 = .ok (.aload_n 3, 1) := by decide +kernel
theorem dX7_stuck_31 : decode cX7_stuck 31 = .ok (.iconst 1, 1) := by decide +kernel
theorem dX7_stuck_32 : decode cX7_stuck 32 = .ok (.invokevirtual 120, 3) := by decide +kernel
theorem dX7_stuck_35 : decode cX7_stuck 35 = .ok (.invokestatic 123, 3) := by decide +kernel
theorem dX7_stuck_38 : decode cX7_stuck 38 = .ok (.iadd, 1) := by decide +kernel
theorem dX7_stuck_39 : decode cX7_stuck 39 = .ok (.istore_n 1, 1) := by decide +kernel
theorem dX7_stuck_40 : decode cX7_stuck 40 = .ok (.goto (-30), 3) := by decide +kernel
theorem dX7_stuck_43 : decode cX7_stuck 43 = .ok (.iload_n 1, 1) := by decide +kernel
theorem dX7_stuck_44 : decode cX7_stuck 44 = .ok (.ireturn, 1) := by decide +kernel
set_option maxRecDepth 20000 in
theorem ggX7_field_X7_is : GoodIn wsX7_field wsX7_is := goodIn_r _ [8] (by decide +kernel) (by decide +kernel)
set_option maxRecDepth 20000 in
theorem gX7_field_X7_is : GoodIn wsX7_field (va_wsS RX7 46 yX7_is wsX7_is) := goodIn_app (goodIn_of _ (by decide +kernel)) ggX7_field_X7_is
set_option maxRecDepth 20000 in
theorem ggX7_field_X7_refuse : GoodIn wsX7_field wsX7_refuse := goodIn_r _ [12, 1, 65, 66, 67, 68, 69, 70, 71, 72, 73, 74, 75, 76, 77, 78, 79, 80, 81, 82, 83, 84, 85, 86] (by decide +kernel) (by decide +kernel)
set_option maxRecDepth 20000 in
theorem gX7_field_X7_refuse : GoodIn wsX7_field (wsV RX7 59 RX7 yX7_refuse wsX7_refuse) := goodIn_app (goodIn_of _ (by decide +kernel)) ggX7_field_X7_refuse
set_option maxRecDepth 20000 in
theorem ggX7_field_X7_stuck : GoodIn wsX7_field wsX7_stuck := goodIn_r _ [16, 17, 18, 19, 20, 21, 22, 23, 24, 25, 26, 27, 28, 29, 30, 31, 32, 33, 34, 35, 36, 37, 38, 39, 40, 41, 42, 43, 44, 45, 46, 47, 48, 49, 50, 51, 52, 53, 54, 55, 56, 57, 58, 59, 60, 61, 62, 63, 64, 65, 66, 67, 68, 69, 70, 71, 72, 73, 74, 75, 76, 77, 78, 79, 80, 81, 82, 83, 84, 85, 86, 87, 88, 89, 90, 91, 92, 93, 94, 95, 96, 97, 98] (by decide +kernel) (by decide +kernel)
set_option maxRecDepth 20000 in
theorem gX7_field_X7_stuck : GoodIn wsX7_field (wsV RX7 128 RX7 yX7_stuck wsX7_stuck) := goodIn_app (goodIn_of _ (by decide +kernel)) ggX7_field_X7_stuck
theorem dX7_field_0 : decode cX7_field 0 = .ok (.aload_n 0, 1) := by decide +kernel
theorem dX7_field_1 : decode cX7_field 1 = .ok (.iconst 0, 1) := by decide +kernel
theorem dX7_field_2 : decode cX7_field 2 = .ok (.putfield 39, 3) := by decide +kernel
theorem dX7_field_5 : decode cX7_field 5 = .ok (.iload_n 1, 1) := by decide +kernel
theorem dX7_field_6 : decode cX7_field 6 = .ok (.bipush 10, 2) := by decide +kernel
theorem dX7_field_8 : decode cX7_field 8 = .ok (.bipush 90, 2) := by decide +kernel
theorem dX7_field_10 : decode cX7_field 10 = .ok (.invokestatic 46, 3) := by decide +kernel
theorem dX7_field_13 : decode cX7_field 13 = .ok (.ifCond .eq 24, 3) := by decide +kernel
theorem dX7_field_16 : decode cX7_field 16 = .ok (.iload_n 2, 1) := by decide +kernel
theorem dX7_field_17 : decode cX7_field 17 = .ok (.bipush (-16), 2) := by decide +kernel
theorem dX7_field_19 : decode cX7_field 19 = .ok (.bipush 16, 2) := by decide +kernel
theorem dX7_field_21 : decode cX7_field 21 = .ok (.invokestatic 46, 3) := by decide +kernel
theorem dX7_field_24 : decode cX7_field 24 = .ok (.ifCond .eq 13, 3) := by decide +kernel
theorem dX7_field_27 : decode cX7_field 27 = .ok (.iload_n 3, 1) := by decide +kernel
theorem dX7_field_28 : decode cX7_field 28 = .ok (.iconst 1, 1) := by decide +kernel
theorem dX7_field_29 : decode cX7_field 29 = .ok (.bipush 8, 2) := by decide +kernel
theorem dX7_field_31 : decode cX7_field 31 = .ok (.invokestatic 46, 3) := by decide +kernel
theorem dX7_field_34 : decode cX7_field 34 = .ok (.ifCond .ne 9, 3) := by decide +kernel
theorem dX7_field_37 : decode cX7_field 37 = .ok (.aload_n 0, 1) := by decide +kernel
theorem dX7_field_38 : decode cX7_field 38 = .ok (.iconst 1, 1) := by decide +kernel
theorem dX7_field_39 : decode cX7_field 39 = .ok (.invokevirtual 59, 3) := by decide +kernel
theorem dX7_field_42 : decode cX7_field 42 = .ok (.ireturn, 1) := by decide +kernel
theorem dX7_field_43 : decode cX7_field 43 = .ok (.aload_n 0, 1) := by decide +kernel
theorem dX7_field_44 : decode cX7_field 44 = .ok (.invokevirtual 128, 3) := by decide +kernel
theorem dX7_field_47 : decode cX7_field 47 = .ok (.ifCond .le 9, 3) := by decide +kernel
theorem dX7_field_50 : decode cX7_field 50 = .ok (.aload_n 0, 1) := by decide +kernel
theorem dX7_field_51 : decode cX7_field 51 = .ok (.iconst 2, 1) := by decide +kernel
theorem dX7_field_52 : decode cX7_field 52 = .ok (.invokevirtual 59, 3) := by decide +kernel
theorem dX7_field_55 : decode cX7_field 55 = .ok (.ireturn, 1) := by decide +kernel
theorem dX7_field_56 : decode cX7_field 56 = .ok (.aload_n 0, 1) := by decide +kernel
theorem dX7_field_57 : decode cX7_field 57 = .ok (.getfield 19, 3) := by decide +kernel
theorem dX7_field_60 : decode cX7_field 60 = .ok (.istore 4, 2) := by decide +kernel
theorem dX7_field_62 : decode cX7_field 62 = .ok (.aload_n 0, 1) := by decide +kernel
theorem dX7_field_63 : decode cX7_field 63 = .ok (.iload_n 1, 1) := by decide +kernel
theorem dX7_field_64 : decode cX7_field 64 = .ok (.putfield 19, 3) := by decide +kernel
theorem dX7_field_67 : decode cX7_field 67 = .ok (.aload_n 0, 1) := by decide +kernel
theorem dX7_field_68 : decode cX7_field 68 = .ok (.iload_n 2, 1) := by decide +kernel
theorem dX7_field_69 : decode cX7_field 69 = .ok (.putfield 131, 3) := by decide +kernel
theorem dX7_field_72 : decode cX7_field 72 = .ok (.aload_n 0, 1) := by decide +kernel
theorem dX7_field_73 : decode cX7_field 73 = .ok (.iload_n 3, 1) := by decide +kernel
theorem dX7_field_74 : decode cX7_field 74 = .ok (.putfield 23, 3) := by decide +kernel
theorem dX7_field_77 : decode cX7_field 77 = .ok (.iload 4, 2) := by decide +kernel
theorem dX7_field_79 : decode cX7_field 79 = .ok (.ireturn, 1) := by decide +kernel
set_option maxRecDepth 20000 in
theorem ggX7_wind_X7_is : GoodIn wsX7_wind wsX7_is := goodIn_r _ [6] (by decide +kernel) (by decide +kernel)
set_option maxRecDepth 20000 in
theorem gX7_wind_X7_is : GoodIn wsX7_wind (va_wsS RX7 46 yX7_is wsX7_is) := goodIn_app (goodIn_of _ (by decide +kernel)) ggX7_wind_X7_is
set_option maxRecDepth 20000 in
theorem ggX7_wind_X7_refuse : GoodIn wsX7_wind wsX7_refuse := goodIn_r _ [10, 1, 11, 12, 13, 14, 15, 16, 17, 18, 19, 20, 21, 22, 23, 24, 25, 26, 27, 28, 29, 30, 31, 32] (by decide +kernel) (by decide +kernel)
set_option maxRecDepth 20000 in
theorem gX7_wind_X7_refuse : GoodIn wsX7_wind (wsV RX7 59 RX7 yX7_refuse wsX7_refuse) := goodIn_app (goodIn_of _ (by decide +kernel)) ggX7_wind_X7_refuse
theorem dX7_wind_0 : decode cX7_wind 0 = .ok (.aload_n 0, 1) := by decide +kernel
theorem dX7_wind_1 : decode cX7_wind 1 = .ok (.iconst 0, 1) := by decide +kernel
theorem dX7_wind_2 : decode cX7_wind 2 = .ok (.putfield 39, 3) := by decide +kernel
theorem dX7_wind_5 : decode cX7_wind 5 = .ok (.iload_n 1, 1) := by decide +kernel
theorem dX7_wind_6 : decode cX7_wind 6 = .ok (.bipush (-16), 2) := by decide +kernel
theorem dX7_wind_8 : decode cX7_wind 8 = .ok (.bipush 16, 2) := by decide +kernel
theorem dX7_wind_10 : decode cX7_wind 10 = .ok (.invokestatic 46, 3) := by decide +kernel
theorem dX7_wind_13 : decode cX7_wind 13 = .ok (.ifCond .ne 9, 3) := by decide +kernel
theorem dX7_wind_16 : decode cX7_wind 16 = .ok (.aload_n 0, 1) := by decide +kernel
theorem dX7_wind_17 : decode cX7_wind 17 = .ok (.iconst 1, 1) := by decide +kernel
theorem dX7_wind_18 : decode cX7_wind 18 = .ok (.invokevirtual 59, 3) := by decide +kernel
theorem dX7_wind_21 : decode cX7_wind 21 = .ok (.ireturn, 1) := by decide +kernel
theorem dX7_wind_22 : decode cX7_wind 22 = .ok (.aload_n 0, 1) := by decide +kernel
theorem dX7_wind_23 : decode cX7_wind 23 = .ok (.getfield 131, 3) := by decide +kernel
theorem dX7_wind_26 : decode cX7_wind 26 = .ok (.istore_n 2, 1) := by decide +kernel
theorem dX7_wind_27 : decode cX7_wind 27 = .ok (.aload_n 0, 1) := by decide +kernel
theorem dX7_wind_28 : decode cX7_wind 28 = .ok (.iload_n 1, 1) := by decide +kernel
theorem dX7_wind_29 : decode cX7_wind 29 = .ok (.putfield 131, 3) := by decide +kernel
theorem dX7_wind_32 : decode cX7_wind 32 = .ok (.iload_n 2, 1) := by decide +kernel
theorem dX7_wind_33 : decode cX7_wind 33 = .ok (.ireturn, 1) := by decide +kernel
theorem dX7_speed_0 : decode cX7_speed 0 = .ok (.aload_n 0, 1) := by decide +kernel
theorem dX7_speed_1 : decode cX7_speed 1 = .ok (.getfield 64, 3) := by decide +kernel
theorem dX7_speed_4 : decode cX7_speed 4 = .ok (.i2d, 1) := by decide +kernel
theorem dX7_speed_5 : decode cX7_speed 5 = .ok (.ldc2_w 134, 3) := by decide +kernel
theorem dX7_speed_8 : decode cX7_speed 8 = .ok (.dmul, 1) := by decide +kernel
theorem dX7_speed_9 : decode cX7_speed 9 = .ok (.aload_n 1, 1) := by decide +kernel
theorem dX7_speed_10 : decode cX7_speed 10 = .ok (.getfield 77, 3) := by decide +kernel
theorem dX7_speed_13 : decode cX7_speed 13 = .ok (.i2d, 1) := by decide +kernel
theorem dX7_speed_14 : decode cX7_speed 14 = .ok (.ldc2_w 136, 3) := by decide +kernel
theorem dX7_speed_17 : decode cX7_speed 17 = .ok (.dadd, 1) := by decide +kernel
theorem dX7_speed_18 : decode cX7_speed 18 = .ok (.ddiv, 1) := by decide +kernel
theorem dX7_speed_19 : decode cX7_speed 19 = .ok (.dconst 1, 1) := by decide +kernel
theorem dX7_speed_20 : decode cX7_speed 20 = .ok (.aload_n 0, 1) := by decide +kernel
theorem dX7_speed_21 : decode cX7_speed 21 = .ok (.getfield 103, 3) := by decide +kernel
theorem dX7_speed_24 : decode cX7_speed 24 = .ok (.f2d, 1) := by decide +kernel
theorem dX7_speed_25 : decode cX7_speed 25 = .ok (.dsub, 1) := by decide +kernel
theorem dX7_speed_26 : decode cX7_speed 26 = .ok (.dmul, 1) := by decide +kernel
theorem dX7_speed_27 : decode cX7_speed 27 = .ok (.dreturn, 1) := by decide +kernel
set_option maxRecDepth 20000 in
theorem ggX7_fly_X7_speed : GoodIn wsX7_fly wsX7_speed := goodIn_r _ [13, 14, 15, 16, 17, 18, 19, 20, 21, 22, 23, 24, 25, 26, 27, 28, 29, 30, 31, 32] (by decide +kernel) (by decide +kernel)
set_option maxRecDepth 20000 in
theorem gX7_fly_X7_speed : GoodIn wsX7_fly (va_wsS RX7 138 yX7_speed wsX7_speed) := goodIn_app (goodIn_of _ (by decide +kernel)) ggX7_fly_X7_speed
theorem dX7_fly_0 : decode cX7_fly 0 = .ok (.aload_n 1, 1) := by decide +kernel
theorem dX7_fly_1 : decode cX7_fly 1 = .ok (.aload_n 2, 1) := by decide +kernel
theorem dX7_fly_2 : decode cX7_fly 2 = .ok (.invokestatic 138, 3) := by decide +kernel
theorem dX7_fly_5 : decode cX7_fly 5 = .ok (.dstore 5, 2) := by decide +kernel
theorem dX7_fly_7 : decode cX7_fly 7 = .ok (.dload 5, 2) := by decide +kernel
theorem dX7_fly_9 : decode cX7_fly 9 = .ok (.dstore 7, 2) := by decide +kernel
theorem dX7_fly_11 : decode cX7_fly 11 = .ok (.dload 5, 2) := by decide +kernel
theorem dX7_fly_13 : decode cX7_fly 13 = .ok (.iload_n 3, 1) := by decide +kernel
theorem dX7_fly_14 : decode cX7_fly 14 = .ok (.i2d, 1) := by decide +kernel
theorem dX7_fly_15 : decode cX7_fly 15 = .ok (.dmul, 1) := by decide +kernel
theorem dX7_fly_16 : decode cX7_fly 16 = .ok (.ldc2_w 142, 3) := by decide +kernel
theorem dX7_fly_19 : decode cX7_fly 19 = .ok (.ddiv, 1) := by decide +kernel
theorem dX7_fly_20 : decode cX7_fly 20 = .ok (.aload_n 1, 1) := by decide +kernel
theorem dX7_fly_21 : decode cX7_fly 21 = .ok (.getfield 100, 3) := by decide +kernel
theorem dX7_fly_24 : decode cX7_fly 24 = .ok (.i2d, 1) := by decide +kernel
theorem dX7_fly_25 : decode cX7_fly 25 = .ok (.ldc2_w 144, 3) := by decide +kernel
theorem dX7_fly_28 : decode cX7_fly 28 = .ok (.ddiv, 1) := by decide +kernel
theorem dX7_fly_29 : decode cX7_fly 29 = .ok (.dadd, 1) := by decide +kernel
theorem dX7_fly_30 : decode cX7_fly 30 = .ok (.dstore 9, 2) := by decide +kernel
theorem dX7_fly_32 : decode cX7_fly 32 = .ok (.aload_n 2, 1) := by decide +kernel
theorem dX7_fly_33 : decode cX7_fly 33 = .ok (.getfield 80, 3) := by decide +kernel
theorem dX7_fly_36 : decode cX7_fly 36 = .ok (.sipush 1300, 3) := by decide +kernel
theorem dX7_fly_39 : decode cX7_fly 39 = .ok (.bipush 14, 2) := by decide +kernel
theorem dX7_fly_41 : decode cX7_fly 41 = .ok (.aload_n 1, 1) := by decide +kernel
theorem dX7_fly_42 : decode cX7_fly 42 = .ok (.getfield 64, 3) := by decide +kernel
theorem dX7_fly_45 : decode cX7_fly 45 = .ok (.imul, 1) := by decide +kernel
theorem dX7_fly_46 : decode cX7_fly 46 = .ok (.isub, 1) := by decide +kernel
theorem dX7_fly_47 : decode cX7_fly 47 = .ok (.isub, 1) := by decide +kernel
theorem dX7_fly_48 : decode cX7_fly 48 = .ok (.i2d, 1) := by decide +kernel
theorem dX7_fly_49 : decode cX7_fly 49 = .ok (.ldc2_w 146, 3) := by decide +kernel
theorem dX7_fly_52 : decode cX7_fly 52 = .ok (.ddiv, 1) := by decide +kernel
theorem dX7_fly_53 : decode cX7_fly 53 = .ok (.dstore 11, 2) := by decide +kernel
theorem dX7_fly_55 : decode cX7_fly 55 = .ok (.dconst 0, 1) := by decide +kernel
theorem dX7_fly_56 : decode cX7_fly 56 = .ok (.dstore 13, 2) := by decide +kernel
theorem dX7_fly_58 : decode cX7_fly 58 = .ok (.aload_n 0, 1) := by decide +kernel
theorem dX7_fly_59 : decode cX7_fly 59 = .ok (.dconst 0, 1) := by decide +kernel
theorem dX7_fly_60 : decode cX7_fly 60 = .ok (.putfield 148, 3) := by decide +kernel
theorem dX7_fly_63 : decode cX7_fly 63 = .ok (.aload_n 0, 1) := by decide +kernel
theorem dX7_fly_64 : decode cX7_fly 64 = .ok (.dconst 0, 1) := by decide +kernel
theorem dX7_fly_65 : decode cX7_fly 65 = .ok (.putfield 152, 3) := by decide +kernel
theorem dX7_fly_68 : decode cX7_fly 68 = .ok (.dload 13, 2) := by decide +kernel
theorem dX7_fly_70 : decode cX7_fly 70 = .ok (.iload 4, 2) := by decide +kernel
theorem dX7_fly_72 : decode cX7_fly 72 = .ok (.i2d, 1) := by decide +kernel
theorem dX7_fly_73 : decode cX7_fly 73 = .ok (.dcmp .g, 1) := by decide +kernel
theorem dX7_fly_74 : decode cX7_fly 74 = .ok (.ifCond .ge 80, 3) := by decide +kernel
theorem dX7_fly_77 : decode cX7_fly 77 = .ok (.dload 13, 2) := by decide +kernel
theorem dX7_fly_79 : decode cX7_fly 79 = .ok (.dload 7, 2) := by decide +kernel
theorem dX7_fly_81 : decode cX7_fly 81 = .ok (.ldc2_w 155, 3) := by decide +kernel
theorem dX7_fly_84 : decode cX7_fly 84 = .ok (.ddiv, 1) := by decide +kernel
theorem dX7_fly_85 : decode cX7_fly 85 = .ok (.dadd, 1) := by decide +kernel
theorem dX7_fly_86 : decode cX7_fly 86 = .ok (.dstore 13, 2) := by decide +kernel
theorem dX7_fly_88 : decode cX7_fly 88 = .ok (.aload_n 0, 1) := by decide +kernel
theorem dX7_fly_89 : decode cX7_fly 89 = .ok (.aload_n 0, 1) := by decide +kernel
theorem dX7_fly_90 : decode cX7_fly 90 = .ok (.getfield 152, 3) := by decide +kernel
theorem dX7_fly_93 : decode cX7_fly 93 = .ok (.dload 9, 2) := by decide +kernel
theorem dX7_fly_95 : decode cX7_fly 95 = .ok (.ldc2_w 155, 3) := by decide +kernel
theorem dX7_fly_98 : decode cX7_fly 98 = .ok (.ddiv, 1) := by decide +kernel
theorem dX7_fly_99 : decode cX7_fly 99 = .ok (.dadd, 1) := by decide +kernel
theorem dX7_fly_100 : decode cX7_fly 100 = .ok (.putfield 152, 3) := by decide +kernel
theorem dX7_fly_103 : decode cX7_fly 103 = .ok (.aload_n 0, 1) := by decide +kernel
theorem dX7_fly_104 : decode cX7_fly 104 = .ok (.aload_n 0, 1) := by decide +kernel
theorem dX7_fly_105 : decode cX7_fly 105 = .ok (.getfield 148, 3) := by decide +kernel
theorem dX7_fly_108 : decode cX7_fly 108 = .ok (.dload 11, 2) := by decide +kernel
theorem dX7_fly_110 : decode cX7_fly 110 = .ok (.ldc2_w 155, 3) := by decide +kernel
theorem dX7_fly_113 : decode cX7_fly 113 = .ok (.ddiv, 1) := by decide +kernel
theorem dX7_fly_114 : decode cX7_fly 114 = .ok (.dadd, 1) := by decide +kernel
theorem dX7_fly_115 : decode cX7_fly 115 = .ok (.putfield 148, 3) := by decide +kernel
theorem dX7_fly_118 : decode cX7_fly 118 = .ok (.dload 7, 2) := by decide +kernel
theorem dX7_fly_120 : decode cX7_fly 120 = .ok (.dload 7, 2) := by decide +kernel
theorem dX7_fly_122 : decode cX7_fly 122 = .ok (.ldc2_w 146, 3) := by decide +kernel
theorem dX7_fly_125 : decode cX7_fly 125 = .ok (.ddiv, 1) := by decide +kernel
theorem dX7_fly_126 : decode cX7_fly 126 = .ok (.dsub, 1) := by decide +kernel
theorem dX7_fly_127 : decode cX7_fly 127 = .ok (.dstore 7, 2) := by decide +kernel
theorem dX7_fly_129 : decode cX7_fly 129 = .ok (.dload 9, 2) := by decide +kernel
theorem dX7_fly_131 : decode cX7_fly 131 = .ok (.ldc2_w 157, 3) := by decide +kernel
theorem dX7_fly_134 : decode cX7_fly 134 = .ok (.dsub, 1) := by decide +kernel
theorem dX7_fly_135 : decode cX7_fly 135 = .ok (.dstore 9, 2) := by decide +kernel
theorem dX7_fly_137 : decode cX7_fly 137 = .ok (.dload 11, 2) := by decide +kernel
theorem dX7_fly_139 : decode cX7_fly 139 = .ok (.aload_n 0, 1) := by decide +kernel
theorem dX7_fly_140 : decode cX7_fly 140 = .ok (.getfield 131, 3) := by decide +kernel
theorem dX7_fly_143 : decode cX7_fly 143 = .ok (.i2d, 1) := by decide +kernel
theorem dX7_fly_144 : decode cX7_fly 144 = .ok (.ldc2_w 159, 3) := by decide +kernel
theorem dX7_fly_147 : decode cX7_fly 147 = .ok (.ddiv, 1) := by decide +kernel
theorem dX7_fly_148 : decode cX7_fly 148 = .ok (.dadd, 1) := by decide +kernel
theorem dX7_fly_149 : decode cX7_fly 149 = .ok (.dstore 11, 2) := by decide +kernel
theorem dX7_fly_151 : decode cX7_fly 151 = .ok (.goto (-83), 3) := by decide +kernel
theorem dX7_fly_154 : decode cX7_fly 154 = .ok (.return_, 1) := by decide +kernel
theorem dX7_score_0 : decode cX7_score 0 = .ok (.bipush 10, 2) := by decide +kernel
theorem dX7_score_2 : decode cX7_score 2 = .ok (.istore_n 3, 1) := by decide +kernel
theorem dX7_score_3 : decode cX7_score 3 = .ok (.iload_n 3, 1) := by decide +kernel
theorem dX7_score_4 : decode cX7_score 4 = .ok (.ifCond .le 41, 3) := by decide +kernel
theorem dX7_score_7 : decode cX7_score 7 = .ok (.aload_n 0, 1) := by decide +kernel
theorem dX7_score_8 : decode cX7_score 8 = .ok (.getfield 23, 3) := by decide +kernel
theorem dX7_score_11 : decode cX7_score 11 = .ok (.bipush 11, 2) := by decide +kernel
theorem dX7_score_13 : decode cX7_score 13 = .ok (.iload_n 3, 1) := by decide +kernel
theorem dX7_score_14 : decode cX7_score 14 = .ok (.isub, 1) := by decide +kernel
theorem dX7_score_15 : decode cX7_score 15 = .ok (.imul, 1) := by decide +kernel
theorem dX7_score_16 : decode cX7_score 16 = .ok (.i2d, 1) := by decide +kernel
theorem dX7_score_17 : decode cX7_score 17 = .ok (.ldc2_w 159, 3) := by decide +kernel
theorem dX7_score_20 : decode cX7_score 20 = .ok (.ddiv, 1) := by decide +kernel
theorem dX7_score_21 : decode cX7_score 21 = .ok (.ldc2_w 161, 3) := by decide +kernel
theorem dX7_score_24 : decode cX7_score 24 = .ok (.dadd, 1) := by decide +kernel
theorem dX7_score_25 : decode cX7_score 25 = .ok (.dstore 4, 2) := by decide +kernel
theorem dX7_score_27 : decode cX7_score 27 = .ok (.dload_n 1, 1) := by decide +kernel
theorem dX7_score_28 : decode cX7_score 28 = .ok (.dload 4, 2) := by decide +kernel
theorem dX7_score_30 : decode cX7_score 30 = .ok (.dload 4, 2) := by decide +kernel
theorem dX7_score_32 : decode cX7_score 32 = .ok (.dmul, 1) := by decide +kernel
theorem dX7_score_33 : decode cX7_score 33 = .ok (.dcmp .g, 1) := by decide +kernel
theorem dX7_score_34 : decode cX7_score 34 = .ok (.ifCond .gt 5, 3) := by decide +kernel
theorem dX7_score_37 : decode cX7_score 37 = .ok (.iload_n 3, 1) := by decide +kernel
theorem dX7_score_38 : decode cX7_score 38 = .ok (.ireturn, 1) := by decide +kernel
theorem dX7_score_39 : decode cX7_score 39 = .ok (.iinc 3 (-1), 3) := by decide +kernel
theorem dX7_score_42 : decode cX7_score 42 = .ok (.goto (-39), 3) := by decide +kernel
theorem dX7_score_45 : decode cX7_score 45 = .ok (.iconst 0, 1) := by decide +kernel
theorem dX7_score_46 : decode cX7_score 46 = .ok (.ireturn, 1) := by decide +kernel
set_option maxRecDepth 20000 in
theorem ggX7_split_Jx4a65c_iterator_32c93 : GoodIn wsX7_split wsJx4a65c_iterator_32c93 := goodIn_r _ [11, 12, 13, 14, 15, 16, 17, 18, 19, 20, 21, 22, 23, 24, 25, 79, 80, 81, 82, 83, 84, 85] (by decide +kernel) (by decide +kernel)
set_option maxRecDepth 20000 in
theorem gX7_split_Jx4a65c_iterator_32c93 : GoodIn wsX7_split (wsV RX7 107 RJx4a65c yJx4a65c_iterator_32c93 wsJx4a65c_iterator_32c93) := goodIn_app (goodIn_of _ (by decide +kernel)) ggX7_split_Jx4a65c_iterator_32c93
set_option maxRecDepth 20000 in
theorem ggX7_split_Jx35411_hasNext_aae02 : GoodIn wsX7_split wsJx35411_hasNext_aae02 := goodIn_r _ [29, 30, 18, 79, 80, 81, 82, 83, 84, 85] (by decide +kernel) (by decide +kernel)
set_option maxRecDepth 20000 in
theorem gX7_split_Jx35411_hasNext_aae02_f111Jx35411 : GoodIn wsX7_split (va_wsF RX7 111 RJx35411 ⟨"java/util/Iterator", "hasNext", "()Z"⟩ yJx35411_hasNext_aae02 wsJx35411_hasNext_aae02) := goodIn_app (goodIn_of _ (by decide +kernel)) ggX7_split_Jx35411_hasNext_aae02
set_option maxRecDepth 20000 in
theorem ggX7_split_Jx35411_next_0502b : GoodIn wsX7_split wsJx35411_next_0502b := goodIn_r _ [34, 30, 18, 35, 22, 36, 37, 38, 14, 39, 23, 24, 25, 79, 80, 81, 82, 83, 84, 85] (by decide +kernel) (by decide +kernel)
set_option maxRecDepth 20000 in
theorem gX7_split_Jx35411_next_0502b_f116Jx35411 : GoodIn wsX7_split (va_wsF RX7 116 RJx35411 ⟨"java/util/Iterator", "next", "()Ljava/lang/Object;"⟩ yJx35411_next_0502b wsJx35411_next_0502b) := goodIn_app (goodIn_of _ (by decide +kernel)) ggX7_split_Jx35411_next_0502b
set_option maxRecDepth 20000 in
theorem ggX7_split_J9_abs_294c1 : GoodIn wsX7_split wsJ9_abs_294c1 := goodIn_r _ [43, 44, 45, 46, 47, 48, 49, 50, 51] (by decide +kernel) (by decide +kernel)
set_option maxRecDepth 20000 in
theorem gX7_split_J9_abs_294c1 : GoodIn wsX7_split (va_wsS RX7 169 yJ9_abs_294c1 wsJ9_abs_294c1) := goodIn_app (goodIn_of _ (by decide +kernel)) ggX7_split_J9_abs_294c1
theorem dX7_split_0 : decode cX7_split 0 = .ok (.aload_n 0, 1) := by decide +kernel
theorem dX7_split_1 : decode cX7_split 1 = .ok (.getfield 16, 3) := by decide +kernel
theorem dX7_split_4 : decode cX7_split 4 = .ok (.invokevirtual 107, 3) := by decide +kernel
theorem dX7_split_7 : decode cX7_split 7 = .ok (.astore_n 1, 1) := by decide +kernel
theorem dX7_split_8 : decode cX7_split 8 = .ok (.aload_n 1, 1) := by decide +kernel
theorem dX7_split_9 : decode cX7_split 9 = .ok (.invokeinterface 111 1, 5) := by decide +kernel
theorem dX7_split_14 : decode cX7_split 14 = .ok (.ifCond .eq 103, 3) := by decide +kernel
theorem dX7_split_17 : decode cX7_split 17 = .ok (.aload_n 1, 1) := by decide +kernel
theorem dX7_split_18 : decode cX7_split 18 = .ok (.invokeinterface 116 1, 5) := by decide +kernel
theorem dX7_split_23 : decode cX7_split 23 = .ok (.checkcast 74, 3) := by decide +kernel
theorem dX7_split_26 : decode cX7_split 26 = .ok (.astore_n 2, 1) := by decide +kernel
theorem dX7_split_27 : decode cX7_split 27 = .ok (.iconst 0, 1) := by decide +kernel
theorem dX7_split_28 : decode cX7_split 28 = .ok (.istore_n 3, 1) := by decide +kernel
theorem dX7_split_29 : decode cX7_split 29 = .ok (.iload_n 3, 1) := by decide +kernel
theorem dX7_split_30 : decode cX7_split 30 = .ok (.bipush 12, 2) := by decide +kernel
theorem dX7_split_32 : decode cX7_split 32 = .ok (.if_icmp .ge 82, 3) := by decide +kernel
theorem dX7_split_35 : decode cX7_split 35 = .ok (.aload_n 2, 1) := by decide +kernel
theorem dX7_split_36 : decode cX7_split 36 = .ok (.getfield 163, 3) := by decide +kernel
theorem dX7_split_39 : decode cX7_split 39 = .ok (.iload_n 3, 1) := by decide +kernel
theorem dX7_split_40 : decode cX7_split 40 = .ok (.iaload, 1) := by decide +kernel
theorem dX7_split_41 : decode cX7_split 41 = .ok (.iconst 1, 1) := by decide +kernel
theorem dX7_split_42 : decode cX7_split 42 = .ok (.if_icmp .ne 66, 3) := by decide +kernel
theorem dX7_split_45 : decode cX7_split 45 = .ok (.aload_n 0, 1) := by decide +kernel
theorem dX7_split_46 : decode cX7_split 46 = .ok (.getfield 148, 3) := by decide +kernel
theorem dX7_split_49 : decode cX7_split 49 = .ok (.aload_n 2, 1) := by decide +kernel
theorem dX7_split_50 : decode cX7_split 50 = .ok (.getfield 166, 3) := by decide +kernel
theorem dX7_split_53 : decode cX7_split 53 = .ok (.iload_n 3, 1) := by decide +kernel
theorem dX7_split_54 : decode cX7_split 54 = .ok (.daload, 1) := by decide +kernel
theorem dX7_split_55 : decode cX7_split 55 = .ok (.dsub, 1) := by decide +kernel
theorem dX7_split_56 : decode cX7_split 56 = .ok (.invokestatic 169, 3) := by decide +kernel
theorem dX7_split_59 : decode cX7_split 59 = .ok (.ldc2_w 175, 3) := by decide +kernel
theorem dX7_split_62 : decode cX7_split 62 = .ok (.dcmp .l, 1) := by decide +kernel
theorem dX7_split_63 : decode cX7_split 63 = .ok (.ifCond .ge 45, 3) := by decide +kernel
theorem dX7_split_66 : decode cX7_split 66 = .ok (.aload_n 0, 1) := by decide +kernel
theorem dX7_split_67 : decode cX7_split 67 = .ok (.getfield 152, 3) := by decide +kernel
theorem dX7_split_70 : decode cX7_split 70 = .ok (.aload_n 2, 1) := by decide +kernel
theorem dX7_split_71 : decode cX7_split 71 = .ok (.getfield 177, 3) := by decide +kernel
theorem dX7_split_74 : decode cX7_split 74 = .ok (.iload_n 3, 1) := by decide +kernel
theorem dX7_split_75 : decode cX7_split 75 = .ok (.daload, 1) := by decide +kernel
theorem dX7_split_76 : decode cX7_split 76 = .ok (.dsub, 1) := by decide +kernel
theorem dX7_split_77 : decode cX7_split 77 = .ok (.invokestatic 169, 3) := by decide +kernel
theorem dX7_split_80 : decode cX7_split 80 = .ok (.ldc2_w 175, 3) := by decide +kernel
theorem dX7_split_83 : decode cX7_split 83 = .ok (.dcmp .l, 1) := by decide +kernel
theorem dX7_split_84 : decode cX7_split 84 = .ok (.ifCond .lt 6, 3) := by decide +kernel
theorem dX7_split_87 : decode cX7_split 87 = .ok (.goto 21, 3) := by decide +kernel
theorem dX7_split_90 : decode cX7_split 90 = .ok (.aload_n 2, 1) := by decide +kernel
theorem dX7_split_91 : decode cX7_split 91 = .ok (.getfield 163, 3) := by decide +kernel
theorem dX7_split_94 : decode cX7_split 94 = .ok (.iload_n 3, 1) := by decide +kernel
theorem dX7_split_95 : decode cX7_split 95 = .ok (.iconst 3, 1) := by decide +kernel
theorem dX7_split_96 : decode cX7_split 96 = .ok (.iastore, 1) := by decide +kernel
theorem dX7_split_97 : decode cX7_split 97 = .ok (.aload_n 0, 1) := by decide +kernel
theorem dX7_split_98 : decode cX7_split 98 = .ok (.dup, 1) := by decide +kernel
theorem dX7_split_99 : decode cX7_split 99 = .ok (.getfield 179, 3) := by decide +kernel
theorem dX7_split_102 : decode cX7_split 102 = .ok (.iconst 1, 1) := by decide +kernel
theorem dX7_split_103 : decode cX7_split 103 = .ok (.iadd, 1) := by decide +kernel
theorem dX7_split_104 : decode cX7_split 104 = .ok (.putfield 179, 3) := by decide +kernel
theorem dX7_split_107 : decode cX7_split 107 = .ok (.return_, 1) := by decide +kernel
theorem dX7_split_108 : decode cX7_split 108 = .ok (.iinc 3 1, 3) := by decide +kernel
theorem dX7_split_111 : decode cX7_split 111 = .ok (.goto (-82), 3) := by decide +kernel
theorem dX7_split_114 : decode cX7_split 114 = .ok (.goto (-106), 3) := by decide +kernel
theorem dX7_split_117 : decode cX7_split 117 = .ok (.return_, 1) := by decide +kernel
set_option maxRecDepth 20000 in
theorem ggX7_canShoot_Jx4a65c_get_915e3 : GoodIn wsX7_canShoot wsJx4a65c_get_915e3 := goodIn_r _ [12, 13, 14, 15, 16, 17, 18, 19, 20, 21, 22, 23, 24, 11, 25, 26, 71, 72, 73] (by decide +kernel) (by decide +kernel)
set_option maxRecDepth 20000 in
theorem gX7_canShoot_Jx4a65c_get_915e3 : GoodIn wsX7_canShoot (wsV RX7 50 RJx4a65c yJx4a65c_get_915e3 wsJx4a65c_get_915e3) := goodIn_app (goodIn_of _ (by decide +kernel)) ggX7_canShoot_Jx4a65c_get_915e3
set_option maxRecDepth 20000 in
theorem ggX7_canShoot_X7_isOn : GoodIn wsX7_canShoot wsX7_isOn := goodIn_r _ [31, 4, 32, 33, 34, 35, 36, 37, 38, 39, 40, 41, 42, 43, 44, 45, 46, 47, 48, 49, 50, 51, 52, 53] (by decide +kernel) (by decide +kernel)
set_option maxRecDepth 20000 in
theorem gX7_canShoot_X7_isOn : GoodIn wsX7_canShoot (wsV RX7 90 RX7 yX7_isOn wsX7_isOn) := goodIn_app (goodIn_of _ (by decide +kernel)) ggX7_canShoot_X7_isOn
theorem dX7_canShoot_0 : decode cX7_canShoot 0 = .ok (.aload_n 0, 1) := by decide +kernel
theorem dX7_canShoot_1 : decode cX7_canShoot 1 = .ok (.getfield 10, 3) := by decide +kernel
theorem dX7_canShoot_4 : decode cX7_canShoot 4 = .ok (.iload_n 1, 1) := by decide +kernel
theorem dX7_canShoot_5 : decode cX7_canShoot 5 = .ok (.invokevirtual 50, 3) := by decide +kernel
theorem dX7_canShoot_8 : decode cX7_canShoot 8 = .ok (.checkcast 54, 3) := by decide +kernel
theorem dX7_canShoot_11 : decode cX7_canShoot 11 = .ok (.astore_n 3, 1) := by decide +kernel
theorem dX7_canShoot_12 : decode cX7_canShoot 12 = .ok (.aload_n 0, 1) := by decide +kernel
theorem dX7_canShoot_13 : decode cX7_canShoot 13 = .ok (.getfield 182, 3) := by decide +kernel
theorem dX7_canShoot_16 : decode cX7_canShoot 16 = .ok (.ifCond .ne 33, 3) := by decide +kernel
theorem dX7_canShoot_19 : decode cX7_canShoot 19 = .ok (.aload_n 3, 1) := by decide +kernel
theorem dX7_canShoot_20 : decode cX7_canShoot 20 = .ok (.getfield 56, 3) := by decide +kernel
theorem dX7_canShoot_23 : decode cX7_canShoot 23 = .ok (.iconst (-1), 1) := by decide +kernel
theorem dX7_canShoot_24 : decode cX7_canShoot 24 = .ok (.if_icmp .eq 25, 3) := by decide +kernel
theorem dX7_canShoot_27 : decode cX7_canShoot 27 = .ok (.aload_n 0, 1) := by decide +kernel
theorem dX7_canShoot_28 : decode cX7_canShoot 28 = .ok (.invokevirtual 90, 3) := by decide +kernel
theorem dX7_canShoot_31 : decode cX7_canShoot 31 = .ok (.ifCond .eq 20, 3) := by decide +kernel
theorem dX7_canShoot_34 : decode cX7_canShoot 34 = .ok (.aload_n 0, 1) := by decide +kernel
theorem dX7_canShoot_35 : decode cX7_canShoot 35 = .ok (.getfield 29, 3) := by decide +kernel
theorem dX7_canShoot_38 : decode cX7_canShoot 38 = .ok (.aload_n 0, 1) := by decide +kernel
theorem dX7_canShoot_39 : decode cX7_canShoot 39 = .ok (.getfield 186, 3) := by decide +kernel
theorem dX7_canShoot_42 : decode cX7_canShoot 42 = .ok (.iconst 2, 1) := by decide +kernel
theorem dX7_canShoot_43 : decode cX7_canShoot 43 = .ok (.irem, 1) := by decide +kernel
theorem dX7_canShoot_44 : decode cX7_canShoot 44 = .ok (.iaload, 1) := by decide +kernel
theorem dX7_canShoot_45 : decode cX7_canShoot 45 = .ok (.iload_n 1, 1) := by decide +kernel
theorem dX7_canShoot_46 : decode cX7_canShoot 46 = .ok (.if_icmp .eq 5, 3) := by decide +kernel
theorem dX7_canShoot_49 : decode cX7_canShoot 49 = .ok (.iconst 0, 1) := by decide +kernel
theorem dX7_canShoot_50 : decode cX7_canShoot 50 = .ok (.ireturn, 1) := by decide +kernel
theorem dX7_canShoot_51 : decode cX7_canShoot 51 = .ok (.aload_n 0, 1) := by decide +kernel
theorem dX7_canShoot_52 : decode cX7_canShoot 52 = .ok (.getfield 16, 3) := by decide +kernel
theorem dX7_canShoot_55 : decode cX7_canShoot 55 = .ok (.aload_n 3, 1) := by decide +kernel
theorem dX7_canShoot_56 : decode cX7_canShoot 56 = .ok (.getfield 56, 3) := by decide +kernel
theorem dX7_canShoot_59 : decode cX7_canShoot 59 = .ok (.invokevirtual 50, 3) := by decide +kernel
theorem dX7_canShoot_62 : decode cX7_canShoot 62 = .ok (.checkcast 74, 3) := by decide +kernel
theorem dX7_canShoot_65 : decode cX7_canShoot 65 = .ok (.getfield 163, 3) := by decide +kernel
theorem dX7_canShoot_68 : decode cX7_canShoot 68 = .ok (.iload_n 2, 1) := by decide +kernel
theorem dX7_canShoot_69 : decode cX7_canShoot 69 = .ok (.iaload, 1) := by decide +kernel
theorem dX7_canShoot_70 : decode cX7_canShoot 70 = .ok (.ifCond .ne 7, 3) := by decide +kernel
theorem dX7_canShoot_73 : decode cX7_canShoot 73 = .ok (.iconst 1, 1) := by decide +kernel
theorem dX7_canShoot_74 : decode cX7_canShoot 74 = .ok (.goto 4, 3) := by decide +kernel
theorem dX7_canShoot_77 : decode cX7_canShoot 77 = .ok (.iconst 0, 1) := by decide +kernel
theorem dX7_canShoot_78 : decode cX7_canShoot 78 = .ok (.ireturn, 1) := by decide +kernel
set_option maxRecDepth 20000 in
theorem ggX7_shoot_X7_isArcher : GoodIn wsX7_shoot wsX7_isArcher := goodIn_r _ [19, 2, 20, 21, 22, 23, 24, 25, 26, 27, 18, 28, 154, 155, 156, 157, 158, 159, 160, 161, 162, 163, 164, 165, 166, 167, 168, 169, 170, 171, 172, 173, 174, 175, 193, 194, 195] (by decide +kernel) (by decide +kernel)
set_option maxRecDepth 20000 in
theorem gX7_shoot_X7_isArcher : GoodIn wsX7_shoot (wsV RX7 83 RX7 yX7_isArcher wsX7_isArcher) := goodIn_app (goodIn_of _ (by decide +kernel)) ggX7_shoot_X7_isArcher
set_option maxRecDepth 20000 in
theorem ggX7_shoot_X7_is : GoodIn wsX7_shoot wsX7_is := goodIn_r _ [28] (by decide +kernel) (by decide +kernel)
set_option maxRecDepth 20000 in
theorem gX7_shoot_X7_is : GoodIn wsX7_shoot (va_wsS RX7 46 yX7_is wsX7_is) := goodIn_app (goodIn_of _ (by decide +kernel)) ggX7_shoot_X7_is
set_option maxRecDepth 20000 in
theorem ggX7_shoot_X7_refuse : GoodIn wsX7_shoot wsX7_refuse := goodIn_r _ [32, 1, 154, 155, 156, 157, 158, 159, 160, 161, 162, 163, 164, 165, 166, 167, 168, 169, 170, 171, 172, 173, 174, 175] (by decide +kernel) (by decide +kernel)
set_option maxRecDepth 20000 in
theorem gX7_shoot_X7_refuse : GoodIn wsX7_shoot (wsV RX7 59 RX7 yX7_refuse wsX7_refuse) := goodIn_app (goodIn_of _ (by decide +kernel)) ggX7_shoot_X7_refuse
set_option maxRecDepth 20000 in
theorem ggX7_shoot_X7_canShoot : GoodIn wsX7_shoot wsX7_canShoot := goodIn_r _ [36, 2, 3, 37, 38, 39, 4, 5, 40, 41, 42, 23, 43, 25, 44, 45, 46, 47, 48, 49, 50, 51, 52, 53, 54, 55, 56, 57, 58, 59, 18, 60, 154, 155, 156, 157, 158, 159, 160, 161, 162, 163, 164, 165, 166, 167, 168, 169, 170, 171, 172, 173, 174, 175, 176, 177, 178, 179, 180, 181, 182, 183, 184, 185, 186, 187, 188, 189, 190, 191, 192, 193, 194, 195] (by decide +kernel) (by decide +kernel)
set_option maxRecDepth 20000 in
theorem gX7_shoot_X7_canShoot : GoodIn wsX7_shoot (wsV RX7 189 RX7 yX7_canShoot wsX7_canShoot) := goodIn_app (goodIn_of _ (by decide +kernel)) ggX7_shoot_X7_canShoot
set_option maxRecDepth 20000 in
theorem ggX7_shoot_Jx4a65c_get_915e3 : GoodIn wsX7_shoot wsJx4a65c_get_915e3 := goodIn_r _ [43, 25, 44, 45, 46, 47, 48, 49, 50, 51, 52, 53, 54, 23, 55, 56, 193, 194, 195] (by decide +kernel) (by decide +kernel)
set_option maxRecDepth 20000 in
theorem gX7_shoot_Jx4a65c_get_915e3 : GoodIn wsX7_shoot (wsV RX7 50 RJx4a65c yJx4a65c_get_915e3 wsJx4a65c_get_915e3) := goodIn_app (goodIn_of _ (by decide +kernel)) ggX7_shoot_Jx4a65c_get_915e3
set_option maxRecDepth 20000 in
theorem ggX7_shoot_X7_fly : GoodIn wsX7_shoot wsX7_fly := goodIn_r _ [64, 65, 66, 67, 8, 11, 68, 69, 70, 71, 72, 73, 18, 74, 75, 76, 176, 177, 178, 179, 180, 181, 182, 183, 184, 185, 186, 187, 188, 189, 190, 191, 192, 154, 155, 156, 157, 158, 159, 160, 161, 162, 163, 164, 165, 166, 167, 168, 169, 170, 171, 172, 173, 174, 175] (by decide +kernel) (by decide +kernel)
set_option maxRecDepth 20000 in
theorem gX7_shoot_X7_fly : GoodIn wsX7_shoot (wsV RX7 193 RX7 yX7_fly wsX7_fly) := goodIn_app (goodIn_of _ (by decide +kernel)) ggX7_shoot_X7_fly
set_option maxRecDepth 20000 in
theorem ggX7_shoot_X7_split : GoodIn wsX7_shoot wsX7_split := goodIn_r _ [80, 4, 5, 8, 81, 11, 82, 83, 84, 85, 23, 86, 87, 88, 89, 90, 91, 92, 93, 94, 95, 96, 97, 98, 99, 100, 101, 102, 103, 104, 105, 106, 107, 108, 109, 110, 111, 112, 113, 114, 115, 116, 117, 118, 119, 120, 121, 122, 123, 124, 125, 126, 154, 155, 156, 157, 158, 159, 160, 161, 162, 163, 164, 165, 166, 167, 168, 169, 170, 171, 172, 173, 174, 175, 188, 189, 190, 191, 192, 196, 197, 198, 199, 193, 194, 195] (by decide +kernel) (by decide +kernel)
set_option maxRecDepth 20000 in
theorem gX7_shoot_X7_split : GoodIn wsX7_shoot (wsV RX7 204 RX7 yX7_split wsX7_split) := goodIn_app (goodIn_of _ (by decide +kernel)) ggX7_shoot_X7_split
set_option maxRecDepth 20000 in
theorem ggX7_shoot_X7_score : GoodIn wsX7_shoot wsX7_score := goodIn_r _ [130, 131, 71, 132, 154, 155, 156, 157, 158, 159, 160, 161, 162, 163, 164, 165, 166, 167, 168, 169, 170, 171, 172, 173, 174, 175] (by decide +kernel) (by decide +kernel)
set_option maxRecDepth 20000 in
theorem gX7_shoot_X7_score : GoodIn wsX7_shoot (wsV RX7 207 RX7 yX7_score wsX7_score) := goodIn_app (goodIn_of _ (by decide +kernel)) ggX7_shoot_X7_score
set_option maxRecDepth 20000 in
theorem ggX7_shoot_J9_min_e70c8 : GoodIn wsX7_shoot wsJ9_min_e70c8 := goodIn_r _ [135, 136, 137, 138, 139, 140] (by decide +kernel) (by decide +kernel)
set_option maxRecDepth 20000 in
theorem gX7_shoot_J9_min_e70c8 : GoodIn wsX7_shoot (va_wsS RX7 213 yJ9_min_e70c8 wsJ9_min_e70c8) := goodIn_app (goodIn_of _ (by decide +kernel)) ggX7_shoot_J9_min_e70c8
set_option maxRecDepth 20000 in
theorem ggX7_shoot_X7_isOn : GoodIn wsX7_shoot wsX7_isOn := goodIn_r _ [60, 38, 154, 155, 156, 157, 158, 159, 160, 161, 162, 163, 164, 165, 166, 167, 168, 169, 170, 171, 172, 173, 174, 175] (by decide +kernel) (by decide +kernel)
set_option maxRecDepth 20000 in
theorem gX7_shoot_X7_isOn : GoodIn wsX7_shoot (wsV RX7 90 RX7 yX7_isOn wsX7_isOn) := goodIn_app (goodIn_of _ (by decide +kernel)) ggX7_shoot_X7_isOn
set_option maxRecDepth 20000 in
theorem ggX7_shoot_X7_count : GoodIn wsX7_shoot wsX7_count := goodIn_r _ [144, 39, 145, 146, 147, 148, 149, 150, 151, 18, 152, 38, 153, 2, 3, 40, 41, 42, 23, 43, 25, 44, 45, 46, 47, 48, 49, 50, 51, 52, 53, 54, 55, 56, 154, 155, 156, 157, 158, 159, 160, 161, 162, 163, 164, 165, 166, 167, 168, 169, 170, 171, 172, 173, 174, 175, 176, 177, 178, 179, 180, 181, 182, 183, 184, 185, 186, 187, 193, 194, 195] (by decide +kernel) (by decide +kernel)
set_option maxRecDepth 20000 in
theorem gX7_shoot_X7_count : GoodIn wsX7_shoot (wsV RX7 233 RX7 yX7_count wsX7_count) := goodIn_app (goodIn_of _ (by decide +kernel)) ggX7_shoot_X7_count
theorem dX7_shoot_0 : decode cX7_shoot 0 = .ok (.aload_n 0, 1) := by decide +kernel
theorem dX7_shoot_1 : decode cX7_shoot 1 = .ok (.iconst 0, 1) := by decide +kernel
theorem dX7_shoot_2 : decode cX7_shoot 2 = .ok (.putfield 39, 3) := by decide +kernel
theorem dX7_shoot_5 : decode cX7_shoot 5 = .ok (.aload_n 0, 1) := by decide +kernel
theorem dX7_shoot_6 : decode cX7_shoot 6 = .ok (.iload_n 1, 1) := by decide +kernel
theorem dX7_shoot_7 : decode cX7_shoot 7 = .ok (.invokevirtual 83, 3) := by decide +kernel
theorem dX7_shoot_10 : decode cX7_shoot 10 = .ok (.ifCond .eq 13, 3) := by decide +kernel
theorem dX7_shoot_13 : decode cX7_shoot 13 = .ok (.iload_n 2, 1) := by decide +kernel
theorem dX7_shoot_14 : decode cX7_shoot 14 = .ok (.iconst 0, 1) := by decide +kernel
theorem dX7_shoot_15 : decode cX7_shoot 15 = .ok (.bipush 11, 2) := by decide +kernel
theorem dX7_shoot_17 : decode cX7_shoot 17 = .ok (.invokestatic 46, 3) := by decide +kernel
theorem dX7_shoot_20 : decode cX7_shoot 20 = .ok (.ifCond .ne 9, 3) := by decide +kernel
theorem dX7_shoot_23 : decode cX7_shoot 23 = .ok (.aload_n 0, 1) := by decide +kernel
theorem dX7_shoot_24 : decode cX7_shoot 24 = .ok (.iconst 1, 1) := by decide +kernel
theorem dX7_shoot_25 : decode cX7_shoot 25 = .ok (.invokevirtual 59, 3) := by decide +kernel
theorem dX7_shoot_28 : decode cX7_shoot 28 = .ok (.ireturn, 1) := by decide +kernel
theorem dX7_shoot_29 : decode cX7_shoot 29 = .ok (.aload_n 0, 1) := by decide +kernel
theorem dX7_shoot_30 : decode cX7_shoot 30 = .ok (.iload_n 1, 1) := by decide +kernel
theorem dX7_shoot_31 : decode cX7_shoot 31 = .ok (.iload_n 2, 1) := by decide +kernel
theorem dX7_shoot_32 : decode cX7_shoot 32 = .ok (.invokevirtual 189, 3) := by decide +kernel
theorem dX7_shoot_35 : decode cX7_shoot 35 = .ok (.ifCond .ne 9, 3) := by decide +kernel
theorem dX7_shoot_38 : decode cX7_shoot 38 = .ok (.aload_n 0, 1) := by decide +kernel
theorem dX7_shoot_39 : decode cX7_shoot 39 = .ok (.iconst 2, 1) := by decide +kernel
theorem dX7_shoot_40 : decode cX7_shoot 40 = .ok (.invokevirtual 59, 3) := by decide +kernel
theorem dX7_shoot_43 : decode cX7_shoot 43 = .ok (.ireturn, 1) := by decide +kernel
theorem dX7_shoot_44 : decode cX7_shoot 44 = .ok (.aload_n 0, 1) := by decide +kernel
theorem dX7_shoot_45 : decode cX7_shoot 45 = .ok (.getfield 10, 3) := by decide +kernel
theorem dX7_shoot_48 : decode cX7_shoot 48 = .ok (.iload_n 1, 1) := by decide +kernel
theorem dX7_shoot_49 : decode cX7_shoot 49 = .ok (.invokevirtual 50, 3) := by decide +kernel
theorem dX7_shoot_52 : decode cX7_shoot 52 = .ok (.checkcast 54, 3) := by decide +kernel
theorem dX7_shoot_55 : decode cX7_shoot 55 = .ok (.astore_n 3, 1) := by decide +kernel
theorem dX7_shoot_56 : decode cX7_shoot 56 = .ok (.aload_n 0, 1) := by decide +kernel
theorem dX7_shoot_57 : decode cX7_shoot 57 = .ok (.getfield 16, 3) := by decide +kernel
theorem dX7_shoot_60 : decode cX7_shoot 60 = .ok (.aload_n 3, 1) := by decide +kernel
theorem dX7_shoot_61 : decode cX7_shoot 61 = .ok (.getfield 56, 3) := by decide +kernel
theorem dX7_shoot_64 : decode cX7_shoot 64 = .ok (.invokevirtual 50, 3) := by decide +kernel
theorem dX7_shoot_67 : decode cX7_shoot 67 = .ok (.checkcast 74, 3) := by decide +kernel
theorem dX7_shoot_70 : decode cX7_shoot 70 = .ok (.astore 4, 2) := by decide +kernel
theorem dX7_shoot_72 : decode cX7_shoot 72 = .ok (.aload_n 0, 1) := by decide +kernel
theorem dX7_shoot_73 : decode cX7_shoot 73 = .ok (.aload_n 3, 1) := by decide +kernel
theorem dX7_shoot_74 : decode cX7_shoot 74 = .ok (.aload 4, 2) := by decide +kernel
theorem dX7_shoot_76 : decode cX7_shoot 76 = .ok (.aload_n 3, 1) := by decide +kernel
theorem dX7_shoot_77 : decode cX7_shoot 77 = .ok (.getfield 97, 3) := by decide +kernel
theorem dX7_shoot_80 : decode cX7_shoot 80 = .ok (.aload_n 0, 1) := by decide +kernel
theorem dX7_shoot_81 : decode cX7_shoot 81 = .ok (.getfield 19, 3) := by decide +kernel
theorem dX7_shoot_84 : decode cX7_shoot 84 = .ok (.invokevirtual 193, 3) := by decide +kernel
theorem dX7_shoot_87 : decode cX7_shoot 87 = .ok (.aload_n 0, 1) := by decide +kernel
theorem dX7_shoot_88 : decode cX7_shoot 88 = .ok (.bipush 13, 2) := by decide +kernel
theorem dX7_shoot_90 : decode cX7_shoot 90 = .ok (.aload_n 0, 1) := by decide +kernel
theorem dX7_shoot_91 : decode cX7_shoot 91 = .ok (.getfield 197, 3) := by decide +kernel
theorem dX7_shoot_94 : decode cX7_shoot 94 = .ok (.imul, 1) := by decide +kernel
theorem dX7_shoot_95 : decode cX7_shoot 95 = .ok (.bipush 7, 2) := by decide +kernel
theorem dX7_shoot_97 : decode cX7_shoot 97 = .ok (.iadd, 1) := by decide +kernel
theorem dX7_shoot_98 : decode cX7_shoot 98 = .ok (.bipush 64, 2) := by decide +kernel
theorem dX7_shoot_100 : decode cX7_shoot 100 = .ok (.irem, 1) := by decide +kernel
theorem dX7_shoot_101 : decode cX7_shoot 101 = .ok (.putfield 197, 3) := by decide +kernel
theorem dX7_shoot_104 : decode cX7_shoot 104 = .ok (.aload_n 0, 1) := by decide +kernel
theorem dX7_shoot_105 : decode cX7_shoot 105 = .ok (.aload_n 0, 1) := by decide +kernel
theorem dX7_shoot_106 : decode cX7_shoot 106 = .ok (.getfield 148, 3) := by decide +kernel
theorem dX7_shoot_109 : decode cX7_shoot 109 = .ok (.aload_n 0, 1) := by decide +kernel
theorem dX7_shoot_110 : decode cX7_shoot 110 = .ok (.getfield 197, 3) := by decide +kernel
theorem dX7_shoot_113 : decode cX7_shoot 113 = .ok (.bipush 8, 2) := by decide +kernel
theorem dX7_shoot_115 : decode cX7_shoot 115 = .ok (.irem, 1) := by decide +kernel
theorem dX7_shoot_116 : decode cX7_shoot 116 = .ok (.i2d, 1) := by decide +kernel
theorem dX7_shoot_117 : decode cX7_shoot 117 = .ok (.ldc2_w 200, 3) := by decide +kernel
theorem dX7_shoot_120 : decode cX7_shoot 120 = .ok (.dsub, 1) := by decide +kernel
theorem dX7_shoot_121 : decode cX7_shoot 121 = .ok (.bipush 9, 2) := by decide +kernel
theorem dX7_shoot_123 : decode cX7_shoot 123 = .ok (.aload_n 3, 1) := by decide +kernel
theorem dX7_shoot_124 : decode cX7_shoot 124 = .ok (.getfield 67, 3) := by decide +kernel
theorem dX7_shoot_127 : decode cX7_shoot 127 = .ok (.isub, 1) := by decide +kernel
theorem dX7_shoot_128 : decode cX7_shoot 128 = .ok (.i2d, 1) := by decide +kernel
theorem dX7_shoot_129 : decode cX7_shoot 129 = .ok (.dmul, 1) := by decide +kernel
theorem dX7_shoot_130 : decode cX7_shoot 130 = .ok (.aload_n 0, 1) := by decide +kernel
theorem dX7_shoot_131 : decode cX7_shoot 131 = .ok (.getfield 19, 3) := by decide +kernel
theorem dX7_shoot_134 : decode cX7_shoot 134 = .ok (.i2d, 1) := by decide +kernel
theorem dX7_shoot_135 : decode cX7_shoot 135 = .ok (.dmul, 1) := by decide +kernel
theorem dX7_shoot_136 : decode cX7_shoot 136 = .ok (.ldc2_w 202, 3) := by decide +kernel
theorem dX7_shoot_139 : decode cX7_shoot 139 = .ok (.ddiv, 1) := by decide +kernel
theorem dX7_shoot_140 : decode cX7_shoot 140 = .ok (.dadd, 1) := by decide +kernel
theorem dX7_shoot_141 : decode cX7_shoot 141 = .ok (.putfield 148, 3) := by decide +kernel
theorem dX7_shoot_144 : decode cX7_shoot 144 = .ok (.aload_n 0, 1) := by decide +kernel
theorem dX7_shoot_145 : decode cX7_shoot 145 = .ok (.aload_n 0, 1) := by decide +kernel
theorem dX7_shoot_146 : decode cX7_shoot 146 = .ok (.getfield 152, 3) := by decide +kernel
theorem dX7_shoot_149 : decode cX7_shoot 149 = .ok (.aload_n 0, 1) := by decide +kernel
theorem dX7_shoot_150 : decode cX7_shoot 150 = .ok (.getfield 197, 3) := by decide +kernel
theorem dX7_shoot_153 : decode cX7_shoot 153 = .ok (.bipush 8, 2) := by decide +kernel
theorem dX7_shoot_155 : decode cX7_shoot 155 = .ok (.idiv, 1) := by decide +kernel
theorem dX7_shoot_156 : decode cX7_shoot 156 = .ok (.i2d, 1) := by decide +kernel
theorem dX7_shoot_157 : decode cX7_shoot 157 = .ok (.ldc2_w 200, 3) := by decide +kernel
theorem dX7_shoot_160 : decode cX7_shoot 160 = .ok (.dsub, 1) := by decide +kernel
theorem dX7_shoot_161 : decode cX7_shoot 161 = .ok (.bipush 9, 2) := by decide +kernel
theorem dX7_shoot_163 : decode cX7_shoot 163 = .ok (.aload_n 3, 1) := by decide +kernel
theorem dX7_shoot_164 : decode cX7_shoot 164 = .ok (.getfield 67, 3) := by decide +kernel
theorem dX7_shoot_167 : decode cX7_shoot 167 = .ok (.isub, 1) := by decide +kernel
theorem dX7_shoot_168 : decode cX7_shoot 168 = .ok (.i2d, 1) := by decide +kernel
theorem dX7_shoot_169 : decode cX7_shoot 169 = .ok (.dmul, 1) := by decide +kernel
theorem dX7_shoot_170 : decode cX7_shoot 170 = .ok (.aload_n 0, 1) := by decide +kernel
theorem dX7_shoot_171 : decode cX7_shoot 171 = .ok (.getfield 19, 3) := by decide +kernel
theorem dX7_shoot_174 : decode cX7_shoot 174 = .ok (.i2d, 1) := by decide +kernel
theorem dX7_shoot_175 : decode cX7_shoot 175 = .ok (.dmul, 1) := by decide +kernel
theorem dX7_shoot_176 : decode cX7_shoot 176 = .ok (.ldc2_w 202, 3) := by decide +kernel
theorem dX7_shoot_179 : decode cX7_shoot 179 = .ok (.ddiv, 1) := by decide +kernel
theorem dX7_shoot_180 : decode cX7_shoot 180 = .ok (.dadd, 1) := by decide +kernel
theorem dX7_shoot_181 : decode cX7_shoot 181 = .ok (.putfield 152, 3) := by decide +kernel
theorem dX7_shoot_184 : decode cX7_shoot 184 = .ok (.aload_n 0, 1) := by decide +kernel
theorem dX7_shoot_185 : decode cX7_shoot 185 = .ok (.invokevirtual 204, 3) := by decide +kernel
theorem dX7_shoot_188 : decode cX7_shoot 188 = .ok (.aload_n 0, 1) := by decide +kernel
theorem dX7_shoot_189 : decode cX7_shoot 189 = .ok (.getfield 148, 3) := by decide +kernel
theorem dX7_shoot_192 : decode cX7_shoot 192 = .ok (.aload_n 0, 1) := by decide +kernel
theorem dX7_shoot_193 : decode cX7_shoot 193 = .ok (.getfield 148, 3) := by decide +kernel
theorem dX7_shoot_196 : decode cX7_shoot 196 = .ok (.dmul, 1) := by decide +kernel
theorem dX7_shoot_197 : decode cX7_shoot 197 = .ok (.aload_n 0, 1) := by decide +kernel
theorem dX7_shoot_198 : decode cX7_shoot 198 = .ok (.getfield 152, 3) := by decide +kernel
theorem dX7_shoot_201 : decode cX7_shoot 201 = .ok (.aload_n 0, 1) := by decide +kernel
theorem dX7_shoot_202 : decode cX7_shoot 202 = .ok (.getfield 152, 3) := by decide +kernel
theorem dX7_shoot_205 : decode cX7_shoot 205 = .ok (.dmul, 1) := by decide +kernel
theorem dX7_shoot_206 : decode cX7_shoot 206 = .ok (.dadd, 1) := by decide +kernel
theorem dX7_shoot_207 : decode cX7_shoot 207 = .ok (.dstore 5, 2) := by decide +kernel
theorem dX7_shoot_209 : decode cX7_shoot 209 = .ok (.aload_n 0, 1) := by decide +kernel
theorem dX7_shoot_210 : decode cX7_shoot 210 = .ok (.dload 5, 2) := by decide +kernel
theorem dX7_shoot_212 : decode cX7_shoot 212 = .ok (.invokevirtual 207, 3) := by decide +kernel
theorem dX7_shoot_215 : decode cX7_shoot 215 = .ok (.istore 7, 2) := by decide +kernel
theorem dX7_shoot_217 : decode cX7_shoot 217 = .ok (.aload 4, 2) := by decide +kernel
theorem dX7_shoot_219 : decode cX7_shoot 219 = .ok (.getfield 163, 3) := by decide +kernel
theorem dX7_shoot_222 : decode cX7_shoot 222 = .ok (.iload_n 2, 1) := by decide +kernel
theorem dX7_shoot_223 : decode cX7_shoot 223 = .ok (.iload 7, 2) := by decide +kernel
theorem dX7_shoot_225 : decode cX7_shoot 225 = .ok (.ifCond .ne 7, 3) := by decide +kernel
theorem dX7_shoot_228 : decode cX7_shoot 228 = .ok (.iconst 2, 1) := by decide +kernel
theorem dX7_shoot_229 : decode cX7_shoot 229 = .ok (.goto 4, 3) := by decide +kernel
theorem dX7_shoot_232 : decode cX7_shoot 232 = .ok (.iconst 1, 1) := by decide +kernel
theorem dX7_shoot_233 : decode cX7_shoot 233 = .ok (.iastore, 1) := by decide +kernel
theorem dX7_shoot_234 : decode cX7_shoot 234 = .ok (.aload 4, 2) := by decide +kernel
theorem dX7_shoot_236 : decode cX7_shoot 236 = .ok (.getfield 166, 3) := by decide +kernel
theorem dX7_shoot_239 : decode cX7_shoot 239 = .ok (.iload_n 2, 1) := by decide +kernel
theorem dX7_shoot_240 : decode cX7_shoot 240 = .ok (.aload_n 0, 1) := by decide +kernel
theorem dX7_shoot_241 : decode cX7_shoot 241 = .ok (.getfield 148, 3) := by decide +kernel
theorem dX7_shoot_244 : decode cX7_shoot 244 = .ok (.dastore, 1) := by decide +kernel
theorem dX7_shoot_245 : decode cX7_shoot 245 = .ok (.aload 4, 2) := by decide +kernel
theorem dX7_shoot_247 : decode cX7_shoot 247 = .ok (.getfield 177, 3) := by decide +kernel
theorem dX7_shoot_250 : decode cX7_shoot 250 = .ok (.iload_n 2, 1) := by decide +kernel
theorem dX7_shoot_251 : decode cX7_shoot 251 = .ok (.aload_n 0, 1) := by decide +kernel
theorem dX7_shoot_252 : decode cX7_shoot 252 = .ok (.getfield 152, 3) := by decide +kernel
theorem dX7_shoot_255 : decode cX7_shoot 255 = .ok (.dastore, 1) := by decide +kernel
theorem dX7_shoot_256 : decode cX7_shoot 256 = .ok (.aload_n 3, 1) := by decide +kernel
theorem dX7_shoot_257 : decode cX7_shoot 257 = .ok (.ldc 211, 2) := by decide +kernel
theorem dX7_shoot_259 : decode cX7_shoot 259 = .ok (.aload_n 3, 1) := by decide +kernel
theorem dX7_shoot_260 : decode cX7_shoot 260 = .ok (.getfield 103, 3) := by decide +kernel
theorem dX7_shoot_263 : decode cX7_shoot 263 = .ok (.ldc 212, 2) := by decide +kernel
theorem dX7_shoot_265 : decode cX7_shoot 265 = .ok (.fadd, 1) := by decide +kernel
theorem dX7_shoot_266 : decode cX7_shoot 266 = .ok (.invokestatic 213, 3) := by decide +kernel
theorem dX7_shoot_269 : decode cX7_shoot 269 = .ok (.putfield 103, 3) := by decide +kernel
theorem dX7_shoot_272 : decode cX7_shoot 272 = .ok (.aload_n 3, 1) := by decide +kernel
theorem dX7_shoot_273 : decode cX7_shoot 273 = .ok (.dup, 1) := by decide +kernel
theorem dX7_shoot_274 : decode cX7_shoot 274 = .ok (.getfield 217, 3) := by decide +kernel
theorem dX7_shoot_277 : decode cX7_shoot 277 = .ok (.iconst 1, 1) := by decide +kernel
theorem dX7_shoot_278 : decode cX7_shoot 278 = .ok (.iadd, 1) := by decide +kernel
theorem dX7_shoot_279 : decode cX7_shoot 279 = .ok (.putfield 217, 3) := by decide +kernel
theorem dX7_shoot_282 : decode cX7_shoot 282 = .ok (.aload_n 3, 1) := by decide +kernel
theorem dX7_shoot_283 : decode cX7_shoot 283 = .ok (.dup, 1) := by decide +kernel
theorem dX7_shoot_284 : decode cX7_shoot 284 = .ok (.getfield 220, 3) := by decide +kernel
theorem dX7_shoot_287 : decode cX7_shoot 287 = .ok (.iload 7, 2) := by decide +kernel
theorem dX7_shoot_289 : decode cX7_shoot 289 = .ok (.iadd, 1) := by decide +kernel
theorem dX7_shoot_290 : decode cX7_shoot 290 = .ok (.putfield 220, 3) := by decide +kernel
theorem dX7_shoot_293 : decode cX7_shoot 293 = .ok (.aload_n 3, 1) := by decide +kernel
theorem dX7_shoot_294 : decode cX7_shoot 294 = .ok (.dup, 1) := by decide +kernel
theorem dX7_shoot_295 : decode cX7_shoot 295 = .ok (.getfield 223, 3) := by decide +kernel
theorem dX7_shoot_298 : decode cX7_shoot 298 = .ok (.iload 7, 2) := by decide +kernel
theorem dX7_shoot_300 : decode cX7_shoot 300 = .ok (.iadd, 1) := by decide +kernel
theorem dX7_shoot_301 : decode cX7_shoot 301 = .ok (.putfield 223, 3) := by decide +kernel
theorem dX7_shoot_304 : decode cX7_shoot 304 = .ok (.aload_n 3, 1) := by decide +kernel
theorem dX7_shoot_305 : decode cX7_shoot 305 = .ok (.dup, 1) := by decide +kernel
theorem dX7_shoot_306 : decode cX7_shoot 306 = .ok (.getfield 226, 3) := by decide +kernel
theorem dX7_shoot_309 : decode cX7_shoot 309 = .ok (.iconst 1, 1) := by decide +kernel
theorem dX7_shoot_310 : decode cX7_shoot 310 = .ok (.iadd, 1) := by decide +kernel
theorem dX7_shoot_311 : decode cX7_shoot 311 = .ok (.putfield 226, 3) := by decide +kernel
theorem dX7_shoot_314 : decode cX7_shoot 314 = .ok (.aload_n 3, 1) := by decide +kernel
theorem dX7_shoot_315 : decode cX7_shoot 315 = .ok (.dup, 1) := by decide +kernel
theorem dX7_shoot_316 : decode cX7_shoot 316 = .ok (.getfield 229, 3) := by decide +kernel
theorem dX7_shoot_319 : decode cX7_shoot 319 = .ok (.iload 7, 2) := by decide +kernel
theorem dX7_shoot_321 : decode cX7_shoot 321 = .ok (.bipush 10, 2) := by decide +kernel
theorem dX7_shoot_323 : decode cX7_shoot 323 = .ok (.if_icmp .ne 7, 3) := by decide +kernel
theorem dX7_shoot_326 : decode cX7_shoot 326 = .ok (.iconst 1, 1) := by decide +kernel
theorem dX7_shoot_327 : decode cX7_shoot 327 = .ok (.goto 4, 3) := by decide +kernel
theorem dX7_shoot_330 : decode cX7_shoot 330 = .ok (.iconst 0, 1) := by decide +kernel
theorem dX7_shoot_331 : decode cX7_shoot 331 = .ok (.iadd, 1) := by decide +kernel
theorem dX7_shoot_332 : decode cX7_shoot 332 = .ok (.putfield 229, 3) := by decide +kernel
theorem dX7_shoot_335 : decode cX7_shoot 335 = .ok (.aload_n 0, 1) := by decide +kernel
theorem dX7_shoot_336 : decode cX7_shoot 336 = .ok (.dup, 1) := by decide +kernel
theorem dX7_shoot_337 : decode cX7_shoot 337 = .ok (.getfield 232, 3) := by decide +kernel
theorem dX7_shoot_340 : decode cX7_shoot 340 = .ok (.iconst 1, 1) := by decide +kernel
theorem dX7_shoot_341 : decode cX7_shoot 341 = .ok (.iadd, 1) := by decide +kernel
theorem dX7_shoot_342 : decode cX7_shoot 342 = .ok (.putfield 232, 3) := by decide +kernel
theorem dX7_shoot_345 : decode cX7_shoot 345 = .ok (.aload_n 0, 1) := by decide +kernel
theorem dX7_shoot_346 : decode cX7_shoot 346 = .ok (.invokevirtual 90, 3) := by decide +kernel
theorem dX7_shoot_349 : decode cX7_shoot 349 = .ok (.ifCond .eq 11, 3) := by decide +kernel
theorem dX7_shoot_352 : decode cX7_shoot 352 = .ok (.aload_n 0, 1) := by decide +kernel
theorem dX7_shoot_353 : decode cX7_shoot 353 = .ok (.iload 7, 2) := by decide +kernel
theorem dX7_shoot_355 : decode cX7_shoot 355 = .ok (.dload 5, 2) := by decide +kernel
theorem dX7_shoot_357 : decode cX7_shoot 357 = .ok (.invokevirtual 233, 3) := by decide +kernel
theorem dX7_shoot_360 : decode cX7_shoot 360 = .ok (.iload 7, 2) := by decide +kernel
theorem dX7_shoot_362 : decode cX7_shoot 362 = .ok (.ireturn, 1) := by decide +kernel
set_option maxRecDepth 20000 in
theorem ggX7_count_X7_win : GoodIn wsX7_count wsX7_win := goodIn_r _ [10, 11, 12, 13, 14, 15, 16, 17, 18, 19, 20, 21, 22, 23, 24, 25, 26, 27, 28, 29, 30, 31, 32, 33, 34, 35, 36, 37, 38, 39, 40, 41, 42, 43, 44, 45, 46, 47, 48, 49, 50, 51, 52, 53, 54, 55, 56, 57, 58, 59, 60, 61, 62, 63, 64, 65, 66, 67, 68, 69, 70] (by decide +kernel) (by decide +kernel)
set_option maxRecDepth 20000 in
theorem gX7_count_X7_win : GoodIn wsX7_count (wsV RX7 243 RX7 yX7_win wsX7_win) := goodIn_app (goodIn_of _ (by decide +kernel)) ggX7_count_X7_win
theorem dX7_count_0 : decode cX7_count 0 = .ok (.aload_n 0, 1) := by decide +kernel
theorem dX7_count_1 : decode cX7_count 1 = .ok (.getfield 186, 3) := by decide +kernel
theorem dX7_count_4 : decode cX7_count 4 = .ok (.iconst 2, 1) := by decide +kernel
theorem dX7_count_5 : decode cX7_count 5 = .ok (.irem, 1) := by decide +kernel
theorem dX7_count_6 : decode cX7_count 6 = .ok (.istore 4, 2) := by decide +kernel
theorem dX7_count_8 : decode cX7_count 8 = .ok (.aload_n 0, 1) := by decide +kernel
theorem dX7_count_9 : decode cX7_count 9 = .ok (.dup, 1) := by decide +kernel
theorem dX7_count_10 : decode cX7_count 10 = .ok (.getfield 186, 3) := by decide +kernel
theorem dX7_count_13 : decode cX7_count 13 = .ok (.iconst 1, 1) := by decide +kernel
theorem dX7_count_14 : decode cX7_count 14 = .ok (.iadd, 1) := by decide +kernel
theorem dX7_count_15 : decode cX7_count 15 = .ok (.putfield 186, 3) := by decide +kernel
theorem dX7_count_18 : decode cX7_count 18 = .ok (.aload_n 0, 1) := by decide +kernel
theorem dX7_count_19 : decode cX7_count 19 = .ok (.getfield 237, 3) := by decide +kernel
theorem dX7_count_22 : decode cX7_count 22 = .ok (.ifCond .eq 44, 3) := by decide +kernel
theorem dX7_count_25 : decode cX7_count 25 = .ok (.iload 4, 2) := by decide +kernel
theorem dX7_count_27 : decode cX7_count 27 = .ok (.ifCond .ne 11, 3) := by decide +kernel
theorem dX7_count_30 : decode cX7_count 30 = .ok (.aload_n 0, 1) := by decide +kernel
theorem dX7_count_31 : decode cX7_count 31 = .ok (.dload_n 2, 1) := by decide +kernel
theorem dX7_count_32 : decode cX7_count 32 = .ok (.putfield 240, 3) := by decide +kernel
theorem dX7_count_35 : decode cX7_count 35 = .ok (.goto 30, 3) := by decide +kernel
theorem dX7_count_38 : decode cX7_count 38 = .ok (.dload_n 2, 1) := by decide +kernel
theorem dX7_count_39 : decode cX7_count 39 = .ok (.aload_n 0, 1) := by decide +kernel
theorem dX7_count_40 : decode cX7_count 40 = .ok (.getfield 240, 3) := by decide +kernel
theorem dX7_count_43 : decode cX7_count 43 = .ok (.dcmp .l, 1) := by decide +kernel
theorem dX7_count_44 : decode cX7_count 44 = .ok (.ifCond .eq 21, 3) := by decide +kernel
theorem dX7_count_47 : decode cX7_count 47 = .ok (.aload_n 0, 1) := by decide +kernel
theorem dX7_count_48 : decode cX7_count 48 = .ok (.aload_n 0, 1) := by decide +kernel
theorem dX7_count_49 : decode cX7_count 49 = .ok (.getfield 240, 3) := by decide +kernel
theorem dX7_count_52 : decode cX7_count 52 = .ok (.dload_n 2, 1) := by decide +kernel
theorem dX7_count_53 : decode cX7_count 53 = .ok (.dcmp .g, 1) := by decide +kernel
theorem dX7_count_54 : decode cX7_count 54 = .ok (.ifCond .ge 7, 3) := by decide +kernel
theorem dX7_count_57 : decode cX7_count 57 = .ok (.iconst 0, 1) := by decide +kernel
theorem dX7_count_58 : decode cX7_count 58 = .ok (.goto 4, 3) := by decide +kernel
theorem dX7_count_61 : decode cX7_count 61 = .ok (.iconst 1, 1) := by decide +kernel
theorem dX7_count_62 : decode cX7_count 62 = .ok (.invokevirtual 243, 3) := by decide +kernel
theorem dX7_count_65 : decode cX7_count 65 = .ok (.return_, 1) := by decide +kernel
theorem dX7_count_66 : decode cX7_count 66 = .ok (.aload_n 0, 1) := by decide +kernel
theorem dX7_count_67 : decode cX7_count 67 = .ok (.getfield 36, 3) := by decide +kernel
theorem dX7_count_70 : decode cX7_count 70 = .ok (.iload 4, 2) := by decide +kernel
theorem dX7_count_72 : decode cX7_count 72 = .ok (.dup2, 1) := by decide +kernel
theorem dX7_count_73 : decode cX7_count 73 = .ok (.iaload, 1) := by decide +kernel
theorem dX7_count_74 : decode cX7_count 74 = .ok (.iload_n 1, 1) := by decide +kernel
theorem dX7_count_75 : decode cX7_count 75 = .ok (.iadd, 1) := by decide +kernel
theorem dX7_count_76 : decode cX7_count 76 = .ok (.iastore, 1) := by decide +kernel
theorem dX7_count_77 : decode cX7_count 77 = .ok (.aload_n 0, 1) := by decide +kernel
theorem dX7_count_78 : decode cX7_count 78 = .ok (.getfield 186, 3) := by decide +kernel
theorem dX7_count_81 : decode cX7_count 81 = .ok (.iconst 4, 1) := by decide +kernel
theorem dX7_count_82 : decode cX7_count 82 = .ok (.irem, 1) := by decide +kernel
theorem dX7_count_83 : decode cX7_count 83 = .ok (.ifCond .eq 4, 3) := by decide +kernel
theorem dX7_count_86 : decode cX7_count 86 = .ok (.return_, 1) := by decide +kernel
theorem dX7_count_87 : decode cX7_count 87 = .ok (.aload_n 0, 1) := by decide +kernel
theorem dX7_count_88 : decode cX7_count 88 = .ok (.getfield 33, 3) := by decide +kernel
theorem dX7_count_91 : decode cX7_count 91 = .ok (.iconst 0, 1) := by decide +kernel
theorem dX7_count_92 : decode cX7_count 92 = .ok (.dup2, 1) := by decide +kernel
theorem dX7_count_93 : decode cX7_count 93 = .ok (.iaload, 1) := by decide +kernel
theorem dX7_count_94 : decode cX7_count 94 = .ok (.aload_n 0, 1) := by decide +kernel
theorem dX7_count_95 : decode cX7_count 95 = .ok (.getfield 36, 3) := by decide +kernel
theorem dX7_count_98 : decode cX7_count 98 = .ok (.iconst 0, 1) := by decide +kernel
theorem dX7_count_99 : decode cX7_count 99 = .ok (.iaload, 1) := by decide +kernel
theorem dX7_count_100 : decode cX7_count 100 = .ok (.aload_n 0, 1) := by decide +kernel
theorem dX7_count_101 : decode cX7_count 101 = .ok (.getfield 36, 3) := by decide +kernel
theorem dX7_count_104 : decode cX7_count 104 = .ok (.iconst 1, 1) := by decide +kernel
theorem dX7_count_105 : decode cX7_count 105 = .ok (.iaload, 1) := by decide +kernel
theorem dX7_count_106 : decode cX7_count 106 = .ok (.if_icmp .le 7, 3) := by decide +kernel
theorem dX7_count_109 : decode cX7_count 109 = .ok (.iconst 2, 1) := by decide +kernel
theorem dX7_count_110 : decode cX7_count 110 = .ok (.goto 23, 3) := by decide +kernel
theorem dX7_count_113 : decode cX7_count 113 = .ok (.aload_n 0, 1) := by decide +kernel
theorem dX7_count_114 : decode cX7_count 114 = .ok (.getfield 36, 3) := by decide +kernel
theorem dX7_count_117 : decode cX7_count 117 = .ok (.iconst 0, 1) := by decide +kernel
theorem dX7_count_118 : decode cX7_count 118 = .ok (.iaload, 1) := by decide +kernel
theorem dX7_count_119 : decode cX7_count 119 = .ok (.aload_n 0, 1) := by decide +kernel
theorem dX7_count_120 : decode cX7_count 120 = .ok (.getfield 36, 3) := by decide +kernel
theorem dX7_count_123 : decode cX7_count 123 = .ok (.iconst 1, 1) := by decide +kernel
theorem dX7_count_124 : decode cX7_count 124 = .ok (.iaload, 1) := by decide +kernel
theorem dX7_count_125 : decode cX7_count 125 = .ok (.if_icmp .ne 7, 3) := by decide +kernel
theorem dX7_count_128 : decode cX7_count 128 = .ok (.iconst 1, 1) := by decide +kernel
theorem dX7_count_129 : decode cX7_count 129 = .ok (.goto 4, 3) := by decide +kernel
theorem dX7_count_132 : decode cX7_count 132 = .ok (.iconst 0, 1) := by decide +kernel
theorem dX7_count_133 : decode cX7_count 133 = .ok (.iadd, 1) := by decide +kernel
theorem dX7_count_134 : decode cX7_count 134 = .ok (.iastore, 1) := by decide +kernel
theorem dX7_count_135 : decode cX7_count 135 = .ok (.aload_n 0, 1) := by decide +kernel
theorem dX7_count_136 : decode cX7_count 136 = .ok (.getfield 33, 3) := by decide +kernel
theorem dX7_count_139 : decode cX7_count 139 = .ok (.iconst 1, 1) := by decide +kernel
theorem dX7_count_140 : decode cX7_count 140 = .ok (.dup2, 1) := by decide +kernel
theorem dX7_count_141 : decode cX7_count 141 = .ok (.iaload, 1) := by decide +kernel
theorem dX7_count_142 : decode cX7_count 142 = .ok (.aload_n 0, 1) := by decide +kernel
theorem dX7_count_143 : decode cX7_count 143 = .ok (.getfield 36, 3) := by decide +kernel
theorem dX7_count_146 : decode cX7_count 146 = .ok (.iconst 1, 1) := by decide +kernel
theorem dX7_count_147 : decode cX7_count 147 = .ok (.iaload, 1) := by decide +kernel
theorem dX7_count_148 : decode cX7_count 148 = .ok (.aload_n 0, 1) := by decide +kernel
theorem dX7_count_149 : decode cX7_count 149 = .ok (.getfield 36, 3) := by decide +kernel
theorem dX7_count_152 : decode cX7_count 152 = .ok (.iconst 0, 1) := by decide +kernel
theorem dX7_count_153 : decode cX7_count 153 = .ok (.iaload, 1) := by decide +kernel
theorem dX7_count_154 : decode cX7_count 154 = .ok (.if_icmp .le 7, 3) := by decide +kernel
theorem dX7_count_157 : decode cX7_count 157 = .ok (.iconst 2, 1) := by decide +kernel
theorem dX7_count_158 : decode cX7_count 158 = .ok (.goto 23, 3) := by decide +kernel
theorem dX7_count_161 : decode cX7_count 161 = .ok (.aload_n 0, 1) := by decide +kernel
theorem dX7_count_162 : decode cX7_count 162 = .ok (.getfield 36, 3) := by decide +kernel
theorem dX7_count_165 : decode cX7_count 165 = .ok (.iconst 0, 1) := by decide +kernel
theorem dX7_count_166 : decode cX7_count 166 = .ok (.iaload, 1) := by decide +kernel
theorem dX7_count_167 : decode cX7_count 167 = .ok (.aload_n 0, 1) := by decide +kernel
theorem dX7_count_168 : decode cX7_count 168 = .ok (.getfield 36, 3) := by decide +kernel
theorem dX7_count_171 : decode cX7_count 171 = .ok (.iconst 1, 1) := by decide +kernel
theorem dX7_count_172 : decode cX7_count 172 = .ok (.iaload, 1) := by decide +kernel
theorem dX7_count_173 : decode cX7_count 173 = .ok (.if_icmp .ne 7, 3) := by decide +kernel
theorem dX7_count_176 : decode cX7_count 176 = .ok (.iconst 1, 1) := by decide +kernel
theorem dX7_count_177 : decode cX7_count 177 = .ok (.goto 4, 3) := by decide +kernel
theorem dX7_count_180 : decode cX7_count 180 = .ok (.iconst 0, 1) := by decide +kernel
theorem dX7_count_181 : decode cX7_count 181 = .ok (.iadd, 1) := by decide +kernel
theorem dX7_count_182 : decode cX7_count 182 = .ok (.iastore, 1) := by decide +kernel
theorem dX7_count_183 : decode cX7_count 183 = .ok (.aload_n 0, 1) := by decide +kernel
theorem dX7_count_184 : decode cX7_count 184 = .ok (.getfield 36, 3) := by decide +kernel
theorem dX7_count_187 : decode cX7_count 187 = .ok (.iconst 0, 1) := by decide +kernel
theorem dX7_count_188 : decode cX7_count 188 = .ok (.iconst 0, 1) := by decide +kernel
theorem dX7_count_189 : decode cX7_count 189 = .ok (.iastore, 1) := by decide +kernel
theorem dX7_count_190 : decode cX7_count 190 = .ok (.aload_n 0, 1) := by decide +kernel
theorem dX7_count_191 : decode cX7_count 191 = .ok (.getfield 36, 3) := by decide +kernel
theorem dX7_count_194 : decode cX7_count 194 = .ok (.iconst 1, 1) := by decide +kernel
theorem dX7_count_195 : decode cX7_count 195 = .ok (.iconst 0, 1) := by decide +kernel
theorem dX7_count_196 : decode cX7_count 196 = .ok (.iastore, 1) := by decide +kernel
theorem dX7_count_197 : decode cX7_count 197 = .ok (.aload_n 0, 1) := by decide +kernel
theorem dX7_count_198 : decode cX7_count 198 = .ok (.aload_n 0, 1) := by decide +kernel
theorem dX7_count_199 : decode cX7_count 199 = .ok (.getfield 33, 3) := by decide +kernel
theorem dX7_count_202 : decode cX7_count 202 = .ok (.iconst 0, 1) := by decide +kernel
theorem dX7_count_203 : decode cX7_count 203 = .ok (.iaload, 1) := by decide +kernel
theorem dX7_count_204 : decode cX7_count 204 = .ok (.iconst 4, 1) := by decide +kernel
theorem dX7_count_205 : decode cX7_count 205 = .ok (.if_icmp .lt 17, 3) := by decide +kernel
theorem dX7_count_208 : decode cX7_count 208 = .ok (.aload_n 0, 1) := by decide +kernel
theorem dX7_count_209 : decode cX7_count 209 = .ok (.getfield 33, 3) := by decide +kernel
theorem dX7_count_212 : decode cX7_count 212 = .ok (.iconst 1, 1) := by decide +kernel
theorem dX7_count_213 : decode cX7_count 213 = .ok (.iaload, 1) := by decide +kernel
theorem dX7_count_214 : decode cX7_count 214 = .ok (.iconst 4, 1) := by decide +kernel
theorem dX7_count_215 : decode cX7_count 215 = .ok (.if_icmp .lt 7, 3) := by decide +kernel
theorem dX7_count_218 : decode cX7_count 218 = .ok (.iconst 1, 1) := by decide +kernel
theorem dX7_count_219 : decode cX7_count 219 = .ok (.goto 4, 3) := by decide +kernel
theorem dX7_count_222 : decode cX7_count 222 = .ok (.iconst 0, 1) := by decide +kernel
theorem dX7_count_223 : decode cX7_count 223 = .ok (.putfield 237, 3) := by decide +kernel
theorem dX7_count_226 : decode cX7_count 226 = .ok (.aload_n 0, 1) := by decide +kernel
theorem dX7_count_227 : decode cX7_count 227 = .ok (.getfield 237, 3) := by decide +kernel
theorem dX7_count_230 : decode cX7_count 230 = .ok (.ifCond .eq 4, 3) := by decide +kernel
theorem dX7_count_233 : decode cX7_count 233 = .ok (.return_, 1) := by decide +kernel
theorem dX7_count_234 : decode cX7_count 234 = .ok (.aload_n 0, 1) := by decide +kernel
theorem dX7_count_235 : decode cX7_count 235 = .ok (.getfield 33, 3) := by decide +kernel
theorem dX7_count_238 : decode cX7_count 238 = .ok (.iconst 0, 1) := by decide +kernel
theorem dX7_count_239 : decode cX7_count 239 = .ok (.iaload, 1) := by decide +kernel
theorem dX7_count_240 : decode cX7_count 240 = .ok (.iconst 4, 1) := by decide +kernel
theorem dX7_count_241 : decode cX7_count 241 = .ok (.if_icmp .lt 11, 3) := by decide +kernel
theorem dX7_count_244 : decode cX7_count 244 = .ok (.aload_n 0, 1) := by decide +kernel
theorem dX7_count_245 : decode cX7_count 245 = .ok (.iconst 0, 1) := by decide +kernel
theorem dX7_count_246 : decode cX7_count 246 = .ok (.invokevirtual 243, 3) := by decide +kernel
theorem dX7_count_249 : decode cX7_count 249 = .ok (.goto 18, 3) := by decide +kernel
theorem dX7_count_252 : decode cX7_count 252 = .ok (.aload_n 0, 1) := by decide +kernel
theorem dX7_count_253 : decode cX7_count 253 = .ok (.getfield 33, 3) := by decide +kernel
theorem dX7_count_256 : decode cX7_count 256 = .ok (.iconst 1, 1) := by decide +kernel
theorem dX7_count_257 : decode cX7_count 257 = .ok (.iaload, 1) := by decide +kernel
theorem dX7_count_258 : decode cX7_count 258 = .ok (.iconst 4, 1) := by decide +kernel
theorem dX7_count_259 : decode cX7_count 259 = .ok (.if_icmp .lt 8, 3) := by decide +kernel
theorem dX7_count_262 : decode cX7_count 262 = .ok (.aload_n 0, 1) := by decide +kernel
theorem dX7_count_263 : decode cX7_count 263 = .ok (.iconst 1, 1) := by decide +kernel
theorem dX7_count_264 : decode cX7_count 264 = .ok (.invokevirtual 243, 3) := by decide +kernel
theorem dX7_count_267 : decode cX7_count 267 = .ok (.return_, 1) := by decide +kernel
set_option maxRecDepth 20000 in
theorem ggX7_win_Jx4a65c_get_915e3 : GoodIn wsX7_win wsJx4a65c_get_915e3 := goodIn_r _ [9, 10, 11, 12, 13, 14, 15, 16, 17, 18, 19, 20, 21, 8, 22, 23, 58, 59, 60] (by decide +kernel) (by decide +kernel)
set_option maxRecDepth 20000 in
theorem gX7_win_Jx4a65c_get_915e3 : GoodIn wsX7_win (wsV RX7 50 RJx4a65c yJx4a65c_get_915e3 wsJx4a65c_get_915e3) := goodIn_app (goodIn_of _ (by decide +kernel)) ggX7_win_Jx4a65c_get_915e3
theorem dX7_win_0 : decode cX7_win 0 = .ok (.aload_n 0, 1) := by decide +kernel
theorem dX7_win_1 : decode cX7_win 1 = .ok (.aload_n 0, 1) := by decide +kernel
theorem dX7_win_2 : decode cX7_win 2 = .ok (.getfield 29, 3) := by decide +kernel
theorem dX7_win_5 : decode cX7_win 5 = .ok (.iload_n 1, 1) := by decide +kernel
theorem dX7_win_6 : decode cX7_win 6 = .ok (.iaload, 1) := by decide +kernel
theorem dX7_win_7 : decode cX7_win 7 = .ok (.putfield 26, 3) := by decide +kernel
theorem dX7_win_10 : decode cX7_win 10 = .ok (.aload_n 0, 1) := by decide +kernel
theorem dX7_win_11 : decode cX7_win 11 = .ok (.getfield 10, 3) := by decide +kernel
theorem dX7_win_14 : decode cX7_win 14 = .ok (.aload_n 0, 1) := by decide +kernel
theorem dX7_win_15 : decode cX7_win 15 = .ok (.getfield 26, 3) := by decide +kernel
theorem dX7_win_18 : decode cX7_win 18 = .ok (.invokevirtual 50, 3) := by decide +kernel
theorem dX7_win_21 : decode cX7_win 21 = .ok (.checkcast 54, 3) := by decide +kernel
theorem dX7_win_24 : decode cX7_win 24 = .ok (.dup, 1) := by decide +kernel
theorem dX7_win_25 : decode cX7_win 25 = .ok (.getfield 247, 3) := by decide +kernel
theorem dX7_win_28 : decode cX7_win 28 = .ok (.iconst 1, 1) := by decide +kernel
theorem dX7_win_29 : decode cX7_win 29 = .ok (.iadd, 1) := by decide +kernel
theorem dX7_win_30 : decode cX7_win 30 = .ok (.putfield 247, 3) := by decide +kernel
theorem dX7_win_33 : decode cX7_win 33 = .ok (.aload_n 0, 1) := by decide +kernel
theorem dX7_win_34 : decode cX7_win 34 = .ok (.getfield 29, 3) := by decide +kernel
theorem dX7_win_37 : decode cX7_win 37 = .ok (.iconst 0, 1) := by decide +kernel
theorem dX7_win_38 : decode cX7_win 38 = .ok (.iconst (-1), 1) := by decide +kernel
theorem dX7_win_39 : decode cX7_win 39 = .ok (.iastore, 1) := by decide +kernel
theorem dX7_win_40 : decode cX7_win 40 = .ok (.aload_n 0, 1) := by decide +kernel
theorem dX7_win_41 : decode cX7_win 41 = .ok (.getfield 29, 3) := by decide +kernel
theorem dX7_win_44 : decode cX7_win 44 = .ok (.iconst 1, 1) := by decide +kernel
theorem dX7_win_45 : decode cX7_win 45 = .ok (.iconst (-1), 1) := by decide +kernel
theorem dX7_win_46 : decode cX7_win 46 = .ok (.iastore, 1) := by decide +kernel
theorem dX7_win_47 : decode cX7_win 47 = .ok (.return_, 1) := by decide +kernel
set_option maxRecDepth 20000 in
theorem ggX7_pull_X7_stuck : GoodIn wsX7_pull wsX7_stuck := goodIn_r _ [10, 2, 3, 11, 12, 13, 14, 15, 16, 17, 18, 19, 20, 21, 22, 23, 24, 25, 26, 27, 28, 29, 30, 31, 32, 33, 34, 35, 36, 37, 38, 39, 40, 41, 42, 43, 44, 45, 46, 47, 48, 49, 50, 51, 52, 53, 54, 55, 56, 57, 58, 59, 60, 61, 62, 63, 64, 65, 66, 67, 68, 69, 70, 71, 72, 73, 74, 75, 76, 77, 78, 96, 97, 98, 99, 100, 101, 102, 79, 80, 81, 82, 83] (by decide +kernel) (by decide +kernel)
set_option maxRecDepth 20000 in
theorem gX7_pull_X7_stuck : GoodIn wsX7_pull (wsV RX7 128 RX7 yX7_stuck wsX7_stuck) := goodIn_app (goodIn_of _ (by decide +kernel)) ggX7_pull_X7_stuck
set_option maxRecDepth 20000 in
theorem ggX7_pull_Jx4a65c_iterator_32c93 : GoodIn wsX7_pull wsJx4a65c_iterator_32c93 := goodIn_r _ [15, 16, 17, 18, 19, 20, 21, 22, 23, 24, 25, 26, 27, 28, 29, 96, 97, 98, 99, 100, 101, 102] (by decide +kernel) (by decide +kernel)
set_option maxRecDepth 20000 in
theorem gX7_pull_Jx4a65c_iterator_32c93 : GoodIn wsX7_pull (wsV RX7 107 RJx4a65c yJx4a65c_iterator_32c93 wsJx4a65c_iterator_32c93) := goodIn_app (goodIn_of _ (by decide +kernel)) ggX7_pull_Jx4a65c_iterator_32c93
set_option maxRecDepth 20000 in
theorem ggX7_pull_Jx35411_hasNext_aae02 : GoodIn wsX7_pull wsJx35411_hasNext_aae02 := goodIn_r _ [33, 34, 22, 96, 97, 98, 99, 100, 101, 102] (by decide +kernel) (by decide +kernel)
set_option maxRecDepth 20000 in
theorem gX7_pull_Jx35411_hasNext_aae02_f111Jx35411 : GoodIn wsX7_pull (va_wsF RX7 111 RJx35411 ⟨"java/util/Iterator", "hasNext", "()Z"⟩ yJx35411_hasNext_aae02 wsJx35411_hasNext_aae02) := goodIn_app (goodIn_of _ (by decide +kernel)) ggX7_pull_Jx35411_hasNext_aae02
set_option maxRecDepth 20000 in
theorem ggX7_pull_Jx35411_next_0502b : GoodIn wsX7_pull wsJx35411_next_0502b := goodIn_r _ [38, 34, 22, 39, 26, 40, 41, 42, 18, 43, 27, 28, 29, 96, 97, 98, 99, 100, 101, 102] (by decide +kernel) (by decide +kernel)
set_option maxRecDepth 20000 in
theorem gX7_pull_Jx35411_next_0502b_f116Jx35411 : GoodIn wsX7_pull (va_wsF RX7 116 RJx35411 ⟨"java/util/Iterator", "next", "()Ljava/lang/Object;"⟩ yJx35411_next_0502b wsJx35411_next_0502b) := goodIn_app (goodIn_of _ (by decide +kernel)) ggX7_pull_Jx35411_next_0502b
theorem dX7_pull_0 : decode cX7_pull 0 = .ok (.aload_n 0, 1) := by decide +kernel
theorem dX7_pull_1 : decode cX7_pull 1 = .ok (.iconst 0, 1) := by decide +kernel
theorem dX7_pull_2 : decode cX7_pull 2 = .ok (.putfield 39, 3) := by decide +kernel
theorem dX7_pull_5 : decode cX7_pull 5 = .ok (.aload_n 0, 1) := by decide +kernel
theorem dX7_pull_6 : decode cX7_pull 6 = .ok (.invokevirtual 128, 3) := by decide +kernel
theorem dX7_pull_9 : decode cX7_pull 9 = .ok (.istore_n 1, 1) := by decide +kernel
theorem dX7_pull_10 : decode cX7_pull 10 = .ok (.aload_n 0, 1) := by decide +kernel
theorem dX7_pull_11 : decode cX7_pull 11 = .ok (.getfield 16, 3) := by decide +kernel
theorem dX7_pull_14 : decode cX7_pull 14 = .ok (.invokevirtual 107, 3) := by decide +kernel
theorem dX7_pull_17 : decode cX7_pull 17 = .ok (.astore_n 2, 1) := by decide +kernel
theorem dX7_pull_18 : decode cX7_pull 18 = .ok (.aload_n 2, 1) := by decide +kernel
theorem dX7_pull_19 : decode cX7_pull 19 = .ok (.invokeinterface 111 1, 5) := by decide +kernel
theorem dX7_pull_24 : decode cX7_pull 24 = .ok (.ifCond .eq 51, 3) := by decide +kernel
theorem dX7_pull_27 : decode cX7_pull 27 = .ok (.aload_n 2, 1) := by decide +kernel
theorem dX7_pull_28 : decode cX7_pull 28 = .ok (.invokeinterface 116 1, 5) := by decide +kernel
theorem dX7_pull_33 : decode cX7_pull 33 = .ok (.checkcast 74, 3) := by decide +kernel
theorem dX7_pull_36 : decode cX7_pull 36 = .ok (.astore_n 3, 1) := by decide +kernel
theorem dX7_pull_37 : decode cX7_pull 37 = .ok (.iconst 0, 1) := by decide +kernel
theorem dX7_pull_38 : decode cX7_pull 38 = .ok (.istore 4, 2) := by decide +kernel
theorem dX7_pull_40 : decode cX7_pull 40 = .ok (.iload 4, 2) := by decide +kernel
theorem dX7_pull_42 : decode cX7_pull 42 = .ok (.bipush 12, 2) := by decide +kernel
theorem dX7_pull_44 : decode cX7_pull 44 = .ok (.if_icmp .ge 28, 3) := by decide +kernel
theorem dX7_pull_47 : decode cX7_pull 47 = .ok (.aload_n 3, 1) := by decide +kernel
theorem dX7_pull_48 : decode cX7_pull 48 = .ok (.getfield 163, 3) := by decide +kernel
theorem dX7_pull_51 : decode cX7_pull 51 = .ok (.iload 4, 2) := by decide +kernel
theorem dX7_pull_53 : decode cX7_pull 53 = .ok (.iaload, 1) := by decide +kernel
theorem dX7_pull_54 : decode cX7_pull 54 = .ok (.iconst 3, 1) := by decide +kernel
theorem dX7_pull_55 : decode cX7_pull 55 = .ok (.if_icmp .eq 11, 3) := by decide +kernel
theorem dX7_pull_58 : decode cX7_pull 58 = .ok (.aload_n 3, 1) := by decide +kernel
theorem dX7_pull_59 : decode cX7_pull 59 = .ok (.getfield 163, 3) := by decide +kernel
theorem dX7_pull_62 : decode cX7_pull 62 = .ok (.iload 4, 2) := by decide +kernel
theorem dX7_pull_64 : decode cX7_pull 64 = .ok (.iconst 0, 1) := by decide +kernel
theorem dX7_pull_65 : decode cX7_pull 65 = .ok (.iastore, 1) := by decide +kernel
theorem dX7_pull_66 : decode cX7_pull 66 = .ok (.iinc 4 1, 3) := by decide +kernel
theorem dX7_pull_69 : decode cX7_pull 69 = .ok (.goto (-29), 3) := by decide +kernel
theorem dX7_pull_72 : decode cX7_pull 72 = .ok (.goto (-54), 3) := by decide +kernel
theorem dX7_pull_75 : decode cX7_pull 75 = .ok (.aload_n 0, 1) := by decide +kernel
theorem dX7_pull_76 : decode cX7_pull 76 = .ok (.getfield 10, 3) := by decide +kernel
theorem dX7_pull_79 : decode cX7_pull 79 = .ok (.invokevirtual 107, 3) := by decide +kernel
theorem dX7_pull_82 : decode cX7_pull 82 = .ok (.astore_n 2, 1) := by decide +kernel
theorem dX7_pull_83 : decode cX7_pull 83 = .ok (.aload_n 2, 1) := by decide +kernel
theorem dX7_pull_84 : decode cX7_pull 84 = .ok (.invokeinterface 111 1, 5) := by decide +kernel
theorem dX7_pull_89 : decode cX7_pull 89 = .ok (.ifCond .eq 31, 3) := by decide +kernel
theorem dX7_pull_92 : decode cX7_pull 92 = .ok (.aload_n 2, 1) := by decide +kernel
theorem dX7_pull_93 : decode cX7_pull 93 = .ok (.invokeinterface 116 1, 5) := by decide +kernel
theorem dX7_pull_98 : decode cX7_pull 98 = .ok (.checkcast 54, 3) := by decide +kernel
theorem dX7_pull_101 : decode cX7_pull 101 = .ok (.astore_n 3, 1) := by decide +kernel
theorem dX7_pull_102 : decode cX7_pull 102 = .ok (.aload_n 3, 1) := by decide +kernel
theorem dX7_pull_103 : decode cX7_pull 103 = .ok (.iconst 0, 1) := by decide +kernel
theorem dX7_pull_104 : decode cX7_pull 104 = .ok (.putfield 223, 3) := by decide +kernel
theorem dX7_pull_107 : decode cX7_pull 107 = .ok (.aload_n 3, 1) := by decide +kernel
theorem dX7_pull_108 : decode cX7_pull 108 = .ok (.iconst 0, 1) := by decide +kernel
theorem dX7_pull_109 : decode cX7_pull 109 = .ok (.putfield 226, 3) := by decide +kernel
theorem dX7_pull_112 : decode cX7_pull 112 = .ok (.aload_n 3, 1) := by decide +kernel
theorem dX7_pull_113 : decode cX7_pull 113 = .ok (.iconst 0, 1) := by decide +kernel
theorem dX7_pull_114 : decode cX7_pull 114 = .ok (.putfield 229, 3) := by decide +kernel
theorem dX7_pull_117 : decode cX7_pull 117 = .ok (.goto (-34), 3) := by decide +kernel
theorem dX7_pull_120 : decode cX7_pull 120 = .ok (.iload_n 1, 1) := by decide +kernel
theorem dX7_pull_121 : decode cX7_pull 121 = .ok (.ireturn, 1) := by decide +kernel
set_option maxRecDepth 20000 in
theorem ggX7_mend_X7_isQuiver : GoodIn wsX7_mend wsX7_isQuiver := goodIn_r _ [8, 2, 9, 10, 11, 12, 13, 14, 15, 16, 7, 17, 52, 53, 54, 55, 56, 57, 58, 59, 60, 61, 62, 63, 64, 65, 66, 67, 68, 69, 70, 71, 72, 73, 79, 80, 81] (by decide +kernel) (by decide +kernel)
set_option maxRecDepth 20000 in
theorem gX7_mend_X7_isQuiver : GoodIn wsX7_mend (wsV RX7 87 RX7 yX7_isQuiver wsX7_isQuiver) := goodIn_app (goodIn_of _ (by decide +kernel)) ggX7_mend_X7_isQuiver
set_option maxRecDepth 20000 in
theorem ggX7_mend_X7_refuse : GoodIn wsX7_mend wsX7_refuse := goodIn_r _ [21, 1, 52, 53, 54, 55, 56, 57, 58, 59, 60, 61, 62, 63, 64, 65, 66, 67, 68, 69, 70, 71, 72, 73] (by decide +kernel) (by decide +kernel)
set_option maxRecDepth 20000 in
theorem gX7_mend_X7_refuse : GoodIn wsX7_mend (wsV RX7 59 RX7 yX7_refuse wsX7_refuse) := goodIn_app (goodIn_of _ (by decide +kernel)) ggX7_mend_X7_refuse
set_option maxRecDepth 20000 in
theorem ggX7_mend_Jx4a65c_get_915e3 : GoodIn wsX7_mend wsJx4a65c_get_915e3 := goodIn_r _ [25, 14, 26, 27, 28, 29, 30, 31, 32, 33, 34, 35, 36, 12, 37, 38, 79, 80, 81] (by decide +kernel) (by decide +kernel)
set_option maxRecDepth 20000 in
theorem gX7_mend_Jx4a65c_get_915e3 : GoodIn wsX7_mend (wsV RX7 50 RJx4a65c yJx4a65c_get_915e3 wsJx4a65c_get_915e3) := goodIn_app (goodIn_of _ (by decide +kernel)) ggX7_mend_Jx4a65c_get_915e3
set_option maxRecDepth 20000 in
theorem ggX7_mend_X6_set : GoodIn wsX7_mend wsX6_set := goodIn_r _ [43, 44, 74, 75, 76, 77, 78] (by decide +kernel) (by decide +kernel)
set_option maxRecDepth 20000 in
theorem gX7_mend_X6_set : GoodIn wsX7_mend (wsV RX7 120 RX6 yX6_set wsX6_set) := goodIn_app (goodIn_of _ (by decide +kernel)) ggX7_mend_X6_set
set_option maxRecDepth 20000 in
theorem ggX7_mend_J6_bitCount_0f7a4 : GoodIn wsX7_mend wsJ6_bitCount_0f7a4 := goodIn_r _ [48, 49, 50, 51] (by decide +kernel) (by decide +kernel)
set_option maxRecDepth 20000 in
theorem gX7_mend_J6_bitCount_0f7a4 : GoodIn wsX7_mend (va_wsS RX7 123 yJ6_bitCount_0f7a4 wsJ6_bitCount_0f7a4) := goodIn_app (goodIn_of _ (by decide +kernel)) ggX7_mend_J6_bitCount_0f7a4
theorem dX7_mend_0 : decode cX7_mend 0 = .ok (.aload_n 0, 1) := by decide +kernel
theorem dX7_mend_1 : decode cX7_mend 1 = .ok (.iconst 0, 1) := by decide +kernel
theorem dX7_mend_2 : decode cX7_mend 2 = .ok (.putfield 39, 3) := by decide +kernel
theorem dX7_mend_5 : decode cX7_mend 5 = .ok (.aload_n 0, 1) := by decide +kernel
theorem dX7_mend_6 : decode cX7_mend 6 = .ok (.iload_n 1, 1) := by decide +kernel
theorem dX7_mend_7 : decode cX7_mend 7 = .ok (.invokevirtual 87, 3) := by decide +kernel
theorem dX7_mend_10 : decode cX7_mend 10 = .ok (.ifCond .ne 9, 3) := by decide +kernel
theorem dX7_mend_13 : decode cX7_mend 13 = .ok (.aload_n 0, 1) := by decide +kernel
theorem dX7_mend_14 : decode cX7_mend 14 = .ok (.iconst 1, 1) := by decide +kernel
theorem dX7_mend_15 : decode cX7_mend 15 = .ok (.invokevirtual 59, 3) := by decide +kernel
theorem dX7_mend_18 : decode cX7_mend 18 = .ok (.ireturn, 1) := by decide +kernel
theorem dX7_mend_19 : decode cX7_mend 19 = .ok (.aload_n 0, 1) := by decide +kernel
theorem dX7_mend_20 : decode cX7_mend 20 = .ok (.getfield 16, 3) := by decide +kernel
theorem dX7_mend_23 : decode cX7_mend 23 = .ok (.iload_n 1, 1) := by decide +kernel
theorem dX7_mend_24 : decode cX7_mend 24 = .ok (.invokevirtual 50, 3) := by decide +kernel
theorem dX7_mend_27 : decode cX7_mend 27 = .ok (.checkcast 74, 3) := by decide +kernel
theorem dX7_mend_30 : decode cX7_mend 30 = .ok (.astore_n 2, 1) := by decide +kernel
theorem dX7_mend_31 : decode cX7_mend 31 = .ok (.aload_n 2, 1) := by decide +kernel
theorem dX7_mend_32 : decode cX7_mend 32 = .ok (.iconst 3, 1) := by decide +kernel
theorem dX7_mend_33 : decode cX7_mend 33 = .ok (.invokevirtual 120, 3) := by decide +kernel
theorem dX7_mend_36 : decode cX7_mend 36 = .ok (.invokestatic 123, 3) := by decide +kernel
theorem dX7_mend_39 : decode cX7_mend 39 = .ok (.istore_n 3, 1) := by decide +kernel
theorem dX7_mend_40 : decode cX7_mend 40 = .ok (.iconst 0, 1) := by decide +kernel
theorem dX7_mend_41 : decode cX7_mend 41 = .ok (.istore 4, 2) := by decide +kernel
theorem dX7_mend_43 : decode cX7_mend 43 = .ok (.iload 4, 2) := by decide +kernel
theorem dX7_mend_45 : decode cX7_mend 45 = .ok (.bipush 12, 2) := by decide +kernel
theorem dX7_mend_47 : decode cX7_mend 47 = .ok (.if_icmp .ge 28, 3) := by decide +kernel
theorem dX7_mend_50 : decode cX7_mend 50 = .ok (.aload_n 2, 1) := by decide +kernel
theorem dX7_mend_51 : decode cX7_mend 51 = .ok (.getfield 163, 3) := by decide +kernel
theorem dX7_mend_54 : decode cX7_mend 54 = .ok (.iload 4, 2) := by decide +kernel
theorem dX7_mend_56 : decode cX7_mend 56 = .ok (.iaload, 1) := by decide +kernel
theorem dX7_mend_57 : decode cX7_mend 57 = .ok (.iconst 3, 1) := by decide +kernel
theorem dX7_mend_58 : decode cX7_mend 58 = .ok (.if_icmp .ne 11, 3) := by decide +kernel
theorem dX7_mend_61 : decode cX7_mend 61 = .ok (.aload_n 2, 1) := by decide +kernel
theorem dX7_mend_62 : decode cX7_mend 62 = .ok (.getfield 163, 3) := by decide +kernel
theorem dX7_mend_65 : decode cX7_mend 65 = .ok (.iload 4, 2) := by decide +kernel
theorem dX7_mend_67 : decode cX7_mend 67 = .ok (.iconst 0, 1) := by decide +kernel
theorem dX7_mend_68 : decode cX7_mend 68 = .ok (.iastore, 1) := by decide +kernel
theorem dX7_mend_69 : decode cX7_mend 69 = .ok (.iinc 4 1, 3) := by decide +kernel
theorem dX7_mend_72 : decode cX7_mend 72 = .ok (.goto (-29), 3) := by decide +kernel
theorem dX7_mend_75 : decode cX7_mend 75 = .ok (.iload_n 3, 1) := by decide +kernel
theorem dX7_mend_76 : decode cX7_mend 76 = .ok (.ireturn, 1) := by decide +kernel
set_option maxRecDepth 20000 in
theorem ggX7_match_X7_isArcher : GoodIn wsX7_match wsX7_isArcher := goodIn_r _ [14, 2, 15, 16, 17, 18, 19, 20, 21, 22, 13, 23, 49, 50, 51, 52, 53, 54, 55, 56, 57, 58, 59, 60, 61, 62, 63, 64, 65, 66, 67, 68, 69, 70, 83, 84, 85] (by decide +kernel) (by decide +kernel)
set_option maxRecDepth 20000 in
theorem gX7_match_X7_isArcher : GoodIn wsX7_match (wsV RX7 83 RX7 yX7_isArcher wsX7_isArcher) := goodIn_app (goodIn_of _ (by decide +kernel)) ggX7_match_X7_isArcher
set_option maxRecDepth 20000 in
theorem ggX7_match_X7_refuse : GoodIn wsX7_match wsX7_refuse := goodIn_r _ [27, 1, 49, 50, 51, 52, 53, 54, 55, 56, 57, 58, 59, 60, 61, 62, 63, 64, 65, 66, 67, 68, 69, 70] (by decide +kernel) (by decide +kernel)
set_option maxRecDepth 20000 in
theorem gX7_match_X7_refuse : GoodIn wsX7_match (wsV RX7 59 RX7 yX7_refuse wsX7_refuse) := goodIn_app (goodIn_of _ (by decide +kernel)) ggX7_match_X7_refuse
set_option maxRecDepth 20000 in
theorem ggX7_match_X7_isOn : GoodIn wsX7_match wsX7_isOn := goodIn_r _ [31, 4, 49, 50, 51, 52, 53, 54, 55, 56, 57, 58, 59, 60, 61, 62, 63, 64, 65, 66, 67, 68, 69, 70] (by decide +kernel) (by decide +kernel)
set_option maxRecDepth 20000 in
theorem gX7_match_X7_isOn : GoodIn wsX7_match (wsV RX7 90 RX7 yX7_isOn wsX7_isOn) := goodIn_app (goodIn_of _ (by decide +kernel)) ggX7_match_X7_isOn
set_option maxRecDepth 20000 in
theorem ggX7_match_Jx4a65c_get_915e3 : GoodIn wsX7_match wsJx4a65c_get_915e3 := goodIn_r _ [35, 20, 36, 37, 38, 39, 40, 41, 42, 43, 44, 45, 46, 18, 47, 48, 83, 84, 85] (by decide +kernel) (by decide +kernel)
set_option maxRecDepth 20000 in
theorem gX7_match_Jx4a65c_get_915e3 : GoodIn wsX7_match (wsV RX7 50 RJx4a65c yJx4a65c_get_915e3 wsJx4a65c_get_915e3) := goodIn_app (goodIn_of _ (by decide +kernel)) ggX7_match_Jx4a65c_get_915e3
theorem dX7_match_0 : decode cX7_match 0 = .ok (.aload_n 0, 1) := by decide +kernel
theorem dX7_match_1 : decode cX7_match 1 = .ok (.iconst 0, 1) := by decide +kernel
theorem dX7_match_2 : decode cX7_match 2 = .ok (.putfield 39, 3) := by decide +kernel
theorem dX7_match_5 : decode cX7_match 5 = .ok (.aload_n 0, 1) := by decide +kernel
theorem dX7_match_6 : decode cX7_match 6 = .ok (.iload_n 1, 1) := by decide +kernel
theorem dX7_match_7 : decode cX7_match 7 = .ok (.invokevirtual 83, 3) := by decide +kernel
theorem dX7_match_10 : decode cX7_match 10 = .ok (.ifCond .eq 11, 3) := by decide +kernel
theorem dX7_match_13 : decode cX7_match 13 = .ok (.aload_n 0, 1) := by decide +kernel
theorem dX7_match_14 : decode cX7_match 14 = .ok (.iload_n 2, 1) := by decide +kernel
theorem dX7_match_15 : decode cX7_match 15 = .ok (.invokevirtual 83, 3) := by decide +kernel
theorem dX7_match_18 : decode cX7_match 18 = .ok (.ifCond .ne 9, 3) := by decide +kernel
theorem dX7_match_21 : decode cX7_match 21 = .ok (.aload_n 0, 1) := by decide +kernel
theorem dX7_match_22 : decode cX7_match 22 = .ok (.iconst 1, 1) := by decide +kernel
theorem dX7_match_23 : decode cX7_match 23 = .ok (.invokevirtual 59, 3) := by decide +kernel
theorem dX7_match_26 : decode cX7_match 26 = .ok (.ireturn, 1) := by decide +kernel
theorem dX7_match_27 : decode cX7_match 27 = .ok (.iload_n 1, 1) := by decide +kernel
theorem dX7_match_28 : decode cX7_match 28 = .ok (.iload_n 2, 1) := by decide +kernel
theorem dX7_match_29 : decode cX7_match 29 = .ok (.if_icmp .ne 9, 3) := by decide +kernel
theorem dX7_match_32 : decode cX7_match 32 = .ok (.aload_n 0, 1) := by decide +kernel
theorem dX7_match_33 : decode cX7_match 33 = .ok (.iconst 2, 1) := by decide +kernel
theorem dX7_match_34 : decode cX7_match 34 = .ok (.invokevirtual 59, 3) := by decide +kernel
theorem dX7_match_37 : decode cX7_match 37 = .ok (.ireturn, 1) := by decide +kernel
theorem dX7_match_38 : decode cX7_match 38 = .ok (.aload_n 0, 1) := by decide +kernel
theorem dX7_match_39 : decode cX7_match 39 = .ok (.invokevirtual 90, 3) := by decide +kernel
theorem dX7_match_42 : decode cX7_match 42 = .ok (.ifCond .ne 39, 3) := by decide +kernel
theorem dX7_match_45 : decode cX7_match 45 = .ok (.aload_n 0, 1) := by decide +kernel
theorem dX7_match_46 : decode cX7_match 46 = .ok (.getfield 10, 3) := by decide +kernel
theorem dX7_match_49 : decode cX7_match 49 = .ok (.iload_n 1, 1) := by decide +kernel
theorem dX7_match_50 : decode cX7_match 50 = .ok (.invokevirtual 50, 3) := by decide +kernel
theorem dX7_match_53 : decode cX7_match 53 = .ok (.checkcast 54, 3) := by decide +kernel
theorem dX7_match_56 : decode cX7_match 56 = .ok (.getfield 56, 3) := by decide +kernel
theorem dX7_match_59 : decode cX7_match 59 = .ok (.iconst (-1), 1) := by decide +kernel
theorem dX7_match_60 : decode cX7_match 60 = .ok (.if_icmp .eq 21, 3) := by decide +kernel
theorem dX7_match_63 : decode cX7_match 63 = .ok (.aload_n 0, 1) := by decide +kernel
theorem dX7_match_64 : decode cX7_match 64 = .ok (.getfield 10, 3) := by decide +kernel
theorem dX7_match_67 : decode cX7_match 67 = .ok (.iload_n 2, 1) := by decide +kernel
theorem dX7_match_68 : decode cX7_match 68 = .ok (.invokevirtual 50, 3) := by decide +kernel
theorem dX7_match_71 : decode cX7_match 71 = .ok (.checkcast 54, 3) := by decide +kernel
theorem dX7_match_74 : decode cX7_match 74 = .ok (.getfield 56, 3) := by decide +kernel
theorem dX7_match_77 : decode cX7_match 77 = .ok (.iconst (-1), 1) := by decide +kernel
theorem dX7_match_78 : decode cX7_match 78 = .ok (.if_icmp .ne 9, 3) := by decide +kernel
theorem dX7_match_81 : decode cX7_match 81 = .ok (.aload_n 0, 1) := by decide +kernel
theorem dX7_match_82 : decode cX7_match 82 = .ok (.iconst 3, 1) := by decide +kernel
theorem dX7_match_83 : decode cX7_match 83 = .ok (.invokevirtual 59, 3) := by decide +kernel
theorem dX7_match_86 : decode cX7_match 86 = .ok (.ireturn, 1) := by decide +kernel
theorem dX7_match_87 : decode cX7_match 87 = .ok (.aload_n 0, 1) := by decide +kernel
theorem dX7_match_88 : decode cX7_match 88 = .ok (.getfield 29, 3) := by decide +kernel
theorem dX7_match_91 : decode cX7_match 91 = .ok (.iconst 0, 1) := by decide +kernel
theorem dX7_match_92 : decode cX7_match 92 = .ok (.iload_n 1, 1) := by decide +kernel
theorem dX7_match_93 : decode cX7_match 93 = .ok (.iastore, 1) := by decide +kernel
theorem dX7_match_94 : decode cX7_match 94 = .ok (.aload_n 0, 1) := by decide +kernel
theorem dX7_match_95 : decode cX7_match 95 = .ok (.getfield 29, 3) := by decide +kernel
theorem dX7_match_98 : decode cX7_match 98 = .ok (.iconst 1, 1) := by decide +kernel
theorem dX7_match_99 : decode cX7_match 99 = .ok (.iload_n 2, 1) := by decide +kernel
theorem dX7_match_100 : decode cX7_match 100 = .ok (.iastore, 1) := by decide +kernel
theorem dX7_match_101 : decode cX7_match 101 = .ok (.iconst 0, 1) := by decide +kernel
theorem dX7_match_102 : decode cX7_match 102 = .ok (.istore_n 3, 1) := by decide +kernel
theorem dX7_match_103 : decode cX7_match 103 = .ok (.iload_n 3, 1) := by decide +kernel
theorem dX7_match_104 : decode cX7_match 104 = .ok (.iconst 2, 1) := by decide +kernel
theorem dX7_match_105 : decode cX7_match 105 = .ok (.if_icmp .ge 23, 3) := by decide +kernel
theorem dX7_match_108 : decode cX7_match 108 = .ok (.aload_n 0, 1) := by decide +kernel
theorem dX7_match_109 : decode cX7_match 109 = .ok (.getfield 33, 3) := by decide +kernel
theorem dX7_match_112 : decode cX7_match 112 = .ok (.iload_n 3, 1) := by decide +kernel
theorem dX7_match_113 : decode cX7_match 113 = .ok (.iconst 0, 1) := by decide +kernel
theorem dX7_match_114 : decode cX7_match 114 = .ok (.iastore, 1) := by decide +kernel
theorem dX7_match_115 : decode cX7_match 115 = .ok (.aload_n 0, 1) := by decide +kernel
theorem dX7_match_116 : decode cX7_match 116 = .ok (.getfield 36, 3) := by decide +kernel
theorem dX7_match_119 : decode cX7_match 119 = .ok (.iload_n 3, 1) := by decide +kernel
theorem dX7_match_120 : decode cX7_match 120 = .ok (.iconst 0, 1) := by decide +kernel
theorem dX7_match_121 : decode cX7_match 121 = .ok (.iastore, 1) := by decide +kernel
theorem dX7_match_122 : decode cX7_match 122 = .ok (.iinc 3 1, 3) := by decide +kernel
theorem dX7_match_125 : decode cX7_match 125 = .ok (.goto (-22), 3) := by decide +kernel
theorem dX7_match_128 : decode cX7_match 128 = .ok (.aload_n 0, 1) := by decide +kernel
theorem dX7_match_129 : decode cX7_match 129 = .ok (.iconst 0, 1) := by decide +kernel
theorem dX7_match_130 : decode cX7_match 130 = .ok (.putfield 186, 3) := by decide +kernel
theorem dX7_match_133 : decode cX7_match 133 = .ok (.aload_n 0, 1) := by decide +kernel
theorem dX7_match_134 : decode cX7_match 134 = .ok (.iconst 0, 1) := by decide +kernel
theorem dX7_match_135 : decode cX7_match 135 = .ok (.putfield 237, 3) := by decide +kernel
theorem dX7_match_138 : decode cX7_match 138 = .ok (.aload_n 0, 1) := by decide +kernel
theorem dX7_match_139 : decode cX7_match 139 = .ok (.dup, 1) := by decide +kernel
theorem dX7_match_140 : decode cX7_match 140 = .ok (.getfield 250, 3) := by decide +kernel
theorem dX7_match_143 : decode cX7_match 143 = .ok (.iconst 1, 1) := by decide +kernel
theorem dX7_match_144 : decode cX7_match 144 = .ok (.iadd, 1) := by decide +kernel
theorem dX7_match_145 : decode cX7_match 145 = .ok (.putfield 250, 3) := by decide +kernel
theorem dX7_match_148 : decode cX7_match 148 = .ok (.aload_n 0, 1) := by decide +kernel
theorem dX7_match_149 : decode cX7_match 149 = .ok (.getfield 250, 3) := by decide +kernel
theorem dX7_match_152 : decode cX7_match 152 = .ok (.ireturn, 1) := by decide +kernel
set_option maxRecDepth 20000 in
theorem ggX7_breakOff_X7_isOn : GoodIn wsX7_breakOff wsX7_isOn := goodIn_r _ [8, 2, 13, 14, 15, 16, 17, 18, 19, 20, 21, 22, 23, 24, 25, 26, 27, 28, 29, 30, 31, 32, 33, 34] (by decide +kernel) (by decide +kernel)
set_option maxRecDepth 20000 in
theorem gX7_breakOff_X7_isOn : GoodIn wsX7_breakOff (wsV RX7 90 RX7 yX7_isOn wsX7_isOn) := goodIn_app (goodIn_of _ (by decide +kernel)) ggX7_breakOff_X7_isOn
set_option maxRecDepth 20000 in
theorem ggX7_breakOff_X7_refuse : GoodIn wsX7_breakOff wsX7_refuse := goodIn_r _ [12, 1, 13, 14, 15, 16, 17, 18, 19, 20, 21, 22, 23, 24, 25, 26, 27, 28, 29, 30, 31, 32, 33, 34] (by decide +kernel) (by decide +kernel)
set_option maxRecDepth 20000 in
theorem gX7_breakOff_X7_refuse : GoodIn wsX7_breakOff (wsV RX7 59 RX7 yX7_refuse wsX7_refuse) := goodIn_app (goodIn_of _ (by decide +kernel)) ggX7_breakOff_X7_refuse
theorem dX7_breakOff_0 : decode cX7_breakOff 0 = .ok (.aload_n 0, 1) := by decide +kernel
theorem dX7_breakOff_1 : decode cX7_breakOff 1 = .ok (.iconst 0, 1) := by decide +kernel
theorem dX7_breakOff_2 : decode cX7_breakOff 2 = .ok (.putfield 39, 3) := by decide +kernel
theorem dX7_breakOff_5 : decode cX7_breakOff 5 = .ok (.aload_n 0, 1) := by decide +kernel
theorem dX7_breakOff_6 : decode cX7_breakOff 6 = .ok (.invokevirtual 90, 3) := by decide +kernel
theorem dX7_breakOff_9 : decode cX7_breakOff 9 = .ok (.ifCond .ne 9, 3) := by decide +kernel
theorem dX7_breakOff_12 : decode cX7_breakOff 12 = .ok (.aload_n 0, 1) := by decide +kernel
theorem dX7_breakOff_13 : decode cX7_breakOff 13 = .ok (.iconst 1, 1) := by decide +kernel
theorem dX7_breakOff_14 : decode cX7_breakOff 14 = .ok (.invokevirtual 59, 3) := by decide +kernel
theorem dX7_breakOff_17 : decode cX7_breakOff 17 = .ok (.ireturn, 1) := by decide +kernel
theorem dX7_breakOff_18 : decode cX7_breakOff 18 = .ok (.aload_n 0, 1) := by decide +kernel
theorem dX7_breakOff_19 : decode cX7_breakOff 19 = .ok (.getfield 29, 3) := by decide +kernel
theorem dX7_breakOff_22 : decode cX7_breakOff 22 = .ok (.iconst 0, 1) := by decide +kernel
theorem dX7_breakOff_23 : decode cX7_breakOff 23 = .ok (.iconst (-1), 1) := by decide +kernel
theorem dX7_breakOff_24 : decode cX7_breakOff 24 = .ok (.iastore, 1) := by decide +kernel
theorem dX7_breakOff_25 : decode cX7_breakOff 25 = .ok (.aload_n 0, 1) := by decide +kernel
theorem dX7_breakOff_26 : decode cX7_breakOff 26 = .ok (.getfield 29, 3) := by decide +kernel
theorem dX7_breakOff_29 : decode cX7_breakOff 29 = .ok (.iconst 1, 1) := by decide +kernel
theorem dX7_breakOff_30 : decode cX7_breakOff 30 = .ok (.iconst (-1), 1) := by decide +kernel
theorem dX7_breakOff_31 : decode cX7_breakOff 31 = .ok (.iastore, 1) := by decide +kernel
theorem dX7_breakOff_32 : decode cX7_breakOff 32 = .ok (.bipush 10, 2) := by decide +kernel
theorem dX7_breakOff_34 : decode cX7_breakOff 34 = .ok (.aload_n 0, 1) := by decide +kernel
theorem dX7_breakOff_35 : decode cX7_breakOff 35 = .ok (.getfield 33, 3) := by decide +kernel
theorem dX7_breakOff_38 : decode cX7_breakOff 38 = .ok (.iconst 0, 1) := by decide +kernel
theorem dX7_breakOff_39 : decode cX7_breakOff 39 = .ok (.iaload, 1) := by decide +kernel
theorem dX7_breakOff_40 : decode cX7_breakOff 40 = .ok (.imul, 1) := by decide +kernel
theorem dX7_breakOff_41 : decode cX7_breakOff 41 = .ok (.aload_n 0, 1) := by decide +kernel
theorem dX7_breakOff_42 : decode cX7_breakOff 42 = .ok (.getfield 33, 3) := by decide +kernel
theorem dX7_breakOff_45 : decode cX7_breakOff 45 = .ok (.iconst 1, 1) := by decide +kernel
theorem dX7_breakOff_46 : decode cX7_breakOff 46 = .ok (.iaload, 1) := by decide +kernel
theorem dX7_breakOff_47 : decode cX7_breakOff 47 = .ok (.iadd, 1) := by decide +kernel
theorem dX7_breakOff_48 : decode cX7_breakOff 48 = .ok (.ireturn, 1) := by decide +kernel
theorem dX7_close_0 : decode cX7_close 0 = .ok (.aload_n 0, 1) := by decide +kernel
theorem dX7_close_1 : decode cX7_close 1 = .ok (.iconst 0, 1) := by decide +kernel
theorem dX7_close_2 : decode cX7_close 2 = .ok (.putfield 39, 3) := by decide +kernel
theorem dX7_close_5 : decode cX7_close 5 = .ok (.aload_n 0, 1) := by decide +kernel
theorem dX7_close_6 : decode cX7_close 6 = .ok (.getfield 182, 3) := by decide +kernel
theorem dX7_close_9 : decode cX7_close 9 = .ok (.istore_n 2, 1) := by decide +kernel
theorem dX7_close_10 : decode cX7_close 10 = .ok (.aload_n 0, 1) := by decide +kernel
theorem dX7_close_11 : decode cX7_close 11 = .ok (.iload_n 1, 1) := by decide +kernel
theorem dX7_close_12 : decode cX7_close 12 = .ok (.putfield 182, 3) := by decide +kernel
theorem dX7_close_15 : decode cX7_close 15 = .ok (.iload_n 2, 1) := by decide +kernel
theorem dX7_close_16 : decode cX7_close 16 = .ok (.ireturn, 1) := by decide +kernel
theorem dX7_horn_0 : decode cX7_horn 0 = .ok (.aload_n 0, 1) := by decide +kernel
theorem dX7_horn_1 : decode cX7_horn 1 = .ok (.iconst 0, 1) := by decide +kernel
theorem dX7_horn_2 : decode cX7_horn 2 = .ok (.putfield 39, 3) := by decide +kernel
theorem dX7_horn_5 : decode cX7_horn 5 = .ok (.aload_n 0, 1) := by decide +kernel
theorem dX7_horn_6 : decode cX7_horn 6 = .ok (.dup, 1) := by decide +kernel
theorem dX7_horn_7 : decode cX7_horn 7 = .ok (.getfield 253, 3) := by decide +kernel
theorem dX7_horn_10 : decode cX7_horn 10 = .ok (.iconst 1, 1) := by decide +kernel
theorem dX7_horn_11 : decode cX7_horn 11 = .ok (.iadd, 1) := by decide +kernel
theorem dX7_horn_12 : decode cX7_horn 12 = .ok (.putfield 253, 3) := by decide +kernel
theorem dX7_horn_15 : decode cX7_horn 15 = .ok (.aload_n 0, 1) := by decide +kernel
theorem dX7_horn_16 : decode cX7_horn 16 = .ok (.getfield 253, 3) := by decide +kernel
theorem dX7_horn_19 : decode cX7_horn 19 = .ok (.ireturn, 1) := by decide +kernel
theorem dX7_ofArcherNow_0 : decode cX7_ofArcherNow 0 = .ok (.bipush 11, 2) := by decide +kernel
theorem dX7_ofArcherNow_2 : decode cX7_ofArcherNow 2 = .ok (.newarray .int, 2) := by decide +kernel
theorem dX7_ofArcherNow_4 : decode cX7_ofArcherNow 4 = .ok (.dup, 1) := by decide +kernel
theorem dX7_ofArcherNow_5 : decode cX7_ofArcherNow 5 = .ok (.iconst 0, 1) := by decide +kernel
theorem dX7_ofArcherNow_6 : decode cX7_ofArcherNow 6 = .ok (.aload_n 0, 1) := by decide +kernel
theorem dX7_ofArcherNow_7 : decode cX7_ofArcherNow 7 = .ok (.getfield 64, 3) := by decide +kernel
theorem dX7_ofArcherNow_10 : decode cX7_ofArcherNow 10 = .ok (.iastore, 1) := by decide +kernel
theorem dX7_ofArcherNow_11 : decode cX7_ofArcherNow 11 = .ok (.dup, 1) := by decide +kernel
theorem dX7_ofArcherNow_12 : decode cX7_ofArcherNow 12 = .ok (.iconst 1, 1) := by decide +kernel
theorem dX7_ofArcherNow_13 : decode cX7_ofArcherNow 13 = .ok (.aload_n 0, 1) := by decide +kernel
theorem dX7_ofArcherNow_14 : decode cX7_ofArcherNow 14 = .ok (.getfield 67, 3) := by decide +kernel
theorem dX7_ofArcherNow_17 : decode cX7_ofArcherNow 17 = .ok (.iastore, 1) := by decide +kernel
theorem dX7_ofArcherNow_18 : decode cX7_ofArcherNow 18 = .ok (.dup, 1) := by decide +kernel
theorem dX7_ofArcherNow_19 : decode cX7_ofArcherNow 19 = .ok (.iconst 2, 1) := by decide +kernel
theorem dX7_ofArcherNow_20 : decode cX7_ofArcherNow 20 = .ok (.aload_n 0, 1) := by decide +kernel
theorem dX7_ofArcherNow_21 : decode cX7_ofArcherNow 21 = .ok (.getfield 97, 3) := by decide +kernel
theorem dX7_ofArcherNow_24 : decode cX7_ofArcherNow 24 = .ok (.iastore, 1) := by decide +kernel
theorem dX7_ofArcherNow_25 : decode cX7_ofArcherNow 25 = .ok (.dup, 1) := by decide +kernel
theorem dX7_ofArcherNow_26 : decode cX7_ofArcherNow 26 = .ok (.iconst 3, 1) := by decide +kernel
theorem dX7_ofArcherNow_27 : decode cX7_ofArcherNow 27 = .ok (.aload_n 0, 1) := by decide +kernel
theorem dX7_ofArcherNow_28 : decode cX7_ofArcherNow 28 = .ok (.getfield 100, 3) := by decide +kernel
theorem dX7_ofArcherNow_31 : decode cX7_ofArcherNow 31 = .ok (.iastore, 1) := by decide +kernel
theorem dX7_ofArcherNow_32 : decode cX7_ofArcherNow 32 = .ok (.dup, 1) := by decide +kernel
theorem dX7_ofArcherNow_33 : decode cX7_ofArcherNow 33 = .ok (.iconst 4, 1) := by decide +kernel
theorem dX7_ofArcherNow_34 : decode cX7_ofArcherNow 34 = .ok (.aload_n 0, 1) := by decide +kernel
theorem dX7_ofArcherNow_35 : decode cX7_ofArcherNow 35 = .ok (.getfield 56, 3) := by decide +kernel
theorem dX7_ofArcherNow_38 : decode cX7_ofArcherNow 38 = .ok (.iastore, 1) := by decide +kernel
theorem dX7_ofArcherNow_39 : decode cX7_ofArcherNow 39 = .ok (.dup, 1) := by decide +kernel
theorem dX7_ofArcherNow_40 : decode cX7_ofArcherNow 40 = .ok (.iconst 5, 1) := by decide +kernel
theorem dX7_ofArcherNow_41 : decode cX7_ofArcherNow 41 = .ok (.aload_n 0, 1) := by decide +kernel
theorem dX7_ofArcherNow_42 : decode cX7_ofArcherNow 42 = .ok (.getfield 217, 3) := by decide +kernel
theorem dX7_ofArcherNow_45 : decode cX7_ofArcherNow 45 = .ok (.iastore, 1) := by decide +kernel
theorem dX7_ofArcherNow_46 : decode cX7_ofArcherNow 46 = .ok (.dup, 1) := by decide +kernel
theorem dX7_ofArcherNow_47 : decode cX7_ofArcherNow 47 = .ok (.bipush 6, 2) := by decide +kernel
theorem dX7_ofArcherNow_49 : decode cX7_ofArcherNow 49 = .ok (.aload_n 0, 1) := by decide +kernel
theorem dX7_ofArcherNow_50 : decode cX7_ofArcherNow 50 = .ok (.getfield 220, 3) := by decide +kernel
theorem dX7_ofArcherNow_53 : decode cX7_ofArcherNow 53 = .ok (.iastore, 1) := by decide +kernel
theorem dX7_ofArcherNow_54 : decode cX7_ofArcherNow 54 = .ok (.dup, 1) := by decide +kernel
theorem dX7_ofArcherNow_55 : decode cX7_ofArcherNow 55 = .ok (.bipush 7, 2) := by decide +kernel
theorem dX7_ofArcherNow_57 : decode cX7_ofArcherNow 57 = .ok (.aload_n 0, 1) := by decide +kernel
theorem dX7_ofArcherNow_58 : decode cX7_ofArcherNow 58 = .ok (.getfield 247, 3) := by decide +kernel
theorem dX7_ofArcherNow_61 : decode cX7_ofArcherNow 61 = .ok (.iastore, 1) := by decide +kernel
theorem dX7_ofArcherNow_62 : decode cX7_ofArcherNow 62 = .ok (.dup, 1) := by decide +kernel
theorem dX7_ofArcherNow_63 : decode cX7_ofArcherNow 63 = .ok (.bipush 8, 2) := by decide +kernel
theorem dX7_ofArcherNow_65 : decode cX7_ofArcherNow 65 = .ok (.aload_n 0, 1) := by decide +kernel
theorem dX7_ofArcherNow_66 : decode cX7_ofArcherNow 66 = .ok (.getfield 223, 3) := by decide +kernel
theorem dX7_ofArcherNow_69 : decode cX7_ofArcherNow 69 = .ok (.iastore, 1) := by decide +kernel
theorem dX7_ofArcherNow_70 : decode cX7_ofArcherNow 70 = .ok (.dup, 1) := by decide +kernel
theorem dX7_ofArcherNow_71 : decode cX7_ofArcherNow 71 = .ok (.bipush 9, 2) := by decide +kernel
theorem dX7_ofArcherNow_73 : decode cX7_ofArcherNow 73 = .ok (.aload_n 0, 1) := by decide +kernel
theorem dX7_ofArcherNow_74 : decode cX7_ofArcherNow 74 = .ok (.getfield 226, 3) := by decide +kernel
theorem dX7_ofArcherNow_77 : decode cX7_ofArcherNow 77 = .ok (.iastore, 1) := by decide +kernel
theorem dX7_ofArcherNow_78 : decode cX7_ofArcherNow 78 = .ok (.dup, 1) := by decide +kernel
theorem dX7_ofArcherNow_79 : decode cX7_ofArcherNow 79 = .ok (.bipush 10, 2) := by decide +kernel
theorem dX7_ofArcherNow_81 : decode cX7_ofArcherNow 81 = .ok (.aload_n 0, 1) := by decide +kernel
theorem dX7_ofArcherNow_82 : decode cX7_ofArcherNow 82 = .ok (.getfield 229, 3) := by decide +kernel
theorem dX7_ofArcherNow_85 : decode cX7_ofArcherNow 85 = .ok (.iastore, 1) := by decide +kernel
theorem dX7_ofArcherNow_86 : decode cX7_ofArcherNow 86 = .ok (.astore_n 2, 1) := by decide +kernel
theorem dX7_ofArcherNow_87 : decode cX7_ofArcherNow 87 = .ok (.aload_n 2, 1) := by decide +kernel
theorem dX7_ofArcherNow_88 : decode cX7_ofArcherNow 88 = .ok (.iload_n 1, 1) := by decide +kernel
theorem dX7_ofArcherNow_89 : decode cX7_ofArcherNow 89 = .ok (.iaload, 1) := by decide +kernel
theorem dX7_ofArcherNow_90 : decode cX7_ofArcherNow 90 = .ok (.ireturn, 1) := by decide +kernel
set_option maxRecDepth 20000 in
theorem ggX7_ofArcher_X7_isArcher : GoodIn wsX7_ofArcher wsX7_isArcher := goodIn_r _ [8, 2, 9, 10, 11, 12, 13, 14, 15, 16, 7, 17, 43, 44, 45, 46, 47, 48, 49, 50, 51, 52, 53, 54, 55, 56, 57, 58, 59, 60, 61, 62, 63, 64, 65, 66, 67] (by decide +kernel) (by decide +kernel)
set_option maxRecDepth 20000 in
theorem gX7_ofArcher_X7_isArcher : GoodIn wsX7_ofArcher (wsV RX7 83 RX7 yX7_isArcher wsX7_isArcher) := goodIn_app (goodIn_of _ (by decide +kernel)) ggX7_ofArcher_X7_isArcher
set_option maxRecDepth 20000 in
theorem ggX7_ofArcher_X7_refuse : GoodIn wsX7_ofArcher wsX7_refuse := goodIn_r _ [21, 1, 43, 44, 45, 46, 47, 48, 49, 50, 51, 52, 53, 54, 55, 56, 57, 58, 59, 60, 61, 62, 63, 64] (by decide +kernel) (by decide +kernel)
set_option maxRecDepth 20000 in
theorem gX7_ofArcher_X7_refuse : GoodIn wsX7_ofArcher (wsV RX7 59 RX7 yX7_refuse wsX7_refuse) := goodIn_app (goodIn_of _ (by decide +kernel)) ggX7_ofArcher_X7_refuse
set_option maxRecDepth 20000 in
theorem ggX7_ofArcher_X7_is : GoodIn wsX7_ofArcher wsX7_is := goodIn_r _ [17] (by decide +kernel) (by decide +kernel)
set_option maxRecDepth 20000 in
theorem gX7_ofArcher_X7_is : GoodIn wsX7_ofArcher (va_wsS RX7 46 yX7_is wsX7_is) := goodIn_app (goodIn_of _ (by decide +kernel)) ggX7_ofArcher_X7_is
set_option maxRecDepth 20000 in
theorem ggX7_ofArcher_Jx4a65c_get_915e3 : GoodIn wsX7_ofArcher wsJx4a65c_get_915e3 := goodIn_r _ [25, 14, 26, 27, 28, 29, 30, 31, 32, 33, 34, 35, 36, 12, 37, 38, 65, 66, 67] (by decide +kernel) (by decide +kernel)
set_option maxRecDepth 20000 in
theorem gX7_ofArcher_Jx4a65c_get_915e3 : GoodIn wsX7_ofArcher (wsV RX7 50 RJx4a65c yJx4a65c_get_915e3 wsJx4a65c_get_915e3) := goodIn_app (goodIn_of _ (by decide +kernel)) ggX7_ofArcher_Jx4a65c_get_915e3
set_option maxRecDepth 20000 in
theorem ggX7_ofArcher_X7_ofArcherNow : GoodIn wsX7_ofArcher wsX7_ofArcherNow := goodIn_r _ [41, 42, 68, 69, 70, 71, 72, 73, 74, 75, 76, 77, 78, 79] (by decide +kernel) (by decide +kernel)
set_option maxRecDepth 20000 in
theorem gX7_ofArcher_X7_ofArcherNow : GoodIn wsX7_ofArcher (va_wsS RX7 256 yX7_ofArcherNow wsX7_ofArcherNow) := goodIn_app (goodIn_of _ (by decide +kernel)) ggX7_ofArcher_X7_ofArcherNow
theorem dX7_ofArcher_0 : decode cX7_ofArcher 0 = .ok (.aload_n 0, 1) := by decide +kernel
theorem dX7_ofArcher_1 : decode cX7_ofArcher 1 = .ok (.iconst 0, 1) := by decide +kernel
theorem dX7_ofArcher_2 : decode cX7_ofArcher 2 = .ok (.putfield 39, 3) := by decide +kernel
theorem dX7_ofArcher_5 : decode cX7_ofArcher 5 = .ok (.aload_n 0, 1) := by decide +kernel
theorem dX7_ofArcher_6 : decode cX7_ofArcher 6 = .ok (.iload_n 1, 1) := by decide +kernel
theorem dX7_ofArcher_7 : decode cX7_ofArcher 7 = .ok (.invokevirtual 83, 3) := by decide +kernel
theorem dX7_ofArcher_10 : decode cX7_ofArcher 10 = .ok (.ifCond .ne 9, 3) := by decide +kernel
theorem dX7_ofArcher_13 : decode cX7_ofArcher 13 = .ok (.aload_n 0, 1) := by decide +kernel
theorem dX7_ofArcher_14 : decode cX7_ofArcher 14 = .ok (.iconst 1, 1) := by decide +kernel
theorem dX7_ofArcher_15 : decode cX7_ofArcher 15 = .ok (.invokevirtual 59, 3) := by decide +kernel
theorem dX7_ofArcher_18 : decode cX7_ofArcher 18 = .ok (.ireturn, 1) := by decide +kernel
theorem dX7_ofArcher_19 : decode cX7_ofArcher 19 = .ok (.iload_n 2, 1) := by decide +kernel
theorem dX7_ofArcher_20 : decode cX7_ofArcher 20 = .ok (.iconst 0, 1) := by decide +kernel
theorem dX7_ofArcher_21 : decode cX7_ofArcher 21 = .ok (.bipush 10, 2) := by decide +kernel
theorem dX7_ofArcher_23 : decode cX7_ofArcher 23 = .ok (.invokestatic 46, 3) := by decide +kernel
theorem dX7_ofArcher_26 : decode cX7_ofArcher 26 = .ok (.ifCond .eq 21, 3) := by decide +kernel
theorem dX7_ofArcher_29 : decode cX7_ofArcher 29 = .ok (.aload_n 0, 1) := by decide +kernel
theorem dX7_ofArcher_30 : decode cX7_ofArcher 30 = .ok (.getfield 10, 3) := by decide +kernel
theorem dX7_ofArcher_33 : decode cX7_ofArcher 33 = .ok (.iload_n 1, 1) := by decide +kernel
theorem dX7_ofArcher_34 : decode cX7_ofArcher 34 = .ok (.invokevirtual 50, 3) := by decide +kernel
theorem dX7_ofArcher_37 : decode cX7_ofArcher 37 = .ok (.checkcast 54, 3) := by decide +kernel
theorem dX7_ofArcher_40 : decode cX7_ofArcher 40 = .ok (.iload_n 2, 1) := by decide +kernel
theorem dX7_ofArcher_41 : decode cX7_ofArcher 41 = .ok (.invokestatic 256, 3) := by decide +kernel
theorem dX7_ofArcher_44 : decode cX7_ofArcher 44 = .ok (.goto 8, 3) := by decide +kernel
theorem dX7_ofArcher_47 : decode cX7_ofArcher 47 = .ok (.aload_n 0, 1) := by decide +kernel
theorem dX7_ofArcher_48 : decode cX7_ofArcher 48 = .ok (.iconst 2, 1) := by decide +kernel
theorem dX7_ofArcher_49 : decode cX7_ofArcher 49 = .ok (.invokevirtual 59, 3) := by decide +kernel
theorem dX7_ofArcher_52 : decode cX7_ofArcher 52 = .ok (.ireturn, 1) := by decide +kernel
set_option maxRecDepth 20000 in
theorem ggX7_speedNow_Jx4a65c_get_915e3 : GoodIn wsX7_speedNow wsJx4a65c_get_915e3 := goodIn_r _ [7, 8, 9, 10, 11, 12, 13, 14, 15, 16, 17, 18, 19, 6, 20, 21, 62, 63, 64] (by decide +kernel) (by decide +kernel)
set_option maxRecDepth 20000 in
theorem gX7_speedNow_Jx4a65c_get_915e3 : GoodIn wsX7_speedNow (wsV RX7 50 RJx4a65c yJx4a65c_get_915e3 wsJx4a65c_get_915e3) := goodIn_app (goodIn_of _ (by decide +kernel)) ggX7_speedNow_Jx4a65c_get_915e3
set_option maxRecDepth 20000 in
theorem ggX7_speedNow_X7_speed : GoodIn wsX7_speedNow wsX7_speed := goodIn_r _ [25, 26, 27, 28, 29, 30, 31, 32, 33, 34, 35, 36, 37, 38, 39, 65, 66, 67, 68, 69] (by decide +kernel) (by decide +kernel)
set_option maxRecDepth 20000 in
theorem gX7_speedNow_X7_speed : GoodIn wsX7_speedNow (va_wsS RX7 138 yX7_speed wsX7_speed) := goodIn_app (goodIn_of _ (by decide +kernel)) ggX7_speedNow_X7_speed
theorem dX7_speedNow_0 : decode cX7_speedNow 0 = .ok (.aload_n 1, 1) := by decide +kernel
theorem dX7_speedNow_1 : decode cX7_speedNow 1 = .ok (.getfield 56, 3) := by decide +kernel
theorem dX7_speedNow_4 : decode cX7_speedNow 4 = .ok (.iconst (-1), 1) := by decide +kernel
theorem dX7_speedNow_5 : decode cX7_speedNow 5 = .ok (.if_icmp .ne 7, 3) := by decide +kernel
theorem dX7_speedNow_8 : decode cX7_speedNow 8 = .ok (.dconst 0, 1) := by decide +kernel
theorem dX7_speedNow_9 : decode cX7_speedNow 9 = .ok (.goto 21, 3) := by decide +kernel
theorem dX7_speedNow_12 : decode cX7_speedNow 12 = .ok (.aload_n 1, 1) := by decide +kernel
theorem dX7_speedNow_13 : decode cX7_speedNow 13 = .ok (.aload_n 0, 1) := by decide +kernel
theorem dX7_speedNow_14 : decode cX7_speedNow 14 = .ok (.getfield 16, 3) := by decide +kernel
theorem dX7_speedNow_17 : decode cX7_speedNow 17 = .ok (.aload_n 1, 1) := by decide +kernel
theorem dX7_speedNow_18 : decode cX7_speedNow 18 = .ok (.getfield 56, 3) := by decide +kernel
theorem dX7_speedNow_21 : decode cX7_speedNow 21 = .ok (.invokevirtual 50, 3) := by decide +kernel
theorem dX7_speedNow_24 : decode cX7_speedNow 24 = .ok (.checkcast 74, 3) := by decide +kernel
theorem dX7_speedNow_27 : decode cX7_speedNow 27 = .ok (.invokestatic 138, 3) := by decide +kernel
theorem dX7_speedNow_30 : decode cX7_speedNow 30 = .ok (.dreturn, 1) := by decide +kernel
set_option maxRecDepth 20000 in
theorem ggX7_speed__X7_isArcher : GoodIn wsX7_speed_ wsX7_isArcher := goodIn_r _ [8, 2, 9, 10, 11, 12, 13, 14, 15, 16, 7, 17, 46, 47, 48, 49, 50, 51, 52, 53, 54, 55, 56, 57, 58, 59, 60, 61, 62, 63, 64, 65, 66, 67, 68, 69, 70] (by decide +kernel) (by decide +kernel)
set_option maxRecDepth 20000 in
theorem gX7_speed__X7_isArcher : GoodIn wsX7_speed_ (wsV RX7 83 RX7 yX7_isArcher wsX7_isArcher) := goodIn_app (goodIn_of _ (by decide +kernel)) ggX7_speed__X7_isArcher
set_option maxRecDepth 20000 in
theorem ggX7_speed__Jx4a65c_get_915e3 : GoodIn wsX7_speed_ wsJx4a65c_get_915e3 := goodIn_r _ [21, 14, 22, 23, 24, 25, 26, 27, 28, 29, 30, 31, 32, 12, 33, 34, 68, 69, 70] (by decide +kernel) (by decide +kernel)
set_option maxRecDepth 20000 in
theorem gX7_speed__Jx4a65c_get_915e3 : GoodIn wsX7_speed_ (wsV RX7 50 RJx4a65c yJx4a65c_get_915e3 wsJx4a65c_get_915e3) := goodIn_app (goodIn_of _ (by decide +kernel)) ggX7_speed__Jx4a65c_get_915e3
set_option maxRecDepth 20000 in
theorem ggX7_speed__X7_speedNow : GoodIn wsX7_speed_ wsX7_speedNow := goodIn_r _ [38, 39, 40, 18, 19, 20, 12, 21, 14, 22, 23, 24, 25, 26, 27, 28, 29, 30, 31, 32, 33, 34, 41, 42, 7, 43, 44, 45, 71, 72, 73, 74, 75, 76, 77, 78, 79, 80, 81, 82, 46, 47, 48, 49, 50, 51, 52, 53, 54, 55, 56, 57, 58, 59, 60, 61, 62, 63, 64, 65, 66, 67, 68, 69, 70, 83, 84, 85, 86, 87] (by decide +kernel) (by decide +kernel)
set_option maxRecDepth 20000 in
theorem gX7_speed__X7_speedNow : GoodIn wsX7_speed_ (wsV RX7 260 RX7 yX7_speedNow wsX7_speedNow) := goodIn_app (goodIn_of _ (by decide +kernel)) ggX7_speed__X7_speedNow
theorem dX7_speed__0 : decode cX7_speed_ 0 = .ok (.aload_n 0, 1) := by decide +kernel
theorem dX7_speed__1 : decode cX7_speed_ 1 = .ok (.aload_n 0, 1) := by decide +kernel
theorem dX7_speed__2 : decode cX7_speed_ 2 = .ok (.iload_n 1, 1) := by decide +kernel
theorem dX7_speed__3 : decode cX7_speed_ 3 = .ok (.invokevirtual 83, 3) := by decide +kernel
theorem dX7_speed__6 : decode cX7_speed_ 6 = .ok (.ifCond .eq 7, 3) := by decide +kernel
theorem dX7_speed__9 : decode cX7_speed_ 9 = .ok (.iconst 0, 1) := by decide +kernel
theorem dX7_speed__10 : decode cX7_speed_ 10 = .ok (.goto 4, 3) := by decide +kernel
theorem dX7_speed__13 : decode cX7_speed_ 13 = .ok (.iconst 1, 1) := by decide +kernel
theorem dX7_speed__14 : decode cX7_speed_ 14 = .ok (.putfield 39, 3) := by decide +kernel
theorem dX7_speed__17 : decode cX7_speed_ 17 = .ok (.aload_n 0, 1) := by decide +kernel
theorem dX7_speed__18 : decode cX7_speed_ 18 = .ok (.getfield 39, 3) := by decide +kernel
theorem dX7_speed__21 : decode cX7_speed_ 21 = .ok (.ifCond .ne 21, 3) := by decide +kernel
theorem dX7_speed__24 : decode cX7_speed_ 24 = .ok (.aload_n 0, 1) := by decide +kernel
theorem dX7_speed__25 : decode cX7_speed_ 25 = .ok (.aload_n 0, 1) := by decide +kernel
theorem dX7_speed__26 : decode cX7_speed_ 26 = .ok (.getfield 10, 3) := by decide +kernel
theorem dX7_speed__29 : decode cX7_speed_ 29 = .ok (.iload_n 1, 1) := by decide +kernel
theorem dX7_speed__30 : decode cX7_speed_ 30 = .ok (.invokevirtual 50, 3) := by decide +kernel
theorem dX7_speed__33 : decode cX7_speed_ 33 = .ok (.checkcast 54, 3) := by decide +kernel
theorem dX7_speed__36 : decode cX7_speed_ 36 = .ok (.invokevirtual 260, 3) := by decide +kernel
theorem dX7_speed__39 : decode cX7_speed_ 39 = .ok (.goto 4, 3) := by decide +kernel
theorem dX7_speed__42 : decode cX7_speed_ 42 = .ok (.dconst 0, 1) := by decide +kernel
theorem dX7_speed__43 : decode cX7_speed_ 43 = .ok (.dreturn, 1) := by decide +kernel
set_option maxRecDepth 20000 in
theorem ggX7_ofQuiverNow_Jx4a65c_get_915e3 : GoodIn wsX7_ofQuiverNow wsJx4a65c_get_915e3 := goodIn_r _ [7, 8, 9, 10, 11, 12, 13, 14, 15, 16, 17, 18, 19, 6, 20, 21, 66, 67, 68] (by decide +kernel) (by decide +kernel)
set_option maxRecDepth 20000 in
theorem gX7_ofQuiverNow_Jx4a65c_get_915e3 : GoodIn wsX7_ofQuiverNow (wsV RX7 50 RJx4a65c yJx4a65c_get_915e3 wsJx4a65c_get_915e3) := goodIn_app (goodIn_of _ (by decide +kernel)) ggX7_ofQuiverNow_Jx4a65c_get_915e3
set_option maxRecDepth 20000 in
theorem ggX7_ofQuiverNow_X7_holder : GoodIn wsX7_ofQuiverNow wsX7_holder := goodIn_r _ [26, 27, 28, 29, 30, 31, 6, 32, 8, 3, 4, 5, 7, 9, 10, 11, 12, 13, 14, 15, 16, 17, 18, 19, 20, 21, 39, 40, 41, 42, 43, 44, 45, 46, 47, 48, 49, 50, 51, 52, 53, 54, 55, 56, 57, 58, 59, 60, 69, 70, 71, 72, 73, 74, 75, 76, 77, 78, 79, 80, 66, 67, 68] (by decide +kernel) (by decide +kernel)
set_option maxRecDepth 20000 in
theorem gX7_ofQuiverNow_X7_holder : GoodIn wsX7_ofQuiverNow (wsV RX7 94 RX7 yX7_holder wsX7_holder) := goodIn_app (goodIn_of _ (by decide +kernel)) ggX7_ofQuiverNow_X7_holder
set_option maxRecDepth 20000 in
theorem ggX7_ofQuiverNow_X6_set : GoodIn wsX7_ofQuiverNow wsX6_set := goodIn_r _ [37, 38, 61, 62, 63, 64, 65] (by decide +kernel) (by decide +kernel)
set_option maxRecDepth 20000 in
theorem gX7_ofQuiverNow_X6_set : GoodIn wsX7_ofQuiverNow (wsV RX7 120 RX6 yX6_set wsX6_set) := goodIn_app (goodIn_of _ (by decide +kernel)) ggX7_ofQuiverNow_X6_set
theorem dX7_ofQuiverNow_0 : decode cX7_ofQuiverNow 0 = .ok (.aload_n 0, 1) := by decide +kernel
theorem dX7_ofQuiverNow_1 : decode cX7_ofQuiverNow 1 = .ok (.getfield 16, 3) := by decide +kernel
theorem dX7_ofQuiverNow_4 : decode cX7_ofQuiverNow 4 = .ok (.iload_n 1, 1) := by decide +kernel
theorem dX7_ofQuiverNow_5 : decode cX7_ofQuiverNow 5 = .ok (.invokevirtual 50, 3) := by decide +kernel
theorem dX7_ofQuiverNow_8 : decode cX7_ofQuiverNow 8 = .ok (.checkcast 74, 3) := by decide +kernel
theorem dX7_ofQuiverNow_11 : decode cX7_ofQuiverNow 11 = .ok (.astore_n 3, 1) := by decide +kernel
theorem dX7_ofQuiverNow_12 : decode cX7_ofQuiverNow 12 = .ok (.iload_n 2, 1) := by decide +kernel
theorem dX7_ofQuiverNow_13 : decode cX7_ofQuiverNow 13 = .ok (.ifCond .ne 10, 3) := by decide +kernel
theorem dX7_ofQuiverNow_16 : decode cX7_ofQuiverNow 16 = .ok (.aload_n 3, 1) := by decide +kernel
theorem dX7_ofQuiverNow_17 : decode cX7_ofQuiverNow 17 = .ok (.getfield 77, 3) := by decide +kernel
theorem dX7_ofQuiverNow_20 : decode cX7_ofQuiverNow 20 = .ok (.goto 35, 3) := by decide +kernel
theorem dX7_ofQuiverNow_23 : decode cX7_ofQuiverNow 23 = .ok (.iload_n 2, 1) := by decide +kernel
theorem dX7_ofQuiverNow_24 : decode cX7_ofQuiverNow 24 = .ok (.iconst 1, 1) := by decide +kernel
theorem dX7_ofQuiverNow_25 : decode cX7_ofQuiverNow 25 = .ok (.if_icmp .ne 10, 3) := by decide +kernel
theorem dX7_ofQuiverNow_28 : decode cX7_ofQuiverNow 28 = .ok (.aload_n 3, 1) := by decide +kernel
theorem dX7_ofQuiverNow_29 : decode cX7_ofQuiverNow 29 = .ok (.getfield 80, 3) := by decide +kernel
theorem dX7_ofQuiverNow_32 : decode cX7_ofQuiverNow 32 = .ok (.goto 23, 3) := by decide +kernel
theorem dX7_ofQuiverNow_35 : decode cX7_ofQuiverNow 35 = .ok (.iload_n 2, 1) := by decide +kernel
theorem dX7_ofQuiverNow_36 : decode cX7_ofQuiverNow 36 = .ok (.iconst 2, 1) := by decide +kernel
theorem dX7_ofQuiverNow_37 : decode cX7_ofQuiverNow 37 = .ok (.if_icmp .ne 11, 3) := by decide +kernel
theorem dX7_ofQuiverNow_40 : decode cX7_ofQuiverNow 40 = .ok (.aload_n 0, 1) := by decide +kernel
theorem dX7_ofQuiverNow_41 : decode cX7_ofQuiverNow 41 = .ok (.iload_n 1, 1) := by decide +kernel
theorem dX7_ofQuiverNow_42 : decode cX7_ofQuiverNow 42 = .ok (.invokevirtual 94, 3) := by decide +kernel
theorem dX7_ofQuiverNow_45 : decode cX7_ofQuiverNow 45 = .ok (.goto 10, 3) := by decide +kernel
theorem dX7_ofQuiverNow_48 : decode cX7_ofQuiverNow 48 = .ok (.aload_n 3, 1) := by decide +kernel
theorem dX7_ofQuiverNow_49 : decode cX7_ofQuiverNow 49 = .ok (.iload_n 2, 1) := by decide +kernel
theorem dX7_ofQuiverNow_50 : decode cX7_ofQuiverNow 50 = .ok (.iconst 3, 1) := by decide +kernel
theorem dX7_ofQuiverNow_51 : decode cX7_ofQuiverNow 51 = .ok (.isub, 1) := by decide +kernel
theorem dX7_ofQuiverNow_52 : decode cX7_ofQuiverNow 52 = .ok (.invokevirtual 120, 3) := by decide +kernel
theorem dX7_ofQuiverNow_55 : decode cX7_ofQuiverNow 55 = .ok (.ireturn, 1) := by decide +kernel
set_option maxRecDepth 20000 in
theorem ggX7_ofQuiver_X7_isQuiver : GoodIn wsX7_ofQuiver wsX7_isQuiver := goodIn_r _ [6, 7, 8, 9, 10, 11, 12, 13, 14, 15, 5, 16, 55, 56, 57, 58, 59, 60, 61, 62, 63, 64, 65, 66, 67, 68, 69, 70, 71, 72, 73, 74, 75, 76, 77, 78, 79] (by decide +kernel) (by decide +kernel)
set_option maxRecDepth 20000 in
theorem gX7_ofQuiver_X7_isQuiver : GoodIn wsX7_ofQuiver (wsV RX7 87 RX7 yX7_isQuiver wsX7_isQuiver) := goodIn_app (goodIn_of _ (by decide +kernel)) ggX7_ofQuiver_X7_isQuiver
set_option maxRecDepth 20000 in
theorem ggX7_ofQuiver_X7_refuse : GoodIn wsX7_ofQuiver wsX7_refuse := goodIn_r _ [20, 1, 55, 56, 57, 58, 59, 60, 61, 62, 63, 64, 65, 66, 67, 68, 69, 70, 71, 72, 73, 74, 75, 76] (by decide +kernel) (by decide +kernel)
set_option maxRecDepth 20000 in
theorem gX7_ofQuiver_X7_refuse : GoodIn wsX7_ofQuiver (wsV RX7 59 RX7 yX7_refuse wsX7_refuse) := goodIn_app (goodIn_of _ (by decide +kernel)) ggX7_ofQuiver_X7_refuse
set_option maxRecDepth 20000 in
theorem ggX7_ofQuiver_X7_is : GoodIn wsX7_ofQuiver wsX7_is := goodIn_r _ [16] (by decide +kernel) (by decide +kernel)
set_option maxRecDepth 20000 in
theorem gX7_ofQuiver_X7_is : GoodIn wsX7_ofQuiver (va_wsS RX7 46 yX7_is wsX7_is) := goodIn_app (goodIn_of _ (by decide +kernel)) ggX7_ofQuiver_X7_is
set_option maxRecDepth 20000 in
theorem ggX7_ofQuiver_X7_ofQuiverNow : GoodIn wsX7_ofQuiver wsX7_ofQuiverNow := goodIn_r _ [24, 7, 25, 26, 27, 28, 11, 29, 13, 30, 31, 32, 33, 34, 35, 36, 37, 38, 39, 40, 41, 42, 43, 44, 45, 5, 46, 47, 48, 8, 9, 10, 12, 49, 50, 51, 52, 53, 54, 55, 56, 57, 58, 59, 60, 61, 62, 63, 64, 65, 66, 67, 68, 69, 70, 71, 72, 73, 74, 75, 76, 80, 81, 82, 83, 84, 77, 78, 79, 85, 86, 87, 88, 89, 90, 91, 92, 93, 94, 95, 96] (by decide +kernel) (by decide +kernel)
set_option maxRecDepth 20000 in
theorem gX7_ofQuiver_X7_ofQuiverNow : GoodIn wsX7_ofQuiver (wsV RX7 264 RX7 yX7_ofQuiverNow wsX7_ofQuiverNow) := goodIn_app (goodIn_of _ (by decide +kernel)) ggX7_ofQuiver_X7_ofQuiverNow
theorem dX7_ofQuiver_0 : decode cX7_ofQuiver 0 = .ok (.aload_n 0, 1) := by decide +kernel
theorem dX7_ofQuiver_1 : decode cX7_ofQuiver 1 = .ok (.iconst 0, 1) := by decide +kernel
theorem dX7_ofQuiver_2 : decode cX7_ofQuiver 2 = .ok (.putfield 39, 3) := by decide +kernel
theorem dX7_ofQuiver_5 : decode cX7_ofQuiver 5 = .ok (.aload_n 0, 1) := by decide +kernel
theorem dX7_ofQuiver_6 : decode cX7_ofQuiver 6 = .ok (.iload_n 1, 1) := by decide +kernel
theorem dX7_ofQuiver_7 : decode cX7_ofQuiver 7 = .ok (.invokevirtual 87, 3) := by decide +kernel
theorem dX7_ofQuiver_10 : decode cX7_ofQuiver 10 = .ok (.ifCond .ne 9, 3) := by decide +kernel
theorem dX7_ofQuiver_13 : decode cX7_ofQuiver 13 = .ok (.aload_n 0, 1) := by decide +kernel
theorem dX7_ofQuiver_14 : decode cX7_ofQuiver 14 = .ok (.iconst 1, 1) := by decide +kernel
theorem dX7_ofQuiver_15 : decode cX7_ofQuiver 15 = .ok (.invokevirtual 59, 3) := by decide +kernel
theorem dX7_ofQuiver_18 : decode cX7_ofQuiver 18 = .ok (.ireturn, 1) := by decide +kernel
theorem dX7_ofQuiver_19 : decode cX7_ofQuiver 19 = .ok (.iload_n 2, 1) := by decide +kernel
theorem dX7_ofQuiver_20 : decode cX7_ofQuiver 20 = .ok (.iconst 0, 1) := by decide +kernel
theorem dX7_ofQuiver_21 : decode cX7_ofQuiver 21 = .ok (.bipush 6, 2) := by decide +kernel
theorem dX7_ofQuiver_23 : decode cX7_ofQuiver 23 = .ok (.invokestatic 46, 3) := by decide +kernel
theorem dX7_ofQuiver_26 : decode cX7_ofQuiver 26 = .ok (.ifCond .eq 12, 3) := by decide +kernel
theorem dX7_ofQuiver_29 : decode cX7_ofQuiver 29 = .ok (.aload_n 0, 1) := by decide +kernel
theorem dX7_ofQuiver_30 : decode cX7_ofQuiver 30 = .ok (.iload_n 1, 1) := by decide +kernel
theorem dX7_ofQuiver_31 : decode cX7_ofQuiver 31 = .ok (.iload_n 2, 1) := by decide +kernel
theorem dX7_ofQuiver_32 : decode cX7_ofQuiver 32 = .ok (.invokevirtual 264, 3) := by decide +kernel
theorem dX7_ofQuiver_35 : decode cX7_ofQuiver 35 = .ok (.goto 8, 3) := by decide +kernel
theorem dX7_ofQuiver_38 : decode cX7_ofQuiver 38 = .ok (.aload_n 0, 1) := by decide +kernel
theorem dX7_ofQuiver_39 : decode cX7_ofQuiver 39 = .ok (.iconst 2, 1) := by decide +kernel
theorem dX7_ofQuiver_40 : decode cX7_ofQuiver 40 = .ok (.invokevirtual 59, 3) := by decide +kernel
theorem dX7_ofQuiver_43 : decode cX7_ofQuiver 43 = .ok (.ireturn, 1) := by decide +kernel
set_option maxRecDepth 20000 in
theorem ggX7_hit_X7_isQuiver : GoodIn wsX7_hit wsX7_isQuiver := goodIn_r _ [8, 2, 9, 10, 11, 12, 13, 14, 15, 16, 7, 17, 35, 36, 37, 38, 39, 40, 41, 42, 43, 44, 45, 46, 47, 48, 49, 50, 51, 52, 53, 54, 55, 56, 62, 63, 64] (by decide +kernel) (by decide +kernel)
set_option maxRecDepth 20000 in
theorem gX7_hit_X7_isQuiver : GoodIn wsX7_hit (wsV RX7 87 RX7 yX7_isQuiver wsX7_isQuiver) := goodIn_app (goodIn_of _ (by decide +kernel)) ggX7_hit_X7_isQuiver
set_option maxRecDepth 20000 in
theorem ggX7_hit_X7_is : GoodIn wsX7_hit wsX7_is := goodIn_r _ [17] (by decide +kernel) (by decide +kernel)
set_option maxRecDepth 20000 in
theorem gX7_hit_X7_is : GoodIn wsX7_hit (va_wsS RX7 46 yX7_is wsX7_is) := goodIn_app (goodIn_of _ (by decide +kernel)) ggX7_hit_X7_is
set_option maxRecDepth 20000 in
theorem ggX7_hit_Jx4a65c_get_915e3 : GoodIn wsX7_hit wsJx4a65c_get_915e3 := goodIn_r _ [21, 14, 22, 23, 24, 25, 26, 27, 28, 29, 30, 31, 32, 12, 33, 34, 62, 63, 64] (by decide +kernel) (by decide +kernel)
set_option maxRecDepth 20000 in
theorem gX7_hit_Jx4a65c_get_915e3 : GoodIn wsX7_hit (wsV RX7 50 RJx4a65c yJx4a65c_get_915e3 wsJx4a65c_get_915e3) := goodIn_app (goodIn_of _ (by decide +kernel)) ggX7_hit_Jx4a65c_get_915e3
theorem dX7_hit_0 : decode cX7_hit 0 = .ok (.aload_n 0, 1) := by decide +kernel
theorem dX7_hit_1 : decode cX7_hit 1 = .ok (.aload_n 0, 1) := by decide +kernel
theorem dX7_hit_2 : decode cX7_hit 2 = .ok (.iload_n 1, 1) := by decide +kernel
theorem dX7_hit_3 : decode cX7_hit 3 = .ok (.invokevirtual 87, 3) := by decide +kernel
theorem dX7_hit_6 : decode cX7_hit 6 = .ok (.ifCond .eq 17, 3) := by decide +kernel
theorem dX7_hit_9 : decode cX7_hit 9 = .ok (.iload_n 2, 1) := by decide +kernel
theorem dX7_hit_10 : decode cX7_hit 10 = .ok (.iconst 0, 1) := by decide +kernel
theorem dX7_hit_11 : decode cX7_hit 11 = .ok (.bipush 11, 2) := by decide +kernel
theorem dX7_hit_13 : decode cX7_hit 13 = .ok (.invokestatic 46, 3) := by decide +kernel
theorem dX7_hit_16 : decode cX7_hit 16 = .ok (.ifCond .eq 7, 3) := by decide +kernel
theorem dX7_hit_19 : decode cX7_hit 19 = .ok (.iconst 0, 1) := by decide +kernel
theorem dX7_hit_20 : decode cX7_hit 20 = .ok (.goto 4, 3) := by decide +kernel
theorem dX7_hit_23 : decode cX7_hit 23 = .ok (.iconst 1, 1) := by decide +kernel
theorem dX7_hit_24 : decode cX7_hit 24 = .ok (.putfield 39, 3) := by decide +kernel
theorem dX7_hit_27 : decode cX7_hit 27 = .ok (.aload_n 0, 1) := by decide +kernel
theorem dX7_hit_28 : decode cX7_hit 28 = .ok (.getfield 39, 3) := by decide +kernel
theorem dX7_hit_31 : decode cX7_hit 31 = .ok (.ifCond .le 5, 3) := by decide +kernel
theorem dX7_hit_34 : decode cX7_hit 34 = .ok (.dconst 0, 1) := by decide +kernel
theorem dX7_hit_35 : decode cX7_hit 35 = .ok (.dreturn, 1) := by decide +kernel
theorem dX7_hit_36 : decode cX7_hit 36 = .ok (.iload_n 3, 1) := by decide +kernel
theorem dX7_hit_37 : decode cX7_hit 37 = .ok (.ifCond .eq 22, 3) := by decide +kernel
theorem dX7_hit_40 : decode cX7_hit 40 = .ok (.aload_n 0, 1) := by decide +kernel
theorem dX7_hit_41 : decode cX7_hit 41 = .ok (.getfield 16, 3) := by decide +kernel
theorem dX7_hit_44 : decode cX7_hit 44 = .ok (.iload_n 1, 1) := by decide +kernel
theorem dX7_hit_45 : decode cX7_hit 45 = .ok (.invokevirtual 50, 3) := by decide +kernel
theorem dX7_hit_48 : decode cX7_hit 48 = .ok (.checkcast 74, 3) := by decide +kernel
theorem dX7_hit_51 : decode cX7_hit 51 = .ok (.getfield 177, 3) := by decide +kernel
theorem dX7_hit_54 : decode cX7_hit 54 = .ok (.iload_n 2, 1) := by decide +kernel
theorem dX7_hit_55 : decode cX7_hit 55 = .ok (.daload, 1) := by decide +kernel
theorem dX7_hit_56 : decode cX7_hit 56 = .ok (.goto 19, 3) := by decide +kernel
theorem dX7_hit_59 : decode cX7_hit 59 = .ok (.aload_n 0, 1) := by decide +kernel
theorem dX7_hit_60 : decode cX7_hit 60 = .ok (.getfield 16, 3) := by decide +kernel
theorem dX7_hit_63 : decode cX7_hit 63 = .ok (.iload_n 1, 1) := by decide +kernel
theorem dX7_hit_64 : decode cX7_hit 64 = .ok (.invokevirtual 50, 3) := by decide +kernel
theorem dX7_hit_67 : decode cX7_hit 67 = .ok (.checkcast 74, 3) := by decide +kernel
theorem dX7_hit_70 : decode cX7_hit 70 = .ok (.getfield 166, 3) := by decide +kernel
theorem dX7_hit_73 : decode cX7_hit 73 = .ok (.iload_n 2, 1) := by decide +kernel
theorem dX7_hit_74 : decode cX7_hit 74 = .ok (.daload, 1) := by decide +kernel
theorem dX7_hit_75 : decode cX7_hit 75 = .ok (.dreturn, 1) := by decide +kernel
set_option maxRecDepth 20000 in
theorem ggX7_manyNow_Jx4a65c_size_8abf5 : GoodIn wsX7_manyNow wsJx4a65c_size_8abf5 := goodIn_r _ [17, 18, 92, 93, 94] (by decide +kernel) (by decide +kernel)
set_option maxRecDepth 20000 in
theorem gX7_manyNow_Jx4a65c_size_8abf5 : GoodIn wsX7_manyNow (wsV RX7 42 RJx4a65c yJx4a65c_size_8abf5 wsJx4a65c_size_8abf5) := goodIn_app (goodIn_of _ (by decide +kernel)) ggX7_manyNow_Jx4a65c_size_8abf5
set_option maxRecDepth 20000 in
theorem ggX7_manyNow_X7_stuck : GoodIn wsX7_manyNow wsX7_stuck := goodIn_r _ [23, 3, 24, 25, 26, 27, 16, 28, 29, 30, 31, 32, 33, 34, 35, 36, 37, 38, 39, 40, 41, 42, 43, 44, 45, 46, 47, 48, 49, 50, 51, 52, 53, 54, 55, 56, 57, 58, 59, 60, 61, 62, 63, 64, 65, 66, 67, 68, 69, 70, 71, 72, 73, 74, 75, 76, 77, 78, 79, 80, 81, 82, 83, 84, 85, 86, 87, 88, 89, 90, 91, 95, 96, 97, 98, 92, 93, 94, 99, 100, 101, 102, 103] (by decide +kernel) (by decide +kernel)
set_option maxRecDepth 20000 in
theorem gX7_manyNow_X7_stuck : GoodIn wsX7_manyNow (wsV RX7 128 RX7 yX7_stuck wsX7_stuck) := goodIn_app (goodIn_of _ (by decide +kernel)) ggX7_manyNow_X7_stuck
theorem dX7_manyNow_0 : decode cX7_manyNow 0 = .ok (.bipush 12, 2) := by decide +kernel
theorem dX7_manyNow_2 : decode cX7_manyNow 2 = .ok (.newarray .int, 2) := by decide +kernel
theorem dX7_manyNow_4 : decode cX7_manyNow 4 = .ok (.dup, 1) := by decide +kernel
theorem dX7_manyNow_5 : decode cX7_manyNow 5 = .ok (.iconst 0, 1) := by decide +kernel
theorem dX7_manyNow_6 : decode cX7_manyNow 6 = .ok (.aload_n 0, 1) := by decide +kernel
theorem dX7_manyNow_7 : decode cX7_manyNow 7 = .ok (.getfield 10, 3) := by decide +kernel
theorem dX7_manyNow_10 : decode cX7_manyNow 10 = .ok (.invokevirtual 42, 3) := by decide +kernel
theorem dX7_manyNow_13 : decode cX7_manyNow 13 = .ok (.iastore, 1) := by decide +kernel
theorem dX7_manyNow_14 : decode cX7_manyNow 14 = .ok (.dup, 1) := by decide +kernel
theorem dX7_manyNow_15 : decode cX7_manyNow 15 = .ok (.iconst 1, 1) := by decide +kernel
theorem dX7_manyNow_16 : decode cX7_manyNow 16 = .ok (.aload_n 0, 1) := by decide +kernel
theorem dX7_manyNow_17 : decode cX7_manyNow 17 = .ok (.getfield 16, 3) := by decide +kernel
theorem dX7_manyNow_20 : decode cX7_manyNow 20 = .ok (.invokevirtual 42, 3) := by decide +kernel
theorem dX7_manyNow_23 : decode cX7_manyNow 23 = .ok (.iastore, 1) := by decide +kernel
theorem dX7_manyNow_24 : decode cX7_manyNow 24 = .ok (.dup, 1) := by decide +kernel
theorem dX7_manyNow_25 : decode cX7_manyNow 25 = .ok (.iconst 2, 1) := by decide +kernel
theorem dX7_manyNow_26 : decode cX7_manyNow 26 = .ok (.aload_n 0, 1) := by decide +kernel
theorem dX7_manyNow_27 : decode cX7_manyNow 27 = .ok (.getfield 19, 3) := by decide +kernel
theorem dX7_manyNow_30 : decode cX7_manyNow 30 = .ok (.iastore, 1) := by decide +kernel
theorem dX7_manyNow_31 : decode cX7_manyNow 31 = .ok (.dup, 1) := by decide +kernel
theorem dX7_manyNow_32 : decode cX7_manyNow 32 = .ok (.iconst 3, 1) := by decide +kernel
theorem dX7_manyNow_33 : decode cX7_manyNow 33 = .ok (.aload_n 0, 1) := by decide +kernel
theorem dX7_manyNow_34 : decode cX7_manyNow 34 = .ok (.getfield 131, 3) := by decide +kernel
theorem dX7_manyNow_37 : decode cX7_manyNow 37 = .ok (.iastore, 1) := by decide +kernel
theorem dX7_manyNow_38 : decode cX7_manyNow 38 = .ok (.dup, 1) := by decide +kernel
theorem dX7_manyNow_39 : decode cX7_manyNow 39 = .ok (.iconst 4, 1) := by decide +kernel
theorem dX7_manyNow_40 : decode cX7_manyNow 40 = .ok (.aload_n 0, 1) := by decide +kernel
theorem dX7_manyNow_41 : decode cX7_manyNow 41 = .ok (.getfield 23, 3) := by decide +kernel
theorem dX7_manyNow_44 : decode cX7_manyNow 44 = .ok (.iastore, 1) := by decide +kernel
theorem dX7_manyNow_45 : decode cX7_manyNow 45 = .ok (.dup, 1) := by decide +kernel
theorem dX7_manyNow_46 : decode cX7_manyNow 46 = .ok (.iconst 5, 1) := by decide +kernel
theorem dX7_manyNow_47 : decode cX7_manyNow 47 = .ok (.aload_n 0, 1) := by decide +kernel
theorem dX7_manyNow_48 : decode cX7_manyNow 48 = .ok (.invokevirtual 128, 3) := by decide +kernel
theorem dX7_manyNow_51 : decode cX7_manyNow 51 = .ok (.iastore, 1) := by decide +kernel
theorem dX7_manyNow_52 : decode cX7_manyNow 52 = .ok (.dup, 1) := by decide +kernel
theorem dX7_manyNow_53 : decode cX7_manyNow 53 = .ok (.bipush 6, 2) := by decide +kernel
theorem dX7_manyNow_55 : decode cX7_manyNow 55 = .ok (.aload_n 0, 1) := by decide +kernel
theorem dX7_manyNow_56 : decode cX7_manyNow 56 = .ok (.getfield 232, 3) := by decide +kernel
theorem dX7_manyNow_59 : decode cX7_manyNow 59 = .ok (.iastore, 1) := by decide +kernel
theorem dX7_manyNow_60 : decode cX7_manyNow 60 = .ok (.dup, 1) := by decide +kernel
theorem dX7_manyNow_61 : decode cX7_manyNow 61 = .ok (.bipush 7, 2) := by decide +kernel
theorem dX7_manyNow_63 : decode cX7_manyNow 63 = .ok (.aload_n 0, 1) := by decide +kernel
theorem dX7_manyNow_64 : decode cX7_manyNow 64 = .ok (.getfield 179, 3) := by decide +kernel
theorem dX7_manyNow_67 : decode cX7_manyNow 67 = .ok (.iastore, 1) := by decide +kernel
theorem dX7_manyNow_68 : decode cX7_manyNow 68 = .ok (.dup, 1) := by decide +kernel
theorem dX7_manyNow_69 : decode cX7_manyNow 69 = .ok (.bipush 8, 2) := by decide +kernel
theorem dX7_manyNow_71 : decode cX7_manyNow 71 = .ok (.aload_n 0, 1) := by decide +kernel
theorem dX7_manyNow_72 : decode cX7_manyNow 72 = .ok (.getfield 197, 3) := by decide +kernel
theorem dX7_manyNow_75 : decode cX7_manyNow 75 = .ok (.iastore, 1) := by decide +kernel
theorem dX7_manyNow_76 : decode cX7_manyNow 76 = .ok (.dup, 1) := by decide +kernel
theorem dX7_manyNow_77 : decode cX7_manyNow 77 = .ok (.bipush 9, 2) := by decide +kernel
theorem dX7_manyNow_79 : decode cX7_manyNow 79 = .ok (.aload_n 0, 1) := by decide +kernel
theorem dX7_manyNow_80 : decode cX7_manyNow 80 = .ok (.getfield 250, 3) := by decide +kernel
theorem dX7_manyNow_83 : decode cX7_manyNow 83 = .ok (.iastore, 1) := by decide +kernel
theorem dX7_manyNow_84 : decode cX7_manyNow 84 = .ok (.dup, 1) := by decide +kernel
theorem dX7_manyNow_85 : decode cX7_manyNow 85 = .ok (.bipush 10, 2) := by decide +kernel
theorem dX7_manyNow_87 : decode cX7_manyNow 87 = .ok (.aload_n 0, 1) := by decide +kernel
theorem dX7_manyNow_88 : decode cX7_manyNow 88 = .ok (.getfield 182, 3) := by decide +kernel
theorem dX7_manyNow_91 : decode cX7_manyNow 91 = .ok (.ifCond .eq 7, 3) := by decide +kernel
theorem dX7_manyNow_94 : decode cX7_manyNow 94 = .ok (.iconst 1, 1) := by decide +kernel
theorem dX7_manyNow_95 : decode cX7_manyNow 95 = .ok (.goto 4, 3) := by decide +kernel
theorem dX7_manyNow_98 : decode cX7_manyNow 98 = .ok (.iconst 0, 1) := by decide +kernel
theorem dX7_manyNow_99 : decode cX7_manyNow 99 = .ok (.iastore, 1) := by decide +kernel
theorem dX7_manyNow_100 : decode cX7_manyNow 100 = .ok (.dup, 1) := by decide +kernel
theorem dX7_manyNow_101 : decode cX7_manyNow 101 = .ok (.bipush 11, 2) := by decide +kernel
theorem dX7_manyNow_103 : decode cX7_manyNow 103 = .ok (.aload_n 0, 1) := by decide +kernel
theorem dX7_manyNow_104 : decode cX7_manyNow 104 = .ok (.getfield 253, 3) := by decide +kernel
theorem dX7_manyNow_107 : decode cX7_manyNow 107 = .ok (.iastore, 1) := by decide +kernel
theorem dX7_manyNow_108 : decode cX7_manyNow 108 = .ok (.astore_n 2, 1) := by decide +kernel
theorem dX7_manyNow_109 : decode cX7_manyNow 109 = .ok (.aload_n 2, 1) := by decide +kernel
theorem dX7_manyNow_110 : decode cX7_manyNow 110 = .ok (.iload_n 1, 1) := by decide +kernel
theorem dX7_manyNow_111 : decode cX7_manyNow 111 = .ok (.iaload, 1) := by decide +kernel
theorem dX7_manyNow_112 : decode cX7_manyNow 112 = .ok (.ireturn, 1) := by decide +kernel
set_option maxRecDepth 20000 in
theorem ggX7_many_X7_is : GoodIn wsX7_many wsX7_is := goodIn_r _ [5] (by decide +kernel) (by decide +kernel)
set_option maxRecDepth 20000 in
theorem gX7_many_X7_is : GoodIn wsX7_many (va_wsS RX7 46 yX7_is wsX7_is) := goodIn_app (goodIn_of _ (by decide +kernel)) ggX7_many_X7_is
set_option maxRecDepth 20000 in
theorem ggX7_many_X7_manyNow : GoodIn wsX7_many wsX7_manyNow := goodIn_r _ [9, 10, 11, 12, 13, 14, 15, 16, 17, 18, 19, 20, 21, 22, 23, 24, 25, 26, 27, 28, 29, 30, 4, 31, 32, 33, 34, 35, 36, 37, 38, 39, 40, 41, 42, 43, 44, 45, 46, 47, 48, 49, 50, 51, 52, 53, 54, 55, 56, 57, 58, 59, 60, 61, 62, 63, 64, 65, 66, 67, 68, 69, 70, 71, 72, 73, 74, 75, 76, 77, 82, 83, 84, 85, 86, 87, 88, 89, 90, 91, 92, 93, 94, 95, 96, 97, 98, 99, 100, 101, 102, 103, 104, 105, 106, 107, 108, 109, 110, 111, 112, 113, 114, 115] (by decide +kernel) (by decide +kernel)
set_option maxRecDepth 20000 in
theorem gX7_many_X7_manyNow : GoodIn wsX7_many (wsV RX7 268 RX7 yX7_manyNow wsX7_manyNow) := goodIn_app (goodIn_of _ (by decide +kernel)) ggX7_many_X7_manyNow
set_option maxRecDepth 20000 in
theorem ggX7_many_X7_refuse : GoodIn wsX7_many wsX7_refuse := goodIn_r _ [81, 1, 82, 83, 84, 85, 86, 87, 88, 89, 90, 91, 92, 93, 94, 95, 96, 97, 98, 99, 100, 101, 102, 103] (by decide +kernel) (by decide +kernel)
set_option maxRecDepth 20000 in
theorem gX7_many_X7_refuse : GoodIn wsX7_many (wsV RX7 59 RX7 yX7_refuse wsX7_refuse) := goodIn_app (goodIn_of _ (by decide +kernel)) ggX7_many_X7_refuse
theorem dX7_many_0 : decode cX7_many 0 = .ok (.aload_n 0, 1) := by decide +kernel
theorem dX7_many_1 : decode cX7_many 1 = .ok (.iconst 0, 1) := by decide +kernel
theorem dX7_many_2 : decode cX7_many 2 = .ok (.putfield 39, 3) := by decide +kernel
theorem dX7_many_5 : decode cX7_many 5 = .ok (.iload_n 1, 1) := by decide +kernel
theorem dX7_many_6 : decode cX7_many 6 = .ok (.iconst 0, 1) := by decide +kernel
theorem dX7_many_7 : decode cX7_many 7 = .ok (.bipush 11, 2) := by decide +kernel
theorem dX7_many_9 : decode cX7_many 9 = .ok (.invokestatic 46, 3) := by decide +kernel
theorem dX7_many_12 : decode cX7_many 12 = .ok (.ifCond .eq 11, 3) := by decide +kernel
theorem dX7_many_15 : decode cX7_many 15 = .ok (.aload_n 0, 1) := by decide +kernel
theorem dX7_many_16 : decode cX7_many 16 = .ok (.iload_n 1, 1) := by decide +kernel
theorem dX7_many_17 : decode cX7_many 17 = .ok (.invokevirtual 268, 3) := by decide +kernel
theorem dX7_many_20 : decode cX7_many 20 = .ok (.goto 8, 3) := by decide +kernel
theorem dX7_many_23 : decode cX7_many 23 = .ok (.aload_n 0, 1) := by decide +kernel
theorem dX7_many_24 : decode cX7_many 24 = .ok (.iconst 1, 1) := by decide +kernel
theorem dX7_many_25 : decode cX7_many 25 = .ok (.invokevirtual 59, 3) := by decide +kernel
theorem dX7_many_28 : decode cX7_many 28 = .ok (.ireturn, 1) := by decide +kernel
set_option maxRecDepth 20000 in
theorem ggX7_ofMatchNow_X7_isOn : GoodIn wsX7_ofMatchNow wsX7_isOn := goodIn_r _ [11, 2, 12, 13, 14, 15, 16, 17, 18, 19, 20, 21, 22, 23, 24, 25, 26, 27, 28, 29, 30, 31, 32, 33] (by decide +kernel) (by decide +kernel)
set_option maxRecDepth 20000 in
theorem gX7_ofMatchNow_X7_isOn : GoodIn wsX7_ofMatchNow (wsV RX7 90 RX7 yX7_isOn wsX7_isOn) := goodIn_app (goodIn_of _ (by decide +kernel)) ggX7_ofMatchNow_X7_isOn
theorem dX7_ofMatchNow_0 : decode cX7_ofMatchNow 0 = .ok (.aload_n 0, 1) := by decide +kernel
theorem dX7_ofMatchNow_1 : decode cX7_ofMatchNow 1 = .ok (.invokevirtual 90, 3) := by decide +kernel
theorem dX7_ofMatchNow_4 : decode cX7_ofMatchNow 4 = .ok (.ifCond .ne 5, 3) := by decide +kernel
theorem dX7_ofMatchNow_7 : decode cX7_ofMatchNow 7 = .ok (.iconst (-1), 1) := by decide +kernel
theorem dX7_ofMatchNow_8 : decode cX7_ofMatchNow 8 = .ok (.ireturn, 1) := by decide +kernel
theorem dX7_ofMatchNow_9 : decode cX7_ofMatchNow 9 = .ok (.bipush 8, 2) := by decide +kernel
theorem dX7_ofMatchNow_11 : decode cX7_ofMatchNow 11 = .ok (.newarray .int, 2) := by decide +kernel
theorem dX7_ofMatchNow_13 : decode cX7_ofMatchNow 13 = .ok (.dup, 1) := by decide +kernel
theorem dX7_ofMatchNow_14 : decode cX7_ofMatchNow 14 = .ok (.iconst 0, 1) := by decide +kernel
theorem dX7_ofMatchNow_15 : decode cX7_ofMatchNow 15 = .ok (.aload_n 0, 1) := by decide +kernel
theorem dX7_ofMatchNow_16 : decode cX7_ofMatchNow 16 = .ok (.getfield 29, 3) := by decide +kernel
theorem dX7_ofMatchNow_19 : decode cX7_ofMatchNow 19 = .ok (.iconst 0, 1) := by decide +kernel
theorem dX7_ofMatchNow_20 : decode cX7_ofMatchNow 20 = .ok (.iaload, 1) := by decide +kernel
theorem dX7_ofMatchNow_21 : decode cX7_ofMatchNow 21 = .ok (.iastore, 1) := by decide +kernel
theorem dX7_ofMatchNow_22 : decode cX7_ofMatchNow 22 = .ok (.dup, 1) := by decide +kernel
theorem dX7_ofMatchNow_23 : decode cX7_ofMatchNow 23 = .ok (.iconst 1, 1) := by decide +kernel
theorem dX7_ofMatchNow_24 : decode cX7_ofMatchNow 24 = .ok (.aload_n 0, 1) := by decide +kernel
theorem dX7_ofMatchNow_25 : decode cX7_ofMatchNow 25 = .ok (.getfield 29, 3) := by decide +kernel
theorem dX7_ofMatchNow_28 : decode cX7_ofMatchNow 28 = .ok (.iconst 1, 1) := by decide +kernel
theorem dX7_ofMatchNow_29 : decode cX7_ofMatchNow 29 = .ok (.iaload, 1) := by decide +kernel
theorem dX7_ofMatchNow_30 : decode cX7_ofMatchNow 30 = .ok (.iastore, 1) := by decide +kernel
theorem dX7_ofMatchNow_31 : decode cX7_ofMatchNow 31 = .ok (.dup, 1) := by decide +kernel
theorem dX7_ofMatchNow_32 : decode cX7_ofMatchNow 32 = .ok (.iconst 2, 1) := by decide +kernel
theorem dX7_ofMatchNow_33 : decode cX7_ofMatchNow 33 = .ok (.aload_n 0, 1) := by decide +kernel
theorem dX7_ofMatchNow_34 : decode cX7_ofMatchNow 34 = .ok (.getfield 33, 3) := by decide +kernel
theorem dX7_ofMatchNow_37 : decode cX7_ofMatchNow 37 = .ok (.iconst 0, 1) := by decide +kernel
theorem dX7_ofMatchNow_38 : decode cX7_ofMatchNow 38 = .ok (.iaload, 1) := by decide +kernel
theorem dX7_ofMatchNow_39 : decode cX7_ofMatchNow 39 = .ok (.iastore, 1) := by decide +kernel
theorem dX7_ofMatchNow_40 : decode cX7_ofMatchNow 40 = .ok (.dup, 1) := by decide +kernel
theorem dX7_ofMatchNow_41 : decode cX7_ofMatchNow 41 = .ok (.iconst 3, 1) := by decide +kernel
theorem dX7_ofMatchNow_42 : decode cX7_ofMatchNow 42 = .ok (.aload_n 0, 1) := by decide +kernel
theorem dX7_ofMatchNow_43 : decode cX7_ofMatchNow 43 = .ok (.getfield 33, 3) := by decide +kernel
theorem dX7_ofMatchNow_46 : decode cX7_ofMatchNow 46 = .ok (.iconst 1, 1) := by decide +kernel
theorem dX7_ofMatchNow_47 : decode cX7_ofMatchNow 47 = .ok (.iaload, 1) := by decide +kernel
theorem dX7_ofMatchNow_48 : decode cX7_ofMatchNow 48 = .ok (.iastore, 1) := by decide +kernel
theorem dX7_ofMatchNow_49 : decode cX7_ofMatchNow 49 = .ok (.dup, 1) := by decide +kernel
theorem dX7_ofMatchNow_50 : decode cX7_ofMatchNow 50 = .ok (.iconst 4, 1) := by decide +kernel
theorem dX7_ofMatchNow_51 : decode cX7_ofMatchNow 51 = .ok (.aload_n 0, 1) := by decide +kernel
theorem dX7_ofMatchNow_52 : decode cX7_ofMatchNow 52 = .ok (.getfield 36, 3) := by decide +kernel
theorem dX7_ofMatchNow_55 : decode cX7_ofMatchNow 55 = .ok (.iconst 0, 1) := by decide +kernel
theorem dX7_ofMatchNow_56 : decode cX7_ofMatchNow 56 = .ok (.iaload, 1) := by decide +kernel
theorem dX7_ofMatchNow_57 : decode cX7_ofMatchNow 57 = .ok (.iastore, 1) := by decide +kernel
theorem dX7_ofMatchNow_58 : decode cX7_ofMatchNow 58 = .ok (.dup, 1) := by decide +kernel
theorem dX7_ofMatchNow_59 : decode cX7_ofMatchNow 59 = .ok (.iconst 5, 1) := by decide +kernel
theorem dX7_ofMatchNow_60 : decode cX7_ofMatchNow 60 = .ok (.aload_n 0, 1) := by decide +kernel
theorem dX7_ofMatchNow_61 : decode cX7_ofMatchNow 61 = .ok (.getfield 36, 3) := by decide +kernel
theorem dX7_ofMatchNow_64 : decode cX7_ofMatchNow 64 = .ok (.iconst 1, 1) := by decide +kernel
theorem dX7_ofMatchNow_65 : decode cX7_ofMatchNow 65 = .ok (.iaload, 1) := by decide +kernel
theorem dX7_ofMatchNow_66 : decode cX7_ofMatchNow 66 = .ok (.iastore, 1) := by decide +kernel
theorem dX7_ofMatchNow_67 : decode cX7_ofMatchNow 67 = .ok (.dup, 1) := by decide +kernel
theorem dX7_ofMatchNow_68 : decode cX7_ofMatchNow 68 = .ok (.bipush 6, 2) := by decide +kernel
theorem dX7_ofMatchNow_70 : decode cX7_ofMatchNow 70 = .ok (.aload_n 0, 1) := by decide +kernel
theorem dX7_ofMatchNow_71 : decode cX7_ofMatchNow 71 = .ok (.getfield 29, 3) := by decide +kernel
theorem dX7_ofMatchNow_74 : decode cX7_ofMatchNow 74 = .ok (.aload_n 0, 1) := by decide +kernel
theorem dX7_ofMatchNow_75 : decode cX7_ofMatchNow 75 = .ok (.getfield 186, 3) := by decide +kernel
theorem dX7_ofMatchNow_78 : decode cX7_ofMatchNow 78 = .ok (.iconst 2, 1) := by decide +kernel
theorem dX7_ofMatchNow_79 : decode cX7_ofMatchNow 79 = .ok (.irem, 1) := by decide +kernel
theorem dX7_ofMatchNow_80 : decode cX7_ofMatchNow 80 = .ok (.iaload, 1) := by decide +kernel
theorem dX7_ofMatchNow_81 : decode cX7_ofMatchNow 81 = .ok (.iastore, 1) := by decide +kernel
theorem dX7_ofMatchNow_82 : decode cX7_ofMatchNow 82 = .ok (.dup, 1) := by decide +kernel
theorem dX7_ofMatchNow_83 : decode cX7_ofMatchNow 83 = .ok (.bipush 7, 2) := by decide +kernel
theorem dX7_ofMatchNow_85 : decode cX7_ofMatchNow 85 = .ok (.aload_n 0, 1) := by decide +kernel
theorem dX7_ofMatchNow_86 : decode cX7_ofMatchNow 86 = .ok (.getfield 237, 3) := by decide +kernel
theorem dX7_ofMatchNow_89 : decode cX7_ofMatchNow 89 = .ok (.ifCond .eq 7, 3) := by decide +kernel
theorem dX7_ofMatchNow_92 : decode cX7_ofMatchNow 92 = .ok (.iconst 1, 1) := by decide +kernel
theorem dX7_ofMatchNow_93 : decode cX7_ofMatchNow 93 = .ok (.goto 4, 3) := by decide +kernel
theorem dX7_ofMatchNow_96 : decode cX7_ofMatchNow 96 = .ok (.iconst 0, 1) := by decide +kernel
theorem dX7_ofMatchNow_97 : decode cX7_ofMatchNow 97 = .ok (.iastore, 1) := by decide +kernel
theorem dX7_ofMatchNow_98 : decode cX7_ofMatchNow 98 = .ok (.astore_n 2, 1) := by decide +kernel
theorem dX7_ofMatchNow_99 : decode cX7_ofMatchNow 99 = .ok (.aload_n 2, 1) := by decide +kernel
theorem dX7_ofMatchNow_100 : decode cX7_ofMatchNow 100 = .ok (.iload_n 1, 1) := by decide +kernel
theorem dX7_ofMatchNow_101 : decode cX7_ofMatchNow 101 = .ok (.iaload, 1) := by decide +kernel
theorem dX7_ofMatchNow_102 : decode cX7_ofMatchNow 102 = .ok (.ireturn, 1) := by decide +kernel
set_option maxRecDepth 20000 in
theorem ggX7_ofMatch_X7_is : GoodIn wsX7_ofMatch wsX7_is := goodIn_r _ [5] (by decide +kernel) (by decide +kernel)
set_option maxRecDepth 20000 in
theorem gX7_ofMatch_X7_is : GoodIn wsX7_ofMatch (va_wsS RX7 46 yX7_is wsX7_is) := goodIn_app (goodIn_of _ (by decide +kernel)) ggX7_ofMatch_X7_is
set_option maxRecDepth 20000 in
theorem ggX7_ofMatch_X7_ofMatchNow : GoodIn wsX7_ofMatch wsX7_ofMatchNow := goodIn_r _ [9, 10, 11, 12, 13, 14, 15, 16, 17, 18, 4, 19, 24, 25, 26, 27, 28, 29, 30, 31, 32, 33, 34, 35, 36, 37, 38, 39, 40, 41, 42, 43, 44, 45] (by decide +kernel) (by decide +kernel)
set_option maxRecDepth 20000 in
theorem gX7_ofMatch_X7_ofMatchNow : GoodIn wsX7_ofMatch (wsV RX7 271 RX7 yX7_ofMatchNow wsX7_ofMatchNow) := goodIn_app (goodIn_of _ (by decide +kernel)) ggX7_ofMatch_X7_ofMatchNow
set_option maxRecDepth 20000 in
theorem ggX7_ofMatch_X7_refuse : GoodIn wsX7_ofMatch wsX7_refuse := goodIn_r _ [23, 1, 24, 25, 26, 27, 28, 29, 30, 31, 32, 33, 34, 35, 36, 37, 38, 39, 40, 41, 42, 43, 44, 45] (by decide +kernel) (by decide +kernel)
set_option maxRecDepth 20000 in
theorem gX7_ofMatch_X7_refuse : GoodIn wsX7_ofMatch (wsV RX7 59 RX7 yX7_refuse wsX7_refuse) := goodIn_app (goodIn_of _ (by decide +kernel)) ggX7_ofMatch_X7_refuse
theorem dX7_ofMatch_0 : decode cX7_ofMatch 0 = .ok (.aload_n 0, 1) := by decide +kernel
theorem dX7_ofMatch_1 : decode cX7_ofMatch 1 = .ok (.iconst 0, 1) := by decide +kernel
theorem dX7_ofMatch_2 : decode cX7_ofMatch 2 = .ok (.putfield 39, 3) := by decide +kernel
theorem dX7_ofMatch_5 : decode cX7_ofMatch 5 = .ok (.iload_n 1, 1) := by decide +kernel
theorem dX7_ofMatch_6 : decode cX7_ofMatch 6 = .ok (.iconst 0, 1) := by decide +kernel
theorem dX7_ofMatch_7 : decode cX7_ofMatch 7 = .ok (.bipush 7, 2) := by decide +kernel
theorem dX7_ofMatch_9 : decode cX7_ofMatch 9 = .ok (.invokestatic 46, 3) := by decide +kernel
theorem dX7_ofMatch_12 : decode cX7_ofMatch 12 = .ok (.ifCond .eq 11, 3) := by decide +kernel
theorem dX7_ofMatch_15 : decode cX7_ofMatch 15 = .ok (.aload_n 0, 1) := by decide +kernel
theorem dX7_ofMatch_16 : decode cX7_ofMatch 16 = .ok (.iload_n 1, 1) := by decide +kernel
theorem dX7_ofMatch_17 : decode cX7_ofMatch 17 = .ok (.invokevirtual 271, 3) := by decide +kernel
theorem dX7_ofMatch_20 : decode cX7_ofMatch 20 = .ok (.goto 8, 3) := by decide +kernel
theorem dX7_ofMatch_23 : decode cX7_ofMatch 23 = .ok (.aload_n 0, 1) := by decide +kernel
theorem dX7_ofMatch_24 : decode cX7_ofMatch 24 = .ok (.iconst 1, 1) := by decide +kernel
theorem dX7_ofMatch_25 : decode cX7_ofMatch 25 = .ok (.invokevirtual 59, 3) := by decide +kernel
theorem dX7_ofMatch_28 : decode cX7_ofMatch 28 = .ok (.ireturn, 1) := by decide +kernel
theorem dX7_winner_0 : decode cX7_winner 0 = .ok (.aload_n 0, 1) := by decide +kernel
theorem dX7_winner_1 : decode cX7_winner 1 = .ok (.iconst 0, 1) := by decide +kernel
theorem dX7_winner_2 : decode cX7_winner 2 = .ok (.putfield 39, 3) := by decide +kernel
theorem dX7_winner_5 : decode cX7_winner 5 = .ok (.aload_n 0, 1) := by decide +kernel
theorem dX7_winner_6 : decode cX7_winner 6 = .ok (.getfield 26, 3) := by decide +kernel
theorem dX7_winner_9 : decode cX7_winner 9 = .ok (.ireturn, 1) := by decide +kernel
set_option maxRecDepth 20000 in
theorem ggX7_isReady_Jx4a65c_get_915e3 : GoodIn wsX7_isReady wsJx4a65c_get_915e3 := goodIn_r _ [7, 8, 9, 10, 11, 12, 13, 14, 15, 16, 17, 18, 19, 6, 20, 21, 56, 57, 58] (by decide +kernel) (by decide +kernel)
set_option maxRecDepth 20000 in
theorem gX7_isReady_Jx4a65c_get_915e3 : GoodIn wsX7_isReady (wsV RX7 50 RJx4a65c yJx4a65c_get_915e3 wsJx4a65c_get_915e3) := goodIn_app (goodIn_of _ (by decide +kernel)) ggX7_isReady_Jx4a65c_get_915e3
theorem dX7_isReady_0 : decode cX7_isReady 0 = .ok (.aload_n 0, 1) := by decide +kernel
theorem dX7_isReady_1 : decode cX7_isReady 1 = .ok (.getfield 10, 3) := by decide +kernel
theorem dX7_isReady_4 : decode cX7_isReady 4 = .ok (.iload_n 1, 1) := by decide +kernel
theorem dX7_isReady_5 : decode cX7_isReady 5 = .ok (.invokevirtual 50, 3) := by decide +kernel
theorem dX7_isReady_8 : decode cX7_isReady 8 = .ok (.checkcast 54, 3) := by decide +kernel
theorem dX7_isReady_11 : decode cX7_isReady 11 = .ok (.getfield 56, 3) := by decide +kernel
theorem dX7_isReady_14 : decode cX7_isReady 14 = .ok (.iconst (-1), 1) := by decide +kernel
theorem dX7_isReady_15 : decode cX7_isReady 15 = .ok (.if_icmp .eq 7, 3) := by decide +kernel
theorem dX7_isReady_18 : decode cX7_isReady 18 = .ok (.iconst 1, 1) := by decide +kernel
theorem dX7_isReady_19 : decode cX7_isReady 19 = .ok (.goto 4, 3) := by decide +kernel
theorem dX7_isReady_22 : decode cX7_isReady 22 = .ok (.iconst 0, 1) := by decide +kernel
theorem dX7_isReady_23 : decode cX7_isReady 23 = .ok (.ireturn, 1) := by decide +kernel
set_option maxRecDepth 20000 in
theorem ggX7_fly__Jx4a65c_get_915e3 : GoodIn wsX7_fly_ wsJx4a65c_get_915e3 := goodIn_r _ [9, 10, 11, 12, 13, 14, 15, 16, 17, 18, 19, 20, 21, 8, 22, 23, 77, 78, 79] (by decide +kernel) (by decide +kernel)
set_option maxRecDepth 20000 in
theorem gX7_fly__Jx4a65c_get_915e3 : GoodIn wsX7_fly_ (wsV RX7 50 RJx4a65c yJx4a65c_get_915e3 wsJx4a65c_get_915e3) := goodIn_app (goodIn_of _ (by decide +kernel)) ggX7_fly__Jx4a65c_get_915e3
set_option maxRecDepth 20000 in
theorem ggX7_fly__X7_fly : GoodIn wsX7_fly_ wsX7_fly := goodIn_r _ [28, 29, 30, 31, 32, 33, 34, 35, 36, 37, 38, 39, 27, 40, 41, 42, 65, 66, 67, 68, 69, 70, 71, 72, 73, 74, 75, 76, 80, 81, 82, 83, 84, 43, 44, 45, 46, 47, 48, 49, 50, 51, 52, 53, 54, 55, 56, 57, 58, 59, 60, 61, 62, 63, 64] (by decide +kernel) (by decide +kernel)
set_option maxRecDepth 20000 in
theorem gX7_fly__X7_fly : GoodIn wsX7_fly_ (wsV RX7 193 RX7 yX7_fly wsX7_fly) := goodIn_app (goodIn_of _ (by decide +kernel)) ggX7_fly__X7_fly
theorem dX7_fly__0 : decode cX7_fly_ 0 = .ok (.aload_n 0, 1) := by decide +kernel
theorem dX7_fly__1 : decode cX7_fly_ 1 = .ok (.getfield 10, 3) := by decide +kernel
theorem dX7_fly__4 : decode cX7_fly_ 4 = .ok (.iload_n 1, 1) := by decide +kernel
theorem dX7_fly__5 : decode cX7_fly_ 5 = .ok (.invokevirtual 50, 3) := by decide +kernel
theorem dX7_fly__8 : decode cX7_fly_ 8 = .ok (.checkcast 54, 3) := by decide +kernel
theorem dX7_fly__11 : decode cX7_fly_ 11 = .ok (.astore 4, 2) := by decide +kernel
theorem dX7_fly__13 : decode cX7_fly_ 13 = .ok (.aload_n 0, 1) := by decide +kernel
theorem dX7_fly__14 : decode cX7_fly_ 14 = .ok (.aload 4, 2) := by decide +kernel
theorem dX7_fly__16 : decode cX7_fly_ 16 = .ok (.aload_n 0, 1) := by decide +kernel
theorem dX7_fly__17 : decode cX7_fly_ 17 = .ok (.getfield 16, 3) := by decide +kernel
theorem dX7_fly__20 : decode cX7_fly_ 20 = .ok (.aload 4, 2) := by decide +kernel
theorem dX7_fly__22 : decode cX7_fly_ 22 = .ok (.getfield 56, 3) := by decide +kernel
theorem dX7_fly__25 : decode cX7_fly_ 25 = .ok (.invokevirtual 50, 3) := by decide +kernel
theorem dX7_fly__28 : decode cX7_fly_ 28 = .ok (.checkcast 74, 3) := by decide +kernel
theorem dX7_fly__31 : decode cX7_fly_ 31 = .ok (.iload_n 2, 1) := by decide +kernel
theorem dX7_fly__32 : decode cX7_fly_ 32 = .ok (.iload_n 3, 1) := by decide +kernel
theorem dX7_fly__33 : decode cX7_fly_ 33 = .ok (.invokevirtual 193, 3) := by decide +kernel
theorem dX7_fly__36 : decode cX7_fly_ 36 = .ok (.return_, 1) := by decide +kernel
set_option maxRecDepth 20000 in
theorem ggX7_wouldHit_X7_isArcher : GoodIn wsX7_wouldHit wsX7_isArcher := goodIn_r _ [9, 10, 11, 12, 13, 14, 15, 16, 17, 18, 8, 19, 64, 65, 66, 67, 68, 69, 70, 71, 72, 73, 74, 75, 76, 77, 78, 79, 80, 81, 82, 83, 84, 85, 86, 87, 88] (by decide +kernel) (by decide +kernel)
set_option maxRecDepth 20000 in
theorem gX7_wouldHit_X7_isArcher : GoodIn wsX7_wouldHit (wsV RX7 83 RX7 yX7_isArcher wsX7_isArcher) := goodIn_app (goodIn_of _ (by decide +kernel)) ggX7_wouldHit_X7_isArcher
set_option maxRecDepth 20000 in
theorem ggX7_wouldHit_X7_is : GoodIn wsX7_wouldHit wsX7_is := goodIn_r _ [19] (by decide +kernel) (by decide +kernel)
set_option maxRecDepth 20000 in
theorem gX7_wouldHit_X7_is : GoodIn wsX7_wouldHit (va_wsS RX7 46 yX7_is wsX7_is) := goodIn_app (goodIn_of _ (by decide +kernel)) ggX7_wouldHit_X7_is
set_option maxRecDepth 20000 in
theorem ggX7_wouldHit_X7_isReady : GoodIn wsX7_wouldHit wsX7_isReady := goodIn_r _ [23, 10, 24, 25, 26, 27, 14, 28, 16, 29, 30, 31, 32, 33, 34, 35, 36, 37, 38, 39, 40, 41, 64, 65, 66, 67, 68, 69, 70, 71, 72, 73, 74, 75, 76, 77, 78, 79, 80, 81, 82, 83, 84, 85, 89, 90, 91, 92, 93, 94, 95, 96, 97, 98, 99, 100, 86, 87, 88] (by decide +kernel) (by decide +kernel)
set_option maxRecDepth 20000 in
theorem gX7_wouldHit_X7_isReady : GoodIn wsX7_wouldHit (wsV RX7 274 RX7 yX7_isReady wsX7_isReady) := goodIn_app (goodIn_of _ (by decide +kernel)) ggX7_wouldHit_X7_isReady
set_option maxRecDepth 20000 in
theorem ggX7_wouldHit_X7_fly_ : GoodIn wsX7_wouldHit wsX7_fly_ := goodIn_r _ [45, 10, 24, 46, 47, 25, 26, 27, 14, 28, 16, 29, 30, 31, 32, 33, 34, 35, 36, 37, 38, 39, 40, 41, 48, 49, 50, 8, 51, 52, 53, 54, 4, 3, 55, 56, 57, 58, 59, 60, 61, 62, 63, 64, 65, 66, 67, 68, 69, 70, 71, 72, 73, 74, 75, 76, 77, 78, 79, 80, 81, 82, 83, 84, 85, 89, 90, 91, 92, 93, 94, 95, 96, 97, 98, 99, 100, 86, 87, 88, 101, 102, 103, 104, 105] (by decide +kernel) (by decide +kernel)
set_option maxRecDepth 20000 in
theorem gX7_wouldHit_X7_fly_ : GoodIn wsX7_wouldHit (wsV RX7 277 RX7 yX7_fly_ wsX7_fly_) := goodIn_app (goodIn_of _ (by decide +kernel)) ggX7_wouldHit_X7_fly_
theorem dX7_wouldHit_0 : decode cX7_wouldHit 0 = .ok (.aload_n 0, 1) := by decide +kernel
theorem dX7_wouldHit_1 : decode cX7_wouldHit 1 = .ok (.aload_n 0, 1) := by decide +kernel
theorem dX7_wouldHit_2 : decode cX7_wouldHit 2 = .ok (.iload_n 1, 1) := by decide +kernel
theorem dX7_wouldHit_3 : decode cX7_wouldHit 3 = .ok (.invokevirtual 83, 3) := by decide +kernel
theorem dX7_wouldHit_6 : decode cX7_wouldHit 6 = .ok (.ifCond .ne 7, 3) := by decide +kernel
theorem dX7_wouldHit_9 : decode cX7_wouldHit 9 = .ok (.iconst 1, 1) := by decide +kernel
theorem dX7_wouldHit_10 : decode cX7_wouldHit 10 = .ok (.goto 30, 3) := by decide +kernel
theorem dX7_wouldHit_13 : decode cX7_wouldHit 13 = .ok (.iload_n 2, 1) := by decide +kernel
theorem dX7_wouldHit_14 : decode cX7_wouldHit 14 = .ok (.iconst 0, 1) := by decide +kernel
theorem dX7_wouldHit_15 : decode cX7_wouldHit 15 = .ok (.bipush 127, 2) := by decide +kernel
theorem dX7_wouldHit_17 : decode cX7_wouldHit 17 = .ok (.invokestatic 46, 3) := by decide +kernel
theorem dX7_wouldHit_20 : decode cX7_wouldHit 20 = .ok (.ifCond .ne 7, 3) := by decide +kernel
theorem dX7_wouldHit_23 : decode cX7_wouldHit 23 = .ok (.iconst 2, 1) := by decide +kernel
theorem dX7_wouldHit_24 : decode cX7_wouldHit 24 = .ok (.goto 16, 3) := by decide +kernel
theorem dX7_wouldHit_27 : decode cX7_wouldHit 27 = .ok (.aload_n 0, 1) := by decide +kernel
theorem dX7_wouldHit_28 : decode cX7_wouldHit 28 = .ok (.iload_n 1, 1) := by decide +kernel
theorem dX7_wouldHit_29 : decode cX7_wouldHit 29 = .ok (.invokevirtual 274, 3) := by decide +kernel
theorem dX7_wouldHit_32 : decode cX7_wouldHit 32 = .ok (.ifCond .eq 7, 3) := by decide +kernel
theorem dX7_wouldHit_35 : decode cX7_wouldHit 35 = .ok (.iconst 0, 1) := by decide +kernel
theorem dX7_wouldHit_36 : decode cX7_wouldHit 36 = .ok (.goto 4, 3) := by decide +kernel
theorem dX7_wouldHit_39 : decode cX7_wouldHit 39 = .ok (.iconst 3, 1) := by decide +kernel
theorem dX7_wouldHit_40 : decode cX7_wouldHit 40 = .ok (.putfield 39, 3) := by decide +kernel
theorem dX7_wouldHit_43 : decode cX7_wouldHit 43 = .ok (.aload_n 0, 1) := by decide +kernel
theorem dX7_wouldHit_44 : decode cX7_wouldHit 44 = .ok (.getfield 39, 3) := by decide +kernel
theorem dX7_wouldHit_47 : decode cX7_wouldHit 47 = .ok (.ifCond .le 5, 3) := by decide +kernel
theorem dX7_wouldHit_50 : decode cX7_wouldHit 50 = .ok (.dconst 0, 1) := by decide +kernel
theorem dX7_wouldHit_51 : decode cX7_wouldHit 51 = .ok (.dreturn, 1) := by decide +kernel
theorem dX7_wouldHit_52 : decode cX7_wouldHit 52 = .ok (.aload_n 0, 1) := by decide +kernel
theorem dX7_wouldHit_53 : decode cX7_wouldHit 53 = .ok (.iload_n 1, 1) := by decide +kernel
theorem dX7_wouldHit_54 : decode cX7_wouldHit 54 = .ok (.iload_n 2, 1) := by decide +kernel
theorem dX7_wouldHit_55 : decode cX7_wouldHit 55 = .ok (.aload_n 0, 1) := by decide +kernel
theorem dX7_wouldHit_56 : decode cX7_wouldHit 56 = .ok (.getfield 19, 3) := by decide +kernel
theorem dX7_wouldHit_59 : decode cX7_wouldHit 59 = .ok (.invokevirtual 277, 3) := by decide +kernel
theorem dX7_wouldHit_62 : decode cX7_wouldHit 62 = .ok (.iload_n 3, 1) := by decide +kernel
theorem dX7_wouldHit_63 : decode cX7_wouldHit 63 = .ok (.ifCond .eq 10, 3) := by decide +kernel
theorem dX7_wouldHit_66 : decode cX7_wouldHit 66 = .ok (.aload_n 0, 1) := by decide +kernel
theorem dX7_wouldHit_67 : decode cX7_wouldHit 67 = .ok (.getfield 152, 3) := by decide +kernel
theorem dX7_wouldHit_70 : decode cX7_wouldHit 70 = .ok (.goto 7, 3) := by decide +kernel
theorem dX7_wouldHit_73 : decode cX7_wouldHit 73 = .ok (.aload_n 0, 1) := by decide +kernel
theorem dX7_wouldHit_74 : decode cX7_wouldHit 74 = .ok (.getfield 148, 3) := by decide +kernel
theorem dX7_wouldHit_77 : decode cX7_wouldHit 77 = .ok (.dreturn, 1) := by decide +kernel
set_option maxRecDepth 20000 in
theorem ggX7_mark_X7_isArcher : GoodIn wsX7_mark wsX7_isArcher := goodIn_r _ [8, 9, 10, 11, 12, 13, 14, 15, 16, 17, 7, 18, 80, 81, 82, 83, 84, 85, 86, 87, 88, 89, 90, 91, 92, 93, 94, 95, 96, 97, 98, 99, 100, 101, 102, 103, 104] (by decide +kernel) (by decide +kernel)
set_option maxRecDepth 20000 in
theorem gX7_mark_X7_isArcher : GoodIn wsX7_mark (wsV RX7 83 RX7 yX7_isArcher wsX7_isArcher) := goodIn_app (goodIn_of _ (by decide +kernel)) ggX7_mark_X7_isArcher
set_option maxRecDepth 20000 in
theorem ggX7_mark_X7_refuse : GoodIn wsX7_mark wsX7_refuse := goodIn_r _ [22, 1, 80, 81, 82, 83, 84, 85, 86, 87, 88, 89, 90, 91, 92, 93, 94, 95, 96, 97, 98, 99, 100, 101] (by decide +kernel) (by decide +kernel)
set_option maxRecDepth 20000 in
theorem gX7_mark_X7_refuse : GoodIn wsX7_mark (wsV RX7 59 RX7 yX7_refuse wsX7_refuse) := goodIn_app (goodIn_of _ (by decide +kernel)) ggX7_mark_X7_refuse
set_option maxRecDepth 20000 in
theorem ggX7_mark_X7_isReady : GoodIn wsX7_mark wsX7_isReady := goodIn_r _ [26, 9, 27, 28, 29, 30, 13, 31, 15, 32, 33, 34, 35, 36, 37, 38, 39, 40, 41, 42, 43, 44, 80, 81, 82, 83, 84, 85, 86, 87, 88, 89, 90, 91, 92, 93, 94, 95, 96, 97, 98, 99, 100, 101, 105, 106, 107, 108, 109, 110, 111, 112, 113, 114, 115, 116, 102, 103, 104] (by decide +kernel) (by decide +kernel)
set_option maxRecDepth 20000 in
theorem gX7_mark_X7_isReady : GoodIn wsX7_mark (wsV RX7 274 RX7 yX7_isReady wsX7_isReady) := goodIn_app (goodIn_of _ (by decide +kernel)) ggX7_mark_X7_isReady
set_option maxRecDepth 20000 in
theorem ggX7_mark_X7_fly_ : GoodIn wsX7_mark wsX7_fly_ := goodIn_r _ [48, 9, 27, 49, 50, 28, 29, 30, 13, 31, 15, 32, 33, 34, 35, 36, 37, 38, 39, 40, 41, 42, 43, 44, 51, 52, 53, 7, 54, 55, 56, 57, 58, 3, 59, 60, 61, 62, 63, 64, 65, 66, 67, 80, 81, 82, 83, 84, 85, 86, 87, 88, 89, 90, 91, 92, 93, 94, 95, 96, 97, 98, 99, 100, 101, 105, 106, 107, 108, 109, 110, 111, 112, 113, 114, 115, 116, 102, 103, 104, 117, 118, 119, 120, 121] (by decide +kernel) (by decide +kernel)
set_option maxRecDepth 20000 in
theorem gX7_mark_X7_fly_ : GoodIn wsX7_mark (wsV RX7 277 RX7 yX7_fly_ wsX7_fly_) := goodIn_app (goodIn_of _ (by decide +kernel)) ggX7_mark_X7_fly_
set_option maxRecDepth 20000 in
theorem ggX7_mark_J9_abs_294c1 : GoodIn wsX7_mark wsJ9_abs_294c1 := goodIn_r _ [71, 72, 73, 74, 75, 76, 77, 78, 79] (by decide +kernel) (by decide +kernel)
set_option maxRecDepth 20000 in
theorem gX7_mark_J9_abs_294c1 : GoodIn wsX7_mark (va_wsS RX7 169 yJ9_abs_294c1 wsJ9_abs_294c1) := goodIn_app (goodIn_of _ (by decide +kernel)) ggX7_mark_J9_abs_294c1
theorem dX7_mark_0 : decode cX7_mark 0 = .ok (.aload_n 0, 1) := by decide +kernel
theorem dX7_mark_1 : decode cX7_mark 1 = .ok (.iconst 0, 1) := by decide +kernel
theorem dX7_mark_2 : decode cX7_mark 2 = .ok (.putfield 39, 3) := by decide +kernel
theorem dX7_mark_5 : decode cX7_mark 5 = .ok (.aload_n 0, 1) := by decide +kernel
theorem dX7_mark_6 : decode cX7_mark 6 = .ok (.iload_n 1, 1) := by decide +kernel
theorem dX7_mark_7 : decode cX7_mark 7 = .ok (.invokevirtual 83, 3) := by decide +kernel
theorem dX7_mark_10 : decode cX7_mark 10 = .ok (.ifCond .ne 9, 3) := by decide +kernel
theorem dX7_mark_13 : decode cX7_mark 13 = .ok (.aload_n 0, 1) := by decide +kernel
theorem dX7_mark_14 : decode cX7_mark 14 = .ok (.iconst 1, 1) := by decide +kernel
theorem dX7_mark_15 : decode cX7_mark 15 = .ok (.invokevirtual 59, 3) := by decide +kernel
theorem dX7_mark_18 : decode cX7_mark 18 = .ok (.ireturn, 1) := by decide +kernel
theorem dX7_mark_19 : decode cX7_mark 19 = .ok (.aload_n 0, 1) := by decide +kernel
theorem dX7_mark_20 : decode cX7_mark 20 = .ok (.iload_n 1, 1) := by decide +kernel
theorem dX7_mark_21 : decode cX7_mark 21 = .ok (.invokevirtual 274, 3) := by decide +kernel
theorem dX7_mark_24 : decode cX7_mark 24 = .ok (.ifCond .ne 9, 3) := by decide +kernel
theorem dX7_mark_27 : decode cX7_mark 27 = .ok (.aload_n 0, 1) := by decide +kernel
theorem dX7_mark_28 : decode cX7_mark 28 = .ok (.iconst 2, 1) := by decide +kernel
theorem dX7_mark_29 : decode cX7_mark 29 = .ok (.invokevirtual 59, 3) := by decide +kernel
theorem dX7_mark_32 : decode cX7_mark 32 = .ok (.ireturn, 1) := by decide +kernel
theorem dX7_mark_33 : decode cX7_mark 33 = .ok (.iconst 0, 1) := by decide +kernel
theorem dX7_mark_34 : decode cX7_mark 34 = .ok (.istore_n 2, 1) := by decide +kernel
theorem dX7_mark_35 : decode cX7_mark 35 = .ok (.dconst 0, 1) := by decide +kernel
theorem dX7_mark_36 : decode cX7_mark 36 = .ok (.dstore_n 3, 1) := by decide +kernel
theorem dX7_mark_37 : decode cX7_mark 37 = .ok (.iconst 0, 1) := by decide +kernel
theorem dX7_mark_38 : decode cX7_mark 38 = .ok (.istore 5, 2) := by decide +kernel
theorem dX7_mark_40 : decode cX7_mark 40 = .ok (.iload 5, 2) := by decide +kernel
theorem dX7_mark_42 : decode cX7_mark 42 = .ok (.sipush 128, 3) := by decide +kernel
theorem dX7_mark_45 : decode cX7_mark 45 = .ok (.if_icmp .ge 51, 3) := by decide +kernel
theorem dX7_mark_48 : decode cX7_mark 48 = .ok (.aload_n 0, 1) := by decide +kernel
theorem dX7_mark_49 : decode cX7_mark 49 = .ok (.iload_n 1, 1) := by decide +kernel
theorem dX7_mark_50 : decode cX7_mark 50 = .ok (.iload 5, 2) := by decide +kernel
theorem dX7_mark_52 : decode cX7_mark 52 = .ok (.aload_n 0, 1) := by decide +kernel
theorem dX7_mark_53 : decode cX7_mark 53 = .ok (.getfield 19, 3) := by decide +kernel
theorem dX7_mark_56 : decode cX7_mark 56 = .ok (.invokevirtual 277, 3) := by decide +kernel
theorem dX7_mark_59 : decode cX7_mark 59 = .ok (.iload 5, 2) := by decide +kernel
theorem dX7_mark_61 : decode cX7_mark 61 = .ok (.ifCond .le 18, 3) := by decide +kernel
theorem dX7_mark_64 : decode cX7_mark 64 = .ok (.aload_n 0, 1) := by decide +kernel
theorem dX7_mark_65 : decode cX7_mark 65 = .ok (.getfield 152, 3) := by decide +kernel
theorem dX7_mark_68 : decode cX7_mark 68 = .ok (.invokestatic 169, 3) := by decide +kernel
theorem dX7_mark_71 : decode cX7_mark 71 = .ok (.dload_n 3, 1) := by decide +kernel
theorem dX7_mark_72 : decode cX7_mark 72 = .ok (.dcmp .l, 1) := by decide +kernel
theorem dX7_mark_73 : decode cX7_mark 73 = .ok (.ifCond .lt 6, 3) := by decide +kernel
theorem dX7_mark_76 : decode cX7_mark 76 = .ok (.goto 14, 3) := by decide +kernel
theorem dX7_mark_79 : decode cX7_mark 79 = .ok (.iload 5, 2) := by decide +kernel
theorem dX7_mark_81 : decode cX7_mark 81 = .ok (.istore_n 2, 1) := by decide +kernel
theorem dX7_mark_82 : decode cX7_mark 82 = .ok (.aload_n 0, 1) := by decide +kernel
theorem dX7_mark_83 : decode cX7_mark 83 = .ok (.getfield 152, 3) := by decide +kernel
theorem dX7_mark_86 : decode cX7_mark 86 = .ok (.invokestatic 169, 3) := by decide +kernel
theorem dX7_mark_89 : decode cX7_mark 89 = .ok (.dstore_n 3, 1) := by decide +kernel
theorem dX7_mark_90 : decode cX7_mark 90 = .ok (.iinc 5 1, 3) := by decide +kernel
theorem dX7_mark_93 : decode cX7_mark 93 = .ok (.goto (-53), 3) := by decide +kernel
theorem dX7_mark_96 : decode cX7_mark 96 = .ok (.iload_n 2, 1) := by decide +kernel
theorem dX7_mark_97 : decode cX7_mark 97 = .ok (.ireturn, 1) := by decide +kernel
set_option maxRecDepth 20000 in
theorem ggX7_bestNow_Jx4a65c_size_8abf5 : GoodIn wsX7_bestNow wsJx4a65c_size_8abf5 := goodIn_r _ [11, 12, 98, 99, 100] (by decide +kernel) (by decide +kernel)
set_option maxRecDepth 20000 in
theorem gX7_bestNow_Jx4a65c_size_8abf5 : GoodIn wsX7_bestNow (wsV RX7 42 RJx4a65c yJx4a65c_size_8abf5 wsJx4a65c_size_8abf5) := goodIn_app (goodIn_of _ (by decide +kernel)) ggX7_bestNow_Jx4a65c_size_8abf5
set_option maxRecDepth 20000 in
theorem ggX7_bestNow_X7_holder : GoodIn wsX7_bestNow wsX7_holder := goodIn_r _ [17, 2, 3, 7, 8, 9, 10, 11, 12, 18, 19, 20, 21, 22, 23, 24, 25, 26, 27, 28, 29, 30, 31, 32, 33, 34, 64, 65, 66, 67, 68, 69, 70, 71, 72, 73, 74, 75, 76, 77, 78, 79, 80, 81, 82, 83, 84, 85, 86, 87, 88, 89, 90, 91, 92, 93, 94, 95, 96, 97, 98, 99, 100] (by decide +kernel) (by decide +kernel)
set_option maxRecDepth 20000 in
theorem gX7_bestNow_X7_holder : GoodIn wsX7_bestNow (wsV RX7 94 RX7 yX7_holder wsX7_holder) := goodIn_app (goodIn_of _ (by decide +kernel)) ggX7_bestNow_X7_holder
set_option maxRecDepth 20000 in
theorem ggX7_bestNow_Jx4a65c_get_915e3 : GoodIn wsX7_bestNow wsJx4a65c_get_915e3 := goodIn_r _ [21, 12, 22, 23, 24, 25, 26, 27, 28, 29, 30, 31, 32, 10, 33, 34, 98, 99, 100] (by decide +kernel) (by decide +kernel)
set_option maxRecDepth 20000 in
theorem gX7_bestNow_Jx4a65c_get_915e3 : GoodIn wsX7_bestNow (wsV RX7 50 RJx4a65c yJx4a65c_get_915e3 wsJx4a65c_get_915e3) := goodIn_app (goodIn_of _ (by decide +kernel)) ggX7_bestNow_Jx4a65c_get_915e3
set_option maxRecDepth 20000 in
theorem ggX7_bestNow_X7_fly : GoodIn wsX7_bestNow wsX7_fly := goodIn_r _ [38, 39, 40, 41, 6, 42, 43, 44, 45, 46, 47, 48, 16, 49, 50, 51, 86, 87, 88, 89, 90, 91, 92, 93, 94, 95, 96, 97, 101, 102, 103, 104, 105, 64, 65, 66, 67, 68, 69, 70, 71, 72, 73, 74, 75, 76, 77, 78, 79, 80, 81, 82, 83, 84, 85] (by decide +kernel) (by decide +kernel)
set_option maxRecDepth 20000 in
theorem gX7_bestNow_X7_fly : GoodIn wsX7_bestNow (wsV RX7 193 RX7 yX7_fly wsX7_fly) := goodIn_app (goodIn_of _ (by decide +kernel)) ggX7_bestNow_X7_fly
set_option maxRecDepth 20000 in
theorem ggX7_bestNow_J9_abs_294c1 : GoodIn wsX7_bestNow wsJ9_abs_294c1 := goodIn_r _ [55, 56, 57, 58, 59, 60, 61, 62, 63] (by decide +kernel) (by decide +kernel)
set_option maxRecDepth 20000 in
theorem gX7_bestNow_J9_abs_294c1 : GoodIn wsX7_bestNow (va_wsS RX7 169 yJ9_abs_294c1 wsJ9_abs_294c1) := goodIn_app (goodIn_of _ (by decide +kernel)) ggX7_bestNow_J9_abs_294c1
theorem dX7_bestNow_0 : decode cX7_bestNow 0 = .ok (.iconst (-1), 1) := by decide +kernel
theorem dX7_bestNow_1 : decode cX7_bestNow 1 = .ok (.istore_n 2, 1) := by decide +kernel
theorem dX7_bestNow_2 : decode cX7_bestNow 2 = .ok (.dconst 0, 1) := by decide +kernel
theorem dX7_bestNow_3 : decode cX7_bestNow 3 = .ok (.dstore_n 3, 1) := by decide +kernel
theorem dX7_bestNow_4 : decode cX7_bestNow 4 = .ok (.iconst 0, 1) := by decide +kernel
theorem dX7_bestNow_5 : decode cX7_bestNow 5 = .ok (.istore 5, 2) := by decide +kernel
theorem dX7_bestNow_7 : decode cX7_bestNow 7 = .ok (.iload 5, 2) := by decide +kernel
theorem dX7_bestNow_9 : decode cX7_bestNow 9 = .ok (.aload_n 0, 1) := by decide +kernel
theorem dX7_bestNow_10 : decode cX7_bestNow 10 = .ok (.getfield 16, 3) := by decide +kernel
theorem dX7_bestNow_13 : decode cX7_bestNow 13 = .ok (.invokevirtual 42, 3) := by decide +kernel
theorem dX7_bestNow_16 : decode cX7_bestNow 16 = .ok (.if_icmp .ge 108, 3) := by decide +kernel
theorem dX7_bestNow_19 : decode cX7_bestNow 19 = .ok (.aload_n 0, 1) := by decide +kernel
theorem dX7_bestNow_20 : decode cX7_bestNow 20 = .ok (.iload 5, 2) := by decide +kernel
theorem dX7_bestNow_22 : decode cX7_bestNow 22 = .ok (.invokevirtual 94, 3) := by decide +kernel
theorem dX7_bestNow_25 : decode cX7_bestNow 25 = .ok (.istore 6, 2) := by decide +kernel
theorem dX7_bestNow_27 : decode cX7_bestNow 27 = .ok (.iload 6, 2) := by decide +kernel
theorem dX7_bestNow_29 : decode cX7_bestNow 29 = .ok (.iconst (-1), 1) := by decide +kernel
theorem dX7_bestNow_30 : decode cX7_bestNow 30 = .ok (.if_icmp .eq 12, 3) := by decide +kernel
theorem dX7_bestNow_33 : decode cX7_bestNow 33 = .ok (.iload 6, 2) := by decide +kernel
theorem dX7_bestNow_35 : decode cX7_bestNow 35 = .ok (.iload_n 1, 1) := by decide +kernel
theorem dX7_bestNow_36 : decode cX7_bestNow 36 = .ok (.if_icmp .eq 6, 3) := by decide +kernel
theorem dX7_bestNow_39 : decode cX7_bestNow 39 = .ok (.goto 79, 3) := by decide +kernel
theorem dX7_bestNow_42 : decode cX7_bestNow 42 = .ok (.aload_n 0, 1) := by decide +kernel
theorem dX7_bestNow_43 : decode cX7_bestNow 43 = .ok (.aload_n 0, 1) := by decide +kernel
theorem dX7_bestNow_44 : decode cX7_bestNow 44 = .ok (.getfield 10, 3) := by decide +kernel
theorem dX7_bestNow_47 : decode cX7_bestNow 47 = .ok (.iload_n 1, 1) := by decide +kernel
theorem dX7_bestNow_48 : decode cX7_bestNow 48 = .ok (.invokevirtual 50, 3) := by decide +kernel
theorem dX7_bestNow_51 : decode cX7_bestNow 51 = .ok (.checkcast 54, 3) := by decide +kernel
theorem dX7_bestNow_54 : decode cX7_bestNow 54 = .ok (.aload_n 0, 1) := by decide +kernel
theorem dX7_bestNow_55 : decode cX7_bestNow 55 = .ok (.getfield 16, 3) := by decide +kernel
theorem dX7_bestNow_58 : decode cX7_bestNow 58 = .ok (.iload 5, 2) := by decide +kernel
theorem dX7_bestNow_60 : decode cX7_bestNow 60 = .ok (.invokevirtual 50, 3) := by decide +kernel
theorem dX7_bestNow_63 : decode cX7_bestNow 63 = .ok (.checkcast 74, 3) := by decide +kernel
theorem dX7_bestNow_66 : decode cX7_bestNow 66 = .ok (.aload_n 0, 1) := by decide +kernel
theorem dX7_bestNow_67 : decode cX7_bestNow 67 = .ok (.getfield 10, 3) := by decide +kernel
theorem dX7_bestNow_70 : decode cX7_bestNow 70 = .ok (.iload_n 1, 1) := by decide +kernel
theorem dX7_bestNow_71 : decode cX7_bestNow 71 = .ok (.invokevirtual 50, 3) := by decide +kernel
theorem dX7_bestNow_74 : decode cX7_bestNow 74 = .ok (.checkcast 54, 3) := by decide +kernel
theorem dX7_bestNow_77 : decode cX7_bestNow 77 = .ok (.getfield 97, 3) := by decide +kernel
theorem dX7_bestNow_80 : decode cX7_bestNow 80 = .ok (.aload_n 0, 1) := by decide +kernel
theorem dX7_bestNow_81 : decode cX7_bestNow 81 = .ok (.getfield 19, 3) := by decide +kernel
theorem dX7_bestNow_84 : decode cX7_bestNow 84 = .ok (.invokevirtual 193, 3) := by decide +kernel
theorem dX7_bestNow_87 : decode cX7_bestNow 87 = .ok (.iload_n 2, 1) := by decide +kernel
theorem dX7_bestNow_88 : decode cX7_bestNow 88 = .ok (.iconst (-1), 1) := by decide +kernel
theorem dX7_bestNow_89 : decode cX7_bestNow 89 = .ok (.if_icmp .eq 18, 3) := by decide +kernel
theorem dX7_bestNow_92 : decode cX7_bestNow 92 = .ok (.aload_n 0, 1) := by decide +kernel
theorem dX7_bestNow_93 : decode cX7_bestNow 93 = .ok (.getfield 148, 3) := by decide +kernel
theorem dX7_bestNow_96 : decode cX7_bestNow 96 = .ok (.invokestatic 169, 3) := by decide +kernel
theorem dX7_bestNow_99 : decode cX7_bestNow 99 = .ok (.dload_n 3, 1) := by decide +kernel
theorem dX7_bestNow_100 : decode cX7_bestNow 100 = .ok (.dcmp .l, 1) := by decide +kernel
theorem dX7_bestNow_101 : decode cX7_bestNow 101 = .ok (.ifCond .lt 6, 3) := by decide +kernel
theorem dX7_bestNow_104 : decode cX7_bestNow 104 = .ok (.goto 14, 3) := by decide +kernel
theorem dX7_bestNow_107 : decode cX7_bestNow 107 = .ok (.iload 5, 2) := by decide +kernel
theorem dX7_bestNow_109 : decode cX7_bestNow 109 = .ok (.istore_n 2, 1) := by decide +kernel
theorem dX7_bestNow_110 : decode cX7_bestNow 110 = .ok (.aload_n 0, 1) := by decide +kernel
theorem dX7_bestNow_111 : decode cX7_bestNow 111 = .ok (.getfield 148, 3) := by decide +kernel
theorem dX7_bestNow_114 : decode cX7_bestNow 114 = .ok (.invokestatic 169, 3) := by decide +kernel
theorem dX7_bestNow_117 : decode cX7_bestNow 117 = .ok (.dstore_n 3, 1) := by decide +kernel
theorem dX7_bestNow_118 : decode cX7_bestNow 118 = .ok (.iinc 5 1, 3) := by decide +kernel
theorem dX7_bestNow_121 : decode cX7_bestNow 121 = .ok (.goto (-114), 3) := by decide +kernel
theorem dX7_bestNow_124 : decode cX7_bestNow 124 = .ok (.iload_n 2, 1) := by decide +kernel
theorem dX7_bestNow_125 : decode cX7_bestNow 125 = .ok (.ireturn, 1) := by decide +kernel
set_option maxRecDepth 20000 in
theorem ggX7_best_X7_isArcher : GoodIn wsX7_best wsX7_isArcher := goodIn_r _ [6, 7, 8, 9, 10, 11, 12, 13, 14, 15, 5, 16, 80, 81, 82, 83, 84, 85, 86, 87, 88, 89, 90, 91, 92, 93, 94, 95, 96, 97, 98, 99, 100, 101, 102, 103, 104] (by decide +kernel) (by decide +kernel)
set_option maxRecDepth 20000 in
theorem gX7_best_X7_isArcher : GoodIn wsX7_best (wsV RX7 83 RX7 yX7_isArcher wsX7_isArcher) := goodIn_app (goodIn_of _ (by decide +kernel)) ggX7_best_X7_isArcher
set_option maxRecDepth 20000 in
theorem ggX7_best_X7_bestNow : GoodIn wsX7_best wsX7_bestNow := goodIn_r _ [20, 21, 7, 22, 23, 24, 25, 8, 9, 10, 11, 12, 13, 26, 27, 28, 5, 29, 30, 31, 32, 33, 34, 35, 36, 37, 38, 39, 40, 41, 42, 43, 44, 45, 46, 47, 48, 49, 50, 51, 52, 53, 54, 55, 56, 57, 58, 59, 60, 61, 62, 63, 64, 65, 66, 67, 68, 69, 70, 71, 72, 73, 74, 75, 80, 81, 82, 83, 84, 85, 86, 87, 88, 89, 90, 91, 92, 93, 94, 95, 96, 97, 98, 99, 100, 101, 105, 106, 107, 108, 109, 110, 111, 112, 113, 114, 115, 116, 102, 103, 104, 117, 118, 119, 120, 121] (by decide +kernel) (by decide +kernel)
set_option maxRecDepth 20000 in
theorem gX7_best_X7_bestNow : GoodIn wsX7_best (wsV RX7 280 RX7 yX7_bestNow wsX7_bestNow) := goodIn_app (goodIn_of _ (by decide +kernel)) ggX7_best_X7_bestNow
set_option maxRecDepth 20000 in
theorem ggX7_best_X7_refuse : GoodIn wsX7_best wsX7_refuse := goodIn_r _ [79, 1, 80, 81, 82, 83, 84, 85, 86, 87, 88, 89, 90, 91, 92, 93, 94, 95, 96, 97, 98, 99, 100, 101] (by decide +kernel) (by decide +kernel)
set_option maxRecDepth 20000 in
theorem gX7_best_X7_refuse : GoodIn wsX7_best (wsV RX7 59 RX7 yX7_refuse wsX7_refuse) := goodIn_app (goodIn_of _ (by decide +kernel)) ggX7_best_X7_refuse
theorem dX7_best_0 : decode cX7_best 0 = .ok (.aload_n 0, 1) := by decide +kernel
theorem dX7_best_1 : decode cX7_best 1 = .ok (.iconst 0, 1) := by decide +kernel
theorem dX7_best_2 : decode cX7_best 2 = .ok (.putfield 39, 3) := by decide +kernel
theorem dX7_best_5 : decode cX7_best 5 = .ok (.aload_n 0, 1) := by decide +kernel
theorem dX7_best_6 : decode cX7_best 6 = .ok (.iload_n 1, 1) := by decide +kernel
theorem dX7_best_7 : decode cX7_best 7 = .ok (.invokevirtual 83, 3) := by decide +kernel
theorem dX7_best_10 : decode cX7_best 10 = .ok (.ifCond .eq 11, 3) := by decide +kernel
theorem dX7_best_13 : decode cX7_best 13 = .ok (.aload_n 0, 1) := by decide +kernel
theorem dX7_best_14 : decode cX7_best 14 = .ok (.iload_n 1, 1) := by decide +kernel
theorem dX7_best_15 : decode cX7_best 15 = .ok (.invokevirtual 280, 3) := by decide +kernel
theorem dX7_best_18 : decode cX7_best 18 = .ok (.goto 8, 3) := by decide +kernel
theorem dX7_best_21 : decode cX7_best 21 = .ok (.aload_n 0, 1) := by decide +kernel
theorem dX7_best_22 : decode cX7_best 22 = .ok (.iconst 1, 1) := by decide +kernel
theorem dX7_best_23 : decode cX7_best 23 = .ok (.invokevirtual 59, 3) := by decide +kernel
theorem dX7_best_26 : decode cX7_best 26 = .ok (.ireturn, 1) := by decide +kernel
set_option maxRecDepth 20000 in
theorem ggX7_reach_X7_isArcher : GoodIn wsX7_reach wsX7_isArcher := goodIn_r _ [14, 2, 15, 16, 17, 18, 19, 20, 21, 22, 13, 23, 60, 61, 62, 63, 64, 65, 66, 67, 68, 69, 70, 71, 72, 73, 74, 75, 76, 77, 78, 79, 80, 81, 94, 95, 96] (by decide +kernel) (by decide +kernel)
set_option maxRecDepth 20000 in
theorem gX7_reach_X7_isArcher : GoodIn wsX7_reach (wsV RX7 83 RX7 yX7_isArcher wsX7_isArcher) := goodIn_app (goodIn_of _ (by decide +kernel)) ggX7_reach_X7_isArcher
set_option maxRecDepth 20000 in
theorem ggX7_reach_X7_refuse : GoodIn wsX7_reach wsX7_refuse := goodIn_r _ [27, 1, 60, 61, 62, 63, 64, 65, 66, 67, 68, 69, 70, 71, 72, 73, 74, 75, 76, 77, 78, 79, 80, 81] (by decide +kernel) (by decide +kernel)
set_option maxRecDepth 20000 in
theorem gX7_reach_X7_refuse : GoodIn wsX7_reach (wsV RX7 59 RX7 yX7_refuse wsX7_refuse) := goodIn_app (goodIn_of _ (by decide +kernel)) ggX7_reach_X7_refuse
set_option maxRecDepth 20000 in
theorem ggX7_reach_X7_isReady : GoodIn wsX7_reach wsX7_isReady := goodIn_r _ [31, 2, 3, 32, 33, 34, 18, 35, 20, 36, 37, 38, 39, 40, 41, 42, 43, 44, 45, 46, 47, 48, 60, 61, 62, 63, 64, 65, 66, 67, 68, 69, 70, 71, 72, 73, 74, 75, 76, 77, 78, 79, 80, 81, 82, 83, 84, 85, 86, 87, 88, 89, 90, 91, 92, 93, 94, 95, 96] (by decide +kernel) (by decide +kernel)
set_option maxRecDepth 20000 in
theorem gX7_reach_X7_isReady : GoodIn wsX7_reach (wsV RX7 274 RX7 yX7_isReady wsX7_isReady) := goodIn_app (goodIn_of _ (by decide +kernel)) ggX7_reach_X7_isReady
set_option maxRecDepth 20000 in
theorem ggX7_reach_Jx4a65c_get_915e3 : GoodIn wsX7_reach wsJx4a65c_get_915e3 := goodIn_r _ [35, 20, 36, 37, 38, 39, 40, 41, 42, 43, 44, 45, 46, 18, 47, 48, 94, 95, 96] (by decide +kernel) (by decide +kernel)
set_option maxRecDepth 20000 in
theorem gX7_reach_Jx4a65c_get_915e3 : GoodIn wsX7_reach (wsV RX7 50 RJx4a65c yJx4a65c_get_915e3 wsJx4a65c_get_915e3) := goodIn_app (goodIn_of _ (by decide +kernel)) ggX7_reach_Jx4a65c_get_915e3
set_option maxRecDepth 20000 in
theorem ggX7_reach_X7_speedNow : GoodIn wsX7_reach wsX7_speedNow := goodIn_r _ [52, 53, 54, 32, 33, 34, 18, 35, 20, 36, 37, 38, 39, 40, 41, 42, 43, 44, 45, 46, 47, 48, 55, 56, 13, 57, 58, 59, 82, 83, 84, 85, 86, 87, 88, 89, 90, 91, 92, 93, 60, 61, 62, 63, 64, 65, 66, 67, 68, 69, 70, 71, 72, 73, 74, 75, 76, 77, 78, 79, 80, 81, 94, 95, 96, 97, 98, 99, 100, 101] (by decide +kernel) (by decide +kernel)
set_option maxRecDepth 20000 in
theorem gX7_reach_X7_speedNow : GoodIn wsX7_reach (wsV RX7 260 RX7 yX7_speedNow wsX7_speedNow) := goodIn_app (goodIn_of _ (by decide +kernel)) ggX7_reach_X7_speedNow
theorem dX7_reach_0 : decode cX7_reach 0 = .ok (.aload_n 0, 1) := by decide +kernel
theorem dX7_reach_1 : decode cX7_reach 1 = .ok (.iconst 0, 1) := by decide +kernel
theorem dX7_reach_2 : decode cX7_reach 2 = .ok (.putfield 39, 3) := by decide +kernel
theorem dX7_reach_5 : decode cX7_reach 5 = .ok (.aload_n 0, 1) := by decide +kernel
theorem dX7_reach_6 : decode cX7_reach 6 = .ok (.iload_n 1, 1) := by decide +kernel
theorem dX7_reach_7 : decode cX7_reach 7 = .ok (.invokevirtual 83, 3) := by decide +kernel
theorem dX7_reach_10 : decode cX7_reach 10 = .ok (.ifCond .ne 9, 3) := by decide +kernel
theorem dX7_reach_13 : decode cX7_reach 13 = .ok (.aload_n 0, 1) := by decide +kernel
theorem dX7_reach_14 : decode cX7_reach 14 = .ok (.iconst 1, 1) := by decide +kernel
theorem dX7_reach_15 : decode cX7_reach 15 = .ok (.invokevirtual 59, 3) := by decide +kernel
theorem dX7_reach_18 : decode cX7_reach 18 = .ok (.ireturn, 1) := by decide +kernel
theorem dX7_reach_19 : decode cX7_reach 19 = .ok (.aload_n 0, 1) := by decide +kernel
theorem dX7_reach_20 : decode cX7_reach 20 = .ok (.iload_n 1, 1) := by decide +kernel
theorem dX7_reach_21 : decode cX7_reach 21 = .ok (.invokevirtual 274, 3) := by decide +kernel
theorem dX7_reach_24 : decode cX7_reach 24 = .ok (.ifCond .ne 9, 3) := by decide +kernel
theorem dX7_reach_27 : decode cX7_reach 27 = .ok (.aload_n 0, 1) := by decide +kernel
theorem dX7_reach_28 : decode cX7_reach 28 = .ok (.iconst 2, 1) := by decide +kernel
theorem dX7_reach_29 : decode cX7_reach 29 = .ok (.invokevirtual 59, 3) := by decide +kernel
theorem dX7_reach_32 : decode cX7_reach 32 = .ok (.ireturn, 1) := by decide +kernel
theorem dX7_reach_33 : decode cX7_reach 33 = .ok (.aload_n 0, 1) := by decide +kernel
theorem dX7_reach_34 : decode cX7_reach 34 = .ok (.getfield 10, 3) := by decide +kernel
theorem dX7_reach_37 : decode cX7_reach 37 = .ok (.iload_n 1, 1) := by decide +kernel
theorem dX7_reach_38 : decode cX7_reach 38 = .ok (.invokevirtual 50, 3) := by decide +kernel
theorem dX7_reach_41 : decode cX7_reach 41 = .ok (.checkcast 54, 3) := by decide +kernel
theorem dX7_reach_44 : decode cX7_reach 44 = .ok (.astore_n 2, 1) := by decide +kernel
theorem dX7_reach_45 : decode cX7_reach 45 = .ok (.aload_n 0, 1) := by decide +kernel
theorem dX7_reach_46 : decode cX7_reach 46 = .ok (.aload_n 2, 1) := by decide +kernel
theorem dX7_reach_47 : decode cX7_reach 47 = .ok (.invokevirtual 260, 3) := by decide +kernel
theorem dX7_reach_50 : decode cX7_reach 50 = .ok (.dstore_n 3, 1) := by decide +kernel
theorem dX7_reach_51 : decode cX7_reach 51 = .ok (.dload_n 3, 1) := by decide +kernel
theorem dX7_reach_52 : decode cX7_reach 52 = .ok (.ldc2_w 283, 3) := by decide +kernel
theorem dX7_reach_55 : decode cX7_reach 55 = .ok (.dmul, 1) := by decide +kernel
theorem dX7_reach_56 : decode cX7_reach 56 = .ok (.ldc2_w 142, 3) := by decide +kernel
theorem dX7_reach_59 : decode cX7_reach 59 = .ok (.ddiv, 1) := by decide +kernel
theorem dX7_reach_60 : decode cX7_reach 60 = .ok (.aload_n 2, 1) := by decide +kernel
theorem dX7_reach_61 : decode cX7_reach 61 = .ok (.getfield 100, 3) := by decide +kernel
theorem dX7_reach_64 : decode cX7_reach 64 = .ok (.i2d, 1) := by decide +kernel
theorem dX7_reach_65 : decode cX7_reach 65 = .ok (.ldc2_w 144, 3) := by decide +kernel
theorem dX7_reach_68 : decode cX7_reach 68 = .ok (.ddiv, 1) := by decide +kernel
theorem dX7_reach_69 : decode cX7_reach 69 = .ok (.dadd, 1) := by decide +kernel
theorem dX7_reach_70 : decode cX7_reach 70 = .ok (.dstore 5, 2) := by decide +kernel
theorem dX7_reach_72 : decode cX7_reach 72 = .ok (.dconst 0, 1) := by decide +kernel
theorem dX7_reach_73 : decode cX7_reach 73 = .ok (.dstore 7, 2) := by decide +kernel
theorem dX7_reach_75 : decode cX7_reach 75 = .ok (.dconst 0, 1) := by decide +kernel
theorem dX7_reach_76 : decode cX7_reach 76 = .ok (.dstore 9, 2) := by decide +kernel
theorem dX7_reach_78 : decode cX7_reach 78 = .ok (.iconst (-1), 1) := by decide +kernel
theorem dX7_reach_79 : decode cX7_reach 79 = .ok (.istore 11, 2) := by decide +kernel
theorem dX7_reach_81 : decode cX7_reach 81 = .ok (.bipush 10, 2) := by decide +kernel
theorem dX7_reach_83 : decode cX7_reach 83 = .ok (.istore 12, 2) := by decide +kernel
theorem dX7_reach_85 : decode cX7_reach 85 = .ok (.iload 12, 2) := by decide +kernel
theorem dX7_reach_87 : decode cX7_reach 87 = .ok (.bipush 90, 2) := by decide +kernel
theorem dX7_reach_89 : decode cX7_reach 89 = .ok (.if_icmp .gt 73, 3) := by decide +kernel
theorem dX7_reach_92 : decode cX7_reach 92 = .ok (.dload 7, 2) := by decide +kernel
theorem dX7_reach_94 : decode cX7_reach 94 = .ok (.dload_n 3, 1) := by decide +kernel
theorem dX7_reach_95 : decode cX7_reach 95 = .ok (.ldc2_w 155, 3) := by decide +kernel
theorem dX7_reach_98 : decode cX7_reach 98 = .ok (.ddiv, 1) := by decide +kernel
theorem dX7_reach_99 : decode cX7_reach 99 = .ok (.dadd, 1) := by decide +kernel
theorem dX7_reach_100 : decode cX7_reach 100 = .ok (.dstore 7, 2) := by decide +kernel
theorem dX7_reach_102 : decode cX7_reach 102 = .ok (.dload 9, 2) := by decide +kernel
theorem dX7_reach_104 : decode cX7_reach 104 = .ok (.dload 5, 2) := by decide +kernel
theorem dX7_reach_106 : decode cX7_reach 106 = .ok (.ldc2_w 155, 3) := by decide +kernel
theorem dX7_reach_109 : decode cX7_reach 109 = .ok (.ddiv, 1) := by decide +kernel
theorem dX7_reach_110 : decode cX7_reach 110 = .ok (.dadd, 1) := by decide +kernel
theorem dX7_reach_111 : decode cX7_reach 111 = .ok (.dstore 9, 2) := by decide +kernel
theorem dX7_reach_113 : decode cX7_reach 113 = .ok (.dload_n 3, 1) := by decide +kernel
theorem dX7_reach_114 : decode cX7_reach 114 = .ok (.dload_n 3, 1) := by decide +kernel
theorem dX7_reach_115 : decode cX7_reach 115 = .ok (.ldc2_w 146, 3) := by decide +kernel
theorem dX7_reach_118 : decode cX7_reach 118 = .ok (.ddiv, 1) := by decide +kernel
theorem dX7_reach_119 : decode cX7_reach 119 = .ok (.dsub, 1) := by decide +kernel
theorem dX7_reach_120 : decode cX7_reach 120 = .ok (.dstore_n 3, 1) := by decide +kernel
theorem dX7_reach_121 : decode cX7_reach 121 = .ok (.dload 5, 2) := by decide +kernel
theorem dX7_reach_123 : decode cX7_reach 123 = .ok (.ldc2_w 157, 3) := by decide +kernel
theorem dX7_reach_126 : decode cX7_reach 126 = .ok (.dsub, 1) := by decide +kernel
theorem dX7_reach_127 : decode cX7_reach 127 = .ok (.dstore 5, 2) := by decide +kernel
theorem dX7_reach_129 : decode cX7_reach 129 = .ok (.iload 12, 2) := by decide +kernel
theorem dX7_reach_131 : decode cX7_reach 131 = .ok (.bipush 90, 2) := by decide +kernel
theorem dX7_reach_133 : decode cX7_reach 133 = .ok (.if_icmp .gt (-48), 3) := by decide +kernel
theorem dX7_reach_136 : decode cX7_reach 136 = .ok (.dload 7, 2) := by decide +kernel
theorem dX7_reach_138 : decode cX7_reach 138 = .ok (.iload 12, 2) := by decide +kernel
theorem dX7_reach_140 : decode cX7_reach 140 = .ok (.i2d, 1) := by decide +kernel
theorem dX7_reach_141 : decode cX7_reach 141 = .ok (.dcmp .l, 1) := by decide +kernel
theorem dX7_reach_142 : decode cX7_reach 142 = .ok (.ifCond .lt (-57), 3) := by decide +kernel
theorem dX7_reach_145 : decode cX7_reach 145 = .ok (.dload 9, 2) := by decide +kernel
theorem dX7_reach_147 : decode cX7_reach 147 = .ok (.dconst 0, 1) := by decide +kernel
theorem dX7_reach_148 : decode cX7_reach 148 = .ok (.dcmp .l, 1) := by decide +kernel
theorem dX7_reach_149 : decode cX7_reach 149 = .ok (.ifCond .lt 7, 3) := by decide +kernel
theorem dX7_reach_152 : decode cX7_reach 152 = .ok (.iload 12, 2) := by decide +kernel
theorem dX7_reach_154 : decode cX7_reach 154 = .ok (.istore 11, 2) := by decide +kernel
theorem dX7_reach_156 : decode cX7_reach 156 = .ok (.iinc 12 1, 3) := by decide +kernel
theorem dX7_reach_159 : decode cX7_reach 159 = .ok (.goto (-30), 3) := by decide +kernel
theorem dX7_reach_162 : decode cX7_reach 162 = .ok (.iload 11, 2) := by decide +kernel
theorem dX7_reach_164 : decode cX7_reach 164 = .ok (.ireturn, 1) := by decide +kernel
set_option maxRecDepth 20000 in
theorem ggX7_wouldScore_X7_isArcher : GoodIn wsX7_wouldScore wsX7_isArcher := goodIn_r _ [11, 2, 12, 13, 14, 15, 16, 17, 18, 19, 10, 20, 74, 75, 76, 77, 78, 79, 80, 81, 82, 83, 84, 85, 86, 87, 88, 89, 90, 91, 92, 93, 94, 95, 108, 109, 110] (by decide +kernel) (by decide +kernel)
set_option maxRecDepth 20000 in
theorem gX7_wouldScore_X7_isArcher : GoodIn wsX7_wouldScore (wsV RX7 83 RX7 yX7_isArcher wsX7_isArcher) := goodIn_app (goodIn_of _ (by decide +kernel)) ggX7_wouldScore_X7_isArcher
set_option maxRecDepth 20000 in
theorem ggX7_wouldScore_X7_refuse : GoodIn wsX7_wouldScore wsX7_refuse := goodIn_r _ [24, 1, 74, 75, 76, 77, 78, 79, 80, 81, 82, 83, 84, 85, 86, 87, 88, 89, 90, 91, 92, 93, 94, 95] (by decide +kernel) (by decide +kernel)
set_option maxRecDepth 20000 in
theorem gX7_wouldScore_X7_refuse : GoodIn wsX7_wouldScore (wsV RX7 59 RX7 yX7_refuse wsX7_refuse) := goodIn_app (goodIn_of _ (by decide +kernel)) ggX7_wouldScore_X7_refuse
set_option maxRecDepth 20000 in
theorem ggX7_wouldScore_X7_isReady : GoodIn wsX7_wouldScore wsX7_isReady := goodIn_r _ [28, 2, 3, 29, 30, 31, 15, 32, 17, 33, 34, 35, 36, 37, 38, 39, 40, 41, 42, 43, 44, 45, 74, 75, 76, 77, 78, 79, 80, 81, 82, 83, 84, 85, 86, 87, 88, 89, 90, 91, 92, 93, 94, 95, 96, 97, 98, 99, 100, 101, 102, 103, 104, 105, 106, 107, 108, 109, 110] (by decide +kernel) (by decide +kernel)
set_option maxRecDepth 20000 in
theorem gX7_wouldScore_X7_isReady : GoodIn wsX7_wouldScore (wsV RX7 274 RX7 yX7_isReady wsX7_isReady) := goodIn_app (goodIn_of _ (by decide +kernel)) ggX7_wouldScore_X7_isReady
set_option maxRecDepth 20000 in
theorem ggX7_wouldScore_Jx4a65c_get_915e3 : GoodIn wsX7_wouldScore wsJx4a65c_get_915e3 := goodIn_r _ [32, 17, 33, 34, 35, 36, 37, 38, 39, 40, 41, 42, 43, 15, 44, 45, 108, 109, 110] (by decide +kernel) (by decide +kernel)
set_option maxRecDepth 20000 in
theorem gX7_wouldScore_Jx4a65c_get_915e3 : GoodIn wsX7_wouldScore (wsV RX7 50 RJx4a65c yJx4a65c_get_915e3 wsJx4a65c_get_915e3) := goodIn_app (goodIn_of _ (by decide +kernel)) ggX7_wouldScore_Jx4a65c_get_915e3
set_option maxRecDepth 20000 in
theorem ggX7_wouldScore_X7_fly_ : GoodIn wsX7_wouldScore wsX7_fly_ := goodIn_r _ [49, 2, 3, 50, 51, 29, 30, 31, 15, 32, 17, 33, 34, 35, 36, 37, 38, 39, 40, 41, 42, 43, 44, 45, 52, 53, 54, 10, 55, 56, 57, 58, 5, 6, 59, 60, 61, 62, 63, 64, 65, 66, 67, 74, 75, 76, 77, 78, 79, 80, 81, 82, 83, 84, 85, 86, 87, 88, 89, 90, 91, 92, 93, 94, 95, 96, 97, 98, 99, 100, 101, 102, 103, 104, 105, 106, 107, 108, 109, 110, 111, 112, 113, 114, 115] (by decide +kernel) (by decide +kernel)
set_option maxRecDepth 20000 in
theorem gX7_wouldScore_X7_fly_ : GoodIn wsX7_wouldScore (wsV RX7 277 RX7 yX7_fly_ wsX7_fly_) := goodIn_app (goodIn_of _ (by decide +kernel)) ggX7_wouldScore_X7_fly_
set_option maxRecDepth 20000 in
theorem ggX7_wouldScore_X7_score : GoodIn wsX7_wouldScore wsX7_score := goodIn_r _ [71, 72, 62, 73, 74, 75, 76, 77, 78, 79, 80, 81, 82, 83, 84, 85, 86, 87, 88, 89, 90, 91, 92, 93, 94, 95] (by decide +kernel) (by decide +kernel)
set_option maxRecDepth 20000 in
theorem gX7_wouldScore_X7_score : GoodIn wsX7_wouldScore (wsV RX7 207 RX7 yX7_score wsX7_score) := goodIn_app (goodIn_of _ (by decide +kernel)) ggX7_wouldScore_X7_score
theorem dX7_wouldScore_0 : decode cX7_wouldScore 0 = .ok (.aload_n 0, 1) := by decide +kernel
theorem dX7_wouldScore_1 : decode cX7_wouldScore 1 = .ok (.iconst 0, 1) := by decide +kernel
theorem dX7_wouldScore_2 : decode cX7_wouldScore 2 = .ok (.putfield 39, 3) := by decide +kernel
theorem dX7_wouldScore_5 : decode cX7_wouldScore 5 = .ok (.aload_n 0, 1) := by decide +kernel
theorem dX7_wouldScore_6 : decode cX7_wouldScore 6 = .ok (.iload_n 1, 1) := by decide +kernel
theorem dX7_wouldScore_7 : decode cX7_wouldScore 7 = .ok (.invokevirtual 83, 3) := by decide +kernel
theorem dX7_wouldScore_10 : decode cX7_wouldScore 10 = .ok (.ifCond .ne 9, 3) := by decide +kernel
theorem dX7_wouldScore_13 : decode cX7_wouldScore 13 = .ok (.aload_n 0, 1) := by decide +kernel
theorem dX7_wouldScore_14 : decode cX7_wouldScore 14 = .ok (.iconst 1, 1) := by decide +kernel
theorem dX7_wouldScore_15 : decode cX7_wouldScore 15 = .ok (.invokevirtual 59, 3) := by decide +kernel
theorem dX7_wouldScore_18 : decode cX7_wouldScore 18 = .ok (.ireturn, 1) := by decide +kernel
theorem dX7_wouldScore_19 : decode cX7_wouldScore 19 = .ok (.aload_n 0, 1) := by decide +kernel
theorem dX7_wouldScore_20 : decode cX7_wouldScore 20 = .ok (.iload_n 1, 1) := by decide +kernel
theorem dX7_wouldScore_21 : decode cX7_wouldScore 21 = .ok (.invokevirtual 274, 3) := by decide +kernel
theorem dX7_wouldScore_24 : decode cX7_wouldScore 24 = .ok (.ifCond .ne 9, 3) := by decide +kernel
theorem dX7_wouldScore_27 : decode cX7_wouldScore 27 = .ok (.aload_n 0, 1) := by decide +kernel
theorem dX7_wouldScore_28 : decode cX7_wouldScore 28 = .ok (.iconst 2, 1) := by decide +kernel
theorem dX7_wouldScore_29 : decode cX7_wouldScore 29 = .ok (.invokevirtual 59, 3) := by decide +kernel
theorem dX7_wouldScore_32 : decode cX7_wouldScore 32 = .ok (.ireturn, 1) := by decide +kernel
theorem dX7_wouldScore_33 : decode cX7_wouldScore 33 = .ok (.aload_n 0, 1) := by decide +kernel
theorem dX7_wouldScore_34 : decode cX7_wouldScore 34 = .ok (.iload_n 1, 1) := by decide +kernel
theorem dX7_wouldScore_35 : decode cX7_wouldScore 35 = .ok (.aload_n 0, 1) := by decide +kernel
theorem dX7_wouldScore_36 : decode cX7_wouldScore 36 = .ok (.getfield 10, 3) := by decide +kernel
theorem dX7_wouldScore_39 : decode cX7_wouldScore 39 = .ok (.iload_n 1, 1) := by decide +kernel
theorem dX7_wouldScore_40 : decode cX7_wouldScore 40 = .ok (.invokevirtual 50, 3) := by decide +kernel
theorem dX7_wouldScore_43 : decode cX7_wouldScore 43 = .ok (.checkcast 54, 3) := by decide +kernel
theorem dX7_wouldScore_46 : decode cX7_wouldScore 46 = .ok (.getfield 97, 3) := by decide +kernel
theorem dX7_wouldScore_49 : decode cX7_wouldScore 49 = .ok (.aload_n 0, 1) := by decide +kernel
theorem dX7_wouldScore_50 : decode cX7_wouldScore 50 = .ok (.getfield 19, 3) := by decide +kernel
theorem dX7_wouldScore_53 : decode cX7_wouldScore 53 = .ok (.invokevirtual 277, 3) := by decide +kernel
theorem dX7_wouldScore_56 : decode cX7_wouldScore 56 = .ok (.aload_n 0, 1) := by decide +kernel
theorem dX7_wouldScore_57 : decode cX7_wouldScore 57 = .ok (.aload_n 0, 1) := by decide +kernel
theorem dX7_wouldScore_58 : decode cX7_wouldScore 58 = .ok (.getfield 148, 3) := by decide +kernel
theorem dX7_wouldScore_61 : decode cX7_wouldScore 61 = .ok (.aload_n 0, 1) := by decide +kernel
theorem dX7_wouldScore_62 : decode cX7_wouldScore 62 = .ok (.getfield 148, 3) := by decide +kernel
theorem dX7_wouldScore_65 : decode cX7_wouldScore 65 = .ok (.dmul, 1) := by decide +kernel
theorem dX7_wouldScore_66 : decode cX7_wouldScore 66 = .ok (.aload_n 0, 1) := by decide +kernel
theorem dX7_wouldScore_67 : decode cX7_wouldScore 67 = .ok (.getfield 152, 3) := by decide +kernel
theorem dX7_wouldScore_70 : decode cX7_wouldScore 70 = .ok (.aload_n 0, 1) := by decide +kernel
theorem dX7_wouldScore_71 : decode cX7_wouldScore 71 = .ok (.getfield 152, 3) := by decide +kernel
theorem dX7_wouldScore_74 : decode cX7_wouldScore 74 = .ok (.dmul, 1) := by decide +kernel
theorem dX7_wouldScore_75 : decode cX7_wouldScore 75 = .ok (.dadd, 1) := by decide +kernel
theorem dX7_wouldScore_76 : decode cX7_wouldScore 76 = .ok (.invokevirtual 207, 3) := by decide +kernel
theorem dX7_wouldScore_79 : decode cX7_wouldScore 79 = .ok (.ireturn, 1) := by decide +kernel
theorem dX7_add_0 : decode cX7_add 0 = .ok (.aload_n 0, 1) := by decide +kernel
theorem dX7_add_1 : decode cX7_add 1 = .ok (.aload_n 0, 1) := by decide +kernel
theorem dX7_add_2 : decode cX7_add 2 = .ok (.getfield 285, 3) := by decide +kernel
theorem dX7_add_5 : decode cX7_add 5 = .ok (.ldc2_w 289, 3) := by decide +kernel
theorem dX7_add_8 : decode cX7_add 8 = .ok (.lmul, 1) := by decide +kernel
theorem dX7_add_9 : decode cX7_add 9 = .ok (.lload_n 1, 1) := by decide +kernel
theorem dX7_add_10 : decode cX7_add 10 = .ok (.ladd, 1) := by decide +kernel
theorem dX7_add_11 : decode cX7_add 11 = .ok (.putfield 285, 3) := by decide +kernel
theorem dX7_add_14 : decode cX7_add 14 = .ok (.return_, 1) := by decide +kernel
set_option maxRecDepth 20000 in
theorem ggX7_digest_X7_manyNow : GoodIn wsX7_digest wsX7_manyNow := goodIn_r _ [15, 16, 5, 8, 17, 18, 19, 20, 21, 22, 23, 24, 25, 26, 27, 28, 29, 30, 31, 32, 33, 34, 14, 35, 10, 36, 37, 38, 39, 40, 41, 42, 43, 44, 45, 46, 47, 48, 49, 50, 51, 52, 53, 54, 55, 56, 57, 58, 59, 60, 61, 62, 63, 64, 65, 66, 67, 68, 69, 70, 71, 72, 73, 74, 75, 76, 77, 78, 79, 80, 164, 165, 166, 167, 168, 169, 170, 171, 172, 173, 174, 175, 176, 177, 178, 179, 180, 181, 182, 183, 184, 185, 191, 192, 193, 194, 195, 196, 197, 186, 187, 188, 189, 190] (by decide +kernel) (by decide +kernel)
set_option maxRecDepth 20000 in
theorem gX7_digest_X7_manyNow : GoodIn wsX7_digest (wsV RX7 268 RX7 yX7_manyNow wsX7_manyNow) := goodIn_app (goodIn_of _ (by decide +kernel)) ggX7_digest_X7_manyNow
set_option maxRecDepth 20000 in
theorem ggX7_digest_X7_add : GoodIn wsX7_digest wsX7_add := goodIn_r _ [84, 3, 85, 164, 165, 166, 167, 168, 169, 170, 171, 172, 173, 174, 175, 176, 177, 178, 179, 180, 181, 182, 183, 184, 185] (by decide +kernel) (by decide +kernel)
set_option maxRecDepth 20000 in
theorem gX7_digest_X7_add : GoodIn wsX7_digest (wsV RX7 293 RX7 yX7_add wsX7_add) := goodIn_app (goodIn_of _ (by decide +kernel)) ggX7_digest_X7_add
set_option maxRecDepth 20000 in
theorem ggX7_digest_X7_ofMatchNow : GoodIn wsX7_digest wsX7_ofMatchNow := goodIn_r _ [89, 16, 90, 91, 92, 93, 94, 95, 96, 97, 14, 98, 164, 165, 166, 167, 168, 169, 170, 171, 172, 173, 174, 175, 176, 177, 178, 179, 180, 181, 182, 183, 184, 185] (by decide +kernel) (by decide +kernel)
set_option maxRecDepth 20000 in
theorem gX7_digest_X7_ofMatchNow : GoodIn wsX7_digest (wsV RX7 271 RX7 yX7_ofMatchNow wsX7_ofMatchNow) := goodIn_app (goodIn_of _ (by decide +kernel)) ggX7_digest_X7_ofMatchNow
set_option maxRecDepth 20000 in
theorem ggX7_digest_Jx4a65c_size_8abf5 : GoodIn wsX7_digest wsJx4a65c_size_8abf5 := goodIn_r _ [30, 31, 191, 192, 193] (by decide +kernel) (by decide +kernel)
set_option maxRecDepth 20000 in
theorem gX7_digest_Jx4a65c_size_8abf5 : GoodIn wsX7_digest (wsV RX7 42 RJx4a65c yJx4a65c_size_8abf5 wsJx4a65c_size_8abf5) := goodIn_app (goodIn_of _ (by decide +kernel)) ggX7_digest_Jx4a65c_size_8abf5
set_option maxRecDepth 20000 in
theorem ggX7_digest_Jx4a65c_get_915e3 : GoodIn wsX7_digest wsJx4a65c_get_915e3 := goodIn_r _ [102, 31, 103, 104, 105, 106, 107, 108, 109, 110, 111, 112, 113, 29, 114, 115, 191, 192, 193] (by decide +kernel) (by decide +kernel)
set_option maxRecDepth 20000 in
theorem gX7_digest_Jx4a65c_get_915e3 : GoodIn wsX7_digest (wsV RX7 50 RJx4a65c yJx4a65c_get_915e3 wsJx4a65c_get_915e3) := goodIn_app (goodIn_of _ (by decide +kernel)) ggX7_digest_Jx4a65c_get_915e3
set_option maxRecDepth 20000 in
theorem ggX7_digest_X7_ofArcherNow : GoodIn wsX7_digest wsX7_ofArcherNow := goodIn_r _ [118, 16, 198, 199, 200, 201, 202, 203, 204, 205, 206, 207, 208, 209] (by decide +kernel) (by decide +kernel)
set_option maxRecDepth 20000 in
theorem gX7_digest_X7_ofArcherNow : GoodIn wsX7_digest (va_wsS RX7 256 yX7_ofArcherNow wsX7_ofArcherNow) := goodIn_app (goodIn_of _ (by decide +kernel)) ggX7_digest_X7_ofArcherNow
set_option maxRecDepth 20000 in
theorem ggX7_digest_X7_speedNow : GoodIn wsX7_digest wsX7_speedNow := goodIn_r _ [122, 8, 10, 99, 100, 101, 29, 102, 31, 103, 104, 105, 106, 107, 108, 109, 110, 111, 112, 113, 114, 115, 123, 124, 14, 125, 126, 127, 198, 199, 200, 201, 202, 203, 204, 205, 206, 207, 208, 209, 164, 165, 166, 167, 168, 169, 170, 171, 172, 173, 174, 175, 176, 177, 178, 179, 180, 181, 182, 183, 184, 185, 191, 192, 193, 186, 187, 188, 189, 190] (by decide +kernel) (by decide +kernel)
set_option maxRecDepth 20000 in
theorem gX7_digest_X7_speedNow : GoodIn wsX7_digest (wsV RX7 260 RX7 yX7_speedNow wsX7_speedNow) := goodIn_app (goodIn_of _ (by decide +kernel)) ggX7_digest_X7_speedNow
set_option maxRecDepth 20000 in
theorem ggX7_digest_X7_bestNow : GoodIn wsX7_digest wsX7_bestNow := goodIn_r _ [131, 8, 5, 6, 10, 17, 132, 26, 27, 28, 29, 30, 31, 133, 134, 135, 14, 136, 99, 100, 101, 102, 103, 104, 105, 106, 107, 108, 109, 110, 111, 112, 113, 114, 115, 137, 138, 139, 140, 141, 142, 143, 144, 145, 146, 18, 147, 123, 124, 125, 126, 127, 148, 149, 150, 151, 152, 153, 154, 155, 156, 157, 158, 159, 164, 165, 166, 167, 168, 169, 170, 171, 172, 173, 174, 175, 176, 177, 178, 179, 180, 181, 182, 183, 184, 185, 198, 199, 200, 201, 202, 203, 204, 205, 206, 207, 208, 209, 191, 192, 193, 186, 187, 188, 189, 190] (by decide +kernel) (by decide +kernel)
set_option maxRecDepth 20000 in
theorem gX7_digest_X7_bestNow : GoodIn wsX7_digest (wsV RX7 280 RX7 yX7_bestNow wsX7_bestNow) := goodIn_app (goodIn_of _ (by decide +kernel)) ggX7_digest_X7_bestNow
set_option maxRecDepth 20000 in
theorem ggX7_digest_X7_ofQuiverNow : GoodIn wsX7_digest wsX7_ofQuiverNow := goodIn_r _ [163, 8, 10, 99, 100, 101, 29, 102, 31, 103, 104, 105, 106, 107, 108, 109, 110, 111, 112, 113, 114, 115, 133, 134, 135, 14, 136, 5, 6, 26, 27, 28, 30, 68, 69, 70, 71, 72, 73, 164, 165, 166, 167, 168, 169, 170, 171, 172, 173, 174, 175, 176, 177, 178, 179, 180, 181, 182, 183, 184, 185, 186, 187, 188, 189, 190, 191, 192, 193, 198, 199, 200, 201, 202, 203, 204, 205, 206, 207, 208, 209] (by decide +kernel) (by decide +kernel)
set_option maxRecDepth 20000 in
theorem gX7_digest_X7_ofQuiverNow : GoodIn wsX7_digest (wsV RX7 264 RX7 yX7_ofQuiverNow wsX7_ofQuiverNow) := goodIn_app (goodIn_of _ (by decide +kernel)) ggX7_digest_X7_ofQuiverNow
theorem dX7_digest_0 : decode cX7_digest 0 = .ok (.aload_n 0, 1) := by decide +kernel
theorem dX7_digest_1 : decode cX7_digest 1 = .ok (.iconst 0, 1) := by decide +kernel
theorem dX7_digest_2 : decode cX7_digest 2 = .ok (.putfield 39, 3) := by decide +kernel
theorem dX7_digest_5 : decode cX7_digest 5 = .ok (.aload_n 0, 1) := by decide +kernel
theorem dX7_digest_6 : decode cX7_digest 6 = .ok (.ldc2_w 291, 3) := by decide +kernel
theorem dX7_digest_9 : decode cX7_digest 9 = .ok (.putfield 285, 3) := by decide +kernel
theorem dX7_digest_12 : decode cX7_digest 12 = .ok (.iconst 0, 1) := by decide +kernel
theorem dX7_digest_13 : decode cX7_digest 13 = .ok (.istore_n 1, 1) := by decide +kernel
theorem dX7_digest_14 : decode cX7_digest 14 = .ok (.iload_n 1, 1) := by decide +kernel
theorem dX7_digest_15 : decode cX7_digest 15 = .ok (.bipush 12, 2) := by decide +kernel
theorem dX7_digest_17 : decode cX7_digest 17 = .ok (.if_icmp .ge 19, 3) := by decide +kernel
theorem dX7_digest_20 : decode cX7_digest 20 = .ok (.aload_n 0, 1) := by decide +kernel
theorem dX7_digest_21 : decode cX7_digest 21 = .ok (.aload_n 0, 1) := by decide +kernel
theorem dX7_digest_22 : decode cX7_digest 22 = .ok (.iload_n 1, 1) := by decide +kernel
theorem dX7_digest_23 : decode cX7_digest 23 = .ok (.invokevirtual 268, 3) := by decide +kernel
theorem dX7_digest_26 : decode cX7_digest 26 = .ok (.i2l, 1) := by decide +kernel
theorem dX7_digest_27 : decode cX7_digest 27 = .ok (.invokevirtual 293, 3) := by decide +kernel
theorem dX7_digest_30 : decode cX7_digest 30 = .ok (.iinc 1 1, 3) := by decide +kernel
theorem dX7_digest_33 : decode cX7_digest 33 = .ok (.goto (-19), 3) := by decide +kernel
theorem dX7_digest_36 : decode cX7_digest 36 = .ok (.iconst 0, 1) := by decide +kernel
theorem dX7_digest_37 : decode cX7_digest 37 = .ok (.istore_n 1, 1) := by decide +kernel
theorem dX7_digest_38 : decode cX7_digest 38 = .ok (.iload_n 1, 1) := by decide +kernel
theorem dX7_digest_39 : decode cX7_digest 39 = .ok (.bipush 8, 2) := by decide +kernel
theorem dX7_digest_41 : decode cX7_digest 41 = .ok (.if_icmp .ge 19, 3) := by decide +kernel
theorem dX7_digest_44 : decode cX7_digest 44 = .ok (.aload_n 0, 1) := by decide +kernel
theorem dX7_digest_45 : decode cX7_digest 45 = .ok (.aload_n 0, 1) := by decide +kernel
theorem dX7_digest_46 : decode cX7_digest 46 = .ok (.iload_n 1, 1) := by decide +kernel
theorem dX7_digest_47 : decode cX7_digest 47 = .ok (.invokevirtual 271, 3) := by decide +kernel
theorem dX7_digest_50 : decode cX7_digest 50 = .ok (.i2l, 1) := by decide +kernel
theorem dX7_digest_51 : decode cX7_digest 51 = .ok (.invokevirtual 293, 3) := by decide +kernel
theorem dX7_digest_54 : decode cX7_digest 54 = .ok (.iinc 1 1, 3) := by decide +kernel
theorem dX7_digest_57 : decode cX7_digest 57 = .ok (.goto (-19), 3) := by decide +kernel
theorem dX7_digest_60 : decode cX7_digest 60 = .ok (.aload_n 0, 1) := by decide +kernel
theorem dX7_digest_61 : decode cX7_digest 61 = .ok (.aload_n 0, 1) := by decide +kernel
theorem dX7_digest_62 : decode cX7_digest 62 = .ok (.getfield 26, 3) := by decide +kernel
theorem dX7_digest_65 : decode cX7_digest 65 = .ok (.i2l, 1) := by decide +kernel
theorem dX7_digest_66 : decode cX7_digest 66 = .ok (.invokevirtual 293, 3) := by decide +kernel
theorem dX7_digest_69 : decode cX7_digest 69 = .ok (.iconst 0, 1) := by decide +kernel
theorem dX7_digest_70 : decode cX7_digest 70 = .ok (.istore_n 1, 1) := by decide +kernel
theorem dX7_digest_71 : decode cX7_digest 71 = .ok (.iload_n 1, 1) := by decide +kernel
theorem dX7_digest_72 : decode cX7_digest 72 = .ok (.aload_n 0, 1) := by decide +kernel
theorem dX7_digest_73 : decode cX7_digest 73 = .ok (.getfield 10, 3) := by decide +kernel
theorem dX7_digest_76 : decode cX7_digest 76 = .ok (.invokevirtual 42, 3) := by decide +kernel
theorem dX7_digest_79 : decode cX7_digest 79 = .ok (.if_icmp .ge 77, 3) := by decide +kernel
theorem dX7_digest_82 : decode cX7_digest 82 = .ok (.iconst 0, 1) := by decide +kernel
theorem dX7_digest_83 : decode cX7_digest 83 = .ok (.istore_n 2, 1) := by decide +kernel
theorem dX7_digest_84 : decode cX7_digest 84 = .ok (.iload_n 2, 1) := by decide +kernel
theorem dX7_digest_85 : decode cX7_digest 85 = .ok (.bipush 11, 2) := by decide +kernel
theorem dX7_digest_87 : decode cX7_digest 87 = .ok (.if_icmp .ge 29, 3) := by decide +kernel
theorem dX7_digest_90 : decode cX7_digest 90 = .ok (.aload_n 0, 1) := by decide +kernel
theorem dX7_digest_91 : decode cX7_digest 91 = .ok (.aload_n 0, 1) := by decide +kernel
theorem dX7_digest_92 : decode cX7_digest 92 = .ok (.getfield 10, 3) := by decide +kernel
theorem dX7_digest_95 : decode cX7_digest 95 = .ok (.iload_n 1, 1) := by decide +kernel
theorem dX7_digest_96 : decode cX7_digest 96 = .ok (.invokevirtual 50, 3) := by decide +kernel
theorem dX7_digest_99 : decode cX7_digest 99 = .ok (.checkcast 54, 3) := by decide +kernel
theorem dX7_digest_102 : decode cX7_digest 102 = .ok (.iload_n 2, 1) := by decide +kernel
theorem dX7_digest_103 : decode cX7_digest 103 = .ok (.invokestatic 256, 3) := by decide +kernel
theorem dX7_digest_106 : decode cX7_digest 106 = .ok (.i2l, 1) := by decide +kernel
theorem dX7_digest_107 : decode cX7_digest 107 = .ok (.invokevirtual 293, 3) := by decide +kernel
theorem dX7_digest_110 : decode cX7_digest 110 = .ok (.iinc 2 1, 3) := by decide +kernel
theorem dX7_digest_113 : decode cX7_digest 113 = .ok (.goto (-29), 3) := by decide +kernel
theorem dX7_digest_116 : decode cX7_digest 116 = .ok (.aload_n 0, 1) := by decide +kernel
theorem dX7_digest_117 : decode cX7_digest 117 = .ok (.ldc2_w 296, 3) := by decide +kernel
theorem dX7_digest_120 : decode cX7_digest 120 = .ok (.aload_n 0, 1) := by decide +kernel
theorem dX7_digest_121 : decode cX7_digest 121 = .ok (.aload_n 0, 1) := by decide +kernel
theorem dX7_digest_122 : decode cX7_digest 122 = .ok (.getfield 10, 3) := by decide +kernel
theorem dX7_digest_125 : decode cX7_digest 125 = .ok (.iload_n 1, 1) := by decide +kernel
theorem dX7_digest_126 : decode cX7_digest 126 = .ok (.invokevirtual 50, 3) := by decide +kernel
theorem dX7_digest_129 : decode cX7_digest 129 = .ok (.checkcast 54, 3) := by decide +kernel
theorem dX7_digest_132 : decode cX7_digest 132 = .ok (.invokevirtual 260, 3) := by decide +kernel
theorem dX7_digest_135 : decode cX7_digest 135 = .ok (.dmul, 1) := by decide +kernel
theorem dX7_digest_136 : decode cX7_digest 136 = .ok (.d2l, 1) := by decide +kernel
theorem dX7_digest_137 : decode cX7_digest 137 = .ok (.invokevirtual 293, 3) := by decide +kernel
theorem dX7_digest_140 : decode cX7_digest 140 = .ok (.aload_n 0, 1) := by decide +kernel
theorem dX7_digest_141 : decode cX7_digest 141 = .ok (.aload_n 0, 1) := by decide +kernel
theorem dX7_digest_142 : decode cX7_digest 142 = .ok (.iload_n 1, 1) := by decide +kernel
theorem dX7_digest_143 : decode cX7_digest 143 = .ok (.invokevirtual 280, 3) := by decide +kernel
theorem dX7_digest_146 : decode cX7_digest 146 = .ok (.i2l, 1) := by decide +kernel
theorem dX7_digest_147 : decode cX7_digest 147 = .ok (.invokevirtual 293, 3) := by decide +kernel
theorem dX7_digest_150 : decode cX7_digest 150 = .ok (.iinc 1 1, 3) := by decide +kernel
theorem dX7_digest_153 : decode cX7_digest 153 = .ok (.goto (-82), 3) := by decide +kernel
theorem dX7_digest_156 : decode cX7_digest 156 = .ok (.iconst 0, 1) := by decide +kernel
theorem dX7_digest_157 : decode cX7_digest 157 = .ok (.istore_n 1, 1) := by decide +kernel
theorem dX7_digest_158 : decode cX7_digest 158 = .ok (.iload_n 1, 1) := by decide +kernel
theorem dX7_digest_159 : decode cX7_digest 159 = .ok (.aload_n 0, 1) := by decide +kernel
theorem dX7_digest_160 : decode cX7_digest 160 = .ok (.getfield 16, 3) := by decide +kernel
theorem dX7_digest_163 : decode cX7_digest 163 = .ok (.invokevirtual 42, 3) := by decide +kernel
theorem dX7_digest_166 : decode cX7_digest 166 = .ok (.if_icmp .ge 98, 3) := by decide +kernel
theorem dX7_digest_169 : decode cX7_digest 169 = .ok (.iconst 0, 1) := by decide +kernel
theorem dX7_digest_170 : decode cX7_digest 170 = .ok (.istore_n 2, 1) := by decide +kernel
theorem dX7_digest_171 : decode cX7_digest 171 = .ok (.iload_n 2, 1) := by decide +kernel
theorem dX7_digest_172 : decode cX7_digest 172 = .ok (.bipush 7, 2) := by decide +kernel
theorem dX7_digest_174 : decode cX7_digest 174 = .ok (.if_icmp .ge 20, 3) := by decide +kernel
theorem dX7_digest_177 : decode cX7_digest 177 = .ok (.aload_n 0, 1) := by decide +kernel
theorem dX7_digest_178 : decode cX7_digest 178 = .ok (.aload_n 0, 1) := by decide +kernel
theorem dX7_digest_179 : decode cX7_digest 179 = .ok (.iload_n 1, 1) := by decide +kernel
theorem dX7_digest_180 : decode cX7_digest 180 = .ok (.iload_n 2, 1) := by decide +kernel
theorem dX7_digest_181 : decode cX7_digest 181 = .ok (.invokevirtual 264, 3) := by decide +kernel
theorem dX7_digest_184 : decode cX7_digest 184 = .ok (.i2l, 1) := by decide +kernel
theorem dX7_digest_185 : decode cX7_digest 185 = .ok (.invokevirtual 293, 3) := by decide +kernel
theorem dX7_digest_188 : decode cX7_digest 188 = .ok (.iinc 2 1, 3) := by decide +kernel
theorem dX7_digest_191 : decode cX7_digest 191 = .ok (.goto (-20), 3) := by decide +kernel
theorem dX7_digest_194 : decode cX7_digest 194 = .ok (.iconst 0, 1) := by decide +kernel
theorem dX7_digest_195 : decode cX7_digest 195 = .ok (.istore_n 2, 1) := by decide +kernel
theorem dX7_digest_196 : decode cX7_digest 196 = .ok (.iload_n 2, 1) := by decide +kernel
theorem dX7_digest_197 : decode cX7_digest 197 = .ok (.bipush 12, 2) := by decide +kernel
theorem dX7_digest_199 : decode cX7_digest 199 = .ok (.if_icmp .ge 59, 3) := by decide +kernel
theorem dX7_digest_202 : decode cX7_digest 202 = .ok (.aload_n 0, 1) := by decide +kernel
theorem dX7_digest_203 : decode cX7_digest 203 = .ok (.ldc2_w 202, 3) := by decide +kernel
theorem dX7_digest_206 : decode cX7_digest 206 = .ok (.aload_n 0, 1) := by decide +kernel
theorem dX7_digest_207 : decode cX7_digest 207 = .ok (.getfield 16, 3) := by decide +kernel
theorem dX7_digest_210 : decode cX7_digest 210 = .ok (.iload_n 1, 1) := by decide +kernel
theorem dX7_digest_211 : decode cX7_digest 211 = .ok (.invokevirtual 50, 3) := by decide +kernel
theorem dX7_digest_214 : decode cX7_digest 214 = .ok (.checkcast 74, 3) := by decide +kernel
theorem dX7_digest_217 : decode cX7_digest 217 = .ok (.getfield 166, 3) := by decide +kernel
theorem dX7_digest_220 : decode cX7_digest 220 = .ok (.iload_n 2, 1) := by decide +kernel
theorem dX7_digest_221 : decode cX7_digest 221 = .ok (.daload, 1) := by decide +kernel
theorem dX7_digest_222 : decode cX7_digest 222 = .ok (.dmul, 1) := by decide +kernel
theorem dX7_digest_223 : decode cX7_digest 223 = .ok (.d2l, 1) := by decide +kernel
theorem dX7_digest_224 : decode cX7_digest 224 = .ok (.invokevirtual 293, 3) := by decide +kernel
theorem dX7_digest_227 : decode cX7_digest 227 = .ok (.aload_n 0, 1) := by decide +kernel
theorem dX7_digest_228 : decode cX7_digest 228 = .ok (.ldc2_w 202, 3) := by decide +kernel
theorem dX7_digest_231 : decode cX7_digest 231 = .ok (.aload_n 0, 1) := by decide +kernel
theorem dX7_digest_232 : decode cX7_digest 232 = .ok (.getfield 16, 3) := by decide +kernel
theorem dX7_digest_235 : decode cX7_digest 235 = .ok (.iload_n 1, 1) := by decide +kernel
theorem dX7_digest_236 : decode cX7_digest 236 = .ok (.invokevirtual 50, 3) := by decide +kernel
theorem dX7_digest_239 : decode cX7_digest 239 = .ok (.checkcast 74, 3) := by decide +kernel
theorem dX7_digest_242 : decode cX7_digest 242 = .ok (.getfield 177, 3) := by decide +kernel
theorem dX7_digest_245 : decode cX7_digest 245 = .ok (.iload_n 2, 1) := by decide +kernel
theorem dX7_digest_246 : decode cX7_digest 246 = .ok (.daload, 1) := by decide +kernel
theorem dX7_digest_247 : decode cX7_digest 247 = .ok (.dmul, 1) := by decide +kernel
theorem dX7_digest_248 : decode cX7_digest 248 = .ok (.d2l, 1) := by decide +kernel
theorem dX7_digest_249 : decode cX7_digest 249 = .ok (.invokevirtual 293, 3) := by decide +kernel
theorem dX7_digest_252 : decode cX7_digest 252 = .ok (.iinc 2 1, 3) := by decide +kernel
theorem dX7_digest_255 : decode cX7_digest 255 = .ok (.goto (-59), 3) := by decide +kernel
theorem dX7_digest_258 : decode cX7_digest 258 = .ok (.iinc 1 1, 3) := by decide +kernel
theorem dX7_digest_261 : decode cX7_digest 261 = .ok (.goto (-103), 3) := by decide +kernel
theorem dX7_digest_264 : decode cX7_digest 264 = .ok (.aload_n 0, 1) := by decide +kernel
theorem dX7_digest_265 : decode cX7_digest 265 = .ok (.getfield 285, 3) := by decide +kernel
theorem dX7_digest_268 : decode cX7_digest 268 = .ok (.lreturn, 1) := by decide +kernel
theorem dJ6_bitCount_0f7a4_0 : decode cJ6_bitCount_0f7a4 0 = .ok (.iload_n 0, 1) := by decide +kernel
theorem dJ6_bitCount_0f7a4_1 : decode cJ6_bitCount_0f7a4 1 = .ok (.iload_n 0, 1) := by decide +kernel
theorem dJ6_bitCount_0f7a4_2 : decode cJ6_bitCount_0f7a4 2 = .ok (.iconst 1, 1) := by decide +kernel
theorem dJ6_bitCount_0f7a4_3 : decode cJ6_bitCount_0f7a4 3 = .ok (.iushr, 1) := by decide +kernel
theorem dJ6_bitCount_0f7a4_4 : decode cJ6_bitCount_0f7a4 4 = .ok (.ldc_w 265, 3) := by decide +kernel
theorem dJ6_bitCount_0f7a4_7 : decode cJ6_bitCount_0f7a4 7 = .ok (.iand, 1) := by decide +kernel
theorem dJ6_bitCount_0f7a4_8 : decode cJ6_bitCount_0f7a4 8 = .ok (.isub, 1) := by decide +kernel
theorem dJ6_bitCount_0f7a4_9 : decode cJ6_bitCount_0f7a4 9 = .ok (.istore_n 0, 1) := by decide +kernel
theorem dJ6_bitCount_0f7a4_10 : decode cJ6_bitCount_0f7a4 10 = .ok (.iload_n 0, 1) := by decide +kernel
theorem dJ6_bitCount_0f7a4_11 : decode cJ6_bitCount_0f7a4 11 = .ok (.ldc_w 266, 3) := by decide +kernel
theorem dJ6_bitCount_0f7a4_14 : decode cJ6_bitCount_0f7a4 14 = .ok (.iand, 1) := by decide +kernel
theorem dJ6_bitCount_0f7a4_15 : decode cJ6_bitCount_0f7a4 15 = .ok (.iload_n 0, 1) := by decide +kernel
theorem dJ6_bitCount_0f7a4_16 : decode cJ6_bitCount_0f7a4 16 = .ok (.iconst 2, 1) := by decide +kernel
theorem dJ6_bitCount_0f7a4_17 : decode cJ6_bitCount_0f7a4 17 = .ok (.iushr, 1) := by decide +kernel
theorem dJ6_bitCount_0f7a4_18 : decode cJ6_bitCount_0f7a4 18 = .ok (.ldc_w 266, 3) := by decide +kernel
theorem dJ6_bitCount_0f7a4_21 : decode cJ6_bitCount_0f7a4 21 = .ok (.iand, 1) := by decide +kernel
theorem dJ6_bitCount_0f7a4_22 : decode cJ6_bitCount_0f7a4 22 = .ok (.iadd, 1) := by decide +kernel
theorem dJ6_bitCount_0f7a4_23 : decode cJ6_bitCount_0f7a4 23 = .ok (.istore_n 0, 1) := by decide +kernel
theorem dJ6_bitCount_0f7a4_24 : decode cJ6_bitCount_0f7a4 24 = .ok (.iload_n 0, 1) := by decide +kernel
theorem dJ6_bitCount_0f7a4_25 : decode cJ6_bitCount_0f7a4 25 = .ok (.iload_n 0, 1) := by decide +kernel
theorem dJ6_bitCount_0f7a4_26 : decode cJ6_bitCount_0f7a4 26 = .ok (.iconst 4, 1) := by decide +kernel
theorem dJ6_bitCount_0f7a4_27 : decode cJ6_bitCount_0f7a4 27 = .ok (.iushr, 1) := by decide +kernel
theorem dJ6_bitCount_0f7a4_28 : decode cJ6_bitCount_0f7a4 28 = .ok (.iadd, 1) := by decide +kernel
theorem dJ6_bitCount_0f7a4_29 : decode cJ6_bitCount_0f7a4 29 = .ok (.ldc_w 267, 3) := by decide +kernel
theorem dJ6_bitCount_0f7a4_32 : decode cJ6_bitCount_0f7a4 32 = .ok (.iand, 1) := by decide +kernel
theorem dJ6_bitCount_0f7a4_33 : decode cJ6_bitCount_0f7a4 33 = .ok (.istore_n 0, 1) := by decide +kernel
theorem dJ6_bitCount_0f7a4_34 : decode cJ6_bitCount_0f7a4 34 = .ok (.iload_n 0, 1) := by decide +kernel
theorem dJ6_bitCount_0f7a4_35 : decode cJ6_bitCount_0f7a4 35 = .ok (.iload_n 0, 1) := by decide +kernel
theorem dJ6_bitCount_0f7a4_36 : decode cJ6_bitCount_0f7a4 36 = .ok (.bipush 8, 2) := by decide +kernel
theorem dJ6_bitCount_0f7a4_38 : decode cJ6_bitCount_0f7a4 38 = .ok (.iushr, 1) := by decide +kernel
theorem dJ6_bitCount_0f7a4_39 : decode cJ6_bitCount_0f7a4 39 = .ok (.iadd, 1) := by decide +kernel
theorem dJ6_bitCount_0f7a4_40 : decode cJ6_bitCount_0f7a4 40 = .ok (.istore_n 0, 1) := by decide +kernel
theorem dJ6_bitCount_0f7a4_41 : decode cJ6_bitCount_0f7a4 41 = .ok (.iload_n 0, 1) := by decide +kernel
theorem dJ6_bitCount_0f7a4_42 : decode cJ6_bitCount_0f7a4 42 = .ok (.iload_n 0, 1) := by decide +kernel
theorem dJ6_bitCount_0f7a4_43 : decode cJ6_bitCount_0f7a4 43 = .ok (.bipush 16, 2) := by decide +kernel
theorem dJ6_bitCount_0f7a4_45 : decode cJ6_bitCount_0f7a4 45 = .ok (.iushr, 1) := by decide +kernel
theorem dJ6_bitCount_0f7a4_46 : decode cJ6_bitCount_0f7a4 46 = .ok (.iadd, 1) := by decide +kernel
theorem dJ6_bitCount_0f7a4_47 : decode cJ6_bitCount_0f7a4 47 = .ok (.istore_n 0, 1) := by decide +kernel
theorem dJ6_bitCount_0f7a4_48 : decode cJ6_bitCount_0f7a4 48 = .ok (.iload_n 0, 1) := by decide +kernel
theorem dJ6_bitCount_0f7a4_49 : decode cJ6_bitCount_0f7a4 49 = .ok (.bipush 63, 2) := by decide +kernel
theorem dJ6_bitCount_0f7a4_51 : decode cJ6_bitCount_0f7a4 51 = .ok (.iand, 1) := by decide +kernel
theorem dJ6_bitCount_0f7a4_52 : decode cJ6_bitCount_0f7a4 52 = .ok (.ireturn, 1) := by decide +kernel
theorem dJ9_abs_294c1_0 : decode cJ9_abs_294c1 0 = .ok (.dload_n 0, 1) := by decide +kernel
